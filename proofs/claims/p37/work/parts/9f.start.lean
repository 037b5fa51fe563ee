/-! the law's start: the two constructors, run by the first executor up to the loop's head -/
noncomputable def xh_hk (F : ex_T → Nat → Nat → Nat → ex_L → List ex_V → ex_Me → Bool) (K : ex_K) : ex_K := fun T cd pc d mc ms lv st fs me pa => match fs with
  | [] => bif pc.beq 23 then F T d mc ms lv st me else K T cd pc d mc ms lv st [] me pa
  | f :: fs => K T cd pc d mc ms lv st (f :: fs) me pa
noncomputable def xh_run (mt : Nat → Option ex_T) (F : ex_T → Nat → Nat → Nat → ex_L → List ex_V → ex_Me → Bool) (n : Nat) : ex_K := Nat.rec (motive := fun _ => ex_K) (fun _ _ _ _ _ _ _ _ _ _ _ => false) (fun _ K T cd pc d mc ms lv st fs me pa => match cd with
  | (p, ins, _, nx, ex) :: cd => bif p.beq pc then ex_op ins mt (xh_hk F K) T cd pc nx ex d mc ms lv st fs me pa else false
  | [] => (match ex_look T pc with
    | (p, ins, _, nx, ex) :: cd => bif p.beq pc then ex_op ins mt (xh_hk F K) T cd pc nx ex d mc ms lv st fs me pa else false
    | [] => false)) n
def xh_Q (ρ : Nat → Int32) (mt : Nat → Option ex_T) (F : ex_T → Nat → Nat → Nat → ex_L → List ex_V → ex_Me → Bool) (n : Nat) (fs : List ex_Fr) (r : Option (Option Value)) (σ : am_S) : Prop := match fs with
  | [] => r = some (some (.int 1))
  | f :: fs => ∃ (m : Nat) (me : ex_Me) (pa : ex_Pa), m < n ∧ ex_P ρ pa ∧ ex_R ρ me σ ∧ ((∃ v : Option ex_V, r = some (v.map (ex_ev ρ)) ∧ xh_hk F (xh_run mt F m) f.1 f.2.1 f.2.2.1 f.2.2.2.1 f.2.2.2.2.1 f.2.2.2.2.2.1 f.2.2.2.2.2.2.1 (v.toList ++ f.2.2.2.2.2.2.2) fs me pa = true) ∨ (r = none ∧ f.1.1.2.2.2.2 ≠ [] ∧ ∃ (f2 : ex_Fr) (fs2 : List ex_Fr), fs = f2 :: fs2 ∧ xh_hk F (xh_run mt F m) f2.1 f2.2.1 f2.2.2.1 f2.2.2.2.1 f2.2.2.2.2.1 f2.2.2.2.2.2.1 f2.2.2.2.2.2.2.1 (.inl (.nest 1 .nil) :: f2.2.2.2.2.2.2.2) fs2 me pa = true))
theorem xh_Q_mono {ρ : Nat → Int32} {mt : Nat → Option ex_T} {F : ex_T → Nat → Nat → Nat → ex_L → List ex_V → ex_Me → Bool} {n n' : Nat} (h : n ≤ n') {fs : List ex_Fr} : ∀ r σ, xh_Q ρ mt F n fs r σ → xh_Q ρ mt F n' fs r σ := by
  intro r σ q
  match fs, q with
  | [], q => exact q
  | f :: fs, ⟨m, me, pa, h1, h2⟩ => exact ⟨m, me, pa, by omega, h2⟩
theorem xh_ok {g : am_C} {ρ : Nat → Int32} {mt : Nat → Option ex_T} (G : am_G g) {L : Nat} {xs : Nat → Int32} (hX : g.2.2.2.2.2.2 = am_X L xs) (hL : L ≤ 3072) (hρ : ∀ k, k < 100 → ρ k = xs k) (hρL : ρ 100 = Int32.ofNat L) (hmt : ∀ mi T, mt mi = some T → ex_tok mt T = true) {F : ex_T → Nat → Nat → Nat → ex_L → List ex_V → ex_Me → Bool} (hF : ∀ (T : ex_T) (d mc ms : Nat) (lv : ex_L) (st : List ex_V) (me : ex_Me) (σ : am_S), F T d mc ms lv st me = true → ex_R ρ me σ → am_K g d T.1 mc ms 23 (ex_lv ρ lv) (st.map (ex_ev ρ)) σ (fun r _ => r = some (some (.int 1)))) (n : Nat) :
    ∀ m, m ≤ n → ∀ (T : ex_T) (cd : List ex_E) (pc d mc ms : Nat) (lv : ex_L) (st : List ex_V) (fs : List ex_Fr) (me : ex_Me) (pa : ex_Pa) (σ : am_S), xh_hk F (xh_run mt F m) T cd pc d mc ms lv st fs me pa = true → ex_okF mt T cd → ex_P ρ pa → ex_R ρ me σ → am_K g d T.1 mc ms pc (ex_lv ρ lv) (st.map (ex_ev ρ)) σ (xh_Q ρ mt F m fs) := by
  have hook : ∀ (m : Nat) (T : ex_T) (cd : List ex_E) (pc d mc ms : Nat) (lv : ex_L) (st : List ex_V) (fs : List ex_Fr) (me : ex_Me) (pa : ex_Pa) (σ : am_S), xh_hk F (xh_run mt F m) T cd pc d mc ms lv st fs me pa = true → ex_R ρ me σ → am_K g d T.1 mc ms pc (ex_lv ρ lv) (st.map (ex_ev ρ)) σ (xh_Q ρ mt F m fs) ∨ xh_run mt F m T cd pc d mc ms lv st fs me pa = true := by
    intro m T cd pc d mc ms lv st fs me pa σ h hr
    match fs, h with
    | [], h =>
      have h' : (bif pc.beq 23 then F T d mc ms lv st me else xh_run mt F m T cd pc d mc ms lv st [] me pa) = true := h
      cases hb : pc.beq 23 with
      | true =>
        rw [hb] at h'
        have e := Nat.eq_of_beq_eq_true hb
        subst e
        exact Or.inl (hF T d mc ms lv st me σ h' hr)
      | false => rw [hb] at h'; exact Or.inr h'
    | f :: fs, h => exact Or.inr h
  induction n with
  | zero =>
    intro m hm T cd pc d mc ms lv st fs me pa σ h ok hp hr
    cases Nat.le_zero.mp hm
    rcases hook 0 T cd pc d mc ms lv st fs me pa σ h hr with q | q
    · exact q
    · exact Bool.noConfusion (show false = true from q)
  | succ n ih =>
    intro m hm
    by_cases hmn : m ≤ n
    · exact ih m hmn
    · have hm1 : m = n + 1 := by omega
      subst hm1
      intro T cd pc d mc ms lv st fs me pa σ h0 ok hp hr
      rcases hook (n + 1) T cd pc d mc ms lv st fs me pa σ h0 hr with q | h
      · exact q
      have C : ex_C g ρ mt (xh_hk F (xh_run mt F n)) (xh_Q ρ mt F (n + 1)) := by
        refine ⟨G, ⟨L, xs, hX, hL, hρ, hρL⟩, hmt, ?_, ?_, ?_, ?_, ?_, ?_⟩
        · intro T cd pc d mc ms lv st fs me pa σ h ok hp hr
          exact kr_mono (xh_Q_mono (by omega)) (ih n (Nat.le_refl n) T cd pc d mc ms lv st fs me pa σ h ok hp hr)
        · intro σ; rfl
        · intro T cd pc d mc ms lv st fs v me pa σ h hp hr
          exact ⟨n, me, pa, by omega, hp, hr, Or.inl ⟨v, rfl, h⟩⟩
        · intro f T cd pc d mc ms lv st fs me pa σ hh h hp hr
          exact ⟨n, me, pa, by omega, hp, hr, Or.inr ⟨rfl, hh, _, _, rfl, h⟩⟩
        · intro T cd pc d mc ms lv st fs v σ q ok
          obtain ⟨m, me, pa, h1, hp, hr, ⟨w, h2, h3⟩ | ⟨h2, -⟩⟩ := q
          · have hv : v = w.map (ex_ev ρ) := Option.some.inj h2
            have := kr_mono (xh_Q_mono (by omega : m ≤ n + 1)) (ih m (by omega) T cd pc d mc ms lv (w.toList ++ st) fs me pa σ h3 ok hp hr)
            rw [hv]
            cases w with
            | none => exact this
            | some w => exact this
          · cases h2
        · intro f fs σ q
          obtain ⟨m, me, pa, h1, hp, hr, ⟨w, h2, h3⟩ | ⟨-, hh, f2, fs2, hfs, h3⟩⟩ := q
          · cases h2
          · refine ⟨hh, ?_⟩
            subst hfs
            exact ⟨m, me, pa, h1, hp, hr, Or.inl ⟨some (.inl (.nest 1 .nil)), rfl, h3⟩⟩
      have go : ∀ (e : ex_E) (cd : List ex_E), (∀ z ∈ e :: cd, ex_chk mt T z = true) → (bif e.1.beq pc then ex_op e.2.1 mt (xh_hk F (xh_run mt F n)) T cd pc e.2.2.2.1 e.2.2.2.2 d mc ms lv st fs me pa else false) = true → am_K g d T.1 mc ms pc (ex_lv ρ lv) (st.map (ex_ev ρ)) σ (xh_Q ρ mt F (n + 1) fs) := by
        intro e cd hz hb
        cases hpc : e.1.beq pc with
        | false => rw [hpc] at hb; cases hb
        | true =>
          rw [hpc] at hb
          have e1 := Nat.eq_of_beq_eq_true hpc
          obtain ⟨a1, a2, a3, a4⟩ := ex_chk_at (hz e List.mem_cons_self)
          rw [e1] at a1 a3 a4
          exact ok_step C ⟨ok.1, fun z hz' => hz z (List.mem_cons_of_mem _ hz')⟩ hp hr a1 a2 a3 a4 hb
      match cd, ok, h with
      | e :: cd, ok, h => exact go e cd ok.2 h
      | [], ok, h =>
        have h' : (match ex_look T pc with
          | (p, ins, _, nx, ex) :: cd => bif p.beq pc then ex_op ins mt (xh_hk F (xh_run mt F n)) T cd pc nx ex d mc ms lv st fs me pa else false
          | [] => false) = true := h
        split at h'
        · rename_i p ins z nx ex cd hlook
          refine go (p, ins, z, nx, ex) cd ?_ h'
          rw [← hlook]
          exact ex_tok_at ok.1
        · cases h'
/-! what is looked at there: the memory is of the kinds -/
def xh_val (e : ex_F) (lo hi : Int) : Bool := match e with
  | .nil => sx_ile lo 0 && sx_ile 0 hi
  | .nest n .nil => sx_ile lo n && (sx_ile n hi && (sx_ile sx_lo n && sx_ile n sx_up))
  | _ => false
theorem xh_val_ok {ρ : Nat → Int32} {e : ex_F} {lo hi : Int} (h : xh_val e lo hi = true) : lo ≤ (ex_i ρ e).toInt ∧ (ex_i ρ e).toInt ≤ hi := by
  unfold xh_val at h
  split at h
  · rw [Bool.and_eq_true] at h
    exact ⟨sx_ile_iff.mp h.1, sx_ile_iff.mp h.2⟩
  · rename_i n
    simp only [Bool.and_eq_true] at h
    have e1 : (ex_i ρ (.nest n .nil)).toInt = n := sx_wrapI n (sx_ile_iff.mp h.2.2.1) (sx_ile_iff.mp h.2.2.2)
    rw [e1]
    exact ⟨sx_ile_iff.mp h.1, sx_ile_iff.mp h.2.1⟩
  · cases h
noncomputable def xh_sl (t : ex_F) (lo hi : Int) (n k : Nat) : Bool := Nat.rec (motive := fun _ => Nat → Bool) (fun _ => true) (fun _ ih k => xh_val (ex_get 16 t k) lo hi && ex_fN (k + 1) ih) n k
theorem xh_sl_ok {t : ex_F} {lo hi : Int} : ∀ {n k : Nat}, xh_sl t lo hi n k = true → ∀ j, j < n → xh_val (ex_get 16 t (k + j)) lo hi = true := by
  intro n
  induction n with
  | zero => intro k _ j hj; omega
  | succ n ih =>
    intro k h j hj
    have h' : (xh_val (ex_get 16 t k) lo hi && ex_fN (k + 1) (fun k => xh_sl t lo hi n k)) = true := h
    rw [Bool.and_eq_true, ex_fN_eq] at h'
    cases j with
    | zero => exact h'.1
    | succ j =>
      have := ih h'.2 j (by omega)
      rw [show k + (j + 1) = k + 1 + j by omega]
      exact this
def xh_nil (t : ex_F) : Bool := match t with
  | .nil => true
  | _ => false
theorem xh_nil_eq {t : ex_F} (h : xh_nil t = true) : t = .nil := by
  unfold xh_nil at h
  split at h
  · rfl
  · cases h
noncomputable def xh_sg (t : ex_F) (sg : sx_Sg) (k : Nat) : Bool := List.rec (motive := fun _ => Nat → Bool) (fun k => k.ble 65535) (fun q _ ih k => (bif xh_nil t then sx_ile q.2.1 0 && sx_ile 0 q.2.2.1 else xh_sl t q.2.1 q.2.2.1 q.1 k) && ex_fN (k + q.1) ih) sg k
theorem xh_sg_ok {ρ : Nat → Int32} {t : ex_F} : ∀ {sg : sx_Sg} {k : Nat}, xh_sg t sg k = true → k ≤ 65535 ∧ ∀ j lo hi u, sx_atl sg j = some (lo, hi, u) → k + j < 65535 ∧ lo ≤ (ex_i ρ (ex_get 16 t (k + j))).toInt ∧ (ex_i ρ (ex_get 16 t (k + j))).toInt ≤ hi := by
  intro sg
  induction sg with
  | nil => intro k h; exact ⟨ex_ble h, fun j lo hi u ha => by cases ha⟩
  | cons q sg ih =>
    intro k h
    obtain ⟨n, ql, qh, qu⟩ := q
    have h' : ((bif xh_nil t then sx_ile ql 0 && sx_ile 0 qh else xh_sl t ql qh n k) && ex_fN (k + n) (fun k => xh_sg t sg k)) = true := h
    rw [Bool.and_eq_true, ex_fN_eq] at h'
    obtain ⟨i1, i2⟩ := ih h'.2
    refine ⟨by omega, fun j lo hi u ha => ?_⟩
    unfold sx_atl at ha
    by_cases hj : j < n
    · rw [if_pos hj] at ha
      cases ha
      refine ⟨by omega, ?_⟩
      cases hn : xh_nil t with
      | true =>
        have h1 := h'.1
        rw [hn, cond_true, Bool.and_eq_true] at h1
        rw [xh_nil_eq hn, ex_get_nil]
        exact ⟨sx_ile_iff.mp h1.1, sx_ile_iff.mp h1.2⟩
      | false =>
        have h1 := h'.1
        rw [hn, cond_false] at h1
        exact xh_val_ok (xh_sl_ok h1 j hj)
    · rw [if_neg hj] at ha
      have := i2 (j - n) lo hi u ha
      rw [show k + n + (j - n) = k + j by omega] at this
      exact this
def xh_same (a b : ex_F) : Bool := match a, b with
  | .tag x .nil, .tag y .nil => x.beq y
  | .tag x (.tag n .nil), .tag y (.tag m .nil) => x.beq y && n.beq m
  | _, _ => false
theorem xh_same_eq {a b : ex_F} (h : xh_same a b = true) : a = b := by
  unfold xh_same at h
  split at h
  · rw [Nat.eq_of_beq_eq_true h]
  · rw [Bool.and_eq_true] at h
    rw [Nat.eq_of_beq_eq_true h.1, Nat.eq_of_beq_eq_true h.2]
  · cases h
noncomputable def xh_rs (rf : ex_F) (o : Nat) (l : List (Nat × Nat)) : Bool := List.rec (motive := fun _ => Bool) true (fun q _ ih => (match ex_rd rf o q.1 with
  | .tag r .nil => r.beq q.2
  | _ => false) && (q.1.blt 65535 && ih)) l
theorem xh_rs_ok {rf : ex_F} {o : Nat} : ∀ {l : List (Nat × Nat)}, xh_rs rf o l = true → ∀ k r, z9_r1 l k = some r → k < 65535 ∧ ex_rv (ex_rd rf o k) = .ref r := by
  intro l
  induction l with
  | nil => intro _ k r h; cases h
  | cons q l ih =>
    intro h k r hk
    have h' : ((match ex_rd rf o q.1 with
      | .tag r .nil => r.beq q.2
      | _ => false) && (q.1.blt 65535 && xh_rs rf o l)) = true := h
    have hk' : (bif q.1.beq k then some q.2 else z9_r1 l k) = some r := hk
    rw [Bool.and_eq_true, Bool.and_eq_true] at h'
    cases hb : q.1.beq k with
    | true =>
      rw [hb] at hk'
      cases hk'
      have e := Nat.eq_of_beq_eq_true hb
      subst e
      refine ⟨ex_blt h'.2.1, ?_⟩
      have h1 := h'.1
      split at h1
      · rename_i r hr
        rw [hr, ← Nat.eq_of_beq_eq_true h1]
        rfl
      · cases h1
    | false =>
      rw [hb] at hk'
      exact ih h'.2.2 k r hk'
noncomputable def xh_rl (o : Nat) : List (Nat × Nat) := match ex_nth z9_rl (o / 12) with
  | some l => (match ex_nth l (o % 12) with
    | some s => s
    | none => [])
  | none => []
theorem xh_rl_eq (o k : Nat) : z9_r o k = z9_r1 (xh_rl o) k := by
  unfold z9_r xh_rl
  cases ex_nth z9_rl (o / 12) with
  | none => rfl
  | some l =>
    simp only
    cases ex_nth l (o % 12) with
    | none => rfl
    | some s => rfl
noncomputable def xh_cell (me : ex_Me) (o : Nat) : Bool := xh_same (ex_get 16 me.2.2.1 o) (z9_s o) && (ex_fF (ex_get 16 me.2.2.2.1 o) (fun t => xh_sg t (z9_g o) 0) && xh_rs me.2.2.2.2.2 o (xh_rl o))
noncomputable def xh_cells (me : ex_Me) (n : Nat) : Bool := Nat.rec (motive := fun _ => Bool) true (fun m ih => xh_cell me m && ih) n
theorem xh_cells_ok {me : ex_Me} : ∀ {n : Nat}, xh_cells me n = true → ∀ o, o < n → xh_cell me o = true := by
  intro n
  induction n with
  | zero => intro _ o h; omega
  | succ n ih =>
    intro h o ho
    have h' : (xh_cell me n && xh_cells me n) = true := h
    rw [Bool.and_eq_true] at h'
    rcases Nat.lt_or_ge o n with q | q
    · exact ih h'.2 o q
    · rw [show o = n by omega]; exact h'.1
theorem xh_far {α : Type} {l : List (List α)} {o : Nat} (h1 : l.length ≤ 12) (h2 : ∀ a, l[11]? = some a → a.length ≤ 7) (ho : 139 ≤ o) {a : List α} {b : α} (ha : ex_nth l (o / 12) = some a) (hb : ex_nth a (o % 12) = some b) : False := by
  have q1 := ex_nth_get ha
  have q2 := ex_nth_get hb
  have q3 := (List.getElem?_eq_some_iff.mp q1).1
  have q4 := (List.getElem?_eq_some_iff.mp q2).1
  have e : o / 12 = 11 := by omega
  rw [e] at q1
  have := h2 a q1
  omega
theorem xh_out {o : Nat} (ho : 139 ≤ o) : z9_g o = [] ∧ z9_s o = .nil ∧ xh_rl o = [] := by
  refine ⟨?_, ?_, ?_⟩
  · unfold z9_g
    split
    · rename_i l hl
      split
      · rename_i s hs
        exact (xh_far (by decide) (fun a ha => by cases ha; decide) ho hl hs).elim
      · rfl
    · rfl
  · unfold z9_s
    split
    · rename_i l hl
      split
      · rename_i s hs
        exact (xh_far (by decide) (fun a ha => by cases ha; decide) ho hl hs).elim
      · rfl
    · rfl
  · unfold xh_rl
    split
    · rename_i l hl
      split
      · rename_i s hs
        exact (xh_far (by decide) (fun a ha => by cases ha; decide) ho hl hs).elim
      · rfl
    · rfl
/-- places that are alike, on either side -/
def xh_pairs : List (Nat × Nat) := [(65537, 7733250)] ++ (List.range 940).map (fun k => (131072 + k, 7798784 + k))
def xh_cs : List (Nat × Int) := [(262151, 0), (262152, 1), (589824, 10), (655360, 1), (7864320, 0), (7864321, 0), (720896, 1), (720897, 12), (720898, 6), (720899, 6), (720900, 0), (720901, 6), (720902, 3), (720903, 1), (7864374, 1), (7864375, 12), (7864376, 6), (7864377, 6), (7864378, 0), (7864379, 6), (7864380, 3), (7864381, 1), (5636099, 0), (6684675, 0), (8978432, 0), (8978433, 0), (4456465, 0), (4456466, 0), (4456467, 0)]
noncomputable def xh_mem (me : ex_Me) : Bool := xh_cells me 139 && (xh_nil (ex_get 16 me.2.2.2.1 125) && (xh_nil (ex_get 16 me.2.2.2.1 126) && (z9_c.all (fun c => xh_val (ex_rd me.2.2.2.1 c.2.1 c.2.2.1) sx_lo 0) && (z9_u.all (fun c => xh_val (ex_rd me.2.2.2.1 c.2.1 c.2.2.1) 0 0) && (xh_cs.all (fun q => xh_val (ex_rd me.2.2.2.1 (q.1 / 65536) (q.1 % 65536)) q.2 q.2 && ((q.1 / 65536).blt 65535 && (q.1 % 65536).blt 65535)) && xh_pairs.all (fun q => (xh_val (ex_rd me.2.2.2.1 (q.1 / 65536) (q.1 % 65536)) 0 0 && xh_val (ex_rd me.2.2.2.1 (q.2 / 65536) (q.2 % 65536)) 0 0) && ((q.1 / 65536).blt 65535 && ((q.1 % 65536).blt 65535 && ((q.2 / 65536).blt 65535 && (q.2 % 65536).blt 65535)))))))))
theorem xh_mem_ok {ρ : Nat → Int32} {me : ex_Me} {σ : am_S} (h : xh_mem me = true) (hr : ex_R ρ me σ) : sx_M z9 hd_C σ 0 0 σ ∧ (∀ q ∈ xh_pairs, σ.2.1 (q.1 / 65536) (q.1 % 65536) = σ.2.1 (q.2 / 65536) (q.2 % 65536)) ∧ ∀ q ∈ xh_cs, (σ.2.1 (q.1 / 65536) (q.1 % 65536)).toInt = q.2 := by
  unfold xh_mem at h
  simp only [Bool.and_eq_true] at h
  obtain ⟨c1, c2, c3, c4, c5, c7, c6⟩ := h
  have cell := xh_cells_ok c1
  have int9 : ∀ o k, o < 65535 → k < 65535 → σ.2.1 o k = ex_i ρ (ex_rd me.2.2.2.1 o k) := fun o k h1 h2 => (hr.2.2 o k h1 h2).1
  have at9 : ∀ (o k : Nat) (lo hi : Int) (u : Nat), sx_atl (z9.1 o) k = some (lo, hi, u) → o < 139 ∧ k < 65535 ∧ lo ≤ (σ.2.1 o k).toInt ∧ (σ.2.1 o k).toInt ≤ hi := by
    intro o k lo hi u ha
    have ha' : sx_atl (z9_g o) k = some (lo, hi, u) := ha
    rcases Nat.lt_or_ge o 139 with ho | ho
    · have q := cell o ho
      unfold xh_cell at q
      simp only [Bool.and_eq_true] at q
      obtain ⟨-, q2, -⟩ := q
      rw [ex_fF_eq] at q2
      obtain ⟨-, i2⟩ := xh_sg_ok (ρ := ρ) q2
      obtain ⟨j1, j2, j3⟩ := i2 k lo hi u ha'
      rw [Nat.zero_add] at j1 j2 j3
      refine ⟨ho, j1, ?_⟩
      rw [int9 o k (by omega) j1]
      exact ⟨j2, j3⟩
    · rw [(xh_out ho).1] at ha'
      cases ha'
  have zero : ∀ o k, o < 139 → k < 65535 → xh_nil (ex_get 16 me.2.2.2.1 o) = true → (σ.2.1 o k).toInt = 0 := by
    intro o k ho hk hn
    rw [int9 o k (by omega) hk]
    unfold ex_rd
    rw [xh_nil_eq hn, ex_get_nil]
    rfl
  have bd : ∀ (c : Nat), c < 11 → sx_bit 0 c = false := by decide
  refine ⟨⟨?_, ?_, fun o k lo hi u ha => (at9 o k lo hi u ha).2.2, ?_, fun _ _ _ _ _ _ _ => rfl, ?_, ?_, fun _ => rfl, fun _ => rfl⟩, ?_, ?_⟩
  · intro o s hs
    have hs' : ex_sh (z9_s o) = some s := hs
    rcases Nat.lt_or_ge o 139 with ho | ho
    · have q := cell o ho
      unfold xh_cell at q
      rw [Bool.and_eq_true] at q
      rw [← xh_same_eq q.1] at hs'
      exact hr.2.1 o s (by omega) hs'
    · rw [(xh_out ho).2.1] at hs'
      cases hs'
  · intro o k r hk
    have hk' : z9_r1 (xh_rl o) k = some r := by rw [← xh_rl_eq]; exact hk
    rcases Nat.lt_or_ge o 139 with ho | ho
    · have q := cell o ho
      unfold xh_cell at q
      simp only [Bool.and_eq_true] at q
      obtain ⟨-, -, q3⟩ := q
      obtain ⟨e1, e2⟩ := xh_rs_ok q3 k r hk'
      rw [(hr.2.2 o k (by omega) e1).2.2]
      exact e2
    · rw [(xh_out ho).2.2] at hk'
      cases hk'
  · intro o k lo hi u ha
    obtain ⟨b1, b2, -⟩ := at9 o k lo hi u ha
    show ((z9_m o).1 ≠ 0 → _) ∧ ((z9_m o).2.1 ≠ 0 → _)
    by_cases e1 : o = 126
    · subst e1
      refine ⟨fun _ => ?_, fun q => absurd rfl q⟩
      rw [zero 126 k (by omega) b2 c3]
      exact Int.natCast_nonneg _
    · by_cases e2 : o = 125
      · subst e2
        refine ⟨fun q => absurd rfl q, fun _ => ?_⟩
        rw [zero 125 k (by omega) b2 c2]
        have ha' : sx_atl [(15500, .ofNat 0, .ofNat 4300000, 474)] k = some (lo, hi, u) := ha
        unfold sx_atl at ha'
        by_cases hk : k < 15500
        · show (0 : Int) + ((250 : Nat) : Int) * (k : Int) ≤ 4300000
          omega
        · rw [if_neg hk] at ha'
          cases ha'
      · have e3 : z9_m o = (0, 0, .ofNat 0) := by
          unfold z9_m
          rw [ex_beq, ex_beq, decide_eq_false e1, decide_eq_false e2]
          rfl
        rw [e3]
        exact ⟨fun q => absurd rfl q, fun q => absurd rfl q⟩
  · intro c hc _ j hj hlt
    have q := List.all_eq_true.mp c4 c hc
    have lim : ∀ c ∈ z9_c, c.2.1 < 65535 ∧ c.2.2.1 < 65535 := by decide
    obtain ⟨l1, l2⟩ := lim c hc
    rw [int9 _ _ l1 l2] at hlt
    have := (xh_val_ok (ρ := ρ) q).2
    omega
  · have z : ∀ c ∈ z9_u, (σ.2.1 c.2.1 c.2.2.1).toInt = 0 := by
      intro c hc
      have q := List.all_eq_true.mp c5 c hc
      have lim : ∀ c ∈ z9_u, c.2.1 < 65535 ∧ c.2.2.1 < 65535 := by decide
      obtain ⟨l1, l2⟩ := lim c hc
      rw [int9 _ _ l1 l2]
      have := xh_val_ok (ρ := ρ) q
      omega
    intro c hc _
    exact hd_CsOk2.2.1 c hc σ (z c hc)
  · intro q hq
    have h9 := List.all_eq_true.mp c6 q hq
    simp only [Bool.and_eq_true] at h9
    obtain ⟨⟨v1, v2⟩, w1, w2, w3, w4⟩ := h9
    have q1 := xh_val_ok (ρ := ρ) v1
    have q2 := xh_val_ok (ρ := ρ) v2
    rw [← int9 _ _ (ex_blt w1) (ex_blt w2)] at q1
    rw [← int9 _ _ (ex_blt w3) (ex_blt w4)] at q2
    exact Int32.toInt_inj.mp (by omega)
  · intro q hq
    have h9 := List.all_eq_true.mp c7 q hq
    simp only [Bool.and_eq_true] at h9
    obtain ⟨v1, w1, w2⟩ := h9
    have q1 := xh_val_ok (ρ := ρ) v1
    rw [← int9 _ _ (ex_blt w1) (ex_blt w2)] at q1
    omega
/-! the law itself stands there -/
noncomputable def xh_bytes (a b : List UInt8) : Bool := List.rec (motive := fun _ => List UInt8 → Bool) (fun b => b.isEmpty) (fun x _ ih b => match b with
  | [] => false
  | y :: b => x.toNat.beq y.toNat && ih b) a b
theorem xh_bytes_eq : ∀ {a b : List UInt8}, xh_bytes a b = true → a = b := by
  intro a
  induction a with
  | nil =>
    intro b h
    cases b with
    | nil => rfl
    | cons => exact Bool.noConfusion (show false = true from h)
  | cons x a ih =>
    intro b h
    cases b with
    | nil => exact Bool.noConfusion (show false = true from h)
    | cons y b =>
      have h' : (x.toNat.beq y.toNat && xh_bytes a b) = true := h
      rw [Bool.and_eq_true] at h'
      rw [ih h'.2, UInt8.toNat_inj.mp (Nat.eq_of_beq_eq_true h'.1)]
noncomputable def xh_T (T : ex_T) : Bool := decide (T.1.1 = mL_law.1) && (xh_bytes T.1.2.1.data.toList mL_law.2.1.data.toList && (T.1.2.2.1.beq 7 && (decide (T.1.2.2.2.1 = mL_law.2.2.2.1) && T.1.2.2.2.2.isEmpty)))
theorem xh_T_eq {T : ex_T} (h : xh_T T = true) : T.1 = mL_law := by
  unfold xh_T at h
  simp only [Bool.and_eq_true] at h
  obtain ⟨h1, h2, h3, h4, h5⟩ := h
  obtain ⟨⟨t1, t2, t3, t4, t5⟩, T2⟩ := T
  have e1 : t1 = mL_law.1 := of_decide_eq_true h1
  have e2 : t2 = mL_law.2.1 := ByteArray.ext (Array.ext' (xh_bytes_eq h2))
  have e3 : t3 = 7 := Nat.eq_of_beq_eq_true h3
  have e4 : t4 = mL_law.2.2.2.1 := of_decide_eq_true h4
  have e5 : t5 = [] := by simpa using h5
  show (t1, t2, t3, t4, t5) = mL_law
  rw [e1, e2, e3, e4, e5]
noncomputable def xh_lv (lv : ex_L) : Bool := (match ex_fnd lv 0 with
  | some (.inr (.inr (.inr (some k)))) => k.beq 0
  | _ => false) && ((match ex_fnd lv 1 with
  | some (.inr (.inr (.inl o))) => o.beq 0
  | _ => false) && ((match ex_fnd lv 2 with
  | some (.inr (.inr (.inl o))) => o.beq 118
  | _ => false) && ((match ex_fnd lv 3 with
  | some (.inr (.inr (.inl o))) => o.beq 138
  | _ => false) && (match ex_fnd lv 4 with
  | some (.inl (.nest n .nil)) => sx_ieq n 0
  | _ => false))))
theorem xh_lvm {ρ : Nat → Int32} {lv : ex_L} {i : Nat} {v : ex_V} (h : ex_fnd lv i = some v) : (i, ex_ev ρ v) ∈ ex_lv ρ lv := by
  obtain ⟨j, hj⟩ := ex_fnd_ok h
  exact List.mem_of_getElem? (ex_lv_at hj)
theorem xh_lv_ok {ρ : Nat → Int32} {lv : ex_L} (h : xh_lv lv = true) : (0, Value.retAddr 0) ∈ ex_lv ρ lv ∧ (1, Value.ref 0) ∈ ex_lv ρ lv ∧ (2, Value.ref 118) ∈ ex_lv ρ lv ∧ (3, Value.ref 138) ∈ ex_lv ρ lv ∧ (4, Value.int 0) ∈ ex_lv ρ lv := by
  unfold xh_lv at h
  simp only [Bool.and_eq_true] at h
  obtain ⟨h0, h1, h2, h3, h4⟩ := h
  refine ⟨?_, ?_, ?_, ?_, ?_⟩
  · split at h0
    · rename_i k hk
      have e := Nat.eq_of_beq_eq_true h0
      subst e
      exact xh_lvm hk
    · cases h0
  · split at h1
    · rename_i k hk
      have e := Nat.eq_of_beq_eq_true h1
      subst e
      exact xh_lvm hk
    · cases h1
  · split at h2
    · rename_i k hk
      have e := Nat.eq_of_beq_eq_true h2
      subst e
      exact xh_lvm hk
    · cases h2
  · split at h3
    · rename_i k hk
      have e := Nat.eq_of_beq_eq_true h3
      subst e
      exact xh_lvm hk
    · cases h3
  · split at h4
    · rename_i k hk
      have e := sx_ieq_iff.mp h4
      subst e
      exact xh_lvm hk
    · cases h4
noncomputable def xh_F : ex_T → Nat → Nat → Nat → ex_L → List ex_V → ex_Me → Bool := fun T d mc ms lv st me => xh_T T && (Nat.ble 100 d && (Nat.ble 1026 mc && (Nat.ble 6156 ms && (st.isEmpty && (xh_lv lv && xh_mem me)))))
set_option maxRecDepth 1000000 in
theorem xh_law : xh_hk xh_F (xh_run ex_mt xh_F 3100) tL_law [] 0 100 601024 7293034 [(0, .inr (.inr (.inr (some 0))))] [] [] (0, false, .nil, .nil, .nil, .nil) [] = true := by decide +kernel
theorem xh_start {g : am_C} (G : am_G g) {L : Nat} {xs : Nat → Int32} (hX : g.2.2.2.2.2.2 = am_X L xs) (hL : L ≤ 3072) (next : ∀ σ, sx_M z9 hd_C σ 0 0 σ → (∀ q ∈ xh_pairs, σ.2.1 (q.1 / 65536) (q.1 % 65536) = σ.2.1 (q.2 / 65536) (q.2 % 65536)) → (∀ q ∈ xh_cs, (σ.2.1 (q.1 / 65536) (q.1 % 65536)).toInt = q.2) → am_K g 100 mL_law 1026 6156 23 [(4, .int 0), (0, .retAddr 0), (1, .ref 0), (2, .ref 118), (3, .ref 138)] [] σ (fun r _ => r = some (some (.int 1)))) : am_K g 100 mL_law 601024 7293034 0 [(0, .retAddr 0)] [] am_s0 (fun r _ => r = some (some (.int 1))) := by
  obtain ⟨ρ, hρd⟩ : ∃ ρ : Nat → Int32, ρ = fun k => if k = 100 then Int32.ofNat L else xs k := ⟨_, rfl⟩
  have hρ : ∀ k, k < 100 → ρ k = xs k := fun k hk => by rw [hρd]; exact if_neg (by omega)
  have hρL : ρ 100 = Int32.ofNat L := by rw [hρd]; rfl
  have hr : ex_R ρ (0, false, .nil, .nil, .nil, .nil) am_s0 := by
    refine ⟨fun _ => rfl, fun o y _ hy => ?_, fun o k _ _ => ?_⟩
    · have hy' : ex_sh (ex_get 16 .nil o) = some y := hy
      rw [ex_get_nil] at hy'
      cases hy'
    · have e : ex_rd .nil o k = .nil := by
        unfold ex_rd
        rw [ex_get_nil, ex_get_nil]
      refine ⟨?_, ?_, ?_⟩
      · show (0 : Int32) = ex_i ρ (ex_rd .nil o k)
        rw [e]; rfl
      · show (0 : Int64) = ex_j (ex_rd .nil o k)
        rw [e]; rfl
      · show Value.null = ex_rv (ex_rd .nil o k)
        rw [e]; rfl
  refine xh_ok (F := xh_F) G hX hL hρ hρL ex_mt_ok ?_ 3100 3100 (Nat.le_refl _) tL_law [] 0 100 601024 7293034 [(0, .inr (.inr (.inr (some 0))))] [] [] (0, false, .nil, .nil, .nil, .nil) [] am_s0 xh_law ⟨ex_mt_ok 0 tL_law rfl, fun e he => by cases he⟩ (fun q h => by cases h) hr
  intro T d mc ms lv st me σ h hr
  unfold xh_F at h
  simp only [Bool.and_eq_true] at h
  obtain ⟨h1, h2, h3, h4, h5, h6, h7⟩ := h
  have hst : st = [] := by simpa using h5
  subst hst
  obtain ⟨m1, m2, m3⟩ := xh_mem_ok h7 hr
  obtain ⟨l0, l1, l2, l3, l4⟩ := xh_lv_ok (ρ := ρ) h6
  rw [xh_T_eq h1]
  refine kr_less (ex_ble h2) (ex_ble h3) (ex_ble h4) (kr_sub (fun q hq => ?_) (next σ m1 m2 m3))
  simp only [List.mem_cons, List.not_mem_nil, or_false] at hq
  rcases hq with rfl | rfl | rfl | rfl | rfl
  · exact l4
  · exact l0
  · exact l1
  · exact l2
  · exact l3
