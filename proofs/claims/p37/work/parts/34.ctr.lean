/-! a contract is checked: a run from the entry, one from each loop's head -/
noncomputable def sx_mkl (src : List (Nat ⊕ Nat)) (w : Nat) (acc : sx_L) (K : sx_L → Bool) : Bool := List.rec (motive := fun _ => Nat → sx_L → Bool) (fun _ acc => K acc) (fun s _ ih w acc => ex_fN (w + 1) fun w1 => match s with
  | .inl i => ih w1 ((i, .inl (sx_w w)) :: acc)
  | .inr _ => ih w1 acc) src w acc
noncomputable def sx_mkt (src : List (Nat ⊕ Nat)) (w : Nat) (acc : sx_Tr) (K : sx_Tr → Bool) : Bool := List.rec (motive := fun _ => Nat → sx_Tr → Bool) (fun _ acc => K acc) (fun s _ ih w acc => ex_fN (w + 1) fun w1 => match s with
  | .inl _ => ih w1 acc
  | .inr key => ih w1 ((key, sx_w w) :: acc)) src w acc
noncomputable def sx_idk (n : Nat) (acc : List sx_e) (K : List sx_e → Bool) : Bool := Nat.rec (motive := fun _ => List sx_e → Bool) K (fun m ih acc => ih (sx_w m :: acc)) n acc
/-! clauses that were broken on the way hold again -/
noncomputable def sx_same2 (tr : sx_Tr) (k1 k2 : Nat) : Bool := sx_trg tr k1 (fun e => sx_trg tr k2 (fun f => sx_ieq e.1 f.1 && sx_sameA e.2 f.2) false) false
noncomputable def sx_blk (tr : sx_Tr) (n k1 k2 : Nat) : Bool := Nat.rec (motive := fun _ => Bool) true (fun m ih => (ex_fN (k1 + m) fun a => ex_fN (k2 + m) fun b => sx_same2 tr a b) && ih) n
noncomputable def sx_mend1 (cl : List sx_Cl) (me : sx_Me) (c : sx_Cl) : Bool := !sx_bit me.2.2.1 c.1 || (sx_trg me.2.2.2.1 (65536 * c.2.1 + c.2.2.1) (fun f => sx_in me.2.2.2.2 f sx_lo 0) false || List.rec (motive := fun _ => Bool) false (fun q _ ih => (!sx_bit me.2.2.1 q.1 && (q.2.2.2.2.beq c.2.2.2.2 && (sx_same2 me.2.2.2.1 (65536 * c.2.1 + c.2.2.1) (65536 * q.2.1 + q.2.2.1) && sx_blk me.2.2.2.1 c.2.2.2.2 (65536 * c.2.1 + c.2.2.2.1) (65536 * q.2.1 + q.2.2.2.1)))) || ih) cl)
noncomputable def sx_mend2 (cu : List (Nat × Nat × Nat × Nat)) (me : sx_Me) (c : Nat × Nat × Nat × Nat) : Bool := !sx_bit me.2.2.1 c.1 || (sx_trg me.2.2.2.1 (65536 * c.2.1 + c.2.2.1) (fun f => sx_in me.2.2.2.2 f 0 0) false || List.rec (motive := fun _ => Bool) false (fun q _ ih => (!sx_bit me.2.2.1 q.1 && ((q.2.2.2 - q.2.2.1).beq (c.2.2.2 - c.2.2.1) && sx_blk me.2.2.2.1 (c.2.2.2 - c.2.2.1) (65536 * c.2.1 + c.2.2.1) (65536 * q.2.1 + q.2.2.1))) || ih) cu)
noncomputable def sx_mend (Z : sx_Z) (me : sx_Me) : Bool := me.2.2.1.beq 0 || (List.rec (motive := fun _ => Bool) true (fun c _ ih => sx_mend1 Z.2.2.2.2.1 me c && ih) Z.2.2.2.2.1 && List.rec (motive := fun _ => Bool) true (fun c _ ih => sx_mend2 Z.2.2.2.2.2.1 me c && ih) Z.2.2.2.2.2.1)
/-! the end -/
noncomputable def sx_ret1 (Z : sx_Z) (n0 : Nat) (v : Option sx_V) (me : sx_Me) (p : sx_Po) : Bool := (Nat.lor me.2.1 p.1).beq p.1 && sx_bindk Z p.2.2.1 me fun me ks => sx_idk n0 [] fun ids => match v with
  | some (.inl e) => p.2.1 && sx_hold (ids ++ e :: ks) me.2.2.2.2 p.2.2.2
  | none => !p.2.1 && sx_hold (ids ++ ks) me.2.2.2.2 p.2.2.2
  | _ => false
noncomputable def sx_retk (Z : sx_Z) (n0 : Nat) (ps : List sx_Po) (v : Option sx_V) (me : sx_Me) : Bool := sx_mend Z me && List.rec (motive := fun _ => Bool) false (fun p _ ih => sx_ret1 Z n0 v me p || ih) ps
/-- at a loop's head -/
noncomputable def sx_cutk (Z : sx_Z) (n0 d0 : Nat) (old : Option sx_e) (c : sx_Cu) (d : Nat) (lv : sx_L) (st : List sx_V) (me : sx_Me) : Bool := d0.ble d && (st.isEmpty && ((Nat.lor me.2.1 c.2.1).beq c.2.1 && (me.2.2.1.beq 0 && (sx_refs lv c.2.2.1 && sx_bind Z lv c.2.2.2.1.1 me fun me θ => sx_idk n0 [] fun ids => sx_hold (ids ++ θ) me.2.2.2.2 c.2.2.2.1.2 && sx_sub (ids ++ θ) c.2.2.2.2.2 fun m => ex_fI (m.1 + c.2.2.2.2.1) fun m0 => (sx_negA m.2 fun r => ex_fI (-m0) fun c0 => sx_leq me.2.2.2.2 (c0, r)) && (match old with
  | none => true
  | some o => sx_lin (-1) o (m0 + 1, m.2) fun e => sx_leq me.2.2.2.2 e)))))
/-- the heads at a place: one of them must fit -/
noncomputable def sx_cuts (Z : sx_Z) (n0 d0 : Nat) (old : Option sx_e) (cus : List sx_Cu) (pc d : Nat) (lv : sx_L) (st : List sx_V) (me : sx_Me) : Bool := List.rec (motive := fun _ => Bool) false (fun c _ ih => (bif c.1.beq pc then sx_cutk Z n0 d0 old c d lv st me else false) || ih) cus
noncomputable def sx_cuth (Z : sx_Z) (n0 d0 : Nat) (old : Option sx_e) (cus : List sx_Cu) : sx_Hk := fun pc => List.rec (motive := fun _ => Option (Nat → sx_L → List sx_V → sx_Me → Bool)) none (fun c _ ih => bif c.1.beq pc then some (sx_cuts Z n0 d0 old cus pc) else ih) cus
noncomputable def sx_chkE (Z : sx_Z) (mt : Nat → Option ex_T) (ct : Nat → List sx_Ct) (T : ex_T) (n : Nat) (c : sx_Ct) (cus : List sx_Cu) (n0 : Nat) : Bool := sx_mkl c.2.2.2.2.2.1.1 0 c.2.2.2.2.1 fun lv => sx_mkt c.2.2.2.2.2.1.1 0 [] fun tr => sx_run Z mt ct c.1 none (sx_retk Z n0 c.2.2.2.2.2.2) (sx_cuth Z n0 c.2.1 none cus) n T [] 0 c.2.1 c.2.2.1 c.2.2.2.1 lv [] [] (n0, 0, 0, tr, c.2.2.2.2.2.1.2)
noncomputable def sx_chkC (Z : sx_Z) (mt : Nat → Option ex_T) (ct : Nat → List sx_Ct) (T : ex_T) (n : Nat) (c : sx_Ct) (cus : List sx_Cu) (n0 : Nat) (u : sx_Cu) : Bool := sx_mkl u.2.2.2.1.1 n0 u.2.2.1 fun lv => sx_mkt u.2.2.2.1.1 n0 [] fun tr => ex_fN (n0 + u.2.2.2.1.1.length) fun nw => sx_run Z mt ct c.1 none (sx_retk Z n0 c.2.2.2.2.2.2) (sx_cuth Z n0 c.2.1 (some u.2.2.2.2) cus) n T [] u.1 c.2.1 0 0 lv [] [] (nw, u.2.1, 0, tr, u.2.2.2.1.2)
noncomputable def sx_chk (Z : sx_Z) (mt : Nat → Option ex_T) (ct : Nat → List sx_Ct) (T : ex_T) (n : Nat) (c : sx_Ct) (cus : List sx_Cu) : Bool := ex_fN c.2.2.2.2.2.1.1.length fun n0 => sx_chkE Z mt ct T n c cus n0 && List.rec (motive := fun _ => Bool) true (fun u _ ih => sx_chkC Z mt ct T n c cus n0 u && ih) cus
/-! it is right -/
theorem sx_Srcs_len {lw : List (Nat × Value)} {σ : am_S} : ∀ {src : List (Nat ⊕ Nat)} {vs : List Int}, sx_Srcs lw σ src vs → src.length = vs.length
  | [], [], _ => rfl
  | _ :: _, _ :: _, ⟨_, h⟩ => by simp [sx_Srcs_len h]
  | [], _ :: _, h => h.elim
  | _ :: _, [], h => h.elim
theorem sx_ev_wat {env : List Int} {w : Nat} {v : Int} (h : env[w]? = some v) : sx_ev env (sx_w w) = some v := by
  rw [sx_ev_of (e := sx_w w) (sx_ea_mk (l := []) h rfl)]
  congr 1
  show (0 : Int) + (1 * v + 0) = v
  omega
theorem sx_mkl_ok {env : List Int} {lw : List (Nat × Value)} {σ : am_S} : ∀ {src : List (Nat ⊕ Nat)} {vs : List Int} {w : Nat} {acc : sx_L} {aw : List (Nat × Value)} {K : sx_L → Bool}, sx_Srcs lw σ src vs → (∀ j v, vs[j]? = some v → env[w + j]? = some v) → sx_LV env acc aw → (∀ q ∈ aw, q ∈ lw) → sx_mkl src w acc K = true → ∃ l lw', sx_LV env l lw' ∧ (∀ q ∈ lw', q ∈ lw) ∧ K l = true := by
  intro src
  induction src with
  | nil => intro vs w acc aw K _ _ h1 h2 h; exact ⟨acc, aw, h1, h2, h⟩
  | cons s t ih =>
    intro vs w acc aw K hs he h1 h2 h
    cases vs with
    | nil => exact hs.elim
    | cons v vs =>
      have he' : ∀ j u, vs[j]? = some u → env[w + 1 + j]? = some u := by
        intro j u hu
        have := he (j + 1) u hu
        rw [show w + 1 + j = w + (j + 1) by omega]
        exact this
      match s, hs, h with
      | .inl i, hs, h =>
        have h' : (ex_fN (w + 1) fun w1 => sx_mkl t w1 ((i, .inl (sx_w w)) :: acc) K) = true := h
        rw [ex_fN_eq] at h'
        obtain ⟨⟨n, n1, n2⟩, hs2⟩ := hs
        refine ih (acc := (i, .inl (sx_w w)) :: acc) (aw := (i, .int n) :: aw) hs2 he' ⟨rfl, ⟨n, rfl, ?_⟩, h1⟩ (fun q hq => ?_) h'
        · rw [← n2]
          exact sx_ev_wat (he 0 v rfl)
        · rcases List.mem_cons.mp hq with rfl | hq
          · exact n1
          · exact h2 q hq
      | .inr key, hs, h =>
        have h' : (ex_fN (w + 1) fun w1 => sx_mkl t w1 acc K) = true := h
        rw [ex_fN_eq] at h'
        exact ih hs.2 he' h1 h2 h'
theorem sx_mkt_ok {env : List Int} {lw : List (Nat × Value)} {σ : am_S} : ∀ {src : List (Nat ⊕ Nat)} {vs : List Int} {w : Nat} {acc : sx_Tr} {K : sx_Tr → Bool}, sx_Srcs lw σ src vs → (∀ j v, vs[j]? = some v → env[w + j]? = some v) → (∀ q ∈ acc, sx_ev env q.2 = some (σ.2.1 (q.1 / 65536) (q.1 % 65536)).toInt) → sx_mkt src w acc K = true → ∃ l, (∀ q ∈ l, sx_ev env q.2 = some (σ.2.1 (q.1 / 65536) (q.1 % 65536)).toInt) ∧ K l = true := by
  intro src
  induction src with
  | nil => intro vs w acc K _ _ h1 h; exact ⟨acc, h1, h⟩
  | cons s t ih =>
    intro vs w acc K hs he h1 h
    cases vs with
    | nil => exact hs.elim
    | cons v vs =>
      have he' : ∀ j u, vs[j]? = some u → env[w + 1 + j]? = some u := by
        intro j u hu
        have := he (j + 1) u hu
        rw [show w + 1 + j = w + (j + 1) by omega]
        exact this
      match s, hs, h with
      | .inl i, hs, h =>
        have h' : (ex_fN (w + 1) fun w1 => sx_mkt t w1 acc K) = true := h
        rw [ex_fN_eq] at h'
        exact ih hs.2 he' h1 h'
      | .inr key, hs, h =>
        have h' : (ex_fN (w + 1) fun w1 => sx_mkt t w1 ((key, sx_w w) :: acc) K) = true := h
        rw [ex_fN_eq] at h'
        refine ih hs.2 he' (fun q hq => ?_) h'
        rcases List.mem_cons.mp hq with rfl | hq
        · have e : v = (σ.2.1 (key / 65536) (key % 65536)).toInt := hs.1
          rw [← e]
          exact sx_ev_wat (he 0 v rfl)
        · exact h1 q hq
theorem sx_Refs_lv {lw : List (Nat × Value)} (env : List Int) : ∀ {rs : sx_L}, sx_Refs lw rs → ∃ lw', sx_LV env rs lw' ∧ ∀ q ∈ lw', q ∈ lw := by
  intro rs
  induction rs with
  | nil => intro _; exact ⟨[], trivial, fun q hq => (by cases hq)⟩
  | cons q t ih =>
    intro h
    obtain ⟨lw', h1, h2⟩ := ih (fun z hz => h z (List.mem_cons_of_mem _ hz))
    obtain ⟨v, v1, v2⟩ := h q List.mem_cons_self
    refine ⟨(q.1, v) :: lw', ⟨rfl, ?_, h1⟩, fun z hz => ?_⟩
    · have := v2.app env
      rw [List.nil_append] at this
      exact this
    · rcases List.mem_cons.mp hz with rfl | hz
      · exact v1
      · exact h2 z hz
theorem sx_idk_ok {env : List Int} {K : List sx_e → Bool} : ∀ {n : Nat} {acc : List sx_e} {vs : List Int}, n ≤ env.length → sx_Th env acc vs → sx_idk n acc K = true → ∃ ids, sx_Th env ids (env.take n ++ vs) ∧ K ids = true := by
  intro n
  induction n with
  | zero => intro acc vs _ h1 h; exact ⟨acc, by simpa using h1, h⟩
  | succ m ih =>
    intro acc vs hn h1 h
    have h' : sx_idk m (sx_w m :: acc) K = true := h
    have hm : env[m]? = some env[m] := List.getElem?_eq_getElem (by omega)
    obtain ⟨ids, a1, a2⟩ := ih (acc := sx_w m :: acc) (vs := env[m] :: vs) (by omega) ⟨sx_ev_wat hm, h1⟩ h'
    refine ⟨ids, ?_, a2⟩
    rw [List.take_add_one, hm]
    simp only [Option.toList_some, List.append_assoc, List.singleton_append]
    exact a1
theorem sx_same2_ok {env : List Int} {tr : sx_Tr} {σ : am_S} (ht : ∀ q ∈ tr, sx_ev env q.2 = some (σ.2.1 (q.1 / 65536) (q.1 % 65536)).toInt) {k1 k2 : Nat} (h : sx_same2 tr k1 k2 = true) : σ.2.1 (k1 / 65536) (k1 % 65536) = σ.2.1 (k2 / 65536) (k2 % 65536) := by
  unfold sx_same2 at h
  rcases sx_trg_ok h with ⟨e, e1, e2⟩ | e1
  · rcases sx_trg_ok e2 with ⟨f, f1, f2⟩ | f1
    · rw [Bool.and_eq_true] at f2
      have h1 := ht _ e1
      have h2 := ht _ f1
      have he : e = f := Prod.ext (sx_ieq_iff.mp f2.1) (sx_sameA_eq f2.2)
      simp only at h1 h2
      rw [he, h2] at h1
      exact Int32.toInt_inj.mp (Option.some.inj h1).symm
    · cases f1
  · cases e1
theorem sx_blk_ok {env : List Int} {tr : sx_Tr} {σ : am_S} (ht : ∀ q ∈ tr, sx_ev env q.2 = some (σ.2.1 (q.1 / 65536) (q.1 % 65536)).toInt) {k1 k2 : Nat} : ∀ {n : Nat}, sx_blk tr n k1 k2 = true → ∀ j, j < n → σ.2.1 ((k1 + j) / 65536) ((k1 + j) % 65536) = σ.2.1 ((k2 + j) / 65536) ((k2 + j) % 65536) := by
  intro n
  induction n with
  | zero => intro _ j hj; omega
  | succ m ih =>
    intro h j hj
    have h' : ((ex_fN (k1 + m) fun a => ex_fN (k2 + m) fun b => sx_same2 tr a b) && sx_blk tr m k1 k2) = true := h
    rw [Bool.and_eq_true, ex_fN_eq, ex_fN_eq] at h'
    by_cases e : j = m
    · rw [e]; exact sx_same2_ok ht h'.1
    · exact ih h'.2 j (by omega)
/-- what is asked of the other clauses: with 0 at their first slot they hold; what is copied holds -/
def sx_CsOk2 (Z : sx_Z) (Cs : Nat → am_S → Prop) : Prop := (∀ c ∈ Z.2.2.2.2.2.1, c.2.2.1 < c.2.2.2 ∧ c.2.2.2 ≤ 65536) ∧ (∀ c ∈ Z.2.2.2.2.2.1, ∀ σ : am_S, (σ.2.1 c.2.1 c.2.2.1).toInt = 0 → Cs c.1 σ) ∧ ∀ c ∈ Z.2.2.2.2.2.1, ∀ q ∈ Z.2.2.2.2.2.1, ∀ σ : am_S, q.2.2.2 - q.2.2.1 = c.2.2.2 - c.2.2.1 → (∀ j, j < c.2.2.2 - c.2.2.1 → σ.2.1 c.2.1 (c.2.2.1 + j) = σ.2.1 q.2.1 (q.2.2.1 + j)) → Cs q.1 σ → Cs c.1 σ
section ZG
variable {Z : sx_Z} {Cs : Nat → am_S → Prop} {σe σ : am_S} {env : List Int} {me : sx_Me}
theorem sx_mend_ok (hZ : sx_Zok Z) (hC : sx_CsOk2 Z Cs) (hr : sx_R Z Cs σe env me σ) (h : sx_mend Z me = true) : sx_M Z Cs σe me.2.1 0 σ := by
  obtain ⟨m1, m2, m3, m4, m5, m6, m7, m8⟩ := hr.2.2.2
  unfold sx_mend at h
  rcases (Bool.or_eq_true _ _).mp h with h0 | h0
  · rw [Nat.eq_of_beq_eq_true h0] at m6 m7
    exact ⟨m1, m2, m3, m4, m5, m6, m7, m8⟩
  · rw [Bool.and_eq_true] at h0
    have all1 : ∀ cl : List sx_Cl, List.rec (motive := fun _ => Bool) true (fun c _ ih => sx_mend1 Z.2.2.2.2.1 me c && ih) cl = true → ∀ c ∈ cl, sx_mend1 Z.2.2.2.2.1 me c = true := by
      intro cl
      induction cl with
      | nil => intro _ c hc; cases hc
      | cons q t ih =>
        intro h c hc
        have h' := (Bool.and_eq_true _ _).mp h
        rcases List.mem_cons.mp hc with rfl | hc
        · exact h'.1
        · exact ih h'.2 c hc
    have all2 : ∀ cu : List (Nat × Nat × Nat × Nat), List.rec (motive := fun _ => Bool) true (fun c _ ih => sx_mend2 Z.2.2.2.2.2.1 me c && ih) cu = true → ∀ c ∈ cu, sx_mend2 Z.2.2.2.2.2.1 me c = true := by
      intro cl
      induction cl with
      | nil => intro _ c hc; cases hc
      | cons q t ih =>
        intro h c hc
        have h' := (Bool.and_eq_true _ _).mp h
        rcases List.mem_cons.mp hc with rfl | hc
        · exact h'.1
        · exact ih h'.2 c hc
    refine ⟨m1, m2, m3, m4, m5, fun c hc _ => ?_, fun c hc _ => ?_, m8⟩
    · have hm := all1 _ h0.1 c hc
      have hz := hZ c hc
      unfold sx_mend1 at hm
      rcases (Bool.or_eq_true _ _).mp hm with g | g
      · exact m6 c hc (by simpa using g)
      · rcases (Bool.or_eq_true _ _).mp g with g | g
        · rcases sx_trg_ok g with ⟨f, f1, f2⟩ | f1
          · have := (sx_in_ok hr.2.2.1 (hr.at hz.1 f1) f2).2
            intro j hj hlt
            omega
          · cases f1
        · have any : ∀ cl : List sx_Cl, (∀ q ∈ cl, q ∈ Z.2.2.2.2.1) → List.rec (motive := fun _ => Bool) false (fun q _ ih => (!sx_bit me.2.2.1 q.1 && (q.2.2.2.2.beq c.2.2.2.2 && (sx_same2 me.2.2.2.1 (65536 * c.2.1 + c.2.2.1) (65536 * q.2.1 + q.2.2.1) && sx_blk me.2.2.2.1 c.2.2.2.2 (65536 * c.2.1 + c.2.2.2.1) (65536 * q.2.1 + q.2.2.2.1)))) || ih) cl = true → sx_c0 c σ := by
            intro cl
            induction cl with
            | nil => intro _ h; cases h
            | cons q t ih =>
              intro hm h
              rcases (Bool.or_eq_true _ _).mp h with h1 | h1
              · simp only [Bool.and_eq_true] at h1
                obtain ⟨b1, b2, b3, b4⟩ := h1
                have hq := hm q List.mem_cons_self
                have hzq := hZ q hq
                have c0 := m6 q hq (by simpa using b1)
                have e1 := sx_same2_ok hr.2.1 b3
                rw [(sx_key _ _ hz.1).1, (sx_key _ _ hz.1).2, (sx_key _ _ hzq.1).1, (sx_key _ _ hzq.1).2] at e1
                have e2 := Nat.eq_of_beq_eq_true b2
                intro j hj hlt
                have e3 := sx_blk_ok hr.2.1 b4 j hj
                rw [show 65536 * c.2.1 + c.2.2.2.1 + j = 65536 * c.2.1 + (c.2.2.2.1 + j) by omega, show 65536 * q.2.1 + q.2.2.2.1 + j = 65536 * q.2.1 + (q.2.2.2.1 + j) by omega, (sx_key _ _ (show c.2.2.2.1 + j < 65536 by omega)).1, (sx_key _ _ (show c.2.2.2.1 + j < 65536 by omega)).2, (sx_key _ _ (show q.2.2.2.1 + j < 65536 by omega)).1, (sx_key _ _ (show q.2.2.2.1 + j < 65536 by omega)).2] at e3
                rw [e3]
                exact c0 j (by omega) (by rw [← e1]; exact hlt)
              · exact ih (fun z hz => hm z (List.mem_cons_of_mem _ hz)) h1
          exact any _ (fun q hq => hq) g
    · have hm := all2 _ h0.2 c hc
      have hz := hC.1 c hc
      unfold sx_mend2 at hm
      rcases (Bool.or_eq_true _ _).mp hm with g | g
      · exact m7 c hc (by simpa using g)
      · rcases (Bool.or_eq_true _ _).mp g with g | g
        · rcases sx_trg_ok g with ⟨f, f1, f2⟩ | f1
          · have := sx_in_ok hr.2.2.1 (hr.at (by omega) f1) f2
            exact hC.2.1 c hc σ (by omega)
          · cases f1
        · have any : ∀ cu : List (Nat × Nat × Nat × Nat), (∀ q ∈ cu, q ∈ Z.2.2.2.2.2.1) → List.rec (motive := fun _ => Bool) false (fun q _ ih => (!sx_bit me.2.2.1 q.1 && ((q.2.2.2 - q.2.2.1).beq (c.2.2.2 - c.2.2.1) && sx_blk me.2.2.2.1 (c.2.2.2 - c.2.2.1) (65536 * c.2.1 + c.2.2.1) (65536 * q.2.1 + q.2.2.1))) || ih) cu = true → Cs c.1 σ := by
            intro cl
            induction cl with
            | nil => intro _ h; cases h
            | cons q t ih =>
              intro hm h
              rcases (Bool.or_eq_true _ _).mp h with h1 | h1
              · simp only [Bool.and_eq_true] at h1
                obtain ⟨b1, b2, b4⟩ := h1
                have hq := hm q List.mem_cons_self
                have hzq := hC.1 q hq
                have e2 := Nat.eq_of_beq_eq_true b2
                refine hC.2.2 c hc q hq σ e2 (fun j hj => ?_) (m7 q hq (by simpa using b1))
                have e3 := sx_blk_ok hr.2.1 b4 j hj
                rw [show 65536 * c.2.1 + c.2.2.1 + j = 65536 * c.2.1 + (c.2.2.1 + j) by omega, show 65536 * q.2.1 + q.2.2.1 + j = 65536 * q.2.1 + (q.2.2.1 + j) by omega, (sx_key _ _ (show c.2.2.1 + j < 65536 by omega)).1, (sx_key _ _ (show c.2.2.1 + j < 65536 by omega)).2, (sx_key _ _ (show q.2.2.1 + j < 65536 by omega)).1, (sx_key _ _ (show q.2.2.1 + j < 65536 by omega)).2] at e3
                exact e3
              · exact ih (fun z hz => hm z (List.mem_cons_of_mem _ hz)) h1
          exact any _ (fun q hq => hq) g
end ZG
