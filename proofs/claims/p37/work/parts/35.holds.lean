/-! what is checked, holds -/
/-- all that a contract's proof stands on -/
def sx_G0 (g : am_C) (L : Nat) (xs : Nat → Int32) (Z : sx_Z) (Cs : Nat → am_S → Prop) (mt : Nat → Option ex_T) : Prop := am_G g ∧ g.2.2.2.2.2.2 = am_X L xs ∧ L ≤ 3072 ∧ (∀ mi T, mt mi = some T → ex_tok mt T = true) ∧ sx_Zok Z ∧ sx_CsOk Z Cs ∧ sx_CsOk2 Z Cs ∧ sx_StrOk g
section ZH
variable {g : am_C} {L : Nat} {xs : Nat → Int32} {Z : sx_Z} {Cs : Nat → am_S → Prop} {mt : Nat → Option ex_T} {ct : Nat → List sx_Ct} {T : ex_T}
theorem sx_lor_sub {a b v : Nat} (h : (Nat.lor a b).beq b = true) (hb : sx_bit b v = false) : sx_bit a v = false := by
  have e := Nat.eq_of_beq_eq_true h
  rw [← e, sx_bit_or, Bool.or_eq_false_iff] at hb
  exact hb.1
theorem sx_M_mask {σe σ : am_S} {md m : Nat} (h : (Nat.lor md m).beq m = true) (hM : sx_M Z Cs σe md 0 σ) : sx_M Z Cs σe m 0 σ := ⟨hM.1, hM.2.1, hM.2.2.1, hM.2.2.2.1, fun o k lo hi u h1 h2 => hM.2.2.2.2.1 o k lo hi u h1 (sx_lor_sub h h2), hM.2.2.2.2.2.1, hM.2.2.2.2.2.2.1, fun h2 => hM.2.2.2.2.2.2.2.1 (sx_lor_sub h h2), fun h2 => hM.2.2.2.2.2.2.2.2 (sx_lor_sub h h2)⟩
/-- the end of a method under a contract -/
theorem sx_retk_ok (G : sx_G0 g L xs Z Cs mt) {σe : am_S} {env0 : List Int} {ps : List sx_Po} {x : sx_X} (hx : xZ x = Z ∧ xC x = Cs ∧ xe x = σe ∧ xp x = sx_Post Z Cs env0 σe ps) (hpre : ∃ more, xr x = env0 ++ more) : sx_Rk x (sx_retk Z env0.length ps) := by
  obtain ⟨h1, h2, h3, h4⟩ := hx
  intro v me env v' σ h hl hr hv
  rw [h4]
  have hr' : sx_R Z Cs σe env me σ := by rw [← h1, ← h2, ← h3]; exact hr
  obtain ⟨more, hm⟩ := hpre
  obtain ⟨ext, he⟩ := hl.2
  have hpref : env = env0 ++ (more ++ ext) := by rw [he, hm, List.append_assoc]
  unfold sx_retk at h
  rw [Bool.and_eq_true] at h
  have hM := sx_mend_ok G.2.2.2.2.1 G.2.2.2.2.2.2.1 hr' h.1
  have any : ∀ l : List sx_Po, (∀ p ∈ l, p ∈ ps) → List.rec (motive := fun _ => Bool) false (fun p _ ih => sx_ret1 Z env0.length v me p || ih) l = true → ∃ p ∈ ps, sx_ret1 Z env0.length v me p = true := by
    intro l
    induction l with
    | nil => intro _ h; cases h
    | cons q t ih =>
      intro hq h
      rcases (Bool.or_eq_true _ _).mp h with h1 | h1
      · exact ⟨q, hq q List.mem_cons_self, h1⟩
      · exact ih (fun z hz => hq z (List.mem_cons_of_mem _ hz)) h1
  obtain ⟨p, hp, hret⟩ := any ps (fun p hp => hp) h.2
  unfold sx_ret1 at hret
  rw [Bool.and_eq_true] at hret
  obtain ⟨ext2, me2, θ, ks, a1, a2, a3, a4⟩ := sx_bindk_ok G.2.2.2.2.1 hr' hret.2
  have hlen : env0.length ≤ (env ++ ext2).length := by rw [hpref]; simp
  obtain ⟨ids, b1, b2⟩ := sx_idk_ok (acc := []) (vs := []) hlen trivial a4
  have htake : (env ++ ext2).take env0.length ++ [] = env0 := by rw [hpref]; simp
  rw [htake] at b1
  refine ⟨p, hp, sx_M_mask hret.1 hM, ks, a2, ?_⟩
  match v, v', hv, b2 with
  | some (.inl e), some z, hv, b2 =>
    obtain ⟨n, n1, n2⟩ := hv
    have b2' : (p.2.1 && sx_hold (ids ++ e :: θ) me2.2.2.2.2 p.2.2.2) = true := b2
    rw [Bool.and_eq_true] at b2'
    rw [b2'.1]
    exact ⟨n, n1, sx_hold_ok a1.2.2.1 (b1.append (b := e :: θ) (y := n.toInt :: ks) ⟨sx_ev_app ext2 n2, a3⟩) b2'.2⟩
  | none, none, _, b2 =>
    have b2' : (!p.2.1 && sx_hold (ids ++ θ) me2.2.2.2.2 p.2.2.2) = true := b2
    rw [Bool.and_eq_true, Bool.not_eq_true'] at b2'
    rw [b2'.1]
    exact sx_hold_ok a1.2.2.1 (b1.append a3) b2'.2
  | some (.inr r), some z, hv, b2 => exact Bool.noConfusion (show false = true from b2)
  | some _, none, hv, _ => exact hv.elim
  | none, some _, hv, _ => exact hv.elim
/-- a state at a loop's head -/
def sx_Head (Z : sx_Z) (Cs : Nat → am_S → Prop) (σe : am_S) (env0 : List Int) (u : sx_Cu) (lw : List (Nat × Value)) (vs : List Int) (σ : am_S) : Prop := sx_Srcs lw σ u.2.2.2.1.1 vs ∧ sx_Refs lw u.2.2.1 ∧ sx_P (env0 ++ vs) u.2.2.2.1.2 ∧ sx_M Z Cs σe u.2.1 0 σ
theorem sx_cuth_ok (G : sx_G0 g L xs Z Cs mt) {σe : am_S} {env0 : List Int} {cus : List sx_Cu} {post : Option (Option Value) → am_S → Prop} {d0 : Nat} {x : sx_X} (hx : xg x = g ∧ xZ x = Z ∧ xC x = Cs ∧ xe x = σe ∧ xp x = post ∧ xT x = T) (hpre : ∃ more, xr x = env0 ++ more) {old : Option sx_e} {N : Option Int} (hnone : old = none → N = none) (hold : ∀ o, old = some o → ∃ m, N = some m ∧ sx_ev (xr x) o = some m)
    (ih : ∀ u ∈ cus, ∀ (lw : List (Nat × Value)) (vs : List Int) (σ : am_S) (m : Int), sx_Head Z Cs σe env0 u lw vs σ → sx_ev (env0 ++ vs) u.2.2.2.2 = some m → 0 ≤ m → (∀ k, N = some k → m < k) → am_K g d0 T.1 0 0 u.1 lw [] σ post) : sx_Hks x (sx_cuth Z env0.length d0 old cus) := by
  obtain ⟨x0, x1, x2, x3, x4, x5⟩ := hx
  intro pc F cd lv st me env lw sw σ d mc ms hF h A
  have hr : sx_R Z Cs σe env me σ := by rw [← x1, ← x2, ← x3]; exact A.r
  obtain ⟨more, hm⟩ := hpre
  obtain ⟨ext, he⟩ := A.2.2.1.2
  have hpref : env = env0 ++ (more ++ ext) := by rw [he, hm, List.append_assoc]
  have fnd : ∀ l : List sx_Cu, List.rec (motive := fun _ => Option (Nat → sx_L → List sx_V → sx_Me → Bool)) none (fun c _ ih => bif c.1.beq pc then some (sx_cuts Z env0.length d0 old cus pc) else ih) l = some F → F = sx_cuts Z env0.length d0 old cus pc := by
    intro l
    induction l with
    | nil => intro h; cases h
    | cons q t ih =>
      intro h
      simp only at h
      cases hb : q.1.beq pc with
      | true =>
        rw [hb] at h
        exact (Option.some.inj h).symm
      | false =>
        rw [hb] at h
        exact ih h
  have hF' := fnd cus hF
  subst hF'
  have any : ∀ l : List sx_Cu, (∀ u ∈ l, u ∈ cus) → List.rec (motive := fun _ => Bool) false (fun c _ ih => (bif c.1.beq pc then sx_cutk Z env0.length d0 old c d lv st me else false) || ih) l = true → ∃ u ∈ cus, u.1 = pc ∧ sx_cutk Z env0.length d0 old u d lv st me = true := by
    intro l
    induction l with
    | nil => intro _ h; cases h
    | cons q t ih =>
      intro hq h
      rcases (Bool.or_eq_true _ _).mp h with h1 | h1
      · cases hb : q.1.beq pc with
        | true => rw [hb] at h1; exact ⟨q, hq q List.mem_cons_self, Nat.eq_of_beq_eq_true hb, h1⟩
        | false => rw [hb] at h1; cases h1
      · exact ih (fun z hz => hq z (List.mem_cons_of_mem _ hz)) h1
  obtain ⟨u, hu, hpc, h⟩ := any cus (fun u hu => hu) h
  unfold sx_cutk at h
  simp only [Bool.and_eq_true] at h
  obtain ⟨b1, b2, b3, b4, b5, b6⟩ := h
  have hst : st = [] := by simpa using b2
  subst hst
  rw [A.s.nil]
  obtain ⟨ext2, me2, θ, vs, a1, a2, a3, a4⟩ := sx_bind_ok G.2.2.2.2.1 hr A.2.2.2.2.1 b6
  have hlen : env0.length ≤ (env ++ ext2).length := by rw [hpref]; simp
  obtain ⟨ids, c1, c2⟩ := sx_idk_ok (acc := []) (vs := []) hlen trivial a4
  have htake : (env ++ ext2).take env0.length ++ [] = env0 := by rw [hpref]; simp
  rw [htake] at c1
  rw [Bool.and_eq_true] at c2
  have ht := c1.append a3
  obtain ⟨m, y, d1, d2, d3⟩ := sx_sub_ok ht c2.2
  rw [ex_fI_eq, Bool.and_eq_true] at d1
  have hmu : sx_ev (env0 ++ vs) u.2.2.2.2 = some (u.2.2.2.2.1 + y) := sx_ev_of d2
  have hm0 := sx_ev_to d3
  obtain ⟨r, e1, e2⟩ := sx_negA_ok d1.1
  rw [ex_fI_eq] at e1
  have f1 := sx_leq_ok a1.2.2.1 (sx_ev_of (e := (-(m.1 + u.2.2.2.2.1), r)) (e2 _ _ hm0)) e1
  have f1' : -(m.1 + u.2.2.2.2.1) + -(y - m.1) ≤ 0 := f1
  have hM : sx_M Z Cs σe u.2.1 0 σ := by
    refine sx_M_mask b3 ?_
    have := hr.2.2.2
    rw [Nat.eq_of_beq_eq_true b4] at this
    exact this
  have key := ih u hu lw vs σ (u.2.2.2.2.1 + y) ⟨a2, sx_refs_ok A.2.2.2.2.1 b5, sx_hold_ok a1.2.2.1 ht c2.1, hM⟩ hmu (by omega) (fun k hk => by
    cases ho : old with
    | none =>
      rw [hnone ho] at hk
      cases hk
    | some o =>
      obtain ⟨m', m1, m2⟩ := hold o ho
      rw [hk] at m1
      cases m1
      have d4 := d1.2
      rw [ho] at d4
      simp only at d4
      obtain ⟨e, e3, e4⟩ := sx_lin_ok d4
      have hoe : sx_ev (env ++ ext2) o = some k := by
        refine sx_ev_app ext2 ?_
        rw [he]
        exact sx_ev_app ext m2
      have e5 := sx_leq_ok a1.2.2.1 (e4 _ _ _ hoe (sx_ev_of (e := (m.1 + u.2.2.2.2.1 + 1, m.2)) hm0)) e3
      have e5' : -1 * k + (m.1 + u.2.2.2.2.1 + 1 + (y - m.1)) ≤ 0 := e5
      omega)
  show am_K (xg x) d (xT x).1 (mc + xX x) (ms + xY x) pc lw [] σ (xp x)
  rw [x0, x4, x5, ← hpc]
  exact kr_less (ex_ble b1) (Nat.zero_le _) (Nat.zero_le _) key
theorem sx_at_app {a b : List Int} {j : Nat} {v : Int} (h : b[j]? = some v) : (a ++ b)[a.length + j]? = some v := by
  rw [List.getElem?_append_right (by omega), show a.length + j - a.length = j by omega]
  exact h
theorem sx_contract (G : sx_G0 g L xs Z Cs mt) {mi n : Nat} {c : sx_Ct} {cus : List sx_Cu} (hT : mt mi = some T) (hct : ∀ (mi : Nat) (T2 : ex_T) (c' : sx_Ct), mt mi = some T2 → c' ∈ ct mi → c'.1 < c.1 → sx_Holds g Z Cs T2 c') (h : sx_chk Z mt ct T n c cus = true) : sx_Holds g Z Cs T c := by
  intro lw0 env0 σe hs0 hrf0 hp0 hM0
  unfold sx_chk at h
  rw [ex_fN_eq, Bool.and_eq_true] at h
  have hn0 : c.2.2.2.2.2.1.1.length = env0.length := sx_Srcs_len hs0
  rw [hn0] at h
  have allc : ∀ l : List sx_Cu, List.rec (motive := fun _ => Bool) true (fun u _ ih => sx_chkC Z mt ct T n c cus env0.length u && ih) l = true → ∀ u ∈ l, sx_chkC Z mt ct T n c cus env0.length u = true := by
    intro l
    induction l with
    | nil => intro _ u hu; cases hu
    | cons q t ih =>
      intro h u hu
      have h' := (Bool.and_eq_true _ _).mp h
      rcases List.mem_cons.mp hu with rfl | hu
      · exact h'.1
      · exact ih h'.2 u hu
  have hcuts := allc cus h.2
  have okT := G.2.2.2.1 mi T hT
  -- the heads of loops, by the measure
  have heads : ∀ (k : Nat), ∀ u ∈ cus, ∀ (lw : List (Nat × Value)) (vs : List Int) (σ : am_S) (m : Int), sx_Head Z Cs σe env0 u lw vs σ → sx_ev (env0 ++ vs) u.2.2.2.2 = some m → 0 ≤ m → m.toNat < k → am_K g c.2.1 T.1 0 0 u.1 lw [] σ (sx_Post Z Cs env0 σe c.2.2.2.2.2.2) := by
    intro k
    induction k with
    | zero => intro u _ lw vs σ m _ _ _ hk; omega
    | succ k ihk =>
      intro u hu lw vs σ m hH hm h0 hk
      obtain ⟨hs, hrf, hp, hM⟩ := hH
      have hc := hcuts u hu
      unfold sx_chkC at hc
      let x : sx_X := (g, (L, xs), Z, Cs, mt, T, σe, (0, 0), sx_Post Z Cs env0 σe c.2.2.2.2.2.2, none, env0 ++ vs)
      have B : sx_Bx x := ⟨G.1, G.2.1, G.2.2.1, G.2.2.2.1, G.2.2.2.2.1, G.2.2.2.2.2.1⟩
      obtain ⟨lwr, r1, r2⟩ := sx_Refs_lv (env0 ++ vs) hrf
      obtain ⟨lv, lw', l1, l2, l3⟩ := sx_mkl_ok (w := env0.length) hs (fun j v hj => sx_at_app hj) r1 r2 hc
      obtain ⟨tr, t1, t2⟩ := sx_mkt_ok (w := env0.length) (acc := []) hs (fun j v hj => sx_at_app hj) (fun q hq => by cases hq) l3
      rw [ex_fN_eq] at t2
      have hR : sx_Rk x (sx_retk Z env0.length c.2.2.2.2.2.2) := sx_retk_ok G ⟨rfl, rfl, rfl, rfl⟩ ⟨vs, rfl⟩
      have hHk : sx_Hks x (sx_cuth Z env0.length c.2.1 (some u.2.2.2.2) cus) := sx_cuth_ok (T := T) G (post := sx_Post Z Cs env0 σe c.2.2.2.2.2.2) ⟨rfl, rfl, rfl, rfl, rfl, rfl⟩ ⟨vs, rfl⟩ (N := some m) (fun q => by cases q) (fun o ho => ⟨m, rfl, by cases ho; exact hm⟩) (fun u' hu' lw2 vs2 σ2 m2 hH2 hm2 h02 hlt => by
        have := hlt m rfl
        exact ihk u' hu' lw2 vs2 σ2 m2 hH2 hm2 h02 (by omega))
      have K := tk_run (x := x) B G.2.2.2.2.2.2.2 hct hR hHk n
      have key := K T [] u.1 c.2.1 0 0 lv [] [] _ (env0 ++ vs) lw' [] [] σ t2 ⟨⟨okT, fun e he => (by cases he)⟩, fun _ => rfl, ⟨fun w hw => (by cases hw), ⟨[], by rw [List.append_nil]⟩⟩, ⟨by simp [sx_Srcs_len hs], t1, hp, hM⟩, l1, trivial, trivial⟩
      exact kr_sub l2 key
  -- the entry
  let x : sx_X := (g, (L, xs), Z, Cs, mt, T, σe, (0, 0), sx_Post Z Cs env0 σe c.2.2.2.2.2.2, none, env0)
  have B : sx_Bx x := ⟨G.1, G.2.1, G.2.2.1, G.2.2.2.1, G.2.2.2.2.1, G.2.2.2.2.2.1⟩
  have he := h.1
  unfold sx_chkE at he
  obtain ⟨lwr, r1, r2⟩ := sx_Refs_lv env0 hrf0
  obtain ⟨lv, lw', l1, l2, l3⟩ := sx_mkl_ok (w := 0) hs0 (fun j v hj => by rw [Nat.zero_add]; exact hj) r1 r2 he
  obtain ⟨tr, t1, t2⟩ := sx_mkt_ok (w := 0) (acc := []) hs0 (fun j v hj => by rw [Nat.zero_add]; exact hj) (fun q hq => by cases hq) l3
  have hR : sx_Rk x (sx_retk Z env0.length c.2.2.2.2.2.2) := sx_retk_ok G ⟨rfl, rfl, rfl, rfl⟩ ⟨[], by rw [List.append_nil]⟩
  have hHk : sx_Hks x (sx_cuth Z env0.length c.2.1 none cus) := sx_cuth_ok (T := T) G (post := sx_Post Z Cs env0 σe c.2.2.2.2.2.2) ⟨rfl, rfl, rfl, rfl, rfl, rfl⟩ ⟨[], by rw [List.append_nil]⟩ (N := none) (fun _ => rfl) (fun o ho => by cases ho) (fun u' hu' lw2 vs2 σ2 m2 hH2 hm2 h02 _ => heads (m2.toNat + 1) u' hu' lw2 vs2 σ2 m2 hH2 hm2 h02 (by omega))
  have K := tk_run (x := x) B G.2.2.2.2.2.2.2 hct hR hHk n
  have key := K T [] 0 c.2.1 c.2.2.1 c.2.2.2.1 lv [] [] _ env0 lw' [] [] σe t2 ⟨⟨okT, fun e he => (by cases he)⟩, fun _ => rfl, ⟨fun w hw => (by cases hw), ⟨[], by rw [List.append_nil]⟩⟩, ⟨rfl, t1, hp0, hM0⟩, l1, trivial, trivial⟩
  exact kr_sub l2 key
/-- all contracts of a table that is checked hold; a check may leave contracts out (then the method is gone into) -/
theorem sx_table_ok (G : sx_G0 g L xs Z Cs mt) (h : ∀ (mi : Nat) (c : sx_Ct), c ∈ ct mi → ∃ (ct' : Nat → List sx_Ct) (T : ex_T) (n : Nat) (cus : List sx_Cu), (∀ mi c, c ∈ ct' mi → c ∈ ct mi) ∧ mt mi = some T ∧ sx_chk Z mt ct' T n c cus = true) : ∀ (mi : Nat) (T : ex_T) (c : sx_Ct), mt mi = some T → c ∈ ct mi → sx_Holds g Z Cs T c := by
  have main : ∀ r : Nat, ∀ (mi : Nat) (T : ex_T) (c : sx_Ct), mt mi = some T → c ∈ ct mi → c.1 < r → sx_Holds g Z Cs T c := by
    intro r
    induction r with
    | zero => intro mi T c _ _ h; omega
    | succ r ih =>
      intro mi T c hT hc hr
      obtain ⟨ct', T', n, cus, h0, h1, h2⟩ := h mi c hc
      cases Option.some.inj (hT.symm.trans h1)
      exact sx_contract G hT (fun mi2 T2 c2 a1 a2 a3 => ih mi2 T2 c2 a1 (h0 mi2 c2 a2) (by omega)) h2
  intro mi T c hT hc
  exact main (c.1 + 1) mi T c hT hc (by omega)
end ZH
