/-! the contracts that are proved by hand -/
section H9
variable {g : am_C} {L : Nat} {xs : Nat → Int32}
theorem hd_p2 {env : List Int} {w v : Nat} {x y : Int} {fa : sx_Fa} (h : env[w]? = some x) (h2 : env[v]? = some y) (he : x = y) (t : sx_P env fa) : sx_P env (([(.ofNat 1, w), (.negSucc 0, v)], .ofNat 0, .ofNat 0) :: fa) := by
  have e : sx_ea env [(.ofNat 1, w), (.negSucc 0, v)] = some (.ofNat 1 * x + (.negSucc 0 * y + 0)) := sx_ea_mk h (sx_ea_mk h2 rfl)
  have e0 : (Int.ofNat 1 : Int) * x + (Int.negSucc 0 * y + 0) = 0 := by
    show (1 : Int) * x + ((-1) * y + 0) = 0
    omega
  rw [e0] at e
  exact t.cons e (Int.le_refl _) (Int.le_refl _)
theorem hd_e1 {env : List Int} {w : Nat} {x v : Int} {fa : sx_Fa} (h : env[w]? = some x) (e : x = v) (t : sx_P env fa) : sx_P env (([(.ofNat 1, w)], v, v) :: fa) := hd_p1 h (Int.le_of_eq e.symm) (Int.le_of_eq e) t
theorem h9_sentence (G : sx_G0 g L xs z9 hd_C ex_mt) : P9 g hd_C 167 k9_296 := by
  intro T hT ih lw env σ hs hrf hp hM
  cases (show T = tX12_sentence from Option.some.inj (hT.symm.trans rfl))
  obtain rfl := hd_src0 hs
  refine hd_sentence G ih hM (fun r σ' E => ?_) (hd_ref0 hrf)
  exact ⟨_, List.mem_cons_self, E.1, [(σ'.2.1 118 2).toInt], ⟨rfl, trivial⟩, r, rfl, hd_p1 rfl (Int32.le_toInt r) (Int32.toInt_le r) (hd_p1 rfl (by rw [E.2]; decide) (by rw [E.2]; decide) hd_p0)⟩
theorem h9_isSaid (G : sx_G0 g L xs z9 hd_C ex_mt) : P9 g hd_C 121 k9_294 := by
  intro T hT ih lw env σ hs hrf hp hM
  cases (show T = tX12_isSaid from Option.some.inj (hT.symm.trans rfl))
  obtain ⟨m1, vs, rfl, hl1, hs1⟩ := hd_srcl hs
  obtain rfl := hd_src0 hs1
  obtain ⟨v, e, l, u⟩ := hp _ List.mem_cons_self
  have e' : 1 * m1.toInt + 0 = v := Option.some.inj e
  have l' : (0 : Int) ≤ v := l
  have u' : v ≤ (9 : Int) := u
  refine hd_isSaid G ih hM (m1 := m1) (by omega) (fun r σ' r0 r1 hM1 => ?_) (hd_ref0 hrf) hl1
  exact ⟨_, List.mem_cons_self, hM1, [], trivial, r, rfl, hd_p1 rfl r0 r1 hd_p0⟩
theorem h9_image (G : sx_G0 g L xs z9 hd_C ex_mt) : P9 g hd_C 116 k9_297 := by
  intro T hT ih lw env σ hs hrf hp hM
  cases (show T = tX12_image from Option.some.inj (hT.symm.trans rfl))
  obtain ⟨m1, vs, rfl, hl1, hs1⟩ := hd_srcl hs
  obtain ⟨vs2, rfl, hs2⟩ := hd_srcs hs1
  obtain ⟨vs3, rfl, hs3⟩ := hd_srcs hs2
  obtain rfl := hd_src0 hs3
  refine sg_i1_run G ih hM (hd_ref0 hrf) hl1 ?_ ?_ ?_
  · intro r σ' f1 f2 hM1
    exact ⟨_, List.mem_cons_self, hM1, [], trivial, r, rfl, hd_e1 rfl (show r.toInt = (0 : Int) by omega) (hd_p1 rfl (Int32.le_toInt _) (show m1.toInt ≤ (-1 : Int) by omega) hd_p0)⟩
  · intro r σ' f1 f2 hM1
    exact ⟨_, List.mem_cons_of_mem _ List.mem_cons_self, hM1, [], trivial, r, rfl, hd_e1 rfl (show r.toInt = (0 : Int) by omega) (hd_p1 rfl (show (2 : Int) ≤ m1.toInt by omega) (Int32.toInt_le _) hd_p0)⟩
  · intro lw1 a1 a2 σ1 p0 p1 p2 f1 f2 f3 hM1
    have e1 : a1 = m1 := Int32.toInt_inj.mp (by omega)
    subst e1
    obtain ⟨k, hk⟩ : ∃ k : Nat, a1.toInt = k := ⟨a1.toInt.toNat, by omega⟩
    have s0 : σ1.2.1 137 0 = σ.2.1 137 0 := hM1.2.2.2.2.1 137 0 _ _ 532 rfl (by decide +kernel)
    have s1 : σ1.2.1 137 1 = σ.2.1 137 1 := hM1.2.2.2.2.1 137 1 _ _ 532 rfl (by decide +kernel)
    refine im_loop G (sx_M_self hM1) (k := k) (by omega) hk ?_ 277 0 σ1 lw1 a2 (by omega) (hd_toK (sx_M_mask (by decide +kernel) (sx_M_self hM1))) (fun j hj => by omega) (fun j hj => rfl) p0 p1 p2 (by omega)
    intro σ2 lw2 hM2 q0 q1
    have t0 : σ2.2.1 137 0 = σ1.2.1 137 0 := hM2.2.2.2.2.1 137 0 _ _ 532 rfl (by decide +kernel)
    have t1 : σ2.2.1 137 1 = σ1.2.1 137 1 := hM2.2.2.2.2.1 137 1 _ _ 532 rfl (by decide +kernel)
    have H2 : sx_M z9 hd_C σ im_mI 0 σ2 := hd_tr (sx_M_mask (by decide +kernel) hM1) hM2 (by decide +kernel)
    rcases (show a1.toInt = 0 ∨ a1.toInt = 1 by omega) with h | h
    · refine sg_i4_run G ih (sx_M_self H2) q0 q1 (by omega) ?_
      intro r σ3 g1 g2 g3 hM3
      rw [t1, s1] at g3
      exact ⟨_, List.mem_cons_of_mem _ (List.mem_cons_of_mem _ List.mem_cons_self), hd_tr H2 hM3 (by decide +kernel), [(σ3.2.1 137 0).toInt, (σ3.2.1 137 1).toInt], ⟨rfl, rfl, trivial⟩, r, rfl, hd_e1 rfl (show r.toInt = (1 : Int) by omega) (hd_e1 rfl (show a1.toInt = (0 : Int) from h) (hd_e1 rfl (show (σ3.2.1 137 0).toInt = (1 : Int) by omega) (hd_p2 rfl rfl (by show (σ.2.1 137 1).toInt = (σ3.2.1 137 1).toInt; omega) hd_p0)))⟩
    · refine sg_i5_run G ih (sx_M_self H2) q0 q1 (by omega) ?_
      intro r σ3 g1 g2 g3 hM3
      rw [t0, s0] at g3
      exact ⟨_, List.mem_cons_of_mem _ (List.mem_cons_of_mem _ (List.mem_cons_of_mem _ List.mem_cons_self)), hd_tr H2 hM3 (by decide +kernel), [(σ3.2.1 137 0).toInt, (σ3.2.1 137 1).toInt], ⟨rfl, rfl, trivial⟩, r, rfl, hd_e1 rfl (show r.toInt = (1 : Int) by omega) (hd_e1 rfl (show a1.toInt = (1 : Int) from h) (hd_p2 rfl rfl (by show (σ.2.1 137 0).toInt = (σ3.2.1 137 0).toInt; omega) (hd_e1 rfl (show (σ3.2.1 137 1).toInt = (1 : Int) by omega) hd_p0)))⟩
theorem h9_restore (G : sx_G0 g L xs z9 hd_C ex_mt) : P9 g hd_C 157 k9_298 := by
  intro T hT ih lw env σ hs hrf hp hM
  cases (show T = tX12_restore from Option.some.inj (hT.symm.trans rfl))
  obtain ⟨m1, vs, rfl, hl1, hs1⟩ := hd_srcl hs
  obtain ⟨vs2, rfl, hs2⟩ := hd_srcs hs1
  obtain ⟨vs3, rfl, hs3⟩ := hd_srcs hs2
  obtain rfl := hd_src0 hs3
  have fin : ∀ (lw1 : List (Nat × Value)) (a1 a2 : Int32) (σ1 : am_S) (k : Nat) (post : Option (Option Value) → am_S → Prop), k < 2 → a1.toInt = k → sx_M z9 hd_C σ im_mT 0 σ1 → (0, Value.ref 118) ∈ lw1 → (1, Value.int a1) ∈ lw1 → (2, Value.int a2) ∈ lw1 → a2.toInt = 0 → (∀ (r : Int32) σ', r.toInt = 1 → sx_M z9 hd_C σ im_mR 0 σ' → post (some (some (.int r))) σ') → am_K g 12 tX12_restore.1 0 0 27 lw1 [] σ1 post := by
    intro lw1 a1 a2 σ1 k post hk hk1 hM1 p0 p1 p2 h2 kk
    refine rs_loop G (sx_M_self hM1) (k := k) hk hk1 ?_ 277 0 σ1 lw1 a2 (by omega) (hd_toK (sx_M_mask (by decide +kernel) (sx_M_self hM1))) (fun j hj => by omega) p0 p1 p2 h2
    intro σ2 lw2 hM2 q0
    have H2 : sx_M z9 hd_C σ im_mR 0 σ2 := hd_tr (sx_M_mask (by decide +kernel) hM1) hM2 (by decide +kernel)
    exact sg_r4_run G ih (sx_M_self H2) q0 (fun r σ3 g1 hM3 => kk r σ3 (by omega) (hd_tr H2 hM3 (by decide +kernel)))
  refine sg_r1_run G ih hM (hd_ref0 hrf) hl1 ?_ ?_ ?_ ?_ ?_ ?_
  · intro r σ' f1 f2 hM1
    exact ⟨_, List.mem_cons_self, hM1, [], trivial, r, rfl, hd_e1 rfl (show r.toInt = (0 : Int) by omega) (hd_p1 rfl (Int32.le_toInt _) (show m1.toInt ≤ (-1 : Int) by omega) hd_p0)⟩
  · intro r σ' f1 f2 hM1
    exact ⟨_, List.mem_cons_of_mem _ List.mem_cons_self, hM1, [], trivial, r, rfl, hd_e1 rfl (show r.toInt = (0 : Int) by omega) (hd_p1 rfl (show (2 : Int) ≤ m1.toInt by omega) (Int32.toInt_le _) hd_p0)⟩
  · intro r σ' f1 f2 f3 hM1
    exact ⟨_, List.mem_cons_of_mem _ (List.mem_cons_of_mem _ List.mem_cons_self), hM1, [], trivial, r, rfl, hd_e1 rfl (show r.toInt = (0 : Int) by omega) (hd_e1 rfl (show m1.toInt = (0 : Int) by omega) (hd_e1 rfl (show (σ.2.1 137 0).toInt = (0 : Int) by omega) hd_p0))⟩
  · intro r σ' f1 f2 f3 hM1
    exact ⟨_, List.mem_cons_of_mem _ (List.mem_cons_of_mem _ (List.mem_cons_of_mem _ List.mem_cons_self)), hM1, [], trivial, r, rfl, hd_e1 rfl (show r.toInt = (0 : Int) by omega) (hd_e1 rfl (show m1.toInt = (1 : Int) by omega) (hd_e1 rfl (show (σ.2.1 137 1).toInt = (0 : Int) by omega) hd_p0))⟩
  · intro lw1 a1 a2 σ1 p0 p1 p2 f1 f2 f3 f4 hM1
    refine fin lw1 a1 a2 σ1 0 _ (by decide) (by omega) hM1 p0 p1 p2 (by omega) (fun r σ' hr hM2 => ?_)
    exact ⟨_, List.mem_cons_of_mem _ (List.mem_cons_of_mem _ (List.mem_cons_of_mem _ (List.mem_cons_of_mem _ List.mem_cons_self))), hM2, [], trivial, r, rfl, hd_e1 rfl (show r.toInt = (1 : Int) from hr) (hd_e1 rfl (show m1.toInt = (0 : Int) by omega) (hd_e1 rfl (show (σ.2.1 137 0).toInt = (1 : Int) by omega) hd_p0))⟩
  · intro lw1 a1 a2 σ1 p0 p1 p2 f1 f2 f3 f4 hM1
    refine fin lw1 a1 a2 σ1 1 _ (by decide) (by omega) hM1 p0 p1 p2 (by omega) (fun r σ' hr hM2 => ?_)
    exact ⟨_, List.mem_cons_of_mem _ (List.mem_cons_of_mem _ (List.mem_cons_of_mem _ (List.mem_cons_of_mem _ (List.mem_cons_of_mem _ List.mem_cons_self)))), hM2, [], trivial, r, rfl, hd_e1 rfl (show r.toInt = (1 : Int) from hr) (hd_e1 rfl (show m1.toInt = (1 : Int) by omega) (hd_e1 rfl (show (σ.2.1 137 1).toInt = (1 : Int) by omega) hd_p0))⟩
theorem h9_ok (G : sx_G0 g L xs z9 hd_C ex_mt) : ∀ (mi : Nat) (T : ex_T) (c : sx_Ct), ex_mt mi = some T → c ∈ k9 mi → sx_Holds g z9 hd_C T c := k9_ok G (h9_isSaid G) (h9_sentence G) (h9_image G) (h9_restore G)
end H9
