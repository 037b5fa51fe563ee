/-! the ten calls that write what plans are kept in (written by a program) -/
section PLC
variable {g : am_C} {L : Nat} {xs : Nat → Int32}
/-- the STATION's cell as it was, beyond its end too -/
def lw_t (σ σ1 : am_S) : am_S := (σ1.1, fun o k => if o = 120 then σ.2.1 120 k else σ1.2.1 o k, σ1.2.2.1, σ1.2.2.2)
theorem lw_t1 (σ σ1 : am_S) {o : Nat} (h : o ≠ 120) : (lw_t σ σ1).2.1 o = σ1.2.1 o := funext fun _ => if_neg h
theorem lw_t120 (σ σ1 : am_S) : (lw_t σ σ1).2.1 120 = σ.2.1 120 := funext fun k => show (if (120 : Nat) = 120 then σ.2.1 120 k else σ1.2.1 120 k) = σ.2.1 120 k from if_pos rfl
theorem lw_arr {cA : ClassId} {n : Nat} {f f' : Nat → Value} (h : ∀ j, j < n → f j = f' j) : arrV cA n f = arrV cA n f' := by
  unfold arrV
  rw [show (fun j : Fin n => f j.val) = fun j : Fin n => f' j.val from funext fun j => h j.val j.isLt]
theorem lw_tR {σ σ1 : am_S} {H : Heap} (hs : σ1.1[120]? = some (.inr (.int, 277))) (e : ∀ k, k < 277 → σ1.2.1 120 k = σ.2.1 120 k) (R : am_Rep g σ1 H) : am_Rep g (lw_t σ σ1) H := by
  have hlen : 120 < σ1.1.length := (List.getElem?_eq_some_iff.mp hs).1
  refine ⟨R.1, fun i h e1 hi he => ?_, R.2.2.1, fun o k ho => ?_⟩
  · by_cases q : i = 120
    · subst q
      have hi' : σ1.1[120]? = some h := hi
      rw [hs] at hi'
      cases hi'
      have c1 : am_ce g σ1 120 (.inr (.int, 277)) = some (.inl (g.2.2.2.2.1 .int, 277, .inl (σ1.2.1 120))) := rfl
      have c2 : am_ce g (lw_t σ σ1) 120 (.inr (.int, 277)) = some (.inl (g.2.2.2.2.1 .int, 277, .inl ((lw_t σ σ1).2.1 120))) := rfl
      rw [c2] at he
      cases he
      have r1 : H[am_b0 g + 120]? = some (vp_cell (g.2.2.2.2.1 .int) (277, .inl (σ1.2.1 120))) := R.2.1 120 _ _ hs c1
      show H[am_b0 g + 120]? = some (vp_cell (g.2.2.2.2.1 .int) (277, .inl ((lw_t σ σ1).2.1 120)))
      rw [r1, vp_cell_i, vp_cell_i, lw_t120]
      exact congrArg some (lw_arr fun j hj => by rw [e j hj])
    · refine R.2.1 i h e1 hi ?_
      rw [← he]
      have t := lw_t1 σ σ1 q
      cases h with
      | inl ci =>
        show (vwCl[ci]?).map (fun q => (.inr (ci, am_of g σ1 i ci q.2.2) : va_E)) = (vwCl[ci]?).map (fun q => .inr (ci, am_of g (lw_t σ σ1) i ci q.2.2))
        have : ∀ n, am_of g σ1 i ci n = am_of g (lw_t σ σ1) i ci n := by
          intro n
          unfold am_of am_fa
          rw [t]
          rfl
        simp only [this]
      | inr q =>
        show am_ar g σ1 i q.1 q.2 = am_ar g (lw_t σ σ1) i q.1 q.2
        unfold am_ar
        rw [t]
        rfl
  · have := R.2.2.2 o k ho
    have q : o ≠ 120 := by have ho' : σ1.1.length ≤ o := ho; omega
    rw [lw_t1 σ σ1 q]
    exact this
theorem lw_tK {σ σ1 : am_S} {d : Nat} {M : am_M} {mc ms pc : Nat} {lv : List (Nat × Value)} {st : List Value} {post : Option (Option Value) → am_S → Prop} (hs : σ1.1[120]? = some (.inr (.int, 277))) (e : ∀ k, k < 277 → σ1.2.1 120 k = σ.2.1 120 k) (h : am_K g d M mc ms pc lv st (lw_t σ σ1) post) : am_K g d M mc ms pc lv st σ1 post := by
  intro p e' R s m args below meth c H locs cells slots ls F a1 a2 a3 a4 hR hL hl
  exact h p e' R s m args below meth c H locs cells slots ls F a1 a2 a3 a4 (lw_tR hs e hR) hL hl
theorem lw_ta : ∀ j, sx_atl (z9.1 120) (277 + j) = none := by
  intro j
  show sx_atl [(1, .ofNat 0, .ofNat 10, 407), (1, .ofNat 0, .ofNat 6, 408), (10, .ofNat 0, .ofNat 99, 409), (10, .ofNat 0, .ofNat 9, 410), (10, .ofNat 0, .ofNat 3, 411), (10, .ofNat 0, .ofNat 99, 412), (6, .ofNat 0, .ofNat 60, 413), (6, .ofNat 0, .ofNat 9, 414), (1, .ofNat 0, .ofNat 5, 415), (1, .ofNat 0, .ofNat 24, 416), (1, .ofNat 0, .ofNat 12, 417), (1, .ofNat 0, .ofNat 12, 418), (1, .ofNat 0, .ofNat 30, 419), (1, .ofNat 0, .ofNat 11, 420), (1, .ofNat 0, .ofNat 12, 421), (1, .ofNat 0, .ofNat 99, 422), (3, .negSucc 2147483647, .ofNat 2147483647, 423), (1, .ofNat 0, .ofNat 10, 424), (10, .negSucc 2147483647, .ofNat 2147483647, 425), (10, .negSucc 2147483647, .ofNat 2147483647, 426), (10, .negSucc 2147483647, .ofNat 2147483647, 427), (1, .ofNat 0, .ofNat 40, 428), (180, .negSucc 2147483647, .ofNat 2147483647, 429)] (277 + j) = none
  rw [sx_atl, if_neg (show ¬ 277 + j < 1 by omega)]
  rw [sx_atl, if_neg (show ¬ 277 + j - 1 < 1 by omega)]
  rw [sx_atl, if_neg (show ¬ 277 + j - 1 - 1 < 10 by omega)]
  rw [sx_atl, if_neg (show ¬ 277 + j - 1 - 1 - 10 < 10 by omega)]
  rw [sx_atl, if_neg (show ¬ 277 + j - 1 - 1 - 10 - 10 < 10 by omega)]
  rw [sx_atl, if_neg (show ¬ 277 + j - 1 - 1 - 10 - 10 - 10 < 10 by omega)]
  rw [sx_atl, if_neg (show ¬ 277 + j - 1 - 1 - 10 - 10 - 10 - 10 < 6 by omega)]
  rw [sx_atl, if_neg (show ¬ 277 + j - 1 - 1 - 10 - 10 - 10 - 10 - 6 < 6 by omega)]
  rw [sx_atl, if_neg (show ¬ 277 + j - 1 - 1 - 10 - 10 - 10 - 10 - 6 - 6 < 1 by omega)]
  rw [sx_atl, if_neg (show ¬ 277 + j - 1 - 1 - 10 - 10 - 10 - 10 - 6 - 6 - 1 < 1 by omega)]
  rw [sx_atl, if_neg (show ¬ 277 + j - 1 - 1 - 10 - 10 - 10 - 10 - 6 - 6 - 1 - 1 < 1 by omega)]
  rw [sx_atl, if_neg (show ¬ 277 + j - 1 - 1 - 10 - 10 - 10 - 10 - 6 - 6 - 1 - 1 - 1 < 1 by omega)]
  rw [sx_atl, if_neg (show ¬ 277 + j - 1 - 1 - 10 - 10 - 10 - 10 - 6 - 6 - 1 - 1 - 1 - 1 < 1 by omega)]
  rw [sx_atl, if_neg (show ¬ 277 + j - 1 - 1 - 10 - 10 - 10 - 10 - 6 - 6 - 1 - 1 - 1 - 1 - 1 < 1 by omega)]
  rw [sx_atl, if_neg (show ¬ 277 + j - 1 - 1 - 10 - 10 - 10 - 10 - 6 - 6 - 1 - 1 - 1 - 1 - 1 - 1 < 1 by omega)]
  rw [sx_atl, if_neg (show ¬ 277 + j - 1 - 1 - 10 - 10 - 10 - 10 - 6 - 6 - 1 - 1 - 1 - 1 - 1 - 1 - 1 < 1 by omega)]
  rw [sx_atl, if_neg (show ¬ 277 + j - 1 - 1 - 10 - 10 - 10 - 10 - 6 - 6 - 1 - 1 - 1 - 1 - 1 - 1 - 1 - 1 < 3 by omega)]
  rw [sx_atl, if_neg (show ¬ 277 + j - 1 - 1 - 10 - 10 - 10 - 10 - 6 - 6 - 1 - 1 - 1 - 1 - 1 - 1 - 1 - 1 - 3 < 1 by omega)]
  rw [sx_atl, if_neg (show ¬ 277 + j - 1 - 1 - 10 - 10 - 10 - 10 - 6 - 6 - 1 - 1 - 1 - 1 - 1 - 1 - 1 - 1 - 3 - 1 < 10 by omega)]
  rw [sx_atl, if_neg (show ¬ 277 + j - 1 - 1 - 10 - 10 - 10 - 10 - 6 - 6 - 1 - 1 - 1 - 1 - 1 - 1 - 1 - 1 - 3 - 1 - 10 < 10 by omega)]
  rw [sx_atl, if_neg (show ¬ 277 + j - 1 - 1 - 10 - 10 - 10 - 10 - 6 - 6 - 1 - 1 - 1 - 1 - 1 - 1 - 1 - 1 - 3 - 1 - 10 - 10 < 10 by omega)]
  rw [sx_atl, if_neg (show ¬ 277 + j - 1 - 1 - 10 - 10 - 10 - 10 - 6 - 6 - 1 - 1 - 1 - 1 - 1 - 1 - 1 - 1 - 3 - 1 - 10 - 10 - 10 < 1 by omega)]
  rw [sx_atl, if_neg (show ¬ 277 + j - 1 - 1 - 10 - 10 - 10 - 10 - 6 - 6 - 1 - 1 - 1 - 1 - 1 - 1 - 1 - 1 - 3 - 1 - 10 - 10 - 10 - 1 < 180 by omega)]
  rfl
theorem lw_tZ : (∀ c ∈ z9.2.2.2.2.1, (sx_atl (z9.1 c.2.1) c.2.2.1).isSome = true ∧ ∀ j, j < c.2.2.2.2 → (sx_atl (z9.1 c.2.1) (c.2.2.2.1 + j)).isSome = true) ∧ ∀ c ∈ z9.2.2.2.2.2.1, ∀ j, j < c.2.2.2 - c.2.2.1 → (sx_atl (z9.1 c.2.1) (c.2.2.1 + j)).isSome = true := by decide +kernel
theorem lw_tM (hC : sx_CsOk z9 hd_C) {σ σ1 : am_S} {m : Nat} (hM : sx_M z9 hd_C σ m 0 σ1) (e : ∀ k, k < 277 → σ1.2.1 120 k = σ.2.1 120 k) : sx_M z9 hd_C σ m 0 (lw_t σ σ1) := by
  have t : ∀ (o k : Nat) (lo hi : Int) (u : Nat), sx_atl (z9.1 o) k = some (lo, hi, u) → (lw_t σ σ1).2.1 o k = σ1.2.1 o k := by
    intro o k lo hi u h
    by_cases q : o = 120
    · subst q
      by_cases hk : k < 277
      · rw [lw_t120, e k hk]
      · rw [show k = 277 + (k - 277) by omega, lw_ta] at h
        cases h
    · rw [lw_t1 σ σ1 q]
  have t' : ∀ o k, (sx_atl (z9.1 o) k).isSome = true → (lw_t σ σ1).2.1 o k = σ1.2.1 o k := by
    intro o k h
    obtain ⟨⟨lo, hi, u⟩, h⟩ := Option.isSome_iff_exists.mp h
    exact t o k lo hi u h
  refine ⟨hM.1, hM.2.1, fun o k lo hi u h => by rw [t o k lo hi u h]; exact hM.2.2.1 o k lo hi u h, fun o k lo hi u h => by rw [t o k lo hi u h]; exact hM.2.2.2.1 o k lo hi u h, fun o k lo hi u h b => by rw [t o k lo hi u h]; exact hM.2.2.2.2.1 o k lo hi u h b, fun c hc b => ?_, fun c hc b => ?_, hM.2.2.2.2.2.2.2⟩
  · obtain ⟨w1, w2⟩ := lw_tZ.1 c hc
    intro j hj hlt
    rw [t' _ _ w1] at hlt
    rw [t' _ _ (w2 j hj)]
    exact hM.2.2.2.2.2.1 c hc b j hj hlt
  · refine hC c hc σ1 _ (fun k h1 h2 => ?_) (hM.2.2.2.2.2.2.1 c hc b)
    have := lw_tZ.2 c hc (k - c.2.2.1) (by omega)
    rw [show c.2.2.1 + (k - c.2.2.1) = k by omega] at this
    exact t' _ _ this
theorem lw_tE {σ σ1 : am_S} : pk_E σ1.2.1 (lw_t σ σ1).2.1 := by
  have q : ∀ {o : Nat}, o ≠ 120 → ∀ k, (lw_t σ σ1).2.1 o k = σ1.2.1 o k := fun h k => congrFun (lw_t1 σ σ1 h) k
  exact ⟨fun y _ _ => q (by decide) y, fun y _ => q (by decide) y, fun y _ => q (by decide) y, fun y _ => ⟨q (by decide) y, q (by decide) y⟩, fun y _ => ⟨q (by decide) y, q (by decide) y, q (by decide) y⟩⟩
/-- between turns, behind the class's call -/
theorem rp_t (hC : sx_CsOk z9 hd_C) {σ σ1 : am_S} {m : Nat} (hE : sx_M z9 hd_C σ 0 0 σ) (hM : sx_M z9 hd_C σ m 0 σ1) (hm : (Nat.land m lw_mX).beq 0 = true) (ho : rl_out m 120 0 277 = true) (h : lw_rp σ) (p : pk_ok (σ.2.1 120) σ1) : sx_M z9 hd_C σ m 0 (lw_t σ σ1) ∧ lw_rp (lw_t σ σ1) := by
  have e := rl_o0 hM ho
  have hT := lw_tM hC hM e
  exact ⟨hT, rp_next hE hT hm h (pk_okc (fun _ _ => rfl) (pn_BM hE) (pl_B6M hE) lw_tE (fun _ _ => rfl) p)⟩
theorem pb_Kf {s : Nat → Int32} {m m' : Nat → Nat → Int32} (h : pb_K s m) (e12 : m' 68 12 = m 68 12) (e13 : m' 68 13 = m 68 13) (e14 : m' 68 14 = m 68 14) (e : ∀ i, m' 75 i = m 75 i ∧ m' 76 i = m 76 i ∧ m' 77 i = m 77 i) : pb_K s m' := ⟨by rw [e13]; exact h.1, by rw [e14]; exact h.2.1, by rw [e12]; exact h.2.2.1, fun i hi => by rw [(e i).1, (e i).2.1, (e i).2.2]; exact h.2.2.2 i hi⟩
theorem ax_SJ {σ : am_S} (h : ax_S σ) (J : List am_sh) (m : Nat → Nat → Int32) (l : Nat → Nat → Int64) : ax_S (σ.1 ++ J, m, l, σ.2.2.2) := ⟨fun o h1 q => by
  have := h.1 o h1 q
  show (σ.1 ++ J)[o]? = some h1
  rw [List.getElem?_append_left (List.getElem?_eq_some_iff.mp this).1]
  exact this, h.2⟩
def lw_m_X11_best : Nat := 25358137494511931824912309675992797112904671649733833062142114033280347322722793254772028282607545018944370959676342176586352682856128905788025870966221099691602560831952244040099112848468469170546972424086723762162034867258079849747424942200109412514227821470690842771456
theorem lw_ct_X11_best (G : sx_G0 g L xs z9 hd_C ex_mt) (hct : lw_hct g) {σ : am_S} (hM : sx_M z9 hd_C σ 0 0 σ) (a1 : Int32) : am_K g 60 tX11_best.1 0 0 0 (lv_args 0 [.ref 0, .int a1]) [] σ (fun r σ' => ∀ v, r = some v → sx_M z9 hd_C σ lw_m_X11_best 0 σ') := by
  have lo : ∀ x : Int32, (-2147483648 : Int) ≤ 1 * x.toInt + 0 ∧ 1 * x.toInt + 0 ≤ (2147483647 : Int) := fun x => by
    have h1 := Int32.le_toInt x
    have h2 := Int32.toInt_lt x
    omega
  have A := hct 20 tX11_best k9_254 rfl (List.Mem.head _) (lv_args 0 [.ref 0, .int a1]) [a1.toInt] σ ⟨⟨a1, by simp [lv_args, Value.category], rfl⟩, trivial⟩ (fun q hq => by
      have e : q = (0, .inr (some (false, 0))) := List.mem_singleton.mp hq
      subst e
      exact ⟨.ref 0, by simp [lv_args, Value.category], rfl⟩) (fun q hq => by
      have hq' : q ∈ [([((1 : Int), 0)], (-2147483648 : Int), (2147483647 : Int))] := hq
      simp only [List.mem_cons, List.not_mem_nil, or_false] at hq'
      rcases hq' with rfl
      · exact ⟨1 * a1.toInt + 0, rfl, (lo a1).1, (lo a1).2⟩) hM
  refine kr_mono ?_ (kr_less (d := 60) (by decide) (Nat.le_refl _) (Nat.le_refl _) A)
  intro r σ' p v hv
  subst hv
  exact sx_PostM p (by decide +kernel)
def lw_m_X11_sale : Nat := 25358137494511931824912309675992797112904671649733833062142114033280347322722793254772028282607545018944370959676342176586352682856128905788025870966221099691602560831952244040099112848468469170546972424086723762162034867258079849747424942200109412514227821470690842771456
theorem lw_ct_X11_sale (G : sx_G0 g L xs z9 hd_C ex_mt) (hct : lw_hct g) {σ : am_S} (hM : sx_M z9 hd_C σ 0 0 σ) (a1 a2 : Int32) : am_K g 60 tX11_sale.1 0 0 0 (lv_args 0 [.ref 0, .int a1, .int a2]) [] σ (fun r σ' => ∀ v, r = some v → sx_M z9 hd_C σ lw_m_X11_sale 0 σ') := by
  have lo : ∀ x : Int32, (-2147483648 : Int) ≤ 1 * x.toInt + 0 ∧ 1 * x.toInt + 0 ≤ (2147483647 : Int) := fun x => by
    have h1 := Int32.le_toInt x
    have h2 := Int32.toInt_lt x
    omega
  have A := hct 59 tX11_sale k9_258 rfl (List.Mem.head _) (lv_args 0 [.ref 0, .int a1, .int a2]) [a1.toInt, a2.toInt] σ ⟨⟨a1, by simp [lv_args, Value.category], rfl⟩, ⟨a2, by simp [lv_args, Value.category], rfl⟩, trivial⟩ (fun q hq => by
      have e : q = (0, .inr (some (false, 0))) := List.mem_singleton.mp hq
      subst e
      exact ⟨.ref 0, by simp [lv_args, Value.category], rfl⟩) (fun q hq => by
      have hq' : q ∈ [([((1 : Int), 0)], (-2147483648 : Int), (2147483647 : Int)), ([((1 : Int), 1)], (-2147483648 : Int), (2147483647 : Int))] := hq
      simp only [List.mem_cons, List.not_mem_nil, or_false] at hq'
      rcases hq' with rfl | rfl
      · exact ⟨1 * a1.toInt + 0, rfl, (lo a1).1, (lo a1).2⟩
      · exact ⟨1 * a2.toInt + 0, rfl, (lo a2).1, (lo a2).2⟩) hM
  refine kr_mono ?_ (kr_less (d := 60) (by decide) (Nat.le_refl _) (Nat.le_refl _) A)
  intro r σ' p v hv
  subst hv
  exact sx_PostM p (by decide +kernel)
def lw_m_X11_sellers : Nat := 25358137494511931824912309675992797112904671649733833062142114033280347322722793254772028282607545018944370959676342176586352682856128905788025870966221099691602560831952244040099112848468469170546568209508431279212696175911493871197751238100936309484851617914475589402624
theorem lw_ct_X11_sellers (G : sx_G0 g L xs z9 hd_C ex_mt) (hct : lw_hct g) {σ : am_S} (hM : sx_M z9 hd_C σ 0 0 σ) : am_K g 60 tX11_sellers.1 0 0 0 (lv_args 0 [.ref 0]) [] σ (fun r σ' => ∀ v, r = some v → sx_M z9 hd_C σ lw_m_X11_sellers 0 σ') := by
  have lo : ∀ x : Int32, (-2147483648 : Int) ≤ 1 * x.toInt + 0 ∧ 1 * x.toInt + 0 ≤ (2147483647 : Int) := fun x => by
    have h1 := Int32.le_toInt x
    have h2 := Int32.toInt_lt x
    omega
  have A := hct 61 tX11_sellers k9_278 rfl (List.Mem.head _) (lv_args 0 [.ref 0]) [] σ trivial (fun q hq => by
      have e : q = (0, .inr (some (false, 0))) := List.mem_singleton.mp hq
      subst e
      exact ⟨.ref 0, by simp [lv_args, Value.category], rfl⟩) (fun q hq => by cases hq) hM
  refine kr_mono ?_ (kr_less (d := 60) (by decide) (Nat.le_refl _) (Nat.le_refl _) A)
  intro r σ' p v hv
  subst hv
  exact sx_PostM p (by decide +kernel)
def lw_m_X11_border : Nat := 25358137494511931824912309675992797112904671649733833062142114033280347322722793254772028282607545018944370959676342176586352682856128905788025870966221099691602560831952244040099112848468469170546568209508431279212696175911493871197751238100936309484851617914475589402624
theorem lw_ct_X11_border (G : sx_G0 g L xs z9 hd_C ex_mt) (hct : lw_hct g) {σ : am_S} (hM : sx_M z9 hd_C σ 0 0 σ) : am_K g 60 tX11_border.1 0 0 0 (lv_args 0 [.ref 0]) [] σ (fun r σ' => ∀ v, r = some v → sx_M z9 hd_C σ lw_m_X11_border 0 σ') := by
  have lo : ∀ x : Int32, (-2147483648 : Int) ≤ 1 * x.toInt + 0 ∧ 1 * x.toInt + 0 ≤ (2147483647 : Int) := fun x => by
    have h1 := Int32.le_toInt x
    have h2 := Int32.toInt_lt x
    omega
  have A := hct 22 tX11_border k9_255 rfl (List.Mem.head _) (lv_args 0 [.ref 0]) [] σ trivial (fun q hq => by
      have e : q = (0, .inr (some (false, 0))) := List.mem_singleton.mp hq
      subst e
      exact ⟨.ref 0, by simp [lv_args, Value.category], rfl⟩) (fun q hq => by cases hq) hM
  refine kr_mono ?_ (kr_less (d := 60) (by decide) (Nat.le_refl _) (Nat.le_refl _) A)
  intro r σ' p v hv
  subst hv
  exact sx_PostM p (by decide +kernel)
def lw_m_L_plan : Nat := 25358137494511931824912309675992797112904671649733833062142114033280347322722793254772028282607545018944370959676342176586352682856128905788025870966221099691602560831952244040099112848468469170546575718608456587346096904925872028601443504907498030865423634740831083036672
theorem lw_ct_L_plan (G : sx_G0 g L xs z9 hd_C ex_mt) (hct : lw_hct g) {σ : am_S} (hM : sx_M z9 hd_C σ 0 0 σ) (a1 a2 a3 a4 : Int32) : am_K g 60 tL_plan.1 1 6 0 (lv_args 0 [.ref 0, .int a1, .int a2, .int a3, .int a4, .ref 138]) [] σ (fun r σ' => ∀ v, r = some v → sx_M z9 hd_C σ lw_m_L_plan 0 σ') := by
  have lo : ∀ x : Int32, (-2147483648 : Int) ≤ 1 * x.toInt + 0 ∧ 1 * x.toInt + 0 ≤ (2147483647 : Int) := fun x => by
    have h1 := Int32.le_toInt x
    have h2 := Int32.toInt_lt x
    omega
  have A := hct 8 tL_plan k9_251 rfl (List.Mem.head _) (lv_args 0 [.ref 0, .int a1, .int a2, .int a3, .int a4, .ref 138]) [a1.toInt, a2.toInt, a3.toInt, a4.toInt] σ ⟨⟨a1, by simp [lv_args, Value.category], rfl⟩, ⟨a2, by simp [lv_args, Value.category], rfl⟩, ⟨a3, by simp [lv_args, Value.category], rfl⟩, ⟨a4, by simp [lv_args, Value.category], rfl⟩, trivial⟩ (fun q hq => by
      rcases List.mem_cons.mp hq with e | hq2
      · subst e
        exact ⟨.ref 0, by simp [lv_args, Value.category], rfl⟩
      · have e := List.mem_singleton.mp hq2
        subst e
        exact ⟨.ref 138, by simp [lv_args, Value.category], rfl⟩) (fun q hq => by
      have hq' : q ∈ [([((1 : Int), 0)], (-2147483648 : Int), (2147483647 : Int)), ([((1 : Int), 1)], (-2147483648 : Int), (2147483647 : Int)), ([((1 : Int), 2)], (-2147483648 : Int), (2147483647 : Int)), ([((1 : Int), 3)], (-2147483648 : Int), (2147483647 : Int))] := hq
      simp only [List.mem_cons, List.not_mem_nil, or_false] at hq'
      rcases hq' with rfl | rfl | rfl | rfl
      · exact ⟨1 * a1.toInt + 0, rfl, (lo a1).1, (lo a1).2⟩
      · exact ⟨1 * a2.toInt + 0, rfl, (lo a2).1, (lo a2).2⟩
      · exact ⟨1 * a3.toInt + 0, rfl, (lo a3).1, (lo a3).2⟩
      · exact ⟨1 * a4.toInt + 0, rfl, (lo a4).1, (lo a4).2⟩) hM
  refine kr_mono ?_ (kr_less (d := 60) (by decide) (Nat.le_refl _) (Nat.le_refl _) A)
  intro r σ' p v hv
  subst hv
  exact sx_PostM p (by decide +kernel)
def lw_m_L_earns : Nat := 25358137494511931824912309675992797112904671649733833062142114033280347322722793254772028282607545018944370959676342176586352682856128905788025870966221099691602560831952244040099112848468469170546568209508431279212696175911493871197751238100936309484851617914475589402624
theorem lw_ct_L_earns (G : sx_G0 g L xs z9 hd_C ex_mt) (hct : lw_hct g) {σ : am_S} (hM : sx_M z9 hd_C σ 0 0 σ) (a1 a2 a3 : Int32) : am_K g 60 tL_earns.1 1 6 0 (lv_args 0 [.ref 0, .int a1, .int a2, .int a3, .ref 138]) [] σ (fun r σ' => ∀ v, r = some v → sx_M z9 hd_C σ lw_m_L_earns 0 σ') := by
  have lo : ∀ x : Int32, (-2147483648 : Int) ≤ 1 * x.toInt + 0 ∧ 1 * x.toInt + 0 ≤ (2147483647 : Int) := fun x => by
    have h1 := Int32.le_toInt x
    have h2 := Int32.toInt_lt x
    omega
  have A := hct 5 tL_earns k9_267 rfl (List.Mem.head _) (lv_args 0 [.ref 0, .int a1, .int a2, .int a3, .ref 138]) [a1.toInt, a2.toInt, a3.toInt] σ ⟨⟨a1, by simp [lv_args, Value.category], rfl⟩, ⟨a2, by simp [lv_args, Value.category], rfl⟩, ⟨a3, by simp [lv_args, Value.category], rfl⟩, trivial⟩ (fun q hq => by
      rcases List.mem_cons.mp hq with e | hq2
      · subst e
        exact ⟨.ref 0, by simp [lv_args, Value.category], rfl⟩
      · have e := List.mem_singleton.mp hq2
        subst e
        exact ⟨.ref 138, by simp [lv_args, Value.category], rfl⟩) (fun q hq => by
      have hq' : q ∈ [([((1 : Int), 0)], (-2147483648 : Int), (2147483647 : Int)), ([((1 : Int), 1)], (-2147483648 : Int), (2147483647 : Int)), ([((1 : Int), 2)], (-2147483648 : Int), (2147483647 : Int))] := hq
      simp only [List.mem_cons, List.not_mem_nil, or_false] at hq'
      rcases hq' with rfl | rfl | rfl
      · exact ⟨1 * a1.toInt + 0, rfl, (lo a1).1, (lo a1).2⟩
      · exact ⟨1 * a2.toInt + 0, rfl, (lo a2).1, (lo a2).2⟩
      · exact ⟨1 * a3.toInt + 0, rfl, (lo a3).1, (lo a3).2⟩) hM
  refine kr_mono ?_ (kr_less (d := 60) (by decide) (Nat.le_refl _) (Nat.le_refl _) A)
  intro r σ' p v hv
  subst hv
  exact sx_PostM p (by decide +kernel)
def lw_m_L_curve : Nat := 25358137494511931824912309675992797112904671649733833062142114033280347322722793254772028282607545018944370959676342176586352682856128905788025870966221099691602560831952244040099112848468469170546568209508431279212696175911493871197751238100936309484851617914475589402624
theorem lw_ct_L_curve (G : sx_G0 g L xs z9 hd_C ex_mt) (hct : lw_hct g) {σ : am_S} (hM : sx_M z9 hd_C σ 0 0 σ) (a1 a2 : Int32) : am_K g 60 tL_curve.1 1 6 0 (lv_args 0 [.ref 0, .int a1, .int a2, .ref 138]) [] σ (fun r σ' => ∀ v, r = some v → sx_M z9 hd_C σ lw_m_L_curve 0 σ') := by
  have lo : ∀ x : Int32, (-2147483648 : Int) ≤ 1 * x.toInt + 0 ∧ 1 * x.toInt + 0 ≤ (2147483647 : Int) := fun x => by
    have h1 := Int32.le_toInt x
    have h2 := Int32.toInt_lt x
    omega
  have A := hct 4 tL_curve k9_268 rfl (List.Mem.head _) (lv_args 0 [.ref 0, .int a1, .int a2, .ref 138]) [a1.toInt, a2.toInt] σ ⟨⟨a1, by simp [lv_args, Value.category], rfl⟩, ⟨a2, by simp [lv_args, Value.category], rfl⟩, trivial⟩ (fun q hq => by
      rcases List.mem_cons.mp hq with e | hq2
      · subst e
        exact ⟨.ref 0, by simp [lv_args, Value.category], rfl⟩
      · have e := List.mem_singleton.mp hq2
        subst e
        exact ⟨.ref 138, by simp [lv_args, Value.category], rfl⟩) (fun q hq => by
      have hq' : q ∈ [([((1 : Int), 0)], (-2147483648 : Int), (2147483647 : Int)), ([((1 : Int), 1)], (-2147483648 : Int), (2147483647 : Int))] := hq
      simp only [List.mem_cons, List.not_mem_nil, or_false] at hq'
      rcases hq' with rfl | rfl
      · exact ⟨1 * a1.toInt + 0, rfl, (lo a1).1, (lo a1).2⟩
      · exact ⟨1 * a2.toInt + 0, rfl, (lo a2).1, (lo a2).2⟩) hM
  refine kr_mono ?_ (kr_less (d := 60) (by decide) (Nat.le_refl _) (Nat.le_refl _) A)
  intro r σ' p v hv
  subst hv
  exact sx_PostM p (by decide +kernel)
theorem sx_PostV {env : List Int} {σ σ' : am_S} {ps : List sx_Po} {r : Option (Option Value)} {m : Nat} (h : sx_Post z9 hd_C env σ ps r σ') (hm : ∀ p ∈ ps, ((Nat.lor p.1 m).beq m && p.2.1) = true) : ∃ y : Int32, r = some (some (.int y)) ∧ sx_M z9 hd_C σ m 0 σ' := by
  cases r with
  | none => exact (show False from h).elim
  | some v =>
    obtain ⟨p, hp, hM, ks, hk, hv⟩ := h
    have h1 := hm p hp
    rw [Bool.and_eq_true] at h1
    rw [h1.2] at hv
    cases v with
    | none => exact (show False from hv).elim
    | some w =>
      obtain ⟨n, rfl, -⟩ := hv
      exact ⟨n, rfl, sx_M_mask h1.1 hM⟩
def lw_m_X12_best : Nat := 731659816480310679230061851284401440833621690045925788829365804077981364760240095021132785918591521307649898098683626541358937463510335248924672
theorem lw_ct_X12_best (G : sx_G0 g L xs z9 hd_C ex_mt) (hct : lw_hct g) {σ : am_S} (hM : sx_M z9 hd_C σ 0 0 σ) (a1 : Int32) : am_K g 60 tX12_best.1 0 0 0 (lv_args 0 [.ref 118, .int a1]) [] σ (fun r σ' => ∀ v, r = some v → sx_M z9 hd_C σ lw_m_X12_best 0 σ') := by
  have lo : ∀ x : Int32, (-2147483648 : Int) ≤ 1 * x.toInt + 0 ∧ 1 * x.toInt + 0 ≤ (2147483647 : Int) := fun x => by
    have h1 := Int32.le_toInt x
    have h2 := Int32.toInt_lt x
    omega
  have A := hct 79 tX12_best k9_269 rfl (List.Mem.head _) (lv_args 0 [.ref 118, .int a1]) [a1.toInt] σ ⟨⟨a1, by simp [lv_args, Value.category], rfl⟩, trivial⟩ (fun q hq => by
      have e : q = (0, .inr (some (false, 118))) := List.mem_singleton.mp hq
      subst e
      exact ⟨.ref 118, by simp [lv_args, Value.category], rfl⟩) (fun q hq => by
      have hq' : q ∈ [([((1 : Int), 0)], (-2147483648 : Int), (2147483647 : Int))] := hq
      simp only [List.mem_cons, List.not_mem_nil, or_false] at hq'
      rcases hq' with rfl
      · exact ⟨1 * a1.toInt + 0, rfl, (lo a1).1, (lo a1).2⟩) hM
  refine kr_mono ?_ (kr_less (d := 60) (by decide) (Nat.le_refl _) (Nat.le_refl _) A)
  intro r σ' p v hv
  subst hv
  exact sx_PostM p (by decide +kernel)
theorem lw_cv_X12_best (G : sx_G0 g L xs z9 hd_C ex_mt) (hct : lw_hct g) {σ : am_S} (hM : sx_M z9 hd_C σ 0 0 σ) (a1 : Int32) : am_K g 60 tX12_best.1 0 0 0 (lv_args 0 [.ref 118, .int a1]) [] σ (fun r σ' => ∃ y : Int32, r = some (some (.int y)) ∧ sx_M z9 hd_C σ lw_m_X12_best 0 σ') := by
  have lo : ∀ x : Int32, (-2147483648 : Int) ≤ 1 * x.toInt + 0 ∧ 1 * x.toInt + 0 ≤ (2147483647 : Int) := fun x => by
    have h1 := Int32.le_toInt x
    have h2 := Int32.toInt_lt x
    omega
  have A := hct 79 tX12_best k9_269 rfl (List.Mem.head _) (lv_args 0 [.ref 118, .int a1]) [a1.toInt] σ ⟨⟨a1, by simp [lv_args, Value.category], rfl⟩, trivial⟩ (fun q hq => by
      have e : q = (0, .inr (some (false, 118))) := List.mem_singleton.mp hq
      subst e
      exact ⟨.ref 118, by simp [lv_args, Value.category], rfl⟩) (fun q hq => by
      have hq' : q ∈ [([((1 : Int), 0)], (-2147483648 : Int), (2147483647 : Int))] := hq
      simp only [List.mem_cons, List.not_mem_nil, or_false] at hq'
      rcases hq' with rfl
      · exact ⟨1 * a1.toInt + 0, rfl, (lo a1).1, (lo a1).2⟩) hM
  refine kr_mono ?_ (kr_less (d := 60) (by decide) (Nat.le_refl _) (Nat.le_refl _) A)
  intro r σ' p
  exact sx_PostV p (by decide +kernel)
def lw_m_X12_sale : Nat := 731659816480310679230061851284401440833621690045925788829365804077981364760240095021132785918591521307649898098683626541358937463510335248924672
theorem lw_ct_X12_sale (G : sx_G0 g L xs z9 hd_C ex_mt) (hct : lw_hct g) {σ : am_S} (hM : sx_M z9 hd_C σ 0 0 σ) (a1 a2 : Int32) : am_K g 60 tX12_sale.1 0 0 0 (lv_args 0 [.ref 118, .int a1, .int a2]) [] σ (fun r σ' => ∀ v, r = some v → sx_M z9 hd_C σ lw_m_X12_sale 0 σ') := by
  have lo : ∀ x : Int32, (-2147483648 : Int) ≤ 1 * x.toInt + 0 ∧ 1 * x.toInt + 0 ≤ (2147483647 : Int) := fun x => by
    have h1 := Int32.le_toInt x
    have h2 := Int32.toInt_lt x
    omega
  have A := hct 161 tX12_sale k9_272 rfl (List.Mem.head _) (lv_args 0 [.ref 118, .int a1, .int a2]) [a1.toInt, a2.toInt] σ ⟨⟨a1, by simp [lv_args, Value.category], rfl⟩, ⟨a2, by simp [lv_args, Value.category], rfl⟩, trivial⟩ (fun q hq => by
      have e : q = (0, .inr (some (false, 118))) := List.mem_singleton.mp hq
      subst e
      exact ⟨.ref 118, by simp [lv_args, Value.category], rfl⟩) (fun q hq => by
      have hq' : q ∈ [([((1 : Int), 0)], (-2147483648 : Int), (2147483647 : Int)), ([((1 : Int), 1)], (-2147483648 : Int), (2147483647 : Int))] := hq
      simp only [List.mem_cons, List.not_mem_nil, or_false] at hq'
      rcases hq' with rfl | rfl
      · exact ⟨1 * a1.toInt + 0, rfl, (lo a1).1, (lo a1).2⟩
      · exact ⟨1 * a2.toInt + 0, rfl, (lo a2).1, (lo a2).2⟩) hM
  refine kr_mono ?_ (kr_less (d := 60) (by decide) (Nat.le_refl _) (Nat.le_refl _) A)
  intro r σ' p v hv
  subst hv
  exact sx_PostM p (by decide +kernel)
theorem lw_cv_X12_sale (G : sx_G0 g L xs z9 hd_C ex_mt) (hct : lw_hct g) {σ : am_S} (hM : sx_M z9 hd_C σ 0 0 σ) (a1 a2 : Int32) : am_K g 60 tX12_sale.1 0 0 0 (lv_args 0 [.ref 118, .int a1, .int a2]) [] σ (fun r σ' => ∃ y : Int32, r = some (some (.int y)) ∧ sx_M z9 hd_C σ lw_m_X12_sale 0 σ') := by
  have lo : ∀ x : Int32, (-2147483648 : Int) ≤ 1 * x.toInt + 0 ∧ 1 * x.toInt + 0 ≤ (2147483647 : Int) := fun x => by
    have h1 := Int32.le_toInt x
    have h2 := Int32.toInt_lt x
    omega
  have A := hct 161 tX12_sale k9_272 rfl (List.Mem.head _) (lv_args 0 [.ref 118, .int a1, .int a2]) [a1.toInt, a2.toInt] σ ⟨⟨a1, by simp [lv_args, Value.category], rfl⟩, ⟨a2, by simp [lv_args, Value.category], rfl⟩, trivial⟩ (fun q hq => by
      have e : q = (0, .inr (some (false, 118))) := List.mem_singleton.mp hq
      subst e
      exact ⟨.ref 118, by simp [lv_args, Value.category], rfl⟩) (fun q hq => by
      have hq' : q ∈ [([((1 : Int), 0)], (-2147483648 : Int), (2147483647 : Int)), ([((1 : Int), 1)], (-2147483648 : Int), (2147483647 : Int))] := hq
      simp only [List.mem_cons, List.not_mem_nil, or_false] at hq'
      rcases hq' with rfl | rfl
      · exact ⟨1 * a1.toInt + 0, rfl, (lo a1).1, (lo a1).2⟩
      · exact ⟨1 * a2.toInt + 0, rfl, (lo a2).1, (lo a2).2⟩) hM
  refine kr_mono ?_ (kr_less (d := 60) (by decide) (Nat.le_refl _) (Nat.le_refl _) A)
  intro r σ' p
  exact sx_PostV p (by decide +kernel)
def lw_m_X12_sellers : Nat := 146331963296062135846012370146554671756236829324337136641263280877107813945017787897299283934746671914221399953620157180073623052350989889699840
theorem lw_ct_X12_sellers (G : sx_G0 g L xs z9 hd_C ex_mt) (hct : lw_hct g) {σ : am_S} (hM : sx_M z9 hd_C σ 0 0 σ) : am_K g 60 tX12_sellers.1 0 0 0 (lv_args 0 [.ref 118]) [] σ (fun r σ' => ∀ v, r = some v → sx_M z9 hd_C σ lw_m_X12_sellers 0 σ') := by
  have lo : ∀ x : Int32, (-2147483648 : Int) ≤ 1 * x.toInt + 0 ∧ 1 * x.toInt + 0 ≤ (2147483647 : Int) := fun x => by
    have h1 := Int32.le_toInt x
    have h2 := Int32.toInt_lt x
    omega
  have A := hct 165 tX12_sellers k9_273 rfl (List.Mem.head _) (lv_args 0 [.ref 118]) [] σ trivial (fun q hq => by
      have e : q = (0, .inr (some (false, 118))) := List.mem_singleton.mp hq
      subst e
      exact ⟨.ref 118, by simp [lv_args, Value.category], rfl⟩) (fun q hq => by cases hq) hM
  refine kr_mono ?_ (kr_less (d := 60) (by decide) (Nat.le_refl _) (Nat.le_refl _) A)
  intro r σ' p v hv
  subst hv
  exact sx_PostM p (by decide +kernel)
theorem lw_cv_X12_sellers (G : sx_G0 g L xs z9 hd_C ex_mt) (hct : lw_hct g) {σ : am_S} (hM : sx_M z9 hd_C σ 0 0 σ) : am_K g 60 tX12_sellers.1 0 0 0 (lv_args 0 [.ref 118]) [] σ (fun r σ' => ∃ y : Int32, r = some (some (.int y)) ∧ sx_M z9 hd_C σ lw_m_X12_sellers 0 σ') := by
  have lo : ∀ x : Int32, (-2147483648 : Int) ≤ 1 * x.toInt + 0 ∧ 1 * x.toInt + 0 ≤ (2147483647 : Int) := fun x => by
    have h1 := Int32.le_toInt x
    have h2 := Int32.toInt_lt x
    omega
  have A := hct 165 tX12_sellers k9_273 rfl (List.Mem.head _) (lv_args 0 [.ref 118]) [] σ trivial (fun q hq => by
      have e : q = (0, .inr (some (false, 118))) := List.mem_singleton.mp hq
      subst e
      exact ⟨.ref 118, by simp [lv_args, Value.category], rfl⟩) (fun q hq => by cases hq) hM
  refine kr_mono ?_ (kr_less (d := 60) (by decide) (Nat.le_refl _) (Nat.le_refl _) A)
  intro r σ' p
  exact sx_PostV p (by decide +kernel)
def lw_m_X12_border : Nat := 146331963296062135846012370146554671756236829324337136641263280877107813945017787897299283934746671914221399953620157180073623052350989889699840
theorem lw_ct_X12_border (G : sx_G0 g L xs z9 hd_C ex_mt) (hct : lw_hct g) {σ : am_S} (hM : sx_M z9 hd_C σ 0 0 σ) : am_K g 60 tX12_border.1 0 0 0 (lv_args 0 [.ref 118]) [] σ (fun r σ' => ∀ v, r = some v → sx_M z9 hd_C σ lw_m_X12_border 0 σ') := by
  have lo : ∀ x : Int32, (-2147483648 : Int) ≤ 1 * x.toInt + 0 ∧ 1 * x.toInt + 0 ≤ (2147483647 : Int) := fun x => by
    have h1 := Int32.le_toInt x
    have h2 := Int32.toInt_lt x
    omega
  have A := hct 84 tX12_border k9_270 rfl (List.Mem.head _) (lv_args 0 [.ref 118]) [] σ trivial (fun q hq => by
      have e : q = (0, .inr (some (false, 118))) := List.mem_singleton.mp hq
      subst e
      exact ⟨.ref 118, by simp [lv_args, Value.category], rfl⟩) (fun q hq => by cases hq) hM
  refine kr_mono ?_ (kr_less (d := 60) (by decide) (Nat.le_refl _) (Nat.le_refl _) A)
  intro r σ' p v hv
  subst hv
  exact sx_PostM p (by decide +kernel)
theorem lw_cv_X12_border (G : sx_G0 g L xs z9 hd_C ex_mt) (hct : lw_hct g) {σ : am_S} (hM : sx_M z9 hd_C σ 0 0 σ) : am_K g 60 tX12_border.1 0 0 0 (lv_args 0 [.ref 118]) [] σ (fun r σ' => ∃ y : Int32, r = some (some (.int y)) ∧ sx_M z9 hd_C σ lw_m_X12_border 0 σ') := by
  have lo : ∀ x : Int32, (-2147483648 : Int) ≤ 1 * x.toInt + 0 ∧ 1 * x.toInt + 0 ≤ (2147483647 : Int) := fun x => by
    have h1 := Int32.le_toInt x
    have h2 := Int32.toInt_lt x
    omega
  have A := hct 84 tX12_border k9_270 rfl (List.Mem.head _) (lv_args 0 [.ref 118]) [] σ trivial (fun q hq => by
      have e : q = (0, .inr (some (false, 118))) := List.mem_singleton.mp hq
      subst e
      exact ⟨.ref 118, by simp [lv_args, Value.category], rfl⟩) (fun q hq => by cases hq) hM
  refine kr_mono ?_ (kr_less (d := 60) (by decide) (Nat.le_refl _) (Nat.le_refl _) A)
  intro r σ' p
  exact sx_PostV p (by decide +kernel)
def lw_m_X12_drawn : Nat := 731659816480310765875989822820606561490024979547594318128319811873489098555190030212337989305106561816707838419201925836449492146862251460001792
theorem lw_ct_X12_drawn (G : sx_G0 g L xs z9 hd_C ex_mt) (hct : lw_hct g) {σ : am_S} (hM : sx_M z9 hd_C σ 0 0 σ) (a1 a2 : Int32) : am_K g 60 tX12_drawn.1 0 0 0 (lv_args 0 [.ref 118, .int a1, .int a2]) [] σ (fun r σ' => ∀ v, r = some v → sx_M z9 hd_C σ lw_m_X12_drawn 0 σ') := by
  have lo : ∀ x : Int32, (-2147483648 : Int) ≤ 1 * x.toInt + 0 ∧ 1 * x.toInt + 0 ≤ (2147483647 : Int) := fun x => by
    have h1 := Int32.le_toInt x
    have h2 := Int32.toInt_lt x
    omega
  have A := hct 99 tX12_drawn k9_279 rfl (List.Mem.head _) (lv_args 0 [.ref 118, .int a1, .int a2]) [a1.toInt, a2.toInt] σ ⟨⟨a1, by simp [lv_args, Value.category], rfl⟩, ⟨a2, by simp [lv_args, Value.category], rfl⟩, trivial⟩ (fun q hq => by
      have e : q = (0, .inr (some (false, 118))) := List.mem_singleton.mp hq
      subst e
      exact ⟨.ref 118, by simp [lv_args, Value.category], rfl⟩) (fun q hq => by
      have hq' : q ∈ [([((1 : Int), 0)], (-2147483648 : Int), (2147483647 : Int)), ([((1 : Int), 1)], (-2147483648 : Int), (2147483647 : Int))] := hq
      simp only [List.mem_cons, List.not_mem_nil, or_false] at hq'
      rcases hq' with rfl | rfl
      · exact ⟨1 * a1.toInt + 0, rfl, (lo a1).1, (lo a1).2⟩
      · exact ⟨1 * a2.toInt + 0, rfl, (lo a2).1, (lo a2).2⟩) hM
  refine kr_mono ?_ (kr_less (d := 60) (by decide) (Nat.le_refl _) (Nat.le_refl _) A)
  intro r σ' p v hv
  subst hv
  exact sx_PostM p (by decide +kernel)
theorem lw_cv_X12_drawn (G : sx_G0 g L xs z9 hd_C ex_mt) (hct : lw_hct g) {σ : am_S} (hM : sx_M z9 hd_C σ 0 0 σ) (a1 a2 : Int32) : am_K g 60 tX12_drawn.1 0 0 0 (lv_args 0 [.ref 118, .int a1, .int a2]) [] σ (fun r σ' => ∃ y : Int32, r = some (some (.int y)) ∧ sx_M z9 hd_C σ lw_m_X12_drawn 0 σ') := by
  have lo : ∀ x : Int32, (-2147483648 : Int) ≤ 1 * x.toInt + 0 ∧ 1 * x.toInt + 0 ≤ (2147483647 : Int) := fun x => by
    have h1 := Int32.le_toInt x
    have h2 := Int32.toInt_lt x
    omega
  have A := hct 99 tX12_drawn k9_279 rfl (List.Mem.head _) (lv_args 0 [.ref 118, .int a1, .int a2]) [a1.toInt, a2.toInt] σ ⟨⟨a1, by simp [lv_args, Value.category], rfl⟩, ⟨a2, by simp [lv_args, Value.category], rfl⟩, trivial⟩ (fun q hq => by
      have e : q = (0, .inr (some (false, 118))) := List.mem_singleton.mp hq
      subst e
      exact ⟨.ref 118, by simp [lv_args, Value.category], rfl⟩) (fun q hq => by
      have hq' : q ∈ [([((1 : Int), 0)], (-2147483648 : Int), (2147483647 : Int)), ([((1 : Int), 1)], (-2147483648 : Int), (2147483647 : Int))] := hq
      simp only [List.mem_cons, List.not_mem_nil, or_false] at hq'
      rcases hq' with rfl | rfl
      · exact ⟨1 * a1.toInt + 0, rfl, (lo a1).1, (lo a1).2⟩
      · exact ⟨1 * a2.toInt + 0, rfl, (lo a2).1, (lo a2).2⟩) hM
  refine kr_mono ?_ (kr_less (d := 60) (by decide) (Nat.le_refl _) (Nat.le_refl _) A)
  intro r σ' p
  exact sx_PostV p (by decide +kernel)
def lw_m_X12_luckiest : Nat := 731659816480310765875989822820606561490024979547594318128319811873489098555190030212337989305106561816707838419201925836449492146862251460001792
theorem lw_ct_X12_luckiest (G : sx_G0 g L xs z9 hd_C ex_mt) (hct : lw_hct g) {σ : am_S} (hM : sx_M z9 hd_C σ 0 0 σ) (a1 a2 : Int32) : am_K g 60 tX12_luckiest.1 0 0 0 (lv_args 0 [.ref 118, .int a1, .int a2]) [] σ (fun r σ' => ∀ v, r = some v → sx_M z9 hd_C σ lw_m_X12_luckiest 0 σ') := by
  have lo : ∀ x : Int32, (-2147483648 : Int) ≤ 1 * x.toInt + 0 ∧ 1 * x.toInt + 0 ≤ (2147483647 : Int) := fun x => by
    have h1 := Int32.le_toInt x
    have h2 := Int32.toInt_lt x
    omega
  have A := hct 136 tX12_luckiest k9_280 rfl (List.Mem.head _) (lv_args 0 [.ref 118, .int a1, .int a2]) [a1.toInt, a2.toInt] σ ⟨⟨a1, by simp [lv_args, Value.category], rfl⟩, ⟨a2, by simp [lv_args, Value.category], rfl⟩, trivial⟩ (fun q hq => by
      have e : q = (0, .inr (some (false, 118))) := List.mem_singleton.mp hq
      subst e
      exact ⟨.ref 118, by simp [lv_args, Value.category], rfl⟩) (fun q hq => by
      have hq' : q ∈ [([((1 : Int), 0)], (-2147483648 : Int), (2147483647 : Int)), ([((1 : Int), 1)], (-2147483648 : Int), (2147483647 : Int))] := hq
      simp only [List.mem_cons, List.not_mem_nil, or_false] at hq'
      rcases hq' with rfl | rfl
      · exact ⟨1 * a1.toInt + 0, rfl, (lo a1).1, (lo a1).2⟩
      · exact ⟨1 * a2.toInt + 0, rfl, (lo a2).1, (lo a2).2⟩) hM
  refine kr_mono ?_ (kr_less (d := 60) (by decide) (Nat.le_refl _) (Nat.le_refl _) A)
  intro r σ' p v hv
  subst hv
  exact sx_PostM p (by decide +kernel)
theorem lw_cv_X12_luckiest (G : sx_G0 g L xs z9 hd_C ex_mt) (hct : lw_hct g) {σ : am_S} (hM : sx_M z9 hd_C σ 0 0 σ) (a1 a2 : Int32) : am_K g 60 tX12_luckiest.1 0 0 0 (lv_args 0 [.ref 118, .int a1, .int a2]) [] σ (fun r σ' => ∃ y : Int32, r = some (some (.int y)) ∧ sx_M z9 hd_C σ lw_m_X12_luckiest 0 σ') := by
  have lo : ∀ x : Int32, (-2147483648 : Int) ≤ 1 * x.toInt + 0 ∧ 1 * x.toInt + 0 ≤ (2147483647 : Int) := fun x => by
    have h1 := Int32.le_toInt x
    have h2 := Int32.toInt_lt x
    omega
  have A := hct 136 tX12_luckiest k9_280 rfl (List.Mem.head _) (lv_args 0 [.ref 118, .int a1, .int a2]) [a1.toInt, a2.toInt] σ ⟨⟨a1, by simp [lv_args, Value.category], rfl⟩, ⟨a2, by simp [lv_args, Value.category], rfl⟩, trivial⟩ (fun q hq => by
      have e : q = (0, .inr (some (false, 118))) := List.mem_singleton.mp hq
      subst e
      exact ⟨.ref 118, by simp [lv_args, Value.category], rfl⟩) (fun q hq => by
      have hq' : q ∈ [([((1 : Int), 0)], (-2147483648 : Int), (2147483647 : Int)), ([((1 : Int), 1)], (-2147483648 : Int), (2147483647 : Int))] := hq
      simp only [List.mem_cons, List.not_mem_nil, or_false] at hq'
      rcases hq' with rfl | rfl
      · exact ⟨1 * a1.toInt + 0, rfl, (lo a1).1, (lo a1).2⟩
      · exact ⟨1 * a2.toInt + 0, rfl, (lo a2).1, (lo a2).2⟩) hM
  refine kr_mono ?_ (kr_less (d := 60) (by decide) (Nat.le_refl _) (Nat.le_refl _) A)
  intro r σ' p
  exact sx_PostV p (by decide +kernel)
def lw_m_X12_stood : Nat := 731659816480310679230061851284401511289899173260922625513783707758092186030716562270728907137320667273920651536936930452328889006571426206973952
theorem lw_ct_X12_stood (G : sx_G0 g L xs z9 hd_C ex_mt) (hct : lw_hct g) {σ : am_S} (hM : sx_M z9 hd_C σ 0 0 σ) : am_K g 60 tX12_stood.1 0 0 0 (lv_args 0 [.ref 118]) [] σ (fun r σ' => ∀ v, r = some v → sx_M z9 hd_C σ lw_m_X12_stood 0 σ') := by
  have lo : ∀ x : Int32, (-2147483648 : Int) ≤ 1 * x.toInt + 0 ∧ 1 * x.toInt + 0 ≤ (2147483647 : Int) := fun x => by
    have h1 := Int32.le_toInt x
    have h2 := Int32.toInt_lt x
    omega
  have A := hct 174 tX12_stood k9_274 rfl (List.Mem.head _) (lv_args 0 [.ref 118]) [] σ trivial (fun q hq => by
      have e : q = (0, .inr (some (false, 118))) := List.mem_singleton.mp hq
      subst e
      exact ⟨.ref 118, by simp [lv_args, Value.category], rfl⟩) (fun q hq => by cases hq) hM
  refine kr_mono ?_ (kr_less (d := 60) (by decide) (Nat.le_refl _) (Nat.le_refl _) A)
  intro r σ' p v hv
  subst hv
  exact sx_PostM p (by decide +kernel)
theorem lw_cv_X12_stood (G : sx_G0 g L xs z9 hd_C ex_mt) (hct : lw_hct g) {σ : am_S} (hM : sx_M z9 hd_C σ 0 0 σ) : am_K g 60 tX12_stood.1 0 0 0 (lv_args 0 [.ref 118]) [] σ (fun r σ' => ∃ y : Int32, r = some (some (.int y)) ∧ sx_M z9 hd_C σ lw_m_X12_stood 0 σ') := by
  have lo : ∀ x : Int32, (-2147483648 : Int) ≤ 1 * x.toInt + 0 ∧ 1 * x.toInt + 0 ≤ (2147483647 : Int) := fun x => by
    have h1 := Int32.le_toInt x
    have h2 := Int32.toInt_lt x
    omega
  have A := hct 174 tX12_stood k9_274 rfl (List.Mem.head _) (lv_args 0 [.ref 118]) [] σ trivial (fun q hq => by
      have e : q = (0, .inr (some (false, 118))) := List.mem_singleton.mp hq
      subst e
      exact ⟨.ref 118, by simp [lv_args, Value.category], rfl⟩) (fun q hq => by cases hq) hM
  refine kr_mono ?_ (kr_less (d := 60) (by decide) (Nat.le_refl _) (Nat.le_refl _) A)
  intro r σ' p
  exact sx_PostV p (by decide +kernel)
def lw_m_X12_plan : Nat := 146331963296062135846012370146554671756236829324337136641263280877107813945017787897299283934746671914221399953620157180073623052350989889699840
theorem lw_ct_X12_plan (G : sx_G0 g L xs z9 hd_C ex_mt) (hct : lw_hct g) {σ : am_S} (hM : sx_M z9 hd_C σ 0 0 σ) (a1 a2 a3 a4 : Int32) : am_K g 60 tX12_plan.1 0 0 0 (lv_args 0 [.ref 118, .int a1, .int a2, .int a3, .int a4]) [] σ (fun r σ' => ∀ v, r = some v → sx_M z9 hd_C σ lw_m_X12_plan 0 σ') := by
  have lo : ∀ x : Int32, (-2147483648 : Int) ≤ 1 * x.toInt + 0 ∧ 1 * x.toInt + 0 ≤ (2147483647 : Int) := fun x => by
    have h1 := Int32.le_toInt x
    have h2 := Int32.toInt_lt x
    omega
  have A := hct 152 tX12_plan k9_264 rfl (List.Mem.head _) (lv_args 0 [.ref 118, .int a1, .int a2, .int a3, .int a4]) [a1.toInt, a2.toInt, a3.toInt, a4.toInt] σ ⟨⟨a1, by simp [lv_args, Value.category], rfl⟩, ⟨a2, by simp [lv_args, Value.category], rfl⟩, ⟨a3, by simp [lv_args, Value.category], rfl⟩, ⟨a4, by simp [lv_args, Value.category], rfl⟩, trivial⟩ (fun q hq => by
      have e : q = (0, .inr (some (false, 118))) := List.mem_singleton.mp hq
      subst e
      exact ⟨.ref 118, by simp [lv_args, Value.category], rfl⟩) (fun q hq => by
      have hq' : q ∈ [([((1 : Int), 0)], (-2147483648 : Int), (2147483647 : Int)), ([((1 : Int), 1)], (-2147483648 : Int), (2147483647 : Int)), ([((1 : Int), 2)], (-2147483648 : Int), (2147483647 : Int)), ([((1 : Int), 3)], (-2147483648 : Int), (2147483647 : Int))] := hq
      simp only [List.mem_cons, List.not_mem_nil, or_false] at hq'
      rcases hq' with rfl | rfl | rfl | rfl
      · exact ⟨1 * a1.toInt + 0, rfl, (lo a1).1, (lo a1).2⟩
      · exact ⟨1 * a2.toInt + 0, rfl, (lo a2).1, (lo a2).2⟩
      · exact ⟨1 * a3.toInt + 0, rfl, (lo a3).1, (lo a3).2⟩
      · exact ⟨1 * a4.toInt + 0, rfl, (lo a4).1, (lo a4).2⟩) hM
  refine kr_mono ?_ (kr_less (d := 60) (by decide) (Nat.le_refl _) (Nat.le_refl _) A)
  intro r σ' p v hv
  subst hv
  exact sx_PostM p (by decide +kernel)
theorem lw_cv_X12_plan (G : sx_G0 g L xs z9 hd_C ex_mt) (hct : lw_hct g) {σ : am_S} (hM : sx_M z9 hd_C σ 0 0 σ) (a1 a2 a3 a4 : Int32) : am_K g 60 tX12_plan.1 0 0 0 (lv_args 0 [.ref 118, .int a1, .int a2, .int a3, .int a4]) [] σ (fun r σ' => ∃ y : Int32, r = some (some (.int y)) ∧ sx_M z9 hd_C σ lw_m_X12_plan 0 σ') := by
  have lo : ∀ x : Int32, (-2147483648 : Int) ≤ 1 * x.toInt + 0 ∧ 1 * x.toInt + 0 ≤ (2147483647 : Int) := fun x => by
    have h1 := Int32.le_toInt x
    have h2 := Int32.toInt_lt x
    omega
  have A := hct 152 tX12_plan k9_264 rfl (List.Mem.head _) (lv_args 0 [.ref 118, .int a1, .int a2, .int a3, .int a4]) [a1.toInt, a2.toInt, a3.toInt, a4.toInt] σ ⟨⟨a1, by simp [lv_args, Value.category], rfl⟩, ⟨a2, by simp [lv_args, Value.category], rfl⟩, ⟨a3, by simp [lv_args, Value.category], rfl⟩, ⟨a4, by simp [lv_args, Value.category], rfl⟩, trivial⟩ (fun q hq => by
      have e : q = (0, .inr (some (false, 118))) := List.mem_singleton.mp hq
      subst e
      exact ⟨.ref 118, by simp [lv_args, Value.category], rfl⟩) (fun q hq => by
      have hq' : q ∈ [([((1 : Int), 0)], (-2147483648 : Int), (2147483647 : Int)), ([((1 : Int), 1)], (-2147483648 : Int), (2147483647 : Int)), ([((1 : Int), 2)], (-2147483648 : Int), (2147483647 : Int)), ([((1 : Int), 3)], (-2147483648 : Int), (2147483647 : Int))] := hq
      simp only [List.mem_cons, List.not_mem_nil, or_false] at hq'
      rcases hq' with rfl | rfl | rfl | rfl
      · exact ⟨1 * a1.toInt + 0, rfl, (lo a1).1, (lo a1).2⟩
      · exact ⟨1 * a2.toInt + 0, rfl, (lo a2).1, (lo a2).2⟩
      · exact ⟨1 * a3.toInt + 0, rfl, (lo a3).1, (lo a3).2⟩
      · exact ⟨1 * a4.toInt + 0, rfl, (lo a4).1, (lo a4).2⟩) hM
  refine kr_mono ?_ (kr_less (d := 60) (by decide) (Nat.le_refl _) (Nat.le_refl _) A)
  intro r σ' p
  exact sx_PostV p (by decide +kernel)
def lw_m_X12_earns : Nat := 146331963296062135846012370146554671756236829324337136641263280877107813945017787897299283934746671914221399953620157180073623052350989889699840
theorem lw_ct_X12_earns (G : sx_G0 g L xs z9 hd_C ex_mt) (hct : lw_hct g) {σ : am_S} (hM : sx_M z9 hd_C σ 0 0 σ) (a1 a2 a3 : Int32) : am_K g 60 tX12_earns.1 0 0 0 (lv_args 0 [.ref 118, .int a1, .int a2, .int a3]) [] σ (fun r σ' => ∀ v, r = some v → sx_M z9 hd_C σ lw_m_X12_earns 0 σ') := by
  have lo : ∀ x : Int32, (-2147483648 : Int) ≤ 1 * x.toInt + 0 ∧ 1 * x.toInt + 0 ≤ (2147483647 : Int) := fun x => by
    have h1 := Int32.le_toInt x
    have h2 := Int32.toInt_lt x
    omega
  have A := hct 102 tX12_earns k9_275 rfl (List.Mem.head _) (lv_args 0 [.ref 118, .int a1, .int a2, .int a3]) [a1.toInt, a2.toInt, a3.toInt] σ ⟨⟨a1, by simp [lv_args, Value.category], rfl⟩, ⟨a2, by simp [lv_args, Value.category], rfl⟩, ⟨a3, by simp [lv_args, Value.category], rfl⟩, trivial⟩ (fun q hq => by
      have e : q = (0, .inr (some (false, 118))) := List.mem_singleton.mp hq
      subst e
      exact ⟨.ref 118, by simp [lv_args, Value.category], rfl⟩) (fun q hq => by
      have hq' : q ∈ [([((1 : Int), 0)], (-2147483648 : Int), (2147483647 : Int)), ([((1 : Int), 1)], (-2147483648 : Int), (2147483647 : Int)), ([((1 : Int), 2)], (-2147483648 : Int), (2147483647 : Int))] := hq
      simp only [List.mem_cons, List.not_mem_nil, or_false] at hq'
      rcases hq' with rfl | rfl | rfl
      · exact ⟨1 * a1.toInt + 0, rfl, (lo a1).1, (lo a1).2⟩
      · exact ⟨1 * a2.toInt + 0, rfl, (lo a2).1, (lo a2).2⟩
      · exact ⟨1 * a3.toInt + 0, rfl, (lo a3).1, (lo a3).2⟩) hM
  refine kr_mono ?_ (kr_less (d := 60) (by decide) (Nat.le_refl _) (Nat.le_refl _) A)
  intro r σ' p v hv
  subst hv
  exact sx_PostM p (by decide +kernel)
theorem lw_cv_X12_earns (G : sx_G0 g L xs z9 hd_C ex_mt) (hct : lw_hct g) {σ : am_S} (hM : sx_M z9 hd_C σ 0 0 σ) (a1 a2 a3 : Int32) : am_K g 60 tX12_earns.1 0 0 0 (lv_args 0 [.ref 118, .int a1, .int a2, .int a3]) [] σ (fun r σ' => ∃ y : Int32, r = some (some (.int y)) ∧ sx_M z9 hd_C σ lw_m_X12_earns 0 σ') := by
  have lo : ∀ x : Int32, (-2147483648 : Int) ≤ 1 * x.toInt + 0 ∧ 1 * x.toInt + 0 ≤ (2147483647 : Int) := fun x => by
    have h1 := Int32.le_toInt x
    have h2 := Int32.toInt_lt x
    omega
  have A := hct 102 tX12_earns k9_275 rfl (List.Mem.head _) (lv_args 0 [.ref 118, .int a1, .int a2, .int a3]) [a1.toInt, a2.toInt, a3.toInt] σ ⟨⟨a1, by simp [lv_args, Value.category], rfl⟩, ⟨a2, by simp [lv_args, Value.category], rfl⟩, ⟨a3, by simp [lv_args, Value.category], rfl⟩, trivial⟩ (fun q hq => by
      have e : q = (0, .inr (some (false, 118))) := List.mem_singleton.mp hq
      subst e
      exact ⟨.ref 118, by simp [lv_args, Value.category], rfl⟩) (fun q hq => by
      have hq' : q ∈ [([((1 : Int), 0)], (-2147483648 : Int), (2147483647 : Int)), ([((1 : Int), 1)], (-2147483648 : Int), (2147483647 : Int)), ([((1 : Int), 2)], (-2147483648 : Int), (2147483647 : Int))] := hq
      simp only [List.mem_cons, List.not_mem_nil, or_false] at hq'
      rcases hq' with rfl | rfl | rfl
      · exact ⟨1 * a1.toInt + 0, rfl, (lo a1).1, (lo a1).2⟩
      · exact ⟨1 * a2.toInt + 0, rfl, (lo a2).1, (lo a2).2⟩
      · exact ⟨1 * a3.toInt + 0, rfl, (lo a3).1, (lo a3).2⟩) hM
  refine kr_mono ?_ (kr_less (d := 60) (by decide) (Nat.le_refl _) (Nat.le_refl _) A)
  intro r σ' p
  exact sx_PostV p (by decide +kernel)
def lw_m_X12_curve : Nat := 146331963296062135846012370146554671756236829324337136641263280877107813945017787897299283934746671914221399953620157180073623052350989889699840
theorem lw_ct_X12_curve (G : sx_G0 g L xs z9 hd_C ex_mt) (hct : lw_hct g) {σ : am_S} (hM : sx_M z9 hd_C σ 0 0 σ) (a1 a2 : Int32) : am_K g 60 tX12_curve.1 0 0 0 (lv_args 0 [.ref 118, .int a1, .int a2]) [] σ (fun r σ' => ∀ v, r = some v → sx_M z9 hd_C σ lw_m_X12_curve 0 σ') := by
  have lo : ∀ x : Int32, (-2147483648 : Int) ≤ 1 * x.toInt + 0 ∧ 1 * x.toInt + 0 ≤ (2147483647 : Int) := fun x => by
    have h1 := Int32.le_toInt x
    have h2 := Int32.toInt_lt x
    omega
  have A := hct 95 tX12_curve k9_276 rfl (List.Mem.head _) (lv_args 0 [.ref 118, .int a1, .int a2]) [a1.toInt, a2.toInt] σ ⟨⟨a1, by simp [lv_args, Value.category], rfl⟩, ⟨a2, by simp [lv_args, Value.category], rfl⟩, trivial⟩ (fun q hq => by
      have e : q = (0, .inr (some (false, 118))) := List.mem_singleton.mp hq
      subst e
      exact ⟨.ref 118, by simp [lv_args, Value.category], rfl⟩) (fun q hq => by
      have hq' : q ∈ [([((1 : Int), 0)], (-2147483648 : Int), (2147483647 : Int)), ([((1 : Int), 1)], (-2147483648 : Int), (2147483647 : Int))] := hq
      simp only [List.mem_cons, List.not_mem_nil, or_false] at hq'
      rcases hq' with rfl | rfl
      · exact ⟨1 * a1.toInt + 0, rfl, (lo a1).1, (lo a1).2⟩
      · exact ⟨1 * a2.toInt + 0, rfl, (lo a2).1, (lo a2).2⟩) hM
  refine kr_mono ?_ (kr_less (d := 60) (by decide) (Nat.le_refl _) (Nat.le_refl _) A)
  intro r σ' p v hv
  subst hv
  exact sx_PostM p (by decide +kernel)
theorem lw_cv_X12_curve (G : sx_G0 g L xs z9 hd_C ex_mt) (hct : lw_hct g) {σ : am_S} (hM : sx_M z9 hd_C σ 0 0 σ) (a1 a2 : Int32) : am_K g 60 tX12_curve.1 0 0 0 (lv_args 0 [.ref 118, .int a1, .int a2]) [] σ (fun r σ' => ∃ y : Int32, r = some (some (.int y)) ∧ sx_M z9 hd_C σ lw_m_X12_curve 0 σ') := by
  have lo : ∀ x : Int32, (-2147483648 : Int) ≤ 1 * x.toInt + 0 ∧ 1 * x.toInt + 0 ≤ (2147483647 : Int) := fun x => by
    have h1 := Int32.le_toInt x
    have h2 := Int32.toInt_lt x
    omega
  have A := hct 95 tX12_curve k9_276 rfl (List.Mem.head _) (lv_args 0 [.ref 118, .int a1, .int a2]) [a1.toInt, a2.toInt] σ ⟨⟨a1, by simp [lv_args, Value.category], rfl⟩, ⟨a2, by simp [lv_args, Value.category], rfl⟩, trivial⟩ (fun q hq => by
      have e : q = (0, .inr (some (false, 118))) := List.mem_singleton.mp hq
      subst e
      exact ⟨.ref 118, by simp [lv_args, Value.category], rfl⟩) (fun q hq => by
      have hq' : q ∈ [([((1 : Int), 0)], (-2147483648 : Int), (2147483647 : Int)), ([((1 : Int), 1)], (-2147483648 : Int), (2147483647 : Int))] := hq
      simp only [List.mem_cons, List.not_mem_nil, or_false] at hq'
      rcases hq' with rfl | rfl
      · exact ⟨1 * a1.toInt + 0, rfl, (lo a1).1, (lo a1).2⟩
      · exact ⟨1 * a2.toInt + 0, rfl, (lo a2).1, (lo a2).2⟩) hM
  refine kr_mono ?_ (kr_less (d := 60) (by decide) (Nat.le_refl _) (Nat.le_refl _) A)
  intro r σ' p
  exact sx_PostV p (by decide +kernel)
def lw_m_X4_prepareBest : Nat := 25358137494511931824912309675992797112904671649733833062142114033280347322722793254772028282607545018944370959676342176586352682856128905788025870966221099691602560831952244040099112848468469170546972424086723762162034867258079849747424942200109412514227821470690842771456
theorem lw_ct_X4_prepareBest (G : sx_G0 g L xs z9 hd_C ex_mt) (hct : lw_hct g) {σ : am_S} (hM : sx_M z9 hd_C σ 0 0 σ) : am_K g 50 tX4_prepareBest.1 0 0 0 (lv_args 0 [.ref 68]) [] σ (fun r σ' => ∀ v, r = some v → sx_M z9 hd_C σ lw_m_X4_prepareBest 0 σ') := by
  have lo : ∀ x : Int32, (-2147483648 : Int) ≤ 1 * x.toInt + 0 ∧ 1 * x.toInt + 0 ≤ (2147483647 : Int) := fun x => by
    have h1 := Int32.le_toInt x
    have h2 := Int32.toInt_lt x
    omega
  have A := hct 220 tX4_prepareBest k9_243 rfl (List.Mem.head _) (lv_args 0 [.ref 68]) [] σ trivial (fun q hq => by
      have e : q = (0, .inr (some (false, 68))) := List.mem_singleton.mp hq
      subst e
      exact ⟨.ref 68, by simp [lv_args, Value.category], rfl⟩) (fun q hq => by cases hq) hM
  refine kr_mono ?_ (kr_less (d := 50) (by decide) (Nat.le_refl _) (Nat.le_refl _) A)
  intro r σ' p v hv
  subst hv
  exact sx_PostM p (by decide +kernel)
theorem lw_kX_best (G : sx_G0 g L xs z9 hd_C ex_mt) (hct : lw_hct g) {σ : am_S} (hM : sx_M z9 hd_C σ 0 0 σ) (h : lw_rp σ) (a1 : Int32) : am_K g 60 tX11_best.1 0 0 0 (lv_args 0 [.ref 0, .int a1]) [] σ (fun r σ' => ∃ y : Int32, r = some (some (.int y)) ∧ y.toInt = pz_bA (σ.2.1 120) a1 ∧ sx_M z9 hd_C σ lw_m_X11_best 0 σ' ∧ pk_ok (σ.2.1 120) σ') := by
  refine kr_mono ?_ (am_and (lw_ct_X11_best G hct hM a1) (kr_less (d := 60) (by decide) (Nat.le_refl _) (Nat.le_refl _) (ax_bsX G (pn_BM hM) h.1.2.1 (pl_B5M' hM) (pl_B6M hM) (ax_SM hM) ⟨h.1.1.1, rfl⟩ h.2.1 h.2.2 a1)) (fun v σ' h => by obtain ⟨⟨z, hr, -⟩, -⟩ := h; cases hr; exact Or.inr ⟨_, rfl⟩) (fun σ' h => by obtain ⟨⟨z, hr, -⟩, -⟩ := h; cases hr))
  intro r σ' ⟨p1, σ2, ⟨⟨z, hr, hz⟩, hT2, _, _, hP, hB⟩, ev⟩
  subst hr
  have hM' := p1 _ rfl
  have f := pk_eqv ev (ax_SM hM') hT2
  exact ⟨z, rfl, hz, hM', pk_okc (fun _ _ => rfl) (pn_BM hM) (pl_B6M hM) f.1 f.2 ⟨hP, hB⟩⟩
theorem lw_kX_sale (G : sx_G0 g L xs z9 hd_C ex_mt) (hct : lw_hct g) {σ : am_S} (hM : sx_M z9 hd_C σ 0 0 σ) (h : lw_rp σ) (a1 a2 : Int32) : am_K g 60 tX11_sale.1 0 0 0 (lv_args 0 [.ref 0, .int a1, .int a2]) [] σ (fun r σ' => ∃ y : Int32, r = some (some (.int y)) ∧ y.toInt = pz_sA (σ.2.1 120) a1 a2 ∧ sx_M z9 hd_C σ lw_m_X11_sale 0 σ' ∧ pk_ok (σ.2.1 120) σ') := by
  refine kr_mono ?_ (am_and (lw_ct_X11_sale G hct hM a1 a2) (kr_less (d := 60) (by decide) (Nat.le_refl _) (Nat.le_refl _) (ax_saX G (pn_BM hM) h.1.2.1 (pl_B5M' hM) (pl_B6M hM) (ax_SM hM) ⟨h.1.1.1, rfl⟩ h.2.1 h.2.2 a1 a2)) (fun v σ' h => by obtain ⟨⟨z, hr, -⟩, -⟩ := h; cases hr; exact Or.inr ⟨_, rfl⟩) (fun σ' h => by obtain ⟨⟨z, hr, -⟩, -⟩ := h; cases hr))
  intro r σ' ⟨p1, σ2, ⟨⟨z, hr, hz⟩, hT2, _, _, hP, hB⟩, ev⟩
  subst hr
  have hM' := p1 _ rfl
  have f := pk_eqv ev (ax_SM hM') hT2
  exact ⟨z, rfl, hz, hM', pk_okc (fun _ _ => rfl) (pn_BM hM) (pl_B6M hM) f.1 f.2 ⟨hP, hB⟩⟩
theorem lw_kX_sellers (G : sx_G0 g L xs z9 hd_C ex_mt) (hct : lw_hct g) {σ : am_S} (hM : sx_M z9 hd_C σ 0 0 σ) (h : lw_rp σ) : am_K g 60 tX11_sellers.1 0 0 0 (lv_args 0 [.ref 0]) [] σ (fun r σ' => ∃ y : Int32, r = some (some (.int y)) ∧ y.toInt = pz_seA (σ.2.1 120) ∧ sx_M z9 hd_C σ lw_m_X11_sellers 0 σ' ∧ pk_ok (σ.2.1 120) σ') := by
  refine kr_mono ?_ (am_and (lw_ct_X11_sellers G hct hM) (kr_less (d := 60) (by decide) (Nat.le_refl _) (Nat.le_refl _) (ax_seX G (pn_BM hM) (pl_B3M hM) h.1.2.1 (pl_B5M' hM) (pl_B6M hM) (CH := pc_h (σ.2.1 120)) (ax_SM hM) ⟨h.1.1.1, rfl⟩ h.2.1)) (fun v σ' h => by obtain ⟨⟨z, hr, -⟩, -⟩ := h; cases hr; exact Or.inr ⟨_, rfl⟩) (fun σ' h => by obtain ⟨⟨z, hr, -⟩, -⟩ := h; cases hr))
  intro r σ' ⟨p1, σ2, ⟨⟨z, hr, hz⟩, hT2, hF, _, hP⟩, ev⟩
  subst hr
  have hM' := p1 _ rfl
  have f := pk_eqv ev (ax_SM hM') hT2
  have hB : ¬ σ2.2.1 68 19 = 0 → pb_K (σ.2.1 120) σ2.2.1 := fun q => by
    rw [hF 68 19 (by decide) (by decide) (by decide) (by decide) (by decide) (by decide) (by decide)] at q
    exact pb_Kf (h.2.2 q) (hF 68 12 (by decide) (by decide) (by decide) (by decide) (by decide) (by decide) (by decide)) (hF 68 13 (by decide) (by decide) (by decide) (by decide) (by decide) (by decide) (by decide)) (hF 68 14 (by decide) (by decide) (by decide) (by decide) (by decide) (by decide) (by decide)) (fun i => ⟨hF 75 i (by decide) (by decide) (by decide) (by decide) (by decide) (by decide) (by omega), hF 76 i (by decide) (by decide) (by decide) (by decide) (by decide) (by decide) (by omega), hF 77 i (by decide) (by decide) (by decide) (by decide) (by decide) (by decide) (by omega)⟩)
  exact ⟨z, rfl, hz, hM', pk_okc (fun _ _ => rfl) (pn_BM hM) (pl_B6M hM) f.1 f.2 ⟨hP, hB⟩⟩
theorem lw_kX_border (G : sx_G0 g L xs z9 hd_C ex_mt) (hct : lw_hct g) {σ : am_S} (hM : sx_M z9 hd_C σ 0 0 σ) (h : lw_rp σ) : am_K g 60 tX11_border.1 0 0 0 (lv_args 0 [.ref 0]) [] σ (fun r σ' => ∃ y : Int32, r = some (some (.int y)) ∧ y.toInt = ((pz_mn (pz_ap (σ.2.1 120)) (pz_W (σ.2.1 120))).2 : Int) ∧ sx_M z9 hd_C σ lw_m_X11_border 0 σ' ∧ pk_ok (σ.2.1 120) σ') := by
  refine kr_mono ?_ (am_and (lw_ct_X11_border G hct hM) (kr_less (d := 60) (by decide) (Nat.le_refl _) (Nat.le_refl _) (ax_boX G (pn_BM hM) (pl_B3M hM) h.1.2.1 (pl_B5M' hM) (pl_B6M hM) (CH := pc_h (σ.2.1 120)) (ax_SM hM) ⟨h.1.1.1, rfl⟩ h.2.1)) (fun v σ' h => by obtain ⟨⟨z, hr, -⟩, -⟩ := h; cases hr; exact Or.inr ⟨_, rfl⟩) (fun σ' h => by obtain ⟨⟨z, hr, -⟩, -⟩ := h; cases hr))
  intro r σ' ⟨p1, σ2, ⟨⟨z, hr, hz⟩, hT2, hF, _, hP⟩, ev⟩
  subst hr
  have hM' := p1 _ rfl
  have f := pk_eqv ev (ax_SM hM') hT2
  have hB : ¬ σ2.2.1 68 19 = 0 → pb_K (σ.2.1 120) σ2.2.1 := fun q => by
    rw [hF 68 19 (by decide) (by decide) (by decide) (by decide) (by decide) (by decide) (by decide)] at q
    exact pb_Kf (h.2.2 q) (hF 68 12 (by decide) (by decide) (by decide) (by decide) (by decide) (by decide) (by decide)) (hF 68 13 (by decide) (by decide) (by decide) (by decide) (by decide) (by decide) (by decide)) (hF 68 14 (by decide) (by decide) (by decide) (by decide) (by decide) (by decide) (by decide)) (fun i => ⟨hF 75 i (by decide) (by decide) (by decide) (by decide) (by decide) (by decide) (by omega), hF 76 i (by decide) (by decide) (by decide) (by decide) (by decide) (by decide) (by omega), hF 77 i (by decide) (by decide) (by decide) (by decide) (by decide) (by decide) (by omega)⟩)
  exact ⟨z, rfl, hz, hM', pk_okc (fun _ _ => rfl) (pn_BM hM) (pl_B6M hM) f.1 f.2 ⟨hP, hB⟩⟩
theorem lw_kL_plan (G : sx_G0 g L xs z9 hd_C ex_mt) (hct : lw_hct g) {σ : am_S} (hM : sx_M z9 hd_C σ 0 0 σ) (h : lw_rp σ) (a1 a2 a3 a4 : Int32) : am_K g 60 tL_plan.1 1 6 0 (lv_args 0 [.ref 0, .int a1, .int a2, .int a3, .int a4, .ref 138]) [] σ (fun r σ' => ∃ y : Int32, r = some (some (.int y)) ∧ (match ax_f_plM (σ.2.1 120) a1 a2 a3 a4 with | some z => y = 0 ∧ σ'.2.2.1 138 0 = z.toInt64 | none => y = 1) ∧ sx_M z9 hd_C σ lw_m_L_plan 0 σ' ∧ pk_ok (σ.2.1 120) σ') := by
  have K := ax_L_plX G (ax_SM hM) (pn_BM hM) (pl_B3M hM) h.1.2.1 (pl_B5M' hM) (CH := pc_h (σ.2.1 120)) (fun ws T => pc_h0 _ ws T) (fun w ws T j ch fx fo => pc_hS (pn_BM hM) w ws T j ch fx fo) ⟨h.1.1.1, rfl⟩ h.2.1 a1 a2 a3 a4
  rw [pl_eq h.1.1.1 (pl_BM hM).1] at K
  generalize ax_f_plM (σ.2.1 120) a1 a2 a3 a4 = v at K ⊢
  refine kr_mono ?_ (am_and (lw_ct_L_plan G hct hM a1 a2 a3 a4) (kr_less (d := 60) (by decide) (Nat.le_refl _) (Nat.le_refl _) K) (fun x σ' h => by cases v with | none => (have := h.1; cases this; exact Or.inr ⟨_, rfl⟩) | some y => (have := h.1; cases this; exact Or.inr ⟨_, rfl⟩)) (fun σ' h => by cases v with | none => (have := h.1; cases this) | some y => (have := h.1; cases this)))
  intro r σ' ⟨p1, σ2, hv, ev⟩
  cases v with
  | none =>
    obtain ⟨hr, J, hJ, e⟩ := hv
    subst hr
    subst e
    have hM' := p1 _ rfl
    have f := pk_eqv ev (ax_SM hM') (ax_SJ (ax_SM hM) J σ.2.1 σ.2.2.1)
    exact ⟨1, rfl, rfl, hM', pk_okc (fun _ _ => rfl) (pn_BM hM) (pl_B6M hM) f.1 f.2 h.2⟩
  | some y =>
    obtain ⟨hr, τ, ⟨q1, q2, -, q4, -⟩, e⟩ := hv
    subst hr
    subst e
    have hM' := p1 _ rfl
    have hS2 : ax_S (τ.1, τ.2.1, am_up τ.2.2.1 138 0 y.toInt64, τ.2.2.2) := ⟨q1.1, q1.2⟩
    have f := pk_eqv ev (ax_SM hM') hS2
    have e8 := am_eqvJ ev (o := 138) (k := 0) (ty := .long) (n := 1) rfl ((ax_SM hM').1 138 (.inr (.long, 1)) rfl) (hS2.1 138 (.inr (.long, 1)) rfl) (by decide)
    have hB : ¬ τ.2.1 68 19 = 0 → pb_K (σ.2.1 120) τ.2.1 := fun q => by
      rw [q2 68 19 (by decide) (by decide) (by decide) (by decide) (by decide) (by decide) (by decide) (by decide)] at q
      exact pb_Kf (h.2.2 q) (q2 68 12 (by decide) (by decide) (by decide) (by decide) (by decide) (by decide) (by decide) (by decide)) (q2 68 13 (by decide) (by decide) (by decide) (by decide) (by decide) (by decide) (by decide) (by decide)) (q2 68 14 (by decide) (by decide) (by decide) (by decide) (by decide) (by decide) (by decide) (by decide)) (fun i => ⟨q2 75 i (by decide) (by decide) (by decide) (by decide) (by decide) (by decide) (by decide) (by omega), q2 76 i (by decide) (by decide) (by decide) (by decide) (by decide) (by decide) (by decide) (by omega), q2 77 i (by decide) (by decide) (by decide) (by decide) (by decide) (by decide) (by decide) (by omega)⟩)
    have hl : pk_L τ (τ.1, τ.2.1, am_up τ.2.2.1 138 0 y.toInt64, τ.2.2.2) := fun q _ => show am_up τ.2.2.1 138 0 y.toInt64 72 q = τ.2.2.1 72 q from am_up_o _ _ (by decide)
    exact ⟨0, rfl, ⟨rfl, e8.trans (show am_up τ.2.2.1 138 0 y.toInt64 138 0 = y.toInt64 from am_up_s _ _ _ _)⟩, hM', pk_okc (fun _ _ => rfl) (pn_BM hM) (pl_B6M hM) f.1 (pk_Lt hl f.2) ⟨q4, hB⟩⟩
theorem lw_kL_earns (G : sx_G0 g L xs z9 hd_C ex_mt) (hct : lw_hct g) {σ : am_S} (hM : sx_M z9 hd_C σ 0 0 σ) (h : lw_rp σ) (a1 a2 a3 : Int32) : am_K g 60 tL_earns.1 1 6 0 (lv_args 0 [.ref 0, .int a1, .int a2, .int a3, .ref 138]) [] σ (fun r σ' => ∃ y : Int32, r = some (some (.int y)) ∧ (match ax_f_eaM (σ.2.1 120) a1 a2 a3 with | some z => y = 0 ∧ σ'.2.2.1 138 0 = z.toInt64 | none => y = 1) ∧ sx_M z9 hd_C σ lw_m_L_earns 0 σ' ∧ pk_ok (σ.2.1 120) σ') := by
  have K := ax_L_eaX G (pn_BM hM) (pl_B3M hM) h.1.2.1 (pl_B5M' hM) (pl_B6M hM) (CH := pc_h (σ.2.1 120)) (ax_SM hM) ⟨h.1.1.1, rfl⟩ h.2.1 a1 a2 a3
  rw [ea_eq h.1.1.1 (pl_BM hM).1] at K
  generalize ax_f_eaM (σ.2.1 120) a1 a2 a3 = v at K ⊢
  refine kr_mono ?_ (am_and (lw_ct_L_earns G hct hM a1 a2 a3) (kr_less (d := 60) (by decide) (Nat.le_refl _) (Nat.le_refl _) K) (fun x σ' h => by cases v with | none => (have := h.1; cases this; exact Or.inr ⟨_, rfl⟩) | some y => (have := h.1; cases this; exact Or.inr ⟨_, rfl⟩)) (fun σ' h => by cases v with | none => (have := h.1; cases this) | some y => (have := h.1; cases this)))
  intro r σ' ⟨p1, σ2, hv, ev⟩
  cases v with
  | none =>
    obtain ⟨hr, J, hJ, e⟩ := hv
    subst hr
    subst e
    have hM' := p1 _ rfl
    have f := pk_eqv ev (ax_SM hM') (ax_SJ (ax_SM hM) J σ.2.1 σ.2.2.1)
    exact ⟨1, rfl, rfl, hM', pk_okc (fun _ _ => rfl) (pn_BM hM) (pl_B6M hM) f.1 f.2 h.2⟩
  | some y =>
    obtain ⟨hr, τ, ⟨q1, q2, -, q4⟩, e⟩ := hv
    subst hr
    subst e
    have hM' := p1 _ rfl
    have hS2 : ax_S (τ.1, τ.2.1, am_up τ.2.2.1 138 0 y.toInt64, τ.2.2.2) := ⟨q1.1, q1.2⟩
    have f := pk_eqv ev (ax_SM hM') hS2
    have e8 := am_eqvJ ev (o := 138) (k := 0) (ty := .long) (n := 1) rfl ((ax_SM hM').1 138 (.inr (.long, 1)) rfl) (hS2.1 138 (.inr (.long, 1)) rfl) (by decide)
    have hB : ¬ τ.2.1 68 19 = 0 → pb_K (σ.2.1 120) τ.2.1 := fun q => by
      rw [q2 68 19 (by decide) (by decide) (by decide) (by decide) (by decide) (by decide) (by decide)] at q
      exact pb_Kf (h.2.2 q) (q2 68 12 (by decide) (by decide) (by decide) (by decide) (by decide) (by decide) (by decide)) (q2 68 13 (by decide) (by decide) (by decide) (by decide) (by decide) (by decide) (by decide)) (q2 68 14 (by decide) (by decide) (by decide) (by decide) (by decide) (by decide) (by decide)) (fun i => ⟨q2 75 i (by decide) (by decide) (by decide) (by decide) (by decide) (by decide) (by omega), q2 76 i (by decide) (by decide) (by decide) (by decide) (by decide) (by decide) (by omega), q2 77 i (by decide) (by decide) (by decide) (by decide) (by decide) (by decide) (by omega)⟩)
    have hl : pk_L τ (τ.1, τ.2.1, am_up τ.2.2.1 138 0 y.toInt64, τ.2.2.2) := fun q _ => show am_up τ.2.2.1 138 0 y.toInt64 72 q = τ.2.2.1 72 q from am_up_o _ _ (by decide)
    exact ⟨0, rfl, ⟨rfl, e8.trans (show am_up τ.2.2.1 138 0 y.toInt64 138 0 = y.toInt64 from am_up_s _ _ _ _)⟩, hM', pk_okc (fun _ _ => rfl) (pn_BM hM) (pl_B6M hM) f.1 (pk_Lt hl f.2) ⟨q4, hB⟩⟩
theorem lw_kL_curve (G : sx_G0 g L xs z9 hd_C ex_mt) (hct : lw_hct g) {σ : am_S} (hM : sx_M z9 hd_C σ 0 0 σ) (h : lw_rp σ) (a1 a2 : Int32) : am_K g 60 tL_curve.1 1 6 0 (lv_args 0 [.ref 0, .int a1, .int a2, .ref 138]) [] σ (fun r σ' => ∃ y : Int32, r = some (some (.int y)) ∧ (match ax_f_cuM (σ.2.1 120) a1 a2 with | some z => y = 0 ∧ σ'.2.2.1 138 0 = z.toInt64 | none => y = 1) ∧ sx_M z9 hd_C σ lw_m_L_curve 0 σ' ∧ pk_ok (σ.2.1 120) σ') := by
  have K := ax_L_cuX G (pn_BM hM) (pl_B3M hM) h.1.2.1 (pl_B5M' hM) (pl_B6M hM) (CH := pc_h (σ.2.1 120)) (ax_SM hM) ⟨h.1.1.1, rfl⟩ h.2.1 a1 a2
  rw [cu_eq h.1.1.1 (pl_BM hM).1] at K
  generalize ax_f_cuM (σ.2.1 120) a1 a2 = v at K ⊢
  refine kr_mono ?_ (am_and (lw_ct_L_curve G hct hM a1 a2) (kr_less (d := 60) (by decide) (Nat.le_refl _) (Nat.le_refl _) K) (fun x σ' h => by cases v with | none => (have := h.1; cases this; exact Or.inr ⟨_, rfl⟩) | some y => (have := h.1; cases this; exact Or.inr ⟨_, rfl⟩)) (fun σ' h => by cases v with | none => (have := h.1; cases this) | some y => (have := h.1; cases this)))
  intro r σ' ⟨p1, σ2, hv, ev⟩
  cases v with
  | none =>
    obtain ⟨hr, J, hJ, e⟩ := hv
    subst hr
    subst e
    have hM' := p1 _ rfl
    have f := pk_eqv ev (ax_SM hM') (ax_SJ (ax_SM hM) J σ.2.1 σ.2.2.1)
    exact ⟨1, rfl, rfl, hM', pk_okc (fun _ _ => rfl) (pn_BM hM) (pl_B6M hM) f.1 f.2 h.2⟩
  | some y =>
    obtain ⟨hr, τ, ⟨q1, q2, -, q4⟩, e⟩ := hv
    subst hr
    subst e
    have hM' := p1 _ rfl
    have hS2 : ax_S (τ.1, τ.2.1, am_up τ.2.2.1 138 0 y.toInt64, τ.2.2.2) := ⟨q1.1, q1.2⟩
    have f := pk_eqv ev (ax_SM hM') hS2
    have e8 := am_eqvJ ev (o := 138) (k := 0) (ty := .long) (n := 1) rfl ((ax_SM hM').1 138 (.inr (.long, 1)) rfl) (hS2.1 138 (.inr (.long, 1)) rfl) (by decide)
    have hB : ¬ τ.2.1 68 19 = 0 → pb_K (σ.2.1 120) τ.2.1 := fun q => by
      rw [q2 68 19 (by decide) (by decide) (by decide) (by decide) (by decide) (by decide) (by decide)] at q
      exact pb_Kf (h.2.2 q) (q2 68 12 (by decide) (by decide) (by decide) (by decide) (by decide) (by decide) (by decide)) (q2 68 13 (by decide) (by decide) (by decide) (by decide) (by decide) (by decide) (by decide)) (q2 68 14 (by decide) (by decide) (by decide) (by decide) (by decide) (by decide) (by decide)) (fun i => ⟨q2 75 i (by decide) (by decide) (by decide) (by decide) (by decide) (by decide) (by omega), q2 76 i (by decide) (by decide) (by decide) (by decide) (by decide) (by decide) (by omega), q2 77 i (by decide) (by decide) (by decide) (by decide) (by decide) (by decide) (by omega)⟩)
    have hl : pk_L τ (τ.1, τ.2.1, am_up τ.2.2.1 138 0 y.toInt64, τ.2.2.2) := fun q _ => show am_up τ.2.2.1 138 0 y.toInt64 72 q = τ.2.2.1 72 q from am_up_o _ _ (by decide)
    exact ⟨0, rfl, ⟨rfl, e8.trans (show am_up τ.2.2.1 138 0 y.toInt64 138 0 = y.toInt64 from am_up_s _ _ _ _)⟩, hM', pk_okc (fun _ _ => rfl) (pn_BM hM) (pl_B6M hM) f.1 (pk_Lt hl f.2) ⟨q4, hB⟩⟩
theorem lw_kX_pb (G : sx_G0 g L xs z9 hd_C ex_mt) (hct : lw_hct g) {σ : am_S} (hM : sx_M z9 hd_C σ 0 0 σ) (h : lw_rp σ) : am_K g 50 tX4_prepareBest.1 0 0 0 (lv_args 0 [.ref 68]) [] σ (fun r σ' => r = some none ∧ sx_M z9 hd_C σ lw_m_X4_prepareBest 0 σ' ∧ pk_ok (σ.2.1 120) σ') := by
  refine kr_mono ?_ (am_and (lw_ct_X4_prepareBest G hct hM) (kr_less (d := 50) (by decide) (Nat.le_refl _) (Nat.le_refl _) (ax_pb G (pn_BM hM) h.1.2.1 (pl_B5M' hM) (pl_B6M hM) (ax_SM hM) ⟨h.1.1.1, rfl⟩ h.2.1 h.2.2)) (fun v σ' h => by have := h.1; cases this; exact Or.inl rfl) (fun σ' h => by have := h.1; cases this))
  intro r σ' ⟨p1, σ2, ⟨hr, hT2, _, _, hP, _, hB⟩, ev⟩
  subst hr
  have hM' := p1 _ rfl
  have f := pk_eqv ev (ax_SM hM') hT2
  exact ⟨rfl, hM', pk_okc (fun _ _ => rfl) (pn_BM hM) (pl_B6M hM) f.1 f.2 ⟨hP, fun _ => hB⟩⟩
def lw_mB : Nat := Nat.lor lw_m_X4_prepareBest 12664759760331458874453076485325239921451404572804436691815673250865498554368
def lw_mBs : Nat := Nat.lor lw_mB 262144

theorem lw_kX_drawn (G : sx_G0 g L xs z9 hd_C ex_mt) (hct : lw_hct g) {σ : am_S} (hM : sx_M z9 hd_C σ 0 0 σ) (h : lw_rp σ) (a1 a2 : Int32) : am_K g 60 tX11_drawn.1 0 0 0 (lv_args 0 [.ref 0, .int a1, .int a2]) [] σ (fun r σ' => ∃ y : Int32, r = some (some (.int y)) ∧ sx_M z9 hd_C σ lw_mB 0 σ' ∧ pk_ok (σ.2.1 120) σ') := by
  refine sg_kdr1_run G (fun mi T2 c h1 h2 _ => hct mi T2 c h1 h2) hM (by simp [lv_args, Value.category]) (m1 := a1) (by simp [lv_args, Value.category]) (m2 := a2) (by simp [lv_args, Value.category]) ?_ ?_
  · intro r σ' _ hM1
    have f := rp_fE hM1 (by decide +kernel)
    exact ⟨r, rfl, sx_M_mask (by decide +kernel) hM1, pk_okc (fun _ _ => rfl) (pn_BM hM) (pl_B6M hM) f.1 f.2 h.2⟩
  · intro lw1 n1 n2 σ1 l0 l1 l2 hM1
    have hr1 := rp_keep hM hM1 (by decide +kernel) h
    have e1 : ∀ k, k < 62 → σ.2.1 120 k = σ1.2.1 120 k := fun k hk => (rl_z hM1 (by decide +kernel) rl_ckF.2.2.2.1 k hk).symm
    refine rd_call G (T2 := tX4_prepareBest) rfl rd_d_X11_drawn_14 rd_k_X11_drawn_14 rfl (hM1.1 68 (.inl 4) rfl) (as := []) (st := []) rfl (Nat.le_of_ble_eq_true rfl) rfl (by decide) (d1 := 50) (by decide) (fun _ h => by cases h.1) (lw_kX_pb G hct (sx_M_self hM1) hr1) ?_
    intro v σ2 ⟨hv, hM2, hP2⟩
    cases hv
    refine sg_kdr2_run G (fun mi T2 c h1 h2 _ => hct mi T2 c h1 h2) (sx_M_self hM2) l0 l1 l2 ?_
    intro r σ3 hM3
    have f := rp_fE hM3 (by decide +kernel)
    exact ⟨r, rfl, hd_tr (hd_tr (sx_M_mask (by decide +kernel) hM1) hM2 (by decide +kernel)) hM3 (by decide +kernel), pk_okc e1 (pn_BM hM1) (pl_B6M hM1) f.1 f.2 hP2⟩
theorem lw_kX_luckiest (G : sx_G0 g L xs z9 hd_C ex_mt) (hct : lw_hct g) {σ : am_S} (hM : sx_M z9 hd_C σ 0 0 σ) (h : lw_rp σ) (a1 a2 : Int32) : am_K g 60 tX11_luckiest.1 0 0 0 (lv_args 0 [.ref 0, .int a1, .int a2]) [] σ (fun r σ' => ∃ y : Int32, r = some (some (.int y)) ∧ sx_M z9 hd_C σ lw_mB 0 σ' ∧ pk_ok (σ.2.1 120) σ') := by
  refine sg_klu1_run G (fun mi T2 c h1 h2 _ => hct mi T2 c h1 h2) hM (by simp [lv_args, Value.category]) (m1 := a1) (by simp [lv_args, Value.category]) (m2 := a2) (by simp [lv_args, Value.category]) ?_ ?_
  · intro r σ' _ hM1
    have f := rp_fE hM1 (by decide +kernel)
    exact ⟨r, rfl, sx_M_mask (by decide +kernel) hM1, pk_okc (fun _ _ => rfl) (pn_BM hM) (pl_B6M hM) f.1 f.2 h.2⟩
  · intro lw1 n1 n2 σ1 l0 l1 l2 hM1
    have hr1 := rp_keep hM hM1 (by decide +kernel) h
    have e1 : ∀ k, k < 62 → σ.2.1 120 k = σ1.2.1 120 k := fun k hk => (rl_z hM1 (by decide +kernel) rl_ckF.2.2.2.1 k hk).symm
    refine rd_call G (T2 := tX4_prepareBest) rfl rd_d_X11_luckiest_14 rd_k_X11_luckiest_14 rfl (hM1.1 68 (.inl 4) rfl) (as := []) (st := []) rfl (Nat.le_of_ble_eq_true rfl) rfl (by decide) (d1 := 50) (by decide) (fun _ h => by cases h.1) (lw_kX_pb G hct (sx_M_self hM1) hr1) ?_
    intro v σ2 ⟨hv, hM2, hP2⟩
    cases hv
    refine sg_klu2_run G (fun mi T2 c h1 h2 _ => hct mi T2 c h1 h2) (sx_M_self hM2) l0 l1 l2 ?_
    intro r σ3 hM3
    have f := rp_fE hM3 (by decide +kernel)
    exact ⟨r, rfl, hd_tr (hd_tr (sx_M_mask (by decide +kernel) hM1) hM2 (by decide +kernel)) hM3 (by decide +kernel), pk_okc e1 (pn_BM hM1) (pl_B6M hM1) f.1 f.2 hP2⟩
theorem lw_kX_st9 (G : sx_G0 g L xs z9 hd_C ex_mt) (hct : lw_hct g) {post : Option (Option Value) → am_S → Prop} : ∀ (n : Nat) {σ : am_S} (hM : sx_M z9 hd_C σ 0 0 σ) (kk : ∀ (r : Int32) (σ' : am_S), sx_M z9 hd_C σ 0 0 σ' → post (some (some (.int r))) σ') {lw : List (Nat × Value)} {m2 m3 m4 : Int32}, (0, Value.ref 0) ∈ lw → (2, Value.int m2) ∈ lw → (3, Value.int m3) ∈ lw → (4, Value.int m4) ∈ lw → 0 ≤ m4.toInt → m4.toInt + n = 7 → am_K g 60 tX11_stood.1 0 0 65 lw [] σ post := by
  intro n
  induction n with
  | zero =>
    intro σ hM kk lw m2 m3 m4 l0 l2 l3 l4 h1 h2
    have hb := hM.2.2.1 4 8 _ _ _ rfl
    refine sg_kst3_run G (fun mi T2 c h1 h2 _ => hct mi T2 c h1 h2) hM l0 l2 l3 l4 (by omega) kk ?_
    intro lw' u2 u3 u4 σ' p0 p2 p3 p4 f1 f2 hM'
    have hb2 : (σ.2.1 4 8).toInt ≤ (6 : Int) := hb.2
    omega
  | succ n ih =>
    intro σ hM kk lw m2 m3 m4 l0 l2 l3 l4 h1 h2
    refine sg_kst3_run G (fun mi T2 c h1 h2 _ => hct mi T2 c h1 h2) hM l0 l2 l3 l4 (by omega) kk ?_
    intro lw' u2 u3 u4 σ' p0 p2 p3 p4 f1 f2 hM'
    exact ih (sx_M_self hM') (fun r σ2 h2 => kk r σ2 (hd_tr hM' h2 (by decide +kernel))) p0 p2 p3 p4 (by omega) (by omega)
theorem lw_kX_stood (G : sx_G0 g L xs z9 hd_C ex_mt) (hct : lw_hct g) {σ : am_S} (hM : sx_M z9 hd_C σ 0 0 σ) (h : lw_rp σ) : am_K g 60 tX11_stood.1 0 0 0 (lv_args 0 [.ref 0]) [] σ (fun r σ' => ∃ y : Int32, r = some (some (.int y)) ∧ (σ'.2.1 1 1).toInt = 0 ∧ sx_M z9 hd_C σ lw_mBs 0 σ' ∧ pk_ok (σ.2.1 120) σ') := by
  refine sg_kst1_run G (fun mi T2 c h1 h2 _ => hct mi T2 c h1 h2) hM (by simp [lv_args, Value.category]) ?_ ?_
  · intro r σ' _ z1 hM1
    have f := rp_fE hM1 (by decide +kernel)
    exact ⟨r, rfl, by omega, sx_M_mask (by decide +kernel) hM1, pk_okc (fun _ _ => rfl) (pn_BM hM) (pl_B6M hM) f.1 f.2 h.2⟩
  · intro lw1 n2 σ1 l0 l2 z1 hM1
    have hr1 := rp_keep hM hM1 (by decide +kernel) h
    have e1 : ∀ k, k < 62 → σ.2.1 120 k = σ1.2.1 120 k := fun k hk => (rl_z hM1 (by decide +kernel) rl_ckF.2.2.2.1 k hk).symm
    refine rd_call G (T2 := tX4_prepareBest) rfl rd_d_X11_stood_57 rd_k_X11_stood_57 rfl (hM1.1 68 (.inl 4) rfl) (as := []) (st := []) rfl (Nat.le_of_ble_eq_true rfl) rfl (by decide) (d1 := 50) (by decide) (fun _ h => by cases h.1) (lw_kX_pb G hct (sx_M_self hM1) hr1) ?_
    intro v σ2 ⟨hv, hM2, hP2⟩
    cases hv
    refine sg_kst2_run G (fun mi T2 c h1 h2 _ => hct mi T2 c h1 h2) (sx_M_self hM2) l0 l2 ?_
    intro lw3 u2 u3 u4 σ3 p0 p2 p3 p4 f4 hM3
    refine lw_kX_st9 G hct 7 (sx_M_self hM3) ?_ p0 p2 p3 p4 (by omega) (by omega)
    intro r σ4 hM4
    have hM34 := hd_tr hM3 hM4 (by decide +kernel)
    have f := rp_fE hM34 (by decide +kernel)
    refine ⟨r, rfl, ?_, hd_tr (hd_tr (sx_M_mask (by decide +kernel) hM1) hM2 (by decide +kernel)) hM34 (by decide +kernel), pk_okc e1 (pn_BM hM1) (pl_B6M hM1) f.1 f.2 hP2⟩
    rw [hM34.2.2.2.2.1 1 1 _ _ 18 rfl (by decide +kernel), hM2.2.2.2.2.1 1 1 _ _ 18 rfl (by decide +kernel)]
    omega
theorem lw_kM_st9 (G : sx_G0 g L xs z9 hd_C ex_mt) (hct : lw_hct g) {post : Option (Option Value) → am_S → Prop} : ∀ (n : Nat) {σ : am_S} (hM : sx_M z9 hd_C σ 0 0 σ) (kk : ∀ (r : Int32) (σ' : am_S), sx_M z9 hd_C σ 0 0 σ' → post (some (some (.int r))) σ') {lw : List (Nat × Value)} {m1 m2 : Int32}, (0, Value.ref 118) ∈ lw → (1, Value.int m1) ∈ lw → (2, Value.int m2) ∈ lw → 0 ≤ m2.toInt → m2.toInt + n = 7 → am_K g 60 tX12_stood.1 0 0 30 lw [] σ post := by
  intro n
  induction n with
  | zero =>
    intro σ hM kk lw m1 m2 l0 l1 l2 h1 h2
    refine sg_rst2_run G (fun mi T2 c h1 h2 _ => hct mi T2 c h1 h2) hM l0 l1 l2 (by omega) (fun r σ' _ hM' => kk r σ' hM') ?_
    intro lw' u1 u2 σ' p0 p1 p2 f1 f2 f3 hM'
    omega
  | succ n ih =>
    intro σ hM kk lw m1 m2 l0 l1 l2 h1 h2
    refine sg_rst2_run G (fun mi T2 c h1 h2 _ => hct mi T2 c h1 h2) hM l0 l1 l2 (by omega) (fun r σ' _ hM' => kk r σ' hM') ?_
    intro lw' u1 u2 σ' p0 p1 p2 f1 f2 f3 hM'
    exact ih (sx_M_self hM') (fun r σ2 h2 => kk r σ2 (hd_tr hM' h2 (by decide +kernel))) p0 p1 p2 (by omega) (by omega)
theorem lw_kM_stood (G : sx_G0 g L xs z9 hd_C ex_mt) (hct : lw_hct g) {σ : am_S} (hM : sx_M z9 hd_C σ 0 0 σ) : am_K g 60 tX12_stood.1 0 0 0 (lv_args 0 [.ref 118]) [] σ (fun r σ' => ∃ y : Int32, r = some (some (.int y)) ∧ (σ'.2.1 118 2).toInt = 0 ∧ sx_M z9 hd_C σ lw_m_X12_stood 0 σ') := by
  have B : am_K g 60 tX12_stood.1 0 0 0 (lv_args 0 [.ref 118]) [] σ (fun r σ' => (∃ y : Int32, r = some (some (.int y))) ∧ (σ'.2.1 118 2).toInt = 0 ∧ σ'.1[118]? = some (.inl 12)) := by
    refine sg_rst1_run G (fun mi T2 c h1 h2 _ => hct mi T2 c h1 h2) hM (by simp [lv_args, Value.category]) (fun r σ' f1 hM1 => ⟨⟨r, rfl⟩, by omega, hM1.1 118 (.inl 12) rfl⟩) ?_
    intro lw1 u1 u2 σ1 l0 l1 l2 f1 f2 hM1
    refine lw_kM_st9 G hct 7 (sx_M_self hM1) (fun r σ' hM' => ⟨⟨r, rfl⟩, ?_, hM'.1 118 (.inl 12) rfl⟩) l0 l1 l2 (by omega) (by omega)
    rw [hM'.2.2.2.2.1 118 2 _ _ 361 rfl (sx_bit0 _)]
    omega
  refine kr_mono ?_ (am_and (lw_ct_X12_stood G hct hM) B (fun v σ' h => by obtain ⟨⟨y, h⟩, -⟩ := h; cases h; exact Or.inr ⟨_, rfl⟩) (fun σ' h => by obtain ⟨⟨y, h⟩, -⟩ := h; cases h))
  intro r σ' ⟨p1, σ2, ⟨⟨y, hr⟩, hz, hs⟩, ev⟩
  subst hr
  have hM' := p1 _ rfl
  have e := am_eqvF ev (ci := 12) (k := 2) rfl (by decide) (by decide) (hM'.1 118 (.inl 12) rfl) hs
  exact ⟨y, rfl, by rw [e]; exact hz, hM'⟩
theorem lw_kM_best (G : sx_G0 g L xs z9 hd_C ex_mt) (hct : lw_hct g) {σ : am_S} (hM : sx_M z9 hd_C σ 0 0 σ) (a1 : Int32) : am_K g 60 tX12_best.1 0 0 0 (lv_args 0 [.ref 118, .int a1]) [] σ (fun r σ' => ∃ y : Int32, r = some (some (.int y)) ∧ y.toInt = pz_bA (σ.2.1 120) a1 ∧ sx_M z9 hd_C σ lw_m_X12_best 0 σ') := by
  refine kr_mono ?_ (am_and (lw_ct_X12_best G hct hM a1) (kr_less (d := 60) (by decide) (Nat.le_refl _) (Nat.le_refl _) (ax_bsM G (pn_BM hM) (pl_B6M hM) (ax_SM hM) rfl a1)) (fun v σ' h => by obtain ⟨⟨z, hr, -⟩, -⟩ := h; cases hr; exact Or.inr ⟨_, rfl⟩) (fun σ' h => by obtain ⟨⟨z, hr, -⟩, -⟩ := h; cases hr))
  intro r σ' ⟨p1, σ2, ⟨⟨z, hr, hz⟩, _⟩, ev⟩
  subst hr
  exact ⟨z, rfl, hz, p1 _ rfl⟩
theorem lw_kM_sale (G : sx_G0 g L xs z9 hd_C ex_mt) (hct : lw_hct g) {σ : am_S} (hM : sx_M z9 hd_C σ 0 0 σ) (a1 a2 : Int32) : am_K g 60 tX12_sale.1 0 0 0 (lv_args 0 [.ref 118, .int a1, .int a2]) [] σ (fun r σ' => ∃ y : Int32, r = some (some (.int y)) ∧ y.toInt = pz_sA (σ.2.1 120) a1 a2 ∧ sx_M z9 hd_C σ lw_m_X12_sale 0 σ') := by
  refine kr_mono ?_ (am_and (lw_ct_X12_sale G hct hM a1 a2) (kr_less (d := 60) (by decide) (Nat.le_refl _) (Nat.le_refl _) (ax_saM G (pn_BM hM) (pl_B6M hM) (ax_SM hM) rfl a1 a2)) (fun v σ' h => by obtain ⟨⟨z, hr, -⟩, -⟩ := h; cases hr; exact Or.inr ⟨_, rfl⟩) (fun σ' h => by obtain ⟨⟨z, hr, -⟩, -⟩ := h; cases hr))
  intro r σ' ⟨p1, σ2, ⟨⟨z, hr, hz⟩, _⟩, ev⟩
  subst hr
  exact ⟨z, rfl, hz, p1 _ rfl⟩
theorem lw_kM_sellers (G : sx_G0 g L xs z9 hd_C ex_mt) (hct : lw_hct g) {σ : am_S} (hM : sx_M z9 hd_C σ 0 0 σ) : am_K g 60 tX12_sellers.1 0 0 0 (lv_args 0 [.ref 118]) [] σ (fun r σ' => ∃ y : Int32, r = some (some (.int y)) ∧ y.toInt = pz_seA (σ.2.1 120) ∧ sx_M z9 hd_C σ lw_m_X12_sellers 0 σ') := by
  refine kr_mono ?_ (am_and (lw_ct_X12_sellers G hct hM) (kr_less (d := 60) (by decide) (Nat.le_refl _) (Nat.le_refl _) (ax_seM G (pn_BM hM) (pl_B6M hM) (ax_SM hM) rfl)) (fun v σ' h => by obtain ⟨⟨z, hr, -⟩, -⟩ := h; cases hr; exact Or.inr ⟨_, rfl⟩) (fun σ' h => by obtain ⟨⟨z, hr, -⟩, -⟩ := h; cases hr))
  intro r σ' ⟨p1, σ2, ⟨⟨z, hr, hz⟩, _⟩, ev⟩
  subst hr
  exact ⟨z, rfl, hz, p1 _ rfl⟩
theorem lw_kM_border (G : sx_G0 g L xs z9 hd_C ex_mt) (hct : lw_hct g) {σ : am_S} (hM : sx_M z9 hd_C σ 0 0 σ) : am_K g 60 tX12_border.1 0 0 0 (lv_args 0 [.ref 118]) [] σ (fun r σ' => ∃ y : Int32, r = some (some (.int y)) ∧ y.toInt = ((pz_mn (pz_ap (σ.2.1 120)) (pz_W (σ.2.1 120))).2 : Int) ∧ sx_M z9 hd_C σ lw_m_X12_border 0 σ') := by
  refine kr_mono ?_ (am_and (lw_ct_X12_border G hct hM) (kr_less (d := 60) (by decide) (Nat.le_refl _) (Nat.le_refl _) (ax_boM G (pn_BM hM) (pl_B6M hM) (ax_SM hM) rfl)) (fun v σ' h => by obtain ⟨⟨z, hr, -⟩, -⟩ := h; cases hr; exact Or.inr ⟨_, rfl⟩) (fun σ' h => by obtain ⟨⟨z, hr, -⟩, -⟩ := h; cases hr))
  intro r σ' ⟨p1, σ2, ⟨⟨z, hr, hz⟩, _⟩, ev⟩
  subst hr
  exact ⟨z, rfl, hz, p1 _ rfl⟩
theorem lw_kM_plan (G : sx_G0 g L xs z9 hd_C ex_mt) (hct : lw_hct g) {σ : am_S} (hM : sx_M z9 hd_C σ 0 0 σ) (a1 a2 a3 a4 : Int32) : am_K g 60 tX12_plan.1 0 0 0 (lv_args 0 [.ref 118, .int a1, .int a2, .int a3, .int a4]) [] σ (fun r σ' => ∃ y : Int32, r = some (some (.int y)) ∧ sx_M z9 hd_C σ lw_m_X12_plan 0 σ' ∧ (match ax_f_plM (σ.2.1 120) a1 a2 a3 a4 with | some z => y = z ∧ σ'.2.1 118 0 = 0 | none => σ'.2.1 118 0 = 1)) := by
  refine kr_mono ?_ (am_and (lw_ct_X12_plan G hct hM a1 a2 a3 a4) (kr_less (d := 60) (by decide) (Nat.le_refl _) (Nat.le_refl _) (ax_plM G (ax_SM hM) (pn_BM hM) (pl_B3M hM) a1 a2 a3 a4)) (fun v σ' h => by obtain ⟨y, h, -⟩ := h; cases h; exact Or.inr ⟨_, rfl⟩) (fun σ' h => by obtain ⟨y, h, -⟩ := h; cases h))
  intro r σ' ⟨p1, σ2, ⟨y, hr, hS2, hv⟩, ev⟩
  subst hr
  have hM' := p1 _ rfl
  have e := am_eqvF ev (ci := 12) (k := 0) rfl (by decide) (by decide) (hM'.1 118 (.inl 12) rfl) (hS2.1 118 (.inl 12) rfl)
  refine ⟨y, rfl, hM', ?_⟩
  rw [e]
  exact hv
theorem lw_kM_earns (G : sx_G0 g L xs z9 hd_C ex_mt) (hct : lw_hct g) {σ : am_S} (hM : sx_M z9 hd_C σ 0 0 σ) (a1 a2 a3 : Int32) : am_K g 60 tX12_earns.1 0 0 0 (lv_args 0 [.ref 118, .int a1, .int a2, .int a3]) [] σ (fun r σ' => ∃ y : Int32, r = some (some (.int y)) ∧ sx_M z9 hd_C σ lw_m_X12_earns 0 σ' ∧ (match ax_f_eaM (σ.2.1 120) a1 a2 a3 with | some z => y = z ∧ σ'.2.1 118 0 = 0 | none => σ'.2.1 118 0 = 1)) := by
  refine kr_mono ?_ (am_and (lw_ct_X12_earns G hct hM a1 a2 a3) (kr_less (d := 60) (by decide) (Nat.le_refl _) (Nat.le_refl _) (ax_eaM G (ax_SM hM) (pn_BM hM) (pl_B3M hM) (pl_B6M hM) a1 a2 a3)) (fun v σ' h => by obtain ⟨y, h, -⟩ := h; cases h; exact Or.inr ⟨_, rfl⟩) (fun σ' h => by obtain ⟨y, h, -⟩ := h; cases h))
  intro r σ' ⟨p1, σ2, ⟨y, hr, hS2, hv⟩, ev⟩
  subst hr
  have hM' := p1 _ rfl
  have e := am_eqvF ev (ci := 12) (k := 0) rfl (by decide) (by decide) (hM'.1 118 (.inl 12) rfl) (hS2.1 118 (.inl 12) rfl)
  refine ⟨y, rfl, hM', ?_⟩
  rw [e]
  exact hv
theorem lw_kM_curve (G : sx_G0 g L xs z9 hd_C ex_mt) (hct : lw_hct g) {σ : am_S} (hM : sx_M z9 hd_C σ 0 0 σ) (a1 a2 : Int32) : am_K g 60 tX12_curve.1 0 0 0 (lv_args 0 [.ref 118, .int a1, .int a2]) [] σ (fun r σ' => ∃ y : Int32, r = some (some (.int y)) ∧ sx_M z9 hd_C σ lw_m_X12_curve 0 σ' ∧ (match ax_f_cuM (σ.2.1 120) a1 a2 with | some z => y = z ∧ σ'.2.1 118 0 = 0 | none => σ'.2.1 118 0 = 1)) := by
  refine kr_mono ?_ (am_and (lw_ct_X12_curve G hct hM a1 a2) (kr_less (d := 60) (by decide) (Nat.le_refl _) (Nat.le_refl _) (ax_cuM G (ax_SM hM) (pn_BM hM) (pl_B3M hM) (pl_B6M hM) a1 a2)) (fun v σ' h => by obtain ⟨y, h, -⟩ := h; cases h; exact Or.inr ⟨_, rfl⟩) (fun σ' h => by obtain ⟨y, h, -⟩ := h; cases h))
  intro r σ' ⟨p1, σ2, ⟨y, hr, hS2, hv⟩, ev⟩
  subst hr
  have hM' := p1 _ rfl
  have e := am_eqvF ev (ci := 12) (k := 0) rfl (by decide) (by decide) (hM'.1 118 (.inl 12) rfl) (hS2.1 118 (.inl 12) rfl)
  refine ⟨y, rfl, hM', ?_⟩
  rw [e]
  exact hv
theorem lw_kA_luckiest (G : sx_G0 g L xs z9 hd_C ex_mt) (hct : lw_hct g) {σ : am_S} (hM : sx_M z9 hd_C σ 0 0 σ) (h : lw_rp σ) (a1 a2 : Int32) : am_K g 60 tX11_luckiest.1 0 0 0 (lv_args 0 [.ref 0, .int a1, .int a2]) [] σ (fun r σ' => ∃ y : Int32, r = some (some (.int y)) ∧ ((pz_dcan (σ.2.1 120) a1 ∧ y = (pd_out (σ.2.1 120) a2 a1.toInt.toNat).2.1) ∨ (¬ pz_dcan (σ.2.1 120) a1 ∧ y = -1)) ∧ sx_M z9 hd_C σ lw_mB 0 σ' ∧ pk_ok (σ.2.1 120) σ') := by
  refine kr_mono ?_ (am_and (lw_kX_luckiest G hct hM h a1 a2) (kr_less (d := 60) (by decide) (Nat.le_refl _) (Nat.le_refl _) (ax_lukX G (pn_BM hM) h.1.2.1 (pl_B5M' hM) (pl_B6M hM) (ax_SM hM) ⟨h.1.1.1, rfl⟩ h.2.1 h.2.2 (pl_B3M hM) a1 a2)) (fun v σ' h => by obtain ⟨⟨z, hr, -⟩, -⟩ := h; cases hr; exact Or.inr ⟨_, rfl⟩) (fun σ' h => by obtain ⟨⟨z, hr, -⟩, -⟩ := h; cases hr))
  intro r σ' ⟨⟨y, hr, hM', hp⟩, σ2, ⟨⟨z, hz, ha⟩, _⟩, ev⟩
  subst hr
  cases hz
  exact ⟨_, rfl, ha, hM', hp⟩
theorem lw_kM_luckiest (G : sx_G0 g L xs z9 hd_C ex_mt) (hct : lw_hct g) {σ : am_S} (hM : sx_M z9 hd_C σ 0 0 σ) (a1 a2 : Int32) : am_K g 60 tX12_luckiest.1 0 0 0 (lv_args 0 [.ref 118, .int a1, .int a2]) [] σ (fun r σ' => ∃ y : Int32, r = some (some (.int y)) ∧ ((pz_dcan (σ.2.1 120) a1 ∧ y = (pd_out (σ.2.1 120) a2 a1.toInt.toNat).2.1) ∨ (¬ pz_dcan (σ.2.1 120) a1 ∧ y = -1)) ∧ sx_M z9 hd_C σ lw_m_X12_luckiest 0 σ') := by
  refine kr_mono ?_ (am_and (lw_ct_X12_luckiest G hct hM a1 a2) (kr_less (d := 60) (by decide) (Nat.le_refl _) (Nat.le_refl _) (ax_lukM G (pn_BM hM) (pl_B3M hM) (pl_B5M' hM) (pl_B6M hM) (ax_SM hM) rfl a1 a2)) (fun v σ' h => by obtain ⟨⟨z, hr, -⟩, -⟩ := h; cases hr; exact Or.inr ⟨_, rfl⟩) (fun σ' h => by obtain ⟨⟨z, hr, -⟩, -⟩ := h; cases hr))
  intro r σ' ⟨p1, σ2, ⟨⟨z, hr, hz⟩, _⟩, ev⟩
  subst hr
  exact ⟨z, rfl, hz, p1 _ rfl⟩
end PLC
