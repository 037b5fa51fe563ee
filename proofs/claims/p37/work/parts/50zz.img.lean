/-! image and restore -/
def im_mI : Nat := 28118211215894777600658645449534578195712900226743412220869883157586943837891681560371233510990904611756344981618837131700972450127195796235358937814499187490816
def im_mL : Nat := 14059105607947288904375712613015884886745096732049921568158730606258337453552983570955717679074971229002906782243598568336434061399554377857708135489944034476032
def im_mR : Nat := 2772669363592832927080676254131767371104868160447732579027262183655094577306421415727678316597754875853121566972217494083060367360
def im_mQ : Nat := 2772669363592830464454114708185429687050917161173475093029869938290223670602730004884301493509534358239748787165797559317295005696
def im_mT : Nat := 1174271291386916613944740298394668513687841274454159935353645485766104512557304221731849499192384351515967488
/-- of the windows and stands that are there each has a price, a weight; the SENTENCE's codes -/
def im_H (f : Nat → Int32) : Prop := (∀ j : Nat, j < 10 → (j : Int) < (f 0).toInt → 1 ≤ (f (2 + j)).toInt) ∧ (∀ j : Nat, j < 6 → (j : Int) < (f 1).toInt → 1 ≤ (f (48 + j)).toInt)
def im_R (f : Nat → Int32) : Prop := im_H f ∧ hd_W f
theorem im_H_congr {f f' : Nat → Int32} (h : ∀ k, k < 62 → f' k = f k) (hr : im_H f) : im_H f' := by
  refine ⟨fun j hj hlt => ?_, fun j hj hlt => ?_⟩
  · rw [h 0 (by decide)] at hlt
    rw [h (2 + j) (by omega)]
    exact hr.1 j hj hlt
  · rw [h 1 (by decide)] at hlt
    rw [h (48 + j) (by omega)]
    exact hr.2 j hj hlt
theorem im_R_congr {f f' : Nat → Int32} (h : ∀ k, k < 277 → f' k = f k) (hr : im_R f) : im_R f' := ⟨im_H_congr (fun k hk => h k (by omega)) hr.1, hd_W_congr (fun k _ h2 => h k h2) hr.2⟩
def im_all (σ : am_S) : Prop := im_R (σ.2.1 120) ∧ im_H (σ.2.1 121) ∧ im_R (σ.2.1 136) ∧ im_R (fun k => σ.2.1 136 (277 + k))
theorem im_of {σe σ : am_S} {m : Nat} (h : sx_M z9 hd_C σe m 0 σ) : im_all σ := by
  have c0 : ∀ c ∈ z9.2.2.2.2.1, sx_c0 c σ := fun c hc => h.2.2.2.2.2.1 c hc (by show sx_bit 0 c.1 = false; rw [sx_bit_eq]; exact Nat.zero_testBit _)
  have c1 : ∀ c ∈ z9.2.2.2.2.2.1, hd_C c.1 σ := fun c hc => h.2.2.2.2.2.2.1 c hc (by show sx_bit 0 c.1 = false; rw [sx_bit_eq]; exact Nat.zero_testBit _)
  rw [hd_zc] at c0
  rw [hd_zu] at c1
  refine ⟨⟨⟨c0 (0, 120, 0, 2, 10) (by simp), c0 (1, 120, 1, 48, 6) (by simp)⟩, c1 (8, 120, 96, 277) (by simp)⟩, ⟨c0 (2, 121, 0, 2, 10) (by simp), c0 (3, 121, 1, 48, 6) (by simp)⟩, ⟨⟨c0 (4, 136, 0, 2, 10) (by simp), c0 (5, 136, 1, 48, 6) (by simp)⟩, c1 (9, 136, 96, 277) (by simp)⟩, ⟨⟨fun j hj hlt => ?_, fun j hj hlt => ?_⟩, c1 (10, 136, 373, 554) (by simp)⟩⟩
  · have := c0 (6, 136, 277, 279, 10) (by simp) j hj hlt
    show 1 ≤ (σ.2.1 136 (277 + (2 + j))).toInt
    rw [show 277 + (2 + j) = 279 + j by omega]
    exact this
  · have := c0 (7, 136, 278, 325, 6) (by simp) j hj hlt
    show 1 ≤ (σ.2.1 136 (277 + (48 + j))).toInt
    rw [show 277 + (48 + j) = 325 + j by omega]
    exact this
theorem im_to {σe σ : am_S} {m : Nat} (hK : sx_M zK hd_T σe m 0 σ) (h : im_all σ) : sx_M z9 hd_C σe m 0 σ := by
  obtain ⟨⟨⟨a1, a2⟩, a3⟩, ⟨b1, b2⟩, ⟨⟨c1, c2⟩, c3⟩, ⟨⟨d1, d2⟩, d3⟩⟩ := h
  refine ⟨hK.1, hK.2.1, hK.2.2.1, hK.2.2.2.1, hK.2.2.2.2.1, ?_, ?_, hK.2.2.2.2.2.2.2⟩
  · have key : ∀ c ∈ z9.2.2.2.2.1, sx_c0 c σ := by
      refine hd_c8 a1 a2 b1 b2 c1 c2 ?_ ?_
      · intro j hj hlt
        have this : 1 ≤ (σ.2.1 136 (277 + (2 + j))).toInt := d1 j hj hlt
        rw [show 277 + (2 + j) = 279 + j by omega] at this
        exact this
      · intro j hj hlt
        have this : 1 ≤ (σ.2.1 136 (277 + (48 + j))).toInt := d2 j hj hlt
        rw [show 277 + (48 + j) = 325 + j by omega] at this
        exact this
    exact fun c hc _ => key c hc
  · have key : ∀ c ∈ z9.2.2.2.2.2.1, hd_C c.1 σ := hd_u3 a3 c3 d3
    exact fun c hc _ => key c hc
/-- the kinds of the images are those of the state -/
noncomputable def im_kd (m : Nat) : Bool := (List.range 277).all fun i => (List.range 2).all fun k => match sx_atl (z9.1 120) i, sx_atl (z9.1 136) (277 * k + i) with
  | some a, some b => sx_ieq a.1 b.1 && (sx_ieq a.2.1 b.2.1 && (sx_bit m b.2.2 || sx_bit m a.2.2))
  | _, _ => false
theorem im_kd_ok {m : Nat} (h : im_kd m = true) {i k : Nat} (hi : i < 277) (hk : k < 2) : ∃ lo hi u v, sx_atl (z9.1 120) i = some (lo, hi, u) ∧ sx_atl (z9.1 136) (277 * k + i) = some (lo, hi, v) ∧ (sx_bit m v = true ∨ sx_bit m u = true) := by
  have q := List.all_eq_true.mp (List.all_eq_true.mp h i (List.mem_range.mpr hi)) k (List.mem_range.mpr hk)
  revert q
  cases h1 : sx_atl (z9.1 120) i with
  | none => intro q; cases q
  | some a =>
    cases h2 : sx_atl (z9.1 136) (277 * k + i) with
    | none => intro q; cases q
    | some b =>
      intro q
      simp only [Bool.and_eq_true, Bool.or_eq_true] at q
      obtain ⟨a0, a1, a2⟩ := a
      obtain ⟨b0, b1, b2⟩ := b
      have e1 := sx_ieq_iff.mp q.1
      have e2 := sx_ieq_iff.mp q.2.1
      simp only at e1 e2
      subst e1 e2
      exact ⟨_, _, _, _, rfl, rfl, q.2.2⟩
/-- one of them alone: in the images' units none is the state's -/
noncomputable def im_one (m o n : Nat) : Bool := (List.range n).all fun k => match sx_atl (z9.1 o) k with
  | some q => sx_bit m q.2.2
  | none => false
theorem im_one_ok {m o n : Nat} (h : im_one m o n = true) {k : Nat} (hk : k < n) {lo hi : Int} {u : Nat} (ha : sx_atl (z9.1 o) k = some (lo, hi, u)) : sx_bit m u = true := by
  have q := List.all_eq_true.mp h k (List.mem_range.mpr hk)
  rw [ha] at q
  exact q
section IM
variable {g : am_C} {L : Nat} {xs : Nat → Int32}
theorem im_loop (G : sx_G0 g L xs z9 hd_C ex_mt) {σ0 : am_S} (h0 : sx_M z9 hd_C σ0 0 0 σ0) {m1 : Int32} {k : Nat} (hk : k < 2) (hm1 : m1.toInt = k) {post : Option (Option Value) → am_S → Prop} (kk : ∀ (σ' : am_S) (lw' : List (Nat × Value)), sx_M z9 hd_C σ0 im_mL 0 σ' → (0, Value.ref 118) ∈ lw' → (1, Value.int m1) ∈ lw' → am_K g 12 tX12_image.1 0 0 49 lw' [] σ' post) : ∀ (b i : Nat) (σ : am_S) (lw : List (Nat × Value)) (m2 : Int32), i + b = 277 → sx_M zK hd_T σ0 im_mL 0 σ → (∀ j, j < i → σ.2.1 136 (277 * k + j) = σ0.2.1 120 j) → (∀ j, j < 277 → σ.2.1 136 (277 * (1 - k) + j) = σ0.2.1 136 (277 * (1 - k) + j)) → (0, Value.ref 118) ∈ lw → (1, Value.int m1) ∈ lw → (2, Value.int m2) ∈ lw → m2.toInt = (i : Nat) → am_K g 12 tX12_image.1 0 0 18 lw [] σ post := by
  intro b
  induction b with
  | zero =>
    intro i σ lw m2 hb hM hcp hot hl hl1 hl2 e2
    refine sg_i2_run (hd_GK G) hd_ctK (sx_M_self hM) hl hl1 (by omega) hl2 (by omega) ?_ ?_
    · intro lw1 a1 a2 n0 n1 σ1 _ _ _ _ _ f3
      omega
    · intro lw1 a1 a2 σ1 p0 p1 p2 f1 f2 hM1
      have e1 : a1 = m1 := Int32.toInt_inj.mp (by omega)
      subst e1
      have hM2 := hd_tr hM hM1 (by decide +kernel)
      have z0 := hd_frz (o := 120) (n := 277) (by decide +kernel) hM2
      have z1 := hd_frz (o := 121) (n := 62) (by decide +kernel) hM2
      have z2 : ∀ j, j < 554 → σ1.2.1 136 j = σ.2.1 136 j := hd_frz (m := 0) (o := 136) (n := 554) (by decide +kernel) hM1
      obtain ⟨r1, r2, r3, r4⟩ := im_of h0
      refine kk σ1 lw1 (im_to hM2 ⟨im_R_congr z0 r1, im_H_congr z1 r2, ?_, ?_⟩) p0 p1
      · rcases (show k = 0 ∨ k = 1 by omega) with rfl | rfl
        · refine im_R_congr (fun j hj => ?_) r1
          have q1 := hcp j (by omega)
          rw [Nat.mul_zero, Nat.zero_add] at q1
          rw [z2 j (by omega), q1]
        · refine im_R_congr (fun j hj => ?_) r3
          have q1 := hot j hj
          rw [show 277 * (1 - 1) + j = j by omega] at q1
          rw [z2 j (by omega), q1]
      · rcases (show k = 0 ∨ k = 1 by omega) with rfl | rfl
        · refine im_R_congr (f' := fun k => σ1.2.1 136 (277 + k)) (fun j hj => ?_) r4
          have q1 := hot j hj
          rw [show 277 * (1 - 0) + j = 277 + j by omega] at q1
          show σ1.2.1 136 (277 + j) = _
          rw [z2 (277 + j) (by omega), q1]
        · refine im_R_congr (f' := fun k => σ1.2.1 136 (277 + k)) (fun j hj => ?_) r1
          have q1 := hcp j (by omega)
          rw [Nat.mul_one] at q1
          show σ1.2.1 136 (277 + j) = _
          rw [z2 (277 + j) (by omega), q1]
  | succ b ih =>
    intro i σ lw m2 hb hM hcp hot hl hl1 hl2 e2
    refine sg_i2_run (hd_GK G) hd_ctK (sx_M_self hM) hl hl1 (by omega) hl2 (by omega) ?_ ?_
    · intro lw1 a1 a2 n0 n1 σ1 p0 p1 p2 f1 f2 f3 f4 f5 hM1
      have e1 : a1 = m1 := Int32.toInt_inj.mp (by omega)
      subst e1
      have hM2 := hd_tr hM hM1 (by decide +kernel)
      have z0 := hd_frz (o := 120) (n := 277) (by decide +kernel) hM2
      have z2 : ∀ j, j < 554 → σ1.2.1 136 j = σ.2.1 136 j := hd_frz (m := 0) (o := 136) (n := 554) (by decide +kernel) hM1
      have en0 : n0.toInt = (i : Nat) := by omega
      have en1 : n1.toInt = ((277 * k + i : Nat) : Int) := by omega
      refine kr_iald G.1 hd_d_image_41 (hM2.1 120 (.inr (.int, 277)) rfl) (hd_in en0 (by omega)) ?_
      rw [hd_clamp en0]
      refine kr_iast G.1 hd_d_image_42 (hM2.1 136 (.inr (.int, 554)) rfl) (hd_in en1 (by omega)) ?_
      rw [hd_clamp en1]
      obtain ⟨lo, hi, u, v, g1, g2, -⟩ := im_kd_ok (m := im_mL) (by decide +kernel) (show i < 277 by omega) hk
      have bd := hM2.2.2.1 120 i lo hi u g1
      have hM3 : sx_M zK hd_T σ0 im_mL 0 (σ1.1, am_up σ1.2.1 136 (277 * k + i) (σ1.2.1 120 i), σ1.2.2.1, σ1.2.2.2) := hd_up hd_CsK hM2 g2 bd.1 bd.2 (im_one_ok (n := 554) (by decide +kernel) (by omega) g2) ⟨rfl, rfl⟩ (fun c hc => by cases hc) (fun c hc => by cases hc)
      refine sg_i3_run (hd_GK G) hd_ctK (sx_M_self hM3) p0 p1 (by omega) p2 (by omega) ?_
      intro lw4 c1 c2 σ4 q0 q1 q2 f6 f7 hM4
      have e3 : c1 = a1 := Int32.toInt_inj.mp (by omega)
      subst e3
      have z4 : ∀ j, j < 554 → σ4.2.1 136 j = am_up σ1.2.1 136 (277 * k + i) (σ1.2.1 120 i) 136 j := hd_frz (m := 0) (o := 136) (n := 554) (by decide +kernel) hM4
      refine ih (i + 1) σ4 lw4 c2 (by omega) (hd_tr hM3 hM4 (by decide +kernel)) ?_ ?_ q0 q1 q2 (by omega)
      · intro j hj
        rw [z4 _ (by omega)]
        rcases Nat.lt_or_ge j i with h | h
        · rw [am_up_n _ _ (by omega), z2 _ (by omega)]
          exact hcp j h
        · rw [show j = i by omega, am_up_s]
          exact z0 i (by omega)
      · intro j hj
        rw [z4 _ (by omega), am_up_n _ _ (by omega), z2 _ (by omega)]
        exact hot j hj
    · intro lw1 a1 a2 σ1 _ _ _ f1
      omega
theorem rs_loop (G : sx_G0 g L xs z9 hd_C ex_mt) {σ0 : am_S} (h0 : sx_M z9 hd_C σ0 0 0 σ0) {m1 : Int32} {k : Nat} (hk : k < 2) (hm1 : m1.toInt = k) {post : Option (Option Value) → am_S → Prop} (kk : ∀ (σ' : am_S) (lw' : List (Nat × Value)), sx_M z9 hd_C σ0 im_mQ 0 σ' → (0, Value.ref 118) ∈ lw' → am_K g 12 tX12_restore.1 0 0 58 lw' [] σ' post) : ∀ (b i : Nat) (σ : am_S) (lw : List (Nat × Value)) (m2 : Int32), i + b = 277 → sx_M zK hd_T σ0 im_mQ 0 σ → (∀ j, j < i → σ.2.1 120 j = σ0.2.1 136 (277 * k + j)) → (0, Value.ref 118) ∈ lw → (1, Value.int m1) ∈ lw → (2, Value.int m2) ∈ lw → m2.toInt = (i : Nat) → am_K g 12 tX12_restore.1 0 0 27 lw [] σ post := by
  intro b
  induction b with
  | zero =>
    intro i σ lw m2 hb hM hcp hl hl1 hl2 e2
    refine sg_r2_run (hd_GK G) hd_ctK (sx_M_self hM) hl hl1 (by omega) hl2 (by omega) ?_ ?_
    · intro lw1 a1 a2 n0 n1 σ1 _ _ _ _ _ f3
      omega
    · intro lw1 a1 a2 σ1 p0 p1 p2 f1 f2 hM1
      have hM2 := hd_tr hM hM1 (by decide +kernel)
      have z1 := hd_frz (o := 121) (n := 62) (by decide +kernel) hM2
      have z3 := hd_frz (o := 136) (n := 554) (by decide +kernel) hM2
      have z2 : ∀ j, j < 277 → σ1.2.1 120 j = σ.2.1 120 j := hd_frz (m := 0) (o := 120) (n := 277) (by decide +kernel) hM1
      obtain ⟨r1, r2, r3, r4⟩ := im_of h0
      refine kk σ1 lw1 (im_to hM2 ⟨?_, im_H_congr z1 r2, im_R_congr (fun j hj => z3 j (by omega)) r3, im_R_congr (f' := fun k => σ1.2.1 136 (277 + k)) (fun j hj => z3 (277 + j) (by omega)) r4⟩) p0
      rcases (show k = 0 ∨ k = 1 by omega) with rfl | rfl
      · refine im_R_congr (fun j hj => ?_) r3
        have q1 := hcp j (by omega)
        rw [Nat.mul_zero, Nat.zero_add] at q1
        rw [z2 j hj, q1]
      · refine im_R_congr (f := fun k => σ0.2.1 136 (277 + k)) (fun j hj => ?_) r4
        have q1 := hcp j (by omega)
        rw [Nat.mul_one] at q1
        rw [z2 j hj, q1]
  | succ b ih =>
    intro i σ lw m2 hb hM hcp hl hl1 hl2 e2
    refine sg_r2_run (hd_GK G) hd_ctK (sx_M_self hM) hl hl1 (by omega) hl2 (by omega) ?_ ?_
    · intro lw1 a1 a2 n0 n1 σ1 p0 p1 p2 f1 f2 f3 f4 f5 hM1
      have e1 : a1 = m1 := Int32.toInt_inj.mp (by omega)
      subst e1
      have hM2 := hd_tr hM hM1 (by decide +kernel)
      have z3 := hd_frz (o := 136) (n := 554) (by decide +kernel) hM2
      have z2 : ∀ j, j < 277 → σ1.2.1 120 j = σ.2.1 120 j := hd_frz (m := 0) (o := 120) (n := 277) (by decide +kernel) hM1
      have en0 : n0.toInt = ((277 * k + i : Nat) : Int) := by omega
      have en1 : n1.toInt = (i : Nat) := by omega
      refine kr_iald G.1 hd_d_restore_50 (hM2.1 136 (.inr (.int, 554)) rfl) (hd_in en0 (by omega)) ?_
      rw [hd_clamp en0]
      refine kr_iast G.1 hd_d_restore_51 (hM2.1 120 (.inr (.int, 277)) rfl) (hd_in en1 (by omega)) ?_
      rw [hd_clamp en1]
      obtain ⟨lo, hi, u, v, g1, g2, -⟩ := im_kd_ok (m := im_mL) (by decide +kernel) (show i < 277 by omega) hk
      have bd := hM2.2.2.1 136 (277 * k + i) lo hi v g2
      have hM3 : sx_M zK hd_T σ0 im_mQ 0 (σ1.1, am_up σ1.2.1 120 i (σ1.2.1 136 (277 * k + i)), σ1.2.2.1, σ1.2.2.2) := hd_up hd_CsK hM2 g1 bd.1 bd.2 (im_one_ok (n := 277) (by decide +kernel) (by omega) g1) ⟨rfl, rfl⟩ (fun c hc => by cases hc) (fun c hc => by cases hc)
      refine sg_r3_run (hd_GK G) hd_ctK (sx_M_self hM3) p0 p1 (by omega) p2 (by omega) ?_
      intro lw4 c1 c2 σ4 q0 q1 q2 f6 f7 hM4
      have e3 : c1 = a1 := Int32.toInt_inj.mp (by omega)
      subst e3
      have z4 : ∀ j, j < 277 → σ4.2.1 120 j = am_up σ1.2.1 120 i (σ1.2.1 136 (277 * k + i)) 120 j := hd_frz (m := 0) (o := 120) (n := 277) (by decide +kernel) hM4
      refine ih (i + 1) σ4 lw4 c2 (by omega) (hd_tr hM3 hM4 (by decide +kernel)) ?_ q0 q1 q2 (by omega)
      intro j hj
      rw [z4 _ (by omega)]
      rcases Nat.lt_or_ge j i with h | h
      · rw [am_up_n _ _ (by omega), z2 _ (by omega)]
        exact hcp j h
      · rw [show j = i by omega, am_up_s]
        exact z3 _ (by omega)
    · intro lw1 a1 a2 σ1 _ _ _ f1
      omega
end IM
