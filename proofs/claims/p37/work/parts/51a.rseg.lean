/-! segments of the readers (written by a program) -/
theorem hd_kd_1_1 {C9 : Nat → am_S → Prop} {cl : List sx_Cl} {cu : List (Nat × Nat × Nat × Nat)} {σe σ : am_S} {m : Nat} (h : sx_M (z9.1, z9.2.1, z9.2.2.1, z9.2.2.2.1, cl, cu, z9.2.2.2.2.2.2) C9 σe m 0 σ) : (0 : Int) ≤ (σ.2.1 1 1).toInt ∧ (σ.2.1 1 1).toInt ≤ 940 := h.2.2.1 1 1 _ _ 18 rfl
theorem hd_kd_3_1 {C9 : Nat → am_S → Prop} {cl : List sx_Cl} {cu : List (Nat × Nat × Nat × Nat)} {σe σ : am_S} {m : Nat} (h : sx_M (z9.1, z9.2.1, z9.2.2.1, z9.2.2.2.1, cl, cu, z9.2.2.2.2.2.2) C9 σe m 0 σ) : ((-2147483648) : Int) ≤ (σ.2.1 3 1).toInt ∧ (σ.2.1 3 1).toInt ≤ 2147483647 := h.2.2.1 3 1 _ _ 21 rfl
theorem hd_kd_3_2 {C9 : Nat → am_S → Prop} {cl : List sx_Cl} {cu : List (Nat × Nat × Nat × Nat)} {σe σ : am_S} {m : Nat} (h : sx_M (z9.1, z9.2.1, z9.2.2.1, z9.2.2.2.1, cl, cu, z9.2.2.2.2.2.2) C9 σe m 0 σ) : ((-2147483648) : Int) ≤ (σ.2.1 3 2).toInt ∧ (σ.2.1 3 2).toInt ≤ 2147483647 := h.2.2.1 3 2 _ _ 22 rfl
theorem hd_kd_3_4 {C9 : Nat → am_S → Prop} {cl : List sx_Cl} {cu : List (Nat × Nat × Nat × Nat)} {σe σ : am_S} {m : Nat} (h : sx_M (z9.1, z9.2.1, z9.2.2.1, z9.2.2.2.1, cl, cu, z9.2.2.2.2.2.2) C9 σe m 0 σ) : ((-2147483648) : Int) ≤ (σ.2.1 3 4).toInt ∧ (σ.2.1 3 4).toInt ≤ 2147483647 := h.2.2.1 3 4 _ _ 24 rfl
theorem hd_kd_3_5 {C9 : Nat → am_S → Prop} {cl : List sx_Cl} {cu : List (Nat × Nat × Nat × Nat)} {σe σ : am_S} {m : Nat} (h : sx_M (z9.1, z9.2.1, z9.2.2.1, z9.2.2.2.1, cl, cu, z9.2.2.2.2.2.2) C9 σe m 0 σ) : ((-2147483648) : Int) ≤ (σ.2.1 3 5).toInt ∧ (σ.2.1 3 5).toInt ≤ 2147483647 := h.2.2.1 3 5 _ _ 25 rfl
theorem hd_kd_3_6 {C9 : Nat → am_S → Prop} {cl : List sx_Cl} {cu : List (Nat × Nat × Nat × Nat)} {σe σ : am_S} {m : Nat} (h : sx_M (z9.1, z9.2.1, z9.2.2.1, z9.2.2.2.1, cl, cu, z9.2.2.2.2.2.2) C9 σe m 0 σ) : ((-2147483648) : Int) ≤ (σ.2.1 3 6).toInt ∧ (σ.2.1 3 6).toInt ≤ 2147483647 := h.2.2.1 3 6 _ _ 26 rfl
theorem hd_kd_3_7 {C9 : Nat → am_S → Prop} {cl : List sx_Cl} {cu : List (Nat × Nat × Nat × Nat)} {σe σ : am_S} {m : Nat} (h : sx_M (z9.1, z9.2.1, z9.2.2.1, z9.2.2.2.1, cl, cu, z9.2.2.2.2.2.2) C9 σe m 0 σ) : ((-2147483648) : Int) ≤ (σ.2.1 3 7).toInt ∧ (σ.2.1 3 7).toInt ≤ 2147483647 := h.2.2.1 3 7 _ _ 27 rfl
theorem hd_kd_4_9 {C9 : Nat → am_S → Prop} {cl : List sx_Cl} {cu : List (Nat × Nat × Nat × Nat)} {σe σ : am_S} {m : Nat} (h : sx_M (z9.1, z9.2.1, z9.2.2.1, z9.2.2.2.1, cl, cu, z9.2.2.2.2.2.2) C9 σe m 0 σ) : ((-2147483648) : Int) ≤ (σ.2.1 4 9).toInt ∧ (σ.2.1 4 9).toInt ≤ 2147483647 := h.2.2.1 4 9 _ _ 38 rfl
theorem hd_kd_12_7 {C9 : Nat → am_S → Prop} {cl : List sx_Cl} {cu : List (Nat × Nat × Nat × Nat)} {σe σ : am_S} {m : Nat} (h : sx_M (z9.1, z9.2.1, z9.2.2.1, z9.2.2.2.1, cl, cu, z9.2.2.2.2.2.2) C9 σe m 0 σ) : (0 : Int) ≤ (σ.2.1 12 7).toInt ∧ (σ.2.1 12 7).toInt ≤ 10 := h.2.2.1 12 7 _ _ 54 rfl
theorem hd_kd_12_8 {C9 : Nat → am_S → Prop} {cl : List sx_Cl} {cu : List (Nat × Nat × Nat × Nat)} {σe σ : am_S} {m : Nat} (h : sx_M (z9.1, z9.2.1, z9.2.2.1, z9.2.2.2.1, cl, cu, z9.2.2.2.2.2.2) C9 σe m 0 σ) : (0 : Int) ≤ (σ.2.1 12 8).toInt ∧ (σ.2.1 12 8).toInt ≤ 6 := h.2.2.1 12 8 _ _ 55 rfl
theorem hd_kd_12_9 {C9 : Nat → am_S → Prop} {cl : List sx_Cl} {cu : List (Nat × Nat × Nat × Nat)} {σe σ : am_S} {m : Nat} (h : sx_M (z9.1, z9.2.1, z9.2.2.1, z9.2.2.2.1, cl, cu, z9.2.2.2.2.2.2) C9 σe m 0 σ) : ((-2147483648) : Int) ≤ (σ.2.1 12 9).toInt ∧ (σ.2.1 12 9).toInt ≤ 2147483647 := h.2.2.1 12 9 _ _ 56 rfl
theorem hd_kd_12_10 {C9 : Nat → am_S → Prop} {cl : List sx_Cl} {cu : List (Nat × Nat × Nat × Nat)} {σe σ : am_S} {m : Nat} (h : sx_M (z9.1, z9.2.1, z9.2.2.1, z9.2.2.2.1, cl, cu, z9.2.2.2.2.2.2) C9 σe m 0 σ) : ((-2147483648) : Int) ≤ (σ.2.1 12 10).toInt ∧ (σ.2.1 12 10).toInt ≤ 2147483647 := h.2.2.1 12 10 _ _ 57 rfl
theorem hd_kd_118_2 {C9 : Nat → am_S → Prop} {cl : List sx_Cl} {cu : List (Nat × Nat × Nat × Nat)} {σe σ : am_S} {m : Nat} (h : sx_M (z9.1, z9.2.1, z9.2.2.1, z9.2.2.2.1, cl, cu, z9.2.2.2.2.2.2) C9 σe m 0 σ) : (0 : Int) ≤ (σ.2.1 118 2).toInt ∧ (σ.2.1 118 2).toInt ≤ 940 := h.2.2.1 118 2 _ _ 361 rfl
theorem hd_kd_118_3 {C9 : Nat → am_S → Prop} {cl : List sx_Cl} {cu : List (Nat × Nat × Nat × Nat)} {σe σ : am_S} {m : Nat} (h : sx_M (z9.1, z9.2.1, z9.2.2.1, z9.2.2.2.1, cl, cu, z9.2.2.2.2.2.2) C9 σe m 0 σ) : (0 : Int) ≤ (σ.2.1 118 3).toInt ∧ (σ.2.1 118 3).toInt ≤ 940 := h.2.2.1 118 3 _ _ 362 rfl
theorem hd_kd_118_4 {C9 : Nat → am_S → Prop} {cl : List sx_Cl} {cu : List (Nat × Nat × Nat × Nat)} {σe σ : am_S} {m : Nat} (h : sx_M (z9.1, z9.2.1, z9.2.2.1, z9.2.2.2.1, cl, cu, z9.2.2.2.2.2.2) C9 σe m 0 σ) : (0 : Int) ≤ (σ.2.1 118 4).toInt ∧ (σ.2.1 118 4).toInt ≤ 940 := h.2.2.1 118 4 _ _ 363 rfl
theorem hd_kd_118_5 {C9 : Nat → am_S → Prop} {cl : List sx_Cl} {cu : List (Nat × Nat × Nat × Nat)} {σe σ : am_S} {m : Nat} (h : sx_M (z9.1, z9.2.1, z9.2.2.1, z9.2.2.2.1, cl, cu, z9.2.2.2.2.2.2) C9 σe m 0 σ) : ((-2147483648) : Int) ≤ (σ.2.1 118 5).toInt ∧ (σ.2.1 118 5).toInt ≤ 2147483647 := h.2.2.1 118 5 _ _ 364 rfl
theorem hd_kd_118_10 {C9 : Nat → am_S → Prop} {cl : List sx_Cl} {cu : List (Nat × Nat × Nat × Nat)} {σe σ : am_S} {m : Nat} (h : sx_M (z9.1, z9.2.1, z9.2.2.1, z9.2.2.2.1, cl, cu, z9.2.2.2.2.2.2) C9 σe m 0 σ) : ((-2147483648) : Int) ≤ (σ.2.1 118 10).toInt ∧ (σ.2.1 118 10).toInt ≤ 2147483647 := h.2.2.1 118 10 _ _ 369 rfl
theorem hd_kd_118_11 {C9 : Nat → am_S → Prop} {cl : List sx_Cl} {cu : List (Nat × Nat × Nat × Nat)} {σe σ : am_S} {m : Nat} (h : sx_M (z9.1, z9.2.1, z9.2.2.1, z9.2.2.2.1, cl, cu, z9.2.2.2.2.2.2) C9 σe m 0 σ) : ((-2147483648) : Int) ≤ (σ.2.1 118 11).toInt ∧ (σ.2.1 118 11).toInt ≤ 2147483647 := h.2.2.1 118 11 _ _ 370 rfl
theorem hd_kd_118_12 {C9 : Nat → am_S → Prop} {cl : List sx_Cl} {cu : List (Nat × Nat × Nat × Nat)} {σe σ : am_S} {m : Nat} (h : sx_M (z9.1, z9.2.1, z9.2.2.1, z9.2.2.2.1, cl, cu, z9.2.2.2.2.2.2) C9 σe m 0 σ) : ((-2147483648) : Int) ≤ (σ.2.1 118 12).toInt ∧ (σ.2.1 118 12).toInt ≤ 2147483647 := h.2.2.1 118 12 _ _ 371 rfl
theorem hd_kd_118_16 {C9 : Nat → am_S → Prop} {cl : List sx_Cl} {cu : List (Nat × Nat × Nat × Nat)} {σe σ : am_S} {m : Nat} (h : sx_M (z9.1, z9.2.1, z9.2.2.1, z9.2.2.2.1, cl, cu, z9.2.2.2.2.2.2) C9 σe m 0 σ) : ((-2147483648) : Int) ≤ (σ.2.1 118 16).toInt ∧ (σ.2.1 118 16).toInt ≤ 2147483647 := h.2.2.1 118 16 _ _ 375 rfl
theorem hd_kd_118_17 {C9 : Nat → am_S → Prop} {cl : List sx_Cl} {cu : List (Nat × Nat × Nat × Nat)} {σe σ : am_S} {m : Nat} (h : sx_M (z9.1, z9.2.1, z9.2.2.1, z9.2.2.2.1, cl, cu, z9.2.2.2.2.2.2) C9 σe m 0 σ) : ((-2147483648) : Int) ≤ (σ.2.1 118 17).toInt ∧ (σ.2.1 118 17).toInt ≤ 2147483647 := h.2.2.1 118 17 _ _ 376 rfl
theorem hd_kd_118_18 {C9 : Nat → am_S → Prop} {cl : List sx_Cl} {cu : List (Nat × Nat × Nat × Nat)} {σe σ : am_S} {m : Nat} (h : sx_M (z9.1, z9.2.1, z9.2.2.1, z9.2.2.2.1, cl, cu, z9.2.2.2.2.2.2) C9 σe m 0 σ) : ((-2147483648) : Int) ≤ (σ.2.1 118 18).toInt ∧ (σ.2.1 118 18).toInt ≤ 2147483647 := h.2.2.1 118 18 _ _ 377 rfl
def sg_pk1 : sg_Cu := (0, 0, [(0, .inr (some (false, 118)))], ([.inr 7733252, .inr 7733251], [([(.ofNat 1, 0)], .ofNat 0, .ofNat 940), ([(.ofNat 1, 1)], .ofNat 0, .ofNat 940)]), [])
def sg_pk1_a : sg_Cu := (19, 0, [(0, .inr (some (false, 118)))], ([], [([(.ofNat 1, 0), (.negSucc 0, 2)], .ofNat 0, .ofNat 0), ([(.ofNat 1, 0), (.negSucc 0, 1)], .negSucc 4611686018427387903, .negSucc 0)]), [none, some (false, 119)])
def sg_pk1_p0 : sx_Po := (0, true, [], [([(.ofNat 1, 2)], .negSucc 0, .negSucc 0), ([(.ofNat 1, 0), (.negSucc 0, 1)], .ofNat 0, .ofNat 4611686018427387904)])
theorem sg_pk1_ok : sg_chk zK ex_mt k9 0 tX12_peek 11 3 sg_pk1 [sg_pk1_p0] [sg_pk1_a] = true := by decide +kernel
def sg_pk2 : sg_Cu := (20, 0, [(0, .inr (some (false, 118)))], ([], [([(.ofNat 1, 0)], .negSucc 2147483647, .ofNat 2147483647)]), [none])
def sg_pk2_a : sg_Cu := (23, 0, [(0, .inr (some (false, 118)))], ([], [([(.ofNat 1, 1)], .ofNat 255, .ofNat 255), ([(.ofNat 1, 0), (.negSucc 0, 2)], .ofNat 0, .ofNat 0)]), [none, none])
theorem sg_pk2_ok : sg_chk zK ex_mt k9 0 tX12_peek 3 3 sg_pk2 [] [sg_pk2_a] = true := by decide +kernel
def sg_pk3 : sg_Cu := (24, 0, [(0, .inr (some (false, 118)))], ([], [([(.ofNat 1, 0)], .negSucc 2147483647, .ofNat 2147483647)]), [none])
def sg_pk3_p0 : sx_Po := (0, true, [], [([(.ofNat 1, 0), (.negSucc 0, 1)], .ofNat 0, .ofNat 0)])
theorem sg_pk3_ok : sg_chk zK ex_mt k9 0 tX12_peek 3 3 sg_pk3 [sg_pk3_p0] [] = true := by decide +kernel
def sg_nx1 : sg_Cu := (0, 0, [(0, .inr (some (false, 118)))], ([], []), [])
def sg_nx1_a : sg_Cu := (1, 0, [(0, .inr (some (false, 118)))], ([], []), [some (false, 118)])
theorem sg_nx1_ok : sg_chk zK ex_mt k9 0 tX12_next 3 10 sg_nx1 [] [sg_nx1_a] = true := by decide +kernel
def sg_nx2a : sg_Cu := (4, 0, [(0, .inr (some (false, 118)))], ([.inr 7733252], [([(.ofNat 1, 0)], .ofNat 0, .ofNat 939), ([(.ofNat 1, 1)], .ofNat 32, .ofNat 32)]), [none])
def sg_nx2a_a : sg_Cu := (0, 18788340662190665823115844774314696219005460391266558965658327772257672200916867547709591987078149624255479808, [(0, .inr (some (false, 118)))], ([.inr 7733252], [([(.ofNat 1, 0), (.negSucc 0, 2)], .negSucc 0, .negSucc 0)]), [])
theorem sg_nx2a_ok : sg_chk zK ex_mt k9 0 tX12_next 11 10 sg_nx2a [] [sg_nx2a_a] = true := by decide +kernel
def sg_nx2b : sg_Cu := (4, 0, [(0, .inr (some (false, 118)))], ([], [([(.ofNat 1, 0)], .negSucc 0, .ofNat 31)]), [none])
def sg_nx2b_a : sg_Cu := (10, 0, [(0, .inr (some (false, 118)))], ([], []), [some (false, 118)])
theorem sg_nx2b_ok : sg_chk zK ex_mt k9 0 tX12_next 5 10 sg_nx2b [] [sg_nx2b_a] = true := by decide +kernel
def sg_nx2c : sg_Cu := (4, 0, [(0, .inr (some (false, 118)))], ([], [([(.ofNat 1, 0)], .ofNat 33, .ofNat 255)]), [none])
def sg_nx2c_a : sg_Cu := (10, 0, [(0, .inr (some (false, 118)))], ([], []), [some (false, 118)])
theorem sg_nx2c_ok : sg_chk zK ex_mt k9 0 tX12_next 5 10 sg_nx2c [] [sg_nx2c_a] = true := by decide +kernel
def sg_nx3a : sg_Cu := (13, 0, [(0, .inr (some (false, 118)))], ([.inr 7733252], [([(.ofNat 1, 0)], .ofNat 0, .ofNat 939), ([(.ofNat 1, 1)], .ofNat 10, .ofNat 10)]), [none])
def sg_nx3a_a : sg_Cu := (0, 18788340662190665823115844774314696219005460391266558965658327772257672200916867547709591987078149624255479808, [(0, .inr (some (false, 118)))], ([.inr 7733252], [([(.ofNat 1, 0), (.negSucc 0, 2)], .negSucc 0, .negSucc 0)]), [])
theorem sg_nx3a_ok : sg_chk zK ex_mt k9 0 tX12_next 11 10 sg_nx3a [] [sg_nx3a_a] = true := by decide +kernel
def sg_nx3b : sg_Cu := (13, 0, [(0, .inr (some (false, 118)))], ([], [([(.ofNat 1, 0)], .negSucc 0, .ofNat 9)]), [none])
def sg_nx3b_a : sg_Cu := (31, 0, [(0, .inr (some (false, 118)))], ([], []), [])
theorem sg_nx3b_ok : sg_chk zK ex_mt k9 0 tX12_next 4 10 sg_nx3b [] [sg_nx3b_a] = true := by decide +kernel
def sg_nx3c : sg_Cu := (13, 0, [(0, .inr (some (false, 118)))], ([], [([(.ofNat 1, 0)], .ofNat 11, .ofNat 255)]), [none])
def sg_nx3c_a : sg_Cu := (31, 0, [(0, .inr (some (false, 118)))], ([], []), [])
theorem sg_nx3c_ok : sg_chk zK ex_mt k9 0 tX12_next 4 10 sg_nx3c [] [sg_nx3c_a] = true := by decide +kernel
def sg_nx4 : sg_Cu := (31, 0, [(0, .inr (some (false, 118)))], ([.inr 7733252, .inr 7733251, .inr 7733253], [([(.ofNat 1, 0)], .ofNat 0, .ofNat 940), ([(.ofNat 1, 1)], .ofNat 0, .ofNat 940), ([(.ofNat 1, 2)], .negSucc 2147483647, .ofNat 2147483647)]), [])
def sg_nx4_a : sg_Cu := (81, 3607361407140607838038242196668421674049048395123179321406398932273473062576038569160241661519004727857052123136, [(0, .inr (some (false, 118)))], ([.inr 7733258, .inr 7733259], [([(.ofNat 1, 0), (.negSucc 0, 3)], .ofNat 0, .ofNat 0), ([(.ofNat 1, 4)], .ofNat 0, .ofNat 0), ([(.ofNat 1, 1), (.negSucc 0, 2)], .negSucc 4611686018427387903, .ofNat 0)]), [some (false, 118)])
def sg_nx4_b : sg_Cu := (81, 3607361407140607838038242196668421674049048395123179321406398932273473062576038569160241661519004727857052123136, [(0, .inr (some (false, 118)))], ([.inr 7733258, .inr 7733259], [([(.ofNat 1, 0), (.negSucc 0, 3)], .ofNat 0, .ofNat 0), ([(.ofNat 1, 4)], .ofNat 0, .ofNat 0), ([(.ofNat 1, 0), (.negSucc 0, 2)], .negSucc 4611686018427387903, .negSucc 0)]), [some (false, 118)])
def sg_nx4_p0 : sx_Po := (4208588308330709144377949229446491953057223127643709208307465420985718573005378330686948605105505515833227476992, false, [7733258, 7733259, 7733257], [([(.ofNat 1, 2), (.negSucc 0, 3)], .ofNat 0, .ofNat 0), ([(.ofNat 1, 4)], .ofNat 0, .ofNat 0), ([(.ofNat 1, 5)], .ofNat 4, .ofNat 4), ([(.ofNat 1, 1), (.negSucc 0, 2)], .ofNat 1, .ofNat 4611686018427387904), ([(.ofNat 1, 0), (.negSucc 0, 2)], .ofNat 0, .ofNat 4611686018427387904)])
theorem sg_nx4_ok : sg_chk zK ex_mt k9 0 tX12_next 26 10 sg_nx4 [sg_nx4_p0] [sg_nx4_a, sg_nx4_b] = true := by decide +kernel
def sg_nx5e : sg_Cu := (84, 0, [(0, .inr (some (false, 118)))], ([], [([(.ofNat 1, 0)], .negSucc 0, .negSucc 0)]), [none])
def sg_nx5e_p0 : sx_Po := (601226901190101306339707032778070279008174732520529886901066488712245510429339761526706943586500787976175353856, false, [7733257], [([(.ofNat 1, 1)], .ofNat 0, .ofNat 0)])
theorem sg_nx5e_ok : sg_chk zK ex_mt k9 0 tX12_next 8 10 sg_nx5e [sg_nx5e_p0] [] = true := by decide +kernel
def sg_nx5a : sg_Cu := (84, 0, [(0, .inr (some (false, 118)))], ([.inr 7733252], [([(.ofNat 1, 0)], .ofNat 0, .ofNat 939), ([(.ofNat 1, 1)], .ofNat 0, .ofNat 39)]), [none])
def sg_nx5a_p0 : sx_Po := (5429830451373102422880479139776947207292578053076035541075256726182467266064974721288072084265585241409833664512, false, [7733257, 7733260, 7733252], [([(.ofNat 1, 2)], .ofNat 4, .ofNat 4), ([(.ofNat 1, 1), (.negSucc 0, 3)], .ofNat 0, .ofNat 0), ([(.ofNat 1, 0), (.negSucc 0, 4)], .negSucc 0, .negSucc 0)])
theorem sg_nx5a_ok : sg_chk zK ex_mt k9 0 tX12_next 45 10 sg_nx5a [sg_nx5a_p0] [] = true := by decide +kernel
def sg_nx5b : sg_Cu := (84, 0, [(0, .inr (some (false, 118)))], ([.inr 7733252], [([(.ofNat 1, 0)], .ofNat 0, .ofNat 939), ([(.ofNat 1, 1)], .ofNat 40, .ofNat 40)]), [none])
def sg_nx5b_p0 : sx_Po := (5429830451373102422880479139776947207292578053076035541075256726182467266064974721288072084265585241409833664512, false, [7733257, 7733260, 7733252], [([(.ofNat 1, 2)], .ofNat 3, .ofNat 3), ([(.ofNat 1, 1), (.negSucc 0, 3)], .ofNat 0, .ofNat 0), ([(.ofNat 1, 0), (.negSucc 0, 4)], .negSucc 0, .negSucc 0)])
theorem sg_nx5b_ok : sg_chk zK ex_mt k9 0 tX12_next 40 10 sg_nx5b [sg_nx5b_p0] [] = true := by decide +kernel
def sg_nx5c : sg_Cu := (84, 0, [(0, .inr (some (false, 118)))], ([.inr 7733252], [([(.ofNat 1, 0)], .ofNat 0, .ofNat 939), ([(.ofNat 1, 1)], .ofNat 41, .ofNat 41)]), [none])
def sg_nx5c_p0 : sx_Po := (5429830451373102422880479139776947207292578053076035541075256726182467266064974721288072084265585241409833664512, false, [7733257, 7733260, 7733252], [([(.ofNat 1, 2)], .ofNat 3, .ofNat 3), ([(.ofNat 1, 1), (.negSucc 0, 3)], .ofNat 0, .ofNat 0), ([(.ofNat 1, 0), (.negSucc 0, 4)], .negSucc 0, .negSucc 0)])
theorem sg_nx5c_ok : sg_chk zK ex_mt k9 0 tX12_next 43 10 sg_nx5c [sg_nx5c_p0] [] = true := by decide +kernel
def sg_nx5d : sg_Cu := (84, 0, [(0, .inr (some (false, 118)))], ([.inr 7733252], [([(.ofNat 1, 0)], .ofNat 0, .ofNat 939), ([(.ofNat 1, 1)], .ofNat 42, .ofNat 47)]), [none])
def sg_nx5d_p0 : sx_Po := (5429830451373102422880479139776947207292578053076035541075256726182467266064974721288072084265585241409833664512, false, [7733257, 7733260, 7733252], [([(.ofNat 1, 2)], .ofNat 4, .ofNat 4), ([(.ofNat 1, 1), (.negSucc 0, 3)], .ofNat 0, .ofNat 0), ([(.ofNat 1, 0), (.negSucc 0, 4)], .negSucc 0, .negSucc 0)])
theorem sg_nx5d_ok : sg_chk zK ex_mt k9 0 tX12_next 45 10 sg_nx5d [sg_nx5d_p0] [] = true := by decide +kernel
def sg_nx5f : sg_Cu := (84, 0, [(0, .inr (some (false, 118)))], ([.inr 7733252], [([(.ofNat 1, 0)], .ofNat 0, .ofNat 939), ([(.ofNat 1, 1)], .ofNat 58, .ofNat 58)]), [none])
def sg_nx5f_p0 : sx_Po := (5429830451373102422880479139776947207292578053076035541075256726182467266064974721288072084265585241409833664512, false, [7733257, 7733260, 7733252], [([(.ofNat 1, 2)], .ofNat 4, .ofNat 4), ([(.ofNat 1, 1), (.negSucc 0, 3)], .ofNat 0, .ofNat 0), ([(.ofNat 1, 0), (.negSucc 0, 4)], .negSucc 0, .negSucc 0)])
theorem sg_nx5f_ok : sg_chk zK ex_mt k9 0 tX12_next 48 10 sg_nx5f [sg_nx5f_p0] [] = true := by decide +kernel
def sg_nx5g : sg_Cu := (84, 0, [(0, .inr (some (false, 118)))], ([.inr 7733252], [([(.ofNat 1, 0)], .ofNat 0, .ofNat 939), ([(.ofNat 1, 1)], .ofNat 59, .ofNat 59)]), [none])
def sg_nx5g_p0 : sx_Po := (5429830451373102422880479139776947207292578053076035541075256726182467266064974721288072084265585241409833664512, false, [7733257, 7733260, 7733252], [([(.ofNat 1, 2)], .ofNat 3, .ofNat 3), ([(.ofNat 1, 1), (.negSucc 0, 3)], .ofNat 0, .ofNat 0), ([(.ofNat 1, 0), (.negSucc 0, 4)], .negSucc 0, .negSucc 0)])
theorem sg_nx5g_ok : sg_chk zK ex_mt k9 0 tX12_next 40 10 sg_nx5g [sg_nx5g_p0] [] = true := by decide +kernel
def sg_nx5h : sg_Cu := (84, 0, [(0, .inr (some (false, 118)))], ([.inr 7733252], [([(.ofNat 1, 0)], .ofNat 0, .ofNat 939), ([(.ofNat 1, 1)], .ofNat 60, .ofNat 62)]), [none])
def sg_nx5h_p0 : sx_Po := (5429830451373102422880479139776947207292578053076035541075256726182467266064974721288072084265585241409833664512, false, [7733257, 7733260, 7733252], [([(.ofNat 1, 2)], .ofNat 3, .ofNat 3), ([(.ofNat 1, 1), (.negSucc 0, 3)], .ofNat 0, .ofNat 0), ([(.ofNat 1, 0), (.negSucc 0, 4)], .negSucc 0, .negSucc 0)])
theorem sg_nx5h_ok : sg_chk zK ex_mt k9 0 tX12_next 52 10 sg_nx5h [sg_nx5h_p0] [] = true := by decide +kernel
def sg_nx5i : sg_Cu := (84, 0, [(0, .inr (some (false, 118)))], ([.inr 7733252], [([(.ofNat 1, 0)], .ofNat 0, .ofNat 939), ([(.ofNat 1, 1)], .ofNat 63, .ofNat 96)]), [none])
def sg_nx5i_p0 : sx_Po := (5429830451373102422880479139776947207292578053076035541075256726182467266064974721288072084265585241409833664512, false, [7733257, 7733260, 7733252], [([(.ofNat 1, 2)], .ofNat 4, .ofNat 4), ([(.ofNat 1, 1), (.negSucc 0, 3)], .ofNat 0, .ofNat 0), ([(.ofNat 1, 0), (.negSucc 0, 4)], .negSucc 0, .negSucc 0)])
theorem sg_nx5i_ok : sg_chk zK ex_mt k9 0 tX12_next 51 10 sg_nx5i [sg_nx5i_p0] [] = true := by decide +kernel
def sg_nx5j : sg_Cu := (84, 0, [(0, .inr (some (false, 118)))], ([.inr 7733252], [([(.ofNat 1, 0)], .ofNat 0, .ofNat 939), ([(.ofNat 1, 1)], .ofNat 123, .ofNat 255)]), [none])
def sg_nx5j_p0 : sx_Po := (5429830451373102422880479139776947207292578053076035541075256726182467266064974721288072084265585241409833664512, false, [7733257, 7733260, 7733252], [([(.ofNat 1, 2)], .ofNat 4, .ofNat 4), ([(.ofNat 1, 1), (.negSucc 0, 3)], .ofNat 0, .ofNat 0), ([(.ofNat 1, 0), (.negSucc 0, 4)], .negSucc 0, .negSucc 0)])
theorem sg_nx5j_ok : sg_chk zK ex_mt k9 0 tX12_next 54 10 sg_nx5j [sg_nx5j_p0] [] = true := by decide +kernel
def sg_nx5k : sg_Cu := (84, 0, [(0, .inr (some (false, 118)))], ([], [([(.ofNat 1, 0)], .ofNat 48, .ofNat 57)]), [none])
def sg_nx5k_a : sg_Cu := (171, 0, [(0, .inr (some (false, 118)))], ([.inl 2, .inl 3], [([(.ofNat 1, 1)], .ofNat 0, .ofNat 0), ([(.ofNat 1, 2)], .ofNat 1, .ofNat 1)]), [])
theorem sg_nx5k_ok : sg_chk zK ex_mt k9 0 tX12_next 35 10 sg_nx5k [] [sg_nx5k_a] = true := by decide +kernel
def sg_nx5l : sg_Cu := (84, 0, [(0, .inr (some (false, 118)))], ([], [([(.ofNat 1, 0)], .ofNat 97, .ofNat 122)]), [none])
def sg_nx5l_a : sg_Cu := (171, 0, [(0, .inr (some (false, 118)))], ([.inl 2, .inl 3], [([(.ofNat 1, 1)], .ofNat 1, .ofNat 1), ([(.ofNat 1, 2)], .ofNat 1, .ofNat 1)]), [])
theorem sg_nx5l_ok : sg_chk zK ex_mt k9 0 tX12_next 31 10 sg_nx5l [] [sg_nx5l_a] = true := by decide +kernel
def sg_nx5z : sg_Cu := (176, 0, [(0, .inr (some (false, 118)))], ([.inl 2, .inl 3], [([(.ofNat 1, 0)], .negSucc 2147483647, .ofNat 2147483647), ([(.ofNat 1, 1)], .negSucc 2147483647, .ofNat 2147483647)]), [])
def sg_nx5z_a : sg_Cu := (182, 4809815209520810450717656262224562232065397860164239095208531909697964083434718092213655548692006303809402830848, [(0, .inr (some (false, 118)))], ([.inl 2, .inl 3, .inr 7733260], [([(.ofNat 1, 0), (.negSucc 0, 2)], .ofNat 0, .ofNat 0), ([(.ofNat 1, 1), (.negSucc 0, 3)], .ofNat 0, .ofNat 0), ([(.ofNat 1, 4)], .ofNat 0, .ofNat 0)]), [some (false, 118)])
theorem sg_nx5z_ok : sg_chk zK ex_mt k9 0 tX12_next 6 10 sg_nx5z [] [sg_nx5z_a] = true := by decide +kernel
def sg_nx6 : sg_Cu := (185, 0, [(0, .inr (some (false, 118)))], ([.inl 2, .inl 3], [([(.ofNat 1, 0)], .ofNat 0, .ofNat 1), ([(.ofNat 1, 1)], .ofNat 0, .ofNat 1), ([(.ofNat 1, 2)], .negSucc 0, .ofNat 255)]), [none])
def sg_nx6_a : sg_Cu := (192, 0, [(0, .inr (some (false, 118)))], ([.inl 2, .inl 3], [([(.ofNat 1, 0), (.negSucc 0, 3)], .ofNat 0, .ofNat 0), ([(.ofNat 1, 1), (.negSucc 0, 4)], .ofNat 0, .ofNat 0), ([(.ofNat 1, 2)], .negSucc 0, .ofNat 96)]), [some (false, 118)])
def sg_nx6_b : sg_Cu := (192, 0, [(0, .inr (some (false, 118)))], ([.inl 2, .inl 3], [([(.ofNat 1, 0), (.negSucc 0, 3)], .ofNat 0, .ofNat 0), ([(.ofNat 1, 1), (.negSucc 0, 4)], .ofNat 0, .ofNat 0), ([(.ofNat 1, 2)], .ofNat 123, .ofNat 255)]), [some (false, 118)])
def sg_nx6_c : sg_Cu := (222, 0, [(0, .inr (some (false, 118)))], ([.inl 2, .inl 3], [([(.ofNat 1, 2)], .ofNat 97, .ofNat 122), ([(.ofNat 1, 1)], .ofNat 0, .ofNat 0), ([(.ofNat 1, 0), (.negSucc 0, 3)], .ofNat 0, .ofNat 0), ([(.ofNat 1, 1), (.negSucc 0, 4)], .ofNat 0, .ofNat 0)]), [])
def sg_nx6_d : sg_Cu := (206, 0, [(0, .inr (some (false, 118)))], ([.inl 2, .inl 3], [([(.ofNat 1, 2)], .ofNat 97, .ofNat 122), ([(.ofNat 1, 1)], .ofNat 1, .ofNat 1), ([(.ofNat 1, 0), (.negSucc 0, 3)], .ofNat 0, .ofNat 0), ([(.ofNat 1, 1), (.negSucc 0, 4)], .ofNat 0, .ofNat 0)]), [some (false, 118)])
theorem sg_nx6_ok : sg_chk zK ex_mt k9 0 tX12_next 17 10 sg_nx6 [] [sg_nx6_a, sg_nx6_b, sg_nx6_c, sg_nx6_d] = true := by decide +kernel
def sg_nx7 : sg_Cu := (195, 0, [(0, .inr (some (false, 118)))], ([.inl 2, .inl 3], [([(.ofNat 1, 0)], .ofNat 0, .ofNat 1), ([(.ofNat 1, 1)], .ofNat 0, .ofNat 1), ([(.ofNat 1, 2)], .negSucc 0, .ofNat 255)]), [none])
def sg_nx7_a : sg_Cu := (298, 0, [(0, .inr (some (false, 118)))], ([.inl 2, .inl 3], [([(.ofNat 1, 0), (.negSucc 0, 3)], .ofNat 0, .ofNat 0), ([(.ofNat 1, 1), (.negSucc 0, 4)], .ofNat 0, .ofNat 0), ([(.ofNat 1, 2)], .negSucc 0, .ofNat 47)]), [])
def sg_nx7_b : sg_Cu := (298, 0, [(0, .inr (some (false, 118)))], ([.inl 2, .inl 3], [([(.ofNat 1, 0), (.negSucc 0, 3)], .ofNat 0, .ofNat 0), ([(.ofNat 1, 1), (.negSucc 0, 4)], .ofNat 0, .ofNat 0), ([(.ofNat 1, 2)], .ofNat 58, .ofNat 255)]), [])
def sg_nx7_c : sg_Cu := (222, 0, [(0, .inr (some (false, 118)))], ([.inl 2, .inl 3], [([(.ofNat 1, 2)], .ofNat 48, .ofNat 57), ([(.ofNat 1, 1)], .ofNat 0, .ofNat 0), ([(.ofNat 1, 0), (.negSucc 0, 3)], .ofNat 0, .ofNat 0), ([(.ofNat 1, 1), (.negSucc 0, 4)], .ofNat 0, .ofNat 0)]), [])
def sg_nx7_d : sg_Cu := (206, 0, [(0, .inr (some (false, 118)))], ([.inl 2, .inl 3], [([(.ofNat 1, 2)], .ofNat 48, .ofNat 57), ([(.ofNat 1, 1)], .ofNat 1, .ofNat 1), ([(.ofNat 1, 0), (.negSucc 0, 3)], .ofNat 0, .ofNat 0), ([(.ofNat 1, 1), (.negSucc 0, 4)], .ofNat 0, .ofNat 0)]), [some (false, 118)])
theorem sg_nx7_ok : sg_chk zK ex_mt k9 0 tX12_next 17 10 sg_nx7 [] [sg_nx7_a, sg_nx7_b, sg_nx7_c, sg_nx7_d] = true := by decide +kernel
def sg_nx8 : sg_Cu := (209, 0, [(0, .inr (some (false, 118)))], ([.inl 2, .inl 3], [([(.ofNat 1, 0)], .ofNat 0, .ofNat 1), ([(.ofNat 1, 1)], .ofNat 0, .ofNat 1), ([(.ofNat 1, 2)], .ofNat 0, .ofNat 122)]), [none])
def sg_nx8_a : sg_Cu := (222, 0, [(0, .inr (some (false, 118)))], ([.inl 2, .inl 3], [([(.ofNat 1, 2)], .ofNat 97, .ofNat 122), ([(.ofNat 1, 0)], .ofNat 1, .ofNat 1), ([(.ofNat 1, 4)], .ofNat 1, .ofNat 1), ([(.ofNat 1, 0), (.negSucc 0, 3)], .ofNat 0, .ofNat 0)]), [])
def sg_nx8_b : sg_Cu := (222, 0, [(0, .inr (some (false, 118)))], ([.inl 2, .inl 3], [([(.ofNat 1, 2)], .ofNat 97, .ofNat 122), ([(.ofNat 1, 0)], .ofNat 0, .ofNat 0), ([(.ofNat 1, 4)], .ofNat 0, .ofNat 0), ([(.ofNat 1, 0), (.negSucc 0, 3)], .ofNat 0, .ofNat 0)]), [])
def sg_nx8_c : sg_Cu := (222, 0, [(0, .inr (some (false, 118)))], ([.inl 2, .inl 3], [([(.ofNat 1, 2)], .ofNat 0, .ofNat 96), ([(.ofNat 1, 0)], .ofNat 1, .ofNat 1), ([(.ofNat 1, 4)], .ofNat 0, .ofNat 0), ([(.ofNat 1, 0), (.negSucc 0, 3)], .ofNat 0, .ofNat 0)]), [])
def sg_nx8_d : sg_Cu := (222, 0, [(0, .inr (some (false, 118)))], ([.inl 2, .inl 3], [([(.ofNat 1, 2)], .ofNat 0, .ofNat 96), ([(.ofNat 1, 0)], .ofNat 0, .ofNat 0), ([(.ofNat 1, 4)], .ofNat 1, .ofNat 1), ([(.ofNat 1, 0), (.negSucc 0, 3)], .ofNat 0, .ofNat 0)]), [])
theorem sg_nx8_ok : sg_chk zK ex_mt k9 0 tX12_next 17 10 sg_nx8 [] [sg_nx8_a, sg_nx8_b, sg_nx8_c, sg_nx8_d] = true := by decide +kernel
def sg_nx9 : sg_Cu := (222, 0, [(0, .inr (some (false, 118)))], ([.inl 2, .inl 3, .inr 7733259], [([(.ofNat 1, 0)], .ofNat 0, .ofNat 1), ([(.ofNat 1, 1)], .ofNat 0, .ofNat 1), ([(.ofNat 1, 2)], .negSucc 2147483647, .ofNat 2147483647)]), [])
def sg_nx9_a : sg_Cu := (231, 0, [(0, .inr (some (false, 118)))], ([.inl 2, .inl 3], [([(.ofNat 1, 2)], .negSucc 2147483647, .ofNat 6), ([(.ofNat 1, 0), (.negSucc 0, 3)], .ofNat 0, .ofNat 0), ([(.ofNat 1, 1), (.negSucc 0, 4)], .ofNat 0, .ofNat 0)]), [])
def sg_nx9_b : sg_Cu := (248, 0, [(0, .inr (some (false, 118)))], ([.inl 2, .inl 3], [([(.ofNat 1, 2)], .ofNat 7, .ofNat 2147483647), ([(.ofNat 1, 0), (.negSucc 0, 3)], .ofNat 0, .ofNat 0), ([(.ofNat 1, 1), (.negSucc 0, 4)], .ofNat 0, .ofNat 0)]), [])
theorem sg_nx9_ok : sg_chk zK ex_mt k9 0 tX12_next 6 10 sg_nx9 [] [sg_nx9_a, sg_nx9_b] = true := by decide +kernel
def sg_nxa : sg_Cu := (248, 0, [(0, .inr (some (false, 118)))], ([.inl 2, .inl 3, .inr 7733259, .inr 7733260], [([(.ofNat 1, 0)], .ofNat 0, .ofNat 1), ([(.ofNat 1, 1)], .ofNat 0, .ofNat 1), ([(.ofNat 1, 2)], .negSucc 2147483647, .ofNat 2147483647), ([(.ofNat 1, 3)], .ofNat 0, .ofNat 9999)]), [])
def sg_nxa_a : sg_Cu := (265, 0, [(0, .inr (some (false, 118)))], ([.inl 2, .inl 3], [([(.ofNat 1, 2)], .negSucc 2147483647, .ofNat 2), ([(.ofNat 10, 3), (.negSucc 0, 6)], .ofNat 0, .ofNat 0), ([(.ofNat 1, 0), (.negSucc 0, 4)], .ofNat 0, .ofNat 0), ([(.ofNat 1, 1), (.negSucc 0, 5)], .ofNat 0, .ofNat 0)]), [some (false, 118), none, some (false, 118)])
def sg_nxa_b : sg_Cu := (275, 0, [(0, .inr (some (false, 118)))], ([.inl 2, .inl 3], [([(.ofNat 1, 2)], .ofNat 3, .ofNat 2147483647), ([(.ofNat 1, 0), (.negSucc 0, 4)], .ofNat 0, .ofNat 0), ([(.ofNat 1, 1), (.negSucc 0, 5)], .ofNat 0, .ofNat 0)]), [])
theorem sg_nxa_ok : sg_chk zK ex_mt k9 0 tX12_next 12 10 sg_nxa [] [sg_nxa_a, sg_nxa_b] = true := by decide +kernel
def sg_nxb : sg_Cu := (268, 0, [(0, .inr (some (false, 118)))], ([.inl 2, .inl 3], [([(.ofNat 1, 0)], .ofNat 0, .ofNat 1), ([(.ofNat 1, 1)], .ofNat 0, .ofNat 1), ([(.ofNat 1, 2)], .ofNat 0, .ofNat 255), ([(.ofNat 1, 3)], .ofNat 0, .ofNat 99990)]), [none, none, some (false, 118)])
def sg_nxb_a : sg_Cu := (275, 4809815209520810450717656262224562232065397860164239095208531909697964083434718092213655548692006303809402830848, [(0, .inr (some (false, 118)))], ([.inl 2, .inl 3, .inr 7733260], [([(.ofNat 1, 2), (.ofNat 1, 3), (.negSucc 0, 6)], .ofNat 48, .ofNat 48), ([(.ofNat 1, 0), (.negSucc 0, 4)], .ofNat 0, .ofNat 0), ([(.ofNat 1, 1), (.negSucc 0, 5)], .ofNat 0, .ofNat 0)]), [])
theorem sg_nxb_ok : sg_chk zK ex_mt k9 0 tX12_next 6 10 sg_nxb [] [sg_nxb_a] = true := by decide +kernel
def sg_nxc : sg_Cu := (275, 0, [(0, .inr (some (false, 118)))], ([.inl 2, .inl 3, .inr 7733259, .inr 7733252], [([(.ofNat 1, 0)], .ofNat 0, .ofNat 1), ([(.ofNat 1, 1)], .ofNat 0, .ofNat 1), ([(.ofNat 1, 2)], .ofNat 0, .ofNat 939), ([(.ofNat 1, 3)], .ofNat 0, .ofNat 939)]), [])
def sg_nxc_a : sg_Cu := (182, 2423695945422595891181943975886595812251704390473386106569924282621239713918275913654537366333081301528956895232, [(0, .inr (some (false, 118)))], ([.inl 2, .inl 3, .inr 7733259, .inr 7733252], [([(.ofNat 1, 0), (.negSucc 0, 4)], .ofNat 0, .ofNat 0), ([(.ofNat 1, 1), (.negSucc 0, 5)], .ofNat 0, .ofNat 0), ([(.ofNat 1, 2), (.negSucc 0, 6)], .negSucc 0, .negSucc 0), ([(.ofNat 1, 3), (.negSucc 0, 7)], .negSucc 0, .negSucc 0)]), [some (false, 118)])
theorem sg_nxc_ok : sg_chk zK ex_mt k9 0 tX12_next 16 10 sg_nxc [] [sg_nxc_a] = true := by decide +kernel
def sg_nxd : sg_Cu := (298, 0, [(0, .inr (some (false, 118)))], ([.inl 2, .inl 3, .inr 7733259], [([(.ofNat 1, 0)], .ofNat 0, .ofNat 1), ([(.ofNat 1, 1)], .ofNat 0, .ofNat 1), ([(.ofNat 1, 2)], .negSucc 2147483647, .ofNat 2147483647)]), [])
def sg_nxd_p0 : sx_Po := (601226901190101306339707032778070279008174732520529886901066488712245510429339761526706943586500787976175353856, false, [7733257], [([(.ofNat 1, 1)], .ofNat 0, .ofNat 0), ([(.ofNat 1, 3)], .ofNat 4, .ofNat 4)])
def sg_nxd_p1 : sx_Po := (601226901190101306339707032778070279008174732520529886901066488712245510429339761526706943586500787976175353856, false, [7733257], [([(.ofNat 1, 1)], .ofNat 1, .ofNat 1), ([(.ofNat 1, 0)], .ofNat 1, .ofNat 1), ([(.ofNat 1, 2)], .ofNat 8, .ofNat 2147483647), ([(.ofNat 1, 3)], .ofNat 4, .ofNat 4)])
def sg_nxd_p2 : sx_Po := (601226901190101306339707032778070279008174732520529886901066488712245510429339761526706943586500787976175353856, false, [7733257], [([(.ofNat 1, 1)], .ofNat 1, .ofNat 1), ([(.ofNat 1, 0)], .ofNat 0, .ofNat 0), ([(.ofNat 1, 2)], .ofNat 4, .ofNat 2147483647), ([(.ofNat 1, 3)], .ofNat 4, .ofNat 4)])
def sg_nxd_p3 : sx_Po := (601226901190101306339707032778070279008174732520529886901066488712245510429339761526706943586500787976175353856, false, [7733257], [([(.ofNat 1, 1)], .ofNat 1, .ofNat 1), ([(.ofNat 1, 0)], .ofNat 1, .ofNat 1), ([(.ofNat 1, 2)], .negSucc 2147483647, .ofNat 7), ([(.ofNat 1, 3)], .ofNat 1, .ofNat 1)])
def sg_nxd_p4 : sx_Po := (601226901190101306339707032778070279008174732520529886901066488712245510429339761526706943586500787976175353856, false, [7733257], [([(.ofNat 1, 1)], .ofNat 1, .ofNat 1), ([(.ofNat 1, 0)], .ofNat 0, .ofNat 0), ([(.ofNat 1, 2)], .negSucc 2147483647, .ofNat 3), ([(.ofNat 1, 3)], .ofNat 2, .ofNat 2)])
theorem sg_nxd_ok : sg_chk zK ex_mt k9 0 tX12_next 17 10 sg_nxd [sg_nxd_p0, sg_nxd_p1, sg_nxd_p2, sg_nxd_p3, sg_nxd_p4] [] = true := by decide +kernel
def sg_tk1a : sg_Cu := (0, 0, [(0, .inr (some (false, 118)))], ([.inl 1, .inl 2, .inr 7733257, .inr 7733260, .inr 7733258], [([(.ofNat 1, 0)], .negSucc 2147483647, .ofNat 2147483647), ([(.ofNat 1, 1)], .negSucc 2147483647, .ofNat 2147483647), ([(.ofNat 1, 2)], .ofNat 0, .ofNat 1), ([(.ofNat 1, 3)], .negSucc 2147483647, .ofNat 2147483647), ([(.ofNat 1, 4)], .negSucc 2147483647, .ofNat 2147483647)]), [])
def sg_tk1a_p0 : sx_Po := (28858891257124862704305937573347373392392387160985434571251191458187784500608308553281933292152037822856416985088, true, [7733261, 7733262], [([(.ofNat 1, 5)], .ofNat 0, .ofNat 0), ([(.ofNat 1, 6)], .ofNat 1, .ofNat 1), ([(.ofNat 1, 4), (.negSucc 0, 7)], .ofNat 0, .ofNat 0)])
theorem sg_tk1a_ok : sg_chk zK ex_mt k9 0 tX12_takes 18 12 sg_tk1a [sg_tk1a_p0] [] = true := by decide +kernel
def sg_tk1b : sg_Cu := (0, 0, [(0, .inr (some (false, 118)))], ([.inl 1, .inl 2, .inr 7733257, .inr 7733260, .inr 7733258], [([(.ofNat 1, 0)], .negSucc 2147483647, .ofNat 2147483647), ([(.ofNat 1, 1)], .negSucc 2147483647, .ofNat 2147483647), ([(.ofNat 1, 2)], .ofNat 3, .ofNat 4), ([(.ofNat 1, 3)], .negSucc 2147483647, .ofNat 2147483647), ([(.ofNat 1, 4)], .negSucc 2147483647, .ofNat 2147483647)]), [])
def sg_tk1b_p0 : sx_Po := (28858891257124862704305937573347373392392387160985434571251191458187784500608308553281933292152037822856416985088, true, [7733261, 7733262], [([(.ofNat 1, 5)], .ofNat 0, .ofNat 0), ([(.ofNat 1, 6)], .ofNat 1, .ofNat 1), ([(.ofNat 1, 4), (.negSucc 0, 7)], .ofNat 0, .ofNat 0)])
theorem sg_tk1b_ok : sg_chk zK ex_mt k9 0 tX12_takes 18 12 sg_tk1b [sg_tk1b_p0] [] = true := by decide +kernel
def sg_tk1c : sg_Cu := (0, 0, [(0, .inr (some (false, 118)))], ([.inl 1, .inl 2, .inr 7733257, .inr 7733260, .inr 7733258], [([(.ofNat 1, 0)], .negSucc 2147483647, .ofNat 2147483647), ([(.ofNat 1, 1)], .negSucc 2147483647, .ofNat 2147483647), ([(.ofNat 1, 2)], .ofNat 2, .ofNat 2), ([(.ofNat 1, 3)], .negSucc 2147483647, .ofNat 2147483647), ([(.ofNat 1, 4)], .negSucc 2147483647, .ofNat 2147483647)]), [])
def sg_tk1c_a : sg_Cu := (41, 76957043352332967211482500195592995713046365762627825523336510555167425334955489475418488779072100860950445293568, [(0, .inr (some (false, 118)))], ([.inr 7733264], [([(.ofNat 1, 3), (.negSucc 0, 5)], .ofNat 0, .ofNat 0), ([(.ofNat 1, 0), (.negSucc 0, 3)], .negSucc 4611686018427387903, .ofNat 0), ([(.ofNat 1, 1), (.negSucc 0, 3)], .ofNat 0, .ofNat 4611686018427387904)]), [some (false, 118)])
def sg_tk1c_p0 : sx_Po := (28858891257124862704305937573347373392392387160985434571251191458187784500608308553281933292152037822856416985088, true, [7733261, 7733262], [([(.ofNat 1, 5)], .ofNat 0, .ofNat 0), ([(.ofNat 1, 6)], .ofNat 2, .ofNat 2), ([(.ofNat 1, 4), (.negSucc 0, 7)], .ofNat 0, .ofNat 0), ([(.ofNat 1, 0), (.negSucc 0, 3)], .ofNat 1, .ofNat 4611686018427387904)])
def sg_tk1c_p1 : sx_Po := (28858891257124862704305937573347373392392387160985434571251191458187784500608308553281933292152037822856416985088, true, [7733261, 7733262], [([(.ofNat 1, 5)], .ofNat 0, .ofNat 0), ([(.ofNat 1, 6)], .ofNat 2, .ofNat 2), ([(.ofNat 1, 4), (.negSucc 0, 7)], .ofNat 0, .ofNat 0), ([(.ofNat 1, 1), (.negSucc 0, 3)], .negSucc 4611686018427387903, .negSucc 0)])
theorem sg_tk1c_ok : sg_chk zK ex_mt k9 0 tX12_takes 32 12 sg_tk1c [sg_tk1c_p0, sg_tk1c_p1] [sg_tk1c_a] = true := by decide +kernel
def sg_tk2 : sg_Cu := (44, 0, [(0, .inr (some (false, 118)))], ([], []), [])
def sg_tk2_p0 : sx_Po := (0, true, [], [([(.ofNat 1, 0)], .ofNat 1, .ofNat 1)])
theorem sg_tk2_ok : sg_chk zK ex_mt k9 0 tX12_takes 3 12 sg_tk2 [sg_tk2_p0] [] = true := by decide +kernel
def sg_pt1 : sg_Cu := (0, 0, [(0, .inr (some (false, 118)))], ([.inl 1, .inl 2, .inl 3], [([(.ofNat 1, 0)], .negSucc 2147483647, .ofNat 2147483647), ([(.ofNat 1, 1)], .negSucc 2147483647, .ofNat 2147483647), ([(.ofNat 1, 2)], .negSucc 2147483647, .ofNat 2147483647)]), [])
def sg_pt1_a : sg_Cu := (3, 0, [(0, .inr (some (false, 118)))], ([.inl 1], [([(.ofNat 1, 2), (.negSucc 0, 4)], .ofNat 0, .ofNat 0), ([(.ofNat 1, 1), (.negSucc 0, 5)], .ofNat 0, .ofNat 0), ([(.ofNat 1, 0), (.negSucc 0, 3)], .ofNat 0, .ofNat 0)]), [none, none, some (false, 118)])
theorem sg_pt1_ok : sg_chk zK ex_mt k9 0 tX12_puts 5 15 sg_pt1 [] [sg_pt1_a] = true := by decide +kernel
def sg_pt2a : sg_Cu := (6, 0, [(0, .inr (some (false, 118)))], ([.inl 1], [([(.ofNat 1, 0)], .negSucc 2147483647, .ofNat 2147483647), ([(.ofNat 1, 1)], .ofNat 0, .ofNat 0)]), [none])
def sg_pt2a_p0 : sx_Po := (0, true, [], [([(.ofNat 1, 2)], .ofNat 0, .ofNat 0)])
theorem sg_pt2a_ok : sg_chk zK ex_mt k9 0 tX12_puts 4 15 sg_pt2a [sg_pt2a_p0] [] = true := by decide +kernel
def sg_pt2b : sg_Cu := (6, 0, [(0, .inr (some (false, 118)))], ([.inl 1, .inr 7733264], [([(.ofNat 1, 0)], .negSucc 2147483647, .ofNat 2147483647), ([(.ofNat 1, 1)], .negSucc 2147483647, .ofNat 2147483647), ([(.ofNat 1, 2)], .ofNat 1, .ofNat 1)]), [none])
def sg_pt2b_a : sg_Cu := (20, 0, [(0, .inr (some (false, 118)))], ([], [([(.ofNat 1, 1), (.negSucc 0, 3)], .ofNat 0, .ofNat 0), ([(.ofNat 1, 0), (.negSucc 0, 4)], .ofNat 0, .ofNat 0)]), [none, none, some (false, 121)])
theorem sg_pt2b_ok : sg_chk zK ex_mt k9 0 tX12_puts 8 15 sg_pt2b [] [sg_pt2b_a] = true := by decide +kernel
def sg_pt3 : sg_Cu := (21, 0, [(0, .inr (some (false, 118)))], ([], []), [])
def sg_pt3_p0 : sx_Po := (0, true, [], [([(.ofNat 1, 0)], .ofNat 1, .ofNat 1)])
theorem sg_pt3_ok : sg_chk zK ex_mt k9 0 tX12_puts 3 15 sg_pt3 [sg_pt3_p0] [] = true := by decide +kernel
def sg_sn1a : sg_Cu := (0, 0, [(0, .inr (some (false, 118)))], ([.inl 1, .inr 7733257, .inr 7733258], [([(.ofNat 1, 0)], .negSucc 2147483647, .ofNat 2147483647), ([(.ofNat 1, 1)], .ofNat 0, .ofNat 2), ([(.ofNat 1, 2)], .negSucc 2147483647, .ofNat 2147483647)]), [])
def sg_sn1a_p0 : sx_Po := (28858891257124862704305937573347373392392387160985434571251191458187784500608308553281933292152037822856416985088, true, [7733261, 7733262], [([(.ofNat 1, 3)], .ofNat 0, .ofNat 0), ([(.ofNat 1, 4)], .ofNat 1, .ofNat 1), ([(.ofNat 1, 2), (.negSucc 0, 5)], .ofNat 0, .ofNat 0)])
theorem sg_sn1a_ok : sg_chk zK ex_mt k9 0 tX12_sign 24 12 sg_sn1a [sg_sn1a_p0] [] = true := by decide +kernel
def sg_sn1b : sg_Cu := (0, 0, [(0, .inr (some (false, 118)))], ([.inl 1, .inr 7733257, .inr 7733258], [([(.ofNat 1, 0)], .negSucc 2147483647, .ofNat 2147483647), ([(.ofNat 1, 1)], .ofNat 4, .ofNat 4), ([(.ofNat 1, 2)], .negSucc 2147483647, .ofNat 2147483647)]), [])
def sg_sn1b_p0 : sx_Po := (28858891257124862704305937573347373392392387160985434571251191458187784500608308553281933292152037822856416985088, true, [7733261, 7733262], [([(.ofNat 1, 3)], .ofNat 0, .ofNat 0), ([(.ofNat 1, 4)], .ofNat 1, .ofNat 1), ([(.ofNat 1, 2), (.negSucc 0, 5)], .ofNat 0, .ofNat 0)])
theorem sg_sn1b_ok : sg_chk zK ex_mt k9 0 tX12_sign 24 12 sg_sn1b [sg_sn1b_p0] [] = true := by decide +kernel
def sg_sn1c : sg_Cu := (0, 0, [(0, .inr (some (false, 118)))], ([.inl 1, .inr 7733257, .inr 7733260, .inr 7733258], [([(.ofNat 1, 0)], .negSucc 2147483647, .ofNat 2147483647), ([(.ofNat 1, 1)], .ofNat 3, .ofNat 3), ([(.ofNat 1, 2)], .negSucc 2147483647, .ofNat 2147483647), ([(.ofNat 1, 3)], .negSucc 2147483647, .ofNat 2147483647), ([(.ofNat 1, 0), (.negSucc 0, 2)], .ofNat 1, .ofNat 4611686018427387904)]), [])
def sg_sn1c_p0 : sx_Po := (28858891257124862704305937573347373392392387160985434571251191458187784500608308553281933292152037822856416985088, true, [7733261, 7733262], [([(.ofNat 1, 4)], .ofNat 0, .ofNat 0), ([(.ofNat 1, 5)], .ofNat 1, .ofNat 1), ([(.ofNat 1, 3), (.negSucc 0, 6)], .ofNat 0, .ofNat 0)])
theorem sg_sn1c_ok : sg_chk zK ex_mt k9 0 tX12_sign 28 12 sg_sn1c [sg_sn1c_p0] [] = true := by decide +kernel
def sg_sn1d : sg_Cu := (0, 0, [(0, .inr (some (false, 118)))], ([.inl 1, .inr 7733257, .inr 7733260, .inr 7733258], [([(.ofNat 1, 0)], .negSucc 2147483647, .ofNat 2147483647), ([(.ofNat 1, 1)], .ofNat 3, .ofNat 3), ([(.ofNat 1, 2)], .negSucc 2147483647, .ofNat 2147483647), ([(.ofNat 1, 3)], .negSucc 2147483647, .ofNat 2147483647), ([(.ofNat 1, 0), (.negSucc 0, 2)], .negSucc 4611686018427387903, .negSucc 0)]), [])
def sg_sn1d_p0 : sx_Po := (28858891257124862704305937573347373392392387160985434571251191458187784500608308553281933292152037822856416985088, true, [7733261, 7733262], [([(.ofNat 1, 4)], .ofNat 0, .ofNat 0), ([(.ofNat 1, 5)], .ofNat 1, .ofNat 1), ([(.ofNat 1, 3), (.negSucc 0, 6)], .ofNat 0, .ofNat 0)])
theorem sg_sn1d_ok : sg_chk zK ex_mt k9 0 tX12_sign 28 12 sg_sn1d [sg_sn1d_p0] [] = true := by decide +kernel
def sg_sn1e : sg_Cu := (0, 0, [(0, .inr (some (false, 118)))], ([.inl 1, .inr 7733257, .inr 7733260, .inr 7733258], [([(.ofNat 1, 0)], .negSucc 2147483647, .ofNat 2147483647), ([(.ofNat 1, 1)], .ofNat 3, .ofNat 3), ([(.ofNat 1, 2)], .negSucc 2147483647, .ofNat 2147483647), ([(.ofNat 1, 3)], .negSucc 2147483647, .ofNat 2147483647), ([(.ofNat 1, 0), (.negSucc 0, 2)], .ofNat 0, .ofNat 0)]), [])
def sg_sn1e_a : sg_Cu := (15, 0, [(0, .inr (some (false, 118)))], ([], []), [some (false, 118)])
theorem sg_sn1e_ok : sg_chk zK ex_mt k9 0 tX12_sign 18 12 sg_sn1e [] [sg_sn1e_a] = true := by decide +kernel
def sg_sn2 : sg_Cu := (18, 0, [(0, .inr (some (false, 118)))], ([], []), [])
def sg_sn2_p0 : sx_Po := (0, true, [], [([(.ofNat 1, 0)], .ofNat 1, .ofNat 1)])
theorem sg_sn2_ok : sg_chk zK ex_mt k9 0 tX12_sign 3 12 sg_sn2 [sg_sn2_p0] [] = true := by decide +kernel
def sg_ln2a : sg_Cu := (7, 0, [(0, .inr (some (false, 118)))], ([.inr 7929856, .inr 7733258], [([(.ofNat 1, 0)], .ofNat 10, .ofNat 10), ([(.ofNat 1, 1)], .negSucc 2147483647, .ofNat 2147483647), ([(.ofNat 1, 2)], .ofNat 1, .ofNat 1)]), [none])
def sg_ln2a_p0 : sx_Po := (28858891257124862704305937573347373392392387160985434571251191458187784500608308553281933292152037822856416985088, true, [7733261, 7733262], [([(.ofNat 1, 3)], .ofNat 0, .ofNat 0), ([(.ofNat 1, 4)], .ofNat 4, .ofNat 4), ([(.ofNat 1, 1), (.negSucc 0, 5)], .ofNat 0, .ofNat 0)])
theorem sg_ln2a_ok : sg_chk zK ex_mt k9 0 tX12_line 23 20 sg_ln2a [sg_ln2a_p0] [] = true := by decide +kernel
def sg_ln2b : sg_Cu := (7, 0, [(0, .inr (some (false, 118)))], ([.inr 7929856, .inr 7733258], [([(.ofNat 1, 0)], .ofNat 0, .ofNat 9), ([(.ofNat 1, 1)], .negSucc 2147483647, .ofNat 2147483647), ([(.ofNat 1, 2)], .ofNat 1, .ofNat 1)]), [none])
def sg_ln2b_a : sg_Cu := (30, 0, [(0, .inr (some (false, 118)))], ([.inl 1], [([(.ofNat 1, 0), (.negSucc 0, 3)], .ofNat 0, .ofNat 0)]), [some (false, 118)])
theorem sg_ln2b_ok : sg_chk zK ex_mt k9 0 tX12_line 12 20 sg_ln2b [] [sg_ln2b_a] = true := by decide +kernel
def sg_ln2c : sg_Cu := (7, 0, [(0, .inr (some (false, 118)))], ([], [([(.ofNat 1, 0)], .ofNat 0, .ofNat 0)]), [none])
def sg_ln2c_a : sg_Cu := (101, 0, [(0, .inr (some (false, 118)))], ([], []), [])
theorem sg_ln2c_ok : sg_chk zK ex_mt k9 0 tX12_line 3 20 sg_ln2c [] [sg_ln2c_a] = true := by decide +kernel
def sg_ln3 : sg_Cu := (33, 0, [(0, .inr (some (false, 118)))], ([.inl 1], [([(.ofNat 1, 0)], .ofNat 0, .ofNat 9)]), [])
def sg_ln3_a : sg_Cu := (40, 0, [(0, .inr (some (false, 118)))], ([.inl 1], [([(.ofNat 1, 2)], .ofNat 99, .ofNat 99), ([(.ofNat 1, 3)], .ofNat 1, .ofNat 1), ([(.ofNat 1, 0), (.negSucc 0, 4)], .negSucc 1, .negSucc 1), ([(.ofNat 1, 0), (.negSucc 0, 1)], .ofNat 0, .ofNat 0)]), [none, none, none, some (false, 118)])
theorem sg_ln3_ok : sg_chk zK ex_mt k9 0 tX12_line 8 20 sg_ln3 [] [sg_ln3_a] = true := by decide +kernel
def sg_ln4 : sg_Cu := (43, 0, [(0, .inr (some (false, 118)))], ([.inl 1], [([(.ofNat 1, 0)], .ofNat 0, .ofNat 9), ([(.ofNat 1, 1)], .ofNat 1, .ofNat 1)]), [none])
def sg_ln4_a : sg_Cu := (54, 0, [(0, .inr (some (false, 118)))], ([.inl 1], [([(.ofNat 1, 3)], .ofNat 9, .ofNat 9), ([(.ofNat 1, 4)], .ofNat 1, .ofNat 1), ([(.ofNat 1, 0), (.negSucc 0, 5)], .negSucc 11, .negSucc 11), ([(.ofNat 1, 0), (.negSucc 0, 2)], .ofNat 0, .ofNat 0)]), [none, none, none, some (false, 118)])
theorem sg_ln4_ok : sg_chk zK ex_mt k9 0 tX12_line 9 20 sg_ln4 [] [sg_ln4_a] = true := by decide +kernel
def sg_ln4z : sg_Cu := (43, 0, [(0, .inr (some (false, 118)))], ([], [([(.ofNat 1, 0)], .ofNat 0, .ofNat 0)]), [none])
def sg_ln4z_p0 : sx_Po := (0, true, [], [([(.ofNat 1, 1)], .ofNat 0, .ofNat 0)])
theorem sg_ln4z_ok : sg_chk zK ex_mt k9 0 tX12_line 4 20 sg_ln4z [sg_ln4z_p0] [] = true := by decide +kernel
def sg_ln5 : sg_Cu := (57, 0, [(0, .inr (some (false, 118)))], ([.inl 1], [([(.ofNat 1, 0)], .ofNat 0, .ofNat 9), ([(.ofNat 1, 1)], .ofNat 1, .ofNat 1)]), [none])
def sg_ln5_a : sg_Cu := (67, 0, [(0, .inr (some (false, 118)))], ([.inl 1], [([(.ofNat 1, 3)], .ofNat 3, .ofNat 3), ([(.ofNat 1, 4)], .ofNat 0, .ofNat 0), ([(.ofNat 1, 0), (.negSucc 0, 5)], .negSucc 21, .negSucc 21), ([(.ofNat 1, 0), (.negSucc 0, 2)], .ofNat 0, .ofNat 0)]), [none, none, none, some (false, 118)])
theorem sg_ln5_ok : sg_chk zK ex_mt k9 0 tX12_line 9 20 sg_ln5 [] [sg_ln5_a] = true := by decide +kernel
def sg_ln5z : sg_Cu := (57, 0, [(0, .inr (some (false, 118)))], ([], [([(.ofNat 1, 0)], .ofNat 0, .ofNat 0)]), [none])
def sg_ln5z_p0 : sx_Po := (0, true, [], [([(.ofNat 1, 1)], .ofNat 0, .ofNat 0)])
theorem sg_ln5z_ok : sg_chk zK ex_mt k9 0 tX12_line 4 20 sg_ln5z [sg_ln5z_p0] [] = true := by decide +kernel
def sg_ln6 : sg_Cu := (70, 0, [(0, .inr (some (false, 118)))], ([.inl 1], [([(.ofNat 1, 0)], .ofNat 0, .ofNat 9), ([(.ofNat 1, 1)], .ofNat 1, .ofNat 1)]), [none])
def sg_ln6_a : sg_Cu := (81, 0, [(0, .inr (some (false, 118)))], ([.inl 1], [([(.ofNat 1, 3)], .ofNat 99, .ofNat 99), ([(.ofNat 1, 4)], .ofNat 0, .ofNat 0), ([(.ofNat 1, 0), (.negSucc 0, 5)], .negSucc 31, .negSucc 31), ([(.ofNat 1, 0), (.negSucc 0, 2)], .ofNat 0, .ofNat 0)]), [none, none, none, some (false, 118)])
theorem sg_ln6_ok : sg_chk zK ex_mt k9 0 tX12_line 9 20 sg_ln6 [] [sg_ln6_a] = true := by decide +kernel
def sg_ln6z : sg_Cu := (70, 0, [(0, .inr (some (false, 118)))], ([], [([(.ofNat 1, 0)], .ofNat 0, .ofNat 0)]), [none])
def sg_ln6z_p0 : sx_Po := (0, true, [], [([(.ofNat 1, 1)], .ofNat 0, .ofNat 0)])
theorem sg_ln6z_ok : sg_chk zK ex_mt k9 0 tX12_line 4 20 sg_ln6z [sg_ln6z_p0] [] = true := by decide +kernel
def sg_ln7z : sg_Cu := (84, 0, [(0, .inr (some (false, 118)))], ([], [([(.ofNat 1, 0)], .ofNat 0, .ofNat 0)]), [none])
def sg_ln7z_p0 : sx_Po := (0, true, [], [([(.ofNat 1, 1)], .ofNat 0, .ofNat 0)])
theorem sg_ln7z_ok : sg_chk zK ex_mt k9 0 tX12_line 4 20 sg_ln7z [sg_ln7z_p0] [] = true := by decide +kernel
def sg_ln7 : sg_Cu := (84, 0, [(0, .inr (some (false, 118)))], ([.inr 7929856], [([(.ofNat 1, 0)], .ofNat 0, .ofNat 9), ([(.ofNat 1, 1)], .ofNat 1, .ofNat 1)]), [none])
def sg_ln7_p0 : sx_Po := (2772669694120814859578414184143083703436437075375816575170479580614621307805625623039974406104139578097391210961403571828974157824, true, [7929856], [([(.ofNat 1, 2)], .ofNat 1, .ofNat 1), ([(.ofNat 1, 0), (.negSucc 0, 3)], .negSucc 0, .negSucc 0)])
theorem sg_ln7_ok : sg_chk zK ex_mt k9 0 tX12_line 12 20 sg_ln7 [sg_ln7_p0] [] = true := by decide +kernel
def sg_ln8a : sg_Cu := (108, 0, [(0, .inr (some (false, 118)))], ([.inr 7929857, .inr 7733258], [([(.ofNat 1, 0)], .ofNat 6, .ofNat 6), ([(.ofNat 1, 1)], .negSucc 2147483647, .ofNat 2147483647), ([(.ofNat 1, 2)], .ofNat 1, .ofNat 1)]), [none])
def sg_ln8a_p0 : sx_Po := (28858891257124862704305937573347373392392387160985434571251191458187784500608308553281933292152037822856416985088, true, [7733261, 7733262], [([(.ofNat 1, 3)], .ofNat 0, .ofNat 0), ([(.ofNat 1, 4)], .ofNat 4, .ofNat 4), ([(.ofNat 1, 1), (.negSucc 0, 5)], .ofNat 0, .ofNat 0)])
theorem sg_ln8a_ok : sg_chk zK ex_mt k9 0 tX12_line 23 20 sg_ln8a [sg_ln8a_p0] [] = true := by decide +kernel
def sg_ln8b : sg_Cu := (108, 0, [(0, .inr (some (false, 118)))], ([.inr 7929857, .inr 7733258], [([(.ofNat 1, 0)], .ofNat 0, .ofNat 5), ([(.ofNat 1, 1)], .negSucc 2147483647, .ofNat 2147483647), ([(.ofNat 1, 2)], .ofNat 1, .ofNat 1)]), [none])
def sg_ln8b_a : sg_Cu := (131, 0, [(0, .inr (some (false, 118)))], ([.inl 1], [([(.ofNat 1, 0), (.negSucc 0, 3)], .ofNat 0, .ofNat 0)]), [some (false, 118)])
theorem sg_ln8b_ok : sg_chk zK ex_mt k9 0 tX12_line 12 20 sg_ln8b [] [sg_ln8b_a] = true := by decide +kernel
section HR
variable {g : am_C} {L : Nat} {xs : Nat → Int32}
theorem sg_pk1_run (G : sx_G0 g L xs zK hd_T ex_mt) (hct : ∀ (mi : Nat) (T2 : ex_T) (c' : sx_Ct), ex_mt mi = some T2 → c' ∈ k9 mi → c'.1 < 0 → sx_Holds g zK hd_T T2 c') {σ : am_S} {lw : List (Nat × Value)} {post : Option (Option Value) → am_S → Prop} (hM : sx_M zK hd_T σ 0 0 σ) (hl : (0, Value.ref 118) ∈ lw)  (ret0 : ∀ (r : Int32) (σ' : am_S), ((-1) ≤ 1 * r.toInt + 0 ∧ 1 * r.toInt + 0 ≤ (-1)) → (0 ≤ 1 * (σ.2.1 118 4).toInt + ((-1) * (σ.2.1 118 3).toInt + 0) ∧ 1 * (σ.2.1 118 4).toInt + ((-1) * (σ.2.1 118 3).toInt + 0) ≤ 4611686018427387904) → sx_M zK hd_T σ 0 0 σ' → post (some (some (.int r))) σ') (cuta : ∀ (lw' : List (Nat × Value)) (n0' : Int32) (σ' : am_S), (0, Value.ref 118) ∈ lw' → (0 ≤ 1 * (σ.2.1 118 4).toInt + ((-1) * n0'.toInt + 0) ∧ 1 * (σ.2.1 118 4).toInt + ((-1) * n0'.toInt + 0) ≤ 0) → ((-4611686018427387904) ≤ 1 * (σ.2.1 118 4).toInt + ((-1) * (σ.2.1 118 3).toInt + 0) ∧ 1 * (σ.2.1 118 4).toInt + ((-1) * (σ.2.1 118 3).toInt + 0) ≤ (-1)) → sx_M zK hd_T σ 0 0 σ' → am_K g 3 tX12_peek.1 0 0 19 lw' [.int n0', .ref 119] σ' post) : am_K g 3 tX12_peek.1 0 0 0 lw [] σ post := by
  refine sg_seg (sw := []) (vs := [(σ.2.1 118 4).toInt, (σ.2.1 118 3).toInt]) (ws := []) G (mi := 150) rfl hct sg_pk1_ok ⟨rfl, ⟨rfl, trivial⟩⟩ (hd_refs hl) trivial (hd_p1 rfl (hd_kd_118_4 hM).1 (hd_kd_118_4 hM).2 (hd_p1 rfl (hd_kd_118_3 hM).1 (hd_kd_118_3 hM).2 hd_p0)) hM ?_ ?_
  · intro r σ' hq
    cases r with
    | none => exact hq.elim
    | some v =>
      obtain ⟨p, hp, hM2, ks, hk, hv⟩ := hq
      simp only [List.mem_cons, List.not_mem_nil, or_false] at hp
      rcases hp with rfl
      · obtain rfl := hd_keys hk
        cases v with
        | none => exact hv.elim
        | some w9 =>
          obtain ⟨r, rfl, hP⟩ := hv
          obtain ⟨v0, e0, l0, u0⟩ := hP _ (List.mem_cons_self)
          have g0 : 1 * r.toInt + 0 = v0 := Option.some.inj e0
          obtain ⟨v1, e1, l1, u1⟩ := hP _ (List.mem_cons_of_mem _ (List.mem_cons_self))
          have g1 : 1 * (σ.2.1 118 4).toInt + ((-1) * (σ.2.1 118 3).toInt + 0) = v1 := Option.some.inj e1
          exact ret0 r _ ⟨by rw [g0]; exact l0, by rw [g0]; exact u0⟩ ⟨by rw [g1]; exact l1, by rw [g1]; exact u1⟩ hM2
  · intro u hu
    simp only [List.mem_cons, List.not_mem_nil, or_false] at hu
    rcases hu with rfl
    · intro lw' sw' vs' ws' σ' ⟨h1_0, h2, h3_0, h4, h5⟩
      obtain rfl := hd_src0 h1_0
      obtain ⟨n0', sw1, ws1, rfl, rfl, h3_1⟩ := hd_sti h3_0
      obtain ⟨sw2, rfl, h3_2⟩ := hd_str h3_1
      obtain ⟨rfl, rfl⟩ := hd_st0 h3_2
      have hr9 := hd_ref0 h2
      obtain ⟨v0, e0, l0, u0⟩ := h4 _ (List.mem_cons_self)
      have g0 : 1 * (σ.2.1 118 4).toInt + ((-1) * n0'.toInt + 0) = v0 := Option.some.inj e0
      obtain ⟨v1, e1, l1, u1⟩ := h4 _ (List.mem_cons_of_mem _ (List.mem_cons_self))
      have g1 : 1 * (σ.2.1 118 4).toInt + ((-1) * (σ.2.1 118 3).toInt + 0) = v1 := Option.some.inj e1
      exact cuta _ _ _ hr9  ⟨by rw [g0]; exact l0, by rw [g0]; exact u0⟩ ⟨by rw [g1]; exact l1, by rw [g1]; exact u1⟩ h5
theorem sg_pk2_run (G : sx_G0 g L xs zK hd_T ex_mt) (hct : ∀ (mi : Nat) (T2 : ex_T) (c' : sx_Ct), ex_mt mi = some T2 → c' ∈ k9 mi → c'.1 < 0 → sx_Holds g zK hd_T T2 c') {σ : am_S} {lw : List (Nat × Value)} {post : Option (Option Value) → am_S → Prop} (hM : sx_M zK hd_T σ 0 0 σ) (hl : (0, Value.ref 118) ∈ lw) {n0 : Int32} (cuta : ∀ (lw' : List (Nat × Value)) (n0' : Int32) (n1' : Int32) (σ' : am_S), (0, Value.ref 118) ∈ lw' → (255 ≤ 1 * n0'.toInt + 0 ∧ 1 * n0'.toInt + 0 ≤ 255) → (0 ≤ 1 * n0.toInt + ((-1) * n1'.toInt + 0) ∧ 1 * n0.toInt + ((-1) * n1'.toInt + 0) ≤ 0) → sx_M zK hd_T σ 0 0 σ' → am_K g 3 tX12_peek.1 0 0 23 lw' [.int n0', .int n1'] σ' post) : am_K g 3 tX12_peek.1 0 0 20 lw [.int n0] σ post := by
  refine sg_seg (sw := [.int n0]) (vs := []) (ws := [n0.toInt]) G (mi := 150) rfl hct sg_pk2_ok trivial (hd_refs hl) ⟨⟨n0, rfl, rfl⟩, trivial⟩ (hd_p1 rfl (Int32.le_toInt _) (Int32.toInt_le _) hd_p0) hM ?_ ?_
  · intro r σ' hq
    cases r with
    | none => exact hq.elim
    | some v =>
      obtain ⟨p, hp, hM2, ks, hk, hv⟩ := hq
      cases hp
  · intro u hu
    simp only [List.mem_cons, List.not_mem_nil, or_false] at hu
    rcases hu with rfl
    · intro lw' sw' vs' ws' σ' ⟨h1_0, h2, h3_0, h4, h5⟩
      obtain rfl := hd_src0 h1_0
      obtain ⟨n0', sw1, ws1, rfl, rfl, h3_1⟩ := hd_sti h3_0
      obtain ⟨n1', sw2, ws2, rfl, rfl, h3_2⟩ := hd_sti h3_1
      obtain ⟨rfl, rfl⟩ := hd_st0 h3_2
      have hr9 := hd_ref0 h2
      obtain ⟨v0, e0, l0, u0⟩ := h4 _ (List.mem_cons_self)
      have g0 : 1 * n0'.toInt + 0 = v0 := Option.some.inj e0
      obtain ⟨v1, e1, l1, u1⟩ := h4 _ (List.mem_cons_of_mem _ (List.mem_cons_self))
      have g1 : 1 * n0.toInt + ((-1) * n1'.toInt + 0) = v1 := Option.some.inj e1
      exact cuta _ _ _ _ hr9  ⟨by rw [g0]; exact l0, by rw [g0]; exact u0⟩ ⟨by rw [g1]; exact l1, by rw [g1]; exact u1⟩ h5
theorem sg_pk3_run (G : sx_G0 g L xs zK hd_T ex_mt) (hct : ∀ (mi : Nat) (T2 : ex_T) (c' : sx_Ct), ex_mt mi = some T2 → c' ∈ k9 mi → c'.1 < 0 → sx_Holds g zK hd_T T2 c') {σ : am_S} {lw : List (Nat × Value)} {post : Option (Option Value) → am_S → Prop} (hM : sx_M zK hd_T σ 0 0 σ) (hl : (0, Value.ref 118) ∈ lw) {n0 : Int32} (ret0 : ∀ (r : Int32) (σ' : am_S), (0 ≤ 1 * n0.toInt + ((-1) * r.toInt + 0) ∧ 1 * n0.toInt + ((-1) * r.toInt + 0) ≤ 0) → sx_M zK hd_T σ 0 0 σ' → post (some (some (.int r))) σ') : am_K g 3 tX12_peek.1 0 0 24 lw [.int n0] σ post := by
  refine sg_seg (sw := [.int n0]) (vs := []) (ws := [n0.toInt]) G (mi := 150) rfl hct sg_pk3_ok trivial (hd_refs hl) ⟨⟨n0, rfl, rfl⟩, trivial⟩ (hd_p1 rfl (Int32.le_toInt _) (Int32.toInt_le _) hd_p0) hM ?_ ?_
  · intro r σ' hq
    cases r with
    | none => exact hq.elim
    | some v =>
      obtain ⟨p, hp, hM2, ks, hk, hv⟩ := hq
      simp only [List.mem_cons, List.not_mem_nil, or_false] at hp
      rcases hp with rfl
      · obtain rfl := hd_keys hk
        cases v with
        | none => exact hv.elim
        | some w9 =>
          obtain ⟨r, rfl, hP⟩ := hv
          obtain ⟨v0, e0, l0, u0⟩ := hP _ (List.mem_cons_self)
          have g0 : 1 * n0.toInt + ((-1) * r.toInt + 0) = v0 := Option.some.inj e0
          exact ret0 r _ ⟨by rw [g0]; exact l0, by rw [g0]; exact u0⟩ hM2
  · intro u hu
    cases hu
theorem sg_nx1_run (G : sx_G0 g L xs zK hd_T ex_mt) (hct : ∀ (mi : Nat) (T2 : ex_T) (c' : sx_Ct), ex_mt mi = some T2 → c' ∈ k9 mi → c'.1 < 0 → sx_Holds g zK hd_T T2 c') {σ : am_S} {lw : List (Nat × Value)} {post : Option (Option Value) → am_S → Prop} (hM : sx_M zK hd_T σ 0 0 σ) (hl : (0, Value.ref 118) ∈ lw)  (cuta : ∀ (lw' : List (Nat × Value))  (σ' : am_S), (0, Value.ref 118) ∈ lw' → sx_M zK hd_T σ 0 0 σ' → am_K g 10 tX12_next.1 0 0 1 lw' [.ref 118] σ' post) : am_K g 10 tX12_next.1 0 0 0 lw [] σ post := by
  refine sg_seg (sw := []) (vs := []) (ws := []) G (mi := 141) rfl hct sg_nx1_ok trivial (hd_refs hl) trivial hd_p0 hM ?_ ?_
  · intro r σ' hq
    cases r with
    | none => exact hq.elim
    | some v =>
      obtain ⟨p, hp, hM2, ks, hk, hv⟩ := hq
      cases hp
  · intro u hu
    simp only [List.mem_cons, List.not_mem_nil, or_false] at hu
    rcases hu with rfl
    · intro lw' sw' vs' ws' σ' ⟨h1_0, h2, h3_0, h4, h5⟩
      obtain rfl := hd_src0 h1_0
      obtain ⟨sw1, rfl, h3_1⟩ := hd_str h3_0
      obtain ⟨rfl, rfl⟩ := hd_st0 h3_1
      have hr9 := hd_ref0 h2
      exact cuta _  _ hr9   h5
theorem sg_nx2a_run (G : sx_G0 g L xs zK hd_T ex_mt) (hct : ∀ (mi : Nat) (T2 : ex_T) (c' : sx_Ct), ex_mt mi = some T2 → c' ∈ k9 mi → c'.1 < 0 → sx_Holds g zK hd_T T2 c') {σ : am_S} {lw : List (Nat × Value)} {post : Option (Option Value) → am_S → Prop} (hM : sx_M zK hd_T σ 0 0 σ) (hl : (0, Value.ref 118) ∈ lw) (bp118_4 : 0 ≤ (σ.2.1 118 4).toInt ∧ (σ.2.1 118 4).toInt ≤ 939) {n0 : Int32} (bk0 : 32 ≤ n0.toInt ∧ n0.toInt ≤ 32) (cuta : ∀ (lw' : List (Nat × Value))  (σ' : am_S), (0, Value.ref 118) ∈ lw' → ((-1) ≤ 1 * (σ.2.1 118 4).toInt + ((-1) * (σ'.2.1 118 4).toInt + 0) ∧ 1 * (σ.2.1 118 4).toInt + ((-1) * (σ'.2.1 118 4).toInt + 0) ≤ (-1)) → sx_M zK hd_T σ 18788340662190665823115844774314696219005460391266558965658327772257672200916867547709591987078149624255479808 0 σ' → am_K g 10 tX12_next.1 0 0 0 lw' [] σ' post) : am_K g 10 tX12_next.1 0 0 4 lw [.int n0] σ post := by
  refine sg_seg (sw := [.int n0]) (vs := [(σ.2.1 118 4).toInt]) (ws := [n0.toInt]) G (mi := 141) rfl hct sg_nx2a_ok ⟨rfl, trivial⟩ (hd_refs hl) ⟨⟨n0, rfl, rfl⟩, trivial⟩ (hd_p1 rfl bp118_4.1 bp118_4.2 (hd_p1 rfl bk0.1 bk0.2 hd_p0)) hM ?_ ?_
  · intro r σ' hq
    cases r with
    | none => exact hq.elim
    | some v =>
      obtain ⟨p, hp, hM2, ks, hk, hv⟩ := hq
      cases hp
  · intro u hu
    simp only [List.mem_cons, List.not_mem_nil, or_false] at hu
    rcases hu with rfl
    · intro lw' sw' vs' ws' σ' ⟨h1_0, h2, h3_0, h4, h5⟩
      obtain ⟨vs1, rfl, h1_1⟩ := hd_srcs h1_0
      obtain rfl := hd_src0 h1_1
      obtain ⟨rfl, rfl⟩ := hd_st0 h3_0
      have hr9 := hd_ref0 h2
      obtain ⟨v0, e0, l0, u0⟩ := h4 _ (List.mem_cons_self)
      have g0 : 1 * (σ.2.1 118 4).toInt + ((-1) * (σ'.2.1 118 4).toInt + 0) = v0 := Option.some.inj e0
      exact cuta _  _ hr9  ⟨by rw [g0]; exact l0, by rw [g0]; exact u0⟩ h5
theorem sg_nx2b_run (G : sx_G0 g L xs zK hd_T ex_mt) (hct : ∀ (mi : Nat) (T2 : ex_T) (c' : sx_Ct), ex_mt mi = some T2 → c' ∈ k9 mi → c'.1 < 0 → sx_Holds g zK hd_T T2 c') {σ : am_S} {lw : List (Nat × Value)} {post : Option (Option Value) → am_S → Prop} (hM : sx_M zK hd_T σ 0 0 σ) (hl : (0, Value.ref 118) ∈ lw) {n0 : Int32} (bk0 : (-1) ≤ n0.toInt ∧ n0.toInt ≤ 31) (cuta : ∀ (lw' : List (Nat × Value))  (σ' : am_S), (0, Value.ref 118) ∈ lw' → sx_M zK hd_T σ 0 0 σ' → am_K g 10 tX12_next.1 0 0 10 lw' [.ref 118] σ' post) : am_K g 10 tX12_next.1 0 0 4 lw [.int n0] σ post := by
  refine sg_seg (sw := [.int n0]) (vs := []) (ws := [n0.toInt]) G (mi := 141) rfl hct sg_nx2b_ok trivial (hd_refs hl) ⟨⟨n0, rfl, rfl⟩, trivial⟩ (hd_p1 rfl bk0.1 bk0.2 hd_p0) hM ?_ ?_
  · intro r σ' hq
    cases r with
    | none => exact hq.elim
    | some v =>
      obtain ⟨p, hp, hM2, ks, hk, hv⟩ := hq
      cases hp
  · intro u hu
    simp only [List.mem_cons, List.not_mem_nil, or_false] at hu
    rcases hu with rfl
    · intro lw' sw' vs' ws' σ' ⟨h1_0, h2, h3_0, h4, h5⟩
      obtain rfl := hd_src0 h1_0
      obtain ⟨sw1, rfl, h3_1⟩ := hd_str h3_0
      obtain ⟨rfl, rfl⟩ := hd_st0 h3_1
      have hr9 := hd_ref0 h2
      exact cuta _  _ hr9   h5
theorem sg_nx2c_run (G : sx_G0 g L xs zK hd_T ex_mt) (hct : ∀ (mi : Nat) (T2 : ex_T) (c' : sx_Ct), ex_mt mi = some T2 → c' ∈ k9 mi → c'.1 < 0 → sx_Holds g zK hd_T T2 c') {σ : am_S} {lw : List (Nat × Value)} {post : Option (Option Value) → am_S → Prop} (hM : sx_M zK hd_T σ 0 0 σ) (hl : (0, Value.ref 118) ∈ lw) {n0 : Int32} (bk0 : 33 ≤ n0.toInt ∧ n0.toInt ≤ 255) (cuta : ∀ (lw' : List (Nat × Value))  (σ' : am_S), (0, Value.ref 118) ∈ lw' → sx_M zK hd_T σ 0 0 σ' → am_K g 10 tX12_next.1 0 0 10 lw' [.ref 118] σ' post) : am_K g 10 tX12_next.1 0 0 4 lw [.int n0] σ post := by
  refine sg_seg (sw := [.int n0]) (vs := []) (ws := [n0.toInt]) G (mi := 141) rfl hct sg_nx2c_ok trivial (hd_refs hl) ⟨⟨n0, rfl, rfl⟩, trivial⟩ (hd_p1 rfl bk0.1 bk0.2 hd_p0) hM ?_ ?_
  · intro r σ' hq
    cases r with
    | none => exact hq.elim
    | some v =>
      obtain ⟨p, hp, hM2, ks, hk, hv⟩ := hq
      cases hp
  · intro u hu
    simp only [List.mem_cons, List.not_mem_nil, or_false] at hu
    rcases hu with rfl
    · intro lw' sw' vs' ws' σ' ⟨h1_0, h2, h3_0, h4, h5⟩
      obtain rfl := hd_src0 h1_0
      obtain ⟨sw1, rfl, h3_1⟩ := hd_str h3_0
      obtain ⟨rfl, rfl⟩ := hd_st0 h3_1
      have hr9 := hd_ref0 h2
      exact cuta _  _ hr9   h5
theorem sg_nx3a_run (G : sx_G0 g L xs zK hd_T ex_mt) (hct : ∀ (mi : Nat) (T2 : ex_T) (c' : sx_Ct), ex_mt mi = some T2 → c' ∈ k9 mi → c'.1 < 0 → sx_Holds g zK hd_T T2 c') {σ : am_S} {lw : List (Nat × Value)} {post : Option (Option Value) → am_S → Prop} (hM : sx_M zK hd_T σ 0 0 σ) (hl : (0, Value.ref 118) ∈ lw) (bp118_4 : 0 ≤ (σ.2.1 118 4).toInt ∧ (σ.2.1 118 4).toInt ≤ 939) {n0 : Int32} (bk0 : 10 ≤ n0.toInt ∧ n0.toInt ≤ 10) (cuta : ∀ (lw' : List (Nat × Value))  (σ' : am_S), (0, Value.ref 118) ∈ lw' → ((-1) ≤ 1 * (σ.2.1 118 4).toInt + ((-1) * (σ'.2.1 118 4).toInt + 0) ∧ 1 * (σ.2.1 118 4).toInt + ((-1) * (σ'.2.1 118 4).toInt + 0) ≤ (-1)) → sx_M zK hd_T σ 18788340662190665823115844774314696219005460391266558965658327772257672200916867547709591987078149624255479808 0 σ' → am_K g 10 tX12_next.1 0 0 0 lw' [] σ' post) : am_K g 10 tX12_next.1 0 0 13 lw [.int n0] σ post := by
  refine sg_seg (sw := [.int n0]) (vs := [(σ.2.1 118 4).toInt]) (ws := [n0.toInt]) G (mi := 141) rfl hct sg_nx3a_ok ⟨rfl, trivial⟩ (hd_refs hl) ⟨⟨n0, rfl, rfl⟩, trivial⟩ (hd_p1 rfl bp118_4.1 bp118_4.2 (hd_p1 rfl bk0.1 bk0.2 hd_p0)) hM ?_ ?_
  · intro r σ' hq
    cases r with
    | none => exact hq.elim
    | some v =>
      obtain ⟨p, hp, hM2, ks, hk, hv⟩ := hq
      cases hp
  · intro u hu
    simp only [List.mem_cons, List.not_mem_nil, or_false] at hu
    rcases hu with rfl
    · intro lw' sw' vs' ws' σ' ⟨h1_0, h2, h3_0, h4, h5⟩
      obtain ⟨vs1, rfl, h1_1⟩ := hd_srcs h1_0
      obtain rfl := hd_src0 h1_1
      obtain ⟨rfl, rfl⟩ := hd_st0 h3_0
      have hr9 := hd_ref0 h2
      obtain ⟨v0, e0, l0, u0⟩ := h4 _ (List.mem_cons_self)
      have g0 : 1 * (σ.2.1 118 4).toInt + ((-1) * (σ'.2.1 118 4).toInt + 0) = v0 := Option.some.inj e0
      exact cuta _  _ hr9  ⟨by rw [g0]; exact l0, by rw [g0]; exact u0⟩ h5
theorem sg_nx3b_run (G : sx_G0 g L xs zK hd_T ex_mt) (hct : ∀ (mi : Nat) (T2 : ex_T) (c' : sx_Ct), ex_mt mi = some T2 → c' ∈ k9 mi → c'.1 < 0 → sx_Holds g zK hd_T T2 c') {σ : am_S} {lw : List (Nat × Value)} {post : Option (Option Value) → am_S → Prop} (hM : sx_M zK hd_T σ 0 0 σ) (hl : (0, Value.ref 118) ∈ lw) {n0 : Int32} (bk0 : (-1) ≤ n0.toInt ∧ n0.toInt ≤ 9) (cuta : ∀ (lw' : List (Nat × Value))  (σ' : am_S), (0, Value.ref 118) ∈ lw' → sx_M zK hd_T σ 0 0 σ' → am_K g 10 tX12_next.1 0 0 31 lw' [] σ' post) : am_K g 10 tX12_next.1 0 0 13 lw [.int n0] σ post := by
  refine sg_seg (sw := [.int n0]) (vs := []) (ws := [n0.toInt]) G (mi := 141) rfl hct sg_nx3b_ok trivial (hd_refs hl) ⟨⟨n0, rfl, rfl⟩, trivial⟩ (hd_p1 rfl bk0.1 bk0.2 hd_p0) hM ?_ ?_
  · intro r σ' hq
    cases r with
    | none => exact hq.elim
    | some v =>
      obtain ⟨p, hp, hM2, ks, hk, hv⟩ := hq
      cases hp
  · intro u hu
    simp only [List.mem_cons, List.not_mem_nil, or_false] at hu
    rcases hu with rfl
    · intro lw' sw' vs' ws' σ' ⟨h1_0, h2, h3_0, h4, h5⟩
      obtain rfl := hd_src0 h1_0
      obtain ⟨rfl, rfl⟩ := hd_st0 h3_0
      have hr9 := hd_ref0 h2
      exact cuta _  _ hr9   h5
theorem sg_nx3c_run (G : sx_G0 g L xs zK hd_T ex_mt) (hct : ∀ (mi : Nat) (T2 : ex_T) (c' : sx_Ct), ex_mt mi = some T2 → c' ∈ k9 mi → c'.1 < 0 → sx_Holds g zK hd_T T2 c') {σ : am_S} {lw : List (Nat × Value)} {post : Option (Option Value) → am_S → Prop} (hM : sx_M zK hd_T σ 0 0 σ) (hl : (0, Value.ref 118) ∈ lw) {n0 : Int32} (bk0 : 11 ≤ n0.toInt ∧ n0.toInt ≤ 255) (cuta : ∀ (lw' : List (Nat × Value))  (σ' : am_S), (0, Value.ref 118) ∈ lw' → sx_M zK hd_T σ 0 0 σ' → am_K g 10 tX12_next.1 0 0 31 lw' [] σ' post) : am_K g 10 tX12_next.1 0 0 13 lw [.int n0] σ post := by
  refine sg_seg (sw := [.int n0]) (vs := []) (ws := [n0.toInt]) G (mi := 141) rfl hct sg_nx3c_ok trivial (hd_refs hl) ⟨⟨n0, rfl, rfl⟩, trivial⟩ (hd_p1 rfl bk0.1 bk0.2 hd_p0) hM ?_ ?_
  · intro r σ' hq
    cases r with
    | none => exact hq.elim
    | some v =>
      obtain ⟨p, hp, hM2, ks, hk, hv⟩ := hq
      cases hp
  · intro u hu
    simp only [List.mem_cons, List.not_mem_nil, or_false] at hu
    rcases hu with rfl
    · intro lw' sw' vs' ws' σ' ⟨h1_0, h2, h3_0, h4, h5⟩
      obtain rfl := hd_src0 h1_0
      obtain ⟨rfl, rfl⟩ := hd_st0 h3_0
      have hr9 := hd_ref0 h2
      exact cuta _  _ hr9   h5
theorem sg_nx4_run (G : sx_G0 g L xs zK hd_T ex_mt) (hct : ∀ (mi : Nat) (T2 : ex_T) (c' : sx_Ct), ex_mt mi = some T2 → c' ∈ k9 mi → c'.1 < 0 → sx_Holds g zK hd_T T2 c') {σ : am_S} {lw : List (Nat × Value)} {post : Option (Option Value) → am_S → Prop} (hM : sx_M zK hd_T σ 0 0 σ) (hl : (0, Value.ref 118) ∈ lw)  (ret0 : ∀ (σ' : am_S), (0 ≤ 1 * (σ.2.1 118 5).toInt + ((-1) * (σ'.2.1 118 10).toInt + 0) ∧ 1 * (σ.2.1 118 5).toInt + ((-1) * (σ'.2.1 118 10).toInt + 0) ≤ 0) → (0 ≤ 1 * (σ'.2.1 118 11).toInt + 0 ∧ 1 * (σ'.2.1 118 11).toInt + 0 ≤ 0) → (4 ≤ 1 * (σ'.2.1 118 9).toInt + 0 ∧ 1 * (σ'.2.1 118 9).toInt + 0 ≤ 4) → (1 ≤ 1 * (σ.2.1 118 3).toInt + ((-1) * (σ.2.1 118 5).toInt + 0) ∧ 1 * (σ.2.1 118 3).toInt + ((-1) * (σ.2.1 118 5).toInt + 0) ≤ 4611686018427387904) → (0 ≤ 1 * (σ.2.1 118 4).toInt + ((-1) * (σ.2.1 118 5).toInt + 0) ∧ 1 * (σ.2.1 118 4).toInt + ((-1) * (σ.2.1 118 5).toInt + 0) ≤ 4611686018427387904) → sx_M zK hd_T σ 4208588308330709144377949229446491953057223127643709208307465420985718573005378330686948605105505515833227476992 0 σ' → post (some none) σ') (cuta : ∀ (lw' : List (Nat × Value))  (σ' : am_S), (0, Value.ref 118) ∈ lw' → (0 ≤ 1 * (σ.2.1 118 4).toInt + ((-1) * (σ'.2.1 118 10).toInt + 0) ∧ 1 * (σ.2.1 118 4).toInt + ((-1) * (σ'.2.1 118 10).toInt + 0) ≤ 0) → (0 ≤ 1 * (σ'.2.1 118 11).toInt + 0 ∧ 1 * (σ'.2.1 118 11).toInt + 0 ≤ 0) → ((-4611686018427387904) ≤ 1 * (σ.2.1 118 3).toInt + ((-1) * (σ.2.1 118 5).toInt + 0) ∧ 1 * (σ.2.1 118 3).toInt + ((-1) * (σ.2.1 118 5).toInt + 0) ≤ 0) → sx_M zK hd_T σ 3607361407140607838038242196668421674049048395123179321406398932273473062576038569160241661519004727857052123136 0 σ' → am_K g 10 tX12_next.1 0 0 81 lw' [.ref 118] σ' post) (cutb : ∀ (lw' : List (Nat × Value))  (σ' : am_S), (0, Value.ref 118) ∈ lw' → (0 ≤ 1 * (σ.2.1 118 4).toInt + ((-1) * (σ'.2.1 118 10).toInt + 0) ∧ 1 * (σ.2.1 118 4).toInt + ((-1) * (σ'.2.1 118 10).toInt + 0) ≤ 0) → (0 ≤ 1 * (σ'.2.1 118 11).toInt + 0 ∧ 1 * (σ'.2.1 118 11).toInt + 0 ≤ 0) → ((-4611686018427387904) ≤ 1 * (σ.2.1 118 4).toInt + ((-1) * (σ.2.1 118 5).toInt + 0) ∧ 1 * (σ.2.1 118 4).toInt + ((-1) * (σ.2.1 118 5).toInt + 0) ≤ (-1)) → sx_M zK hd_T σ 3607361407140607838038242196668421674049048395123179321406398932273473062576038569160241661519004727857052123136 0 σ' → am_K g 10 tX12_next.1 0 0 81 lw' [.ref 118] σ' post) : am_K g 10 tX12_next.1 0 0 31 lw [] σ post := by
  refine sg_seg (sw := []) (vs := [(σ.2.1 118 4).toInt, (σ.2.1 118 3).toInt, (σ.2.1 118 5).toInt]) (ws := []) G (mi := 141) rfl hct sg_nx4_ok ⟨rfl, ⟨rfl, ⟨rfl, trivial⟩⟩⟩ (hd_refs hl) trivial (hd_p1 rfl (hd_kd_118_4 hM).1 (hd_kd_118_4 hM).2 (hd_p1 rfl (hd_kd_118_3 hM).1 (hd_kd_118_3 hM).2 (hd_p1 rfl (hd_kd_118_5 hM).1 (hd_kd_118_5 hM).2 hd_p0))) hM ?_ ?_
  · intro r σ' hq
    cases r with
    | none => exact hq.elim
    | some v =>
      obtain ⟨p, hp, hM2, ks, hk, hv⟩ := hq
      simp only [List.mem_cons, List.not_mem_nil, or_false] at hp
      rcases hp with rfl
      · obtain ⟨ks0, rfl, hk1⟩ := hd_keyc hk; obtain ⟨ks1, rfl, hk2⟩ := hd_keyc hk1; obtain ⟨ks2, rfl, hk3⟩ := hd_keyc hk2; obtain rfl := hd_keys hk3
        cases v with
        | some w9 => exact hv.elim
        | none =>
          have hP := hv
          obtain ⟨v0, e0, l0, u0⟩ := hP _ (List.mem_cons_self)
          have g0 : 1 * (σ.2.1 118 5).toInt + ((-1) * (σ'.2.1 118 10).toInt + 0) = v0 := Option.some.inj e0
          obtain ⟨v1, e1, l1, u1⟩ := hP _ (List.mem_cons_of_mem _ (List.mem_cons_self))
          have g1 : 1 * (σ'.2.1 118 11).toInt + 0 = v1 := Option.some.inj e1
          obtain ⟨v2, e2, l2, u2⟩ := hP _ (List.mem_cons_of_mem _ (List.mem_cons_of_mem _ (List.mem_cons_self)))
          have g2 : 1 * (σ'.2.1 118 9).toInt + 0 = v2 := Option.some.inj e2
          obtain ⟨v3, e3, l3, u3⟩ := hP _ (List.mem_cons_of_mem _ (List.mem_cons_of_mem _ (List.mem_cons_of_mem _ (List.mem_cons_self))))
          have g3 : 1 * (σ.2.1 118 3).toInt + ((-1) * (σ.2.1 118 5).toInt + 0) = v3 := Option.some.inj e3
          obtain ⟨v4, e4, l4, u4⟩ := hP _ (List.mem_cons_of_mem _ (List.mem_cons_of_mem _ (List.mem_cons_of_mem _ (List.mem_cons_of_mem _ (List.mem_cons_self)))))
          have g4 : 1 * (σ.2.1 118 4).toInt + ((-1) * (σ.2.1 118 5).toInt + 0) = v4 := Option.some.inj e4
          exact ret0 _ ⟨by rw [g0]; exact l0, by rw [g0]; exact u0⟩ ⟨by rw [g1]; exact l1, by rw [g1]; exact u1⟩ ⟨by rw [g2]; exact l2, by rw [g2]; exact u2⟩ ⟨by rw [g3]; exact l3, by rw [g3]; exact u3⟩ ⟨by rw [g4]; exact l4, by rw [g4]; exact u4⟩ hM2
  · intro u hu
    simp only [List.mem_cons, List.not_mem_nil, or_false] at hu
    rcases hu with rfl | rfl
    · intro lw' sw' vs' ws' σ' ⟨h1_0, h2, h3_0, h4, h5⟩
      obtain ⟨vs1, rfl, h1_1⟩ := hd_srcs h1_0
      obtain ⟨vs2, rfl, h1_2⟩ := hd_srcs h1_1
      obtain rfl := hd_src0 h1_2
      obtain ⟨sw1, rfl, h3_1⟩ := hd_str h3_0
      obtain ⟨rfl, rfl⟩ := hd_st0 h3_1
      have hr9 := hd_ref0 h2
      obtain ⟨v0, e0, l0, u0⟩ := h4 _ (List.mem_cons_self)
      have g0 : 1 * (σ.2.1 118 4).toInt + ((-1) * (σ'.2.1 118 10).toInt + 0) = v0 := Option.some.inj e0
      obtain ⟨v1, e1, l1, u1⟩ := h4 _ (List.mem_cons_of_mem _ (List.mem_cons_self))
      have g1 : 1 * (σ'.2.1 118 11).toInt + 0 = v1 := Option.some.inj e1
      obtain ⟨v2, e2, l2, u2⟩ := h4 _ (List.mem_cons_of_mem _ (List.mem_cons_of_mem _ (List.mem_cons_self)))
      have g2 : 1 * (σ.2.1 118 3).toInt + ((-1) * (σ.2.1 118 5).toInt + 0) = v2 := Option.some.inj e2
      exact cuta _  _ hr9  ⟨by rw [g0]; exact l0, by rw [g0]; exact u0⟩ ⟨by rw [g1]; exact l1, by rw [g1]; exact u1⟩ ⟨by rw [g2]; exact l2, by rw [g2]; exact u2⟩ h5
    · intro lw' sw' vs' ws' σ' ⟨h1_0, h2, h3_0, h4, h5⟩
      obtain ⟨vs1, rfl, h1_1⟩ := hd_srcs h1_0
      obtain ⟨vs2, rfl, h1_2⟩ := hd_srcs h1_1
      obtain rfl := hd_src0 h1_2
      obtain ⟨sw1, rfl, h3_1⟩ := hd_str h3_0
      obtain ⟨rfl, rfl⟩ := hd_st0 h3_1
      have hr9 := hd_ref0 h2
      obtain ⟨v0, e0, l0, u0⟩ := h4 _ (List.mem_cons_self)
      have g0 : 1 * (σ.2.1 118 4).toInt + ((-1) * (σ'.2.1 118 10).toInt + 0) = v0 := Option.some.inj e0
      obtain ⟨v1, e1, l1, u1⟩ := h4 _ (List.mem_cons_of_mem _ (List.mem_cons_self))
      have g1 : 1 * (σ'.2.1 118 11).toInt + 0 = v1 := Option.some.inj e1
      obtain ⟨v2, e2, l2, u2⟩ := h4 _ (List.mem_cons_of_mem _ (List.mem_cons_of_mem _ (List.mem_cons_self)))
      have g2 : 1 * (σ.2.1 118 4).toInt + ((-1) * (σ.2.1 118 5).toInt + 0) = v2 := Option.some.inj e2
      exact cutb _  _ hr9  ⟨by rw [g0]; exact l0, by rw [g0]; exact u0⟩ ⟨by rw [g1]; exact l1, by rw [g1]; exact u1⟩ ⟨by rw [g2]; exact l2, by rw [g2]; exact u2⟩ h5
theorem sg_nx5e_run (G : sx_G0 g L xs zK hd_T ex_mt) (hct : ∀ (mi : Nat) (T2 : ex_T) (c' : sx_Ct), ex_mt mi = some T2 → c' ∈ k9 mi → c'.1 < 0 → sx_Holds g zK hd_T T2 c') {σ : am_S} {lw : List (Nat × Value)} {post : Option (Option Value) → am_S → Prop} (hM : sx_M zK hd_T σ 0 0 σ) (hl : (0, Value.ref 118) ∈ lw) {n0 : Int32} (bk0 : (-1) ≤ n0.toInt ∧ n0.toInt ≤ (-1)) (ret0 : ∀ (σ' : am_S), (0 ≤ 1 * (σ'.2.1 118 9).toInt + 0 ∧ 1 * (σ'.2.1 118 9).toInt + 0 ≤ 0) → sx_M zK hd_T σ 601226901190101306339707032778070279008174732520529886901066488712245510429339761526706943586500787976175353856 0 σ' → post (some none) σ') : am_K g 10 tX12_next.1 0 0 84 lw [.int n0] σ post := by
  refine sg_seg (sw := [.int n0]) (vs := []) (ws := [n0.toInt]) G (mi := 141) rfl hct sg_nx5e_ok trivial (hd_refs hl) ⟨⟨n0, rfl, rfl⟩, trivial⟩ (hd_p1 rfl bk0.1 bk0.2 hd_p0) hM ?_ ?_
  · intro r σ' hq
    cases r with
    | none => exact hq.elim
    | some v =>
      obtain ⟨p, hp, hM2, ks, hk, hv⟩ := hq
      simp only [List.mem_cons, List.not_mem_nil, or_false] at hp
      rcases hp with rfl
      · obtain ⟨ks0, rfl, hk1⟩ := hd_keyc hk; obtain rfl := hd_keys hk1
        cases v with
        | some w9 => exact hv.elim
        | none =>
          have hP := hv
          obtain ⟨v0, e0, l0, u0⟩ := hP _ (List.mem_cons_self)
          have g0 : 1 * (σ'.2.1 118 9).toInt + 0 = v0 := Option.some.inj e0
          exact ret0 _ ⟨by rw [g0]; exact l0, by rw [g0]; exact u0⟩ hM2
  · intro u hu
    cases hu
theorem sg_nx5a_run (G : sx_G0 g L xs zK hd_T ex_mt) (hct : ∀ (mi : Nat) (T2 : ex_T) (c' : sx_Ct), ex_mt mi = some T2 → c' ∈ k9 mi → c'.1 < 0 → sx_Holds g zK hd_T T2 c') {σ : am_S} {lw : List (Nat × Value)} {post : Option (Option Value) → am_S → Prop} (hM : sx_M zK hd_T σ 0 0 σ) (hl : (0, Value.ref 118) ∈ lw) (bp118_4 : 0 ≤ (σ.2.1 118 4).toInt ∧ (σ.2.1 118 4).toInt ≤ 939) {n0 : Int32} (bk0 : 0 ≤ n0.toInt ∧ n0.toInt ≤ 39) (ret0 : ∀ (σ' : am_S), (4 ≤ 1 * (σ'.2.1 118 9).toInt + 0 ∧ 1 * (σ'.2.1 118 9).toInt + 0 ≤ 4) → (0 ≤ 1 * n0.toInt + ((-1) * (σ'.2.1 118 12).toInt + 0) ∧ 1 * n0.toInt + ((-1) * (σ'.2.1 118 12).toInt + 0) ≤ 0) → ((-1) ≤ 1 * (σ.2.1 118 4).toInt + ((-1) * (σ'.2.1 118 4).toInt + 0) ∧ 1 * (σ.2.1 118 4).toInt + ((-1) * (σ'.2.1 118 4).toInt + 0) ≤ (-1)) → sx_M zK hd_T σ 5429830451373102422880479139776947207292578053076035541075256726182467266064974721288072084265585241409833664512 0 σ' → post (some none) σ') : am_K g 10 tX12_next.1 0 0 84 lw [.int n0] σ post := by
  refine sg_seg (sw := [.int n0]) (vs := [(σ.2.1 118 4).toInt]) (ws := [n0.toInt]) G (mi := 141) rfl hct sg_nx5a_ok ⟨rfl, trivial⟩ (hd_refs hl) ⟨⟨n0, rfl, rfl⟩, trivial⟩ (hd_p1 rfl bp118_4.1 bp118_4.2 (hd_p1 rfl bk0.1 bk0.2 hd_p0)) hM ?_ ?_
  · intro r σ' hq
    cases r with
    | none => exact hq.elim
    | some v =>
      obtain ⟨p, hp, hM2, ks, hk, hv⟩ := hq
      simp only [List.mem_cons, List.not_mem_nil, or_false] at hp
      rcases hp with rfl
      · obtain ⟨ks0, rfl, hk1⟩ := hd_keyc hk; obtain ⟨ks1, rfl, hk2⟩ := hd_keyc hk1; obtain ⟨ks2, rfl, hk3⟩ := hd_keyc hk2; obtain rfl := hd_keys hk3
        cases v with
        | some w9 => exact hv.elim
        | none =>
          have hP := hv
          obtain ⟨v0, e0, l0, u0⟩ := hP _ (List.mem_cons_self)
          have g0 : 1 * (σ'.2.1 118 9).toInt + 0 = v0 := Option.some.inj e0
          obtain ⟨v1, e1, l1, u1⟩ := hP _ (List.mem_cons_of_mem _ (List.mem_cons_self))
          have g1 : 1 * n0.toInt + ((-1) * (σ'.2.1 118 12).toInt + 0) = v1 := Option.some.inj e1
          obtain ⟨v2, e2, l2, u2⟩ := hP _ (List.mem_cons_of_mem _ (List.mem_cons_of_mem _ (List.mem_cons_self)))
          have g2 : 1 * (σ.2.1 118 4).toInt + ((-1) * (σ'.2.1 118 4).toInt + 0) = v2 := Option.some.inj e2
          exact ret0 _ ⟨by rw [g0]; exact l0, by rw [g0]; exact u0⟩ ⟨by rw [g1]; exact l1, by rw [g1]; exact u1⟩ ⟨by rw [g2]; exact l2, by rw [g2]; exact u2⟩ hM2
  · intro u hu
    cases hu
theorem sg_nx5b_run (G : sx_G0 g L xs zK hd_T ex_mt) (hct : ∀ (mi : Nat) (T2 : ex_T) (c' : sx_Ct), ex_mt mi = some T2 → c' ∈ k9 mi → c'.1 < 0 → sx_Holds g zK hd_T T2 c') {σ : am_S} {lw : List (Nat × Value)} {post : Option (Option Value) → am_S → Prop} (hM : sx_M zK hd_T σ 0 0 σ) (hl : (0, Value.ref 118) ∈ lw) (bp118_4 : 0 ≤ (σ.2.1 118 4).toInt ∧ (σ.2.1 118 4).toInt ≤ 939) {n0 : Int32} (bk0 : 40 ≤ n0.toInt ∧ n0.toInt ≤ 40) (ret0 : ∀ (σ' : am_S), (3 ≤ 1 * (σ'.2.1 118 9).toInt + 0 ∧ 1 * (σ'.2.1 118 9).toInt + 0 ≤ 3) → (0 ≤ 1 * n0.toInt + ((-1) * (σ'.2.1 118 12).toInt + 0) ∧ 1 * n0.toInt + ((-1) * (σ'.2.1 118 12).toInt + 0) ≤ 0) → ((-1) ≤ 1 * (σ.2.1 118 4).toInt + ((-1) * (σ'.2.1 118 4).toInt + 0) ∧ 1 * (σ.2.1 118 4).toInt + ((-1) * (σ'.2.1 118 4).toInt + 0) ≤ (-1)) → sx_M zK hd_T σ 5429830451373102422880479139776947207292578053076035541075256726182467266064974721288072084265585241409833664512 0 σ' → post (some none) σ') : am_K g 10 tX12_next.1 0 0 84 lw [.int n0] σ post := by
  refine sg_seg (sw := [.int n0]) (vs := [(σ.2.1 118 4).toInt]) (ws := [n0.toInt]) G (mi := 141) rfl hct sg_nx5b_ok ⟨rfl, trivial⟩ (hd_refs hl) ⟨⟨n0, rfl, rfl⟩, trivial⟩ (hd_p1 rfl bp118_4.1 bp118_4.2 (hd_p1 rfl bk0.1 bk0.2 hd_p0)) hM ?_ ?_
  · intro r σ' hq
    cases r with
    | none => exact hq.elim
    | some v =>
      obtain ⟨p, hp, hM2, ks, hk, hv⟩ := hq
      simp only [List.mem_cons, List.not_mem_nil, or_false] at hp
      rcases hp with rfl
      · obtain ⟨ks0, rfl, hk1⟩ := hd_keyc hk; obtain ⟨ks1, rfl, hk2⟩ := hd_keyc hk1; obtain ⟨ks2, rfl, hk3⟩ := hd_keyc hk2; obtain rfl := hd_keys hk3
        cases v with
        | some w9 => exact hv.elim
        | none =>
          have hP := hv
          obtain ⟨v0, e0, l0, u0⟩ := hP _ (List.mem_cons_self)
          have g0 : 1 * (σ'.2.1 118 9).toInt + 0 = v0 := Option.some.inj e0
          obtain ⟨v1, e1, l1, u1⟩ := hP _ (List.mem_cons_of_mem _ (List.mem_cons_self))
          have g1 : 1 * n0.toInt + ((-1) * (σ'.2.1 118 12).toInt + 0) = v1 := Option.some.inj e1
          obtain ⟨v2, e2, l2, u2⟩ := hP _ (List.mem_cons_of_mem _ (List.mem_cons_of_mem _ (List.mem_cons_self)))
          have g2 : 1 * (σ.2.1 118 4).toInt + ((-1) * (σ'.2.1 118 4).toInt + 0) = v2 := Option.some.inj e2
          exact ret0 _ ⟨by rw [g0]; exact l0, by rw [g0]; exact u0⟩ ⟨by rw [g1]; exact l1, by rw [g1]; exact u1⟩ ⟨by rw [g2]; exact l2, by rw [g2]; exact u2⟩ hM2
  · intro u hu
    cases hu
theorem sg_nx5c_run (G : sx_G0 g L xs zK hd_T ex_mt) (hct : ∀ (mi : Nat) (T2 : ex_T) (c' : sx_Ct), ex_mt mi = some T2 → c' ∈ k9 mi → c'.1 < 0 → sx_Holds g zK hd_T T2 c') {σ : am_S} {lw : List (Nat × Value)} {post : Option (Option Value) → am_S → Prop} (hM : sx_M zK hd_T σ 0 0 σ) (hl : (0, Value.ref 118) ∈ lw) (bp118_4 : 0 ≤ (σ.2.1 118 4).toInt ∧ (σ.2.1 118 4).toInt ≤ 939) {n0 : Int32} (bk0 : 41 ≤ n0.toInt ∧ n0.toInt ≤ 41) (ret0 : ∀ (σ' : am_S), (3 ≤ 1 * (σ'.2.1 118 9).toInt + 0 ∧ 1 * (σ'.2.1 118 9).toInt + 0 ≤ 3) → (0 ≤ 1 * n0.toInt + ((-1) * (σ'.2.1 118 12).toInt + 0) ∧ 1 * n0.toInt + ((-1) * (σ'.2.1 118 12).toInt + 0) ≤ 0) → ((-1) ≤ 1 * (σ.2.1 118 4).toInt + ((-1) * (σ'.2.1 118 4).toInt + 0) ∧ 1 * (σ.2.1 118 4).toInt + ((-1) * (σ'.2.1 118 4).toInt + 0) ≤ (-1)) → sx_M zK hd_T σ 5429830451373102422880479139776947207292578053076035541075256726182467266064974721288072084265585241409833664512 0 σ' → post (some none) σ') : am_K g 10 tX12_next.1 0 0 84 lw [.int n0] σ post := by
  refine sg_seg (sw := [.int n0]) (vs := [(σ.2.1 118 4).toInt]) (ws := [n0.toInt]) G (mi := 141) rfl hct sg_nx5c_ok ⟨rfl, trivial⟩ (hd_refs hl) ⟨⟨n0, rfl, rfl⟩, trivial⟩ (hd_p1 rfl bp118_4.1 bp118_4.2 (hd_p1 rfl bk0.1 bk0.2 hd_p0)) hM ?_ ?_
  · intro r σ' hq
    cases r with
    | none => exact hq.elim
    | some v =>
      obtain ⟨p, hp, hM2, ks, hk, hv⟩ := hq
      simp only [List.mem_cons, List.not_mem_nil, or_false] at hp
      rcases hp with rfl
      · obtain ⟨ks0, rfl, hk1⟩ := hd_keyc hk; obtain ⟨ks1, rfl, hk2⟩ := hd_keyc hk1; obtain ⟨ks2, rfl, hk3⟩ := hd_keyc hk2; obtain rfl := hd_keys hk3
        cases v with
        | some w9 => exact hv.elim
        | none =>
          have hP := hv
          obtain ⟨v0, e0, l0, u0⟩ := hP _ (List.mem_cons_self)
          have g0 : 1 * (σ'.2.1 118 9).toInt + 0 = v0 := Option.some.inj e0
          obtain ⟨v1, e1, l1, u1⟩ := hP _ (List.mem_cons_of_mem _ (List.mem_cons_self))
          have g1 : 1 * n0.toInt + ((-1) * (σ'.2.1 118 12).toInt + 0) = v1 := Option.some.inj e1
          obtain ⟨v2, e2, l2, u2⟩ := hP _ (List.mem_cons_of_mem _ (List.mem_cons_of_mem _ (List.mem_cons_self)))
          have g2 : 1 * (σ.2.1 118 4).toInt + ((-1) * (σ'.2.1 118 4).toInt + 0) = v2 := Option.some.inj e2
          exact ret0 _ ⟨by rw [g0]; exact l0, by rw [g0]; exact u0⟩ ⟨by rw [g1]; exact l1, by rw [g1]; exact u1⟩ ⟨by rw [g2]; exact l2, by rw [g2]; exact u2⟩ hM2
  · intro u hu
    cases hu
theorem sg_nx5d_run (G : sx_G0 g L xs zK hd_T ex_mt) (hct : ∀ (mi : Nat) (T2 : ex_T) (c' : sx_Ct), ex_mt mi = some T2 → c' ∈ k9 mi → c'.1 < 0 → sx_Holds g zK hd_T T2 c') {σ : am_S} {lw : List (Nat × Value)} {post : Option (Option Value) → am_S → Prop} (hM : sx_M zK hd_T σ 0 0 σ) (hl : (0, Value.ref 118) ∈ lw) (bp118_4 : 0 ≤ (σ.2.1 118 4).toInt ∧ (σ.2.1 118 4).toInt ≤ 939) {n0 : Int32} (bk0 : 42 ≤ n0.toInt ∧ n0.toInt ≤ 47) (ret0 : ∀ (σ' : am_S), (4 ≤ 1 * (σ'.2.1 118 9).toInt + 0 ∧ 1 * (σ'.2.1 118 9).toInt + 0 ≤ 4) → (0 ≤ 1 * n0.toInt + ((-1) * (σ'.2.1 118 12).toInt + 0) ∧ 1 * n0.toInt + ((-1) * (σ'.2.1 118 12).toInt + 0) ≤ 0) → ((-1) ≤ 1 * (σ.2.1 118 4).toInt + ((-1) * (σ'.2.1 118 4).toInt + 0) ∧ 1 * (σ.2.1 118 4).toInt + ((-1) * (σ'.2.1 118 4).toInt + 0) ≤ (-1)) → sx_M zK hd_T σ 5429830451373102422880479139776947207292578053076035541075256726182467266064974721288072084265585241409833664512 0 σ' → post (some none) σ') : am_K g 10 tX12_next.1 0 0 84 lw [.int n0] σ post := by
  refine sg_seg (sw := [.int n0]) (vs := [(σ.2.1 118 4).toInt]) (ws := [n0.toInt]) G (mi := 141) rfl hct sg_nx5d_ok ⟨rfl, trivial⟩ (hd_refs hl) ⟨⟨n0, rfl, rfl⟩, trivial⟩ (hd_p1 rfl bp118_4.1 bp118_4.2 (hd_p1 rfl bk0.1 bk0.2 hd_p0)) hM ?_ ?_
  · intro r σ' hq
    cases r with
    | none => exact hq.elim
    | some v =>
      obtain ⟨p, hp, hM2, ks, hk, hv⟩ := hq
      simp only [List.mem_cons, List.not_mem_nil, or_false] at hp
      rcases hp with rfl
      · obtain ⟨ks0, rfl, hk1⟩ := hd_keyc hk; obtain ⟨ks1, rfl, hk2⟩ := hd_keyc hk1; obtain ⟨ks2, rfl, hk3⟩ := hd_keyc hk2; obtain rfl := hd_keys hk3
        cases v with
        | some w9 => exact hv.elim
        | none =>
          have hP := hv
          obtain ⟨v0, e0, l0, u0⟩ := hP _ (List.mem_cons_self)
          have g0 : 1 * (σ'.2.1 118 9).toInt + 0 = v0 := Option.some.inj e0
          obtain ⟨v1, e1, l1, u1⟩ := hP _ (List.mem_cons_of_mem _ (List.mem_cons_self))
          have g1 : 1 * n0.toInt + ((-1) * (σ'.2.1 118 12).toInt + 0) = v1 := Option.some.inj e1
          obtain ⟨v2, e2, l2, u2⟩ := hP _ (List.mem_cons_of_mem _ (List.mem_cons_of_mem _ (List.mem_cons_self)))
          have g2 : 1 * (σ.2.1 118 4).toInt + ((-1) * (σ'.2.1 118 4).toInt + 0) = v2 := Option.some.inj e2
          exact ret0 _ ⟨by rw [g0]; exact l0, by rw [g0]; exact u0⟩ ⟨by rw [g1]; exact l1, by rw [g1]; exact u1⟩ ⟨by rw [g2]; exact l2, by rw [g2]; exact u2⟩ hM2
  · intro u hu
    cases hu
theorem sg_nx5f_run (G : sx_G0 g L xs zK hd_T ex_mt) (hct : ∀ (mi : Nat) (T2 : ex_T) (c' : sx_Ct), ex_mt mi = some T2 → c' ∈ k9 mi → c'.1 < 0 → sx_Holds g zK hd_T T2 c') {σ : am_S} {lw : List (Nat × Value)} {post : Option (Option Value) → am_S → Prop} (hM : sx_M zK hd_T σ 0 0 σ) (hl : (0, Value.ref 118) ∈ lw) (bp118_4 : 0 ≤ (σ.2.1 118 4).toInt ∧ (σ.2.1 118 4).toInt ≤ 939) {n0 : Int32} (bk0 : 58 ≤ n0.toInt ∧ n0.toInt ≤ 58) (ret0 : ∀ (σ' : am_S), (4 ≤ 1 * (σ'.2.1 118 9).toInt + 0 ∧ 1 * (σ'.2.1 118 9).toInt + 0 ≤ 4) → (0 ≤ 1 * n0.toInt + ((-1) * (σ'.2.1 118 12).toInt + 0) ∧ 1 * n0.toInt + ((-1) * (σ'.2.1 118 12).toInt + 0) ≤ 0) → ((-1) ≤ 1 * (σ.2.1 118 4).toInt + ((-1) * (σ'.2.1 118 4).toInt + 0) ∧ 1 * (σ.2.1 118 4).toInt + ((-1) * (σ'.2.1 118 4).toInt + 0) ≤ (-1)) → sx_M zK hd_T σ 5429830451373102422880479139776947207292578053076035541075256726182467266064974721288072084265585241409833664512 0 σ' → post (some none) σ') : am_K g 10 tX12_next.1 0 0 84 lw [.int n0] σ post := by
  refine sg_seg (sw := [.int n0]) (vs := [(σ.2.1 118 4).toInt]) (ws := [n0.toInt]) G (mi := 141) rfl hct sg_nx5f_ok ⟨rfl, trivial⟩ (hd_refs hl) ⟨⟨n0, rfl, rfl⟩, trivial⟩ (hd_p1 rfl bp118_4.1 bp118_4.2 (hd_p1 rfl bk0.1 bk0.2 hd_p0)) hM ?_ ?_
  · intro r σ' hq
    cases r with
    | none => exact hq.elim
    | some v =>
      obtain ⟨p, hp, hM2, ks, hk, hv⟩ := hq
      simp only [List.mem_cons, List.not_mem_nil, or_false] at hp
      rcases hp with rfl
      · obtain ⟨ks0, rfl, hk1⟩ := hd_keyc hk; obtain ⟨ks1, rfl, hk2⟩ := hd_keyc hk1; obtain ⟨ks2, rfl, hk3⟩ := hd_keyc hk2; obtain rfl := hd_keys hk3
        cases v with
        | some w9 => exact hv.elim
        | none =>
          have hP := hv
          obtain ⟨v0, e0, l0, u0⟩ := hP _ (List.mem_cons_self)
          have g0 : 1 * (σ'.2.1 118 9).toInt + 0 = v0 := Option.some.inj e0
          obtain ⟨v1, e1, l1, u1⟩ := hP _ (List.mem_cons_of_mem _ (List.mem_cons_self))
          have g1 : 1 * n0.toInt + ((-1) * (σ'.2.1 118 12).toInt + 0) = v1 := Option.some.inj e1
          obtain ⟨v2, e2, l2, u2⟩ := hP _ (List.mem_cons_of_mem _ (List.mem_cons_of_mem _ (List.mem_cons_self)))
          have g2 : 1 * (σ.2.1 118 4).toInt + ((-1) * (σ'.2.1 118 4).toInt + 0) = v2 := Option.some.inj e2
          exact ret0 _ ⟨by rw [g0]; exact l0, by rw [g0]; exact u0⟩ ⟨by rw [g1]; exact l1, by rw [g1]; exact u1⟩ ⟨by rw [g2]; exact l2, by rw [g2]; exact u2⟩ hM2
  · intro u hu
    cases hu
theorem sg_nx5g_run (G : sx_G0 g L xs zK hd_T ex_mt) (hct : ∀ (mi : Nat) (T2 : ex_T) (c' : sx_Ct), ex_mt mi = some T2 → c' ∈ k9 mi → c'.1 < 0 → sx_Holds g zK hd_T T2 c') {σ : am_S} {lw : List (Nat × Value)} {post : Option (Option Value) → am_S → Prop} (hM : sx_M zK hd_T σ 0 0 σ) (hl : (0, Value.ref 118) ∈ lw) (bp118_4 : 0 ≤ (σ.2.1 118 4).toInt ∧ (σ.2.1 118 4).toInt ≤ 939) {n0 : Int32} (bk0 : 59 ≤ n0.toInt ∧ n0.toInt ≤ 59) (ret0 : ∀ (σ' : am_S), (3 ≤ 1 * (σ'.2.1 118 9).toInt + 0 ∧ 1 * (σ'.2.1 118 9).toInt + 0 ≤ 3) → (0 ≤ 1 * n0.toInt + ((-1) * (σ'.2.1 118 12).toInt + 0) ∧ 1 * n0.toInt + ((-1) * (σ'.2.1 118 12).toInt + 0) ≤ 0) → ((-1) ≤ 1 * (σ.2.1 118 4).toInt + ((-1) * (σ'.2.1 118 4).toInt + 0) ∧ 1 * (σ.2.1 118 4).toInt + ((-1) * (σ'.2.1 118 4).toInt + 0) ≤ (-1)) → sx_M zK hd_T σ 5429830451373102422880479139776947207292578053076035541075256726182467266064974721288072084265585241409833664512 0 σ' → post (some none) σ') : am_K g 10 tX12_next.1 0 0 84 lw [.int n0] σ post := by
  refine sg_seg (sw := [.int n0]) (vs := [(σ.2.1 118 4).toInt]) (ws := [n0.toInt]) G (mi := 141) rfl hct sg_nx5g_ok ⟨rfl, trivial⟩ (hd_refs hl) ⟨⟨n0, rfl, rfl⟩, trivial⟩ (hd_p1 rfl bp118_4.1 bp118_4.2 (hd_p1 rfl bk0.1 bk0.2 hd_p0)) hM ?_ ?_
  · intro r σ' hq
    cases r with
    | none => exact hq.elim
    | some v =>
      obtain ⟨p, hp, hM2, ks, hk, hv⟩ := hq
      simp only [List.mem_cons, List.not_mem_nil, or_false] at hp
      rcases hp with rfl
      · obtain ⟨ks0, rfl, hk1⟩ := hd_keyc hk; obtain ⟨ks1, rfl, hk2⟩ := hd_keyc hk1; obtain ⟨ks2, rfl, hk3⟩ := hd_keyc hk2; obtain rfl := hd_keys hk3
        cases v with
        | some w9 => exact hv.elim
        | none =>
          have hP := hv
          obtain ⟨v0, e0, l0, u0⟩ := hP _ (List.mem_cons_self)
          have g0 : 1 * (σ'.2.1 118 9).toInt + 0 = v0 := Option.some.inj e0
          obtain ⟨v1, e1, l1, u1⟩ := hP _ (List.mem_cons_of_mem _ (List.mem_cons_self))
          have g1 : 1 * n0.toInt + ((-1) * (σ'.2.1 118 12).toInt + 0) = v1 := Option.some.inj e1
          obtain ⟨v2, e2, l2, u2⟩ := hP _ (List.mem_cons_of_mem _ (List.mem_cons_of_mem _ (List.mem_cons_self)))
          have g2 : 1 * (σ.2.1 118 4).toInt + ((-1) * (σ'.2.1 118 4).toInt + 0) = v2 := Option.some.inj e2
          exact ret0 _ ⟨by rw [g0]; exact l0, by rw [g0]; exact u0⟩ ⟨by rw [g1]; exact l1, by rw [g1]; exact u1⟩ ⟨by rw [g2]; exact l2, by rw [g2]; exact u2⟩ hM2
  · intro u hu
    cases hu
theorem sg_nx5h_run (G : sx_G0 g L xs zK hd_T ex_mt) (hct : ∀ (mi : Nat) (T2 : ex_T) (c' : sx_Ct), ex_mt mi = some T2 → c' ∈ k9 mi → c'.1 < 0 → sx_Holds g zK hd_T T2 c') {σ : am_S} {lw : List (Nat × Value)} {post : Option (Option Value) → am_S → Prop} (hM : sx_M zK hd_T σ 0 0 σ) (hl : (0, Value.ref 118) ∈ lw) (bp118_4 : 0 ≤ (σ.2.1 118 4).toInt ∧ (σ.2.1 118 4).toInt ≤ 939) {n0 : Int32} (bk0 : 60 ≤ n0.toInt ∧ n0.toInt ≤ 62) (ret0 : ∀ (σ' : am_S), (3 ≤ 1 * (σ'.2.1 118 9).toInt + 0 ∧ 1 * (σ'.2.1 118 9).toInt + 0 ≤ 3) → (0 ≤ 1 * n0.toInt + ((-1) * (σ'.2.1 118 12).toInt + 0) ∧ 1 * n0.toInt + ((-1) * (σ'.2.1 118 12).toInt + 0) ≤ 0) → ((-1) ≤ 1 * (σ.2.1 118 4).toInt + ((-1) * (σ'.2.1 118 4).toInt + 0) ∧ 1 * (σ.2.1 118 4).toInt + ((-1) * (σ'.2.1 118 4).toInt + 0) ≤ (-1)) → sx_M zK hd_T σ 5429830451373102422880479139776947207292578053076035541075256726182467266064974721288072084265585241409833664512 0 σ' → post (some none) σ') : am_K g 10 tX12_next.1 0 0 84 lw [.int n0] σ post := by
  refine sg_seg (sw := [.int n0]) (vs := [(σ.2.1 118 4).toInt]) (ws := [n0.toInt]) G (mi := 141) rfl hct sg_nx5h_ok ⟨rfl, trivial⟩ (hd_refs hl) ⟨⟨n0, rfl, rfl⟩, trivial⟩ (hd_p1 rfl bp118_4.1 bp118_4.2 (hd_p1 rfl bk0.1 bk0.2 hd_p0)) hM ?_ ?_
  · intro r σ' hq
    cases r with
    | none => exact hq.elim
    | some v =>
      obtain ⟨p, hp, hM2, ks, hk, hv⟩ := hq
      simp only [List.mem_cons, List.not_mem_nil, or_false] at hp
      rcases hp with rfl
      · obtain ⟨ks0, rfl, hk1⟩ := hd_keyc hk; obtain ⟨ks1, rfl, hk2⟩ := hd_keyc hk1; obtain ⟨ks2, rfl, hk3⟩ := hd_keyc hk2; obtain rfl := hd_keys hk3
        cases v with
        | some w9 => exact hv.elim
        | none =>
          have hP := hv
          obtain ⟨v0, e0, l0, u0⟩ := hP _ (List.mem_cons_self)
          have g0 : 1 * (σ'.2.1 118 9).toInt + 0 = v0 := Option.some.inj e0
          obtain ⟨v1, e1, l1, u1⟩ := hP _ (List.mem_cons_of_mem _ (List.mem_cons_self))
          have g1 : 1 * n0.toInt + ((-1) * (σ'.2.1 118 12).toInt + 0) = v1 := Option.some.inj e1
          obtain ⟨v2, e2, l2, u2⟩ := hP _ (List.mem_cons_of_mem _ (List.mem_cons_of_mem _ (List.mem_cons_self)))
          have g2 : 1 * (σ.2.1 118 4).toInt + ((-1) * (σ'.2.1 118 4).toInt + 0) = v2 := Option.some.inj e2
          exact ret0 _ ⟨by rw [g0]; exact l0, by rw [g0]; exact u0⟩ ⟨by rw [g1]; exact l1, by rw [g1]; exact u1⟩ ⟨by rw [g2]; exact l2, by rw [g2]; exact u2⟩ hM2
  · intro u hu
    cases hu
theorem sg_nx5i_run (G : sx_G0 g L xs zK hd_T ex_mt) (hct : ∀ (mi : Nat) (T2 : ex_T) (c' : sx_Ct), ex_mt mi = some T2 → c' ∈ k9 mi → c'.1 < 0 → sx_Holds g zK hd_T T2 c') {σ : am_S} {lw : List (Nat × Value)} {post : Option (Option Value) → am_S → Prop} (hM : sx_M zK hd_T σ 0 0 σ) (hl : (0, Value.ref 118) ∈ lw) (bp118_4 : 0 ≤ (σ.2.1 118 4).toInt ∧ (σ.2.1 118 4).toInt ≤ 939) {n0 : Int32} (bk0 : 63 ≤ n0.toInt ∧ n0.toInt ≤ 96) (ret0 : ∀ (σ' : am_S), (4 ≤ 1 * (σ'.2.1 118 9).toInt + 0 ∧ 1 * (σ'.2.1 118 9).toInt + 0 ≤ 4) → (0 ≤ 1 * n0.toInt + ((-1) * (σ'.2.1 118 12).toInt + 0) ∧ 1 * n0.toInt + ((-1) * (σ'.2.1 118 12).toInt + 0) ≤ 0) → ((-1) ≤ 1 * (σ.2.1 118 4).toInt + ((-1) * (σ'.2.1 118 4).toInt + 0) ∧ 1 * (σ.2.1 118 4).toInt + ((-1) * (σ'.2.1 118 4).toInt + 0) ≤ (-1)) → sx_M zK hd_T σ 5429830451373102422880479139776947207292578053076035541075256726182467266064974721288072084265585241409833664512 0 σ' → post (some none) σ') : am_K g 10 tX12_next.1 0 0 84 lw [.int n0] σ post := by
  refine sg_seg (sw := [.int n0]) (vs := [(σ.2.1 118 4).toInt]) (ws := [n0.toInt]) G (mi := 141) rfl hct sg_nx5i_ok ⟨rfl, trivial⟩ (hd_refs hl) ⟨⟨n0, rfl, rfl⟩, trivial⟩ (hd_p1 rfl bp118_4.1 bp118_4.2 (hd_p1 rfl bk0.1 bk0.2 hd_p0)) hM ?_ ?_
  · intro r σ' hq
    cases r with
    | none => exact hq.elim
    | some v =>
      obtain ⟨p, hp, hM2, ks, hk, hv⟩ := hq
      simp only [List.mem_cons, List.not_mem_nil, or_false] at hp
      rcases hp with rfl
      · obtain ⟨ks0, rfl, hk1⟩ := hd_keyc hk; obtain ⟨ks1, rfl, hk2⟩ := hd_keyc hk1; obtain ⟨ks2, rfl, hk3⟩ := hd_keyc hk2; obtain rfl := hd_keys hk3
        cases v with
        | some w9 => exact hv.elim
        | none =>
          have hP := hv
          obtain ⟨v0, e0, l0, u0⟩ := hP _ (List.mem_cons_self)
          have g0 : 1 * (σ'.2.1 118 9).toInt + 0 = v0 := Option.some.inj e0
          obtain ⟨v1, e1, l1, u1⟩ := hP _ (List.mem_cons_of_mem _ (List.mem_cons_self))
          have g1 : 1 * n0.toInt + ((-1) * (σ'.2.1 118 12).toInt + 0) = v1 := Option.some.inj e1
          obtain ⟨v2, e2, l2, u2⟩ := hP _ (List.mem_cons_of_mem _ (List.mem_cons_of_mem _ (List.mem_cons_self)))
          have g2 : 1 * (σ.2.1 118 4).toInt + ((-1) * (σ'.2.1 118 4).toInt + 0) = v2 := Option.some.inj e2
          exact ret0 _ ⟨by rw [g0]; exact l0, by rw [g0]; exact u0⟩ ⟨by rw [g1]; exact l1, by rw [g1]; exact u1⟩ ⟨by rw [g2]; exact l2, by rw [g2]; exact u2⟩ hM2
  · intro u hu
    cases hu
theorem sg_nx5j_run (G : sx_G0 g L xs zK hd_T ex_mt) (hct : ∀ (mi : Nat) (T2 : ex_T) (c' : sx_Ct), ex_mt mi = some T2 → c' ∈ k9 mi → c'.1 < 0 → sx_Holds g zK hd_T T2 c') {σ : am_S} {lw : List (Nat × Value)} {post : Option (Option Value) → am_S → Prop} (hM : sx_M zK hd_T σ 0 0 σ) (hl : (0, Value.ref 118) ∈ lw) (bp118_4 : 0 ≤ (σ.2.1 118 4).toInt ∧ (σ.2.1 118 4).toInt ≤ 939) {n0 : Int32} (bk0 : 123 ≤ n0.toInt ∧ n0.toInt ≤ 255) (ret0 : ∀ (σ' : am_S), (4 ≤ 1 * (σ'.2.1 118 9).toInt + 0 ∧ 1 * (σ'.2.1 118 9).toInt + 0 ≤ 4) → (0 ≤ 1 * n0.toInt + ((-1) * (σ'.2.1 118 12).toInt + 0) ∧ 1 * n0.toInt + ((-1) * (σ'.2.1 118 12).toInt + 0) ≤ 0) → ((-1) ≤ 1 * (σ.2.1 118 4).toInt + ((-1) * (σ'.2.1 118 4).toInt + 0) ∧ 1 * (σ.2.1 118 4).toInt + ((-1) * (σ'.2.1 118 4).toInt + 0) ≤ (-1)) → sx_M zK hd_T σ 5429830451373102422880479139776947207292578053076035541075256726182467266064974721288072084265585241409833664512 0 σ' → post (some none) σ') : am_K g 10 tX12_next.1 0 0 84 lw [.int n0] σ post := by
  refine sg_seg (sw := [.int n0]) (vs := [(σ.2.1 118 4).toInt]) (ws := [n0.toInt]) G (mi := 141) rfl hct sg_nx5j_ok ⟨rfl, trivial⟩ (hd_refs hl) ⟨⟨n0, rfl, rfl⟩, trivial⟩ (hd_p1 rfl bp118_4.1 bp118_4.2 (hd_p1 rfl bk0.1 bk0.2 hd_p0)) hM ?_ ?_
  · intro r σ' hq
    cases r with
    | none => exact hq.elim
    | some v =>
      obtain ⟨p, hp, hM2, ks, hk, hv⟩ := hq
      simp only [List.mem_cons, List.not_mem_nil, or_false] at hp
      rcases hp with rfl
      · obtain ⟨ks0, rfl, hk1⟩ := hd_keyc hk; obtain ⟨ks1, rfl, hk2⟩ := hd_keyc hk1; obtain ⟨ks2, rfl, hk3⟩ := hd_keyc hk2; obtain rfl := hd_keys hk3
        cases v with
        | some w9 => exact hv.elim
        | none =>
          have hP := hv
          obtain ⟨v0, e0, l0, u0⟩ := hP _ (List.mem_cons_self)
          have g0 : 1 * (σ'.2.1 118 9).toInt + 0 = v0 := Option.some.inj e0
          obtain ⟨v1, e1, l1, u1⟩ := hP _ (List.mem_cons_of_mem _ (List.mem_cons_self))
          have g1 : 1 * n0.toInt + ((-1) * (σ'.2.1 118 12).toInt + 0) = v1 := Option.some.inj e1
          obtain ⟨v2, e2, l2, u2⟩ := hP _ (List.mem_cons_of_mem _ (List.mem_cons_of_mem _ (List.mem_cons_self)))
          have g2 : 1 * (σ.2.1 118 4).toInt + ((-1) * (σ'.2.1 118 4).toInt + 0) = v2 := Option.some.inj e2
          exact ret0 _ ⟨by rw [g0]; exact l0, by rw [g0]; exact u0⟩ ⟨by rw [g1]; exact l1, by rw [g1]; exact u1⟩ ⟨by rw [g2]; exact l2, by rw [g2]; exact u2⟩ hM2
  · intro u hu
    cases hu
theorem sg_nx5k_run (G : sx_G0 g L xs zK hd_T ex_mt) (hct : ∀ (mi : Nat) (T2 : ex_T) (c' : sx_Ct), ex_mt mi = some T2 → c' ∈ k9 mi → c'.1 < 0 → sx_Holds g zK hd_T T2 c') {σ : am_S} {lw : List (Nat × Value)} {post : Option (Option Value) → am_S → Prop} (hM : sx_M zK hd_T σ 0 0 σ) (hl : (0, Value.ref 118) ∈ lw) {n0 : Int32} (bk0 : 48 ≤ n0.toInt ∧ n0.toInt ≤ 57) (cuta : ∀ (lw' : List (Nat × Value)) (m2' : Int32) (m3' : Int32) (σ' : am_S), (0, Value.ref 118) ∈ lw' → (2, Value.int m2') ∈ lw' → (3, Value.int m3') ∈ lw' → (0 ≤ 1 * m2'.toInt + 0 ∧ 1 * m2'.toInt + 0 ≤ 0) → (1 ≤ 1 * m3'.toInt + 0 ∧ 1 * m3'.toInt + 0 ≤ 1) → sx_M zK hd_T σ 0 0 σ' → am_K g 10 tX12_next.1 0 0 171 lw' [] σ' post) : am_K g 10 tX12_next.1 0 0 84 lw [.int n0] σ post := by
  refine sg_seg (sw := [.int n0]) (vs := []) (ws := [n0.toInt]) G (mi := 141) rfl hct sg_nx5k_ok trivial (hd_refs hl) ⟨⟨n0, rfl, rfl⟩, trivial⟩ (hd_p1 rfl bk0.1 bk0.2 hd_p0) hM ?_ ?_
  · intro r σ' hq
    cases r with
    | none => exact hq.elim
    | some v =>
      obtain ⟨p, hp, hM2, ks, hk, hv⟩ := hq
      cases hp
  · intro u hu
    simp only [List.mem_cons, List.not_mem_nil, or_false] at hu
    rcases hu with rfl
    · intro lw' sw' vs' ws' σ' ⟨h1_0, h2, h3_0, h4, h5⟩
      obtain ⟨m2', vs1, rfl, hm2, h1_1⟩ := hd_srcl h1_0
      obtain ⟨m3', vs2, rfl, hm3, h1_2⟩ := hd_srcl h1_1
      obtain rfl := hd_src0 h1_2
      obtain ⟨rfl, rfl⟩ := hd_st0 h3_0
      have hr9 := hd_ref0 h2
      obtain ⟨v0, e0, l0, u0⟩ := h4 _ (List.mem_cons_self)
      have g0 : 1 * m2'.toInt + 0 = v0 := Option.some.inj e0
      obtain ⟨v1, e1, l1, u1⟩ := h4 _ (List.mem_cons_of_mem _ (List.mem_cons_self))
      have g1 : 1 * m3'.toInt + 0 = v1 := Option.some.inj e1
      exact cuta _ _ _ _ hr9 hm2 hm3 ⟨by rw [g0]; exact l0, by rw [g0]; exact u0⟩ ⟨by rw [g1]; exact l1, by rw [g1]; exact u1⟩ h5
theorem sg_nx5l_run (G : sx_G0 g L xs zK hd_T ex_mt) (hct : ∀ (mi : Nat) (T2 : ex_T) (c' : sx_Ct), ex_mt mi = some T2 → c' ∈ k9 mi → c'.1 < 0 → sx_Holds g zK hd_T T2 c') {σ : am_S} {lw : List (Nat × Value)} {post : Option (Option Value) → am_S → Prop} (hM : sx_M zK hd_T σ 0 0 σ) (hl : (0, Value.ref 118) ∈ lw) {n0 : Int32} (bk0 : 97 ≤ n0.toInt ∧ n0.toInt ≤ 122) (cuta : ∀ (lw' : List (Nat × Value)) (m2' : Int32) (m3' : Int32) (σ' : am_S), (0, Value.ref 118) ∈ lw' → (2, Value.int m2') ∈ lw' → (3, Value.int m3') ∈ lw' → (1 ≤ 1 * m2'.toInt + 0 ∧ 1 * m2'.toInt + 0 ≤ 1) → (1 ≤ 1 * m3'.toInt + 0 ∧ 1 * m3'.toInt + 0 ≤ 1) → sx_M zK hd_T σ 0 0 σ' → am_K g 10 tX12_next.1 0 0 171 lw' [] σ' post) : am_K g 10 tX12_next.1 0 0 84 lw [.int n0] σ post := by
  refine sg_seg (sw := [.int n0]) (vs := []) (ws := [n0.toInt]) G (mi := 141) rfl hct sg_nx5l_ok trivial (hd_refs hl) ⟨⟨n0, rfl, rfl⟩, trivial⟩ (hd_p1 rfl bk0.1 bk0.2 hd_p0) hM ?_ ?_
  · intro r σ' hq
    cases r with
    | none => exact hq.elim
    | some v =>
      obtain ⟨p, hp, hM2, ks, hk, hv⟩ := hq
      cases hp
  · intro u hu
    simp only [List.mem_cons, List.not_mem_nil, or_false] at hu
    rcases hu with rfl
    · intro lw' sw' vs' ws' σ' ⟨h1_0, h2, h3_0, h4, h5⟩
      obtain ⟨m2', vs1, rfl, hm2, h1_1⟩ := hd_srcl h1_0
      obtain ⟨m3', vs2, rfl, hm3, h1_2⟩ := hd_srcl h1_1
      obtain rfl := hd_src0 h1_2
      obtain ⟨rfl, rfl⟩ := hd_st0 h3_0
      have hr9 := hd_ref0 h2
      obtain ⟨v0, e0, l0, u0⟩ := h4 _ (List.mem_cons_self)
      have g0 : 1 * m2'.toInt + 0 = v0 := Option.some.inj e0
      obtain ⟨v1, e1, l1, u1⟩ := h4 _ (List.mem_cons_of_mem _ (List.mem_cons_self))
      have g1 : 1 * m3'.toInt + 0 = v1 := Option.some.inj e1
      exact cuta _ _ _ _ hr9 hm2 hm3 ⟨by rw [g0]; exact l0, by rw [g0]; exact u0⟩ ⟨by rw [g1]; exact l1, by rw [g1]; exact u1⟩ h5
theorem sg_nx5z_run (G : sx_G0 g L xs zK hd_T ex_mt) (hct : ∀ (mi : Nat) (T2 : ex_T) (c' : sx_Ct), ex_mt mi = some T2 → c' ∈ k9 mi → c'.1 < 0 → sx_Holds g zK hd_T T2 c') {σ : am_S} {lw : List (Nat × Value)} {post : Option (Option Value) → am_S → Prop} (hM : sx_M zK hd_T σ 0 0 σ) (hl : (0, Value.ref 118) ∈ lw) {m2 : Int32} (hl2 : (2, Value.int m2) ∈ lw) {m3 : Int32} (hl3 : (3, Value.int m3) ∈ lw) (cuta : ∀ (lw' : List (Nat × Value)) (m2' : Int32) (m3' : Int32) (σ' : am_S), (0, Value.ref 118) ∈ lw' → (2, Value.int m2') ∈ lw' → (3, Value.int m3') ∈ lw' → (0 ≤ 1 * m2.toInt + ((-1) * m2'.toInt + 0) ∧ 1 * m2.toInt + ((-1) * m2'.toInt + 0) ≤ 0) → (0 ≤ 1 * m3.toInt + ((-1) * m3'.toInt + 0) ∧ 1 * m3.toInt + ((-1) * m3'.toInt + 0) ≤ 0) → (0 ≤ 1 * (σ'.2.1 118 12).toInt + 0 ∧ 1 * (σ'.2.1 118 12).toInt + 0 ≤ 0) → sx_M zK hd_T σ 4809815209520810450717656262224562232065397860164239095208531909697964083434718092213655548692006303809402830848 0 σ' → am_K g 10 tX12_next.1 0 0 182 lw' [.ref 118] σ' post) : am_K g 10 tX12_next.1 0 0 176 lw [] σ post := by
  refine sg_seg (sw := []) (vs := [m2.toInt, m3.toInt]) (ws := []) G (mi := 141) rfl hct sg_nx5z_ok ⟨⟨m2, hl2, rfl⟩, ⟨⟨m3, hl3, rfl⟩, trivial⟩⟩ (hd_refs hl) trivial (hd_p1 rfl (Int32.le_toInt _) (Int32.toInt_le _) (hd_p1 rfl (Int32.le_toInt _) (Int32.toInt_le _) hd_p0)) hM ?_ ?_
  · intro r σ' hq
    cases r with
    | none => exact hq.elim
    | some v =>
      obtain ⟨p, hp, hM2, ks, hk, hv⟩ := hq
      cases hp
  · intro u hu
    simp only [List.mem_cons, List.not_mem_nil, or_false] at hu
    rcases hu with rfl
    · intro lw' sw' vs' ws' σ' ⟨h1_0, h2, h3_0, h4, h5⟩
      obtain ⟨m2', vs1, rfl, hm2, h1_1⟩ := hd_srcl h1_0
      obtain ⟨m3', vs2, rfl, hm3, h1_2⟩ := hd_srcl h1_1
      obtain ⟨vs3, rfl, h1_3⟩ := hd_srcs h1_2
      obtain rfl := hd_src0 h1_3
      obtain ⟨sw1, rfl, h3_1⟩ := hd_str h3_0
      obtain ⟨rfl, rfl⟩ := hd_st0 h3_1
      have hr9 := hd_ref0 h2
      obtain ⟨v0, e0, l0, u0⟩ := h4 _ (List.mem_cons_self)
      have g0 : 1 * m2.toInt + ((-1) * m2'.toInt + 0) = v0 := Option.some.inj e0
      obtain ⟨v1, e1, l1, u1⟩ := h4 _ (List.mem_cons_of_mem _ (List.mem_cons_self))
      have g1 : 1 * m3.toInt + ((-1) * m3'.toInt + 0) = v1 := Option.some.inj e1
      obtain ⟨v2, e2, l2, u2⟩ := h4 _ (List.mem_cons_of_mem _ (List.mem_cons_of_mem _ (List.mem_cons_self)))
      have g2 : 1 * (σ'.2.1 118 12).toInt + 0 = v2 := Option.some.inj e2
      exact cuta _ _ _ _ hr9 hm2 hm3 ⟨by rw [g0]; exact l0, by rw [g0]; exact u0⟩ ⟨by rw [g1]; exact l1, by rw [g1]; exact u1⟩ ⟨by rw [g2]; exact l2, by rw [g2]; exact u2⟩ h5
theorem sg_nx6_run (G : sx_G0 g L xs zK hd_T ex_mt) (hct : ∀ (mi : Nat) (T2 : ex_T) (c' : sx_Ct), ex_mt mi = some T2 → c' ∈ k9 mi → c'.1 < 0 → sx_Holds g zK hd_T T2 c') {σ : am_S} {lw : List (Nat × Value)} {post : Option (Option Value) → am_S → Prop} (hM : sx_M zK hd_T σ 0 0 σ) (hl : (0, Value.ref 118) ∈ lw) {m2 : Int32} (hl2 : (2, Value.int m2) ∈ lw) (bl2 : 0 ≤ m2.toInt ∧ m2.toInt ≤ 1) {m3 : Int32} (hl3 : (3, Value.int m3) ∈ lw) (bl3 : 0 ≤ m3.toInt ∧ m3.toInt ≤ 1) {n0 : Int32} (bk0 : (-1) ≤ n0.toInt ∧ n0.toInt ≤ 255) (cuta : ∀ (lw' : List (Nat × Value)) (m2' : Int32) (m3' : Int32) (σ' : am_S), (0, Value.ref 118) ∈ lw' → (2, Value.int m2') ∈ lw' → (3, Value.int m3') ∈ lw' → (0 ≤ 1 * m2.toInt + ((-1) * m2'.toInt + 0) ∧ 1 * m2.toInt + ((-1) * m2'.toInt + 0) ≤ 0) → (0 ≤ 1 * m3.toInt + ((-1) * m3'.toInt + 0) ∧ 1 * m3.toInt + ((-1) * m3'.toInt + 0) ≤ 0) → ((-1) ≤ 1 * n0.toInt + 0 ∧ 1 * n0.toInt + 0 ≤ 96) → sx_M zK hd_T σ 0 0 σ' → am_K g 10 tX12_next.1 0 0 192 lw' [.ref 118] σ' post) (cutb : ∀ (lw' : List (Nat × Value)) (m2' : Int32) (m3' : Int32) (σ' : am_S), (0, Value.ref 118) ∈ lw' → (2, Value.int m2') ∈ lw' → (3, Value.int m3') ∈ lw' → (0 ≤ 1 * m2.toInt + ((-1) * m2'.toInt + 0) ∧ 1 * m2.toInt + ((-1) * m2'.toInt + 0) ≤ 0) → (0 ≤ 1 * m3.toInt + ((-1) * m3'.toInt + 0) ∧ 1 * m3.toInt + ((-1) * m3'.toInt + 0) ≤ 0) → (123 ≤ 1 * n0.toInt + 0 ∧ 1 * n0.toInt + 0 ≤ 255) → sx_M zK hd_T σ 0 0 σ' → am_K g 10 tX12_next.1 0 0 192 lw' [.ref 118] σ' post) (cutc : ∀ (lw' : List (Nat × Value)) (m2' : Int32) (m3' : Int32) (σ' : am_S), (0, Value.ref 118) ∈ lw' → (2, Value.int m2') ∈ lw' → (3, Value.int m3') ∈ lw' → (97 ≤ 1 * n0.toInt + 0 ∧ 1 * n0.toInt + 0 ≤ 122) → (0 ≤ 1 * m3.toInt + 0 ∧ 1 * m3.toInt + 0 ≤ 0) → (0 ≤ 1 * m2.toInt + ((-1) * m2'.toInt + 0) ∧ 1 * m2.toInt + ((-1) * m2'.toInt + 0) ≤ 0) → (0 ≤ 1 * m3.toInt + ((-1) * m3'.toInt + 0) ∧ 1 * m3.toInt + ((-1) * m3'.toInt + 0) ≤ 0) → sx_M zK hd_T σ 0 0 σ' → am_K g 10 tX12_next.1 0 0 222 lw' [] σ' post) (cutd : ∀ (lw' : List (Nat × Value)) (m2' : Int32) (m3' : Int32) (σ' : am_S), (0, Value.ref 118) ∈ lw' → (2, Value.int m2') ∈ lw' → (3, Value.int m3') ∈ lw' → (97 ≤ 1 * n0.toInt + 0 ∧ 1 * n0.toInt + 0 ≤ 122) → (1 ≤ 1 * m3.toInt + 0 ∧ 1 * m3.toInt + 0 ≤ 1) → (0 ≤ 1 * m2.toInt + ((-1) * m2'.toInt + 0) ∧ 1 * m2.toInt + ((-1) * m2'.toInt + 0) ≤ 0) → (0 ≤ 1 * m3.toInt + ((-1) * m3'.toInt + 0) ∧ 1 * m3.toInt + ((-1) * m3'.toInt + 0) ≤ 0) → sx_M zK hd_T σ 0 0 σ' → am_K g 10 tX12_next.1 0 0 206 lw' [.ref 118] σ' post) : am_K g 10 tX12_next.1 0 0 185 lw [.int n0] σ post := by
  refine sg_seg (sw := [.int n0]) (vs := [m2.toInt, m3.toInt]) (ws := [n0.toInt]) G (mi := 141) rfl hct sg_nx6_ok ⟨⟨m2, hl2, rfl⟩, ⟨⟨m3, hl3, rfl⟩, trivial⟩⟩ (hd_refs hl) ⟨⟨n0, rfl, rfl⟩, trivial⟩ (hd_p1 rfl bl2.1 bl2.2 (hd_p1 rfl bl3.1 bl3.2 (hd_p1 rfl bk0.1 bk0.2 hd_p0))) hM ?_ ?_
  · intro r σ' hq
    cases r with
    | none => exact hq.elim
    | some v =>
      obtain ⟨p, hp, hM2, ks, hk, hv⟩ := hq
      cases hp
  · intro u hu
    simp only [List.mem_cons, List.not_mem_nil, or_false] at hu
    rcases hu with rfl | rfl | rfl | rfl
    · intro lw' sw' vs' ws' σ' ⟨h1_0, h2, h3_0, h4, h5⟩
      obtain ⟨m2', vs1, rfl, hm2, h1_1⟩ := hd_srcl h1_0
      obtain ⟨m3', vs2, rfl, hm3, h1_2⟩ := hd_srcl h1_1
      obtain rfl := hd_src0 h1_2
      obtain ⟨sw1, rfl, h3_1⟩ := hd_str h3_0
      obtain ⟨rfl, rfl⟩ := hd_st0 h3_1
      have hr9 := hd_ref0 h2
      obtain ⟨v0, e0, l0, u0⟩ := h4 _ (List.mem_cons_self)
      have g0 : 1 * m2.toInt + ((-1) * m2'.toInt + 0) = v0 := Option.some.inj e0
      obtain ⟨v1, e1, l1, u1⟩ := h4 _ (List.mem_cons_of_mem _ (List.mem_cons_self))
      have g1 : 1 * m3.toInt + ((-1) * m3'.toInt + 0) = v1 := Option.some.inj e1
      obtain ⟨v2, e2, l2, u2⟩ := h4 _ (List.mem_cons_of_mem _ (List.mem_cons_of_mem _ (List.mem_cons_self)))
      have g2 : 1 * n0.toInt + 0 = v2 := Option.some.inj e2
      exact cuta _ _ _ _ hr9 hm2 hm3 ⟨by rw [g0]; exact l0, by rw [g0]; exact u0⟩ ⟨by rw [g1]; exact l1, by rw [g1]; exact u1⟩ ⟨by rw [g2]; exact l2, by rw [g2]; exact u2⟩ h5
    · intro lw' sw' vs' ws' σ' ⟨h1_0, h2, h3_0, h4, h5⟩
      obtain ⟨m2', vs1, rfl, hm2, h1_1⟩ := hd_srcl h1_0
      obtain ⟨m3', vs2, rfl, hm3, h1_2⟩ := hd_srcl h1_1
      obtain rfl := hd_src0 h1_2
      obtain ⟨sw1, rfl, h3_1⟩ := hd_str h3_0
      obtain ⟨rfl, rfl⟩ := hd_st0 h3_1
      have hr9 := hd_ref0 h2
      obtain ⟨v0, e0, l0, u0⟩ := h4 _ (List.mem_cons_self)
      have g0 : 1 * m2.toInt + ((-1) * m2'.toInt + 0) = v0 := Option.some.inj e0
      obtain ⟨v1, e1, l1, u1⟩ := h4 _ (List.mem_cons_of_mem _ (List.mem_cons_self))
      have g1 : 1 * m3.toInt + ((-1) * m3'.toInt + 0) = v1 := Option.some.inj e1
      obtain ⟨v2, e2, l2, u2⟩ := h4 _ (List.mem_cons_of_mem _ (List.mem_cons_of_mem _ (List.mem_cons_self)))
      have g2 : 1 * n0.toInt + 0 = v2 := Option.some.inj e2
      exact cutb _ _ _ _ hr9 hm2 hm3 ⟨by rw [g0]; exact l0, by rw [g0]; exact u0⟩ ⟨by rw [g1]; exact l1, by rw [g1]; exact u1⟩ ⟨by rw [g2]; exact l2, by rw [g2]; exact u2⟩ h5
    · intro lw' sw' vs' ws' σ' ⟨h1_0, h2, h3_0, h4, h5⟩
      obtain ⟨m2', vs1, rfl, hm2, h1_1⟩ := hd_srcl h1_0
      obtain ⟨m3', vs2, rfl, hm3, h1_2⟩ := hd_srcl h1_1
      obtain rfl := hd_src0 h1_2
      obtain ⟨rfl, rfl⟩ := hd_st0 h3_0
      have hr9 := hd_ref0 h2
      obtain ⟨v0, e0, l0, u0⟩ := h4 _ (List.mem_cons_self)
      have g0 : 1 * n0.toInt + 0 = v0 := Option.some.inj e0
      obtain ⟨v1, e1, l1, u1⟩ := h4 _ (List.mem_cons_of_mem _ (List.mem_cons_self))
      have g1 : 1 * m3.toInt + 0 = v1 := Option.some.inj e1
      obtain ⟨v2, e2, l2, u2⟩ := h4 _ (List.mem_cons_of_mem _ (List.mem_cons_of_mem _ (List.mem_cons_self)))
      have g2 : 1 * m2.toInt + ((-1) * m2'.toInt + 0) = v2 := Option.some.inj e2
      obtain ⟨v3, e3, l3, u3⟩ := h4 _ (List.mem_cons_of_mem _ (List.mem_cons_of_mem _ (List.mem_cons_of_mem _ (List.mem_cons_self))))
      have g3 : 1 * m3.toInt + ((-1) * m3'.toInt + 0) = v3 := Option.some.inj e3
      exact cutc _ _ _ _ hr9 hm2 hm3 ⟨by rw [g0]; exact l0, by rw [g0]; exact u0⟩ ⟨by rw [g1]; exact l1, by rw [g1]; exact u1⟩ ⟨by rw [g2]; exact l2, by rw [g2]; exact u2⟩ ⟨by rw [g3]; exact l3, by rw [g3]; exact u3⟩ h5
    · intro lw' sw' vs' ws' σ' ⟨h1_0, h2, h3_0, h4, h5⟩
      obtain ⟨m2', vs1, rfl, hm2, h1_1⟩ := hd_srcl h1_0
      obtain ⟨m3', vs2, rfl, hm3, h1_2⟩ := hd_srcl h1_1
      obtain rfl := hd_src0 h1_2
      obtain ⟨sw1, rfl, h3_1⟩ := hd_str h3_0
      obtain ⟨rfl, rfl⟩ := hd_st0 h3_1
      have hr9 := hd_ref0 h2
      obtain ⟨v0, e0, l0, u0⟩ := h4 _ (List.mem_cons_self)
      have g0 : 1 * n0.toInt + 0 = v0 := Option.some.inj e0
      obtain ⟨v1, e1, l1, u1⟩ := h4 _ (List.mem_cons_of_mem _ (List.mem_cons_self))
      have g1 : 1 * m3.toInt + 0 = v1 := Option.some.inj e1
      obtain ⟨v2, e2, l2, u2⟩ := h4 _ (List.mem_cons_of_mem _ (List.mem_cons_of_mem _ (List.mem_cons_self)))
      have g2 : 1 * m2.toInt + ((-1) * m2'.toInt + 0) = v2 := Option.some.inj e2
      obtain ⟨v3, e3, l3, u3⟩ := h4 _ (List.mem_cons_of_mem _ (List.mem_cons_of_mem _ (List.mem_cons_of_mem _ (List.mem_cons_self))))
      have g3 : 1 * m3.toInt + ((-1) * m3'.toInt + 0) = v3 := Option.some.inj e3
      exact cutd _ _ _ _ hr9 hm2 hm3 ⟨by rw [g0]; exact l0, by rw [g0]; exact u0⟩ ⟨by rw [g1]; exact l1, by rw [g1]; exact u1⟩ ⟨by rw [g2]; exact l2, by rw [g2]; exact u2⟩ ⟨by rw [g3]; exact l3, by rw [g3]; exact u3⟩ h5
theorem sg_nx7_run (G : sx_G0 g L xs zK hd_T ex_mt) (hct : ∀ (mi : Nat) (T2 : ex_T) (c' : sx_Ct), ex_mt mi = some T2 → c' ∈ k9 mi → c'.1 < 0 → sx_Holds g zK hd_T T2 c') {σ : am_S} {lw : List (Nat × Value)} {post : Option (Option Value) → am_S → Prop} (hM : sx_M zK hd_T σ 0 0 σ) (hl : (0, Value.ref 118) ∈ lw) {m2 : Int32} (hl2 : (2, Value.int m2) ∈ lw) (bl2 : 0 ≤ m2.toInt ∧ m2.toInt ≤ 1) {m3 : Int32} (hl3 : (3, Value.int m3) ∈ lw) (bl3 : 0 ≤ m3.toInt ∧ m3.toInt ≤ 1) {n0 : Int32} (bk0 : (-1) ≤ n0.toInt ∧ n0.toInt ≤ 255) (cuta : ∀ (lw' : List (Nat × Value)) (m2' : Int32) (m3' : Int32) (σ' : am_S), (0, Value.ref 118) ∈ lw' → (2, Value.int m2') ∈ lw' → (3, Value.int m3') ∈ lw' → (0 ≤ 1 * m2.toInt + ((-1) * m2'.toInt + 0) ∧ 1 * m2.toInt + ((-1) * m2'.toInt + 0) ≤ 0) → (0 ≤ 1 * m3.toInt + ((-1) * m3'.toInt + 0) ∧ 1 * m3.toInt + ((-1) * m3'.toInt + 0) ≤ 0) → ((-1) ≤ 1 * n0.toInt + 0 ∧ 1 * n0.toInt + 0 ≤ 47) → sx_M zK hd_T σ 0 0 σ' → am_K g 10 tX12_next.1 0 0 298 lw' [] σ' post) (cutb : ∀ (lw' : List (Nat × Value)) (m2' : Int32) (m3' : Int32) (σ' : am_S), (0, Value.ref 118) ∈ lw' → (2, Value.int m2') ∈ lw' → (3, Value.int m3') ∈ lw' → (0 ≤ 1 * m2.toInt + ((-1) * m2'.toInt + 0) ∧ 1 * m2.toInt + ((-1) * m2'.toInt + 0) ≤ 0) → (0 ≤ 1 * m3.toInt + ((-1) * m3'.toInt + 0) ∧ 1 * m3.toInt + ((-1) * m3'.toInt + 0) ≤ 0) → (58 ≤ 1 * n0.toInt + 0 ∧ 1 * n0.toInt + 0 ≤ 255) → sx_M zK hd_T σ 0 0 σ' → am_K g 10 tX12_next.1 0 0 298 lw' [] σ' post) (cutc : ∀ (lw' : List (Nat × Value)) (m2' : Int32) (m3' : Int32) (σ' : am_S), (0, Value.ref 118) ∈ lw' → (2, Value.int m2') ∈ lw' → (3, Value.int m3') ∈ lw' → (48 ≤ 1 * n0.toInt + 0 ∧ 1 * n0.toInt + 0 ≤ 57) → (0 ≤ 1 * m3.toInt + 0 ∧ 1 * m3.toInt + 0 ≤ 0) → (0 ≤ 1 * m2.toInt + ((-1) * m2'.toInt + 0) ∧ 1 * m2.toInt + ((-1) * m2'.toInt + 0) ≤ 0) → (0 ≤ 1 * m3.toInt + ((-1) * m3'.toInt + 0) ∧ 1 * m3.toInt + ((-1) * m3'.toInt + 0) ≤ 0) → sx_M zK hd_T σ 0 0 σ' → am_K g 10 tX12_next.1 0 0 222 lw' [] σ' post) (cutd : ∀ (lw' : List (Nat × Value)) (m2' : Int32) (m3' : Int32) (σ' : am_S), (0, Value.ref 118) ∈ lw' → (2, Value.int m2') ∈ lw' → (3, Value.int m3') ∈ lw' → (48 ≤ 1 * n0.toInt + 0 ∧ 1 * n0.toInt + 0 ≤ 57) → (1 ≤ 1 * m3.toInt + 0 ∧ 1 * m3.toInt + 0 ≤ 1) → (0 ≤ 1 * m2.toInt + ((-1) * m2'.toInt + 0) ∧ 1 * m2.toInt + ((-1) * m2'.toInt + 0) ≤ 0) → (0 ≤ 1 * m3.toInt + ((-1) * m3'.toInt + 0) ∧ 1 * m3.toInt + ((-1) * m3'.toInt + 0) ≤ 0) → sx_M zK hd_T σ 0 0 σ' → am_K g 10 tX12_next.1 0 0 206 lw' [.ref 118] σ' post) : am_K g 10 tX12_next.1 0 0 195 lw [.int n0] σ post := by
  refine sg_seg (sw := [.int n0]) (vs := [m2.toInt, m3.toInt]) (ws := [n0.toInt]) G (mi := 141) rfl hct sg_nx7_ok ⟨⟨m2, hl2, rfl⟩, ⟨⟨m3, hl3, rfl⟩, trivial⟩⟩ (hd_refs hl) ⟨⟨n0, rfl, rfl⟩, trivial⟩ (hd_p1 rfl bl2.1 bl2.2 (hd_p1 rfl bl3.1 bl3.2 (hd_p1 rfl bk0.1 bk0.2 hd_p0))) hM ?_ ?_
  · intro r σ' hq
    cases r with
    | none => exact hq.elim
    | some v =>
      obtain ⟨p, hp, hM2, ks, hk, hv⟩ := hq
      cases hp
  · intro u hu
    simp only [List.mem_cons, List.not_mem_nil, or_false] at hu
    rcases hu with rfl | rfl | rfl | rfl
    · intro lw' sw' vs' ws' σ' ⟨h1_0, h2, h3_0, h4, h5⟩
      obtain ⟨m2', vs1, rfl, hm2, h1_1⟩ := hd_srcl h1_0
      obtain ⟨m3', vs2, rfl, hm3, h1_2⟩ := hd_srcl h1_1
      obtain rfl := hd_src0 h1_2
      obtain ⟨rfl, rfl⟩ := hd_st0 h3_0
      have hr9 := hd_ref0 h2
      obtain ⟨v0, e0, l0, u0⟩ := h4 _ (List.mem_cons_self)
      have g0 : 1 * m2.toInt + ((-1) * m2'.toInt + 0) = v0 := Option.some.inj e0
      obtain ⟨v1, e1, l1, u1⟩ := h4 _ (List.mem_cons_of_mem _ (List.mem_cons_self))
      have g1 : 1 * m3.toInt + ((-1) * m3'.toInt + 0) = v1 := Option.some.inj e1
      obtain ⟨v2, e2, l2, u2⟩ := h4 _ (List.mem_cons_of_mem _ (List.mem_cons_of_mem _ (List.mem_cons_self)))
      have g2 : 1 * n0.toInt + 0 = v2 := Option.some.inj e2
      exact cuta _ _ _ _ hr9 hm2 hm3 ⟨by rw [g0]; exact l0, by rw [g0]; exact u0⟩ ⟨by rw [g1]; exact l1, by rw [g1]; exact u1⟩ ⟨by rw [g2]; exact l2, by rw [g2]; exact u2⟩ h5
    · intro lw' sw' vs' ws' σ' ⟨h1_0, h2, h3_0, h4, h5⟩
      obtain ⟨m2', vs1, rfl, hm2, h1_1⟩ := hd_srcl h1_0
      obtain ⟨m3', vs2, rfl, hm3, h1_2⟩ := hd_srcl h1_1
      obtain rfl := hd_src0 h1_2
      obtain ⟨rfl, rfl⟩ := hd_st0 h3_0
      have hr9 := hd_ref0 h2
      obtain ⟨v0, e0, l0, u0⟩ := h4 _ (List.mem_cons_self)
      have g0 : 1 * m2.toInt + ((-1) * m2'.toInt + 0) = v0 := Option.some.inj e0
      obtain ⟨v1, e1, l1, u1⟩ := h4 _ (List.mem_cons_of_mem _ (List.mem_cons_self))
      have g1 : 1 * m3.toInt + ((-1) * m3'.toInt + 0) = v1 := Option.some.inj e1
      obtain ⟨v2, e2, l2, u2⟩ := h4 _ (List.mem_cons_of_mem _ (List.mem_cons_of_mem _ (List.mem_cons_self)))
      have g2 : 1 * n0.toInt + 0 = v2 := Option.some.inj e2
      exact cutb _ _ _ _ hr9 hm2 hm3 ⟨by rw [g0]; exact l0, by rw [g0]; exact u0⟩ ⟨by rw [g1]; exact l1, by rw [g1]; exact u1⟩ ⟨by rw [g2]; exact l2, by rw [g2]; exact u2⟩ h5
    · intro lw' sw' vs' ws' σ' ⟨h1_0, h2, h3_0, h4, h5⟩
      obtain ⟨m2', vs1, rfl, hm2, h1_1⟩ := hd_srcl h1_0
      obtain ⟨m3', vs2, rfl, hm3, h1_2⟩ := hd_srcl h1_1
      obtain rfl := hd_src0 h1_2
      obtain ⟨rfl, rfl⟩ := hd_st0 h3_0
      have hr9 := hd_ref0 h2
      obtain ⟨v0, e0, l0, u0⟩ := h4 _ (List.mem_cons_self)
      have g0 : 1 * n0.toInt + 0 = v0 := Option.some.inj e0
      obtain ⟨v1, e1, l1, u1⟩ := h4 _ (List.mem_cons_of_mem _ (List.mem_cons_self))
      have g1 : 1 * m3.toInt + 0 = v1 := Option.some.inj e1
      obtain ⟨v2, e2, l2, u2⟩ := h4 _ (List.mem_cons_of_mem _ (List.mem_cons_of_mem _ (List.mem_cons_self)))
      have g2 : 1 * m2.toInt + ((-1) * m2'.toInt + 0) = v2 := Option.some.inj e2
      obtain ⟨v3, e3, l3, u3⟩ := h4 _ (List.mem_cons_of_mem _ (List.mem_cons_of_mem _ (List.mem_cons_of_mem _ (List.mem_cons_self))))
      have g3 : 1 * m3.toInt + ((-1) * m3'.toInt + 0) = v3 := Option.some.inj e3
      exact cutc _ _ _ _ hr9 hm2 hm3 ⟨by rw [g0]; exact l0, by rw [g0]; exact u0⟩ ⟨by rw [g1]; exact l1, by rw [g1]; exact u1⟩ ⟨by rw [g2]; exact l2, by rw [g2]; exact u2⟩ ⟨by rw [g3]; exact l3, by rw [g3]; exact u3⟩ h5
    · intro lw' sw' vs' ws' σ' ⟨h1_0, h2, h3_0, h4, h5⟩
      obtain ⟨m2', vs1, rfl, hm2, h1_1⟩ := hd_srcl h1_0
      obtain ⟨m3', vs2, rfl, hm3, h1_2⟩ := hd_srcl h1_1
      obtain rfl := hd_src0 h1_2
      obtain ⟨sw1, rfl, h3_1⟩ := hd_str h3_0
      obtain ⟨rfl, rfl⟩ := hd_st0 h3_1
      have hr9 := hd_ref0 h2
      obtain ⟨v0, e0, l0, u0⟩ := h4 _ (List.mem_cons_self)
      have g0 : 1 * n0.toInt + 0 = v0 := Option.some.inj e0
      obtain ⟨v1, e1, l1, u1⟩ := h4 _ (List.mem_cons_of_mem _ (List.mem_cons_self))
      have g1 : 1 * m3.toInt + 0 = v1 := Option.some.inj e1
      obtain ⟨v2, e2, l2, u2⟩ := h4 _ (List.mem_cons_of_mem _ (List.mem_cons_of_mem _ (List.mem_cons_self)))
      have g2 : 1 * m2.toInt + ((-1) * m2'.toInt + 0) = v2 := Option.some.inj e2
      obtain ⟨v3, e3, l3, u3⟩ := h4 _ (List.mem_cons_of_mem _ (List.mem_cons_of_mem _ (List.mem_cons_of_mem _ (List.mem_cons_self))))
      have g3 : 1 * m3.toInt + ((-1) * m3'.toInt + 0) = v3 := Option.some.inj e3
      exact cutd _ _ _ _ hr9 hm2 hm3 ⟨by rw [g0]; exact l0, by rw [g0]; exact u0⟩ ⟨by rw [g1]; exact l1, by rw [g1]; exact u1⟩ ⟨by rw [g2]; exact l2, by rw [g2]; exact u2⟩ ⟨by rw [g3]; exact l3, by rw [g3]; exact u3⟩ h5
theorem sg_nx8_run (G : sx_G0 g L xs zK hd_T ex_mt) (hct : ∀ (mi : Nat) (T2 : ex_T) (c' : sx_Ct), ex_mt mi = some T2 → c' ∈ k9 mi → c'.1 < 0 → sx_Holds g zK hd_T T2 c') {σ : am_S} {lw : List (Nat × Value)} {post : Option (Option Value) → am_S → Prop} (hM : sx_M zK hd_T σ 0 0 σ) (hl : (0, Value.ref 118) ∈ lw) {m2 : Int32} (hl2 : (2, Value.int m2) ∈ lw) (bl2 : 0 ≤ m2.toInt ∧ m2.toInt ≤ 1) {m3 : Int32} (hl3 : (3, Value.int m3) ∈ lw) (bl3 : 0 ≤ m3.toInt ∧ m3.toInt ≤ 1) {n0 : Int32} (bk0 : 0 ≤ n0.toInt ∧ n0.toInt ≤ 122) (cuta : ∀ (lw' : List (Nat × Value)) (m2' : Int32) (m3' : Int32) (σ' : am_S), (0, Value.ref 118) ∈ lw' → (2, Value.int m2') ∈ lw' → (3, Value.int m3') ∈ lw' → (97 ≤ 1 * n0.toInt + 0 ∧ 1 * n0.toInt + 0 ≤ 122) → (1 ≤ 1 * m2.toInt + 0 ∧ 1 * m2.toInt + 0 ≤ 1) → (1 ≤ 1 * m3'.toInt + 0 ∧ 1 * m3'.toInt + 0 ≤ 1) → (0 ≤ 1 * m2.toInt + ((-1) * m2'.toInt + 0) ∧ 1 * m2.toInt + ((-1) * m2'.toInt + 0) ≤ 0) → sx_M zK hd_T σ 0 0 σ' → am_K g 10 tX12_next.1 0 0 222 lw' [] σ' post) (cutb : ∀ (lw' : List (Nat × Value)) (m2' : Int32) (m3' : Int32) (σ' : am_S), (0, Value.ref 118) ∈ lw' → (2, Value.int m2') ∈ lw' → (3, Value.int m3') ∈ lw' → (97 ≤ 1 * n0.toInt + 0 ∧ 1 * n0.toInt + 0 ≤ 122) → (0 ≤ 1 * m2.toInt + 0 ∧ 1 * m2.toInt + 0 ≤ 0) → (0 ≤ 1 * m3'.toInt + 0 ∧ 1 * m3'.toInt + 0 ≤ 0) → (0 ≤ 1 * m2.toInt + ((-1) * m2'.toInt + 0) ∧ 1 * m2.toInt + ((-1) * m2'.toInt + 0) ≤ 0) → sx_M zK hd_T σ 0 0 σ' → am_K g 10 tX12_next.1 0 0 222 lw' [] σ' post) (cutc : ∀ (lw' : List (Nat × Value)) (m2' : Int32) (m3' : Int32) (σ' : am_S), (0, Value.ref 118) ∈ lw' → (2, Value.int m2') ∈ lw' → (3, Value.int m3') ∈ lw' → (0 ≤ 1 * n0.toInt + 0 ∧ 1 * n0.toInt + 0 ≤ 96) → (1 ≤ 1 * m2.toInt + 0 ∧ 1 * m2.toInt + 0 ≤ 1) → (0 ≤ 1 * m3'.toInt + 0 ∧ 1 * m3'.toInt + 0 ≤ 0) → (0 ≤ 1 * m2.toInt + ((-1) * m2'.toInt + 0) ∧ 1 * m2.toInt + ((-1) * m2'.toInt + 0) ≤ 0) → sx_M zK hd_T σ 0 0 σ' → am_K g 10 tX12_next.1 0 0 222 lw' [] σ' post) (cutd : ∀ (lw' : List (Nat × Value)) (m2' : Int32) (m3' : Int32) (σ' : am_S), (0, Value.ref 118) ∈ lw' → (2, Value.int m2') ∈ lw' → (3, Value.int m3') ∈ lw' → (0 ≤ 1 * n0.toInt + 0 ∧ 1 * n0.toInt + 0 ≤ 96) → (0 ≤ 1 * m2.toInt + 0 ∧ 1 * m2.toInt + 0 ≤ 0) → (1 ≤ 1 * m3'.toInt + 0 ∧ 1 * m3'.toInt + 0 ≤ 1) → (0 ≤ 1 * m2.toInt + ((-1) * m2'.toInt + 0) ∧ 1 * m2.toInt + ((-1) * m2'.toInt + 0) ≤ 0) → sx_M zK hd_T σ 0 0 σ' → am_K g 10 tX12_next.1 0 0 222 lw' [] σ' post) : am_K g 10 tX12_next.1 0 0 209 lw [.int n0] σ post := by
  refine sg_seg (sw := [.int n0]) (vs := [m2.toInt, m3.toInt]) (ws := [n0.toInt]) G (mi := 141) rfl hct sg_nx8_ok ⟨⟨m2, hl2, rfl⟩, ⟨⟨m3, hl3, rfl⟩, trivial⟩⟩ (hd_refs hl) ⟨⟨n0, rfl, rfl⟩, trivial⟩ (hd_p1 rfl bl2.1 bl2.2 (hd_p1 rfl bl3.1 bl3.2 (hd_p1 rfl bk0.1 bk0.2 hd_p0))) hM ?_ ?_
  · intro r σ' hq
    cases r with
    | none => exact hq.elim
    | some v =>
      obtain ⟨p, hp, hM2, ks, hk, hv⟩ := hq
      cases hp
  · intro u hu
    simp only [List.mem_cons, List.not_mem_nil, or_false] at hu
    rcases hu with rfl | rfl | rfl | rfl
    · intro lw' sw' vs' ws' σ' ⟨h1_0, h2, h3_0, h4, h5⟩
      obtain ⟨m2', vs1, rfl, hm2, h1_1⟩ := hd_srcl h1_0
      obtain ⟨m3', vs2, rfl, hm3, h1_2⟩ := hd_srcl h1_1
      obtain rfl := hd_src0 h1_2
      obtain ⟨rfl, rfl⟩ := hd_st0 h3_0
      have hr9 := hd_ref0 h2
      obtain ⟨v0, e0, l0, u0⟩ := h4 _ (List.mem_cons_self)
      have g0 : 1 * n0.toInt + 0 = v0 := Option.some.inj e0
      obtain ⟨v1, e1, l1, u1⟩ := h4 _ (List.mem_cons_of_mem _ (List.mem_cons_self))
      have g1 : 1 * m2.toInt + 0 = v1 := Option.some.inj e1
      obtain ⟨v2, e2, l2, u2⟩ := h4 _ (List.mem_cons_of_mem _ (List.mem_cons_of_mem _ (List.mem_cons_self)))
      have g2 : 1 * m3'.toInt + 0 = v2 := Option.some.inj e2
      obtain ⟨v3, e3, l3, u3⟩ := h4 _ (List.mem_cons_of_mem _ (List.mem_cons_of_mem _ (List.mem_cons_of_mem _ (List.mem_cons_self))))
      have g3 : 1 * m2.toInt + ((-1) * m2'.toInt + 0) = v3 := Option.some.inj e3
      exact cuta _ _ _ _ hr9 hm2 hm3 ⟨by rw [g0]; exact l0, by rw [g0]; exact u0⟩ ⟨by rw [g1]; exact l1, by rw [g1]; exact u1⟩ ⟨by rw [g2]; exact l2, by rw [g2]; exact u2⟩ ⟨by rw [g3]; exact l3, by rw [g3]; exact u3⟩ h5
    · intro lw' sw' vs' ws' σ' ⟨h1_0, h2, h3_0, h4, h5⟩
      obtain ⟨m2', vs1, rfl, hm2, h1_1⟩ := hd_srcl h1_0
      obtain ⟨m3', vs2, rfl, hm3, h1_2⟩ := hd_srcl h1_1
      obtain rfl := hd_src0 h1_2
      obtain ⟨rfl, rfl⟩ := hd_st0 h3_0
      have hr9 := hd_ref0 h2
      obtain ⟨v0, e0, l0, u0⟩ := h4 _ (List.mem_cons_self)
      have g0 : 1 * n0.toInt + 0 = v0 := Option.some.inj e0
      obtain ⟨v1, e1, l1, u1⟩ := h4 _ (List.mem_cons_of_mem _ (List.mem_cons_self))
      have g1 : 1 * m2.toInt + 0 = v1 := Option.some.inj e1
      obtain ⟨v2, e2, l2, u2⟩ := h4 _ (List.mem_cons_of_mem _ (List.mem_cons_of_mem _ (List.mem_cons_self)))
      have g2 : 1 * m3'.toInt + 0 = v2 := Option.some.inj e2
      obtain ⟨v3, e3, l3, u3⟩ := h4 _ (List.mem_cons_of_mem _ (List.mem_cons_of_mem _ (List.mem_cons_of_mem _ (List.mem_cons_self))))
      have g3 : 1 * m2.toInt + ((-1) * m2'.toInt + 0) = v3 := Option.some.inj e3
      exact cutb _ _ _ _ hr9 hm2 hm3 ⟨by rw [g0]; exact l0, by rw [g0]; exact u0⟩ ⟨by rw [g1]; exact l1, by rw [g1]; exact u1⟩ ⟨by rw [g2]; exact l2, by rw [g2]; exact u2⟩ ⟨by rw [g3]; exact l3, by rw [g3]; exact u3⟩ h5
    · intro lw' sw' vs' ws' σ' ⟨h1_0, h2, h3_0, h4, h5⟩
      obtain ⟨m2', vs1, rfl, hm2, h1_1⟩ := hd_srcl h1_0
      obtain ⟨m3', vs2, rfl, hm3, h1_2⟩ := hd_srcl h1_1
      obtain rfl := hd_src0 h1_2
      obtain ⟨rfl, rfl⟩ := hd_st0 h3_0
      have hr9 := hd_ref0 h2
      obtain ⟨v0, e0, l0, u0⟩ := h4 _ (List.mem_cons_self)
      have g0 : 1 * n0.toInt + 0 = v0 := Option.some.inj e0
      obtain ⟨v1, e1, l1, u1⟩ := h4 _ (List.mem_cons_of_mem _ (List.mem_cons_self))
      have g1 : 1 * m2.toInt + 0 = v1 := Option.some.inj e1
      obtain ⟨v2, e2, l2, u2⟩ := h4 _ (List.mem_cons_of_mem _ (List.mem_cons_of_mem _ (List.mem_cons_self)))
      have g2 : 1 * m3'.toInt + 0 = v2 := Option.some.inj e2
      obtain ⟨v3, e3, l3, u3⟩ := h4 _ (List.mem_cons_of_mem _ (List.mem_cons_of_mem _ (List.mem_cons_of_mem _ (List.mem_cons_self))))
      have g3 : 1 * m2.toInt + ((-1) * m2'.toInt + 0) = v3 := Option.some.inj e3
      exact cutc _ _ _ _ hr9 hm2 hm3 ⟨by rw [g0]; exact l0, by rw [g0]; exact u0⟩ ⟨by rw [g1]; exact l1, by rw [g1]; exact u1⟩ ⟨by rw [g2]; exact l2, by rw [g2]; exact u2⟩ ⟨by rw [g3]; exact l3, by rw [g3]; exact u3⟩ h5
    · intro lw' sw' vs' ws' σ' ⟨h1_0, h2, h3_0, h4, h5⟩
      obtain ⟨m2', vs1, rfl, hm2, h1_1⟩ := hd_srcl h1_0
      obtain ⟨m3', vs2, rfl, hm3, h1_2⟩ := hd_srcl h1_1
      obtain rfl := hd_src0 h1_2
      obtain ⟨rfl, rfl⟩ := hd_st0 h3_0
      have hr9 := hd_ref0 h2
      obtain ⟨v0, e0, l0, u0⟩ := h4 _ (List.mem_cons_self)
      have g0 : 1 * n0.toInt + 0 = v0 := Option.some.inj e0
      obtain ⟨v1, e1, l1, u1⟩ := h4 _ (List.mem_cons_of_mem _ (List.mem_cons_self))
      have g1 : 1 * m2.toInt + 0 = v1 := Option.some.inj e1
      obtain ⟨v2, e2, l2, u2⟩ := h4 _ (List.mem_cons_of_mem _ (List.mem_cons_of_mem _ (List.mem_cons_self)))
      have g2 : 1 * m3'.toInt + 0 = v2 := Option.some.inj e2
      obtain ⟨v3, e3, l3, u3⟩ := h4 _ (List.mem_cons_of_mem _ (List.mem_cons_of_mem _ (List.mem_cons_of_mem _ (List.mem_cons_self))))
      have g3 : 1 * m2.toInt + ((-1) * m2'.toInt + 0) = v3 := Option.some.inj e3
      exact cutd _ _ _ _ hr9 hm2 hm3 ⟨by rw [g0]; exact l0, by rw [g0]; exact u0⟩ ⟨by rw [g1]; exact l1, by rw [g1]; exact u1⟩ ⟨by rw [g2]; exact l2, by rw [g2]; exact u2⟩ ⟨by rw [g3]; exact l3, by rw [g3]; exact u3⟩ h5
theorem sg_nx9_run (G : sx_G0 g L xs zK hd_T ex_mt) (hct : ∀ (mi : Nat) (T2 : ex_T) (c' : sx_Ct), ex_mt mi = some T2 → c' ∈ k9 mi → c'.1 < 0 → sx_Holds g zK hd_T T2 c') {σ : am_S} {lw : List (Nat × Value)} {post : Option (Option Value) → am_S → Prop} (hM : sx_M zK hd_T σ 0 0 σ) (hl : (0, Value.ref 118) ∈ lw) {m2 : Int32} (hl2 : (2, Value.int m2) ∈ lw) (bl2 : 0 ≤ m2.toInt ∧ m2.toInt ≤ 1) {m3 : Int32} (hl3 : (3, Value.int m3) ∈ lw) (bl3 : 0 ≤ m3.toInt ∧ m3.toInt ≤ 1) (cuta : ∀ (lw' : List (Nat × Value)) (m2' : Int32) (m3' : Int32) (σ' : am_S), (0, Value.ref 118) ∈ lw' → (2, Value.int m2') ∈ lw' → (3, Value.int m3') ∈ lw' → ((-2147483648) ≤ 1 * (σ.2.1 118 11).toInt + 0 ∧ 1 * (σ.2.1 118 11).toInt + 0 ≤ 6) → (0 ≤ 1 * m2.toInt + ((-1) * m2'.toInt + 0) ∧ 1 * m2.toInt + ((-1) * m2'.toInt + 0) ≤ 0) → (0 ≤ 1 * m3.toInt + ((-1) * m3'.toInt + 0) ∧ 1 * m3.toInt + ((-1) * m3'.toInt + 0) ≤ 0) → sx_M zK hd_T σ 0 0 σ' → am_K g 10 tX12_next.1 0 0 231 lw' [] σ' post) (cutb : ∀ (lw' : List (Nat × Value)) (m2' : Int32) (m3' : Int32) (σ' : am_S), (0, Value.ref 118) ∈ lw' → (2, Value.int m2') ∈ lw' → (3, Value.int m3') ∈ lw' → (7 ≤ 1 * (σ.2.1 118 11).toInt + 0 ∧ 1 * (σ.2.1 118 11).toInt + 0 ≤ 2147483647) → (0 ≤ 1 * m2.toInt + ((-1) * m2'.toInt + 0) ∧ 1 * m2.toInt + ((-1) * m2'.toInt + 0) ≤ 0) → (0 ≤ 1 * m3.toInt + ((-1) * m3'.toInt + 0) ∧ 1 * m3.toInt + ((-1) * m3'.toInt + 0) ≤ 0) → sx_M zK hd_T σ 0 0 σ' → am_K g 10 tX12_next.1 0 0 248 lw' [] σ' post) : am_K g 10 tX12_next.1 0 0 222 lw [] σ post := by
  refine sg_seg (sw := []) (vs := [m2.toInt, m3.toInt, (σ.2.1 118 11).toInt]) (ws := []) G (mi := 141) rfl hct sg_nx9_ok ⟨⟨m2, hl2, rfl⟩, ⟨⟨m3, hl3, rfl⟩, ⟨rfl, trivial⟩⟩⟩ (hd_refs hl) trivial (hd_p1 rfl bl2.1 bl2.2 (hd_p1 rfl bl3.1 bl3.2 (hd_p1 rfl (hd_kd_118_11 hM).1 (hd_kd_118_11 hM).2 hd_p0))) hM ?_ ?_
  · intro r σ' hq
    cases r with
    | none => exact hq.elim
    | some v =>
      obtain ⟨p, hp, hM2, ks, hk, hv⟩ := hq
      cases hp
  · intro u hu
    simp only [List.mem_cons, List.not_mem_nil, or_false] at hu
    rcases hu with rfl | rfl
    · intro lw' sw' vs' ws' σ' ⟨h1_0, h2, h3_0, h4, h5⟩
      obtain ⟨m2', vs1, rfl, hm2, h1_1⟩ := hd_srcl h1_0
      obtain ⟨m3', vs2, rfl, hm3, h1_2⟩ := hd_srcl h1_1
      obtain rfl := hd_src0 h1_2
      obtain ⟨rfl, rfl⟩ := hd_st0 h3_0
      have hr9 := hd_ref0 h2
      obtain ⟨v0, e0, l0, u0⟩ := h4 _ (List.mem_cons_self)
      have g0 : 1 * (σ.2.1 118 11).toInt + 0 = v0 := Option.some.inj e0
      obtain ⟨v1, e1, l1, u1⟩ := h4 _ (List.mem_cons_of_mem _ (List.mem_cons_self))
      have g1 : 1 * m2.toInt + ((-1) * m2'.toInt + 0) = v1 := Option.some.inj e1
      obtain ⟨v2, e2, l2, u2⟩ := h4 _ (List.mem_cons_of_mem _ (List.mem_cons_of_mem _ (List.mem_cons_self)))
      have g2 : 1 * m3.toInt + ((-1) * m3'.toInt + 0) = v2 := Option.some.inj e2
      exact cuta _ _ _ _ hr9 hm2 hm3 ⟨by rw [g0]; exact l0, by rw [g0]; exact u0⟩ ⟨by rw [g1]; exact l1, by rw [g1]; exact u1⟩ ⟨by rw [g2]; exact l2, by rw [g2]; exact u2⟩ h5
    · intro lw' sw' vs' ws' σ' ⟨h1_0, h2, h3_0, h4, h5⟩
      obtain ⟨m2', vs1, rfl, hm2, h1_1⟩ := hd_srcl h1_0
      obtain ⟨m3', vs2, rfl, hm3, h1_2⟩ := hd_srcl h1_1
      obtain rfl := hd_src0 h1_2
      obtain ⟨rfl, rfl⟩ := hd_st0 h3_0
      have hr9 := hd_ref0 h2
      obtain ⟨v0, e0, l0, u0⟩ := h4 _ (List.mem_cons_self)
      have g0 : 1 * (σ.2.1 118 11).toInt + 0 = v0 := Option.some.inj e0
      obtain ⟨v1, e1, l1, u1⟩ := h4 _ (List.mem_cons_of_mem _ (List.mem_cons_self))
      have g1 : 1 * m2.toInt + ((-1) * m2'.toInt + 0) = v1 := Option.some.inj e1
      obtain ⟨v2, e2, l2, u2⟩ := h4 _ (List.mem_cons_of_mem _ (List.mem_cons_of_mem _ (List.mem_cons_self)))
      have g2 : 1 * m3.toInt + ((-1) * m3'.toInt + 0) = v2 := Option.some.inj e2
      exact cutb _ _ _ _ hr9 hm2 hm3 ⟨by rw [g0]; exact l0, by rw [g0]; exact u0⟩ ⟨by rw [g1]; exact l1, by rw [g1]; exact u1⟩ ⟨by rw [g2]; exact l2, by rw [g2]; exact u2⟩ h5
theorem sg_nxa_run (G : sx_G0 g L xs zK hd_T ex_mt) (hct : ∀ (mi : Nat) (T2 : ex_T) (c' : sx_Ct), ex_mt mi = some T2 → c' ∈ k9 mi → c'.1 < 0 → sx_Holds g zK hd_T T2 c') {σ : am_S} {lw : List (Nat × Value)} {post : Option (Option Value) → am_S → Prop} (hM : sx_M zK hd_T σ 0 0 σ) (hl : (0, Value.ref 118) ∈ lw) {m2 : Int32} (hl2 : (2, Value.int m2) ∈ lw) (bl2 : 0 ≤ m2.toInt ∧ m2.toInt ≤ 1) {m3 : Int32} (hl3 : (3, Value.int m3) ∈ lw) (bl3 : 0 ≤ m3.toInt ∧ m3.toInt ≤ 1) (bp118_12 : 0 ≤ (σ.2.1 118 12).toInt ∧ (σ.2.1 118 12).toInt ≤ 9999) (cuta : ∀ (lw' : List (Nat × Value)) (m2' : Int32) (m3' : Int32) (n0' : Int32) (σ' : am_S), (0, Value.ref 118) ∈ lw' → (2, Value.int m2') ∈ lw' → (3, Value.int m3') ∈ lw' → ((-2147483648) ≤ 1 * (σ.2.1 118 11).toInt + 0 ∧ 1 * (σ.2.1 118 11).toInt + 0 ≤ 2) → (0 ≤ 10 * (σ.2.1 118 12).toInt + ((-1) * n0'.toInt + 0) ∧ 10 * (σ.2.1 118 12).toInt + ((-1) * n0'.toInt + 0) ≤ 0) → (0 ≤ 1 * m2.toInt + ((-1) * m2'.toInt + 0) ∧ 1 * m2.toInt + ((-1) * m2'.toInt + 0) ≤ 0) → (0 ≤ 1 * m3.toInt + ((-1) * m3'.toInt + 0) ∧ 1 * m3.toInt + ((-1) * m3'.toInt + 0) ≤ 0) → sx_M zK hd_T σ 0 0 σ' → am_K g 10 tX12_next.1 0 0 265 lw' [.ref 118, .int n0', .ref 118] σ' post) (cutb : ∀ (lw' : List (Nat × Value)) (m2' : Int32) (m3' : Int32) (σ' : am_S), (0, Value.ref 118) ∈ lw' → (2, Value.int m2') ∈ lw' → (3, Value.int m3') ∈ lw' → (3 ≤ 1 * (σ.2.1 118 11).toInt + 0 ∧ 1 * (σ.2.1 118 11).toInt + 0 ≤ 2147483647) → (0 ≤ 1 * m2.toInt + ((-1) * m2'.toInt + 0) ∧ 1 * m2.toInt + ((-1) * m2'.toInt + 0) ≤ 0) → (0 ≤ 1 * m3.toInt + ((-1) * m3'.toInt + 0) ∧ 1 * m3.toInt + ((-1) * m3'.toInt + 0) ≤ 0) → sx_M zK hd_T σ 0 0 σ' → am_K g 10 tX12_next.1 0 0 275 lw' [] σ' post) : am_K g 10 tX12_next.1 0 0 248 lw [] σ post := by
  refine sg_seg (sw := []) (vs := [m2.toInt, m3.toInt, (σ.2.1 118 11).toInt, (σ.2.1 118 12).toInt]) (ws := []) G (mi := 141) rfl hct sg_nxa_ok ⟨⟨m2, hl2, rfl⟩, ⟨⟨m3, hl3, rfl⟩, ⟨rfl, ⟨rfl, trivial⟩⟩⟩⟩ (hd_refs hl) trivial (hd_p1 rfl bl2.1 bl2.2 (hd_p1 rfl bl3.1 bl3.2 (hd_p1 rfl (hd_kd_118_11 hM).1 (hd_kd_118_11 hM).2 (hd_p1 rfl bp118_12.1 bp118_12.2 hd_p0)))) hM ?_ ?_
  · intro r σ' hq
    cases r with
    | none => exact hq.elim
    | some v =>
      obtain ⟨p, hp, hM2, ks, hk, hv⟩ := hq
      cases hp
  · intro u hu
    simp only [List.mem_cons, List.not_mem_nil, or_false] at hu
    rcases hu with rfl | rfl
    · intro lw' sw' vs' ws' σ' ⟨h1_0, h2, h3_0, h4, h5⟩
      obtain ⟨m2', vs1, rfl, hm2, h1_1⟩ := hd_srcl h1_0
      obtain ⟨m3', vs2, rfl, hm3, h1_2⟩ := hd_srcl h1_1
      obtain rfl := hd_src0 h1_2
      obtain ⟨sw1, rfl, h3_1⟩ := hd_str h3_0
      obtain ⟨n0', sw2, ws2, rfl, rfl, h3_2⟩ := hd_sti h3_1
      obtain ⟨sw3, rfl, h3_3⟩ := hd_str h3_2
      obtain ⟨rfl, rfl⟩ := hd_st0 h3_3
      have hr9 := hd_ref0 h2
      obtain ⟨v0, e0, l0, u0⟩ := h4 _ (List.mem_cons_self)
      have g0 : 1 * (σ.2.1 118 11).toInt + 0 = v0 := Option.some.inj e0
      obtain ⟨v1, e1, l1, u1⟩ := h4 _ (List.mem_cons_of_mem _ (List.mem_cons_self))
      have g1 : 10 * (σ.2.1 118 12).toInt + ((-1) * n0'.toInt + 0) = v1 := Option.some.inj e1
      obtain ⟨v2, e2, l2, u2⟩ := h4 _ (List.mem_cons_of_mem _ (List.mem_cons_of_mem _ (List.mem_cons_self)))
      have g2 : 1 * m2.toInt + ((-1) * m2'.toInt + 0) = v2 := Option.some.inj e2
      obtain ⟨v3, e3, l3, u3⟩ := h4 _ (List.mem_cons_of_mem _ (List.mem_cons_of_mem _ (List.mem_cons_of_mem _ (List.mem_cons_self))))
      have g3 : 1 * m3.toInt + ((-1) * m3'.toInt + 0) = v3 := Option.some.inj e3
      exact cuta _ _ _ _ _ hr9 hm2 hm3 ⟨by rw [g0]; exact l0, by rw [g0]; exact u0⟩ ⟨by rw [g1]; exact l1, by rw [g1]; exact u1⟩ ⟨by rw [g2]; exact l2, by rw [g2]; exact u2⟩ ⟨by rw [g3]; exact l3, by rw [g3]; exact u3⟩ h5
    · intro lw' sw' vs' ws' σ' ⟨h1_0, h2, h3_0, h4, h5⟩
      obtain ⟨m2', vs1, rfl, hm2, h1_1⟩ := hd_srcl h1_0
      obtain ⟨m3', vs2, rfl, hm3, h1_2⟩ := hd_srcl h1_1
      obtain rfl := hd_src0 h1_2
      obtain ⟨rfl, rfl⟩ := hd_st0 h3_0
      have hr9 := hd_ref0 h2
      obtain ⟨v0, e0, l0, u0⟩ := h4 _ (List.mem_cons_self)
      have g0 : 1 * (σ.2.1 118 11).toInt + 0 = v0 := Option.some.inj e0
      obtain ⟨v1, e1, l1, u1⟩ := h4 _ (List.mem_cons_of_mem _ (List.mem_cons_self))
      have g1 : 1 * m2.toInt + ((-1) * m2'.toInt + 0) = v1 := Option.some.inj e1
      obtain ⟨v2, e2, l2, u2⟩ := h4 _ (List.mem_cons_of_mem _ (List.mem_cons_of_mem _ (List.mem_cons_self)))
      have g2 : 1 * m3.toInt + ((-1) * m3'.toInt + 0) = v2 := Option.some.inj e2
      exact cutb _ _ _ _ hr9 hm2 hm3 ⟨by rw [g0]; exact l0, by rw [g0]; exact u0⟩ ⟨by rw [g1]; exact l1, by rw [g1]; exact u1⟩ ⟨by rw [g2]; exact l2, by rw [g2]; exact u2⟩ h5
theorem sg_nxb_run (G : sx_G0 g L xs zK hd_T ex_mt) (hct : ∀ (mi : Nat) (T2 : ex_T) (c' : sx_Ct), ex_mt mi = some T2 → c' ∈ k9 mi → c'.1 < 0 → sx_Holds g zK hd_T T2 c') {σ : am_S} {lw : List (Nat × Value)} {post : Option (Option Value) → am_S → Prop} (hM : sx_M zK hd_T σ 0 0 σ) (hl : (0, Value.ref 118) ∈ lw) {m2 : Int32} (hl2 : (2, Value.int m2) ∈ lw) (bl2 : 0 ≤ m2.toInt ∧ m2.toInt ≤ 1) {m3 : Int32} (hl3 : (3, Value.int m3) ∈ lw) (bl3 : 0 ≤ m3.toInt ∧ m3.toInt ≤ 1) {n0 : Int32} (bk0 : 0 ≤ n0.toInt ∧ n0.toInt ≤ 255) {n1 : Int32} (bk1 : 0 ≤ n1.toInt ∧ n1.toInt ≤ 99990) (cuta : ∀ (lw' : List (Nat × Value)) (m2' : Int32) (m3' : Int32) (σ' : am_S), (0, Value.ref 118) ∈ lw' → (2, Value.int m2') ∈ lw' → (3, Value.int m3') ∈ lw' → (48 ≤ 1 * n0.toInt + (1 * n1.toInt + ((-1) * (σ'.2.1 118 12).toInt + 0)) ∧ 1 * n0.toInt + (1 * n1.toInt + ((-1) * (σ'.2.1 118 12).toInt + 0)) ≤ 48) → (0 ≤ 1 * m2.toInt + ((-1) * m2'.toInt + 0) ∧ 1 * m2.toInt + ((-1) * m2'.toInt + 0) ≤ 0) → (0 ≤ 1 * m3.toInt + ((-1) * m3'.toInt + 0) ∧ 1 * m3.toInt + ((-1) * m3'.toInt + 0) ≤ 0) → sx_M zK hd_T σ 4809815209520810450717656262224562232065397860164239095208531909697964083434718092213655548692006303809402830848 0 σ' → am_K g 10 tX12_next.1 0 0 275 lw' [] σ' post) : am_K g 10 tX12_next.1 0 0 268 lw [.int n0, .int n1, .ref 118] σ post := by
  refine sg_seg (sw := [.int n0, .int n1, .ref 118]) (vs := [m2.toInt, m3.toInt]) (ws := [n0.toInt, n1.toInt]) G (mi := 141) rfl hct sg_nxb_ok ⟨⟨m2, hl2, rfl⟩, ⟨⟨m3, hl3, rfl⟩, trivial⟩⟩ (hd_refs hl) ⟨⟨n0, rfl, rfl⟩, ⟨⟨n1, rfl, rfl⟩, ⟨rfl, trivial⟩⟩⟩ (hd_p1 rfl bl2.1 bl2.2 (hd_p1 rfl bl3.1 bl3.2 (hd_p1 rfl bk0.1 bk0.2 (hd_p1 rfl bk1.1 bk1.2 hd_p0)))) hM ?_ ?_
  · intro r σ' hq
    cases r with
    | none => exact hq.elim
    | some v =>
      obtain ⟨p, hp, hM2, ks, hk, hv⟩ := hq
      cases hp
  · intro u hu
    simp only [List.mem_cons, List.not_mem_nil, or_false] at hu
    rcases hu with rfl
    · intro lw' sw' vs' ws' σ' ⟨h1_0, h2, h3_0, h4, h5⟩
      obtain ⟨m2', vs1, rfl, hm2, h1_1⟩ := hd_srcl h1_0
      obtain ⟨m3', vs2, rfl, hm3, h1_2⟩ := hd_srcl h1_1
      obtain ⟨vs3, rfl, h1_3⟩ := hd_srcs h1_2
      obtain rfl := hd_src0 h1_3
      obtain ⟨rfl, rfl⟩ := hd_st0 h3_0
      have hr9 := hd_ref0 h2
      obtain ⟨v0, e0, l0, u0⟩ := h4 _ (List.mem_cons_self)
      have g0 : 1 * n0.toInt + (1 * n1.toInt + ((-1) * (σ'.2.1 118 12).toInt + 0)) = v0 := Option.some.inj e0
      obtain ⟨v1, e1, l1, u1⟩ := h4 _ (List.mem_cons_of_mem _ (List.mem_cons_self))
      have g1 : 1 * m2.toInt + ((-1) * m2'.toInt + 0) = v1 := Option.some.inj e1
      obtain ⟨v2, e2, l2, u2⟩ := h4 _ (List.mem_cons_of_mem _ (List.mem_cons_of_mem _ (List.mem_cons_self)))
      have g2 : 1 * m3.toInt + ((-1) * m3'.toInt + 0) = v2 := Option.some.inj e2
      exact cuta _ _ _ _ hr9 hm2 hm3 ⟨by rw [g0]; exact l0, by rw [g0]; exact u0⟩ ⟨by rw [g1]; exact l1, by rw [g1]; exact u1⟩ ⟨by rw [g2]; exact l2, by rw [g2]; exact u2⟩ h5
theorem sg_nxc_run (G : sx_G0 g L xs zK hd_T ex_mt) (hct : ∀ (mi : Nat) (T2 : ex_T) (c' : sx_Ct), ex_mt mi = some T2 → c' ∈ k9 mi → c'.1 < 0 → sx_Holds g zK hd_T T2 c') {σ : am_S} {lw : List (Nat × Value)} {post : Option (Option Value) → am_S → Prop} (hM : sx_M zK hd_T σ 0 0 σ) (hl : (0, Value.ref 118) ∈ lw) {m2 : Int32} (hl2 : (2, Value.int m2) ∈ lw) (bl2 : 0 ≤ m2.toInt ∧ m2.toInt ≤ 1) {m3 : Int32} (hl3 : (3, Value.int m3) ∈ lw) (bl3 : 0 ≤ m3.toInt ∧ m3.toInt ≤ 1) (bp118_11 : 0 ≤ (σ.2.1 118 11).toInt ∧ (σ.2.1 118 11).toInt ≤ 939) (bp118_4 : 0 ≤ (σ.2.1 118 4).toInt ∧ (σ.2.1 118 4).toInt ≤ 939) (cuta : ∀ (lw' : List (Nat × Value)) (m2' : Int32) (m3' : Int32) (σ' : am_S), (0, Value.ref 118) ∈ lw' → (2, Value.int m2') ∈ lw' → (3, Value.int m3') ∈ lw' → (0 ≤ 1 * m2.toInt + ((-1) * m2'.toInt + 0) ∧ 1 * m2.toInt + ((-1) * m2'.toInt + 0) ≤ 0) → (0 ≤ 1 * m3.toInt + ((-1) * m3'.toInt + 0) ∧ 1 * m3.toInt + ((-1) * m3'.toInt + 0) ≤ 0) → ((-1) ≤ 1 * (σ.2.1 118 11).toInt + ((-1) * (σ'.2.1 118 11).toInt + 0) ∧ 1 * (σ.2.1 118 11).toInt + ((-1) * (σ'.2.1 118 11).toInt + 0) ≤ (-1)) → ((-1) ≤ 1 * (σ.2.1 118 4).toInt + ((-1) * (σ'.2.1 118 4).toInt + 0) ∧ 1 * (σ.2.1 118 4).toInt + ((-1) * (σ'.2.1 118 4).toInt + 0) ≤ (-1)) → sx_M zK hd_T σ 2423695945422595891181943975886595812251704390473386106569924282621239713918275913654537366333081301528956895232 0 σ' → am_K g 10 tX12_next.1 0 0 182 lw' [.ref 118] σ' post) : am_K g 10 tX12_next.1 0 0 275 lw [] σ post := by
  refine sg_seg (sw := []) (vs := [m2.toInt, m3.toInt, (σ.2.1 118 11).toInt, (σ.2.1 118 4).toInt]) (ws := []) G (mi := 141) rfl hct sg_nxc_ok ⟨⟨m2, hl2, rfl⟩, ⟨⟨m3, hl3, rfl⟩, ⟨rfl, ⟨rfl, trivial⟩⟩⟩⟩ (hd_refs hl) trivial (hd_p1 rfl bl2.1 bl2.2 (hd_p1 rfl bl3.1 bl3.2 (hd_p1 rfl bp118_11.1 bp118_11.2 (hd_p1 rfl bp118_4.1 bp118_4.2 hd_p0)))) hM ?_ ?_
  · intro r σ' hq
    cases r with
    | none => exact hq.elim
    | some v =>
      obtain ⟨p, hp, hM2, ks, hk, hv⟩ := hq
      cases hp
  · intro u hu
    simp only [List.mem_cons, List.not_mem_nil, or_false] at hu
    rcases hu with rfl
    · intro lw' sw' vs' ws' σ' ⟨h1_0, h2, h3_0, h4, h5⟩
      obtain ⟨m2', vs1, rfl, hm2, h1_1⟩ := hd_srcl h1_0
      obtain ⟨m3', vs2, rfl, hm3, h1_2⟩ := hd_srcl h1_1
      obtain ⟨vs3, rfl, h1_3⟩ := hd_srcs h1_2
      obtain ⟨vs4, rfl, h1_4⟩ := hd_srcs h1_3
      obtain rfl := hd_src0 h1_4
      obtain ⟨sw1, rfl, h3_1⟩ := hd_str h3_0
      obtain ⟨rfl, rfl⟩ := hd_st0 h3_1
      have hr9 := hd_ref0 h2
      obtain ⟨v0, e0, l0, u0⟩ := h4 _ (List.mem_cons_self)
      have g0 : 1 * m2.toInt + ((-1) * m2'.toInt + 0) = v0 := Option.some.inj e0
      obtain ⟨v1, e1, l1, u1⟩ := h4 _ (List.mem_cons_of_mem _ (List.mem_cons_self))
      have g1 : 1 * m3.toInt + ((-1) * m3'.toInt + 0) = v1 := Option.some.inj e1
      obtain ⟨v2, e2, l2, u2⟩ := h4 _ (List.mem_cons_of_mem _ (List.mem_cons_of_mem _ (List.mem_cons_self)))
      have g2 : 1 * (σ.2.1 118 11).toInt + ((-1) * (σ'.2.1 118 11).toInt + 0) = v2 := Option.some.inj e2
      obtain ⟨v3, e3, l3, u3⟩ := h4 _ (List.mem_cons_of_mem _ (List.mem_cons_of_mem _ (List.mem_cons_of_mem _ (List.mem_cons_self))))
      have g3 : 1 * (σ.2.1 118 4).toInt + ((-1) * (σ'.2.1 118 4).toInt + 0) = v3 := Option.some.inj e3
      exact cuta _ _ _ _ hr9 hm2 hm3 ⟨by rw [g0]; exact l0, by rw [g0]; exact u0⟩ ⟨by rw [g1]; exact l1, by rw [g1]; exact u1⟩ ⟨by rw [g2]; exact l2, by rw [g2]; exact u2⟩ ⟨by rw [g3]; exact l3, by rw [g3]; exact u3⟩ h5
theorem sg_nxd_run (G : sx_G0 g L xs zK hd_T ex_mt) (hct : ∀ (mi : Nat) (T2 : ex_T) (c' : sx_Ct), ex_mt mi = some T2 → c' ∈ k9 mi → c'.1 < 0 → sx_Holds g zK hd_T T2 c') {σ : am_S} {lw : List (Nat × Value)} {post : Option (Option Value) → am_S → Prop} (hM : sx_M zK hd_T σ 0 0 σ) (hl : (0, Value.ref 118) ∈ lw) {m2 : Int32} (hl2 : (2, Value.int m2) ∈ lw) (bl2 : 0 ≤ m2.toInt ∧ m2.toInt ≤ 1) {m3 : Int32} (hl3 : (3, Value.int m3) ∈ lw) (bl3 : 0 ≤ m3.toInt ∧ m3.toInt ≤ 1) (ret0 : ∀ (σ' : am_S), (0 ≤ 1 * m3.toInt + 0 ∧ 1 * m3.toInt + 0 ≤ 0) → (4 ≤ 1 * (σ'.2.1 118 9).toInt + 0 ∧ 1 * (σ'.2.1 118 9).toInt + 0 ≤ 4) → sx_M zK hd_T σ 601226901190101306339707032778070279008174732520529886901066488712245510429339761526706943586500787976175353856 0 σ' → post (some none) σ') (ret1 : ∀ (σ' : am_S), (1 ≤ 1 * m3.toInt + 0 ∧ 1 * m3.toInt + 0 ≤ 1) → (1 ≤ 1 * m2.toInt + 0 ∧ 1 * m2.toInt + 0 ≤ 1) → (8 ≤ 1 * (σ.2.1 118 11).toInt + 0 ∧ 1 * (σ.2.1 118 11).toInt + 0 ≤ 2147483647) → (4 ≤ 1 * (σ'.2.1 118 9).toInt + 0 ∧ 1 * (σ'.2.1 118 9).toInt + 0 ≤ 4) → sx_M zK hd_T σ 601226901190101306339707032778070279008174732520529886901066488712245510429339761526706943586500787976175353856 0 σ' → post (some none) σ') (ret2 : ∀ (σ' : am_S), (1 ≤ 1 * m3.toInt + 0 ∧ 1 * m3.toInt + 0 ≤ 1) → (0 ≤ 1 * m2.toInt + 0 ∧ 1 * m2.toInt + 0 ≤ 0) → (4 ≤ 1 * (σ.2.1 118 11).toInt + 0 ∧ 1 * (σ.2.1 118 11).toInt + 0 ≤ 2147483647) → (4 ≤ 1 * (σ'.2.1 118 9).toInt + 0 ∧ 1 * (σ'.2.1 118 9).toInt + 0 ≤ 4) → sx_M zK hd_T σ 601226901190101306339707032778070279008174732520529886901066488712245510429339761526706943586500787976175353856 0 σ' → post (some none) σ') (ret3 : ∀ (σ' : am_S), (1 ≤ 1 * m3.toInt + 0 ∧ 1 * m3.toInt + 0 ≤ 1) → (1 ≤ 1 * m2.toInt + 0 ∧ 1 * m2.toInt + 0 ≤ 1) → ((-2147483648) ≤ 1 * (σ.2.1 118 11).toInt + 0 ∧ 1 * (σ.2.1 118 11).toInt + 0 ≤ 7) → (1 ≤ 1 * (σ'.2.1 118 9).toInt + 0 ∧ 1 * (σ'.2.1 118 9).toInt + 0 ≤ 1) → sx_M zK hd_T σ 601226901190101306339707032778070279008174732520529886901066488712245510429339761526706943586500787976175353856 0 σ' → post (some none) σ') (ret4 : ∀ (σ' : am_S), (1 ≤ 1 * m3.toInt + 0 ∧ 1 * m3.toInt + 0 ≤ 1) → (0 ≤ 1 * m2.toInt + 0 ∧ 1 * m2.toInt + 0 ≤ 0) → ((-2147483648) ≤ 1 * (σ.2.1 118 11).toInt + 0 ∧ 1 * (σ.2.1 118 11).toInt + 0 ≤ 3) → (2 ≤ 1 * (σ'.2.1 118 9).toInt + 0 ∧ 1 * (σ'.2.1 118 9).toInt + 0 ≤ 2) → sx_M zK hd_T σ 601226901190101306339707032778070279008174732520529886901066488712245510429339761526706943586500787976175353856 0 σ' → post (some none) σ') : am_K g 10 tX12_next.1 0 0 298 lw [] σ post := by
  refine sg_seg (sw := []) (vs := [m2.toInt, m3.toInt, (σ.2.1 118 11).toInt]) (ws := []) G (mi := 141) rfl hct sg_nxd_ok ⟨⟨m2, hl2, rfl⟩, ⟨⟨m3, hl3, rfl⟩, ⟨rfl, trivial⟩⟩⟩ (hd_refs hl) trivial (hd_p1 rfl bl2.1 bl2.2 (hd_p1 rfl bl3.1 bl3.2 (hd_p1 rfl (hd_kd_118_11 hM).1 (hd_kd_118_11 hM).2 hd_p0))) hM ?_ ?_
  · intro r σ' hq
    cases r with
    | none => exact hq.elim
    | some v =>
      obtain ⟨p, hp, hM2, ks, hk, hv⟩ := hq
      simp only [List.mem_cons, List.not_mem_nil, or_false] at hp
      rcases hp with rfl | rfl | rfl | rfl | rfl
      · obtain ⟨ks0, rfl, hk1⟩ := hd_keyc hk; obtain rfl := hd_keys hk1
        cases v with
        | some w9 => exact hv.elim
        | none =>
          have hP := hv
          obtain ⟨v0, e0, l0, u0⟩ := hP _ (List.mem_cons_self)
          have g0 : 1 * m3.toInt + 0 = v0 := Option.some.inj e0
          obtain ⟨v1, e1, l1, u1⟩ := hP _ (List.mem_cons_of_mem _ (List.mem_cons_self))
          have g1 : 1 * (σ'.2.1 118 9).toInt + 0 = v1 := Option.some.inj e1
          exact ret0 _ ⟨by rw [g0]; exact l0, by rw [g0]; exact u0⟩ ⟨by rw [g1]; exact l1, by rw [g1]; exact u1⟩ hM2
      · obtain ⟨ks0, rfl, hk1⟩ := hd_keyc hk; obtain rfl := hd_keys hk1
        cases v with
        | some w9 => exact hv.elim
        | none =>
          have hP := hv
          obtain ⟨v0, e0, l0, u0⟩ := hP _ (List.mem_cons_self)
          have g0 : 1 * m3.toInt + 0 = v0 := Option.some.inj e0
          obtain ⟨v1, e1, l1, u1⟩ := hP _ (List.mem_cons_of_mem _ (List.mem_cons_self))
          have g1 : 1 * m2.toInt + 0 = v1 := Option.some.inj e1
          obtain ⟨v2, e2, l2, u2⟩ := hP _ (List.mem_cons_of_mem _ (List.mem_cons_of_mem _ (List.mem_cons_self)))
          have g2 : 1 * (σ.2.1 118 11).toInt + 0 = v2 := Option.some.inj e2
          obtain ⟨v3, e3, l3, u3⟩ := hP _ (List.mem_cons_of_mem _ (List.mem_cons_of_mem _ (List.mem_cons_of_mem _ (List.mem_cons_self))))
          have g3 : 1 * (σ'.2.1 118 9).toInt + 0 = v3 := Option.some.inj e3
          exact ret1 _ ⟨by rw [g0]; exact l0, by rw [g0]; exact u0⟩ ⟨by rw [g1]; exact l1, by rw [g1]; exact u1⟩ ⟨by rw [g2]; exact l2, by rw [g2]; exact u2⟩ ⟨by rw [g3]; exact l3, by rw [g3]; exact u3⟩ hM2
      · obtain ⟨ks0, rfl, hk1⟩ := hd_keyc hk; obtain rfl := hd_keys hk1
        cases v with
        | some w9 => exact hv.elim
        | none =>
          have hP := hv
          obtain ⟨v0, e0, l0, u0⟩ := hP _ (List.mem_cons_self)
          have g0 : 1 * m3.toInt + 0 = v0 := Option.some.inj e0
          obtain ⟨v1, e1, l1, u1⟩ := hP _ (List.mem_cons_of_mem _ (List.mem_cons_self))
          have g1 : 1 * m2.toInt + 0 = v1 := Option.some.inj e1
          obtain ⟨v2, e2, l2, u2⟩ := hP _ (List.mem_cons_of_mem _ (List.mem_cons_of_mem _ (List.mem_cons_self)))
          have g2 : 1 * (σ.2.1 118 11).toInt + 0 = v2 := Option.some.inj e2
          obtain ⟨v3, e3, l3, u3⟩ := hP _ (List.mem_cons_of_mem _ (List.mem_cons_of_mem _ (List.mem_cons_of_mem _ (List.mem_cons_self))))
          have g3 : 1 * (σ'.2.1 118 9).toInt + 0 = v3 := Option.some.inj e3
          exact ret2 _ ⟨by rw [g0]; exact l0, by rw [g0]; exact u0⟩ ⟨by rw [g1]; exact l1, by rw [g1]; exact u1⟩ ⟨by rw [g2]; exact l2, by rw [g2]; exact u2⟩ ⟨by rw [g3]; exact l3, by rw [g3]; exact u3⟩ hM2
      · obtain ⟨ks0, rfl, hk1⟩ := hd_keyc hk; obtain rfl := hd_keys hk1
        cases v with
        | some w9 => exact hv.elim
        | none =>
          have hP := hv
          obtain ⟨v0, e0, l0, u0⟩ := hP _ (List.mem_cons_self)
          have g0 : 1 * m3.toInt + 0 = v0 := Option.some.inj e0
          obtain ⟨v1, e1, l1, u1⟩ := hP _ (List.mem_cons_of_mem _ (List.mem_cons_self))
          have g1 : 1 * m2.toInt + 0 = v1 := Option.some.inj e1
          obtain ⟨v2, e2, l2, u2⟩ := hP _ (List.mem_cons_of_mem _ (List.mem_cons_of_mem _ (List.mem_cons_self)))
          have g2 : 1 * (σ.2.1 118 11).toInt + 0 = v2 := Option.some.inj e2
          obtain ⟨v3, e3, l3, u3⟩ := hP _ (List.mem_cons_of_mem _ (List.mem_cons_of_mem _ (List.mem_cons_of_mem _ (List.mem_cons_self))))
          have g3 : 1 * (σ'.2.1 118 9).toInt + 0 = v3 := Option.some.inj e3
          exact ret3 _ ⟨by rw [g0]; exact l0, by rw [g0]; exact u0⟩ ⟨by rw [g1]; exact l1, by rw [g1]; exact u1⟩ ⟨by rw [g2]; exact l2, by rw [g2]; exact u2⟩ ⟨by rw [g3]; exact l3, by rw [g3]; exact u3⟩ hM2
      · obtain ⟨ks0, rfl, hk1⟩ := hd_keyc hk; obtain rfl := hd_keys hk1
        cases v with
        | some w9 => exact hv.elim
        | none =>
          have hP := hv
          obtain ⟨v0, e0, l0, u0⟩ := hP _ (List.mem_cons_self)
          have g0 : 1 * m3.toInt + 0 = v0 := Option.some.inj e0
          obtain ⟨v1, e1, l1, u1⟩ := hP _ (List.mem_cons_of_mem _ (List.mem_cons_self))
          have g1 : 1 * m2.toInt + 0 = v1 := Option.some.inj e1
          obtain ⟨v2, e2, l2, u2⟩ := hP _ (List.mem_cons_of_mem _ (List.mem_cons_of_mem _ (List.mem_cons_self)))
          have g2 : 1 * (σ.2.1 118 11).toInt + 0 = v2 := Option.some.inj e2
          obtain ⟨v3, e3, l3, u3⟩ := hP _ (List.mem_cons_of_mem _ (List.mem_cons_of_mem _ (List.mem_cons_of_mem _ (List.mem_cons_self))))
          have g3 : 1 * (σ'.2.1 118 9).toInt + 0 = v3 := Option.some.inj e3
          exact ret4 _ ⟨by rw [g0]; exact l0, by rw [g0]; exact u0⟩ ⟨by rw [g1]; exact l1, by rw [g1]; exact u1⟩ ⟨by rw [g2]; exact l2, by rw [g2]; exact u2⟩ ⟨by rw [g3]; exact l3, by rw [g3]; exact u3⟩ hM2
  · intro u hu
    cases hu
theorem sg_tk1a_run (G : sx_G0 g L xs zK hd_T ex_mt) (hct : ∀ (mi : Nat) (T2 : ex_T) (c' : sx_Ct), ex_mt mi = some T2 → c' ∈ k9 mi → c'.1 < 0 → sx_Holds g zK hd_T T2 c') {σ : am_S} {lw : List (Nat × Value)} {post : Option (Option Value) → am_S → Prop} (hM : sx_M zK hd_T σ 0 0 σ) (hl : (0, Value.ref 118) ∈ lw) {m1 : Int32} (hl1 : (1, Value.int m1) ∈ lw) {m2 : Int32} (hl2 : (2, Value.int m2) ∈ lw) (bp118_9 : 0 ≤ (σ.2.1 118 9).toInt ∧ (σ.2.1 118 9).toInt ≤ 1) (ret0 : ∀ (r : Int32) (σ' : am_S), (0 ≤ 1 * r.toInt + 0 ∧ 1 * r.toInt + 0 ≤ 0) → (1 ≤ 1 * (σ'.2.1 118 13).toInt + 0 ∧ 1 * (σ'.2.1 118 13).toInt + 0 ≤ 1) → (0 ≤ 1 * (σ.2.1 118 10).toInt + ((-1) * (σ'.2.1 118 14).toInt + 0) ∧ 1 * (σ.2.1 118 10).toInt + ((-1) * (σ'.2.1 118 14).toInt + 0) ≤ 0) → sx_M zK hd_T σ 28858891257124862704305937573347373392392387160985434571251191458187784500608308553281933292152037822856416985088 0 σ' → post (some (some (.int r))) σ') : am_K g 12 tX12_takes.1 0 0 0 lw [] σ post := by
  refine sg_seg (sw := []) (vs := [m1.toInt, m2.toInt, (σ.2.1 118 9).toInt, (σ.2.1 118 12).toInt, (σ.2.1 118 10).toInt]) (ws := []) G (mi := 176) rfl hct sg_tk1a_ok ⟨⟨m1, hl1, rfl⟩, ⟨⟨m2, hl2, rfl⟩, ⟨rfl, ⟨rfl, ⟨rfl, trivial⟩⟩⟩⟩⟩ (hd_refs hl) trivial (hd_p1 rfl (Int32.le_toInt _) (Int32.toInt_le _) (hd_p1 rfl (Int32.le_toInt _) (Int32.toInt_le _) (hd_p1 rfl bp118_9.1 bp118_9.2 (hd_p1 rfl (hd_kd_118_12 hM).1 (hd_kd_118_12 hM).2 (hd_p1 rfl (hd_kd_118_10 hM).1 (hd_kd_118_10 hM).2 hd_p0))))) hM ?_ ?_
  · intro r σ' hq
    cases r with
    | none => exact hq.elim
    | some v =>
      obtain ⟨p, hp, hM2, ks, hk, hv⟩ := hq
      simp only [List.mem_cons, List.not_mem_nil, or_false] at hp
      rcases hp with rfl
      · obtain ⟨ks0, rfl, hk1⟩ := hd_keyc hk; obtain ⟨ks1, rfl, hk2⟩ := hd_keyc hk1; obtain rfl := hd_keys hk2
        cases v with
        | none => exact hv.elim
        | some w9 =>
          obtain ⟨r, rfl, hP⟩ := hv
          obtain ⟨v0, e0, l0, u0⟩ := hP _ (List.mem_cons_self)
          have g0 : 1 * r.toInt + 0 = v0 := Option.some.inj e0
          obtain ⟨v1, e1, l1, u1⟩ := hP _ (List.mem_cons_of_mem _ (List.mem_cons_self))
          have g1 : 1 * (σ'.2.1 118 13).toInt + 0 = v1 := Option.some.inj e1
          obtain ⟨v2, e2, l2, u2⟩ := hP _ (List.mem_cons_of_mem _ (List.mem_cons_of_mem _ (List.mem_cons_self)))
          have g2 : 1 * (σ.2.1 118 10).toInt + ((-1) * (σ'.2.1 118 14).toInt + 0) = v2 := Option.some.inj e2
          exact ret0 r _ ⟨by rw [g0]; exact l0, by rw [g0]; exact u0⟩ ⟨by rw [g1]; exact l1, by rw [g1]; exact u1⟩ ⟨by rw [g2]; exact l2, by rw [g2]; exact u2⟩ hM2
  · intro u hu
    cases hu
theorem sg_tk1b_run (G : sx_G0 g L xs zK hd_T ex_mt) (hct : ∀ (mi : Nat) (T2 : ex_T) (c' : sx_Ct), ex_mt mi = some T2 → c' ∈ k9 mi → c'.1 < 0 → sx_Holds g zK hd_T T2 c') {σ : am_S} {lw : List (Nat × Value)} {post : Option (Option Value) → am_S → Prop} (hM : sx_M zK hd_T σ 0 0 σ) (hl : (0, Value.ref 118) ∈ lw) {m1 : Int32} (hl1 : (1, Value.int m1) ∈ lw) {m2 : Int32} (hl2 : (2, Value.int m2) ∈ lw) (bp118_9 : 3 ≤ (σ.2.1 118 9).toInt ∧ (σ.2.1 118 9).toInt ≤ 4) (ret0 : ∀ (r : Int32) (σ' : am_S), (0 ≤ 1 * r.toInt + 0 ∧ 1 * r.toInt + 0 ≤ 0) → (1 ≤ 1 * (σ'.2.1 118 13).toInt + 0 ∧ 1 * (σ'.2.1 118 13).toInt + 0 ≤ 1) → (0 ≤ 1 * (σ.2.1 118 10).toInt + ((-1) * (σ'.2.1 118 14).toInt + 0) ∧ 1 * (σ.2.1 118 10).toInt + ((-1) * (σ'.2.1 118 14).toInt + 0) ≤ 0) → sx_M zK hd_T σ 28858891257124862704305937573347373392392387160985434571251191458187784500608308553281933292152037822856416985088 0 σ' → post (some (some (.int r))) σ') : am_K g 12 tX12_takes.1 0 0 0 lw [] σ post := by
  refine sg_seg (sw := []) (vs := [m1.toInt, m2.toInt, (σ.2.1 118 9).toInt, (σ.2.1 118 12).toInt, (σ.2.1 118 10).toInt]) (ws := []) G (mi := 176) rfl hct sg_tk1b_ok ⟨⟨m1, hl1, rfl⟩, ⟨⟨m2, hl2, rfl⟩, ⟨rfl, ⟨rfl, ⟨rfl, trivial⟩⟩⟩⟩⟩ (hd_refs hl) trivial (hd_p1 rfl (Int32.le_toInt _) (Int32.toInt_le _) (hd_p1 rfl (Int32.le_toInt _) (Int32.toInt_le _) (hd_p1 rfl bp118_9.1 bp118_9.2 (hd_p1 rfl (hd_kd_118_12 hM).1 (hd_kd_118_12 hM).2 (hd_p1 rfl (hd_kd_118_10 hM).1 (hd_kd_118_10 hM).2 hd_p0))))) hM ?_ ?_
  · intro r σ' hq
    cases r with
    | none => exact hq.elim
    | some v =>
      obtain ⟨p, hp, hM2, ks, hk, hv⟩ := hq
      simp only [List.mem_cons, List.not_mem_nil, or_false] at hp
      rcases hp with rfl
      · obtain ⟨ks0, rfl, hk1⟩ := hd_keyc hk; obtain ⟨ks1, rfl, hk2⟩ := hd_keyc hk1; obtain rfl := hd_keys hk2
        cases v with
        | none => exact hv.elim
        | some w9 =>
          obtain ⟨r, rfl, hP⟩ := hv
          obtain ⟨v0, e0, l0, u0⟩ := hP _ (List.mem_cons_self)
          have g0 : 1 * r.toInt + 0 = v0 := Option.some.inj e0
          obtain ⟨v1, e1, l1, u1⟩ := hP _ (List.mem_cons_of_mem _ (List.mem_cons_self))
          have g1 : 1 * (σ'.2.1 118 13).toInt + 0 = v1 := Option.some.inj e1
          obtain ⟨v2, e2, l2, u2⟩ := hP _ (List.mem_cons_of_mem _ (List.mem_cons_of_mem _ (List.mem_cons_self)))
          have g2 : 1 * (σ.2.1 118 10).toInt + ((-1) * (σ'.2.1 118 14).toInt + 0) = v2 := Option.some.inj e2
          exact ret0 r _ ⟨by rw [g0]; exact l0, by rw [g0]; exact u0⟩ ⟨by rw [g1]; exact l1, by rw [g1]; exact u1⟩ ⟨by rw [g2]; exact l2, by rw [g2]; exact u2⟩ hM2
  · intro u hu
    cases hu
theorem sg_tk1c_run (G : sx_G0 g L xs zK hd_T ex_mt) (hct : ∀ (mi : Nat) (T2 : ex_T) (c' : sx_Ct), ex_mt mi = some T2 → c' ∈ k9 mi → c'.1 < 0 → sx_Holds g zK hd_T T2 c') {σ : am_S} {lw : List (Nat × Value)} {post : Option (Option Value) → am_S → Prop} (hM : sx_M zK hd_T σ 0 0 σ) (hl : (0, Value.ref 118) ∈ lw) {m1 : Int32} (hl1 : (1, Value.int m1) ∈ lw) {m2 : Int32} (hl2 : (2, Value.int m2) ∈ lw) (bp118_9 : 2 ≤ (σ.2.1 118 9).toInt ∧ (σ.2.1 118 9).toInt ≤ 2) (ret0 : ∀ (r : Int32) (σ' : am_S), (0 ≤ 1 * r.toInt + 0 ∧ 1 * r.toInt + 0 ≤ 0) → (2 ≤ 1 * (σ'.2.1 118 13).toInt + 0 ∧ 1 * (σ'.2.1 118 13).toInt + 0 ≤ 2) → (0 ≤ 1 * (σ.2.1 118 10).toInt + ((-1) * (σ'.2.1 118 14).toInt + 0) ∧ 1 * (σ.2.1 118 10).toInt + ((-1) * (σ'.2.1 118 14).toInt + 0) ≤ 0) → (1 ≤ 1 * m1.toInt + ((-1) * (σ.2.1 118 12).toInt + 0) ∧ 1 * m1.toInt + ((-1) * (σ.2.1 118 12).toInt + 0) ≤ 4611686018427387904) → sx_M zK hd_T σ 28858891257124862704305937573347373392392387160985434571251191458187784500608308553281933292152037822856416985088 0 σ' → post (some (some (.int r))) σ') (ret1 : ∀ (r : Int32) (σ' : am_S), (0 ≤ 1 * r.toInt + 0 ∧ 1 * r.toInt + 0 ≤ 0) → (2 ≤ 1 * (σ'.2.1 118 13).toInt + 0 ∧ 1 * (σ'.2.1 118 13).toInt + 0 ≤ 2) → (0 ≤ 1 * (σ.2.1 118 10).toInt + ((-1) * (σ'.2.1 118 14).toInt + 0) ∧ 1 * (σ.2.1 118 10).toInt + ((-1) * (σ'.2.1 118 14).toInt + 0) ≤ 0) → ((-4611686018427387904) ≤ 1 * m2.toInt + ((-1) * (σ.2.1 118 12).toInt + 0) ∧ 1 * m2.toInt + ((-1) * (σ.2.1 118 12).toInt + 0) ≤ (-1)) → sx_M zK hd_T σ 28858891257124862704305937573347373392392387160985434571251191458187784500608308553281933292152037822856416985088 0 σ' → post (some (some (.int r))) σ') (cuta : ∀ (lw' : List (Nat × Value))  (σ' : am_S), (0, Value.ref 118) ∈ lw' → (0 ≤ 1 * (σ.2.1 118 12).toInt + ((-1) * (σ'.2.1 118 16).toInt + 0) ∧ 1 * (σ.2.1 118 12).toInt + ((-1) * (σ'.2.1 118 16).toInt + 0) ≤ 0) → ((-4611686018427387904) ≤ 1 * m1.toInt + ((-1) * (σ.2.1 118 12).toInt + 0) ∧ 1 * m1.toInt + ((-1) * (σ.2.1 118 12).toInt + 0) ≤ 0) → (0 ≤ 1 * m2.toInt + ((-1) * (σ.2.1 118 12).toInt + 0) ∧ 1 * m2.toInt + ((-1) * (σ.2.1 118 12).toInt + 0) ≤ 4611686018427387904) → sx_M zK hd_T σ 76957043352332967211482500195592995713046365762627825523336510555167425334955489475418488779072100860950445293568 0 σ' → am_K g 12 tX12_takes.1 0 0 41 lw' [.ref 118] σ' post) : am_K g 12 tX12_takes.1 0 0 0 lw [] σ post := by
  refine sg_seg (sw := []) (vs := [m1.toInt, m2.toInt, (σ.2.1 118 9).toInt, (σ.2.1 118 12).toInt, (σ.2.1 118 10).toInt]) (ws := []) G (mi := 176) rfl hct sg_tk1c_ok ⟨⟨m1, hl1, rfl⟩, ⟨⟨m2, hl2, rfl⟩, ⟨rfl, ⟨rfl, ⟨rfl, trivial⟩⟩⟩⟩⟩ (hd_refs hl) trivial (hd_p1 rfl (Int32.le_toInt _) (Int32.toInt_le _) (hd_p1 rfl (Int32.le_toInt _) (Int32.toInt_le _) (hd_p1 rfl bp118_9.1 bp118_9.2 (hd_p1 rfl (hd_kd_118_12 hM).1 (hd_kd_118_12 hM).2 (hd_p1 rfl (hd_kd_118_10 hM).1 (hd_kd_118_10 hM).2 hd_p0))))) hM ?_ ?_
  · intro r σ' hq
    cases r with
    | none => exact hq.elim
    | some v =>
      obtain ⟨p, hp, hM2, ks, hk, hv⟩ := hq
      simp only [List.mem_cons, List.not_mem_nil, or_false] at hp
      rcases hp with rfl | rfl
      · obtain ⟨ks0, rfl, hk1⟩ := hd_keyc hk; obtain ⟨ks1, rfl, hk2⟩ := hd_keyc hk1; obtain rfl := hd_keys hk2
        cases v with
        | none => exact hv.elim
        | some w9 =>
          obtain ⟨r, rfl, hP⟩ := hv
          obtain ⟨v0, e0, l0, u0⟩ := hP _ (List.mem_cons_self)
          have g0 : 1 * r.toInt + 0 = v0 := Option.some.inj e0
          obtain ⟨v1, e1, l1, u1⟩ := hP _ (List.mem_cons_of_mem _ (List.mem_cons_self))
          have g1 : 1 * (σ'.2.1 118 13).toInt + 0 = v1 := Option.some.inj e1
          obtain ⟨v2, e2, l2, u2⟩ := hP _ (List.mem_cons_of_mem _ (List.mem_cons_of_mem _ (List.mem_cons_self)))
          have g2 : 1 * (σ.2.1 118 10).toInt + ((-1) * (σ'.2.1 118 14).toInt + 0) = v2 := Option.some.inj e2
          obtain ⟨v3, e3, l3, u3⟩ := hP _ (List.mem_cons_of_mem _ (List.mem_cons_of_mem _ (List.mem_cons_of_mem _ (List.mem_cons_self))))
          have g3 : 1 * m1.toInt + ((-1) * (σ.2.1 118 12).toInt + 0) = v3 := Option.some.inj e3
          exact ret0 r _ ⟨by rw [g0]; exact l0, by rw [g0]; exact u0⟩ ⟨by rw [g1]; exact l1, by rw [g1]; exact u1⟩ ⟨by rw [g2]; exact l2, by rw [g2]; exact u2⟩ ⟨by rw [g3]; exact l3, by rw [g3]; exact u3⟩ hM2
      · obtain ⟨ks0, rfl, hk1⟩ := hd_keyc hk; obtain ⟨ks1, rfl, hk2⟩ := hd_keyc hk1; obtain rfl := hd_keys hk2
        cases v with
        | none => exact hv.elim
        | some w9 =>
          obtain ⟨r, rfl, hP⟩ := hv
          obtain ⟨v0, e0, l0, u0⟩ := hP _ (List.mem_cons_self)
          have g0 : 1 * r.toInt + 0 = v0 := Option.some.inj e0
          obtain ⟨v1, e1, l1, u1⟩ := hP _ (List.mem_cons_of_mem _ (List.mem_cons_self))
          have g1 : 1 * (σ'.2.1 118 13).toInt + 0 = v1 := Option.some.inj e1
          obtain ⟨v2, e2, l2, u2⟩ := hP _ (List.mem_cons_of_mem _ (List.mem_cons_of_mem _ (List.mem_cons_self)))
          have g2 : 1 * (σ.2.1 118 10).toInt + ((-1) * (σ'.2.1 118 14).toInt + 0) = v2 := Option.some.inj e2
          obtain ⟨v3, e3, l3, u3⟩ := hP _ (List.mem_cons_of_mem _ (List.mem_cons_of_mem _ (List.mem_cons_of_mem _ (List.mem_cons_self))))
          have g3 : 1 * m2.toInt + ((-1) * (σ.2.1 118 12).toInt + 0) = v3 := Option.some.inj e3
          exact ret1 r _ ⟨by rw [g0]; exact l0, by rw [g0]; exact u0⟩ ⟨by rw [g1]; exact l1, by rw [g1]; exact u1⟩ ⟨by rw [g2]; exact l2, by rw [g2]; exact u2⟩ ⟨by rw [g3]; exact l3, by rw [g3]; exact u3⟩ hM2
  · intro u hu
    simp only [List.mem_cons, List.not_mem_nil, or_false] at hu
    rcases hu with rfl
    · intro lw' sw' vs' ws' σ' ⟨h1_0, h2, h3_0, h4, h5⟩
      obtain ⟨vs1, rfl, h1_1⟩ := hd_srcs h1_0
      obtain rfl := hd_src0 h1_1
      obtain ⟨sw1, rfl, h3_1⟩ := hd_str h3_0
      obtain ⟨rfl, rfl⟩ := hd_st0 h3_1
      have hr9 := hd_ref0 h2
      obtain ⟨v0, e0, l0, u0⟩ := h4 _ (List.mem_cons_self)
      have g0 : 1 * (σ.2.1 118 12).toInt + ((-1) * (σ'.2.1 118 16).toInt + 0) = v0 := Option.some.inj e0
      obtain ⟨v1, e1, l1, u1⟩ := h4 _ (List.mem_cons_of_mem _ (List.mem_cons_self))
      have g1 : 1 * m1.toInt + ((-1) * (σ.2.1 118 12).toInt + 0) = v1 := Option.some.inj e1
      obtain ⟨v2, e2, l2, u2⟩ := h4 _ (List.mem_cons_of_mem _ (List.mem_cons_of_mem _ (List.mem_cons_self)))
      have g2 : 1 * m2.toInt + ((-1) * (σ.2.1 118 12).toInt + 0) = v2 := Option.some.inj e2
      exact cuta _  _ hr9  ⟨by rw [g0]; exact l0, by rw [g0]; exact u0⟩ ⟨by rw [g1]; exact l1, by rw [g1]; exact u1⟩ ⟨by rw [g2]; exact l2, by rw [g2]; exact u2⟩ h5
theorem sg_tk2_run (G : sx_G0 g L xs zK hd_T ex_mt) (hct : ∀ (mi : Nat) (T2 : ex_T) (c' : sx_Ct), ex_mt mi = some T2 → c' ∈ k9 mi → c'.1 < 0 → sx_Holds g zK hd_T T2 c') {σ : am_S} {lw : List (Nat × Value)} {post : Option (Option Value) → am_S → Prop} (hM : sx_M zK hd_T σ 0 0 σ) (hl : (0, Value.ref 118) ∈ lw)  (ret0 : ∀ (r : Int32) (σ' : am_S), (1 ≤ 1 * r.toInt + 0 ∧ 1 * r.toInt + 0 ≤ 1) → sx_M zK hd_T σ 0 0 σ' → post (some (some (.int r))) σ') : am_K g 12 tX12_takes.1 0 0 44 lw [] σ post := by
  refine sg_seg (sw := []) (vs := []) (ws := []) G (mi := 176) rfl hct sg_tk2_ok trivial (hd_refs hl) trivial hd_p0 hM ?_ ?_
  · intro r σ' hq
    cases r with
    | none => exact hq.elim
    | some v =>
      obtain ⟨p, hp, hM2, ks, hk, hv⟩ := hq
      simp only [List.mem_cons, List.not_mem_nil, or_false] at hp
      rcases hp with rfl
      · obtain rfl := hd_keys hk
        cases v with
        | none => exact hv.elim
        | some w9 =>
          obtain ⟨r, rfl, hP⟩ := hv
          obtain ⟨v0, e0, l0, u0⟩ := hP _ (List.mem_cons_self)
          have g0 : 1 * r.toInt + 0 = v0 := Option.some.inj e0
          exact ret0 r _ ⟨by rw [g0]; exact l0, by rw [g0]; exact u0⟩ hM2
  · intro u hu
    cases hu
theorem sg_pt1_run (G : sx_G0 g L xs zK hd_T ex_mt) (hct : ∀ (mi : Nat) (T2 : ex_T) (c' : sx_Ct), ex_mt mi = some T2 → c' ∈ k9 mi → c'.1 < 0 → sx_Holds g zK hd_T T2 c') {σ : am_S} {lw : List (Nat × Value)} {post : Option (Option Value) → am_S → Prop} (hM : sx_M zK hd_T σ 0 0 σ) (hl : (0, Value.ref 118) ∈ lw) {m1 : Int32} (hl1 : (1, Value.int m1) ∈ lw) {m2 : Int32} (hl2 : (2, Value.int m2) ∈ lw) {m3 : Int32} (hl3 : (3, Value.int m3) ∈ lw) (cuta : ∀ (lw' : List (Nat × Value)) (m1' : Int32) (n0' : Int32) (n1' : Int32) (σ' : am_S), (0, Value.ref 118) ∈ lw' → (1, Value.int m1') ∈ lw' → (0 ≤ 1 * m3.toInt + ((-1) * n0'.toInt + 0) ∧ 1 * m3.toInt + ((-1) * n0'.toInt + 0) ≤ 0) → (0 ≤ 1 * m2.toInt + ((-1) * n1'.toInt + 0) ∧ 1 * m2.toInt + ((-1) * n1'.toInt + 0) ≤ 0) → (0 ≤ 1 * m1.toInt + ((-1) * m1'.toInt + 0) ∧ 1 * m1.toInt + ((-1) * m1'.toInt + 0) ≤ 0) → sx_M zK hd_T σ 0 0 σ' → am_K g 15 tX12_puts.1 0 0 3 lw' [.int n0', .int n1', .ref 118] σ' post) : am_K g 15 tX12_puts.1 0 0 0 lw [] σ post := by
  refine sg_seg (sw := []) (vs := [m1.toInt, m2.toInt, m3.toInt]) (ws := []) G (mi := 155) rfl hct sg_pt1_ok ⟨⟨m1, hl1, rfl⟩, ⟨⟨m2, hl2, rfl⟩, ⟨⟨m3, hl3, rfl⟩, trivial⟩⟩⟩ (hd_refs hl) trivial (hd_p1 rfl (Int32.le_toInt _) (Int32.toInt_le _) (hd_p1 rfl (Int32.le_toInt _) (Int32.toInt_le _) (hd_p1 rfl (Int32.le_toInt _) (Int32.toInt_le _) hd_p0))) hM ?_ ?_
  · intro r σ' hq
    cases r with
    | none => exact hq.elim
    | some v =>
      obtain ⟨p, hp, hM2, ks, hk, hv⟩ := hq
      cases hp
  · intro u hu
    simp only [List.mem_cons, List.not_mem_nil, or_false] at hu
    rcases hu with rfl
    · intro lw' sw' vs' ws' σ' ⟨h1_0, h2, h3_0, h4, h5⟩
      obtain ⟨m1', vs1, rfl, hm1, h1_1⟩ := hd_srcl h1_0
      obtain rfl := hd_src0 h1_1
      obtain ⟨n0', sw1, ws1, rfl, rfl, h3_1⟩ := hd_sti h3_0
      obtain ⟨n1', sw2, ws2, rfl, rfl, h3_2⟩ := hd_sti h3_1
      obtain ⟨sw3, rfl, h3_3⟩ := hd_str h3_2
      obtain ⟨rfl, rfl⟩ := hd_st0 h3_3
      have hr9 := hd_ref0 h2
      obtain ⟨v0, e0, l0, u0⟩ := h4 _ (List.mem_cons_self)
      have g0 : 1 * m3.toInt + ((-1) * n0'.toInt + 0) = v0 := Option.some.inj e0
      obtain ⟨v1, e1, l1, u1⟩ := h4 _ (List.mem_cons_of_mem _ (List.mem_cons_self))
      have g1 : 1 * m2.toInt + ((-1) * n1'.toInt + 0) = v1 := Option.some.inj e1
      obtain ⟨v2, e2, l2, u2⟩ := h4 _ (List.mem_cons_of_mem _ (List.mem_cons_of_mem _ (List.mem_cons_self)))
      have g2 : 1 * m1.toInt + ((-1) * m1'.toInt + 0) = v2 := Option.some.inj e2
      exact cuta _ _ _ _ _ hr9 hm1 ⟨by rw [g0]; exact l0, by rw [g0]; exact u0⟩ ⟨by rw [g1]; exact l1, by rw [g1]; exact u1⟩ ⟨by rw [g2]; exact l2, by rw [g2]; exact u2⟩ h5
theorem sg_pt2a_run (G : sx_G0 g L xs zK hd_T ex_mt) (hct : ∀ (mi : Nat) (T2 : ex_T) (c' : sx_Ct), ex_mt mi = some T2 → c' ∈ k9 mi → c'.1 < 0 → sx_Holds g zK hd_T T2 c') {σ : am_S} {lw : List (Nat × Value)} {post : Option (Option Value) → am_S → Prop} (hM : sx_M zK hd_T σ 0 0 σ) (hl : (0, Value.ref 118) ∈ lw) {m1 : Int32} (hl1 : (1, Value.int m1) ∈ lw) {n0 : Int32} (bk0 : 0 ≤ n0.toInt ∧ n0.toInt ≤ 0) (ret0 : ∀ (r : Int32) (σ' : am_S), (0 ≤ 1 * r.toInt + 0 ∧ 1 * r.toInt + 0 ≤ 0) → sx_M zK hd_T σ 0 0 σ' → post (some (some (.int r))) σ') : am_K g 15 tX12_puts.1 0 0 6 lw [.int n0] σ post := by
  refine sg_seg (sw := [.int n0]) (vs := [m1.toInt]) (ws := [n0.toInt]) G (mi := 155) rfl hct sg_pt2a_ok ⟨⟨m1, hl1, rfl⟩, trivial⟩ (hd_refs hl) ⟨⟨n0, rfl, rfl⟩, trivial⟩ (hd_p1 rfl (Int32.le_toInt _) (Int32.toInt_le _) (hd_p1 rfl bk0.1 bk0.2 hd_p0)) hM ?_ ?_
  · intro r σ' hq
    cases r with
    | none => exact hq.elim
    | some v =>
      obtain ⟨p, hp, hM2, ks, hk, hv⟩ := hq
      simp only [List.mem_cons, List.not_mem_nil, or_false] at hp
      rcases hp with rfl
      · obtain rfl := hd_keys hk
        cases v with
        | none => exact hv.elim
        | some w9 =>
          obtain ⟨r, rfl, hP⟩ := hv
          obtain ⟨v0, e0, l0, u0⟩ := hP _ (List.mem_cons_self)
          have g0 : 1 * r.toInt + 0 = v0 := Option.some.inj e0
          exact ret0 r _ ⟨by rw [g0]; exact l0, by rw [g0]; exact u0⟩ hM2
  · intro u hu
    cases hu
theorem sg_pt2b_run (G : sx_G0 g L xs zK hd_T ex_mt) (hct : ∀ (mi : Nat) (T2 : ex_T) (c' : sx_Ct), ex_mt mi = some T2 → c' ∈ k9 mi → c'.1 < 0 → sx_Holds g zK hd_T T2 c') {σ : am_S} {lw : List (Nat × Value)} {post : Option (Option Value) → am_S → Prop} (hM : sx_M zK hd_T σ 0 0 σ) (hl : (0, Value.ref 118) ∈ lw) {m1 : Int32} (hl1 : (1, Value.int m1) ∈ lw) {n0 : Int32} (bk0 : 1 ≤ n0.toInt ∧ n0.toInt ≤ 1) (cuta : ∀ (lw' : List (Nat × Value)) (n0' : Int32) (n1' : Int32) (σ' : am_S), (0, Value.ref 118) ∈ lw' → (0 ≤ 1 * (σ.2.1 118 16).toInt + ((-1) * n0'.toInt + 0) ∧ 1 * (σ.2.1 118 16).toInt + ((-1) * n0'.toInt + 0) ≤ 0) → (0 ≤ 1 * m1.toInt + ((-1) * n1'.toInt + 0) ∧ 1 * m1.toInt + ((-1) * n1'.toInt + 0) ≤ 0) → sx_M zK hd_T σ 0 0 σ' → am_K g 15 tX12_puts.1 0 0 20 lw' [.int n0', .int n1', .ref 121] σ' post) : am_K g 15 tX12_puts.1 0 0 6 lw [.int n0] σ post := by
  refine sg_seg (sw := [.int n0]) (vs := [m1.toInt, (σ.2.1 118 16).toInt]) (ws := [n0.toInt]) G (mi := 155) rfl hct sg_pt2b_ok ⟨⟨m1, hl1, rfl⟩, ⟨rfl, trivial⟩⟩ (hd_refs hl) ⟨⟨n0, rfl, rfl⟩, trivial⟩ (hd_p1 rfl (Int32.le_toInt _) (Int32.toInt_le _) (hd_p1 rfl (hd_kd_118_16 hM).1 (hd_kd_118_16 hM).2 (hd_p1 rfl bk0.1 bk0.2 hd_p0))) hM ?_ ?_
  · intro r σ' hq
    cases r with
    | none => exact hq.elim
    | some v =>
      obtain ⟨p, hp, hM2, ks, hk, hv⟩ := hq
      cases hp
  · intro u hu
    simp only [List.mem_cons, List.not_mem_nil, or_false] at hu
    rcases hu with rfl
    · intro lw' sw' vs' ws' σ' ⟨h1_0, h2, h3_0, h4, h5⟩
      obtain rfl := hd_src0 h1_0
      obtain ⟨n0', sw1, ws1, rfl, rfl, h3_1⟩ := hd_sti h3_0
      obtain ⟨n1', sw2, ws2, rfl, rfl, h3_2⟩ := hd_sti h3_1
      obtain ⟨sw3, rfl, h3_3⟩ := hd_str h3_2
      obtain ⟨rfl, rfl⟩ := hd_st0 h3_3
      have hr9 := hd_ref0 h2
      obtain ⟨v0, e0, l0, u0⟩ := h4 _ (List.mem_cons_self)
      have g0 : 1 * (σ.2.1 118 16).toInt + ((-1) * n0'.toInt + 0) = v0 := Option.some.inj e0
      obtain ⟨v1, e1, l1, u1⟩ := h4 _ (List.mem_cons_of_mem _ (List.mem_cons_self))
      have g1 : 1 * m1.toInt + ((-1) * n1'.toInt + 0) = v1 := Option.some.inj e1
      exact cuta _ _ _ _ hr9  ⟨by rw [g0]; exact l0, by rw [g0]; exact u0⟩ ⟨by rw [g1]; exact l1, by rw [g1]; exact u1⟩ h5
theorem sg_pt3_run (G : sx_G0 g L xs zK hd_T ex_mt) (hct : ∀ (mi : Nat) (T2 : ex_T) (c' : sx_Ct), ex_mt mi = some T2 → c' ∈ k9 mi → c'.1 < 0 → sx_Holds g zK hd_T T2 c') {σ : am_S} {lw : List (Nat × Value)} {post : Option (Option Value) → am_S → Prop} (hM : sx_M zK hd_T σ 0 0 σ) (hl : (0, Value.ref 118) ∈ lw)  (ret0 : ∀ (r : Int32) (σ' : am_S), (1 ≤ 1 * r.toInt + 0 ∧ 1 * r.toInt + 0 ≤ 1) → sx_M zK hd_T σ 0 0 σ' → post (some (some (.int r))) σ') : am_K g 15 tX12_puts.1 0 0 21 lw [] σ post := by
  refine sg_seg (sw := []) (vs := []) (ws := []) G (mi := 155) rfl hct sg_pt3_ok trivial (hd_refs hl) trivial hd_p0 hM ?_ ?_
  · intro r σ' hq
    cases r with
    | none => exact hq.elim
    | some v =>
      obtain ⟨p, hp, hM2, ks, hk, hv⟩ := hq
      simp only [List.mem_cons, List.not_mem_nil, or_false] at hp
      rcases hp with rfl
      · obtain rfl := hd_keys hk
        cases v with
        | none => exact hv.elim
        | some w9 =>
          obtain ⟨r, rfl, hP⟩ := hv
          obtain ⟨v0, e0, l0, u0⟩ := hP _ (List.mem_cons_self)
          have g0 : 1 * r.toInt + 0 = v0 := Option.some.inj e0
          exact ret0 r _ ⟨by rw [g0]; exact l0, by rw [g0]; exact u0⟩ hM2
  · intro u hu
    cases hu
theorem sg_sn1a_run (G : sx_G0 g L xs zK hd_T ex_mt) (hct : ∀ (mi : Nat) (T2 : ex_T) (c' : sx_Ct), ex_mt mi = some T2 → c' ∈ k9 mi → c'.1 < 0 → sx_Holds g zK hd_T T2 c') {σ : am_S} {lw : List (Nat × Value)} {post : Option (Option Value) → am_S → Prop} (hM : sx_M zK hd_T σ 0 0 σ) (hl : (0, Value.ref 118) ∈ lw) {m1 : Int32} (hl1 : (1, Value.int m1) ∈ lw) (bp118_9 : 0 ≤ (σ.2.1 118 9).toInt ∧ (σ.2.1 118 9).toInt ≤ 2) (ret0 : ∀ (r : Int32) (σ' : am_S), (0 ≤ 1 * r.toInt + 0 ∧ 1 * r.toInt + 0 ≤ 0) → (1 ≤ 1 * (σ'.2.1 118 13).toInt + 0 ∧ 1 * (σ'.2.1 118 13).toInt + 0 ≤ 1) → (0 ≤ 1 * (σ.2.1 118 10).toInt + ((-1) * (σ'.2.1 118 14).toInt + 0) ∧ 1 * (σ.2.1 118 10).toInt + ((-1) * (σ'.2.1 118 14).toInt + 0) ≤ 0) → sx_M zK hd_T σ 28858891257124862704305937573347373392392387160985434571251191458187784500608308553281933292152037822856416985088 0 σ' → post (some (some (.int r))) σ') : am_K g 12 tX12_sign.1 0 0 0 lw [] σ post := by
  refine sg_seg (sw := []) (vs := [m1.toInt, (σ.2.1 118 9).toInt, (σ.2.1 118 10).toInt]) (ws := []) G (mi := 169) rfl hct sg_sn1a_ok ⟨⟨m1, hl1, rfl⟩, ⟨rfl, ⟨rfl, trivial⟩⟩⟩ (hd_refs hl) trivial (hd_p1 rfl (Int32.le_toInt _) (Int32.toInt_le _) (hd_p1 rfl bp118_9.1 bp118_9.2 (hd_p1 rfl (hd_kd_118_10 hM).1 (hd_kd_118_10 hM).2 hd_p0))) hM ?_ ?_
  · intro r σ' hq
    cases r with
    | none => exact hq.elim
    | some v =>
      obtain ⟨p, hp, hM2, ks, hk, hv⟩ := hq
      simp only [List.mem_cons, List.not_mem_nil, or_false] at hp
      rcases hp with rfl
      · obtain ⟨ks0, rfl, hk1⟩ := hd_keyc hk; obtain ⟨ks1, rfl, hk2⟩ := hd_keyc hk1; obtain rfl := hd_keys hk2
        cases v with
        | none => exact hv.elim
        | some w9 =>
          obtain ⟨r, rfl, hP⟩ := hv
          obtain ⟨v0, e0, l0, u0⟩ := hP _ (List.mem_cons_self)
          have g0 : 1 * r.toInt + 0 = v0 := Option.some.inj e0
          obtain ⟨v1, e1, l1, u1⟩ := hP _ (List.mem_cons_of_mem _ (List.mem_cons_self))
          have g1 : 1 * (σ'.2.1 118 13).toInt + 0 = v1 := Option.some.inj e1
          obtain ⟨v2, e2, l2, u2⟩ := hP _ (List.mem_cons_of_mem _ (List.mem_cons_of_mem _ (List.mem_cons_self)))
          have g2 : 1 * (σ.2.1 118 10).toInt + ((-1) * (σ'.2.1 118 14).toInt + 0) = v2 := Option.some.inj e2
          exact ret0 r _ ⟨by rw [g0]; exact l0, by rw [g0]; exact u0⟩ ⟨by rw [g1]; exact l1, by rw [g1]; exact u1⟩ ⟨by rw [g2]; exact l2, by rw [g2]; exact u2⟩ hM2
  · intro u hu
    cases hu
theorem sg_sn1b_run (G : sx_G0 g L xs zK hd_T ex_mt) (hct : ∀ (mi : Nat) (T2 : ex_T) (c' : sx_Ct), ex_mt mi = some T2 → c' ∈ k9 mi → c'.1 < 0 → sx_Holds g zK hd_T T2 c') {σ : am_S} {lw : List (Nat × Value)} {post : Option (Option Value) → am_S → Prop} (hM : sx_M zK hd_T σ 0 0 σ) (hl : (0, Value.ref 118) ∈ lw) {m1 : Int32} (hl1 : (1, Value.int m1) ∈ lw) (bp118_9 : 4 ≤ (σ.2.1 118 9).toInt ∧ (σ.2.1 118 9).toInt ≤ 4) (ret0 : ∀ (r : Int32) (σ' : am_S), (0 ≤ 1 * r.toInt + 0 ∧ 1 * r.toInt + 0 ≤ 0) → (1 ≤ 1 * (σ'.2.1 118 13).toInt + 0 ∧ 1 * (σ'.2.1 118 13).toInt + 0 ≤ 1) → (0 ≤ 1 * (σ.2.1 118 10).toInt + ((-1) * (σ'.2.1 118 14).toInt + 0) ∧ 1 * (σ.2.1 118 10).toInt + ((-1) * (σ'.2.1 118 14).toInt + 0) ≤ 0) → sx_M zK hd_T σ 28858891257124862704305937573347373392392387160985434571251191458187784500608308553281933292152037822856416985088 0 σ' → post (some (some (.int r))) σ') : am_K g 12 tX12_sign.1 0 0 0 lw [] σ post := by
  refine sg_seg (sw := []) (vs := [m1.toInt, (σ.2.1 118 9).toInt, (σ.2.1 118 10).toInt]) (ws := []) G (mi := 169) rfl hct sg_sn1b_ok ⟨⟨m1, hl1, rfl⟩, ⟨rfl, ⟨rfl, trivial⟩⟩⟩ (hd_refs hl) trivial (hd_p1 rfl (Int32.le_toInt _) (Int32.toInt_le _) (hd_p1 rfl bp118_9.1 bp118_9.2 (hd_p1 rfl (hd_kd_118_10 hM).1 (hd_kd_118_10 hM).2 hd_p0))) hM ?_ ?_
  · intro r σ' hq
    cases r with
    | none => exact hq.elim
    | some v =>
      obtain ⟨p, hp, hM2, ks, hk, hv⟩ := hq
      simp only [List.mem_cons, List.not_mem_nil, or_false] at hp
      rcases hp with rfl
      · obtain ⟨ks0, rfl, hk1⟩ := hd_keyc hk; obtain ⟨ks1, rfl, hk2⟩ := hd_keyc hk1; obtain rfl := hd_keys hk2
        cases v with
        | none => exact hv.elim
        | some w9 =>
          obtain ⟨r, rfl, hP⟩ := hv
          obtain ⟨v0, e0, l0, u0⟩ := hP _ (List.mem_cons_self)
          have g0 : 1 * r.toInt + 0 = v0 := Option.some.inj e0
          obtain ⟨v1, e1, l1, u1⟩ := hP _ (List.mem_cons_of_mem _ (List.mem_cons_self))
          have g1 : 1 * (σ'.2.1 118 13).toInt + 0 = v1 := Option.some.inj e1
          obtain ⟨v2, e2, l2, u2⟩ := hP _ (List.mem_cons_of_mem _ (List.mem_cons_of_mem _ (List.mem_cons_self)))
          have g2 : 1 * (σ.2.1 118 10).toInt + ((-1) * (σ'.2.1 118 14).toInt + 0) = v2 := Option.some.inj e2
          exact ret0 r _ ⟨by rw [g0]; exact l0, by rw [g0]; exact u0⟩ ⟨by rw [g1]; exact l1, by rw [g1]; exact u1⟩ ⟨by rw [g2]; exact l2, by rw [g2]; exact u2⟩ hM2
  · intro u hu
    cases hu
theorem sg_sn1c_run (G : sx_G0 g L xs zK hd_T ex_mt) (hct : ∀ (mi : Nat) (T2 : ex_T) (c' : sx_Ct), ex_mt mi = some T2 → c' ∈ k9 mi → c'.1 < 0 → sx_Holds g zK hd_T T2 c') {σ : am_S} {lw : List (Nat × Value)} {post : Option (Option Value) → am_S → Prop} (hM : sx_M zK hd_T σ 0 0 σ) (hl : (0, Value.ref 118) ∈ lw) {m1 : Int32} (hl1 : (1, Value.int m1) ∈ lw) (bp118_9 : 3 ≤ (σ.2.1 118 9).toInt ∧ (σ.2.1 118 9).toInt ≤ 3) (bf0 : 1 ≤ 1 * m1.toInt + ((-1) * (σ.2.1 118 12).toInt + 0) ∧ 1 * m1.toInt + ((-1) * (σ.2.1 118 12).toInt + 0) ≤ 4611686018427387904) (ret0 : ∀ (r : Int32) (σ' : am_S), (0 ≤ 1 * r.toInt + 0 ∧ 1 * r.toInt + 0 ≤ 0) → (1 ≤ 1 * (σ'.2.1 118 13).toInt + 0 ∧ 1 * (σ'.2.1 118 13).toInt + 0 ≤ 1) → (0 ≤ 1 * (σ.2.1 118 10).toInt + ((-1) * (σ'.2.1 118 14).toInt + 0) ∧ 1 * (σ.2.1 118 10).toInt + ((-1) * (σ'.2.1 118 14).toInt + 0) ≤ 0) → sx_M zK hd_T σ 28858891257124862704305937573347373392392387160985434571251191458187784500608308553281933292152037822856416985088 0 σ' → post (some (some (.int r))) σ') : am_K g 12 tX12_sign.1 0 0 0 lw [] σ post := by
  refine sg_seg (sw := []) (vs := [m1.toInt, (σ.2.1 118 9).toInt, (σ.2.1 118 12).toInt, (σ.2.1 118 10).toInt]) (ws := []) G (mi := 169) rfl hct sg_sn1c_ok ⟨⟨m1, hl1, rfl⟩, ⟨rfl, ⟨rfl, ⟨rfl, trivial⟩⟩⟩⟩ (hd_refs hl) trivial (hd_p1 rfl (Int32.le_toInt _) (Int32.toInt_le _) (hd_p1 rfl bp118_9.1 bp118_9.2 (hd_p1 rfl (hd_kd_118_12 hM).1 (hd_kd_118_12 hM).2 (hd_p1 rfl (hd_kd_118_10 hM).1 (hd_kd_118_10 hM).2 (hd_pf rfl bf0.1 bf0.2 hd_p0))))) hM ?_ ?_
  · intro r σ' hq
    cases r with
    | none => exact hq.elim
    | some v =>
      obtain ⟨p, hp, hM2, ks, hk, hv⟩ := hq
      simp only [List.mem_cons, List.not_mem_nil, or_false] at hp
      rcases hp with rfl
      · obtain ⟨ks0, rfl, hk1⟩ := hd_keyc hk; obtain ⟨ks1, rfl, hk2⟩ := hd_keyc hk1; obtain rfl := hd_keys hk2
        cases v with
        | none => exact hv.elim
        | some w9 =>
          obtain ⟨r, rfl, hP⟩ := hv
          obtain ⟨v0, e0, l0, u0⟩ := hP _ (List.mem_cons_self)
          have g0 : 1 * r.toInt + 0 = v0 := Option.some.inj e0
          obtain ⟨v1, e1, l1, u1⟩ := hP _ (List.mem_cons_of_mem _ (List.mem_cons_self))
          have g1 : 1 * (σ'.2.1 118 13).toInt + 0 = v1 := Option.some.inj e1
          obtain ⟨v2, e2, l2, u2⟩ := hP _ (List.mem_cons_of_mem _ (List.mem_cons_of_mem _ (List.mem_cons_self)))
          have g2 : 1 * (σ.2.1 118 10).toInt + ((-1) * (σ'.2.1 118 14).toInt + 0) = v2 := Option.some.inj e2
          exact ret0 r _ ⟨by rw [g0]; exact l0, by rw [g0]; exact u0⟩ ⟨by rw [g1]; exact l1, by rw [g1]; exact u1⟩ ⟨by rw [g2]; exact l2, by rw [g2]; exact u2⟩ hM2
  · intro u hu
    cases hu
theorem sg_sn1d_run (G : sx_G0 g L xs zK hd_T ex_mt) (hct : ∀ (mi : Nat) (T2 : ex_T) (c' : sx_Ct), ex_mt mi = some T2 → c' ∈ k9 mi → c'.1 < 0 → sx_Holds g zK hd_T T2 c') {σ : am_S} {lw : List (Nat × Value)} {post : Option (Option Value) → am_S → Prop} (hM : sx_M zK hd_T σ 0 0 σ) (hl : (0, Value.ref 118) ∈ lw) {m1 : Int32} (hl1 : (1, Value.int m1) ∈ lw) (bp118_9 : 3 ≤ (σ.2.1 118 9).toInt ∧ (σ.2.1 118 9).toInt ≤ 3) (bf0 : (-4611686018427387904) ≤ 1 * m1.toInt + ((-1) * (σ.2.1 118 12).toInt + 0) ∧ 1 * m1.toInt + ((-1) * (σ.2.1 118 12).toInt + 0) ≤ (-1)) (ret0 : ∀ (r : Int32) (σ' : am_S), (0 ≤ 1 * r.toInt + 0 ∧ 1 * r.toInt + 0 ≤ 0) → (1 ≤ 1 * (σ'.2.1 118 13).toInt + 0 ∧ 1 * (σ'.2.1 118 13).toInt + 0 ≤ 1) → (0 ≤ 1 * (σ.2.1 118 10).toInt + ((-1) * (σ'.2.1 118 14).toInt + 0) ∧ 1 * (σ.2.1 118 10).toInt + ((-1) * (σ'.2.1 118 14).toInt + 0) ≤ 0) → sx_M zK hd_T σ 28858891257124862704305937573347373392392387160985434571251191458187784500608308553281933292152037822856416985088 0 σ' → post (some (some (.int r))) σ') : am_K g 12 tX12_sign.1 0 0 0 lw [] σ post := by
  refine sg_seg (sw := []) (vs := [m1.toInt, (σ.2.1 118 9).toInt, (σ.2.1 118 12).toInt, (σ.2.1 118 10).toInt]) (ws := []) G (mi := 169) rfl hct sg_sn1d_ok ⟨⟨m1, hl1, rfl⟩, ⟨rfl, ⟨rfl, ⟨rfl, trivial⟩⟩⟩⟩ (hd_refs hl) trivial (hd_p1 rfl (Int32.le_toInt _) (Int32.toInt_le _) (hd_p1 rfl bp118_9.1 bp118_9.2 (hd_p1 rfl (hd_kd_118_12 hM).1 (hd_kd_118_12 hM).2 (hd_p1 rfl (hd_kd_118_10 hM).1 (hd_kd_118_10 hM).2 (hd_pf rfl bf0.1 bf0.2 hd_p0))))) hM ?_ ?_
  · intro r σ' hq
    cases r with
    | none => exact hq.elim
    | some v =>
      obtain ⟨p, hp, hM2, ks, hk, hv⟩ := hq
      simp only [List.mem_cons, List.not_mem_nil, or_false] at hp
      rcases hp with rfl
      · obtain ⟨ks0, rfl, hk1⟩ := hd_keyc hk; obtain ⟨ks1, rfl, hk2⟩ := hd_keyc hk1; obtain rfl := hd_keys hk2
        cases v with
        | none => exact hv.elim
        | some w9 =>
          obtain ⟨r, rfl, hP⟩ := hv
          obtain ⟨v0, e0, l0, u0⟩ := hP _ (List.mem_cons_self)
          have g0 : 1 * r.toInt + 0 = v0 := Option.some.inj e0
          obtain ⟨v1, e1, l1, u1⟩ := hP _ (List.mem_cons_of_mem _ (List.mem_cons_self))
          have g1 : 1 * (σ'.2.1 118 13).toInt + 0 = v1 := Option.some.inj e1
          obtain ⟨v2, e2, l2, u2⟩ := hP _ (List.mem_cons_of_mem _ (List.mem_cons_of_mem _ (List.mem_cons_self)))
          have g2 : 1 * (σ.2.1 118 10).toInt + ((-1) * (σ'.2.1 118 14).toInt + 0) = v2 := Option.some.inj e2
          exact ret0 r _ ⟨by rw [g0]; exact l0, by rw [g0]; exact u0⟩ ⟨by rw [g1]; exact l1, by rw [g1]; exact u1⟩ ⟨by rw [g2]; exact l2, by rw [g2]; exact u2⟩ hM2
  · intro u hu
    cases hu
theorem sg_sn1e_run (G : sx_G0 g L xs zK hd_T ex_mt) (hct : ∀ (mi : Nat) (T2 : ex_T) (c' : sx_Ct), ex_mt mi = some T2 → c' ∈ k9 mi → c'.1 < 0 → sx_Holds g zK hd_T T2 c') {σ : am_S} {lw : List (Nat × Value)} {post : Option (Option Value) → am_S → Prop} (hM : sx_M zK hd_T σ 0 0 σ) (hl : (0, Value.ref 118) ∈ lw) {m1 : Int32} (hl1 : (1, Value.int m1) ∈ lw) (bp118_9 : 3 ≤ (σ.2.1 118 9).toInt ∧ (σ.2.1 118 9).toInt ≤ 3) (bf0 : 0 ≤ 1 * m1.toInt + ((-1) * (σ.2.1 118 12).toInt + 0) ∧ 1 * m1.toInt + ((-1) * (σ.2.1 118 12).toInt + 0) ≤ 0) (cuta : ∀ (lw' : List (Nat × Value))  (σ' : am_S), (0, Value.ref 118) ∈ lw' → sx_M zK hd_T σ 0 0 σ' → am_K g 12 tX12_sign.1 0 0 15 lw' [.ref 118] σ' post) : am_K g 12 tX12_sign.1 0 0 0 lw [] σ post := by
  refine sg_seg (sw := []) (vs := [m1.toInt, (σ.2.1 118 9).toInt, (σ.2.1 118 12).toInt, (σ.2.1 118 10).toInt]) (ws := []) G (mi := 169) rfl hct sg_sn1e_ok ⟨⟨m1, hl1, rfl⟩, ⟨rfl, ⟨rfl, ⟨rfl, trivial⟩⟩⟩⟩ (hd_refs hl) trivial (hd_p1 rfl (Int32.le_toInt _) (Int32.toInt_le _) (hd_p1 rfl bp118_9.1 bp118_9.2 (hd_p1 rfl (hd_kd_118_12 hM).1 (hd_kd_118_12 hM).2 (hd_p1 rfl (hd_kd_118_10 hM).1 (hd_kd_118_10 hM).2 (hd_pf rfl bf0.1 bf0.2 hd_p0))))) hM ?_ ?_
  · intro r σ' hq
    cases r with
    | none => exact hq.elim
    | some v =>
      obtain ⟨p, hp, hM2, ks, hk, hv⟩ := hq
      cases hp
  · intro u hu
    simp only [List.mem_cons, List.not_mem_nil, or_false] at hu
    rcases hu with rfl
    · intro lw' sw' vs' ws' σ' ⟨h1_0, h2, h3_0, h4, h5⟩
      obtain rfl := hd_src0 h1_0
      obtain ⟨sw1, rfl, h3_1⟩ := hd_str h3_0
      obtain ⟨rfl, rfl⟩ := hd_st0 h3_1
      have hr9 := hd_ref0 h2
      exact cuta _  _ hr9   h5
theorem sg_sn2_run (G : sx_G0 g L xs zK hd_T ex_mt) (hct : ∀ (mi : Nat) (T2 : ex_T) (c' : sx_Ct), ex_mt mi = some T2 → c' ∈ k9 mi → c'.1 < 0 → sx_Holds g zK hd_T T2 c') {σ : am_S} {lw : List (Nat × Value)} {post : Option (Option Value) → am_S → Prop} (hM : sx_M zK hd_T σ 0 0 σ) (hl : (0, Value.ref 118) ∈ lw)  (ret0 : ∀ (r : Int32) (σ' : am_S), (1 ≤ 1 * r.toInt + 0 ∧ 1 * r.toInt + 0 ≤ 1) → sx_M zK hd_T σ 0 0 σ' → post (some (some (.int r))) σ') : am_K g 12 tX12_sign.1 0 0 18 lw [] σ post := by
  refine sg_seg (sw := []) (vs := []) (ws := []) G (mi := 169) rfl hct sg_sn2_ok trivial (hd_refs hl) trivial hd_p0 hM ?_ ?_
  · intro r σ' hq
    cases r with
    | none => exact hq.elim
    | some v =>
      obtain ⟨p, hp, hM2, ks, hk, hv⟩ := hq
      simp only [List.mem_cons, List.not_mem_nil, or_false] at hp
      rcases hp with rfl
      · obtain rfl := hd_keys hk
        cases v with
        | none => exact hv.elim
        | some w9 =>
          obtain ⟨r, rfl, hP⟩ := hv
          obtain ⟨v0, e0, l0, u0⟩ := hP _ (List.mem_cons_self)
          have g0 : 1 * r.toInt + 0 = v0 := Option.some.inj e0
          exact ret0 r _ ⟨by rw [g0]; exact l0, by rw [g0]; exact u0⟩ hM2
  · intro u hu
    cases hu
theorem sg_ln2a_run (G : sx_G0 g L xs zK hd_T ex_mt) (hct : ∀ (mi : Nat) (T2 : ex_T) (c' : sx_Ct), ex_mt mi = some T2 → c' ∈ k9 mi → c'.1 < 0 → sx_Holds g zK hd_T T2 c') {σ : am_S} {lw : List (Nat × Value)} {post : Option (Option Value) → am_S → Prop} (hM : sx_M zK hd_T σ 0 0 σ) (hl : (0, Value.ref 118) ∈ lw) (bp121_0 : 10 ≤ (σ.2.1 121 0).toInt ∧ (σ.2.1 121 0).toInt ≤ 10) {n0 : Int32} (bk0 : 1 ≤ n0.toInt ∧ n0.toInt ≤ 1) (ret0 : ∀ (r : Int32) (σ' : am_S), (0 ≤ 1 * r.toInt + 0 ∧ 1 * r.toInt + 0 ≤ 0) → (4 ≤ 1 * (σ'.2.1 118 13).toInt + 0 ∧ 1 * (σ'.2.1 118 13).toInt + 0 ≤ 4) → (0 ≤ 1 * (σ.2.1 118 10).toInt + ((-1) * (σ'.2.1 118 14).toInt + 0) ∧ 1 * (σ.2.1 118 10).toInt + ((-1) * (σ'.2.1 118 14).toInt + 0) ≤ 0) → sx_M zK hd_T σ 28858891257124862704305937573347373392392387160985434571251191458187784500608308553281933292152037822856416985088 0 σ' → post (some (some (.int r))) σ') : am_K g 20 tX12_line.1 0 0 7 lw [.int n0] σ post := by
  refine sg_seg (sw := [.int n0]) (vs := [(σ.2.1 121 0).toInt, (σ.2.1 118 10).toInt]) (ws := [n0.toInt]) G (mi := 132) rfl hct sg_ln2a_ok ⟨rfl, ⟨rfl, trivial⟩⟩ (hd_refs hl) ⟨⟨n0, rfl, rfl⟩, trivial⟩ (hd_p1 rfl bp121_0.1 bp121_0.2 (hd_p1 rfl (hd_kd_118_10 hM).1 (hd_kd_118_10 hM).2 (hd_p1 rfl bk0.1 bk0.2 hd_p0))) hM ?_ ?_
  · intro r σ' hq
    cases r with
    | none => exact hq.elim
    | some v =>
      obtain ⟨p, hp, hM2, ks, hk, hv⟩ := hq
      simp only [List.mem_cons, List.not_mem_nil, or_false] at hp
      rcases hp with rfl
      · obtain ⟨ks0, rfl, hk1⟩ := hd_keyc hk; obtain ⟨ks1, rfl, hk2⟩ := hd_keyc hk1; obtain rfl := hd_keys hk2
        cases v with
        | none => exact hv.elim
        | some w9 =>
          obtain ⟨r, rfl, hP⟩ := hv
          obtain ⟨v0, e0, l0, u0⟩ := hP _ (List.mem_cons_self)
          have g0 : 1 * r.toInt + 0 = v0 := Option.some.inj e0
          obtain ⟨v1, e1, l1, u1⟩ := hP _ (List.mem_cons_of_mem _ (List.mem_cons_self))
          have g1 : 1 * (σ'.2.1 118 13).toInt + 0 = v1 := Option.some.inj e1
          obtain ⟨v2, e2, l2, u2⟩ := hP _ (List.mem_cons_of_mem _ (List.mem_cons_of_mem _ (List.mem_cons_self)))
          have g2 : 1 * (σ.2.1 118 10).toInt + ((-1) * (σ'.2.1 118 14).toInt + 0) = v2 := Option.some.inj e2
          exact ret0 r _ ⟨by rw [g0]; exact l0, by rw [g0]; exact u0⟩ ⟨by rw [g1]; exact l1, by rw [g1]; exact u1⟩ ⟨by rw [g2]; exact l2, by rw [g2]; exact u2⟩ hM2
  · intro u hu
    cases hu
theorem sg_ln2b_run (G : sx_G0 g L xs zK hd_T ex_mt) (hct : ∀ (mi : Nat) (T2 : ex_T) (c' : sx_Ct), ex_mt mi = some T2 → c' ∈ k9 mi → c'.1 < 0 → sx_Holds g zK hd_T T2 c') {σ : am_S} {lw : List (Nat × Value)} {post : Option (Option Value) → am_S → Prop} (hM : sx_M zK hd_T σ 0 0 σ) (hl : (0, Value.ref 118) ∈ lw) (bp121_0 : 0 ≤ (σ.2.1 121 0).toInt ∧ (σ.2.1 121 0).toInt ≤ 9) {n0 : Int32} (bk0 : 1 ≤ n0.toInt ∧ n0.toInt ≤ 1) (cuta : ∀ (lw' : List (Nat × Value)) (m1' : Int32) (σ' : am_S), (0, Value.ref 118) ∈ lw' → (1, Value.int m1') ∈ lw' → (0 ≤ 1 * (σ.2.1 121 0).toInt + ((-1) * m1'.toInt + 0) ∧ 1 * (σ.2.1 121 0).toInt + ((-1) * m1'.toInt + 0) ≤ 0) → sx_M zK hd_T σ 0 0 σ' → am_K g 20 tX12_line.1 0 0 30 lw' [.ref 118] σ' post) : am_K g 20 tX12_line.1 0 0 7 lw [.int n0] σ post := by
  refine sg_seg (sw := [.int n0]) (vs := [(σ.2.1 121 0).toInt, (σ.2.1 118 10).toInt]) (ws := [n0.toInt]) G (mi := 132) rfl hct sg_ln2b_ok ⟨rfl, ⟨rfl, trivial⟩⟩ (hd_refs hl) ⟨⟨n0, rfl, rfl⟩, trivial⟩ (hd_p1 rfl bp121_0.1 bp121_0.2 (hd_p1 rfl (hd_kd_118_10 hM).1 (hd_kd_118_10 hM).2 (hd_p1 rfl bk0.1 bk0.2 hd_p0))) hM ?_ ?_
  · intro r σ' hq
    cases r with
    | none => exact hq.elim
    | some v =>
      obtain ⟨p, hp, hM2, ks, hk, hv⟩ := hq
      cases hp
  · intro u hu
    simp only [List.mem_cons, List.not_mem_nil, or_false] at hu
    rcases hu with rfl
    · intro lw' sw' vs' ws' σ' ⟨h1_0, h2, h3_0, h4, h5⟩
      obtain ⟨m1', vs1, rfl, hm1, h1_1⟩ := hd_srcl h1_0
      obtain rfl := hd_src0 h1_1
      obtain ⟨sw1, rfl, h3_1⟩ := hd_str h3_0
      obtain ⟨rfl, rfl⟩ := hd_st0 h3_1
      have hr9 := hd_ref0 h2
      obtain ⟨v0, e0, l0, u0⟩ := h4 _ (List.mem_cons_self)
      have g0 : 1 * (σ.2.1 121 0).toInt + ((-1) * m1'.toInt + 0) = v0 := Option.some.inj e0
      exact cuta _ _ _ hr9 hm1 ⟨by rw [g0]; exact l0, by rw [g0]; exact u0⟩ h5
theorem sg_ln2c_run (G : sx_G0 g L xs zK hd_T ex_mt) (hct : ∀ (mi : Nat) (T2 : ex_T) (c' : sx_Ct), ex_mt mi = some T2 → c' ∈ k9 mi → c'.1 < 0 → sx_Holds g zK hd_T T2 c') {σ : am_S} {lw : List (Nat × Value)} {post : Option (Option Value) → am_S → Prop} (hM : sx_M zK hd_T σ 0 0 σ) (hl : (0, Value.ref 118) ∈ lw) {n0 : Int32} (bk0 : 0 ≤ n0.toInt ∧ n0.toInt ≤ 0) (cuta : ∀ (lw' : List (Nat × Value))  (σ' : am_S), (0, Value.ref 118) ∈ lw' → sx_M zK hd_T σ 0 0 σ' → am_K g 20 tX12_line.1 0 0 101 lw' [] σ' post) : am_K g 20 tX12_line.1 0 0 7 lw [.int n0] σ post := by
  refine sg_seg (sw := [.int n0]) (vs := []) (ws := [n0.toInt]) G (mi := 132) rfl hct sg_ln2c_ok trivial (hd_refs hl) ⟨⟨n0, rfl, rfl⟩, trivial⟩ (hd_p1 rfl bk0.1 bk0.2 hd_p0) hM ?_ ?_
  · intro r σ' hq
    cases r with
    | none => exact hq.elim
    | some v =>
      obtain ⟨p, hp, hM2, ks, hk, hv⟩ := hq
      cases hp
  · intro u hu
    simp only [List.mem_cons, List.not_mem_nil, or_false] at hu
    rcases hu with rfl
    · intro lw' sw' vs' ws' σ' ⟨h1_0, h2, h3_0, h4, h5⟩
      obtain rfl := hd_src0 h1_0
      obtain ⟨rfl, rfl⟩ := hd_st0 h3_0
      have hr9 := hd_ref0 h2
      exact cuta _  _ hr9   h5
theorem sg_ln3_run (G : sx_G0 g L xs zK hd_T ex_mt) (hct : ∀ (mi : Nat) (T2 : ex_T) (c' : sx_Ct), ex_mt mi = some T2 → c' ∈ k9 mi → c'.1 < 0 → sx_Holds g zK hd_T T2 c') {σ : am_S} {lw : List (Nat × Value)} {post : Option (Option Value) → am_S → Prop} (hM : sx_M zK hd_T σ 0 0 σ) (hl : (0, Value.ref 118) ∈ lw) {m1 : Int32} (hl1 : (1, Value.int m1) ∈ lw) (bl1 : 0 ≤ m1.toInt ∧ m1.toInt ≤ 9) (cuta : ∀ (lw' : List (Nat × Value)) (m1' : Int32) (n0' : Int32) (n1' : Int32) (n2' : Int32) (σ' : am_S), (0, Value.ref 118) ∈ lw' → (1, Value.int m1') ∈ lw' → (99 ≤ 1 * n0'.toInt + 0 ∧ 1 * n0'.toInt + 0 ≤ 99) → (1 ≤ 1 * n1'.toInt + 0 ∧ 1 * n1'.toInt + 0 ≤ 1) → ((-2) ≤ 1 * m1.toInt + ((-1) * n2'.toInt + 0) ∧ 1 * m1.toInt + ((-1) * n2'.toInt + 0) ≤ (-2)) → (0 ≤ 1 * m1.toInt + ((-1) * m1'.toInt + 0) ∧ 1 * m1.toInt + ((-1) * m1'.toInt + 0) ≤ 0) → sx_M zK hd_T σ 0 0 σ' → am_K g 20 tX12_line.1 0 0 40 lw' [.int n0', .int n1', .int n2', .ref 118] σ' post) : am_K g 20 tX12_line.1 0 0 33 lw [] σ post := by
  refine sg_seg (sw := []) (vs := [m1.toInt]) (ws := []) G (mi := 132) rfl hct sg_ln3_ok ⟨⟨m1, hl1, rfl⟩, trivial⟩ (hd_refs hl) trivial (hd_p1 rfl bl1.1 bl1.2 hd_p0) hM ?_ ?_
  · intro r σ' hq
    cases r with
    | none => exact hq.elim
    | some v =>
      obtain ⟨p, hp, hM2, ks, hk, hv⟩ := hq
      cases hp
  · intro u hu
    simp only [List.mem_cons, List.not_mem_nil, or_false] at hu
    rcases hu with rfl
    · intro lw' sw' vs' ws' σ' ⟨h1_0, h2, h3_0, h4, h5⟩
      obtain ⟨m1', vs1, rfl, hm1, h1_1⟩ := hd_srcl h1_0
      obtain rfl := hd_src0 h1_1
      obtain ⟨n0', sw1, ws1, rfl, rfl, h3_1⟩ := hd_sti h3_0
      obtain ⟨n1', sw2, ws2, rfl, rfl, h3_2⟩ := hd_sti h3_1
      obtain ⟨n2', sw3, ws3, rfl, rfl, h3_3⟩ := hd_sti h3_2
      obtain ⟨sw4, rfl, h3_4⟩ := hd_str h3_3
      obtain ⟨rfl, rfl⟩ := hd_st0 h3_4
      have hr9 := hd_ref0 h2
      obtain ⟨v0, e0, l0, u0⟩ := h4 _ (List.mem_cons_self)
      have g0 : 1 * n0'.toInt + 0 = v0 := Option.some.inj e0
      obtain ⟨v1, e1, l1, u1⟩ := h4 _ (List.mem_cons_of_mem _ (List.mem_cons_self))
      have g1 : 1 * n1'.toInt + 0 = v1 := Option.some.inj e1
      obtain ⟨v2, e2, l2, u2⟩ := h4 _ (List.mem_cons_of_mem _ (List.mem_cons_of_mem _ (List.mem_cons_self)))
      have g2 : 1 * m1.toInt + ((-1) * n2'.toInt + 0) = v2 := Option.some.inj e2
      obtain ⟨v3, e3, l3, u3⟩ := h4 _ (List.mem_cons_of_mem _ (List.mem_cons_of_mem _ (List.mem_cons_of_mem _ (List.mem_cons_self))))
      have g3 : 1 * m1.toInt + ((-1) * m1'.toInt + 0) = v3 := Option.some.inj e3
      exact cuta _ _ _ _ _ _ hr9 hm1 ⟨by rw [g0]; exact l0, by rw [g0]; exact u0⟩ ⟨by rw [g1]; exact l1, by rw [g1]; exact u1⟩ ⟨by rw [g2]; exact l2, by rw [g2]; exact u2⟩ ⟨by rw [g3]; exact l3, by rw [g3]; exact u3⟩ h5
theorem sg_ln4_run (G : sx_G0 g L xs zK hd_T ex_mt) (hct : ∀ (mi : Nat) (T2 : ex_T) (c' : sx_Ct), ex_mt mi = some T2 → c' ∈ k9 mi → c'.1 < 0 → sx_Holds g zK hd_T T2 c') {σ : am_S} {lw : List (Nat × Value)} {post : Option (Option Value) → am_S → Prop} (hM : sx_M zK hd_T σ 0 0 σ) (hl : (0, Value.ref 118) ∈ lw) {m1 : Int32} (hl1 : (1, Value.int m1) ∈ lw) (bl1 : 0 ≤ m1.toInt ∧ m1.toInt ≤ 9) {n0 : Int32} (bk0 : 1 ≤ n0.toInt ∧ n0.toInt ≤ 1) (cuta : ∀ (lw' : List (Nat × Value)) (m1' : Int32) (n0' : Int32) (n1' : Int32) (n2' : Int32) (σ' : am_S), (0, Value.ref 118) ∈ lw' → (1, Value.int m1') ∈ lw' → (9 ≤ 1 * n0'.toInt + 0 ∧ 1 * n0'.toInt + 0 ≤ 9) → (1 ≤ 1 * n1'.toInt + 0 ∧ 1 * n1'.toInt + 0 ≤ 1) → ((-12) ≤ 1 * m1.toInt + ((-1) * n2'.toInt + 0) ∧ 1 * m1.toInt + ((-1) * n2'.toInt + 0) ≤ (-12)) → (0 ≤ 1 * m1.toInt + ((-1) * m1'.toInt + 0) ∧ 1 * m1.toInt + ((-1) * m1'.toInt + 0) ≤ 0) → sx_M zK hd_T σ 0 0 σ' → am_K g 20 tX12_line.1 0 0 54 lw' [.int n0', .int n1', .int n2', .ref 118] σ' post) : am_K g 20 tX12_line.1 0 0 43 lw [.int n0] σ post := by
  refine sg_seg (sw := [.int n0]) (vs := [m1.toInt]) (ws := [n0.toInt]) G (mi := 132) rfl hct sg_ln4_ok ⟨⟨m1, hl1, rfl⟩, trivial⟩ (hd_refs hl) ⟨⟨n0, rfl, rfl⟩, trivial⟩ (hd_p1 rfl bl1.1 bl1.2 (hd_p1 rfl bk0.1 bk0.2 hd_p0)) hM ?_ ?_
  · intro r σ' hq
    cases r with
    | none => exact hq.elim
    | some v =>
      obtain ⟨p, hp, hM2, ks, hk, hv⟩ := hq
      cases hp
  · intro u hu
    simp only [List.mem_cons, List.not_mem_nil, or_false] at hu
    rcases hu with rfl
    · intro lw' sw' vs' ws' σ' ⟨h1_0, h2, h3_0, h4, h5⟩
      obtain ⟨m1', vs1, rfl, hm1, h1_1⟩ := hd_srcl h1_0
      obtain rfl := hd_src0 h1_1
      obtain ⟨n0', sw1, ws1, rfl, rfl, h3_1⟩ := hd_sti h3_0
      obtain ⟨n1', sw2, ws2, rfl, rfl, h3_2⟩ := hd_sti h3_1
      obtain ⟨n2', sw3, ws3, rfl, rfl, h3_3⟩ := hd_sti h3_2
      obtain ⟨sw4, rfl, h3_4⟩ := hd_str h3_3
      obtain ⟨rfl, rfl⟩ := hd_st0 h3_4
      have hr9 := hd_ref0 h2
      obtain ⟨v0, e0, l0, u0⟩ := h4 _ (List.mem_cons_self)
      have g0 : 1 * n0'.toInt + 0 = v0 := Option.some.inj e0
      obtain ⟨v1, e1, l1, u1⟩ := h4 _ (List.mem_cons_of_mem _ (List.mem_cons_self))
      have g1 : 1 * n1'.toInt + 0 = v1 := Option.some.inj e1
      obtain ⟨v2, e2, l2, u2⟩ := h4 _ (List.mem_cons_of_mem _ (List.mem_cons_of_mem _ (List.mem_cons_self)))
      have g2 : 1 * m1.toInt + ((-1) * n2'.toInt + 0) = v2 := Option.some.inj e2
      obtain ⟨v3, e3, l3, u3⟩ := h4 _ (List.mem_cons_of_mem _ (List.mem_cons_of_mem _ (List.mem_cons_of_mem _ (List.mem_cons_self))))
      have g3 : 1 * m1.toInt + ((-1) * m1'.toInt + 0) = v3 := Option.some.inj e3
      exact cuta _ _ _ _ _ _ hr9 hm1 ⟨by rw [g0]; exact l0, by rw [g0]; exact u0⟩ ⟨by rw [g1]; exact l1, by rw [g1]; exact u1⟩ ⟨by rw [g2]; exact l2, by rw [g2]; exact u2⟩ ⟨by rw [g3]; exact l3, by rw [g3]; exact u3⟩ h5
theorem sg_ln4z_run (G : sx_G0 g L xs zK hd_T ex_mt) (hct : ∀ (mi : Nat) (T2 : ex_T) (c' : sx_Ct), ex_mt mi = some T2 → c' ∈ k9 mi → c'.1 < 0 → sx_Holds g zK hd_T T2 c') {σ : am_S} {lw : List (Nat × Value)} {post : Option (Option Value) → am_S → Prop} (hM : sx_M zK hd_T σ 0 0 σ) (hl : (0, Value.ref 118) ∈ lw) {n0 : Int32} (bk0 : 0 ≤ n0.toInt ∧ n0.toInt ≤ 0) (ret0 : ∀ (r : Int32) (σ' : am_S), (0 ≤ 1 * r.toInt + 0 ∧ 1 * r.toInt + 0 ≤ 0) → sx_M zK hd_T σ 0 0 σ' → post (some (some (.int r))) σ') : am_K g 20 tX12_line.1 0 0 43 lw [.int n0] σ post := by
  refine sg_seg (sw := [.int n0]) (vs := []) (ws := [n0.toInt]) G (mi := 132) rfl hct sg_ln4z_ok trivial (hd_refs hl) ⟨⟨n0, rfl, rfl⟩, trivial⟩ (hd_p1 rfl bk0.1 bk0.2 hd_p0) hM ?_ ?_
  · intro r σ' hq
    cases r with
    | none => exact hq.elim
    | some v =>
      obtain ⟨p, hp, hM2, ks, hk, hv⟩ := hq
      simp only [List.mem_cons, List.not_mem_nil, or_false] at hp
      rcases hp with rfl
      · obtain rfl := hd_keys hk
        cases v with
        | none => exact hv.elim
        | some w9 =>
          obtain ⟨r, rfl, hP⟩ := hv
          obtain ⟨v0, e0, l0, u0⟩ := hP _ (List.mem_cons_self)
          have g0 : 1 * r.toInt + 0 = v0 := Option.some.inj e0
          exact ret0 r _ ⟨by rw [g0]; exact l0, by rw [g0]; exact u0⟩ hM2
  · intro u hu
    cases hu
theorem sg_ln5_run (G : sx_G0 g L xs zK hd_T ex_mt) (hct : ∀ (mi : Nat) (T2 : ex_T) (c' : sx_Ct), ex_mt mi = some T2 → c' ∈ k9 mi → c'.1 < 0 → sx_Holds g zK hd_T T2 c') {σ : am_S} {lw : List (Nat × Value)} {post : Option (Option Value) → am_S → Prop} (hM : sx_M zK hd_T σ 0 0 σ) (hl : (0, Value.ref 118) ∈ lw) {m1 : Int32} (hl1 : (1, Value.int m1) ∈ lw) (bl1 : 0 ≤ m1.toInt ∧ m1.toInt ≤ 9) {n0 : Int32} (bk0 : 1 ≤ n0.toInt ∧ n0.toInt ≤ 1) (cuta : ∀ (lw' : List (Nat × Value)) (m1' : Int32) (n0' : Int32) (n1' : Int32) (n2' : Int32) (σ' : am_S), (0, Value.ref 118) ∈ lw' → (1, Value.int m1') ∈ lw' → (3 ≤ 1 * n0'.toInt + 0 ∧ 1 * n0'.toInt + 0 ≤ 3) → (0 ≤ 1 * n1'.toInt + 0 ∧ 1 * n1'.toInt + 0 ≤ 0) → ((-22) ≤ 1 * m1.toInt + ((-1) * n2'.toInt + 0) ∧ 1 * m1.toInt + ((-1) * n2'.toInt + 0) ≤ (-22)) → (0 ≤ 1 * m1.toInt + ((-1) * m1'.toInt + 0) ∧ 1 * m1.toInt + ((-1) * m1'.toInt + 0) ≤ 0) → sx_M zK hd_T σ 0 0 σ' → am_K g 20 tX12_line.1 0 0 67 lw' [.int n0', .int n1', .int n2', .ref 118] σ' post) : am_K g 20 tX12_line.1 0 0 57 lw [.int n0] σ post := by
  refine sg_seg (sw := [.int n0]) (vs := [m1.toInt]) (ws := [n0.toInt]) G (mi := 132) rfl hct sg_ln5_ok ⟨⟨m1, hl1, rfl⟩, trivial⟩ (hd_refs hl) ⟨⟨n0, rfl, rfl⟩, trivial⟩ (hd_p1 rfl bl1.1 bl1.2 (hd_p1 rfl bk0.1 bk0.2 hd_p0)) hM ?_ ?_
  · intro r σ' hq
    cases r with
    | none => exact hq.elim
    | some v =>
      obtain ⟨p, hp, hM2, ks, hk, hv⟩ := hq
      cases hp
  · intro u hu
    simp only [List.mem_cons, List.not_mem_nil, or_false] at hu
    rcases hu with rfl
    · intro lw' sw' vs' ws' σ' ⟨h1_0, h2, h3_0, h4, h5⟩
      obtain ⟨m1', vs1, rfl, hm1, h1_1⟩ := hd_srcl h1_0
      obtain rfl := hd_src0 h1_1
      obtain ⟨n0', sw1, ws1, rfl, rfl, h3_1⟩ := hd_sti h3_0
      obtain ⟨n1', sw2, ws2, rfl, rfl, h3_2⟩ := hd_sti h3_1
      obtain ⟨n2', sw3, ws3, rfl, rfl, h3_3⟩ := hd_sti h3_2
      obtain ⟨sw4, rfl, h3_4⟩ := hd_str h3_3
      obtain ⟨rfl, rfl⟩ := hd_st0 h3_4
      have hr9 := hd_ref0 h2
      obtain ⟨v0, e0, l0, u0⟩ := h4 _ (List.mem_cons_self)
      have g0 : 1 * n0'.toInt + 0 = v0 := Option.some.inj e0
      obtain ⟨v1, e1, l1, u1⟩ := h4 _ (List.mem_cons_of_mem _ (List.mem_cons_self))
      have g1 : 1 * n1'.toInt + 0 = v1 := Option.some.inj e1
      obtain ⟨v2, e2, l2, u2⟩ := h4 _ (List.mem_cons_of_mem _ (List.mem_cons_of_mem _ (List.mem_cons_self)))
      have g2 : 1 * m1.toInt + ((-1) * n2'.toInt + 0) = v2 := Option.some.inj e2
      obtain ⟨v3, e3, l3, u3⟩ := h4 _ (List.mem_cons_of_mem _ (List.mem_cons_of_mem _ (List.mem_cons_of_mem _ (List.mem_cons_self))))
      have g3 : 1 * m1.toInt + ((-1) * m1'.toInt + 0) = v3 := Option.some.inj e3
      exact cuta _ _ _ _ _ _ hr9 hm1 ⟨by rw [g0]; exact l0, by rw [g0]; exact u0⟩ ⟨by rw [g1]; exact l1, by rw [g1]; exact u1⟩ ⟨by rw [g2]; exact l2, by rw [g2]; exact u2⟩ ⟨by rw [g3]; exact l3, by rw [g3]; exact u3⟩ h5
theorem sg_ln5z_run (G : sx_G0 g L xs zK hd_T ex_mt) (hct : ∀ (mi : Nat) (T2 : ex_T) (c' : sx_Ct), ex_mt mi = some T2 → c' ∈ k9 mi → c'.1 < 0 → sx_Holds g zK hd_T T2 c') {σ : am_S} {lw : List (Nat × Value)} {post : Option (Option Value) → am_S → Prop} (hM : sx_M zK hd_T σ 0 0 σ) (hl : (0, Value.ref 118) ∈ lw) {n0 : Int32} (bk0 : 0 ≤ n0.toInt ∧ n0.toInt ≤ 0) (ret0 : ∀ (r : Int32) (σ' : am_S), (0 ≤ 1 * r.toInt + 0 ∧ 1 * r.toInt + 0 ≤ 0) → sx_M zK hd_T σ 0 0 σ' → post (some (some (.int r))) σ') : am_K g 20 tX12_line.1 0 0 57 lw [.int n0] σ post := by
  refine sg_seg (sw := [.int n0]) (vs := []) (ws := [n0.toInt]) G (mi := 132) rfl hct sg_ln5z_ok trivial (hd_refs hl) ⟨⟨n0, rfl, rfl⟩, trivial⟩ (hd_p1 rfl bk0.1 bk0.2 hd_p0) hM ?_ ?_
  · intro r σ' hq
    cases r with
    | none => exact hq.elim
    | some v =>
      obtain ⟨p, hp, hM2, ks, hk, hv⟩ := hq
      simp only [List.mem_cons, List.not_mem_nil, or_false] at hp
      rcases hp with rfl
      · obtain rfl := hd_keys hk
        cases v with
        | none => exact hv.elim
        | some w9 =>
          obtain ⟨r, rfl, hP⟩ := hv
          obtain ⟨v0, e0, l0, u0⟩ := hP _ (List.mem_cons_self)
          have g0 : 1 * r.toInt + 0 = v0 := Option.some.inj e0
          exact ret0 r _ ⟨by rw [g0]; exact l0, by rw [g0]; exact u0⟩ hM2
  · intro u hu
    cases hu
theorem sg_ln6_run (G : sx_G0 g L xs zK hd_T ex_mt) (hct : ∀ (mi : Nat) (T2 : ex_T) (c' : sx_Ct), ex_mt mi = some T2 → c' ∈ k9 mi → c'.1 < 0 → sx_Holds g zK hd_T T2 c') {σ : am_S} {lw : List (Nat × Value)} {post : Option (Option Value) → am_S → Prop} (hM : sx_M zK hd_T σ 0 0 σ) (hl : (0, Value.ref 118) ∈ lw) {m1 : Int32} (hl1 : (1, Value.int m1) ∈ lw) (bl1 : 0 ≤ m1.toInt ∧ m1.toInt ≤ 9) {n0 : Int32} (bk0 : 1 ≤ n0.toInt ∧ n0.toInt ≤ 1) (cuta : ∀ (lw' : List (Nat × Value)) (m1' : Int32) (n0' : Int32) (n1' : Int32) (n2' : Int32) (σ' : am_S), (0, Value.ref 118) ∈ lw' → (1, Value.int m1') ∈ lw' → (99 ≤ 1 * n0'.toInt + 0 ∧ 1 * n0'.toInt + 0 ≤ 99) → (0 ≤ 1 * n1'.toInt + 0 ∧ 1 * n1'.toInt + 0 ≤ 0) → ((-32) ≤ 1 * m1.toInt + ((-1) * n2'.toInt + 0) ∧ 1 * m1.toInt + ((-1) * n2'.toInt + 0) ≤ (-32)) → (0 ≤ 1 * m1.toInt + ((-1) * m1'.toInt + 0) ∧ 1 * m1.toInt + ((-1) * m1'.toInt + 0) ≤ 0) → sx_M zK hd_T σ 0 0 σ' → am_K g 20 tX12_line.1 0 0 81 lw' [.int n0', .int n1', .int n2', .ref 118] σ' post) : am_K g 20 tX12_line.1 0 0 70 lw [.int n0] σ post := by
  refine sg_seg (sw := [.int n0]) (vs := [m1.toInt]) (ws := [n0.toInt]) G (mi := 132) rfl hct sg_ln6_ok ⟨⟨m1, hl1, rfl⟩, trivial⟩ (hd_refs hl) ⟨⟨n0, rfl, rfl⟩, trivial⟩ (hd_p1 rfl bl1.1 bl1.2 (hd_p1 rfl bk0.1 bk0.2 hd_p0)) hM ?_ ?_
  · intro r σ' hq
    cases r with
    | none => exact hq.elim
    | some v =>
      obtain ⟨p, hp, hM2, ks, hk, hv⟩ := hq
      cases hp
  · intro u hu
    simp only [List.mem_cons, List.not_mem_nil, or_false] at hu
    rcases hu with rfl
    · intro lw' sw' vs' ws' σ' ⟨h1_0, h2, h3_0, h4, h5⟩
      obtain ⟨m1', vs1, rfl, hm1, h1_1⟩ := hd_srcl h1_0
      obtain rfl := hd_src0 h1_1
      obtain ⟨n0', sw1, ws1, rfl, rfl, h3_1⟩ := hd_sti h3_0
      obtain ⟨n1', sw2, ws2, rfl, rfl, h3_2⟩ := hd_sti h3_1
      obtain ⟨n2', sw3, ws3, rfl, rfl, h3_3⟩ := hd_sti h3_2
      obtain ⟨sw4, rfl, h3_4⟩ := hd_str h3_3
      obtain ⟨rfl, rfl⟩ := hd_st0 h3_4
      have hr9 := hd_ref0 h2
      obtain ⟨v0, e0, l0, u0⟩ := h4 _ (List.mem_cons_self)
      have g0 : 1 * n0'.toInt + 0 = v0 := Option.some.inj e0
      obtain ⟨v1, e1, l1, u1⟩ := h4 _ (List.mem_cons_of_mem _ (List.mem_cons_self))
      have g1 : 1 * n1'.toInt + 0 = v1 := Option.some.inj e1
      obtain ⟨v2, e2, l2, u2⟩ := h4 _ (List.mem_cons_of_mem _ (List.mem_cons_of_mem _ (List.mem_cons_self)))
      have g2 : 1 * m1.toInt + ((-1) * n2'.toInt + 0) = v2 := Option.some.inj e2
      obtain ⟨v3, e3, l3, u3⟩ := h4 _ (List.mem_cons_of_mem _ (List.mem_cons_of_mem _ (List.mem_cons_of_mem _ (List.mem_cons_self))))
      have g3 : 1 * m1.toInt + ((-1) * m1'.toInt + 0) = v3 := Option.some.inj e3
      exact cuta _ _ _ _ _ _ hr9 hm1 ⟨by rw [g0]; exact l0, by rw [g0]; exact u0⟩ ⟨by rw [g1]; exact l1, by rw [g1]; exact u1⟩ ⟨by rw [g2]; exact l2, by rw [g2]; exact u2⟩ ⟨by rw [g3]; exact l3, by rw [g3]; exact u3⟩ h5
theorem sg_ln6z_run (G : sx_G0 g L xs zK hd_T ex_mt) (hct : ∀ (mi : Nat) (T2 : ex_T) (c' : sx_Ct), ex_mt mi = some T2 → c' ∈ k9 mi → c'.1 < 0 → sx_Holds g zK hd_T T2 c') {σ : am_S} {lw : List (Nat × Value)} {post : Option (Option Value) → am_S → Prop} (hM : sx_M zK hd_T σ 0 0 σ) (hl : (0, Value.ref 118) ∈ lw) {n0 : Int32} (bk0 : 0 ≤ n0.toInt ∧ n0.toInt ≤ 0) (ret0 : ∀ (r : Int32) (σ' : am_S), (0 ≤ 1 * r.toInt + 0 ∧ 1 * r.toInt + 0 ≤ 0) → sx_M zK hd_T σ 0 0 σ' → post (some (some (.int r))) σ') : am_K g 20 tX12_line.1 0 0 70 lw [.int n0] σ post := by
  refine sg_seg (sw := [.int n0]) (vs := []) (ws := [n0.toInt]) G (mi := 132) rfl hct sg_ln6z_ok trivial (hd_refs hl) ⟨⟨n0, rfl, rfl⟩, trivial⟩ (hd_p1 rfl bk0.1 bk0.2 hd_p0) hM ?_ ?_
  · intro r σ' hq
    cases r with
    | none => exact hq.elim
    | some v =>
      obtain ⟨p, hp, hM2, ks, hk, hv⟩ := hq
      simp only [List.mem_cons, List.not_mem_nil, or_false] at hp
      rcases hp with rfl
      · obtain rfl := hd_keys hk
        cases v with
        | none => exact hv.elim
        | some w9 =>
          obtain ⟨r, rfl, hP⟩ := hv
          obtain ⟨v0, e0, l0, u0⟩ := hP _ (List.mem_cons_self)
          have g0 : 1 * r.toInt + 0 = v0 := Option.some.inj e0
          exact ret0 r _ ⟨by rw [g0]; exact l0, by rw [g0]; exact u0⟩ hM2
  · intro u hu
    cases hu
theorem sg_ln7z_run (G : sx_G0 g L xs zK hd_T ex_mt) (hct : ∀ (mi : Nat) (T2 : ex_T) (c' : sx_Ct), ex_mt mi = some T2 → c' ∈ k9 mi → c'.1 < 0 → sx_Holds g zK hd_T T2 c') {σ : am_S} {lw : List (Nat × Value)} {post : Option (Option Value) → am_S → Prop} (hM : sx_M zK hd_T σ 0 0 σ) (hl : (0, Value.ref 118) ∈ lw) {n0 : Int32} (bk0 : 0 ≤ n0.toInt ∧ n0.toInt ≤ 0) (ret0 : ∀ (r : Int32) (σ' : am_S), (0 ≤ 1 * r.toInt + 0 ∧ 1 * r.toInt + 0 ≤ 0) → sx_M zK hd_T σ 0 0 σ' → post (some (some (.int r))) σ') : am_K g 20 tX12_line.1 0 0 84 lw [.int n0] σ post := by
  refine sg_seg (sw := [.int n0]) (vs := []) (ws := [n0.toInt]) G (mi := 132) rfl hct sg_ln7z_ok trivial (hd_refs hl) ⟨⟨n0, rfl, rfl⟩, trivial⟩ (hd_p1 rfl bk0.1 bk0.2 hd_p0) hM ?_ ?_
  · intro r σ' hq
    cases r with
    | none => exact hq.elim
    | some v =>
      obtain ⟨p, hp, hM2, ks, hk, hv⟩ := hq
      simp only [List.mem_cons, List.not_mem_nil, or_false] at hp
      rcases hp with rfl
      · obtain rfl := hd_keys hk
        cases v with
        | none => exact hv.elim
        | some w9 =>
          obtain ⟨r, rfl, hP⟩ := hv
          obtain ⟨v0, e0, l0, u0⟩ := hP _ (List.mem_cons_self)
          have g0 : 1 * r.toInt + 0 = v0 := Option.some.inj e0
          exact ret0 r _ ⟨by rw [g0]; exact l0, by rw [g0]; exact u0⟩ hM2
  · intro u hu
    cases hu
theorem sg_ln7_run (G : sx_G0 g L xs zK hd_T ex_mt) (hct : ∀ (mi : Nat) (T2 : ex_T) (c' : sx_Ct), ex_mt mi = some T2 → c' ∈ k9 mi → c'.1 < 0 → sx_Holds g zK hd_T T2 c') {σ : am_S} {lw : List (Nat × Value)} {post : Option (Option Value) → am_S → Prop} (hM : sx_M zK hd_T σ 0 0 σ) (hl : (0, Value.ref 118) ∈ lw) (bp121_0 : 0 ≤ (σ.2.1 121 0).toInt ∧ (σ.2.1 121 0).toInt ≤ 9) {n0 : Int32} (bk0 : 1 ≤ n0.toInt ∧ n0.toInt ≤ 1) (ret0 : ∀ (r : Int32) (σ' : am_S), (1 ≤ 1 * r.toInt + 0 ∧ 1 * r.toInt + 0 ≤ 1) → ((-1) ≤ 1 * (σ.2.1 121 0).toInt + ((-1) * (σ'.2.1 121 0).toInt + 0) ∧ 1 * (σ.2.1 121 0).toInt + ((-1) * (σ'.2.1 121 0).toInt + 0) ≤ (-1)) → sx_M zK hd_T σ 2772669694120814859578414184143083703436437075375816575170479580614621307805625623039974406104139578097391210961403571828974157824 0 σ' → post (some (some (.int r))) σ') : am_K g 20 tX12_line.1 0 0 84 lw [.int n0] σ post := by
  refine sg_seg (sw := [.int n0]) (vs := [(σ.2.1 121 0).toInt]) (ws := [n0.toInt]) G (mi := 132) rfl hct sg_ln7_ok ⟨rfl, trivial⟩ (hd_refs hl) ⟨⟨n0, rfl, rfl⟩, trivial⟩ (hd_p1 rfl bp121_0.1 bp121_0.2 (hd_p1 rfl bk0.1 bk0.2 hd_p0)) hM ?_ ?_
  · intro r σ' hq
    cases r with
    | none => exact hq.elim
    | some v =>
      obtain ⟨p, hp, hM2, ks, hk, hv⟩ := hq
      simp only [List.mem_cons, List.not_mem_nil, or_false] at hp
      rcases hp with rfl
      · obtain ⟨ks0, rfl, hk1⟩ := hd_keyc hk; obtain rfl := hd_keys hk1
        cases v with
        | none => exact hv.elim
        | some w9 =>
          obtain ⟨r, rfl, hP⟩ := hv
          obtain ⟨v0, e0, l0, u0⟩ := hP _ (List.mem_cons_self)
          have g0 : 1 * r.toInt + 0 = v0 := Option.some.inj e0
          obtain ⟨v1, e1, l1, u1⟩ := hP _ (List.mem_cons_of_mem _ (List.mem_cons_self))
          have g1 : 1 * (σ.2.1 121 0).toInt + ((-1) * (σ'.2.1 121 0).toInt + 0) = v1 := Option.some.inj e1
          exact ret0 r _ ⟨by rw [g0]; exact l0, by rw [g0]; exact u0⟩ ⟨by rw [g1]; exact l1, by rw [g1]; exact u1⟩ hM2
  · intro u hu
    cases hu
theorem sg_ln8a_run (G : sx_G0 g L xs zK hd_T ex_mt) (hct : ∀ (mi : Nat) (T2 : ex_T) (c' : sx_Ct), ex_mt mi = some T2 → c' ∈ k9 mi → c'.1 < 0 → sx_Holds g zK hd_T T2 c') {σ : am_S} {lw : List (Nat × Value)} {post : Option (Option Value) → am_S → Prop} (hM : sx_M zK hd_T σ 0 0 σ) (hl : (0, Value.ref 118) ∈ lw) (bp121_1 : 6 ≤ (σ.2.1 121 1).toInt ∧ (σ.2.1 121 1).toInt ≤ 6) {n0 : Int32} (bk0 : 1 ≤ n0.toInt ∧ n0.toInt ≤ 1) (ret0 : ∀ (r : Int32) (σ' : am_S), (0 ≤ 1 * r.toInt + 0 ∧ 1 * r.toInt + 0 ≤ 0) → (4 ≤ 1 * (σ'.2.1 118 13).toInt + 0 ∧ 1 * (σ'.2.1 118 13).toInt + 0 ≤ 4) → (0 ≤ 1 * (σ.2.1 118 10).toInt + ((-1) * (σ'.2.1 118 14).toInt + 0) ∧ 1 * (σ.2.1 118 10).toInt + ((-1) * (σ'.2.1 118 14).toInt + 0) ≤ 0) → sx_M zK hd_T σ 28858891257124862704305937573347373392392387160985434571251191458187784500608308553281933292152037822856416985088 0 σ' → post (some (some (.int r))) σ') : am_K g 20 tX12_line.1 0 0 108 lw [.int n0] σ post := by
  refine sg_seg (sw := [.int n0]) (vs := [(σ.2.1 121 1).toInt, (σ.2.1 118 10).toInt]) (ws := [n0.toInt]) G (mi := 132) rfl hct sg_ln8a_ok ⟨rfl, ⟨rfl, trivial⟩⟩ (hd_refs hl) ⟨⟨n0, rfl, rfl⟩, trivial⟩ (hd_p1 rfl bp121_1.1 bp121_1.2 (hd_p1 rfl (hd_kd_118_10 hM).1 (hd_kd_118_10 hM).2 (hd_p1 rfl bk0.1 bk0.2 hd_p0))) hM ?_ ?_
  · intro r σ' hq
    cases r with
    | none => exact hq.elim
    | some v =>
      obtain ⟨p, hp, hM2, ks, hk, hv⟩ := hq
      simp only [List.mem_cons, List.not_mem_nil, or_false] at hp
      rcases hp with rfl
      · obtain ⟨ks0, rfl, hk1⟩ := hd_keyc hk; obtain ⟨ks1, rfl, hk2⟩ := hd_keyc hk1; obtain rfl := hd_keys hk2
        cases v with
        | none => exact hv.elim
        | some w9 =>
          obtain ⟨r, rfl, hP⟩ := hv
          obtain ⟨v0, e0, l0, u0⟩ := hP _ (List.mem_cons_self)
          have g0 : 1 * r.toInt + 0 = v0 := Option.some.inj e0
          obtain ⟨v1, e1, l1, u1⟩ := hP _ (List.mem_cons_of_mem _ (List.mem_cons_self))
          have g1 : 1 * (σ'.2.1 118 13).toInt + 0 = v1 := Option.some.inj e1
          obtain ⟨v2, e2, l2, u2⟩ := hP _ (List.mem_cons_of_mem _ (List.mem_cons_of_mem _ (List.mem_cons_self)))
          have g2 : 1 * (σ.2.1 118 10).toInt + ((-1) * (σ'.2.1 118 14).toInt + 0) = v2 := Option.some.inj e2
          exact ret0 r _ ⟨by rw [g0]; exact l0, by rw [g0]; exact u0⟩ ⟨by rw [g1]; exact l1, by rw [g1]; exact u1⟩ ⟨by rw [g2]; exact l2, by rw [g2]; exact u2⟩ hM2
  · intro u hu
    cases hu
theorem sg_ln8b_run (G : sx_G0 g L xs zK hd_T ex_mt) (hct : ∀ (mi : Nat) (T2 : ex_T) (c' : sx_Ct), ex_mt mi = some T2 → c' ∈ k9 mi → c'.1 < 0 → sx_Holds g zK hd_T T2 c') {σ : am_S} {lw : List (Nat × Value)} {post : Option (Option Value) → am_S → Prop} (hM : sx_M zK hd_T σ 0 0 σ) (hl : (0, Value.ref 118) ∈ lw) (bp121_1 : 0 ≤ (σ.2.1 121 1).toInt ∧ (σ.2.1 121 1).toInt ≤ 5) {n0 : Int32} (bk0 : 1 ≤ n0.toInt ∧ n0.toInt ≤ 1) (cuta : ∀ (lw' : List (Nat × Value)) (m1' : Int32) (σ' : am_S), (0, Value.ref 118) ∈ lw' → (1, Value.int m1') ∈ lw' → (0 ≤ 1 * (σ.2.1 121 1).toInt + ((-1) * m1'.toInt + 0) ∧ 1 * (σ.2.1 121 1).toInt + ((-1) * m1'.toInt + 0) ≤ 0) → sx_M zK hd_T σ 0 0 σ' → am_K g 20 tX12_line.1 0 0 131 lw' [.ref 118] σ' post) : am_K g 20 tX12_line.1 0 0 108 lw [.int n0] σ post := by
  refine sg_seg (sw := [.int n0]) (vs := [(σ.2.1 121 1).toInt, (σ.2.1 118 10).toInt]) (ws := [n0.toInt]) G (mi := 132) rfl hct sg_ln8b_ok ⟨rfl, ⟨rfl, trivial⟩⟩ (hd_refs hl) ⟨⟨n0, rfl, rfl⟩, trivial⟩ (hd_p1 rfl bp121_1.1 bp121_1.2 (hd_p1 rfl (hd_kd_118_10 hM).1 (hd_kd_118_10 hM).2 (hd_p1 rfl bk0.1 bk0.2 hd_p0))) hM ?_ ?_
  · intro r σ' hq
    cases r with
    | none => exact hq.elim
    | some v =>
      obtain ⟨p, hp, hM2, ks, hk, hv⟩ := hq
      cases hp
  · intro u hu
    simp only [List.mem_cons, List.not_mem_nil, or_false] at hu
    rcases hu with rfl
    · intro lw' sw' vs' ws' σ' ⟨h1_0, h2, h3_0, h4, h5⟩
      obtain ⟨m1', vs1, rfl, hm1, h1_1⟩ := hd_srcl h1_0
      obtain rfl := hd_src0 h1_1
      obtain ⟨sw1, rfl, h3_1⟩ := hd_str h3_0
      obtain ⟨rfl, rfl⟩ := hd_st0 h3_1
      have hr9 := hd_ref0 h2
      obtain ⟨v0, e0, l0, u0⟩ := h4 _ (List.mem_cons_self)
      have g0 : 1 * (σ.2.1 121 1).toInt + ((-1) * m1'.toInt + 0) = v0 := Option.some.inj e0
      exact cuta _ _ _ hr9 hm1 ⟨by rw [g0]; exact l0, by rw [g0]; exact u0⟩ h5
end HR
