/-! segments of the class's SENTENCE (written by a program) -/
theorem hd_kd_62_3 {C9 : Nat → am_S → Prop} {cl : List sx_Cl} {cu : List (Nat × Nat × Nat × Nat)} {σe σ : am_S} {m : Nat} (h : sx_M (z9.1, z9.2.1, z9.2.2.1, z9.2.2.2.1, cl, cu, z9.2.2.2.2.2.2) C9 σe m 0 σ) : (-2147483648 : Int) ≤ (σ.2.1 62 3).toInt ∧ (σ.2.1 62 3).toInt ≤ (2147483647 : Int) := h.2.2.1 62 3 _ _ 211 rfl
theorem hd_kd_65_3 {C9 : Nat → am_S → Prop} {cl : List sx_Cl} {cu : List (Nat × Nat × Nat × Nat)} {σe σ : am_S} {m : Nat} (h : sx_M (z9.1, z9.2.1, z9.2.2.1, z9.2.2.2.1, cl, cu, z9.2.2.2.2.2.2) C9 σe m 0 σ) : (-2147483648 : Int) ≤ (σ.2.1 65 3).toInt ∧ (σ.2.1 65 3).toInt ≤ (2147483647 : Int) := h.2.2.1 65 3 _ _ 217 rfl
def sg_rfu : sg_Cu := (0, 0, [(0, .inr (some (false, 3)))], ([.inl 1, .inr 196612], [([(.ofNat 1, 0)], .negSucc 2147483647, .ofNat 2147483647), ([(.ofNat 1, 1)], .negSucc 2147483647, .ofNat 2147483647)]), [])
def sg_rfu_p0 : sx_Po := (402653184, true, [196615, 196616], [([(.ofNat 1, 2)], .ofNat 0, .ofNat 0), ([(.ofNat 1, 0), (.negSucc 0, 3)], .ofNat 0, .ofNat 0), ([(.ofNat 1, 1), (.negSucc 0, 4)], .ofNat 0, .ofNat 0)])
theorem sg_rfu_ok : sg_chk z9 ex_mt k9 60 tX6_refuse 10 3 sg_rfu [sg_rfu_p0] [] = true := by decide +kernel
def sg_em : sg_Cu := (0, 0, [(0, .inr (some (false, 65)))], ([.inl 1], [([(.ofNat 1, 0)], .negSucc 2147483647, .ofNat 2147483647)]), [])
def sg_em_p0 : sx_Po := (526561458342785933489590138418352161594475477002745556271554887680, false, [], [])
theorem sg_em_ok : sg_chk z9 ex_mt k9 60 tX8_emit 27 12 sg_em [sg_em_p0] [] = true := by decide +kernel
def sg_sf1 : sg_Cu := (0, 0, [(0, .inr (some (false, 3)))], ([], []), [])
def sg_sf1_a : sg_Cu := (3, 0, [(0, .inr (some (false, 3)))], ([], [([(.ofNat 1, 0)], .ofNat 60, .ofNat 60)]), [none, some (false, 3)])
theorem sg_sf1_ok : sg_chk z9 ex_mt k9 60 tX8_signOf 4 12 sg_sf1 [] [sg_sf1_a] = true := by decide +kernel
def sg_sf1y : sg_Cu := (6, 0, [(0, .inr (some (false, 3)))], ([], [([(.ofNat 1, 0)], .ofNat 1, .ofNat 1)]), [none])
def sg_sf1y_p0 : sx_Po := (0, true, [], [([(.ofNat 1, 1)], .ofNat 0, .ofNat 0)])
theorem sg_sf1y_ok : sg_chk z9 ex_mt k9 60 tX8_signOf 4 12 sg_sf1y [sg_sf1y_p0] [] = true := by decide +kernel
def sg_sf1n : sg_Cu := (6, 0, [(0, .inr (some (false, 3)))], ([], [([(.ofNat 1, 0)], .ofNat 0, .ofNat 0)]), [none])
def sg_sf1n_a : sg_Cu := (14, 0, [(0, .inr (some (false, 3)))], ([], [([(.ofNat 1, 1)], .ofNat 61, .ofNat 61)]), [none, some (false, 3)])
theorem sg_sf1n_ok : sg_chk z9 ex_mt k9 60 tX8_signOf 5 12 sg_sf1n [] [sg_sf1n_a] = true := by decide +kernel
def sg_sf2y : sg_Cu := (17, 0, [(0, .inr (some (false, 3)))], ([], [([(.ofNat 1, 0)], .ofNat 1, .ofNat 1)]), [none])
def sg_sf2y_p0 : sx_Po := (0, true, [], [([(.ofNat 1, 1)], .ofNat 1, .ofNat 1)])
theorem sg_sf2y_ok : sg_chk z9 ex_mt k9 60 tX8_signOf 4 12 sg_sf2y [sg_sf2y_p0] [] = true := by decide +kernel
def sg_sf2n : sg_Cu := (17, 0, [(0, .inr (some (false, 3)))], ([], [([(.ofNat 1, 0)], .ofNat 0, .ofNat 0)]), [none])
def sg_sf2n_a : sg_Cu := (25, 0, [(0, .inr (some (false, 3)))], ([], [([(.ofNat 1, 1)], .ofNat 62, .ofNat 62)]), [none, some (false, 3)])
theorem sg_sf2n_ok : sg_chk z9 ex_mt k9 60 tX8_signOf 5 12 sg_sf2n [] [sg_sf2n_a] = true := by decide +kernel
def sg_sf3y : sg_Cu := (28, 0, [(0, .inr (some (false, 3)))], ([], [([(.ofNat 1, 0)], .ofNat 1, .ofNat 1)]), [none])
def sg_sf3y_p0 : sx_Po := (0, true, [], [([(.ofNat 1, 1)], .ofNat 2, .ofNat 2)])
theorem sg_sf3y_ok : sg_chk z9 ex_mt k9 60 tX8_signOf 5 12 sg_sf3y [sg_sf3y_p0] [] = true := by decide +kernel
def sg_sf3n : sg_Cu := (28, 0, [(0, .inr (some (false, 3)))], ([], [([(.ofNat 1, 0)], .ofNat 0, .ofNat 0)]), [none])
def sg_sf3n_p0 : sx_Po := (0, true, [], [([(.ofNat 1, 1)], .negSucc 0, .negSucc 0)])
theorem sg_sf3n_ok : sg_chk z9 ex_mt k9 60 tX8_signOf 4 12 sg_sf3n [sg_sf3n_p0] [] = true := by decide +kernel
def sg_rk1 : sg_Cu := (0, 0, [(0, .inr (some (false, 65))), (1, .inr (some (false, 3)))], ([.inl 2], [([(.ofNat 1, 0)], .negSucc 2147483647, .ofNat 2147483647)]), [])
def sg_rk1_a : sg_Cu := (1, 0, [(0, .inr (some (false, 65))), (1, .inr (some (false, 3)))], ([.inl 2], [([(.ofNat 1, 0), (.negSucc 0, 1)], .ofNat 0, .ofNat 0)]), [some (false, 3)])
theorem sg_rk1_ok : sg_chk z9 ex_mt k9 60 tX8_readComparison 3 25 sg_rk1 [] [sg_rk1_a] = true := by decide +kernel
def sg_rk2n : sg_Cu := (4, 0, [(0, .inr (some (false, 65))), (1, .inr (some (false, 3)))], ([.inr 196612], [([(.ofNat 1, 0)], .negSucc 2147483647, .ofNat 2147483647), ([(.ofNat 1, 1)], .negSucc 0, .negSucc 0)]), [none])
def sg_rk2n_p0 : sx_Po := (402653184, true, [196615, 196616], [([(.ofNat 1, 2)], .ofNat 0, .ofNat 0), ([(.ofNat 1, 3)], .ofNat 1, .ofNat 1), ([(.ofNat 1, 0), (.negSucc 0, 4)], .ofNat 0, .ofNat 0)])
theorem sg_rk2n_ok : sg_chk z9 ex_mt k9 60 tX8_readComparison 18 25 sg_rk2n [sg_rk2n_p0] [] = true := by decide +kernel
def sg_rk2 : sg_Cu := (4, 0, [(0, .inr (some (false, 65))), (1, .inr (some (false, 3)))], ([.inl 2], [([(.ofNat 1, 0)], .negSucc 2147483647, .ofNat 2147483647), ([(.ofNat 1, 1)], .ofNat 0, .ofNat 2)]), [none])
def sg_rk2_a : sg_Cu := (17, 0, [(0, .inr (some (false, 65))), (1, .inr (some (false, 3)))], ([.inl 2, .inl 3], [([(.ofNat 1, 0), (.negSucc 0, 2)], .ofNat 0, .ofNat 0), ([(.ofNat 1, 1), (.negSucc 0, 3)], .ofNat 0, .ofNat 0)]), [some (false, 3)])
theorem sg_rk2_ok : sg_chk z9 ex_mt k9 60 tX8_readComparison 7 25 sg_rk2 [] [sg_rk2_a] = true := by decide +kernel
def sg_rk3 : sg_Cu := (20, 0, [(0, .inr (some (false, 65))), (1, .inr (some (false, 3)))], ([.inl 2, .inl 3], [([(.ofNat 1, 0)], .negSucc 2147483647, .ofNat 2147483647), ([(.ofNat 1, 1)], .negSucc 2147483647, .ofNat 2147483647)]), [])
def sg_rk3_a : sg_Cu := (25, 0, [(0, .inr (some (false, 65))), (1, .inr (some (false, 3)))], ([.inl 2, .inl 3], [([(.ofNat 1, 4)], .ofNat 999, .ofNat 999), ([(.ofNat 1, 5)], .ofNat 0, .ofNat 0), ([(.ofNat 1, 0), (.negSucc 0, 2)], .ofNat 0, .ofNat 0), ([(.ofNat 1, 1), (.negSucc 0, 3)], .ofNat 0, .ofNat 0)]), [none, none, some (false, 3)])
theorem sg_rk3_ok : sg_chk z9 ex_mt k9 60 tX8_readComparison 5 25 sg_rk3 [] [sg_rk3_a] = true := by decide +kernel
def sg_rk4n : sg_Cu := (28, 0, [(0, .inr (some (false, 65))), (1, .inr (some (false, 3)))], ([], [([(.ofNat 1, 0)], .ofNat 0, .ofNat 0)]), [none])
def sg_rk4n_p0 : sx_Po := (0, true, [], [([(.ofNat 1, 1)], .ofNat 0, .ofNat 0)])
theorem sg_rk4n_ok : sg_chk z9 ex_mt k9 60 tX8_readComparison 4 25 sg_rk4n [sg_rk4n_p0] [] = true := by decide +kernel
def sg_rk4 : sg_Cu := (28, 0, [(0, .inr (some (false, 65))), (1, .inr (some (false, 3)))], ([.inl 2, .inl 3], [([(.ofNat 1, 0)], .negSucc 2147483647, .ofNat 2147483647), ([(.ofNat 1, 1)], .negSucc 2147483647, .ofNat 2147483647), ([(.ofNat 1, 2)], .ofNat 1, .ofNat 1)]), [none])
def sg_rk4_a : sg_Cu := (47, 0, [(0, .inr (some (false, 65))), (1, .inr (some (false, 3)))], ([], []), [none, some (false, 65)])
theorem sg_rk4_ok : sg_chk z9 ex_mt k9 60 tX8_readComparison 14 25 sg_rk4 [] [sg_rk4_a] = true := by decide +kernel
def sg_rk5 : sg_Cu := (50, 0, [(0, .inr (some (false, 65))), (1, .inr (some (false, 3)))], ([], []), [])
def sg_rk5_a : sg_Cu := (51, 0, [(0, .inr (some (false, 65))), (1, .inr (some (false, 3)))], ([], []), [some (false, 3)])
theorem sg_rk5_ok : sg_chk z9 ex_mt k9 60 tX8_readComparison 3 25 sg_rk5 [] [sg_rk5_a] = true := by decide +kernel
def sg_rk6 : sg_Cu := (54, 0, [(0, .inr (some (false, 65))), (1, .inr (some (false, 3)))], ([], []), [])
def sg_rk6_p0 : sx_Po := (0, true, [], [([(.ofNat 1, 0)], .ofNat 1, .ofNat 1)])
theorem sg_rk6_ok : sg_chk z9 ex_mt k9 60 tX8_readComparison 3 25 sg_rk6 [sg_rk6_p0] [] = true := by decide +kernel
def sg_rF1 : sg_Cu := (0, 0, [(0, .inr (some (false, 65))), (1, .inr (some (false, 3)))], ([], []), [])
def sg_rF1_a : sg_Cu := (7, 315936875005671560093754083051011296956685286201647333762932932608, [(0, .inr (some (false, 65))), (1, .inr (some (false, 3)))], ([.inr 4259843], [([(.ofNat 1, 1)], .ofNat 1, .ofNat 1), ([(.ofNat 1, 0)], .ofNat 0, .ofNat 0)]), [none, some (false, 3), some (false, 65)])
theorem sg_rF1_ok : sg_chk z9 ex_mt k9 60 tX8_readFrom 14 55 sg_rF1 [] [sg_rF1_a] = true := by decide +kernel
def sg_rF2n : sg_Cu := (10, 0, [(0, .inr (some (false, 65))), (1, .inr (some (false, 3)))], ([], [([(.ofNat 1, 0)], .ofNat 0, .ofNat 0)]), [none])
def sg_rF2n_p0 : sx_Po := (0, true, [], [([(.ofNat 1, 1)], .ofNat 0, .ofNat 0)])
theorem sg_rF2n_ok : sg_chk z9 ex_mt k9 60 tX8_readFrom 4 55 sg_rF2n [sg_rF2n_p0] [] = true := by decide +kernel
def sg_rF2e : sg_Cu := (10, 0, [(0, .inr (some (false, 65))), (1, .inr (some (false, 3)))], ([.inr 196611], [([(.ofNat 1, 0)], .ofNat 0, .ofNat 0), ([(.ofNat 1, 1)], .ofNat 1, .ofNat 1)]), [none])
def sg_rF2e_p0 : sx_Po := (0, true, [], [([(.ofNat 1, 2)], .ofNat 1, .ofNat 1)])
theorem sg_rF2e_ok : sg_chk z9 ex_mt k9 60 tX8_readFrom 13 55 sg_rF2e [sg_rF2e_p0] [] = true := by decide +kernel
def sg_rF2m : sg_Cu := (10, 0, [(0, .inr (some (false, 65))), (1, .inr (some (false, 3)))], ([.inr 196611, .inr 196612], [([(.ofNat 1, 0)], .ofNat 1, .ofNat 4), ([(.ofNat 1, 1)], .negSucc 2147483647, .ofNat 2147483647), ([(.ofNat 1, 2)], .ofNat 1, .ofNat 1)]), [none])
def sg_rF2m_p0 : sx_Po := (402653184, true, [196615, 196616], [([(.ofNat 1, 3)], .ofNat 0, .ofNat 0), ([(.ofNat 1, 4)], .ofNat 1, .ofNat 1), ([(.ofNat 1, 1), (.negSucc 0, 5)], .ofNat 0, .ofNat 0)])
theorem sg_rF2m_ok : sg_chk z9 ex_mt k9 60 tX8_readFrom 26 55 sg_rF2m [sg_rF2m_p0] [] = true := by decide +kernel
def sg_cF : sg_Cu := (0, 0, [(0, .inr (some (false, 62))), (1, .inr (some (false, 65)))], ([.inr 4259843], [([(.ofNat 1, 0)], .negSucc 2147483647, .ofNat 2147483647)]), [])
def sg_cF_p0 : sx_Po := (11518531901248442295084784277901453534879151059435059043440263168, false, [4063235], [([(.ofNat 1, 0), (.negSucc 0, 1)], .ofNat 0, .ofNat 0)])
theorem sg_cF_ok : sg_chk z9 ex_mt k9 60 tX8_copyFrom 15 30 sg_cF [sg_cF_p0] [] = true := by decide +kernel
def sg_sS1 : sg_Cu := (0, 0, [(0, .inr (some (false, 0)))], ([], []), [])
def sg_sS1_a : sg_Cu := (7, 0, [(0, .inr (some (false, 0)))], ([], [([(.ofNat 1, 0)], .ofNat 200, .ofNat 200)]), [none, some (false, 3)])
theorem sg_sS1_ok : sg_chk z9 ex_mt k9 60 tX11_sentence 5 60 sg_sS1 [] [sg_sS1_a] = true := by decide +kernel
def sg_sS2 : sg_Cu := (10, 0, [(0, .inr (some (false, 0)))], ([], []), [])
def sg_sS2_a : sg_Cu := (18, 0, [(0, .inr (some (false, 0)))], ([], []), [some (false, 3), some (false, 65)])
theorem sg_sS2_ok : sg_chk z9 ex_mt k9 60 tX11_sentence 6 60 sg_sS2 [] [sg_sS2_a] = true := by decide +kernel
def sg_sS3n : sg_Cu := (21, 0, [(0, .inr (some (false, 0)))], ([.inr 196615, .inr 196616], [([(.ofNat 1, 0)], .negSucc 2147483647, .ofNat 2147483647), ([(.ofNat 1, 1)], .ofNat 0, .ofNat 940), ([(.ofNat 1, 2)], .ofNat 0, .ofNat 0)]), [none])
def sg_sS3n_p0 : sx_Po := (327680, true, [65537, 16], [([(.ofNat 1, 1), (.ofNat 1, 3)], .negSucc 0, .negSucc 0), ([(.ofNat 1, 4)], .ofNat 0, .ofNat 0), ([(.ofNat 1, 0), (.negSucc 0, 5)], .ofNat 0, .ofNat 0)])
theorem sg_sS3n_ok : sg_chk z9 ex_mt k9 60 tX11_sentence 19 60 sg_sS3n [sg_sS3n_p0] [] = true := by decide +kernel
def sg_sS3y : sg_Cu := (21, 0, [(0, .inr (some (false, 0)))], ([.inr 196615], [([(.ofNat 1, 0)], .negSucc 2147483647, .ofNat 2147483647), ([(.ofNat 1, 1)], .ofNat 1, .ofNat 1)]), [none])
def sg_sS3y_a : sg_Cu := (63, 327680, [(0, .inr (some (false, 0)))], ([.inr 65537, .inr 16], [([(.ofNat 1, 2)], .ofNat 0, .ofNat 0), ([(.ofNat 1, 0), (.negSucc 0, 3)], .ofNat 0, .ofNat 0)]), [some (false, 65), some (false, 62)])
theorem sg_sS3y_ok : sg_chk z9 ex_mt k9 60 tX11_sentence 18 60 sg_sS3y [] [sg_sS3y_a] = true := by decide +kernel
def sg_sS4 : sg_Cu := (66, 0, [(0, .inr (some (false, 0)))], ([.inr 4063235], [([(.ofNat 1, 0)], .negSucc 2147483647, .ofNat 2147483647)]), [])
def sg_sS4_p0 : sx_Po := (0, true, [], [([(.ofNat 1, 0), (.negSucc 0, 1)], .ofNat 0, .ofNat 0)])
theorem sg_sS4_ok : sg_chk z9 ex_mt k9 60 tX11_sentence 5 60 sg_sS4 [sg_sS4_p0] [] = true := by decide +kernel
section HR
variable {g : am_C} {L : Nat} {xs : Nat → Int32}
theorem sg_rfu_run (G : sx_G0 g L xs z9 hd_C ex_mt) (hct : ∀ (mi : Nat) (T2 : ex_T) (c' : sx_Ct), ex_mt mi = some T2 → c' ∈ k9 mi → c'.1 < 60 → sx_Holds g z9 hd_C T2 c') {σ : am_S} {lw : List (Nat × Value)} {post : Option (Option Value) → am_S → Prop} (hM : sx_M z9 hd_C σ 0 0 σ) (hl : (0, Value.ref 3) ∈ lw) {m1 : Int32} (hl1 : (1, Value.int m1) ∈ lw) (ret0 : ∀ (r : Int32) (σ' : am_S), (0 ≤ 1 * r.toInt + 0 ∧ 1 * r.toInt + 0 ≤ 0) → (0 ≤ 1 * m1.toInt + ((-1) * (σ'.2.1 3 7).toInt + 0) ∧ 1 * m1.toInt + ((-1) * (σ'.2.1 3 7).toInt + 0) ≤ 0) → (0 ≤ 1 * (σ.2.1 3 4).toInt + ((-1) * (σ'.2.1 3 8).toInt + 0) ∧ 1 * (σ.2.1 3 4).toInt + ((-1) * (σ'.2.1 3 8).toInt + 0) ≤ 0) → sx_M z9 hd_C σ 402653184 0 σ' → post (some (some (.int r))) σ') : am_K g 3 tX6_refuse.1 0 0 0 lw [] σ post := by
  refine sg_seg (sw := []) (vs := [m1.toInt, (σ.2.1 3 4).toInt]) (ws := []) G (mi := 248) rfl hct sg_rfu_ok ⟨⟨m1, hl1, rfl⟩, ⟨rfl, trivial⟩⟩ (hd_refs hl) trivial (hd_p1 rfl (Int32.le_toInt _) (Int32.toInt_le _) (hd_p1 rfl (hd_kd_3_4 hM).1 (hd_kd_3_4 hM).2 hd_p0)) hM ?_ ?_
  · intro r σ' hq
    cases r with
    | none => exact hq.elim
    | some v =>
      obtain ⟨p, hp, hM2, ks, hk, hv⟩ := hq
      simp only [List.mem_cons, List.not_mem_nil, or_false] at hp
      rcases hp with rfl
      · obtain ⟨ks0, rfl, hk1⟩ := hd_keyc hk; obtain ⟨ks1, rfl, hk2⟩ := hd_keyc hk1; obtain rfl := hd_keys hk2
        cases v with
        | none => exact hv.elim
        | some w9 =>
          obtain ⟨r, rfl, hP⟩ := hv
          obtain ⟨v0, e0, l0, u0⟩ := hP _ (List.mem_cons_self)
          have g0 : 1 * r.toInt + 0 = v0 := Option.some.inj e0
          obtain ⟨v1, e1, l1, u1⟩ := hP _ (List.mem_cons_of_mem _ (List.mem_cons_self))
          have g1 : 1 * m1.toInt + ((-1) * (σ'.2.1 3 7).toInt + 0) = v1 := Option.some.inj e1
          obtain ⟨v2, e2, l2, u2⟩ := hP _ (List.mem_cons_of_mem _ (List.mem_cons_of_mem _ (List.mem_cons_self)))
          have g2 : 1 * (σ.2.1 3 4).toInt + ((-1) * (σ'.2.1 3 8).toInt + 0) = v2 := Option.some.inj e2
          exact ret0 r _ ⟨by rw [g0]; exact l0, by rw [g0]; exact u0⟩ ⟨by rw [g1]; exact l1, by rw [g1]; exact u1⟩ ⟨by rw [g2]; exact l2, by rw [g2]; exact u2⟩ hM2
  · intro u hu
    cases hu
theorem sg_em_run (G : sx_G0 g L xs z9 hd_C ex_mt) (hct : ∀ (mi : Nat) (T2 : ex_T) (c' : sx_Ct), ex_mt mi = some T2 → c' ∈ k9 mi → c'.1 < 60 → sx_Holds g z9 hd_C T2 c') {σ : am_S} {lw : List (Nat × Value)} {post : Option (Option Value) → am_S → Prop} (hM : sx_M z9 hd_C σ 0 0 σ) (hl : (0, Value.ref 65) ∈ lw) {m1 : Int32} (hl1 : (1, Value.int m1) ∈ lw) (ret0 : ∀ (σ' : am_S), sx_M z9 hd_C σ 526561458342785933489590138418352161594475477002745556271554887680 0 σ' → post (some none) σ') : am_K g 12 tX8_emit.1 0 0 0 lw [] σ post := by
  refine sg_seg (sw := []) (vs := [m1.toInt]) (ws := []) G (mi := 275) rfl hct sg_em_ok ⟨⟨m1, hl1, rfl⟩, trivial⟩ (hd_refs hl) trivial (hd_p1 rfl (Int32.le_toInt _) (Int32.toInt_le _) hd_p0) hM ?_ ?_
  · intro r σ' hq
    cases r with
    | none => exact hq.elim
    | some v =>
      obtain ⟨p, hp, hM2, ks, hk, hv⟩ := hq
      simp only [List.mem_cons, List.not_mem_nil, or_false] at hp
      rcases hp with rfl
      · obtain rfl := hd_keys hk
        cases v with
        | some w9 => exact hv.elim
        | none =>
          have hP := hv
          exact ret0 _  hM2
  · intro u hu
    cases hu
theorem sg_sf1_run (G : sx_G0 g L xs z9 hd_C ex_mt) (hct : ∀ (mi : Nat) (T2 : ex_T) (c' : sx_Ct), ex_mt mi = some T2 → c' ∈ k9 mi → c'.1 < 60 → sx_Holds g z9 hd_C T2 c') {σ : am_S} {lw : List (Nat × Value)} {post : Option (Option Value) → am_S → Prop} (hM : sx_M z9 hd_C σ 0 0 σ) (hl : (0, Value.ref 3) ∈ lw)  (cuta : ∀ (lw' : List (Nat × Value)) (n0' : Int32) (σ' : am_S), (0, Value.ref 3) ∈ lw' → (60 ≤ 1 * n0'.toInt + 0 ∧ 1 * n0'.toInt + 0 ≤ 60) → sx_M z9 hd_C σ 0 0 σ' → am_K g 12 tX8_signOf.1 0 0 3 lw' [.int n0', .ref 3] σ' post) : am_K g 12 tX8_signOf.1 0 0 0 lw [] σ post := by
  refine sg_seg (sw := []) (vs := []) (ws := []) G (mi := 282) rfl hct sg_sf1_ok trivial (hd_refs hl) trivial hd_p0 hM ?_ ?_
  · intro r σ' hq
    cases r with
    | none => exact hq.elim
    | some v =>
      obtain ⟨p, hp, hM2, ks, hk, hv⟩ := hq
      cases hp
  · intro u hu
    simp only [List.mem_cons, List.not_mem_nil, or_false] at hu
    rcases hu with rfl
    · intro lw' sw' vs' ws' σ' ⟨h1_0, h2, h3_0, h4, h5⟩
      obtain rfl := hd_src0 h1_0
      obtain ⟨n0', sw1, ws1, rfl, rfl, h3_1⟩ := hd_sti h3_0
      obtain ⟨sw2, rfl, h3_2⟩ := hd_str h3_1
      obtain ⟨rfl, rfl⟩ := hd_st0 h3_2
      have hr9 := hd_ref0 h2
      obtain ⟨v0, e0, l0, u0⟩ := h4 _ (List.mem_cons_self)
      have g0 : 1 * n0'.toInt + 0 = v0 := Option.some.inj e0
      exact cuta _ _ _ hr9  ⟨by rw [g0]; exact l0, by rw [g0]; exact u0⟩ h5
theorem sg_sf1y_run (G : sx_G0 g L xs z9 hd_C ex_mt) (hct : ∀ (mi : Nat) (T2 : ex_T) (c' : sx_Ct), ex_mt mi = some T2 → c' ∈ k9 mi → c'.1 < 60 → sx_Holds g z9 hd_C T2 c') {σ : am_S} {lw : List (Nat × Value)} {post : Option (Option Value) → am_S → Prop} (hM : sx_M z9 hd_C σ 0 0 σ) (hl : (0, Value.ref 3) ∈ lw) {n0 : Int32} (bk0 : 1 ≤ n0.toInt ∧ n0.toInt ≤ 1) (ret0 : ∀ (r : Int32) (σ' : am_S), (0 ≤ 1 * r.toInt + 0 ∧ 1 * r.toInt + 0 ≤ 0) → sx_M z9 hd_C σ 0 0 σ' → post (some (some (.int r))) σ') : am_K g 12 tX8_signOf.1 0 0 6 lw [.int n0] σ post := by
  refine sg_seg (sw := [.int n0]) (vs := []) (ws := [n0.toInt]) G (mi := 282) rfl hct sg_sf1y_ok trivial (hd_refs hl) ⟨⟨n0, rfl, rfl⟩, trivial⟩ (hd_p1 rfl bk0.1 bk0.2 hd_p0) hM ?_ ?_
  · intro r σ' hq
    cases r with
    | none => exact hq.elim
    | some v =>
      obtain ⟨p, hp, hM2, ks, hk, hv⟩ := hq
      simp only [List.mem_cons, List.not_mem_nil, or_false] at hp
      rcases hp with rfl
      · obtain rfl := hd_keys hk
        cases v with
        | none => exact hv.elim
        | some w9 =>
          obtain ⟨r, rfl, hP⟩ := hv
          obtain ⟨v0, e0, l0, u0⟩ := hP _ (List.mem_cons_self)
          have g0 : 1 * r.toInt + 0 = v0 := Option.some.inj e0
          exact ret0 r _ ⟨by rw [g0]; exact l0, by rw [g0]; exact u0⟩ hM2
  · intro u hu
    cases hu
theorem sg_sf1n_run (G : sx_G0 g L xs z9 hd_C ex_mt) (hct : ∀ (mi : Nat) (T2 : ex_T) (c' : sx_Ct), ex_mt mi = some T2 → c' ∈ k9 mi → c'.1 < 60 → sx_Holds g z9 hd_C T2 c') {σ : am_S} {lw : List (Nat × Value)} {post : Option (Option Value) → am_S → Prop} (hM : sx_M z9 hd_C σ 0 0 σ) (hl : (0, Value.ref 3) ∈ lw) {n0 : Int32} (bk0 : 0 ≤ n0.toInt ∧ n0.toInt ≤ 0) (cuta : ∀ (lw' : List (Nat × Value)) (n0' : Int32) (σ' : am_S), (0, Value.ref 3) ∈ lw' → (61 ≤ 1 * n0'.toInt + 0 ∧ 1 * n0'.toInt + 0 ≤ 61) → sx_M z9 hd_C σ 0 0 σ' → am_K g 12 tX8_signOf.1 0 0 14 lw' [.int n0', .ref 3] σ' post) : am_K g 12 tX8_signOf.1 0 0 6 lw [.int n0] σ post := by
  refine sg_seg (sw := [.int n0]) (vs := []) (ws := [n0.toInt]) G (mi := 282) rfl hct sg_sf1n_ok trivial (hd_refs hl) ⟨⟨n0, rfl, rfl⟩, trivial⟩ (hd_p1 rfl bk0.1 bk0.2 hd_p0) hM ?_ ?_
  · intro r σ' hq
    cases r with
    | none => exact hq.elim
    | some v =>
      obtain ⟨p, hp, hM2, ks, hk, hv⟩ := hq
      cases hp
  · intro u hu
    simp only [List.mem_cons, List.not_mem_nil, or_false] at hu
    rcases hu with rfl
    · intro lw' sw' vs' ws' σ' ⟨h1_0, h2, h3_0, h4, h5⟩
      obtain rfl := hd_src0 h1_0
      obtain ⟨n0', sw1, ws1, rfl, rfl, h3_1⟩ := hd_sti h3_0
      obtain ⟨sw2, rfl, h3_2⟩ := hd_str h3_1
      obtain ⟨rfl, rfl⟩ := hd_st0 h3_2
      have hr9 := hd_ref0 h2
      obtain ⟨v0, e0, l0, u0⟩ := h4 _ (List.mem_cons_self)
      have g0 : 1 * n0'.toInt + 0 = v0 := Option.some.inj e0
      exact cuta _ _ _ hr9  ⟨by rw [g0]; exact l0, by rw [g0]; exact u0⟩ h5
theorem sg_sf2y_run (G : sx_G0 g L xs z9 hd_C ex_mt) (hct : ∀ (mi : Nat) (T2 : ex_T) (c' : sx_Ct), ex_mt mi = some T2 → c' ∈ k9 mi → c'.1 < 60 → sx_Holds g z9 hd_C T2 c') {σ : am_S} {lw : List (Nat × Value)} {post : Option (Option Value) → am_S → Prop} (hM : sx_M z9 hd_C σ 0 0 σ) (hl : (0, Value.ref 3) ∈ lw) {n0 : Int32} (bk0 : 1 ≤ n0.toInt ∧ n0.toInt ≤ 1) (ret0 : ∀ (r : Int32) (σ' : am_S), (1 ≤ 1 * r.toInt + 0 ∧ 1 * r.toInt + 0 ≤ 1) → sx_M z9 hd_C σ 0 0 σ' → post (some (some (.int r))) σ') : am_K g 12 tX8_signOf.1 0 0 17 lw [.int n0] σ post := by
  refine sg_seg (sw := [.int n0]) (vs := []) (ws := [n0.toInt]) G (mi := 282) rfl hct sg_sf2y_ok trivial (hd_refs hl) ⟨⟨n0, rfl, rfl⟩, trivial⟩ (hd_p1 rfl bk0.1 bk0.2 hd_p0) hM ?_ ?_
  · intro r σ' hq
    cases r with
    | none => exact hq.elim
    | some v =>
      obtain ⟨p, hp, hM2, ks, hk, hv⟩ := hq
      simp only [List.mem_cons, List.not_mem_nil, or_false] at hp
      rcases hp with rfl
      · obtain rfl := hd_keys hk
        cases v with
        | none => exact hv.elim
        | some w9 =>
          obtain ⟨r, rfl, hP⟩ := hv
          obtain ⟨v0, e0, l0, u0⟩ := hP _ (List.mem_cons_self)
          have g0 : 1 * r.toInt + 0 = v0 := Option.some.inj e0
          exact ret0 r _ ⟨by rw [g0]; exact l0, by rw [g0]; exact u0⟩ hM2
  · intro u hu
    cases hu
theorem sg_sf2n_run (G : sx_G0 g L xs z9 hd_C ex_mt) (hct : ∀ (mi : Nat) (T2 : ex_T) (c' : sx_Ct), ex_mt mi = some T2 → c' ∈ k9 mi → c'.1 < 60 → sx_Holds g z9 hd_C T2 c') {σ : am_S} {lw : List (Nat × Value)} {post : Option (Option Value) → am_S → Prop} (hM : sx_M z9 hd_C σ 0 0 σ) (hl : (0, Value.ref 3) ∈ lw) {n0 : Int32} (bk0 : 0 ≤ n0.toInt ∧ n0.toInt ≤ 0) (cuta : ∀ (lw' : List (Nat × Value)) (n0' : Int32) (σ' : am_S), (0, Value.ref 3) ∈ lw' → (62 ≤ 1 * n0'.toInt + 0 ∧ 1 * n0'.toInt + 0 ≤ 62) → sx_M z9 hd_C σ 0 0 σ' → am_K g 12 tX8_signOf.1 0 0 25 lw' [.int n0', .ref 3] σ' post) : am_K g 12 tX8_signOf.1 0 0 17 lw [.int n0] σ post := by
  refine sg_seg (sw := [.int n0]) (vs := []) (ws := [n0.toInt]) G (mi := 282) rfl hct sg_sf2n_ok trivial (hd_refs hl) ⟨⟨n0, rfl, rfl⟩, trivial⟩ (hd_p1 rfl bk0.1 bk0.2 hd_p0) hM ?_ ?_
  · intro r σ' hq
    cases r with
    | none => exact hq.elim
    | some v =>
      obtain ⟨p, hp, hM2, ks, hk, hv⟩ := hq
      cases hp
  · intro u hu
    simp only [List.mem_cons, List.not_mem_nil, or_false] at hu
    rcases hu with rfl
    · intro lw' sw' vs' ws' σ' ⟨h1_0, h2, h3_0, h4, h5⟩
      obtain rfl := hd_src0 h1_0
      obtain ⟨n0', sw1, ws1, rfl, rfl, h3_1⟩ := hd_sti h3_0
      obtain ⟨sw2, rfl, h3_2⟩ := hd_str h3_1
      obtain ⟨rfl, rfl⟩ := hd_st0 h3_2
      have hr9 := hd_ref0 h2
      obtain ⟨v0, e0, l0, u0⟩ := h4 _ (List.mem_cons_self)
      have g0 : 1 * n0'.toInt + 0 = v0 := Option.some.inj e0
      exact cuta _ _ _ hr9  ⟨by rw [g0]; exact l0, by rw [g0]; exact u0⟩ h5
theorem sg_sf3y_run (G : sx_G0 g L xs z9 hd_C ex_mt) (hct : ∀ (mi : Nat) (T2 : ex_T) (c' : sx_Ct), ex_mt mi = some T2 → c' ∈ k9 mi → c'.1 < 60 → sx_Holds g z9 hd_C T2 c') {σ : am_S} {lw : List (Nat × Value)} {post : Option (Option Value) → am_S → Prop} (hM : sx_M z9 hd_C σ 0 0 σ) (hl : (0, Value.ref 3) ∈ lw) {n0 : Int32} (bk0 : 1 ≤ n0.toInt ∧ n0.toInt ≤ 1) (ret0 : ∀ (r : Int32) (σ' : am_S), (2 ≤ 1 * r.toInt + 0 ∧ 1 * r.toInt + 0 ≤ 2) → sx_M z9 hd_C σ 0 0 σ' → post (some (some (.int r))) σ') : am_K g 12 tX8_signOf.1 0 0 28 lw [.int n0] σ post := by
  refine sg_seg (sw := [.int n0]) (vs := []) (ws := [n0.toInt]) G (mi := 282) rfl hct sg_sf3y_ok trivial (hd_refs hl) ⟨⟨n0, rfl, rfl⟩, trivial⟩ (hd_p1 rfl bk0.1 bk0.2 hd_p0) hM ?_ ?_
  · intro r σ' hq
    cases r with
    | none => exact hq.elim
    | some v =>
      obtain ⟨p, hp, hM2, ks, hk, hv⟩ := hq
      simp only [List.mem_cons, List.not_mem_nil, or_false] at hp
      rcases hp with rfl
      · obtain rfl := hd_keys hk
        cases v with
        | none => exact hv.elim
        | some w9 =>
          obtain ⟨r, rfl, hP⟩ := hv
          obtain ⟨v0, e0, l0, u0⟩ := hP _ (List.mem_cons_self)
          have g0 : 1 * r.toInt + 0 = v0 := Option.some.inj e0
          exact ret0 r _ ⟨by rw [g0]; exact l0, by rw [g0]; exact u0⟩ hM2
  · intro u hu
    cases hu
theorem sg_sf3n_run (G : sx_G0 g L xs z9 hd_C ex_mt) (hct : ∀ (mi : Nat) (T2 : ex_T) (c' : sx_Ct), ex_mt mi = some T2 → c' ∈ k9 mi → c'.1 < 60 → sx_Holds g z9 hd_C T2 c') {σ : am_S} {lw : List (Nat × Value)} {post : Option (Option Value) → am_S → Prop} (hM : sx_M z9 hd_C σ 0 0 σ) (hl : (0, Value.ref 3) ∈ lw) {n0 : Int32} (bk0 : 0 ≤ n0.toInt ∧ n0.toInt ≤ 0) (ret0 : ∀ (r : Int32) (σ' : am_S), ((-1) ≤ 1 * r.toInt + 0 ∧ 1 * r.toInt + 0 ≤ (-1)) → sx_M z9 hd_C σ 0 0 σ' → post (some (some (.int r))) σ') : am_K g 12 tX8_signOf.1 0 0 28 lw [.int n0] σ post := by
  refine sg_seg (sw := [.int n0]) (vs := []) (ws := [n0.toInt]) G (mi := 282) rfl hct sg_sf3n_ok trivial (hd_refs hl) ⟨⟨n0, rfl, rfl⟩, trivial⟩ (hd_p1 rfl bk0.1 bk0.2 hd_p0) hM ?_ ?_
  · intro r σ' hq
    cases r with
    | none => exact hq.elim
    | some v =>
      obtain ⟨p, hp, hM2, ks, hk, hv⟩ := hq
      simp only [List.mem_cons, List.not_mem_nil, or_false] at hp
      rcases hp with rfl
      · obtain rfl := hd_keys hk
        cases v with
        | none => exact hv.elim
        | some w9 =>
          obtain ⟨r, rfl, hP⟩ := hv
          obtain ⟨v0, e0, l0, u0⟩ := hP _ (List.mem_cons_self)
          have g0 : 1 * r.toInt + 0 = v0 := Option.some.inj e0
          exact ret0 r _ ⟨by rw [g0]; exact l0, by rw [g0]; exact u0⟩ hM2
  · intro u hu
    cases hu
theorem sg_rk1_run (G : sx_G0 g L xs z9 hd_C ex_mt) (hct : ∀ (mi : Nat) (T2 : ex_T) (c' : sx_Ct), ex_mt mi = some T2 → c' ∈ k9 mi → c'.1 < 60 → sx_Holds g z9 hd_C T2 c') {σ : am_S} {lw : List (Nat × Value)} {post : Option (Option Value) → am_S → Prop} (hM : sx_M z9 hd_C σ 0 0 σ) (hl : (0, Value.ref 65) ∈ lw) (hlr1 : (1, Value.ref 3) ∈ lw) {m2 : Int32} (hl2 : (2, Value.int m2) ∈ lw) (cuta : ∀ (lw' : List (Nat × Value)) (m2' : Int32) (σ' : am_S), (0, Value.ref 65) ∈ lw' → (1, Value.ref 3) ∈ lw' → (2, Value.int m2') ∈ lw' → (0 ≤ 1 * m2.toInt + ((-1) * m2'.toInt + 0) ∧ 1 * m2.toInt + ((-1) * m2'.toInt + 0) ≤ 0) → sx_M z9 hd_C σ 0 0 σ' → am_K g 25 tX8_readComparison.1 0 0 1 lw' [.ref 3] σ' post) : am_K g 25 tX8_readComparison.1 0 0 0 lw [] σ post := by
  refine sg_seg (sw := []) (vs := [m2.toInt]) (ws := []) G (mi := 278) rfl hct sg_rk1_ok ⟨⟨m2, hl2, rfl⟩, trivial⟩ (hd_rfc hl (hd_rfc hlr1 hd_rfn)) trivial (hd_p1 rfl (Int32.le_toInt _) (Int32.toInt_le _) hd_p0) hM ?_ ?_
  · intro r σ' hq
    cases r with
    | none => exact hq.elim
    | some v =>
      obtain ⟨p, hp, hM2, ks, hk, hv⟩ := hq
      cases hp
  · intro u hu
    simp only [List.mem_cons, List.not_mem_nil, or_false] at hu
    rcases hu with rfl
    · intro lw' sw' vs' ws' σ' ⟨h1_0, h2, h3_0, h4, h5⟩
      obtain ⟨m2', vs1, rfl, hm2, h1_1⟩ := hd_srcl h1_0
      obtain rfl := hd_src0 h1_1
      obtain ⟨sw1, rfl, h3_1⟩ := hd_str h3_0
      obtain ⟨rfl, rfl⟩ := hd_st0 h3_1
      have hr9_0 := hd_rfh h2
      have hr9_1 := hd_rfh (hd_rfT h2)
      obtain ⟨v0, e0, l0, u0⟩ := h4 _ (List.mem_cons_self)
      have g0 : 1 * m2.toInt + ((-1) * m2'.toInt + 0) = v0 := Option.some.inj e0
      exact cuta _ _ _ hr9_0 hr9_1 hm2 ⟨by rw [g0]; exact l0, by rw [g0]; exact u0⟩ h5
theorem sg_rk2n_run (G : sx_G0 g L xs z9 hd_C ex_mt) (hct : ∀ (mi : Nat) (T2 : ex_T) (c' : sx_Ct), ex_mt mi = some T2 → c' ∈ k9 mi → c'.1 < 60 → sx_Holds g z9 hd_C T2 c') {σ : am_S} {lw : List (Nat × Value)} {post : Option (Option Value) → am_S → Prop} (hM : sx_M z9 hd_C σ 0 0 σ) (hl : (0, Value.ref 65) ∈ lw) (hlr1 : (1, Value.ref 3) ∈ lw) {n0 : Int32} (bk0 : (-1) ≤ n0.toInt ∧ n0.toInt ≤ (-1)) (ret0 : ∀ (r : Int32) (σ' : am_S), (0 ≤ 1 * r.toInt + 0 ∧ 1 * r.toInt + 0 ≤ 0) → (1 ≤ 1 * (σ'.2.1 3 7).toInt + 0 ∧ 1 * (σ'.2.1 3 7).toInt + 0 ≤ 1) → (0 ≤ 1 * (σ.2.1 3 4).toInt + ((-1) * (σ'.2.1 3 8).toInt + 0) ∧ 1 * (σ.2.1 3 4).toInt + ((-1) * (σ'.2.1 3 8).toInt + 0) ≤ 0) → sx_M z9 hd_C σ 402653184 0 σ' → post (some (some (.int r))) σ') : am_K g 25 tX8_readComparison.1 0 0 4 lw [.int n0] σ post := by
  refine sg_seg (sw := [.int n0]) (vs := [(σ.2.1 3 4).toInt]) (ws := [n0.toInt]) G (mi := 278) rfl hct sg_rk2n_ok ⟨rfl, trivial⟩ (hd_rfc hl (hd_rfc hlr1 hd_rfn)) ⟨⟨n0, rfl, rfl⟩, trivial⟩ (hd_p1 rfl (hd_kd_3_4 hM).1 (hd_kd_3_4 hM).2 (hd_p1 rfl bk0.1 bk0.2 hd_p0)) hM ?_ ?_
  · intro r σ' hq
    cases r with
    | none => exact hq.elim
    | some v =>
      obtain ⟨p, hp, hM2, ks, hk, hv⟩ := hq
      simp only [List.mem_cons, List.not_mem_nil, or_false] at hp
      rcases hp with rfl
      · obtain ⟨ks0, rfl, hk1⟩ := hd_keyc hk; obtain ⟨ks1, rfl, hk2⟩ := hd_keyc hk1; obtain rfl := hd_keys hk2
        cases v with
        | none => exact hv.elim
        | some w9 =>
          obtain ⟨r, rfl, hP⟩ := hv
          obtain ⟨v0, e0, l0, u0⟩ := hP _ (List.mem_cons_self)
          have g0 : 1 * r.toInt + 0 = v0 := Option.some.inj e0
          obtain ⟨v1, e1, l1, u1⟩ := hP _ (List.mem_cons_of_mem _ (List.mem_cons_self))
          have g1 : 1 * (σ'.2.1 3 7).toInt + 0 = v1 := Option.some.inj e1
          obtain ⟨v2, e2, l2, u2⟩ := hP _ (List.mem_cons_of_mem _ (List.mem_cons_of_mem _ (List.mem_cons_self)))
          have g2 : 1 * (σ.2.1 3 4).toInt + ((-1) * (σ'.2.1 3 8).toInt + 0) = v2 := Option.some.inj e2
          exact ret0 r _ ⟨by rw [g0]; exact l0, by rw [g0]; exact u0⟩ ⟨by rw [g1]; exact l1, by rw [g1]; exact u1⟩ ⟨by rw [g2]; exact l2, by rw [g2]; exact u2⟩ hM2
  · intro u hu
    cases hu
theorem sg_rk2_run (G : sx_G0 g L xs z9 hd_C ex_mt) (hct : ∀ (mi : Nat) (T2 : ex_T) (c' : sx_Ct), ex_mt mi = some T2 → c' ∈ k9 mi → c'.1 < 60 → sx_Holds g z9 hd_C T2 c') {σ : am_S} {lw : List (Nat × Value)} {post : Option (Option Value) → am_S → Prop} (hM : sx_M z9 hd_C σ 0 0 σ) (hl : (0, Value.ref 65) ∈ lw) (hlr1 : (1, Value.ref 3) ∈ lw) {m2 : Int32} (hl2 : (2, Value.int m2) ∈ lw) {n0 : Int32} (bk0 : 0 ≤ n0.toInt ∧ n0.toInt ≤ 2) (cuta : ∀ (lw' : List (Nat × Value)) (m2' : Int32) (m3' : Int32) (σ' : am_S), (0, Value.ref 65) ∈ lw' → (1, Value.ref 3) ∈ lw' → (2, Value.int m2') ∈ lw' → (3, Value.int m3') ∈ lw' → (0 ≤ 1 * m2.toInt + ((-1) * m2'.toInt + 0) ∧ 1 * m2.toInt + ((-1) * m2'.toInt + 0) ≤ 0) → (0 ≤ 1 * n0.toInt + ((-1) * m3'.toInt + 0) ∧ 1 * n0.toInt + ((-1) * m3'.toInt + 0) ≤ 0) → sx_M z9 hd_C σ 0 0 σ' → am_K g 25 tX8_readComparison.1 0 0 17 lw' [.ref 3] σ' post) : am_K g 25 tX8_readComparison.1 0 0 4 lw [.int n0] σ post := by
  refine sg_seg (sw := [.int n0]) (vs := [m2.toInt]) (ws := [n0.toInt]) G (mi := 278) rfl hct sg_rk2_ok ⟨⟨m2, hl2, rfl⟩, trivial⟩ (hd_rfc hl (hd_rfc hlr1 hd_rfn)) ⟨⟨n0, rfl, rfl⟩, trivial⟩ (hd_p1 rfl (Int32.le_toInt _) (Int32.toInt_le _) (hd_p1 rfl bk0.1 bk0.2 hd_p0)) hM ?_ ?_
  · intro r σ' hq
    cases r with
    | none => exact hq.elim
    | some v =>
      obtain ⟨p, hp, hM2, ks, hk, hv⟩ := hq
      cases hp
  · intro u hu
    simp only [List.mem_cons, List.not_mem_nil, or_false] at hu
    rcases hu with rfl
    · intro lw' sw' vs' ws' σ' ⟨h1_0, h2, h3_0, h4, h5⟩
      obtain ⟨m2', vs1, rfl, hm2, h1_1⟩ := hd_srcl h1_0
      obtain ⟨m3', vs2, rfl, hm3, h1_2⟩ := hd_srcl h1_1
      obtain rfl := hd_src0 h1_2
      obtain ⟨sw1, rfl, h3_1⟩ := hd_str h3_0
      obtain ⟨rfl, rfl⟩ := hd_st0 h3_1
      have hr9_0 := hd_rfh h2
      have hr9_1 := hd_rfh (hd_rfT h2)
      obtain ⟨v0, e0, l0, u0⟩ := h4 _ (List.mem_cons_self)
      have g0 : 1 * m2.toInt + ((-1) * m2'.toInt + 0) = v0 := Option.some.inj e0
      obtain ⟨v1, e1, l1, u1⟩ := h4 _ (List.mem_cons_of_mem _ (List.mem_cons_self))
      have g1 : 1 * n0.toInt + ((-1) * m3'.toInt + 0) = v1 := Option.some.inj e1
      exact cuta _ _ _ _ hr9_0 hr9_1 hm2 hm3 ⟨by rw [g0]; exact l0, by rw [g0]; exact u0⟩ ⟨by rw [g1]; exact l1, by rw [g1]; exact u1⟩ h5
theorem sg_rk3_run (G : sx_G0 g L xs z9 hd_C ex_mt) (hct : ∀ (mi : Nat) (T2 : ex_T) (c' : sx_Ct), ex_mt mi = some T2 → c' ∈ k9 mi → c'.1 < 60 → sx_Holds g z9 hd_C T2 c') {σ : am_S} {lw : List (Nat × Value)} {post : Option (Option Value) → am_S → Prop} (hM : sx_M z9 hd_C σ 0 0 σ) (hl : (0, Value.ref 65) ∈ lw) (hlr1 : (1, Value.ref 3) ∈ lw) {m2 : Int32} (hl2 : (2, Value.int m2) ∈ lw) {m3 : Int32} (hl3 : (3, Value.int m3) ∈ lw) (cuta : ∀ (lw' : List (Nat × Value)) (m2' : Int32) (m3' : Int32) (n0' : Int32) (n1' : Int32) (σ' : am_S), (0, Value.ref 65) ∈ lw' → (1, Value.ref 3) ∈ lw' → (2, Value.int m2') ∈ lw' → (3, Value.int m3') ∈ lw' → (999 ≤ 1 * n0'.toInt + 0 ∧ 1 * n0'.toInt + 0 ≤ 999) → (0 ≤ 1 * n1'.toInt + 0 ∧ 1 * n1'.toInt + 0 ≤ 0) → (0 ≤ 1 * m2.toInt + ((-1) * m2'.toInt + 0) ∧ 1 * m2.toInt + ((-1) * m2'.toInt + 0) ≤ 0) → (0 ≤ 1 * m3.toInt + ((-1) * m3'.toInt + 0) ∧ 1 * m3.toInt + ((-1) * m3'.toInt + 0) ≤ 0) → sx_M z9 hd_C σ 0 0 σ' → am_K g 25 tX8_readComparison.1 0 0 25 lw' [.int n0', .int n1', .ref 3] σ' post) : am_K g 25 tX8_readComparison.1 0 0 20 lw [] σ post := by
  refine sg_seg (sw := []) (vs := [m2.toInt, m3.toInt]) (ws := []) G (mi := 278) rfl hct sg_rk3_ok ⟨⟨m2, hl2, rfl⟩, ⟨⟨m3, hl3, rfl⟩, trivial⟩⟩ (hd_rfc hl (hd_rfc hlr1 hd_rfn)) trivial (hd_p1 rfl (Int32.le_toInt _) (Int32.toInt_le _) (hd_p1 rfl (Int32.le_toInt _) (Int32.toInt_le _) hd_p0)) hM ?_ ?_
  · intro r σ' hq
    cases r with
    | none => exact hq.elim
    | some v =>
      obtain ⟨p, hp, hM2, ks, hk, hv⟩ := hq
      cases hp
  · intro u hu
    simp only [List.mem_cons, List.not_mem_nil, or_false] at hu
    rcases hu with rfl
    · intro lw' sw' vs' ws' σ' ⟨h1_0, h2, h3_0, h4, h5⟩
      obtain ⟨m2', vs1, rfl, hm2, h1_1⟩ := hd_srcl h1_0
      obtain ⟨m3', vs2, rfl, hm3, h1_2⟩ := hd_srcl h1_1
      obtain rfl := hd_src0 h1_2
      obtain ⟨n0', sw1, ws1, rfl, rfl, h3_1⟩ := hd_sti h3_0
      obtain ⟨n1', sw2, ws2, rfl, rfl, h3_2⟩ := hd_sti h3_1
      obtain ⟨sw3, rfl, h3_3⟩ := hd_str h3_2
      obtain ⟨rfl, rfl⟩ := hd_st0 h3_3
      have hr9_0 := hd_rfh h2
      have hr9_1 := hd_rfh (hd_rfT h2)
      obtain ⟨v0, e0, l0, u0⟩ := h4 _ (List.mem_cons_self)
      have g0 : 1 * n0'.toInt + 0 = v0 := Option.some.inj e0
      obtain ⟨v1, e1, l1, u1⟩ := h4 _ (List.mem_cons_of_mem _ (List.mem_cons_self))
      have g1 : 1 * n1'.toInt + 0 = v1 := Option.some.inj e1
      obtain ⟨v2, e2, l2, u2⟩ := h4 _ (List.mem_cons_of_mem _ (List.mem_cons_of_mem _ (List.mem_cons_self)))
      have g2 : 1 * m2.toInt + ((-1) * m2'.toInt + 0) = v2 := Option.some.inj e2
      obtain ⟨v3, e3, l3, u3⟩ := h4 _ (List.mem_cons_of_mem _ (List.mem_cons_of_mem _ (List.mem_cons_of_mem _ (List.mem_cons_self))))
      have g3 : 1 * m3.toInt + ((-1) * m3'.toInt + 0) = v3 := Option.some.inj e3
      exact cuta _ _ _ _ _ _ hr9_0 hr9_1 hm2 hm3 ⟨by rw [g0]; exact l0, by rw [g0]; exact u0⟩ ⟨by rw [g1]; exact l1, by rw [g1]; exact u1⟩ ⟨by rw [g2]; exact l2, by rw [g2]; exact u2⟩ ⟨by rw [g3]; exact l3, by rw [g3]; exact u3⟩ h5
theorem sg_rk4n_run (G : sx_G0 g L xs z9 hd_C ex_mt) (hct : ∀ (mi : Nat) (T2 : ex_T) (c' : sx_Ct), ex_mt mi = some T2 → c' ∈ k9 mi → c'.1 < 60 → sx_Holds g z9 hd_C T2 c') {σ : am_S} {lw : List (Nat × Value)} {post : Option (Option Value) → am_S → Prop} (hM : sx_M z9 hd_C σ 0 0 σ) (hl : (0, Value.ref 65) ∈ lw) (hlr1 : (1, Value.ref 3) ∈ lw) {n0 : Int32} (bk0 : 0 ≤ n0.toInt ∧ n0.toInt ≤ 0) (ret0 : ∀ (r : Int32) (σ' : am_S), (0 ≤ 1 * r.toInt + 0 ∧ 1 * r.toInt + 0 ≤ 0) → sx_M z9 hd_C σ 0 0 σ' → post (some (some (.int r))) σ') : am_K g 25 tX8_readComparison.1 0 0 28 lw [.int n0] σ post := by
  refine sg_seg (sw := [.int n0]) (vs := []) (ws := [n0.toInt]) G (mi := 278) rfl hct sg_rk4n_ok trivial (hd_rfc hl (hd_rfc hlr1 hd_rfn)) ⟨⟨n0, rfl, rfl⟩, trivial⟩ (hd_p1 rfl bk0.1 bk0.2 hd_p0) hM ?_ ?_
  · intro r σ' hq
    cases r with
    | none => exact hq.elim
    | some v =>
      obtain ⟨p, hp, hM2, ks, hk, hv⟩ := hq
      simp only [List.mem_cons, List.not_mem_nil, or_false] at hp
      rcases hp with rfl
      · obtain rfl := hd_keys hk
        cases v with
        | none => exact hv.elim
        | some w9 =>
          obtain ⟨r, rfl, hP⟩ := hv
          obtain ⟨v0, e0, l0, u0⟩ := hP _ (List.mem_cons_self)
          have g0 : 1 * r.toInt + 0 = v0 := Option.some.inj e0
          exact ret0 r _ ⟨by rw [g0]; exact l0, by rw [g0]; exact u0⟩ hM2
  · intro u hu
    cases hu
theorem sg_rk4_run (G : sx_G0 g L xs z9 hd_C ex_mt) (hct : ∀ (mi : Nat) (T2 : ex_T) (c' : sx_Ct), ex_mt mi = some T2 → c' ∈ k9 mi → c'.1 < 60 → sx_Holds g z9 hd_C T2 c') {σ : am_S} {lw : List (Nat × Value)} {post : Option (Option Value) → am_S → Prop} (hM : sx_M z9 hd_C σ 0 0 σ) (hl : (0, Value.ref 65) ∈ lw) (hlr1 : (1, Value.ref 3) ∈ lw) {m2 : Int32} (hl2 : (2, Value.int m2) ∈ lw) {m3 : Int32} (hl3 : (3, Value.int m3) ∈ lw) {n0 : Int32} (bk0 : 1 ≤ n0.toInt ∧ n0.toInt ≤ 1) (cuta : ∀ (lw' : List (Nat × Value)) (n0' : Int32) (σ' : am_S), (0, Value.ref 65) ∈ lw' → (1, Value.ref 3) ∈ lw' → sx_M z9 hd_C σ 0 0 σ' → am_K g 25 tX8_readComparison.1 0 0 47 lw' [.int n0', .ref 65] σ' post) : am_K g 25 tX8_readComparison.1 0 0 28 lw [.int n0] σ post := by
  refine sg_seg (sw := [.int n0]) (vs := [m2.toInt, m3.toInt]) (ws := [n0.toInt]) G (mi := 278) rfl hct sg_rk4_ok ⟨⟨m2, hl2, rfl⟩, ⟨⟨m3, hl3, rfl⟩, trivial⟩⟩ (hd_rfc hl (hd_rfc hlr1 hd_rfn)) ⟨⟨n0, rfl, rfl⟩, trivial⟩ (hd_p1 rfl (Int32.le_toInt _) (Int32.toInt_le _) (hd_p1 rfl (Int32.le_toInt _) (Int32.toInt_le _) (hd_p1 rfl bk0.1 bk0.2 hd_p0))) hM ?_ ?_
  · intro r σ' hq
    cases r with
    | none => exact hq.elim
    | some v =>
      obtain ⟨p, hp, hM2, ks, hk, hv⟩ := hq
      cases hp
  · intro u hu
    simp only [List.mem_cons, List.not_mem_nil, or_false] at hu
    rcases hu with rfl
    · intro lw' sw' vs' ws' σ' ⟨h1_0, h2, h3_0, h4, h5⟩
      obtain rfl := hd_src0 h1_0
      obtain ⟨n0', sw1, ws1, rfl, rfl, h3_1⟩ := hd_sti h3_0
      obtain ⟨sw2, rfl, h3_2⟩ := hd_str h3_1
      obtain ⟨rfl, rfl⟩ := hd_st0 h3_2
      have hr9_0 := hd_rfh h2
      have hr9_1 := hd_rfh (hd_rfT h2)
      exact cuta _ _ _ hr9_0 hr9_1   h5
theorem sg_rk5_run (G : sx_G0 g L xs z9 hd_C ex_mt) (hct : ∀ (mi : Nat) (T2 : ex_T) (c' : sx_Ct), ex_mt mi = some T2 → c' ∈ k9 mi → c'.1 < 60 → sx_Holds g z9 hd_C T2 c') {σ : am_S} {lw : List (Nat × Value)} {post : Option (Option Value) → am_S → Prop} (hM : sx_M z9 hd_C σ 0 0 σ) (hl : (0, Value.ref 65) ∈ lw) (hlr1 : (1, Value.ref 3) ∈ lw)  (cuta : ∀ (lw' : List (Nat × Value))  (σ' : am_S), (0, Value.ref 65) ∈ lw' → (1, Value.ref 3) ∈ lw' → sx_M z9 hd_C σ 0 0 σ' → am_K g 25 tX8_readComparison.1 0 0 51 lw' [.ref 3] σ' post) : am_K g 25 tX8_readComparison.1 0 0 50 lw [] σ post := by
  refine sg_seg (sw := []) (vs := []) (ws := []) G (mi := 278) rfl hct sg_rk5_ok trivial (hd_rfc hl (hd_rfc hlr1 hd_rfn)) trivial hd_p0 hM ?_ ?_
  · intro r σ' hq
    cases r with
    | none => exact hq.elim
    | some v =>
      obtain ⟨p, hp, hM2, ks, hk, hv⟩ := hq
      cases hp
  · intro u hu
    simp only [List.mem_cons, List.not_mem_nil, or_false] at hu
    rcases hu with rfl
    · intro lw' sw' vs' ws' σ' ⟨h1_0, h2, h3_0, h4, h5⟩
      obtain rfl := hd_src0 h1_0
      obtain ⟨sw1, rfl, h3_1⟩ := hd_str h3_0
      obtain ⟨rfl, rfl⟩ := hd_st0 h3_1
      have hr9_0 := hd_rfh h2
      have hr9_1 := hd_rfh (hd_rfT h2)
      exact cuta _  _ hr9_0 hr9_1   h5
theorem sg_rk6_run (G : sx_G0 g L xs z9 hd_C ex_mt) (hct : ∀ (mi : Nat) (T2 : ex_T) (c' : sx_Ct), ex_mt mi = some T2 → c' ∈ k9 mi → c'.1 < 60 → sx_Holds g z9 hd_C T2 c') {σ : am_S} {lw : List (Nat × Value)} {post : Option (Option Value) → am_S → Prop} (hM : sx_M z9 hd_C σ 0 0 σ) (hl : (0, Value.ref 65) ∈ lw) (hlr1 : (1, Value.ref 3) ∈ lw)  (ret0 : ∀ (r : Int32) (σ' : am_S), (1 ≤ 1 * r.toInt + 0 ∧ 1 * r.toInt + 0 ≤ 1) → sx_M z9 hd_C σ 0 0 σ' → post (some (some (.int r))) σ') : am_K g 25 tX8_readComparison.1 0 0 54 lw [] σ post := by
  refine sg_seg (sw := []) (vs := []) (ws := []) G (mi := 278) rfl hct sg_rk6_ok trivial (hd_rfc hl (hd_rfc hlr1 hd_rfn)) trivial hd_p0 hM ?_ ?_
  · intro r σ' hq
    cases r with
    | none => exact hq.elim
    | some v =>
      obtain ⟨p, hp, hM2, ks, hk, hv⟩ := hq
      simp only [List.mem_cons, List.not_mem_nil, or_false] at hp
      rcases hp with rfl
      · obtain rfl := hd_keys hk
        cases v with
        | none => exact hv.elim
        | some w9 =>
          obtain ⟨r, rfl, hP⟩ := hv
          obtain ⟨v0, e0, l0, u0⟩ := hP _ (List.mem_cons_self)
          have g0 : 1 * r.toInt + 0 = v0 := Option.some.inj e0
          exact ret0 r _ ⟨by rw [g0]; exact l0, by rw [g0]; exact u0⟩ hM2
  · intro u hu
    cases hu
theorem sg_rF1_run (G : sx_G0 g L xs z9 hd_C ex_mt) (hct : ∀ (mi : Nat) (T2 : ex_T) (c' : sx_Ct), ex_mt mi = some T2 → c' ∈ k9 mi → c'.1 < 60 → sx_Holds g z9 hd_C T2 c') {σ : am_S} {lw : List (Nat × Value)} {post : Option (Option Value) → am_S → Prop} (hM : sx_M z9 hd_C σ 0 0 σ) (hl : (0, Value.ref 65) ∈ lw) (hlr1 : (1, Value.ref 3) ∈ lw)  (cuta : ∀ (lw' : List (Nat × Value)) (n0' : Int32) (σ' : am_S), (0, Value.ref 65) ∈ lw' → (1, Value.ref 3) ∈ lw' → (1 ≤ 1 * n0'.toInt + 0 ∧ 1 * n0'.toInt + 0 ≤ 1) → (0 ≤ 1 * (σ'.2.1 65 3).toInt + 0 ∧ 1 * (σ'.2.1 65 3).toInt + 0 ≤ 0) → sx_M z9 hd_C σ 315936875005671560093754083051011296956685286201647333762932932608 0 σ' → am_K g 55 tX8_readFrom.1 0 0 7 lw' [.int n0', .ref 3, .ref 65] σ' post) : am_K g 55 tX8_readFrom.1 0 0 0 lw [] σ post := by
  refine sg_seg (sw := []) (vs := []) (ws := []) G (mi := 280) rfl hct sg_rF1_ok trivial (hd_rfc hl (hd_rfc hlr1 hd_rfn)) trivial hd_p0 hM ?_ ?_
  · intro r σ' hq
    cases r with
    | none => exact hq.elim
    | some v =>
      obtain ⟨p, hp, hM2, ks, hk, hv⟩ := hq
      cases hp
  · intro u hu
    simp only [List.mem_cons, List.not_mem_nil, or_false] at hu
    rcases hu with rfl
    · intro lw' sw' vs' ws' σ' ⟨h1_0, h2, h3_0, h4, h5⟩
      obtain ⟨vs1, rfl, h1_1⟩ := hd_srcs h1_0
      obtain rfl := hd_src0 h1_1
      obtain ⟨n0', sw1, ws1, rfl, rfl, h3_1⟩ := hd_sti h3_0
      obtain ⟨sw2, rfl, h3_2⟩ := hd_str h3_1
      obtain ⟨sw3, rfl, h3_3⟩ := hd_str h3_2
      obtain ⟨rfl, rfl⟩ := hd_st0 h3_3
      have hr9_0 := hd_rfh h2
      have hr9_1 := hd_rfh (hd_rfT h2)
      obtain ⟨v0, e0, l0, u0⟩ := h4 _ (List.mem_cons_self)
      have g0 : 1 * n0'.toInt + 0 = v0 := Option.some.inj e0
      obtain ⟨v1, e1, l1, u1⟩ := h4 _ (List.mem_cons_of_mem _ (List.mem_cons_self))
      have g1 : 1 * (σ'.2.1 65 3).toInt + 0 = v1 := Option.some.inj e1
      exact cuta _ _ _ hr9_0 hr9_1  ⟨by rw [g0]; exact l0, by rw [g0]; exact u0⟩ ⟨by rw [g1]; exact l1, by rw [g1]; exact u1⟩ h5
theorem sg_rF2n_run (G : sx_G0 g L xs z9 hd_C ex_mt) (hct : ∀ (mi : Nat) (T2 : ex_T) (c' : sx_Ct), ex_mt mi = some T2 → c' ∈ k9 mi → c'.1 < 60 → sx_Holds g z9 hd_C T2 c') {σ : am_S} {lw : List (Nat × Value)} {post : Option (Option Value) → am_S → Prop} (hM : sx_M z9 hd_C σ 0 0 σ) (hl : (0, Value.ref 65) ∈ lw) (hlr1 : (1, Value.ref 3) ∈ lw) {n0 : Int32} (bk0 : 0 ≤ n0.toInt ∧ n0.toInt ≤ 0) (ret0 : ∀ (r : Int32) (σ' : am_S), (0 ≤ 1 * r.toInt + 0 ∧ 1 * r.toInt + 0 ≤ 0) → sx_M z9 hd_C σ 0 0 σ' → post (some (some (.int r))) σ') : am_K g 55 tX8_readFrom.1 0 0 10 lw [.int n0] σ post := by
  refine sg_seg (sw := [.int n0]) (vs := []) (ws := [n0.toInt]) G (mi := 280) rfl hct sg_rF2n_ok trivial (hd_rfc hl (hd_rfc hlr1 hd_rfn)) ⟨⟨n0, rfl, rfl⟩, trivial⟩ (hd_p1 rfl bk0.1 bk0.2 hd_p0) hM ?_ ?_
  · intro r σ' hq
    cases r with
    | none => exact hq.elim
    | some v =>
      obtain ⟨p, hp, hM2, ks, hk, hv⟩ := hq
      simp only [List.mem_cons, List.not_mem_nil, or_false] at hp
      rcases hp with rfl
      · obtain rfl := hd_keys hk
        cases v with
        | none => exact hv.elim
        | some w9 =>
          obtain ⟨r, rfl, hP⟩ := hv
          obtain ⟨v0, e0, l0, u0⟩ := hP _ (List.mem_cons_self)
          have g0 : 1 * r.toInt + 0 = v0 := Option.some.inj e0
          exact ret0 r _ ⟨by rw [g0]; exact l0, by rw [g0]; exact u0⟩ hM2
  · intro u hu
    cases hu
theorem sg_rF2e_run (G : sx_G0 g L xs z9 hd_C ex_mt) (hct : ∀ (mi : Nat) (T2 : ex_T) (c' : sx_Ct), ex_mt mi = some T2 → c' ∈ k9 mi → c'.1 < 60 → sx_Holds g z9 hd_C T2 c') {σ : am_S} {lw : List (Nat × Value)} {post : Option (Option Value) → am_S → Prop} (hM : sx_M z9 hd_C σ 0 0 σ) (hl : (0, Value.ref 65) ∈ lw) (hlr1 : (1, Value.ref 3) ∈ lw) (bp3_3 : 0 ≤ (σ.2.1 3 3).toInt ∧ (σ.2.1 3 3).toInt ≤ 0) {n0 : Int32} (bk0 : 1 ≤ n0.toInt ∧ n0.toInt ≤ 1) (ret0 : ∀ (r : Int32) (σ' : am_S), (1 ≤ 1 * r.toInt + 0 ∧ 1 * r.toInt + 0 ≤ 1) → sx_M z9 hd_C σ 0 0 σ' → post (some (some (.int r))) σ') : am_K g 55 tX8_readFrom.1 0 0 10 lw [.int n0] σ post := by
  refine sg_seg (sw := [.int n0]) (vs := [(σ.2.1 3 3).toInt]) (ws := [n0.toInt]) G (mi := 280) rfl hct sg_rF2e_ok ⟨rfl, trivial⟩ (hd_rfc hl (hd_rfc hlr1 hd_rfn)) ⟨⟨n0, rfl, rfl⟩, trivial⟩ (hd_p1 rfl bp3_3.1 bp3_3.2 (hd_p1 rfl bk0.1 bk0.2 hd_p0)) hM ?_ ?_
  · intro r σ' hq
    cases r with
    | none => exact hq.elim
    | some v =>
      obtain ⟨p, hp, hM2, ks, hk, hv⟩ := hq
      simp only [List.mem_cons, List.not_mem_nil, or_false] at hp
      rcases hp with rfl
      · obtain rfl := hd_keys hk
        cases v with
        | none => exact hv.elim
        | some w9 =>
          obtain ⟨r, rfl, hP⟩ := hv
          obtain ⟨v0, e0, l0, u0⟩ := hP _ (List.mem_cons_self)
          have g0 : 1 * r.toInt + 0 = v0 := Option.some.inj e0
          exact ret0 r _ ⟨by rw [g0]; exact l0, by rw [g0]; exact u0⟩ hM2
  · intro u hu
    cases hu
theorem sg_rF2m_run (G : sx_G0 g L xs z9 hd_C ex_mt) (hct : ∀ (mi : Nat) (T2 : ex_T) (c' : sx_Ct), ex_mt mi = some T2 → c' ∈ k9 mi → c'.1 < 60 → sx_Holds g z9 hd_C T2 c') {σ : am_S} {lw : List (Nat × Value)} {post : Option (Option Value) → am_S → Prop} (hM : sx_M z9 hd_C σ 0 0 σ) (hl : (0, Value.ref 65) ∈ lw) (hlr1 : (1, Value.ref 3) ∈ lw) (bp3_3 : 1 ≤ (σ.2.1 3 3).toInt ∧ (σ.2.1 3 3).toInt ≤ 4) {n0 : Int32} (bk0 : 1 ≤ n0.toInt ∧ n0.toInt ≤ 1) (ret0 : ∀ (r : Int32) (σ' : am_S), (0 ≤ 1 * r.toInt + 0 ∧ 1 * r.toInt + 0 ≤ 0) → (1 ≤ 1 * (σ'.2.1 3 7).toInt + 0 ∧ 1 * (σ'.2.1 3 7).toInt + 0 ≤ 1) → (0 ≤ 1 * (σ.2.1 3 4).toInt + ((-1) * (σ'.2.1 3 8).toInt + 0) ∧ 1 * (σ.2.1 3 4).toInt + ((-1) * (σ'.2.1 3 8).toInt + 0) ≤ 0) → sx_M z9 hd_C σ 402653184 0 σ' → post (some (some (.int r))) σ') : am_K g 55 tX8_readFrom.1 0 0 10 lw [.int n0] σ post := by
  refine sg_seg (sw := [.int n0]) (vs := [(σ.2.1 3 3).toInt, (σ.2.1 3 4).toInt]) (ws := [n0.toInt]) G (mi := 280) rfl hct sg_rF2m_ok ⟨rfl, ⟨rfl, trivial⟩⟩ (hd_rfc hl (hd_rfc hlr1 hd_rfn)) ⟨⟨n0, rfl, rfl⟩, trivial⟩ (hd_p1 rfl bp3_3.1 bp3_3.2 (hd_p1 rfl (hd_kd_3_4 hM).1 (hd_kd_3_4 hM).2 (hd_p1 rfl bk0.1 bk0.2 hd_p0))) hM ?_ ?_
  · intro r σ' hq
    cases r with
    | none => exact hq.elim
    | some v =>
      obtain ⟨p, hp, hM2, ks, hk, hv⟩ := hq
      simp only [List.mem_cons, List.not_mem_nil, or_false] at hp
      rcases hp with rfl
      · obtain ⟨ks0, rfl, hk1⟩ := hd_keyc hk; obtain ⟨ks1, rfl, hk2⟩ := hd_keyc hk1; obtain rfl := hd_keys hk2
        cases v with
        | none => exact hv.elim
        | some w9 =>
          obtain ⟨r, rfl, hP⟩ := hv
          obtain ⟨v0, e0, l0, u0⟩ := hP _ (List.mem_cons_self)
          have g0 : 1 * r.toInt + 0 = v0 := Option.some.inj e0
          obtain ⟨v1, e1, l1, u1⟩ := hP _ (List.mem_cons_of_mem _ (List.mem_cons_self))
          have g1 : 1 * (σ'.2.1 3 7).toInt + 0 = v1 := Option.some.inj e1
          obtain ⟨v2, e2, l2, u2⟩ := hP _ (List.mem_cons_of_mem _ (List.mem_cons_of_mem _ (List.mem_cons_self)))
          have g2 : 1 * (σ.2.1 3 4).toInt + ((-1) * (σ'.2.1 3 8).toInt + 0) = v2 := Option.some.inj e2
          exact ret0 r _ ⟨by rw [g0]; exact l0, by rw [g0]; exact u0⟩ ⟨by rw [g1]; exact l1, by rw [g1]; exact u1⟩ ⟨by rw [g2]; exact l2, by rw [g2]; exact u2⟩ hM2
  · intro u hu
    cases hu
theorem sg_cF_run (G : sx_G0 g L xs z9 hd_C ex_mt) (hct : ∀ (mi : Nat) (T2 : ex_T) (c' : sx_Ct), ex_mt mi = some T2 → c' ∈ k9 mi → c'.1 < 60 → sx_Holds g z9 hd_C T2 c') {σ : am_S} {lw : List (Nat × Value)} {post : Option (Option Value) → am_S → Prop} (hM : sx_M z9 hd_C σ 0 0 σ) (hl : (0, Value.ref 62) ∈ lw) (hlr1 : (1, Value.ref 65) ∈ lw)  (ret0 : ∀ (σ' : am_S), (0 ≤ 1 * (σ.2.1 65 3).toInt + ((-1) * (σ'.2.1 62 3).toInt + 0) ∧ 1 * (σ.2.1 65 3).toInt + ((-1) * (σ'.2.1 62 3).toInt + 0) ≤ 0) → sx_M z9 hd_C σ 11518531901248442295084784277901453534879151059435059043440263168 0 σ' → post (some none) σ') : am_K g 30 tX8_copyFrom.1 0 0 0 lw [] σ post := by
  refine sg_seg (sw := []) (vs := [(σ.2.1 65 3).toInt]) (ws := []) G (mi := 274) rfl hct sg_cF_ok ⟨rfl, trivial⟩ (hd_rfc hl (hd_rfc hlr1 hd_rfn)) trivial (hd_p1 rfl (hd_kd_65_3 hM).1 (hd_kd_65_3 hM).2 hd_p0) hM ?_ ?_
  · intro r σ' hq
    cases r with
    | none => exact hq.elim
    | some v =>
      obtain ⟨p, hp, hM2, ks, hk, hv⟩ := hq
      simp only [List.mem_cons, List.not_mem_nil, or_false] at hp
      rcases hp with rfl
      · obtain ⟨ks0, rfl, hk1⟩ := hd_keyc hk; obtain rfl := hd_keys hk1
        cases v with
        | some w9 => exact hv.elim
        | none =>
          have hP := hv
          obtain ⟨v0, e0, l0, u0⟩ := hP _ (List.mem_cons_self)
          have g0 : 1 * (σ.2.1 65 3).toInt + ((-1) * (σ'.2.1 62 3).toInt + 0) = v0 := Option.some.inj e0
          exact ret0 _ ⟨by rw [g0]; exact l0, by rw [g0]; exact u0⟩ hM2
  · intro u hu
    cases hu
theorem sg_sS1_run (G : sx_G0 g L xs z9 hd_C ex_mt) (hct : ∀ (mi : Nat) (T2 : ex_T) (c' : sx_Ct), ex_mt mi = some T2 → c' ∈ k9 mi → c'.1 < 60 → sx_Holds g z9 hd_C T2 c') {σ : am_S} {lw : List (Nat × Value)} {post : Option (Option Value) → am_S → Prop} (hM : sx_M z9 hd_C σ 0 0 σ) (hl : (0, Value.ref 0) ∈ lw)  (cuta : ∀ (lw' : List (Nat × Value)) (n0' : Int32) (σ' : am_S), (0, Value.ref 0) ∈ lw' → (200 ≤ 1 * n0'.toInt + 0 ∧ 1 * n0'.toInt + 0 ≤ 200) → sx_M z9 hd_C σ 0 0 σ' → am_K g 60 tX11_sentence.1 0 0 7 lw' [.int n0', .ref 3] σ' post) : am_K g 60 tX11_sentence.1 0 0 0 lw [] σ post := by
  refine sg_seg (sw := []) (vs := []) (ws := []) G (mi := 62) rfl hct sg_sS1_ok trivial (hd_refs hl) trivial hd_p0 hM ?_ ?_
  · intro r σ' hq
    cases r with
    | none => exact hq.elim
    | some v =>
      obtain ⟨p, hp, hM2, ks, hk, hv⟩ := hq
      cases hp
  · intro u hu
    simp only [List.mem_cons, List.not_mem_nil, or_false] at hu
    rcases hu with rfl
    · intro lw' sw' vs' ws' σ' ⟨h1_0, h2, h3_0, h4, h5⟩
      obtain rfl := hd_src0 h1_0
      obtain ⟨n0', sw1, ws1, rfl, rfl, h3_1⟩ := hd_sti h3_0
      obtain ⟨sw2, rfl, h3_2⟩ := hd_str h3_1
      obtain ⟨rfl, rfl⟩ := hd_st0 h3_2
      have hr9 := hd_ref0 h2
      obtain ⟨v0, e0, l0, u0⟩ := h4 _ (List.mem_cons_self)
      have g0 : 1 * n0'.toInt + 0 = v0 := Option.some.inj e0
      exact cuta _ _ _ hr9  ⟨by rw [g0]; exact l0, by rw [g0]; exact u0⟩ h5
theorem sg_sS2_run (G : sx_G0 g L xs z9 hd_C ex_mt) (hct : ∀ (mi : Nat) (T2 : ex_T) (c' : sx_Ct), ex_mt mi = some T2 → c' ∈ k9 mi → c'.1 < 60 → sx_Holds g z9 hd_C T2 c') {σ : am_S} {lw : List (Nat × Value)} {post : Option (Option Value) → am_S → Prop} (hM : sx_M z9 hd_C σ 0 0 σ) (hl : (0, Value.ref 0) ∈ lw)  (cuta : ∀ (lw' : List (Nat × Value))  (σ' : am_S), (0, Value.ref 0) ∈ lw' → sx_M z9 hd_C σ 0 0 σ' → am_K g 60 tX11_sentence.1 0 0 18 lw' [.ref 3, .ref 65] σ' post) : am_K g 60 tX11_sentence.1 0 0 10 lw [] σ post := by
  refine sg_seg (sw := []) (vs := []) (ws := []) G (mi := 62) rfl hct sg_sS2_ok trivial (hd_refs hl) trivial hd_p0 hM ?_ ?_
  · intro r σ' hq
    cases r with
    | none => exact hq.elim
    | some v =>
      obtain ⟨p, hp, hM2, ks, hk, hv⟩ := hq
      cases hp
  · intro u hu
    simp only [List.mem_cons, List.not_mem_nil, or_false] at hu
    rcases hu with rfl
    · intro lw' sw' vs' ws' σ' ⟨h1_0, h2, h3_0, h4, h5⟩
      obtain rfl := hd_src0 h1_0
      obtain ⟨sw1, rfl, h3_1⟩ := hd_str h3_0
      obtain ⟨sw2, rfl, h3_2⟩ := hd_str h3_1
      obtain ⟨rfl, rfl⟩ := hd_st0 h3_2
      have hr9 := hd_ref0 h2
      exact cuta _  _ hr9   h5
theorem sg_sS3n_run (G : sx_G0 g L xs z9 hd_C ex_mt) (hct : ∀ (mi : Nat) (T2 : ex_T) (c' : sx_Ct), ex_mt mi = some T2 → c' ∈ k9 mi → c'.1 < 60 → sx_Holds g z9 hd_C T2 c') {σ : am_S} {lw : List (Nat × Value)} {post : Option (Option Value) → am_S → Prop} (hM : sx_M z9 hd_C σ 0 0 σ) (hl : (0, Value.ref 0) ∈ lw) (bp3_8 : 0 ≤ (σ.2.1 3 8).toInt ∧ (σ.2.1 3 8).toInt ≤ 940) {n0 : Int32} (bk0 : 0 ≤ n0.toInt ∧ n0.toInt ≤ 0) (ret0 : ∀ (r : Int32) (σ' : am_S), ((-1) ≤ 1 * (σ.2.1 3 8).toInt + (1 * r.toInt + 0) ∧ 1 * (σ.2.1 3 8).toInt + (1 * r.toInt + 0) ≤ (-1)) → (0 ≤ 1 * (σ'.2.1 1 1).toInt + 0 ∧ 1 * (σ'.2.1 1 1).toInt + 0 ≤ 0) → (0 ≤ 1 * (σ.2.1 3 7).toInt + ((-1) * (σ'.2.1 0 16).toInt + 0) ∧ 1 * (σ.2.1 3 7).toInt + ((-1) * (σ'.2.1 0 16).toInt + 0) ≤ 0) → sx_M z9 hd_C σ 327680 0 σ' → post (some (some (.int r))) σ') : am_K g 60 tX11_sentence.1 0 0 21 lw [.int n0] σ post := by
  refine sg_seg (sw := [.int n0]) (vs := [(σ.2.1 3 7).toInt, (σ.2.1 3 8).toInt]) (ws := [n0.toInt]) G (mi := 62) rfl hct sg_sS3n_ok ⟨rfl, ⟨rfl, trivial⟩⟩ (hd_refs hl) ⟨⟨n0, rfl, rfl⟩, trivial⟩ (hd_p1 rfl (hd_kd_3_7 hM).1 (hd_kd_3_7 hM).2 (hd_p1 rfl bp3_8.1 bp3_8.2 (hd_p1 rfl bk0.1 bk0.2 hd_p0))) hM ?_ ?_
  · intro r σ' hq
    cases r with
    | none => exact hq.elim
    | some v =>
      obtain ⟨p, hp, hM2, ks, hk, hv⟩ := hq
      simp only [List.mem_cons, List.not_mem_nil, or_false] at hp
      rcases hp with rfl
      · obtain ⟨ks0, rfl, hk1⟩ := hd_keyc hk; obtain ⟨ks1, rfl, hk2⟩ := hd_keyc hk1; obtain rfl := hd_keys hk2
        cases v with
        | none => exact hv.elim
        | some w9 =>
          obtain ⟨r, rfl, hP⟩ := hv
          obtain ⟨v0, e0, l0, u0⟩ := hP _ (List.mem_cons_self)
          have g0 : 1 * (σ.2.1 3 8).toInt + (1 * r.toInt + 0) = v0 := Option.some.inj e0
          obtain ⟨v1, e1, l1, u1⟩ := hP _ (List.mem_cons_of_mem _ (List.mem_cons_self))
          have g1 : 1 * (σ'.2.1 1 1).toInt + 0 = v1 := Option.some.inj e1
          obtain ⟨v2, e2, l2, u2⟩ := hP _ (List.mem_cons_of_mem _ (List.mem_cons_of_mem _ (List.mem_cons_self)))
          have g2 : 1 * (σ.2.1 3 7).toInt + ((-1) * (σ'.2.1 0 16).toInt + 0) = v2 := Option.some.inj e2
          exact ret0 r _ ⟨by rw [g0]; exact l0, by rw [g0]; exact u0⟩ ⟨by rw [g1]; exact l1, by rw [g1]; exact u1⟩ ⟨by rw [g2]; exact l2, by rw [g2]; exact u2⟩ hM2
  · intro u hu
    cases hu
theorem sg_sS3y_run (G : sx_G0 g L xs z9 hd_C ex_mt) (hct : ∀ (mi : Nat) (T2 : ex_T) (c' : sx_Ct), ex_mt mi = some T2 → c' ∈ k9 mi → c'.1 < 60 → sx_Holds g z9 hd_C T2 c') {σ : am_S} {lw : List (Nat × Value)} {post : Option (Option Value) → am_S → Prop} (hM : sx_M z9 hd_C σ 0 0 σ) (hl : (0, Value.ref 0) ∈ lw) {n0 : Int32} (bk0 : 1 ≤ n0.toInt ∧ n0.toInt ≤ 1) (cuta : ∀ (lw' : List (Nat × Value))  (σ' : am_S), (0, Value.ref 0) ∈ lw' → (0 ≤ 1 * (σ'.2.1 1 1).toInt + 0 ∧ 1 * (σ'.2.1 1 1).toInt + 0 ≤ 0) → (0 ≤ 1 * (σ.2.1 3 7).toInt + ((-1) * (σ'.2.1 0 16).toInt + 0) ∧ 1 * (σ.2.1 3 7).toInt + ((-1) * (σ'.2.1 0 16).toInt + 0) ≤ 0) → sx_M z9 hd_C σ 327680 0 σ' → am_K g 60 tX11_sentence.1 0 0 63 lw' [.ref 65, .ref 62] σ' post) : am_K g 60 tX11_sentence.1 0 0 21 lw [.int n0] σ post := by
  refine sg_seg (sw := [.int n0]) (vs := [(σ.2.1 3 7).toInt]) (ws := [n0.toInt]) G (mi := 62) rfl hct sg_sS3y_ok ⟨rfl, trivial⟩ (hd_refs hl) ⟨⟨n0, rfl, rfl⟩, trivial⟩ (hd_p1 rfl (hd_kd_3_7 hM).1 (hd_kd_3_7 hM).2 (hd_p1 rfl bk0.1 bk0.2 hd_p0)) hM ?_ ?_
  · intro r σ' hq
    cases r with
    | none => exact hq.elim
    | some v =>
      obtain ⟨p, hp, hM2, ks, hk, hv⟩ := hq
      cases hp
  · intro u hu
    simp only [List.mem_cons, List.not_mem_nil, or_false] at hu
    rcases hu with rfl
    · intro lw' sw' vs' ws' σ' ⟨h1_0, h2, h3_0, h4, h5⟩
      obtain ⟨vs1, rfl, h1_1⟩ := hd_srcs h1_0
      obtain ⟨vs2, rfl, h1_2⟩ := hd_srcs h1_1
      obtain rfl := hd_src0 h1_2
      obtain ⟨sw1, rfl, h3_1⟩ := hd_str h3_0
      obtain ⟨sw2, rfl, h3_2⟩ := hd_str h3_1
      obtain ⟨rfl, rfl⟩ := hd_st0 h3_2
      have hr9 := hd_ref0 h2
      obtain ⟨v0, e0, l0, u0⟩ := h4 _ (List.mem_cons_self)
      have g0 : 1 * (σ'.2.1 1 1).toInt + 0 = v0 := Option.some.inj e0
      obtain ⟨v1, e1, l1, u1⟩ := h4 _ (List.mem_cons_of_mem _ (List.mem_cons_self))
      have g1 : 1 * (σ.2.1 3 7).toInt + ((-1) * (σ'.2.1 0 16).toInt + 0) = v1 := Option.some.inj e1
      exact cuta _  _ hr9  ⟨by rw [g0]; exact l0, by rw [g0]; exact u0⟩ ⟨by rw [g1]; exact l1, by rw [g1]; exact u1⟩ h5
theorem sg_sS4_run (G : sx_G0 g L xs z9 hd_C ex_mt) (hct : ∀ (mi : Nat) (T2 : ex_T) (c' : sx_Ct), ex_mt mi = some T2 → c' ∈ k9 mi → c'.1 < 60 → sx_Holds g z9 hd_C T2 c') {σ : am_S} {lw : List (Nat × Value)} {post : Option (Option Value) → am_S → Prop} (hM : sx_M z9 hd_C σ 0 0 σ) (hl : (0, Value.ref 0) ∈ lw)  (ret0 : ∀ (r : Int32) (σ' : am_S), (0 ≤ 1 * (σ.2.1 62 3).toInt + ((-1) * r.toInt + 0) ∧ 1 * (σ.2.1 62 3).toInt + ((-1) * r.toInt + 0) ≤ 0) → sx_M z9 hd_C σ 0 0 σ' → post (some (some (.int r))) σ') : am_K g 60 tX11_sentence.1 0 0 66 lw [] σ post := by
  refine sg_seg (sw := []) (vs := [(σ.2.1 62 3).toInt]) (ws := []) G (mi := 62) rfl hct sg_sS4_ok ⟨rfl, trivial⟩ (hd_refs hl) trivial (hd_p1 rfl (hd_kd_62_3 hM).1 (hd_kd_62_3 hM).2 hd_p0) hM ?_ ?_
  · intro r σ' hq
    cases r with
    | none => exact hq.elim
    | some v =>
      obtain ⟨p, hp, hM2, ks, hk, hv⟩ := hq
      simp only [List.mem_cons, List.not_mem_nil, or_false] at hp
      rcases hp with rfl
      · obtain rfl := hd_keys hk
        cases v with
        | none => exact hv.elim
        | some w9 =>
          obtain ⟨r, rfl, hP⟩ := hv
          obtain ⟨v0, e0, l0, u0⟩ := hP _ (List.mem_cons_self)
          have g0 : 1 * (σ.2.1 62 3).toInt + ((-1) * r.toInt + 0) = v0 := Option.some.inj e0
          exact ret0 r _ ⟨by rw [g0]; exact l0, by rw [g0]; exact u0⟩ hM2
  · intro u hu
    cases hu
end HR
