/-! segments of the readers (written by a program) -/
def sg_rw1a : sg_Cu := (0, 0, [(0, .inr (some (false, 12))), (1, .inr (some (false, 3)))], ([.inr 786439, .inr 196612], [([(.ofNat 1, 0)], .ofNat 10, .ofNat 10), ([(.ofNat 1, 1)], .negSucc 2147483647, .ofNat 2147483647)]), [])
def sg_rw1a_p0 : sx_Po := (402653184, true, [196615, 196616], [([(.ofNat 1, 2)], .ofNat 0, .ofNat 0), ([(.ofNat 1, 3)], .ofNat 4, .ofNat 4), ([(.ofNat 1, 1), (.negSucc 0, 4)], .ofNat 0, .ofNat 0)])
theorem sg_rw1a_ok : sg_chk z9 ex_mt k9 60 tX9_readWindow 18 30 sg_rw1a [sg_rw1a_p0] [] = true := by decide +kernel
def sg_rw1b : sg_Cu := (0, 0, [(0, .inr (some (false, 12))), (1, .inr (some (false, 3)))], ([.inr 786439], [([(.ofNat 1, 0)], .ofNat 0, .ofNat 9)]), [])
def sg_rw1b_a : sg_Cu := (16, 0, [(0, .inr (some (false, 12))), (1, .inr (some (false, 3)))], ([], []), [some (false, 3)])
theorem sg_rw1b_ok : sg_chk z9 ex_mt k9 60 tX9_readWindow 7 30 sg_rw1b [] [sg_rw1b_a] = true := by decide +kernel
def sg_rw2 : sg_Cu := (19, 0, [(0, .inr (some (false, 12))), (1, .inr (some (false, 3)))], ([.inr 786439], [([(.ofNat 1, 0)], .ofNat 0, .ofNat 10)]), [])
def sg_rw2_a : sg_Cu := (31, 0, [(0, .inr (some (false, 12))), (1, .inr (some (false, 3)))], ([], [([(.ofNat 1, 1)], .ofNat 99, .ofNat 99), ([(.ofNat 1, 2)], .ofNat 1, .ofNat 1), ([(.ofNat 1, 0), (.negSucc 0, 3)], .ofNat 0, .ofNat 0)]), [none, none, some (false, 3), none, some (false, 13)])
theorem sg_rw2_ok : sg_chk z9 ex_mt k9 60 tX9_readWindow 9 30 sg_rw2 [] [sg_rw2_a] = true := by decide +kernel
def sg_rw3 : sg_Cu := (34, 0, [(0, .inr (some (false, 12))), (1, .inr (some (false, 3)))], ([.inr 786439], [([(.ofNat 1, 0)], .ofNat 0, .ofNat 10), ([(.ofNat 1, 1)], .ofNat 1, .ofNat 1)]), [none])
def sg_rw3_a : sg_Cu := (49, 0, [(0, .inr (some (false, 12))), (1, .inr (some (false, 3)))], ([], [([(.ofNat 1, 2)], .ofNat 9, .ofNat 9), ([(.ofNat 1, 3)], .ofNat 1, .ofNat 1), ([(.ofNat 1, 0), (.negSucc 0, 4)], .ofNat 0, .ofNat 0)]), [none, none, some (false, 3), none, some (false, 14)])
theorem sg_rw3_ok : sg_chk z9 ex_mt k9 60 tX9_readWindow 10 30 sg_rw3 [] [sg_rw3_a] = true := by decide +kernel
def sg_rw4 : sg_Cu := (52, 0, [(0, .inr (some (false, 12))), (1, .inr (some (false, 3)))], ([.inr 786439], [([(.ofNat 1, 0)], .ofNat 0, .ofNat 10), ([(.ofNat 1, 1)], .ofNat 1, .ofNat 1)]), [none])
def sg_rw4_a : sg_Cu := (66, 0, [(0, .inr (some (false, 12))), (1, .inr (some (false, 3)))], ([], [([(.ofNat 1, 2)], .ofNat 3, .ofNat 3), ([(.ofNat 1, 3)], .ofNat 0, .ofNat 0), ([(.ofNat 1, 0), (.negSucc 0, 4)], .ofNat 0, .ofNat 0)]), [none, none, some (false, 3), none, some (false, 15)])
theorem sg_rw4_ok : sg_chk z9 ex_mt k9 60 tX9_readWindow 10 30 sg_rw4 [] [sg_rw4_a] = true := by decide +kernel
def sg_rw5 : sg_Cu := (69, 0, [(0, .inr (some (false, 12))), (1, .inr (some (false, 3)))], ([.inr 786439], [([(.ofNat 1, 0)], .ofNat 0, .ofNat 10), ([(.ofNat 1, 1)], .ofNat 1, .ofNat 1)]), [none])
def sg_rw5_a : sg_Cu := (84, 0, [(0, .inr (some (false, 12))), (1, .inr (some (false, 3)))], ([], [([(.ofNat 1, 2)], .ofNat 99, .ofNat 99), ([(.ofNat 1, 3)], .ofNat 0, .ofNat 0), ([(.ofNat 1, 0), (.negSucc 0, 4)], .ofNat 0, .ofNat 0)]), [none, none, some (false, 3), none, some (false, 16)])
theorem sg_rw5_ok : sg_chk z9 ex_mt k9 60 tX9_readWindow 10 30 sg_rw5 [] [sg_rw5_a] = true := by decide +kernel
def sg_rw3z : sg_Cu := (34, 0, [(0, .inr (some (false, 12))), (1, .inr (some (false, 3)))], ([], [([(.ofNat 1, 0)], .ofNat 0, .ofNat 0)]), [none])
def sg_rw3z_p0 : sx_Po := (0, true, [], [([(.ofNat 1, 1)], .ofNat 0, .ofNat 0)])
theorem sg_rw3z_ok : sg_chk z9 ex_mt k9 60 tX9_readWindow 8 30 sg_rw3z [sg_rw3z_p0] [] = true := by decide +kernel
def sg_rw4z : sg_Cu := (52, 0, [(0, .inr (some (false, 12))), (1, .inr (some (false, 3)))], ([], [([(.ofNat 1, 0)], .ofNat 0, .ofNat 0)]), [none])
def sg_rw4z_p0 : sx_Po := (0, true, [], [([(.ofNat 1, 1)], .ofNat 0, .ofNat 0)])
theorem sg_rw4z_ok : sg_chk z9 ex_mt k9 60 tX9_readWindow 8 30 sg_rw4z [sg_rw4z_p0] [] = true := by decide +kernel
def sg_rw5z : sg_Cu := (69, 0, [(0, .inr (some (false, 12))), (1, .inr (some (false, 3)))], ([], [([(.ofNat 1, 0)], .ofNat 0, .ofNat 0)]), [none])
def sg_rw5z_p0 : sx_Po := (0, true, [], [([(.ofNat 1, 1)], .ofNat 0, .ofNat 0)])
theorem sg_rw5z_ok : sg_chk z9 ex_mt k9 60 tX9_readWindow 8 30 sg_rw5z [sg_rw5z_p0] [] = true := by decide +kernel
def sg_rw6z : sg_Cu := (87, 0, [(0, .inr (some (false, 12))), (1, .inr (some (false, 3)))], ([], [([(.ofNat 1, 0)], .ofNat 0, .ofNat 0)]), [none])
def sg_rw6z_p0 : sx_Po := (0, true, [], [([(.ofNat 1, 1)], .ofNat 0, .ofNat 0)])
theorem sg_rw6z_ok : sg_chk z9 ex_mt k9 60 tX9_readWindow 8 30 sg_rw6z [sg_rw6z_p0] [] = true := by decide +kernel
def sg_rw6 : sg_Cu := (87, 0, [(0, .inr (some (false, 12))), (1, .inr (some (false, 3)))], ([.inr 786439], [([(.ofNat 1, 0)], .ofNat 0, .ofNat 9), ([(.ofNat 1, 1)], .ofNat 1, .ofNat 1)]), [none])
def sg_rw6_p0 : sx_Po := (18014398509481984, true, [786439], [([(.ofNat 1, 2)], .ofNat 1, .ofNat 1), ([(.ofNat 1, 0), (.negSucc 0, 3)], .negSucc 0, .negSucc 0)])
theorem sg_rw6_ok : sg_chk z9 ex_mt k9 60 tX9_readWindow 15 30 sg_rw6 [sg_rw6_p0] [] = true := by decide +kernel
def sg_rs1a : sg_Cu := (0, 0, [(0, .inr (some (false, 12))), (1, .inr (some (false, 3)))], ([.inr 786440, .inr 196612], [([(.ofNat 1, 0)], .ofNat 6, .ofNat 6), ([(.ofNat 1, 1)], .negSucc 2147483647, .ofNat 2147483647)]), [])
def sg_rs1a_p0 : sx_Po := (402653184, true, [196615, 196616], [([(.ofNat 1, 2)], .ofNat 0, .ofNat 0), ([(.ofNat 1, 3)], .ofNat 4, .ofNat 4), ([(.ofNat 1, 1), (.negSucc 0, 4)], .ofNat 0, .ofNat 0)])
theorem sg_rs1a_ok : sg_chk z9 ex_mt k9 60 tX9_readStands 18 30 sg_rs1a [sg_rs1a_p0] [] = true := by decide +kernel
def sg_rs1b : sg_Cu := (0, 0, [(0, .inr (some (false, 12))), (1, .inr (some (false, 3)))], ([.inr 786440], [([(.ofNat 1, 0)], .ofNat 0, .ofNat 5)]), [])
def sg_rs1b_a : sg_Cu := (16, 0, [(0, .inr (some (false, 12))), (1, .inr (some (false, 3)))], ([], []), [some (false, 3)])
theorem sg_rs1b_ok : sg_chk z9 ex_mt k9 60 tX9_readStands 7 30 sg_rs1b [] [sg_rs1b_a] = true := by decide +kernel
def sg_rs2 : sg_Cu := (19, 0, [(0, .inr (some (false, 12))), (1, .inr (some (false, 3)))], ([.inr 196611, .inr 196614, .inr 196612], [([(.ofNat 1, 0)], .ofNat 3, .ofNat 3), ([(.ofNat 1, 1)], .negSucc 2147483647, .ofNat 2147483647), ([(.ofNat 1, 2)], .negSucc 2147483647, .ofNat 2147483647)]), [])
def sg_rs2_a : sg_Cu := (33, 0, [(0, .inr (some (false, 12))), (1, .inr (some (false, 3)))], ([.inl 2], [([(.ofNat 1, 3)], .ofNat 0, .ofNat 0), ([(.ofNat 1, 1)], .ofNat 1, .ofNat 60)]), [])
def sg_rs2_p0 : sx_Po := (402653184, true, [196615, 196616], [([(.ofNat 1, 3)], .ofNat 0, .ofNat 0), ([(.ofNat 1, 4)], .ofNat 2, .ofNat 2), ([(.ofNat 1, 2), (.negSucc 0, 5)], .ofNat 0, .ofNat 0), ([(.ofNat 1, 1)], .negSucc 2147483647, .ofNat 0)])
def sg_rs2_p1 : sx_Po := (402653184, true, [196615, 196616], [([(.ofNat 1, 3)], .ofNat 0, .ofNat 0), ([(.ofNat 1, 4)], .ofNat 2, .ofNat 2), ([(.ofNat 1, 2), (.negSucc 0, 5)], .ofNat 0, .ofNat 0), ([(.ofNat 1, 1)], .ofNat 61, .ofNat 2147483647)])
theorem sg_rs2_ok : sg_chk z9 ex_mt k9 60 tX9_readStands 35 30 sg_rs2 [sg_rs2_p0, sg_rs2_p1] [sg_rs2_a] = true := by decide +kernel
def sg_rs2a : sg_Cu := (19, 0, [(0, .inr (some (false, 12))), (1, .inr (some (false, 3)))], ([.inr 196611, .inr 196612], [([(.ofNat 1, 0)], .negSucc 2147483647, .ofNat 2), ([(.ofNat 1, 1)], .negSucc 2147483647, .ofNat 2147483647)]), [])
def sg_rs2a_p0 : sx_Po := (402653184, true, [196615, 196616], [([(.ofNat 1, 2)], .ofNat 0, .ofNat 0), ([(.ofNat 1, 3)], .ofNat 1, .ofNat 1), ([(.ofNat 1, 1), (.negSucc 0, 4)], .ofNat 0, .ofNat 0)])
theorem sg_rs2a_ok : sg_chk z9 ex_mt k9 60 tX9_readStands 25 30 sg_rs2a [sg_rs2a_p0] [] = true := by decide +kernel
def sg_rs2b : sg_Cu := (19, 0, [(0, .inr (some (false, 12))), (1, .inr (some (false, 3)))], ([.inr 196611, .inr 196612], [([(.ofNat 1, 0)], .ofNat 4, .ofNat 2147483647), ([(.ofNat 1, 1)], .negSucc 2147483647, .ofNat 2147483647)]), [])
def sg_rs2b_p0 : sx_Po := (402653184, true, [196615, 196616], [([(.ofNat 1, 2)], .ofNat 0, .ofNat 0), ([(.ofNat 1, 3)], .ofNat 1, .ofNat 1), ([(.ofNat 1, 1), (.negSucc 0, 4)], .ofNat 0, .ofNat 0)])
theorem sg_rs2b_ok : sg_chk z9 ex_mt k9 60 tX9_readStands 25 30 sg_rs2b [sg_rs2b_p0] [] = true := by decide +kernel
def sg_rs3 : sg_Cu := (33, 0, [(0, .inr (some (false, 12))), (1, .inr (some (false, 3)))], ([.inl 2, .inr 786440], [([(.ofNat 1, 0)], .ofNat 0, .ofNat 6), ([(.ofNat 1, 1)], .ofNat 0, .ofNat 6)]), [])
def sg_rs3_a : sg_Cu := (43, 0, [(0, .inr (some (false, 12))), (1, .inr (some (false, 3)))], ([.inl 2], [([(.ofNat 1, 0), (.negSucc 0, 3)], .ofNat 0, .ofNat 0), ([(.ofNat 1, 0), (.negSucc 0, 2)], .ofNat 0, .ofNat 0), ([(.ofNat 1, 0), (.negSucc 0, 1)], .negSucc 4611686018427387903, .negSucc 0)]), [none, some (false, 12)])
def sg_rs3_b : sg_Cu := (65, 0, [(0, .inr (some (false, 12))), (1, .inr (some (false, 3)))], ([], [([(.ofNat 1, 0), (.negSucc 0, 1)], .ofNat 0, .ofNat 4611686018427387904)]), [])
theorem sg_rs3_ok : sg_chk z9 ex_mt k9 60 tX9_readStands 8 30 sg_rs3 [] [sg_rs3_a, sg_rs3_b] = true := by decide +kernel
def sg_rs4a : sg_Cu := (46, 0, [(0, .inr (some (false, 12))), (1, .inr (some (false, 3)))], ([.inr 196614, .inr 196612], [([(.ofNat 1, 0)], .negSucc 2147483647, .ofNat 2147483647), ([(.ofNat 1, 1)], .negSucc 2147483647, .ofNat 2147483647), ([(.ofNat 1, 2)], .negSucc 2147483647, .ofNat 2147483647), ([(.ofNat 1, 0), (.negSucc 0, 2)], .ofNat 0, .ofNat 0)]), [none])
def sg_rs4a_p0 : sx_Po := (402653184, true, [196615, 196616], [([(.ofNat 1, 3)], .ofNat 0, .ofNat 0), ([(.ofNat 1, 4)], .ofNat 3, .ofNat 3), ([(.ofNat 1, 1), (.negSucc 0, 5)], .ofNat 0, .ofNat 0)])
theorem sg_rs4a_ok : sg_chk z9 ex_mt k9 60 tX9_readStands 17 30 sg_rs4a [sg_rs4a_p0] [] = true := by decide +kernel
def sg_rs4b : sg_Cu := (46, 0, [(0, .inr (some (false, 12))), (1, .inr (some (false, 3)))], ([.inl 2, .inr 196614], [([(.ofNat 1, 0)], .ofNat 0, .ofNat 5), ([(.ofNat 1, 1)], .negSucc 2147483647, .ofNat 2147483647), ([(.ofNat 1, 2)], .negSucc 2147483647, .ofNat 2147483647), ([(.ofNat 1, 1), (.negSucc 0, 2)], .ofNat 1, .ofNat 4611686018427387904)]), [none])
def sg_rs4b_a : sg_Cu := (33, 0, [(0, .inr (some (false, 12))), (1, .inr (some (false, 3)))], ([.inl 2], [([(.ofNat 1, 0), (.negSucc 0, 3)], .negSucc 0, .negSucc 0)]), [])
theorem sg_rs4b_ok : sg_chk z9 ex_mt k9 60 tX9_readStands 7 30 sg_rs4b [] [sg_rs4b_a] = true := by decide +kernel
def sg_rs4c : sg_Cu := (46, 0, [(0, .inr (some (false, 12))), (1, .inr (some (false, 3)))], ([.inl 2, .inr 196614], [([(.ofNat 1, 0)], .ofNat 0, .ofNat 5), ([(.ofNat 1, 1)], .negSucc 2147483647, .ofNat 2147483647), ([(.ofNat 1, 2)], .negSucc 2147483647, .ofNat 2147483647), ([(.ofNat 1, 1), (.negSucc 0, 2)], .negSucc 4611686018427387903, .negSucc 0)]), [none])
def sg_rs4c_a : sg_Cu := (33, 0, [(0, .inr (some (false, 12))), (1, .inr (some (false, 3)))], ([.inl 2], [([(.ofNat 1, 0), (.negSucc 0, 3)], .negSucc 0, .negSucc 0)]), [])
theorem sg_rs4c_ok : sg_chk z9 ex_mt k9 60 tX9_readStands 7 30 sg_rs4c [] [sg_rs4c_a] = true := by decide +kernel
def sg_rs5 : sg_Cu := (65, 0, [(0, .inr (some (false, 12))), (1, .inr (some (false, 3)))], ([.inr 786440, .inr 196614], [([(.ofNat 1, 0)], .ofNat 0, .ofNat 6), ([(.ofNat 1, 1)], .negSucc 2147483647, .ofNat 2147483647)]), [])
def sg_rs5_a : sg_Cu := (77, 0, [(0, .inr (some (false, 12))), (1, .inr (some (false, 3)))], ([], [([(.ofNat 1, 1), (.negSucc 0, 2)], .ofNat 0, .ofNat 0), ([(.ofNat 1, 0), (.negSucc 0, 3)], .ofNat 0, .ofNat 0)]), [none, none, some (false, 17)])
theorem sg_rs5_ok : sg_chk z9 ex_mt k9 60 tX9_readStands 8 30 sg_rs5 [] [sg_rs5_a] = true := by decide +kernel
def sg_rs6 : sg_Cu := (80, 0, [(0, .inr (some (false, 12))), (1, .inr (some (false, 3)))], ([], []), [])
def sg_rs6_a : sg_Cu := (81, 0, [(0, .inr (some (false, 12))), (1, .inr (some (false, 3)))], ([], []), [some (false, 3)])
theorem sg_rs6_ok : sg_chk z9 ex_mt k9 60 tX9_readStands 3 30 sg_rs6 [] [sg_rs6_a] = true := by decide +kernel
def sg_rs7 : sg_Cu := (84, 0, [(0, .inr (some (false, 12))), (1, .inr (some (false, 3)))], ([.inr 786440], [([(.ofNat 1, 0)], .ofNat 0, .ofNat 6)]), [])
def sg_rs7_a : sg_Cu := (96, 0, [(0, .inr (some (false, 12))), (1, .inr (some (false, 3)))], ([], [([(.ofNat 1, 1)], .ofNat 9, .ofNat 9), ([(.ofNat 1, 2)], .ofNat 1, .ofNat 1), ([(.ofNat 1, 0), (.negSucc 0, 3)], .ofNat 0, .ofNat 0)]), [none, none, some (false, 3), none, some (false, 18)])
theorem sg_rs7_ok : sg_chk z9 ex_mt k9 60 tX9_readStands 9 30 sg_rs7 [] [sg_rs7_a] = true := by decide +kernel
def sg_rs8z : sg_Cu := (99, 0, [(0, .inr (some (false, 12))), (1, .inr (some (false, 3)))], ([], [([(.ofNat 1, 0)], .ofNat 0, .ofNat 0)]), [none])
def sg_rs8z_p0 : sx_Po := (0, true, [], [([(.ofNat 1, 1)], .ofNat 0, .ofNat 0)])
theorem sg_rs8z_ok : sg_chk z9 ex_mt k9 60 tX9_readStands 4 30 sg_rs8z [sg_rs8z_p0] [] = true := by decide +kernel
def sg_rs8 : sg_Cu := (99, 0, [(0, .inr (some (false, 12))), (1, .inr (some (false, 3)))], ([.inr 786440], [([(.ofNat 1, 0)], .ofNat 0, .ofNat 5), ([(.ofNat 1, 1)], .ofNat 1, .ofNat 1)]), [none])
def sg_rs8_p0 : sx_Po := (36028797018963968, true, [786440], [([(.ofNat 1, 2)], .ofNat 1, .ofNat 1), ([(.ofNat 1, 0), (.negSucc 0, 3)], .negSucc 0, .negSucc 0)])
theorem sg_rs8_ok : sg_chk z9 ex_mt k9 60 tX9_readStands 10 30 sg_rs8 [sg_rs8_p0] [] = true := by decide +kernel
def sg_rt1 : sg_Cu := (0, 0, [(0, .inr (some (false, 12))), (1, .inr (some (false, 3)))], ([.inl 2, .inr 786442], [([(.ofNat 1, 0)], .negSucc 2147483647, .ofNat 2147483647), ([(.ofNat 1, 1)], .negSucc 2147483647, .ofNat 2147483647)]), [])
def sg_rt1_a : sg_Cu := (5, 0, [(0, .inr (some (false, 12))), (1, .inr (some (false, 3)))], ([.inl 2], [([(.ofNat 1, 0), (.negSucc 0, 3)], .ofNat 0, .ofNat 0), ([(.ofNat 1, 1), (.negSucc 0, 4)], .ofNat 0, .ofNat 0), ([(.ofNat 1, 0), (.negSucc 0, 2)], .ofNat 0, .ofNat 0)]), [none, none])
theorem sg_rt1_ok : sg_chk z9 ex_mt k9 60 tX9_readSetting 5 30 sg_rt1 [] [sg_rt1_a] = true := by decide +kernel
def sg_rt2 : sg_Cu := (6, 0, [(0, .inr (some (false, 12))), (1, .inr (some (false, 3)))], ([.inl 2], [([(.ofNat 1, 0)], .negSucc 2147483647, .ofNat 2147483647), ([(.ofNat 1, 1)], .negSucc 2147483647, .ofNat 2147483647)]), [none])
def sg_rt2_a : sg_Cu := (7, 0, [(0, .inr (some (false, 12))), (1, .inr (some (false, 3)))], ([.inl 2], [([(.ofNat 1, 3)], .ofNat 1, .ofNat 1), ([(.ofNat 1, 1), (.negSucc 0, 4)], .ofNat 0, .ofNat 0), ([(.ofNat 1, 0), (.negSucc 0, 2)], .ofNat 0, .ofNat 0)]), [none, none])
theorem sg_rt2_ok : sg_chk z9 ex_mt k9 60 tX9_readSetting 3 30 sg_rt2 [] [sg_rt2_a] = true := by decide +kernel
def sg_rt3a : sg_Cu := (8, 0, [(0, .inr (some (false, 12))), (1, .inr (some (false, 3)))], ([.inr 196612], [([(.ofNat 1, 0)], .negSucc 2147483647, .ofNat 2147483647), ([(.ofNat 1, 1)], .ofNat 1, .ofNat 1)]), [none])
def sg_rt3a_p0 : sx_Po := (402653184, true, [196615, 196616], [([(.ofNat 1, 2)], .ofNat 0, .ofNat 0), ([(.ofNat 1, 3)], .ofNat 3, .ofNat 3), ([(.ofNat 1, 0), (.negSucc 0, 4)], .ofNat 0, .ofNat 0)])
theorem sg_rt3a_ok : sg_chk z9 ex_mt k9 60 tX9_readSetting 16 30 sg_rt3a [sg_rt3a_p0] [] = true := by decide +kernel
def sg_rt3b : sg_Cu := (8, 0, [(0, .inr (some (false, 12))), (1, .inr (some (false, 3)))], ([.inl 2, .inr 786442], [([(.ofNat 1, 0)], .negSucc 2147483647, .ofNat 2147483647), ([(.ofNat 1, 1)], .negSucc 2147483647, .ofNat 2147483647), ([(.ofNat 1, 2)], .ofNat 0, .ofNat 0)]), [none])
def sg_rt3b_a : sg_Cu := (25, 0, [(0, .inr (some (false, 12))), (1, .inr (some (false, 3)))], ([.inl 2], [([(.ofNat 1, 0), (.negSucc 0, 4)], .ofNat 0, .ofNat 0), ([(.ofNat 1, 5)], .ofNat 1, .ofNat 1), ([(.ofNat 1, 1), (.negSucc 0, 6)], .ofNat 0, .ofNat 0), ([(.ofNat 1, 0), (.negSucc 0, 3)], .ofNat 0, .ofNat 0)]), [none, none, none, some (false, 12)])
theorem sg_rt3b_ok : sg_chk z9 ex_mt k9 60 tX9_readSetting 9 30 sg_rt3b [] [sg_rt3b_a] = true := by decide +kernel
def sg_rt4 : sg_Cu := (30, 0, [(0, .inr (some (false, 12))), (1, .inr (some (false, 3)))], ([.inl 2], [([(.ofNat 1, 0)], .negSucc 2147483647, .ofNat 2147483647)]), [])
def sg_rt4_a : sg_Cu := (31, 0, [(0, .inr (some (false, 12))), (1, .inr (some (false, 3)))], ([.inl 2], [([(.ofNat 1, 0), (.negSucc 0, 1)], .ofNat 0, .ofNat 0)]), [some (false, 3)])
theorem sg_rt4_ok : sg_chk z9 ex_mt k9 60 tX9_readSetting 3 30 sg_rt4 [] [sg_rt4_a] = true := by decide +kernel
def sg_rt5 : sg_Cu := (34, 0, [(0, .inr (some (false, 12))), (1, .inr (some (false, 3)))], ([.inl 2], [([(.ofNat 1, 0)], .negSucc 2147483647, .ofNat 2147483647)]), [])
def sg_rt5_a : sg_Cu := (44, 0, [(0, .inr (some (false, 12))), (1, .inr (some (false, 3)))], ([.inl 2], [([(.ofNat 1, 0), (.negSucc 0, 2)], .ofNat 0, .ofNat 0), ([(.ofNat 1, 0), (.negSucc 0, 3)], .ofNat 0, .ofNat 0), ([(.ofNat 1, 0), (.negSucc 0, 1)], .ofNat 0, .ofNat 0)]), [none, some (true, 2), some (false, 3), none, some (false, 19)])
theorem sg_rt5_ok : sg_chk z9 ex_mt k9 60 tX9_readSetting 8 30 sg_rt5 [] [sg_rt5_a] = true := by decide +kernel
def sg_rt5b : sg_Cu := (47, 0, [(0, .inr (some (false, 12))), (1, .inr (some (false, 3)))], ([.inl 2], [([(.ofNat 1, 0)], .negSucc 2147483647, .ofNat 2147483647), ([(.ofNat 1, 1)], .negSucc 2147483647, .ofNat 2147483647), ([(.ofNat 1, 2)], .negSucc 2147483647, .ofNat 2147483647)]), [none, some (false, 3), none, some (false, 19)])
def sg_rt5b_a : sg_Cu := (51, 0, [(0, .inr (some (false, 12))), (1, .inr (some (false, 3)))], ([], [([(.ofNat 1, 0), (.negSucc 0, 3)], .ofNat 0, .ofNat 0), ([(.ofNat 1, 1), (.negSucc 0, 4)], .ofNat 0, .ofNat 0), ([(.ofNat 1, 2), (.negSucc 0, 5)], .ofNat 0, .ofNat 0)]), [none, some (true, 3), none, some (false, 3), none, some (false, 19)])
theorem sg_rt5b_ok : sg_chk z9 ex_mt k9 60 tX9_readSetting 4 30 sg_rt5b [] [sg_rt5b_a] = true := by decide +kernel
def sg_rt6 : sg_Cu := (57, 0, [(0, .inr (some (false, 12))), (1, .inr (some (false, 3)))], ([], [([(.ofNat 1, 0)], .ofNat 0, .ofNat 1)]), [none])
def sg_rt6_p0 : sx_Po := (0, true, [], [([(.ofNat 1, 0), (.negSucc 0, 1)], .ofNat 0, .ofNat 0)])
theorem sg_rt6_ok : sg_chk z9 ex_mt k9 60 tX9_readSetting 2 30 sg_rt6 [sg_rt6_p0] [] = true := by decide +kernel
def sg_rl1 : sg_Cu := (0, 0, [(0, .inr (some (false, 12))), (1, .inr (some (false, 3)))], ([], []), [])
def sg_rl1_a : sg_Cu := (3, 0, [(0, .inr (some (false, 12))), (1, .inr (some (false, 3)))], ([], []), [some (true, 18087), some (false, 3)])
theorem sg_rl1_ok : sg_chk z9 ex_mt k9 60 tX9_readLine 4 40 sg_rl1 [] [sg_rl1_a] = true := by decide +kernel
def sg_rl2a : sg_Cu := (6, 0, [(0, .inr (some (false, 12))), (1, .inr (some (false, 3)))], ([], [([(.ofNat 1, 0)], .ofNat 8, .ofNat 8)]), [none])
def sg_rl2a_a : sg_Cu := (15, 0, [(0, .inr (some (false, 12))), (1, .inr (some (false, 3)))], ([], []), [some (false, 3), some (false, 12)])
theorem sg_rl2a_ok : sg_chk z9 ex_mt k9 60 tX9_readLine 8 40 sg_rl2a [] [sg_rl2a_a] = true := by decide +kernel
def sg_rl2b : sg_Cu := (6, 0, [(0, .inr (some (false, 12))), (1, .inr (some (false, 3)))], ([], [([(.ofNat 1, 0)], .ofNat 9, .ofNat 9)]), [none])
def sg_rl2b_a : sg_Cu := (27, 0, [(0, .inr (some (false, 12))), (1, .inr (some (false, 3)))], ([], []), [some (false, 3), some (false, 12)])
theorem sg_rl2b_ok : sg_chk z9 ex_mt k9 60 tX9_readLine 11 40 sg_rl2b [] [sg_rl2b_a] = true := by decide +kernel
def sg_rl2c : sg_Cu := (6, 0, [(0, .inr (some (false, 12))), (1, .inr (some (false, 3)))], ([.inr 196612], [([(.ofNat 1, 0)], .negSucc 2147483647, .ofNat 2147483647), ([(.ofNat 1, 1)], .negSucc 0, .negSucc 0)]), [none])
def sg_rl2c_p0 : sx_Po := (402653184, true, [196615, 196616], [([(.ofNat 1, 2)], .ofNat 0, .ofNat 0), ([(.ofNat 1, 3)], .ofNat 1, .ofNat 1), ([(.ofNat 1, 0), (.negSucc 0, 4)], .ofNat 0, .ofNat 0)])
theorem sg_rl2c_ok : sg_chk z9 ex_mt k9 60 tX9_readLine 25 40 sg_rl2c [sg_rl2c_p0] [] = true := by decide +kernel
def sg_rl2d : sg_Cu := (6, 0, [(0, .inr (some (false, 12))), (1, .inr (some (false, 3)))], ([], [([(.ofNat 1, 0)], .ofNat 0, .ofNat 7)]), [none])
def sg_rl2d_a : sg_Cu := (47, 0, [(0, .inr (some (false, 12))), (1, .inr (some (false, 3)))], ([], [([(.ofNat 1, 0), (.negSucc 0, 1)], .ofNat 0, .ofNat 0)]), [none, some (false, 3), some (false, 12)])
theorem sg_rl2d_ok : sg_chk z9 ex_mt k9 60 tX9_readLine 15 40 sg_rl2d [] [sg_rl2d_a] = true := by decide +kernel
def sg_rl3 : sg_Cu := (18, 0, [(0, .inr (some (false, 12))), (1, .inr (some (false, 3)))], ([], [([(.ofNat 1, 0)], .ofNat 0, .ofNat 1)]), [none])
def sg_rl3_p0 : sx_Po := (0, true, [], [([(.ofNat 1, 0), (.negSucc 0, 1)], .ofNat 0, .ofNat 0)])
theorem sg_rl3_ok : sg_chk z9 ex_mt k9 60 tX9_readLine 2 40 sg_rl3 [sg_rl3_p0] [] = true := by decide +kernel
def sg_rl4 : sg_Cu := (30, 0, [(0, .inr (some (false, 12))), (1, .inr (some (false, 3)))], ([], [([(.ofNat 1, 0)], .ofNat 0, .ofNat 1)]), [none])
def sg_rl4_p0 : sx_Po := (0, true, [], [([(.ofNat 1, 0), (.negSucc 0, 1)], .ofNat 0, .ofNat 0)])
theorem sg_rl4_ok : sg_chk z9 ex_mt k9 60 tX9_readLine 2 40 sg_rl4 [sg_rl4_p0] [] = true := by decide +kernel
def sg_rl5 : sg_Cu := (50, 0, [(0, .inr (some (false, 12))), (1, .inr (some (false, 3)))], ([], [([(.ofNat 1, 0)], .ofNat 0, .ofNat 1)]), [none])
def sg_rl5_p0 : sx_Po := (0, true, [], [([(.ofNat 1, 0), (.negSucc 0, 1)], .ofNat 0, .ofNat 0)])
theorem sg_rl5_ok : sg_chk z9 ex_mt k9 60 tX9_readLine 2 40 sg_rl5 [sg_rl5_p0] [] = true := by decide +kernel
def sg_rf1 : sg_Cu := (0, 0, [(0, .inr (some (false, 12))), (1, .inr (some (false, 3)))], ([], []), [])
def sg_rf1_a : sg_Cu := (1, 0, [(0, .inr (some (false, 12))), (1, .inr (some (false, 3)))], ([], []), [some (false, 12)])
theorem sg_rf1_ok : sg_chk z9 ex_mt k9 60 tX9_readFrom 3 50 sg_rf1 [] [sg_rf1_a] = true := by decide +kernel
def sg_cr1 : sg_Cu := (0, 0, [(0, .inr (some (true, 1))), (1, .inr (some (false, 19)))], ([], []), [])
def sg_cr1_a : sg_Cu := (10, 0, [(0, .inr (some (true, 1))), (1, .inr (some (false, 19)))], ([.inl 2, .inl 3], [([(.ofNat 1, 0)], .ofNat 8, .ofNat 8), ([(.ofNat 1, 1)], .ofNat 0, .ofNat 0)]), [])
theorem sg_cr1_ok : sg_chk z9 ex_mt k9 60 tX11_copyRow 10 15 sg_cr1 [] [sg_cr1_a] = true := by decide +kernel
def sg_cr2 : sg_Cu := (10, 0, [(0, .inr (some (true, 1))), (1, .inr (some (false, 19)))], ([.inl 2, .inl 3], [([(.ofNat 1, 0)], .ofNat 8, .ofNat 8), ([(.ofNat 1, 1)], .ofNat 0, .ofNat 7)]), [])
def sg_cr2_a : sg_Cu := (19, 0, [(0, .inr (some (true, 1))), (1, .inr (some (false, 19)))], ([.inl 2, .inl 3], [([(.ofNat 1, 1), (.negSucc 0, 4)], .ofNat 0, .ofNat 0), ([(.ofNat 1, 1), (.negSucc 0, 5)], .ofNat 0, .ofNat 0), ([(.ofNat 1, 0), (.negSucc 0, 2)], .ofNat 0, .ofNat 0), ([(.ofNat 1, 1), (.negSucc 0, 3)], .ofNat 0, .ofNat 0)]), [none, some (true, 1), none, some (false, 19)])
theorem sg_cr2_ok : sg_chk z9 ex_mt k9 60 tX11_copyRow 9 15 sg_cr2 [] [sg_cr2_a] = true := by decide +kernel
def sg_cr3 : sg_Cu := (21, 0, [(0, .inr (some (true, 1))), (1, .inr (some (false, 19)))], ([.inl 2, .inl 3], [([(.ofNat 1, 0)], .ofNat 8, .ofNat 8), ([(.ofNat 1, 1)], .ofNat 0, .ofNat 7)]), [])
def sg_cr3_a : sg_Cu := (10, 0, [(0, .inr (some (true, 1))), (1, .inr (some (false, 19)))], ([.inl 2, .inl 3], [([(.ofNat 1, 0), (.negSucc 0, 2)], .ofNat 0, .ofNat 0), ([(.ofNat 1, 1), (.negSucc 0, 3)], .negSucc 0, .negSucc 0)]), [])
theorem sg_cr3_ok : sg_chk z9 ex_mt k9 60 tX11_copyRow 4 15 sg_cr3 [] [sg_cr3_a] = true := by decide +kernel
def sg_cr4 : sg_Cu := (10, 0, [(0, .inr (some (true, 1))), (1, .inr (some (false, 19)))], ([.inl 2, .inl 3], [([(.ofNat 1, 0)], .ofNat 8, .ofNat 8), ([(.ofNat 1, 1)], .ofNat 8, .ofNat 8)]), [])
def sg_cr4_p0 : sx_Po := (0, false, [], [])
theorem sg_cr4_ok : sg_chk z9 ex_mt k9 60 tX11_copyRow 5 15 sg_cr4 [sg_cr4_p0] [] = true := by decide +kernel
def sg_cl1 : sg_Cu := (0, 0, [(0, .inr (some (false, 12)))], ([], []), [])
def sg_cl1_a : sg_Cu := (27, 270215977642229760, [(0, .inr (some (false, 12)))], ([.inr 786439, .inr 786440, .inr 786441, .inr 786442], [([(.ofNat 1, 0)], .ofNat 0, .ofNat 0), ([(.ofNat 1, 1)], .ofNat 0, .ofNat 0), ([(.ofNat 1, 2)], .ofNat 0, .ofNat 0), ([(.ofNat 1, 3)], .ofNat 0, .ofNat 0)]), [some (false, 19), some (true, 1)])
theorem sg_cl1_ok : sg_chk z9 ex_mt k9 60 tX9_clear 17 20 sg_cl1 [] [sg_cl1_a] = true := by decide +kernel
def sg_cl2 : sg_Cu := (30, 0, [(0, .inr (some (false, 12)))], ([], []), [])
def sg_cl2_p0 : sx_Po := (0, false, [], [])
theorem sg_cl2_ok : sg_chk z9 ex_mt k9 60 tX9_clear 2 20 sg_cl2 [sg_cl2_p0] [] = true := by decide +kernel
def sg_rf2a : sg_Cu := (4, 0, [(0, .inr (some (false, 12))), (1, .inr (some (false, 3)))], ([.inr 786441, .inr 196611], [([(.ofNat 1, 0)], .ofNat 0, .ofNat 899), ([(.ofNat 1, 1)], .ofNat 0, .ofNat 0)]), [])
def sg_rf2a_a : sg_Cu := (53, 0, [(0, .inr (some (false, 12))), (1, .inr (some (false, 3)))], ([], []), [])
theorem sg_rf2a_ok : sg_chk z9 ex_mt k9 60 tX9_readFrom 14 50 sg_rf2a [] [sg_rf2a_a] = true := by decide +kernel
def sg_rf2b : sg_Cu := (4, 0, [(0, .inr (some (false, 12))), (1, .inr (some (false, 3)))], ([.inr 786441, .inr 196611], [([(.ofNat 1, 0)], .ofNat 0, .ofNat 899), ([(.ofNat 1, 1)], .ofNat 1, .ofNat 4)]), [])
def sg_rf2b_a : sg_Cu := (23, 0, [(0, .inr (some (false, 12))), (1, .inr (some (false, 3)))], ([], []), [some (false, 3), some (false, 12)])
theorem sg_rf2b_ok : sg_chk z9 ex_mt k9 60 tX9_readFrom 17 50 sg_rf2b [] [sg_rf2b_a] = true := by decide +kernel
def sg_rf2c : sg_Cu := (4, 0, [(0, .inr (some (false, 12))), (1, .inr (some (false, 3)))], ([.inr 786441], [([(.ofNat 1, 0)], .ofNat 900, .ofNat 2147483647)]), [])
def sg_rf2c_a : sg_Cu := (53, 0, [(0, .inr (some (false, 12))), (1, .inr (some (false, 3)))], ([], []), [])
theorem sg_rf2c_ok : sg_chk z9 ex_mt k9 60 tX9_readFrom 6 50 sg_rf2c [] [sg_rf2c_a] = true := by decide +kernel
def sg_rf3a : sg_Cu := (26, 0, [(0, .inr (some (false, 12))), (1, .inr (some (false, 3)))], ([], [([(.ofNat 1, 0)], .ofNat 0, .ofNat 0)]), [none])
def sg_rf3a_p0 : sx_Po := (0, true, [], [([(.ofNat 1, 1)], .ofNat 0, .ofNat 0)])
theorem sg_rf3a_ok : sg_chk z9 ex_mt k9 60 tX9_readFrom 4 50 sg_rf3a [sg_rf3a_p0] [] = true := by decide +kernel
def sg_rf3b : sg_Cu := (26, 0, [(0, .inr (some (false, 12))), (1, .inr (some (false, 3)))], ([], [([(.ofNat 1, 0)], .ofNat 1, .ofNat 1)]), [none])
def sg_rf3b_a : sg_Cu := (32, 0, [(0, .inr (some (false, 12))), (1, .inr (some (false, 3)))], ([], [([(.ofNat 1, 1)], .ofNat 59, .ofNat 59)]), [none, some (false, 3)])
theorem sg_rf3b_ok : sg_chk z9 ex_mt k9 60 tX9_readFrom 5 50 sg_rf3b [] [sg_rf3b_a] = true := by decide +kernel
def sg_rf4a : sg_Cu := (35, 0, [(0, .inr (some (false, 12))), (1, .inr (some (false, 3)))], ([], [([(.ofNat 1, 0)], .ofNat 0, .ofNat 0)]), [none])
def sg_rf4a_p0 : sx_Po := (0, true, [], [([(.ofNat 1, 1)], .ofNat 0, .ofNat 0)])
theorem sg_rf4a_ok : sg_chk z9 ex_mt k9 60 tX9_readFrom 4 50 sg_rf4a [sg_rf4a_p0] [] = true := by decide +kernel
def sg_rf4b : sg_Cu := (35, 0, [(0, .inr (some (false, 12))), (1, .inr (some (false, 3)))], ([.inr 786441], [([(.ofNat 1, 0)], .ofNat 0, .ofNat 899), ([(.ofNat 1, 1)], .ofNat 1, .ofNat 1)]), [none])
def sg_rf4b_a : sg_Cu := (4, 72057594037927936, [(0, .inr (some (false, 12))), (1, .inr (some (false, 3)))], ([.inr 786441], [([(.ofNat 1, 0), (.negSucc 0, 2)], .negSucc 0, .negSucc 0)]), [])
theorem sg_rf4b_ok : sg_chk z9 ex_mt k9 60 tX9_readFrom 10 50 sg_rf4b [] [sg_rf4b_a] = true := by decide +kernel
def sg_rf5a : sg_Cu := (53, 0, [(0, .inr (some (false, 12))), (1, .inr (some (false, 3)))], ([.inr 786440], [([(.ofNat 1, 0)], .ofNat 0, .ofNat 0)]), [])
def sg_rf5a_p0 : sx_Po := (13871086852301127680, true, [786440, 1114112, 1179648], [([(.ofNat 1, 1)], .ofNat 1, .ofNat 1), ([(.ofNat 1, 2)], .ofNat 1, .ofNat 1), ([(.ofNat 1, 3)], .ofNat 10, .ofNat 10), ([(.ofNat 1, 4)], .ofNat 1, .ofNat 1)])
theorem sg_rf5a_ok : sg_chk z9 ex_mt k9 60 tX9_readFrom 44 50 sg_rf5a [sg_rf5a_p0] [] = true := by decide +kernel
def sg_rf5b : sg_Cu := (53, 0, [(0, .inr (some (false, 12))), (1, .inr (some (false, 3)))], ([.inr 786440], [([(.ofNat 1, 0)], .ofNat 1, .ofNat 6)]), [])
def sg_rf5b_p0 : sx_Po := (0, true, [], [([(.ofNat 1, 1)], .ofNat 1, .ofNat 1)])
theorem sg_rf5b_ok : sg_chk z9 ex_mt k9 60 tX9_readFrom 9 50 sg_rf5b [sg_rf5b_p0] [] = true := by decide +kernel
def sg_wo1a : sg_Cu := (0, 0, [(0, .inr (some (false, 3))), (1, .inr (some (true, 18087)))], ([.inr 196611], [([(.ofNat 1, 0)], .negSucc 2147483647, .ofNat 1)]), [])
def sg_wo1a_p0 : sx_Po := (0, true, [], [([(.ofNat 1, 1)], .negSucc 0, .negSucc 0)])
theorem sg_wo1a_ok : sg_chk z9 ex_mt k9 60 tX6_wordOf 7 15 sg_wo1a [sg_wo1a_p0] [] = true := by decide +kernel
def sg_wo1b : sg_Cu := (0, 0, [(0, .inr (some (false, 3))), (1, .inr (some (true, 18087)))], ([.inr 196611], [([(.ofNat 1, 0)], .ofNat 3, .ofNat 2147483647)]), [])
def sg_wo1b_p0 : sx_Po := (0, true, [], [([(.ofNat 1, 1)], .negSucc 0, .negSucc 0)])
theorem sg_wo1b_ok : sg_chk z9 ex_mt k9 60 tX6_wordOf 7 15 sg_wo1b [sg_wo1b_p0] [] = true := by decide +kernel
def sg_wo1c : sg_Cu := (0, 0, [(0, .inr (some (false, 3))), (1, .inr (some (true, 18087)))], ([.inr 196611], [([(.ofNat 1, 0)], .ofNat 2, .ofNat 2)]), [])
def sg_wo1c_a : sg_Cu := (23, 0, [(0, .inr (some (false, 3))), (1, .inr (some (true, 18087)))], ([.inl 2, .inl 3, .inl 4, .inl 5], [([(.ofNat 1, 1)], .ofNat 0, .ofNat 0), ([(.ofNat 1, 2)], .ofNat 0, .ofNat 0), ([(.ofNat 1, 3)], .ofNat 1, .ofNat 1), ([(.ofNat 1, 4)], .ofNat 0, .ofNat 0), ([(.ofNat 1, 5)], .ofNat 0, .ofNat 0)]), [some (true, 18087), none])
theorem sg_wo1c_ok : sg_chk z9 ex_mt k9 60 tX6_wordOf 16 15 sg_wo1c [] [sg_wo1c_a] = true := by decide +kernel
section HR
variable {g : am_C} {L : Nat} {xs : Nat → Int32}
theorem sg_rw1a_run (G : sx_G0 g L xs z9 hd_C ex_mt) (hct : ∀ (mi : Nat) (T2 : ex_T) (c' : sx_Ct), ex_mt mi = some T2 → c' ∈ k9 mi → c'.1 < 60 → sx_Holds g z9 hd_C T2 c') {σ : am_S} {lw : List (Nat × Value)} {post : Option (Option Value) → am_S → Prop} (hM : sx_M z9 hd_C σ 0 0 σ) (hl : (0, Value.ref 12) ∈ lw) (hlr1 : (1, Value.ref 3) ∈ lw) (bp12_7 : 10 ≤ (σ.2.1 12 7).toInt ∧ (σ.2.1 12 7).toInt ≤ 10) (ret0 : ∀ (r : Int32) (σ' : am_S), (0 ≤ 1 * r.toInt + 0 ∧ 1 * r.toInt + 0 ≤ 0) → (4 ≤ 1 * (σ'.2.1 3 7).toInt + 0 ∧ 1 * (σ'.2.1 3 7).toInt + 0 ≤ 4) → (0 ≤ 1 * (σ.2.1 3 4).toInt + ((-1) * (σ'.2.1 3 8).toInt + 0) ∧ 1 * (σ.2.1 3 4).toInt + ((-1) * (σ'.2.1 3 8).toInt + 0) ≤ 0) → sx_M z9 hd_C σ 402653184 0 σ' → post (some (some (.int r))) σ') : am_K g 30 tX9_readWindow.1 0 0 0 lw [] σ post := by
  refine sg_seg (sw := []) (vs := [(σ.2.1 12 7).toInt, (σ.2.1 3 4).toInt]) (ws := []) G (mi := 305) rfl hct sg_rw1a_ok ⟨rfl, ⟨rfl, trivial⟩⟩ (hd_rfc hl (hd_rfc hlr1 hd_rfn)) trivial (hd_p1 rfl bp12_7.1 bp12_7.2 (hd_p1 rfl (hd_kd_3_4 hM).1 (hd_kd_3_4 hM).2 hd_p0)) hM ?_ ?_
  · intro r σ' hq
    cases r with
    | none => exact hq.elim
    | some v =>
      obtain ⟨p, hp, hM2, ks, hk, hv⟩ := hq
      simp only [List.mem_cons, List.not_mem_nil, or_false] at hp
      rcases hp with rfl
      · obtain ⟨ks0, rfl, hk1⟩ := hd_keyc hk; obtain ⟨ks1, rfl, hk2⟩ := hd_keyc hk1; obtain rfl := hd_keys hk2
        cases v with
        | none => exact hv.elim
        | some w9 =>
          obtain ⟨r, rfl, hP⟩ := hv
          obtain ⟨v0, e0, l0, u0⟩ := hP _ (List.mem_cons_self)
          have g0 : 1 * r.toInt + 0 = v0 := Option.some.inj e0
          obtain ⟨v1, e1, l1, u1⟩ := hP _ (List.mem_cons_of_mem _ (List.mem_cons_self))
          have g1 : 1 * (σ'.2.1 3 7).toInt + 0 = v1 := Option.some.inj e1
          obtain ⟨v2, e2, l2, u2⟩ := hP _ (List.mem_cons_of_mem _ (List.mem_cons_of_mem _ (List.mem_cons_self)))
          have g2 : 1 * (σ.2.1 3 4).toInt + ((-1) * (σ'.2.1 3 8).toInt + 0) = v2 := Option.some.inj e2
          exact ret0 r _ ⟨by rw [g0]; exact l0, by rw [g0]; exact u0⟩ ⟨by rw [g1]; exact l1, by rw [g1]; exact u1⟩ ⟨by rw [g2]; exact l2, by rw [g2]; exact u2⟩ hM2
  · intro u hu
    cases hu
theorem sg_rw1b_run (G : sx_G0 g L xs z9 hd_C ex_mt) (hct : ∀ (mi : Nat) (T2 : ex_T) (c' : sx_Ct), ex_mt mi = some T2 → c' ∈ k9 mi → c'.1 < 60 → sx_Holds g z9 hd_C T2 c') {σ : am_S} {lw : List (Nat × Value)} {post : Option (Option Value) → am_S → Prop} (hM : sx_M z9 hd_C σ 0 0 σ) (hl : (0, Value.ref 12) ∈ lw) (hlr1 : (1, Value.ref 3) ∈ lw) (bp12_7 : 0 ≤ (σ.2.1 12 7).toInt ∧ (σ.2.1 12 7).toInt ≤ 9) (cuta : ∀ (lw' : List (Nat × Value))  (σ' : am_S), (0, Value.ref 12) ∈ lw' → (1, Value.ref 3) ∈ lw' → sx_M z9 hd_C σ 0 0 σ' → am_K g 30 tX9_readWindow.1 0 0 16 lw' [.ref 3] σ' post) : am_K g 30 tX9_readWindow.1 0 0 0 lw [] σ post := by
  refine sg_seg (sw := []) (vs := [(σ.2.1 12 7).toInt]) (ws := []) G (mi := 305) rfl hct sg_rw1b_ok ⟨rfl, trivial⟩ (hd_rfc hl (hd_rfc hlr1 hd_rfn)) trivial (hd_p1 rfl bp12_7.1 bp12_7.2 hd_p0) hM ?_ ?_
  · intro r σ' hq
    cases r with
    | none => exact hq.elim
    | some v =>
      obtain ⟨p, hp, hM2, ks, hk, hv⟩ := hq
      cases hp
  · intro u hu
    simp only [List.mem_cons, List.not_mem_nil, or_false] at hu
    rcases hu with rfl
    · intro lw' sw' vs' ws' σ' ⟨h1_0, h2, h3_0, h4, h5⟩
      obtain rfl := hd_src0 h1_0
      obtain ⟨sw1, rfl, h3_1⟩ := hd_str h3_0
      obtain ⟨rfl, rfl⟩ := hd_st0 h3_1
      have hr9_0 := hd_rfh h2
      have hr9_1 := hd_rfh (hd_rfT h2)
      exact cuta _  _ hr9_0 hr9_1   h5
theorem sg_rw2_run (G : sx_G0 g L xs z9 hd_C ex_mt) (hct : ∀ (mi : Nat) (T2 : ex_T) (c' : sx_Ct), ex_mt mi = some T2 → c' ∈ k9 mi → c'.1 < 60 → sx_Holds g z9 hd_C T2 c') {σ : am_S} {lw : List (Nat × Value)} {post : Option (Option Value) → am_S → Prop} (hM : sx_M z9 hd_C σ 0 0 σ) (hl : (0, Value.ref 12) ∈ lw) (hlr1 : (1, Value.ref 3) ∈ lw)  (cuta : ∀ (lw' : List (Nat × Value)) (n0' : Int32) (n1' : Int32) (n2' : Int32) (σ' : am_S), (0, Value.ref 12) ∈ lw' → (1, Value.ref 3) ∈ lw' → (99 ≤ 1 * n0'.toInt + 0 ∧ 1 * n0'.toInt + 0 ≤ 99) → (1 ≤ 1 * n1'.toInt + 0 ∧ 1 * n1'.toInt + 0 ≤ 1) → (0 ≤ 1 * (σ.2.1 12 7).toInt + ((-1) * n2'.toInt + 0) ∧ 1 * (σ.2.1 12 7).toInt + ((-1) * n2'.toInt + 0) ≤ 0) → sx_M z9 hd_C σ 0 0 σ' → am_K g 30 tX9_readWindow.1 0 0 31 lw' [.int n0', .int n1', .ref 3, .int n2', .ref 13] σ' post) : am_K g 30 tX9_readWindow.1 0 0 19 lw [] σ post := by
  refine sg_seg (sw := []) (vs := [(σ.2.1 12 7).toInt]) (ws := []) G (mi := 305) rfl hct sg_rw2_ok ⟨rfl, trivial⟩ (hd_rfc hl (hd_rfc hlr1 hd_rfn)) trivial (hd_p1 rfl (hd_kd_12_7 hM).1 (hd_kd_12_7 hM).2 hd_p0) hM ?_ ?_
  · intro r σ' hq
    cases r with
    | none => exact hq.elim
    | some v =>
      obtain ⟨p, hp, hM2, ks, hk, hv⟩ := hq
      cases hp
  · intro u hu
    simp only [List.mem_cons, List.not_mem_nil, or_false] at hu
    rcases hu with rfl
    · intro lw' sw' vs' ws' σ' ⟨h1_0, h2, h3_0, h4, h5⟩
      obtain rfl := hd_src0 h1_0
      obtain ⟨n0', sw1, ws1, rfl, rfl, h3_1⟩ := hd_sti h3_0
      obtain ⟨n1', sw2, ws2, rfl, rfl, h3_2⟩ := hd_sti h3_1
      obtain ⟨sw3, rfl, h3_3⟩ := hd_str h3_2
      obtain ⟨n2', sw4, ws4, rfl, rfl, h3_4⟩ := hd_sti h3_3
      obtain ⟨sw5, rfl, h3_5⟩ := hd_str h3_4
      obtain ⟨rfl, rfl⟩ := hd_st0 h3_5
      have hr9_0 := hd_rfh h2
      have hr9_1 := hd_rfh (hd_rfT h2)
      obtain ⟨v0, e0, l0, u0⟩ := h4 _ (List.mem_cons_self)
      have g0 : 1 * n0'.toInt + 0 = v0 := Option.some.inj e0
      obtain ⟨v1, e1, l1, u1⟩ := h4 _ (List.mem_cons_of_mem _ (List.mem_cons_self))
      have g1 : 1 * n1'.toInt + 0 = v1 := Option.some.inj e1
      obtain ⟨v2, e2, l2, u2⟩ := h4 _ (List.mem_cons_of_mem _ (List.mem_cons_of_mem _ (List.mem_cons_self)))
      have g2 : 1 * (σ.2.1 12 7).toInt + ((-1) * n2'.toInt + 0) = v2 := Option.some.inj e2
      exact cuta _ _ _ _ _ hr9_0 hr9_1  ⟨by rw [g0]; exact l0, by rw [g0]; exact u0⟩ ⟨by rw [g1]; exact l1, by rw [g1]; exact u1⟩ ⟨by rw [g2]; exact l2, by rw [g2]; exact u2⟩ h5
theorem sg_rw3_run (G : sx_G0 g L xs z9 hd_C ex_mt) (hct : ∀ (mi : Nat) (T2 : ex_T) (c' : sx_Ct), ex_mt mi = some T2 → c' ∈ k9 mi → c'.1 < 60 → sx_Holds g z9 hd_C T2 c') {σ : am_S} {lw : List (Nat × Value)} {post : Option (Option Value) → am_S → Prop} (hM : sx_M z9 hd_C σ 0 0 σ) (hl : (0, Value.ref 12) ∈ lw) (hlr1 : (1, Value.ref 3) ∈ lw) {n0 : Int32} (bk0 : 1 ≤ n0.toInt ∧ n0.toInt ≤ 1) (cuta : ∀ (lw' : List (Nat × Value)) (n0' : Int32) (n1' : Int32) (n2' : Int32) (σ' : am_S), (0, Value.ref 12) ∈ lw' → (1, Value.ref 3) ∈ lw' → (9 ≤ 1 * n0'.toInt + 0 ∧ 1 * n0'.toInt + 0 ≤ 9) → (1 ≤ 1 * n1'.toInt + 0 ∧ 1 * n1'.toInt + 0 ≤ 1) → (0 ≤ 1 * (σ.2.1 12 7).toInt + ((-1) * n2'.toInt + 0) ∧ 1 * (σ.2.1 12 7).toInt + ((-1) * n2'.toInt + 0) ≤ 0) → sx_M z9 hd_C σ 0 0 σ' → am_K g 30 tX9_readWindow.1 0 0 49 lw' [.int n0', .int n1', .ref 3, .int n2', .ref 14] σ' post) : am_K g 30 tX9_readWindow.1 0 0 34 lw [.int n0] σ post := by
  refine sg_seg (sw := [.int n0]) (vs := [(σ.2.1 12 7).toInt]) (ws := [n0.toInt]) G (mi := 305) rfl hct sg_rw3_ok ⟨rfl, trivial⟩ (hd_rfc hl (hd_rfc hlr1 hd_rfn)) ⟨⟨n0, rfl, rfl⟩, trivial⟩ (hd_p1 rfl (hd_kd_12_7 hM).1 (hd_kd_12_7 hM).2 (hd_p1 rfl bk0.1 bk0.2 hd_p0)) hM ?_ ?_
  · intro r σ' hq
    cases r with
    | none => exact hq.elim
    | some v =>
      obtain ⟨p, hp, hM2, ks, hk, hv⟩ := hq
      cases hp
  · intro u hu
    simp only [List.mem_cons, List.not_mem_nil, or_false] at hu
    rcases hu with rfl
    · intro lw' sw' vs' ws' σ' ⟨h1_0, h2, h3_0, h4, h5⟩
      obtain rfl := hd_src0 h1_0
      obtain ⟨n0', sw1, ws1, rfl, rfl, h3_1⟩ := hd_sti h3_0
      obtain ⟨n1', sw2, ws2, rfl, rfl, h3_2⟩ := hd_sti h3_1
      obtain ⟨sw3, rfl, h3_3⟩ := hd_str h3_2
      obtain ⟨n2', sw4, ws4, rfl, rfl, h3_4⟩ := hd_sti h3_3
      obtain ⟨sw5, rfl, h3_5⟩ := hd_str h3_4
      obtain ⟨rfl, rfl⟩ := hd_st0 h3_5
      have hr9_0 := hd_rfh h2
      have hr9_1 := hd_rfh (hd_rfT h2)
      obtain ⟨v0, e0, l0, u0⟩ := h4 _ (List.mem_cons_self)
      have g0 : 1 * n0'.toInt + 0 = v0 := Option.some.inj e0
      obtain ⟨v1, e1, l1, u1⟩ := h4 _ (List.mem_cons_of_mem _ (List.mem_cons_self))
      have g1 : 1 * n1'.toInt + 0 = v1 := Option.some.inj e1
      obtain ⟨v2, e2, l2, u2⟩ := h4 _ (List.mem_cons_of_mem _ (List.mem_cons_of_mem _ (List.mem_cons_self)))
      have g2 : 1 * (σ.2.1 12 7).toInt + ((-1) * n2'.toInt + 0) = v2 := Option.some.inj e2
      exact cuta _ _ _ _ _ hr9_0 hr9_1  ⟨by rw [g0]; exact l0, by rw [g0]; exact u0⟩ ⟨by rw [g1]; exact l1, by rw [g1]; exact u1⟩ ⟨by rw [g2]; exact l2, by rw [g2]; exact u2⟩ h5
theorem sg_rw4_run (G : sx_G0 g L xs z9 hd_C ex_mt) (hct : ∀ (mi : Nat) (T2 : ex_T) (c' : sx_Ct), ex_mt mi = some T2 → c' ∈ k9 mi → c'.1 < 60 → sx_Holds g z9 hd_C T2 c') {σ : am_S} {lw : List (Nat × Value)} {post : Option (Option Value) → am_S → Prop} (hM : sx_M z9 hd_C σ 0 0 σ) (hl : (0, Value.ref 12) ∈ lw) (hlr1 : (1, Value.ref 3) ∈ lw) {n0 : Int32} (bk0 : 1 ≤ n0.toInt ∧ n0.toInt ≤ 1) (cuta : ∀ (lw' : List (Nat × Value)) (n0' : Int32) (n1' : Int32) (n2' : Int32) (σ' : am_S), (0, Value.ref 12) ∈ lw' → (1, Value.ref 3) ∈ lw' → (3 ≤ 1 * n0'.toInt + 0 ∧ 1 * n0'.toInt + 0 ≤ 3) → (0 ≤ 1 * n1'.toInt + 0 ∧ 1 * n1'.toInt + 0 ≤ 0) → (0 ≤ 1 * (σ.2.1 12 7).toInt + ((-1) * n2'.toInt + 0) ∧ 1 * (σ.2.1 12 7).toInt + ((-1) * n2'.toInt + 0) ≤ 0) → sx_M z9 hd_C σ 0 0 σ' → am_K g 30 tX9_readWindow.1 0 0 66 lw' [.int n0', .int n1', .ref 3, .int n2', .ref 15] σ' post) : am_K g 30 tX9_readWindow.1 0 0 52 lw [.int n0] σ post := by
  refine sg_seg (sw := [.int n0]) (vs := [(σ.2.1 12 7).toInt]) (ws := [n0.toInt]) G (mi := 305) rfl hct sg_rw4_ok ⟨rfl, trivial⟩ (hd_rfc hl (hd_rfc hlr1 hd_rfn)) ⟨⟨n0, rfl, rfl⟩, trivial⟩ (hd_p1 rfl (hd_kd_12_7 hM).1 (hd_kd_12_7 hM).2 (hd_p1 rfl bk0.1 bk0.2 hd_p0)) hM ?_ ?_
  · intro r σ' hq
    cases r with
    | none => exact hq.elim
    | some v =>
      obtain ⟨p, hp, hM2, ks, hk, hv⟩ := hq
      cases hp
  · intro u hu
    simp only [List.mem_cons, List.not_mem_nil, or_false] at hu
    rcases hu with rfl
    · intro lw' sw' vs' ws' σ' ⟨h1_0, h2, h3_0, h4, h5⟩
      obtain rfl := hd_src0 h1_0
      obtain ⟨n0', sw1, ws1, rfl, rfl, h3_1⟩ := hd_sti h3_0
      obtain ⟨n1', sw2, ws2, rfl, rfl, h3_2⟩ := hd_sti h3_1
      obtain ⟨sw3, rfl, h3_3⟩ := hd_str h3_2
      obtain ⟨n2', sw4, ws4, rfl, rfl, h3_4⟩ := hd_sti h3_3
      obtain ⟨sw5, rfl, h3_5⟩ := hd_str h3_4
      obtain ⟨rfl, rfl⟩ := hd_st0 h3_5
      have hr9_0 := hd_rfh h2
      have hr9_1 := hd_rfh (hd_rfT h2)
      obtain ⟨v0, e0, l0, u0⟩ := h4 _ (List.mem_cons_self)
      have g0 : 1 * n0'.toInt + 0 = v0 := Option.some.inj e0
      obtain ⟨v1, e1, l1, u1⟩ := h4 _ (List.mem_cons_of_mem _ (List.mem_cons_self))
      have g1 : 1 * n1'.toInt + 0 = v1 := Option.some.inj e1
      obtain ⟨v2, e2, l2, u2⟩ := h4 _ (List.mem_cons_of_mem _ (List.mem_cons_of_mem _ (List.mem_cons_self)))
      have g2 : 1 * (σ.2.1 12 7).toInt + ((-1) * n2'.toInt + 0) = v2 := Option.some.inj e2
      exact cuta _ _ _ _ _ hr9_0 hr9_1  ⟨by rw [g0]; exact l0, by rw [g0]; exact u0⟩ ⟨by rw [g1]; exact l1, by rw [g1]; exact u1⟩ ⟨by rw [g2]; exact l2, by rw [g2]; exact u2⟩ h5
theorem sg_rw5_run (G : sx_G0 g L xs z9 hd_C ex_mt) (hct : ∀ (mi : Nat) (T2 : ex_T) (c' : sx_Ct), ex_mt mi = some T2 → c' ∈ k9 mi → c'.1 < 60 → sx_Holds g z9 hd_C T2 c') {σ : am_S} {lw : List (Nat × Value)} {post : Option (Option Value) → am_S → Prop} (hM : sx_M z9 hd_C σ 0 0 σ) (hl : (0, Value.ref 12) ∈ lw) (hlr1 : (1, Value.ref 3) ∈ lw) {n0 : Int32} (bk0 : 1 ≤ n0.toInt ∧ n0.toInt ≤ 1) (cuta : ∀ (lw' : List (Nat × Value)) (n0' : Int32) (n1' : Int32) (n2' : Int32) (σ' : am_S), (0, Value.ref 12) ∈ lw' → (1, Value.ref 3) ∈ lw' → (99 ≤ 1 * n0'.toInt + 0 ∧ 1 * n0'.toInt + 0 ≤ 99) → (0 ≤ 1 * n1'.toInt + 0 ∧ 1 * n1'.toInt + 0 ≤ 0) → (0 ≤ 1 * (σ.2.1 12 7).toInt + ((-1) * n2'.toInt + 0) ∧ 1 * (σ.2.1 12 7).toInt + ((-1) * n2'.toInt + 0) ≤ 0) → sx_M z9 hd_C σ 0 0 σ' → am_K g 30 tX9_readWindow.1 0 0 84 lw' [.int n0', .int n1', .ref 3, .int n2', .ref 16] σ' post) : am_K g 30 tX9_readWindow.1 0 0 69 lw [.int n0] σ post := by
  refine sg_seg (sw := [.int n0]) (vs := [(σ.2.1 12 7).toInt]) (ws := [n0.toInt]) G (mi := 305) rfl hct sg_rw5_ok ⟨rfl, trivial⟩ (hd_rfc hl (hd_rfc hlr1 hd_rfn)) ⟨⟨n0, rfl, rfl⟩, trivial⟩ (hd_p1 rfl (hd_kd_12_7 hM).1 (hd_kd_12_7 hM).2 (hd_p1 rfl bk0.1 bk0.2 hd_p0)) hM ?_ ?_
  · intro r σ' hq
    cases r with
    | none => exact hq.elim
    | some v =>
      obtain ⟨p, hp, hM2, ks, hk, hv⟩ := hq
      cases hp
  · intro u hu
    simp only [List.mem_cons, List.not_mem_nil, or_false] at hu
    rcases hu with rfl
    · intro lw' sw' vs' ws' σ' ⟨h1_0, h2, h3_0, h4, h5⟩
      obtain rfl := hd_src0 h1_0
      obtain ⟨n0', sw1, ws1, rfl, rfl, h3_1⟩ := hd_sti h3_0
      obtain ⟨n1', sw2, ws2, rfl, rfl, h3_2⟩ := hd_sti h3_1
      obtain ⟨sw3, rfl, h3_3⟩ := hd_str h3_2
      obtain ⟨n2', sw4, ws4, rfl, rfl, h3_4⟩ := hd_sti h3_3
      obtain ⟨sw5, rfl, h3_5⟩ := hd_str h3_4
      obtain ⟨rfl, rfl⟩ := hd_st0 h3_5
      have hr9_0 := hd_rfh h2
      have hr9_1 := hd_rfh (hd_rfT h2)
      obtain ⟨v0, e0, l0, u0⟩ := h4 _ (List.mem_cons_self)
      have g0 : 1 * n0'.toInt + 0 = v0 := Option.some.inj e0
      obtain ⟨v1, e1, l1, u1⟩ := h4 _ (List.mem_cons_of_mem _ (List.mem_cons_self))
      have g1 : 1 * n1'.toInt + 0 = v1 := Option.some.inj e1
      obtain ⟨v2, e2, l2, u2⟩ := h4 _ (List.mem_cons_of_mem _ (List.mem_cons_of_mem _ (List.mem_cons_self)))
      have g2 : 1 * (σ.2.1 12 7).toInt + ((-1) * n2'.toInt + 0) = v2 := Option.some.inj e2
      exact cuta _ _ _ _ _ hr9_0 hr9_1  ⟨by rw [g0]; exact l0, by rw [g0]; exact u0⟩ ⟨by rw [g1]; exact l1, by rw [g1]; exact u1⟩ ⟨by rw [g2]; exact l2, by rw [g2]; exact u2⟩ h5
theorem sg_rw3z_run (G : sx_G0 g L xs z9 hd_C ex_mt) (hct : ∀ (mi : Nat) (T2 : ex_T) (c' : sx_Ct), ex_mt mi = some T2 → c' ∈ k9 mi → c'.1 < 60 → sx_Holds g z9 hd_C T2 c') {σ : am_S} {lw : List (Nat × Value)} {post : Option (Option Value) → am_S → Prop} (hM : sx_M z9 hd_C σ 0 0 σ) (hl : (0, Value.ref 12) ∈ lw) (hlr1 : (1, Value.ref 3) ∈ lw) {n0 : Int32} (bk0 : 0 ≤ n0.toInt ∧ n0.toInt ≤ 0) (ret0 : ∀ (r : Int32) (σ' : am_S), (0 ≤ 1 * r.toInt + 0 ∧ 1 * r.toInt + 0 ≤ 0) → sx_M z9 hd_C σ 0 0 σ' → post (some (some (.int r))) σ') : am_K g 30 tX9_readWindow.1 0 0 34 lw [.int n0] σ post := by
  refine sg_seg (sw := [.int n0]) (vs := []) (ws := [n0.toInt]) G (mi := 305) rfl hct sg_rw3z_ok trivial (hd_rfc hl (hd_rfc hlr1 hd_rfn)) ⟨⟨n0, rfl, rfl⟩, trivial⟩ (hd_p1 rfl bk0.1 bk0.2 hd_p0) hM ?_ ?_
  · intro r σ' hq
    cases r with
    | none => exact hq.elim
    | some v =>
      obtain ⟨p, hp, hM2, ks, hk, hv⟩ := hq
      simp only [List.mem_cons, List.not_mem_nil, or_false] at hp
      rcases hp with rfl
      · obtain rfl := hd_keys hk
        cases v with
        | none => exact hv.elim
        | some w9 =>
          obtain ⟨r, rfl, hP⟩ := hv
          obtain ⟨v0, e0, l0, u0⟩ := hP _ (List.mem_cons_self)
          have g0 : 1 * r.toInt + 0 = v0 := Option.some.inj e0
          exact ret0 r _ ⟨by rw [g0]; exact l0, by rw [g0]; exact u0⟩ hM2
  · intro u hu
    cases hu
theorem sg_rw4z_run (G : sx_G0 g L xs z9 hd_C ex_mt) (hct : ∀ (mi : Nat) (T2 : ex_T) (c' : sx_Ct), ex_mt mi = some T2 → c' ∈ k9 mi → c'.1 < 60 → sx_Holds g z9 hd_C T2 c') {σ : am_S} {lw : List (Nat × Value)} {post : Option (Option Value) → am_S → Prop} (hM : sx_M z9 hd_C σ 0 0 σ) (hl : (0, Value.ref 12) ∈ lw) (hlr1 : (1, Value.ref 3) ∈ lw) {n0 : Int32} (bk0 : 0 ≤ n0.toInt ∧ n0.toInt ≤ 0) (ret0 : ∀ (r : Int32) (σ' : am_S), (0 ≤ 1 * r.toInt + 0 ∧ 1 * r.toInt + 0 ≤ 0) → sx_M z9 hd_C σ 0 0 σ' → post (some (some (.int r))) σ') : am_K g 30 tX9_readWindow.1 0 0 52 lw [.int n0] σ post := by
  refine sg_seg (sw := [.int n0]) (vs := []) (ws := [n0.toInt]) G (mi := 305) rfl hct sg_rw4z_ok trivial (hd_rfc hl (hd_rfc hlr1 hd_rfn)) ⟨⟨n0, rfl, rfl⟩, trivial⟩ (hd_p1 rfl bk0.1 bk0.2 hd_p0) hM ?_ ?_
  · intro r σ' hq
    cases r with
    | none => exact hq.elim
    | some v =>
      obtain ⟨p, hp, hM2, ks, hk, hv⟩ := hq
      simp only [List.mem_cons, List.not_mem_nil, or_false] at hp
      rcases hp with rfl
      · obtain rfl := hd_keys hk
        cases v with
        | none => exact hv.elim
        | some w9 =>
          obtain ⟨r, rfl, hP⟩ := hv
          obtain ⟨v0, e0, l0, u0⟩ := hP _ (List.mem_cons_self)
          have g0 : 1 * r.toInt + 0 = v0 := Option.some.inj e0
          exact ret0 r _ ⟨by rw [g0]; exact l0, by rw [g0]; exact u0⟩ hM2
  · intro u hu
    cases hu
theorem sg_rw5z_run (G : sx_G0 g L xs z9 hd_C ex_mt) (hct : ∀ (mi : Nat) (T2 : ex_T) (c' : sx_Ct), ex_mt mi = some T2 → c' ∈ k9 mi → c'.1 < 60 → sx_Holds g z9 hd_C T2 c') {σ : am_S} {lw : List (Nat × Value)} {post : Option (Option Value) → am_S → Prop} (hM : sx_M z9 hd_C σ 0 0 σ) (hl : (0, Value.ref 12) ∈ lw) (hlr1 : (1, Value.ref 3) ∈ lw) {n0 : Int32} (bk0 : 0 ≤ n0.toInt ∧ n0.toInt ≤ 0) (ret0 : ∀ (r : Int32) (σ' : am_S), (0 ≤ 1 * r.toInt + 0 ∧ 1 * r.toInt + 0 ≤ 0) → sx_M z9 hd_C σ 0 0 σ' → post (some (some (.int r))) σ') : am_K g 30 tX9_readWindow.1 0 0 69 lw [.int n0] σ post := by
  refine sg_seg (sw := [.int n0]) (vs := []) (ws := [n0.toInt]) G (mi := 305) rfl hct sg_rw5z_ok trivial (hd_rfc hl (hd_rfc hlr1 hd_rfn)) ⟨⟨n0, rfl, rfl⟩, trivial⟩ (hd_p1 rfl bk0.1 bk0.2 hd_p0) hM ?_ ?_
  · intro r σ' hq
    cases r with
    | none => exact hq.elim
    | some v =>
      obtain ⟨p, hp, hM2, ks, hk, hv⟩ := hq
      simp only [List.mem_cons, List.not_mem_nil, or_false] at hp
      rcases hp with rfl
      · obtain rfl := hd_keys hk
        cases v with
        | none => exact hv.elim
        | some w9 =>
          obtain ⟨r, rfl, hP⟩ := hv
          obtain ⟨v0, e0, l0, u0⟩ := hP _ (List.mem_cons_self)
          have g0 : 1 * r.toInt + 0 = v0 := Option.some.inj e0
          exact ret0 r _ ⟨by rw [g0]; exact l0, by rw [g0]; exact u0⟩ hM2
  · intro u hu
    cases hu
theorem sg_rw6z_run (G : sx_G0 g L xs z9 hd_C ex_mt) (hct : ∀ (mi : Nat) (T2 : ex_T) (c' : sx_Ct), ex_mt mi = some T2 → c' ∈ k9 mi → c'.1 < 60 → sx_Holds g z9 hd_C T2 c') {σ : am_S} {lw : List (Nat × Value)} {post : Option (Option Value) → am_S → Prop} (hM : sx_M z9 hd_C σ 0 0 σ) (hl : (0, Value.ref 12) ∈ lw) (hlr1 : (1, Value.ref 3) ∈ lw) {n0 : Int32} (bk0 : 0 ≤ n0.toInt ∧ n0.toInt ≤ 0) (ret0 : ∀ (r : Int32) (σ' : am_S), (0 ≤ 1 * r.toInt + 0 ∧ 1 * r.toInt + 0 ≤ 0) → sx_M z9 hd_C σ 0 0 σ' → post (some (some (.int r))) σ') : am_K g 30 tX9_readWindow.1 0 0 87 lw [.int n0] σ post := by
  refine sg_seg (sw := [.int n0]) (vs := []) (ws := [n0.toInt]) G (mi := 305) rfl hct sg_rw6z_ok trivial (hd_rfc hl (hd_rfc hlr1 hd_rfn)) ⟨⟨n0, rfl, rfl⟩, trivial⟩ (hd_p1 rfl bk0.1 bk0.2 hd_p0) hM ?_ ?_
  · intro r σ' hq
    cases r with
    | none => exact hq.elim
    | some v =>
      obtain ⟨p, hp, hM2, ks, hk, hv⟩ := hq
      simp only [List.mem_cons, List.not_mem_nil, or_false] at hp
      rcases hp with rfl
      · obtain rfl := hd_keys hk
        cases v with
        | none => exact hv.elim
        | some w9 =>
          obtain ⟨r, rfl, hP⟩ := hv
          obtain ⟨v0, e0, l0, u0⟩ := hP _ (List.mem_cons_self)
          have g0 : 1 * r.toInt + 0 = v0 := Option.some.inj e0
          exact ret0 r _ ⟨by rw [g0]; exact l0, by rw [g0]; exact u0⟩ hM2
  · intro u hu
    cases hu
theorem sg_rw6_run (G : sx_G0 g L xs z9 hd_C ex_mt) (hct : ∀ (mi : Nat) (T2 : ex_T) (c' : sx_Ct), ex_mt mi = some T2 → c' ∈ k9 mi → c'.1 < 60 → sx_Holds g z9 hd_C T2 c') {σ : am_S} {lw : List (Nat × Value)} {post : Option (Option Value) → am_S → Prop} (hM : sx_M z9 hd_C σ 0 0 σ) (hl : (0, Value.ref 12) ∈ lw) (hlr1 : (1, Value.ref 3) ∈ lw) (bp12_7 : 0 ≤ (σ.2.1 12 7).toInt ∧ (σ.2.1 12 7).toInt ≤ 9) {n0 : Int32} (bk0 : 1 ≤ n0.toInt ∧ n0.toInt ≤ 1) (ret0 : ∀ (r : Int32) (σ' : am_S), (1 ≤ 1 * r.toInt + 0 ∧ 1 * r.toInt + 0 ≤ 1) → ((-1) ≤ 1 * (σ.2.1 12 7).toInt + ((-1) * (σ'.2.1 12 7).toInt + 0) ∧ 1 * (σ.2.1 12 7).toInt + ((-1) * (σ'.2.1 12 7).toInt + 0) ≤ (-1)) → sx_M z9 hd_C σ 18014398509481984 0 σ' → post (some (some (.int r))) σ') : am_K g 30 tX9_readWindow.1 0 0 87 lw [.int n0] σ post := by
  refine sg_seg (sw := [.int n0]) (vs := [(σ.2.1 12 7).toInt]) (ws := [n0.toInt]) G (mi := 305) rfl hct sg_rw6_ok ⟨rfl, trivial⟩ (hd_rfc hl (hd_rfc hlr1 hd_rfn)) ⟨⟨n0, rfl, rfl⟩, trivial⟩ (hd_p1 rfl bp12_7.1 bp12_7.2 (hd_p1 rfl bk0.1 bk0.2 hd_p0)) hM ?_ ?_
  · intro r σ' hq
    cases r with
    | none => exact hq.elim
    | some v =>
      obtain ⟨p, hp, hM2, ks, hk, hv⟩ := hq
      simp only [List.mem_cons, List.not_mem_nil, or_false] at hp
      rcases hp with rfl
      · obtain ⟨ks0, rfl, hk1⟩ := hd_keyc hk; obtain rfl := hd_keys hk1
        cases v with
        | none => exact hv.elim
        | some w9 =>
          obtain ⟨r, rfl, hP⟩ := hv
          obtain ⟨v0, e0, l0, u0⟩ := hP _ (List.mem_cons_self)
          have g0 : 1 * r.toInt + 0 = v0 := Option.some.inj e0
          obtain ⟨v1, e1, l1, u1⟩ := hP _ (List.mem_cons_of_mem _ (List.mem_cons_self))
          have g1 : 1 * (σ.2.1 12 7).toInt + ((-1) * (σ'.2.1 12 7).toInt + 0) = v1 := Option.some.inj e1
          exact ret0 r _ ⟨by rw [g0]; exact l0, by rw [g0]; exact u0⟩ ⟨by rw [g1]; exact l1, by rw [g1]; exact u1⟩ hM2
  · intro u hu
    cases hu
theorem sg_rs1a_run (G : sx_G0 g L xs z9 hd_C ex_mt) (hct : ∀ (mi : Nat) (T2 : ex_T) (c' : sx_Ct), ex_mt mi = some T2 → c' ∈ k9 mi → c'.1 < 60 → sx_Holds g z9 hd_C T2 c') {σ : am_S} {lw : List (Nat × Value)} {post : Option (Option Value) → am_S → Prop} (hM : sx_M z9 hd_C σ 0 0 σ) (hl : (0, Value.ref 12) ∈ lw) (hlr1 : (1, Value.ref 3) ∈ lw) (bp12_8 : 6 ≤ (σ.2.1 12 8).toInt ∧ (σ.2.1 12 8).toInt ≤ 6) (ret0 : ∀ (r : Int32) (σ' : am_S), (0 ≤ 1 * r.toInt + 0 ∧ 1 * r.toInt + 0 ≤ 0) → (4 ≤ 1 * (σ'.2.1 3 7).toInt + 0 ∧ 1 * (σ'.2.1 3 7).toInt + 0 ≤ 4) → (0 ≤ 1 * (σ.2.1 3 4).toInt + ((-1) * (σ'.2.1 3 8).toInt + 0) ∧ 1 * (σ.2.1 3 4).toInt + ((-1) * (σ'.2.1 3 8).toInt + 0) ≤ 0) → sx_M z9 hd_C σ 402653184 0 σ' → post (some (some (.int r))) σ') : am_K g 30 tX9_readStands.1 0 0 0 lw [] σ post := by
  refine sg_seg (sw := []) (vs := [(σ.2.1 12 8).toInt, (σ.2.1 3 4).toInt]) (ws := []) G (mi := 304) rfl hct sg_rs1a_ok ⟨rfl, ⟨rfl, trivial⟩⟩ (hd_rfc hl (hd_rfc hlr1 hd_rfn)) trivial (hd_p1 rfl bp12_8.1 bp12_8.2 (hd_p1 rfl (hd_kd_3_4 hM).1 (hd_kd_3_4 hM).2 hd_p0)) hM ?_ ?_
  · intro r σ' hq
    cases r with
    | none => exact hq.elim
    | some v =>
      obtain ⟨p, hp, hM2, ks, hk, hv⟩ := hq
      simp only [List.mem_cons, List.not_mem_nil, or_false] at hp
      rcases hp with rfl
      · obtain ⟨ks0, rfl, hk1⟩ := hd_keyc hk; obtain ⟨ks1, rfl, hk2⟩ := hd_keyc hk1; obtain rfl := hd_keys hk2
        cases v with
        | none => exact hv.elim
        | some w9 =>
          obtain ⟨r, rfl, hP⟩ := hv
          obtain ⟨v0, e0, l0, u0⟩ := hP _ (List.mem_cons_self)
          have g0 : 1 * r.toInt + 0 = v0 := Option.some.inj e0
          obtain ⟨v1, e1, l1, u1⟩ := hP _ (List.mem_cons_of_mem _ (List.mem_cons_self))
          have g1 : 1 * (σ'.2.1 3 7).toInt + 0 = v1 := Option.some.inj e1
          obtain ⟨v2, e2, l2, u2⟩ := hP _ (List.mem_cons_of_mem _ (List.mem_cons_of_mem _ (List.mem_cons_self)))
          have g2 : 1 * (σ.2.1 3 4).toInt + ((-1) * (σ'.2.1 3 8).toInt + 0) = v2 := Option.some.inj e2
          exact ret0 r _ ⟨by rw [g0]; exact l0, by rw [g0]; exact u0⟩ ⟨by rw [g1]; exact l1, by rw [g1]; exact u1⟩ ⟨by rw [g2]; exact l2, by rw [g2]; exact u2⟩ hM2
  · intro u hu
    cases hu
theorem sg_rs1b_run (G : sx_G0 g L xs z9 hd_C ex_mt) (hct : ∀ (mi : Nat) (T2 : ex_T) (c' : sx_Ct), ex_mt mi = some T2 → c' ∈ k9 mi → c'.1 < 60 → sx_Holds g z9 hd_C T2 c') {σ : am_S} {lw : List (Nat × Value)} {post : Option (Option Value) → am_S → Prop} (hM : sx_M z9 hd_C σ 0 0 σ) (hl : (0, Value.ref 12) ∈ lw) (hlr1 : (1, Value.ref 3) ∈ lw) (bp12_8 : 0 ≤ (σ.2.1 12 8).toInt ∧ (σ.2.1 12 8).toInt ≤ 5) (cuta : ∀ (lw' : List (Nat × Value))  (σ' : am_S), (0, Value.ref 12) ∈ lw' → (1, Value.ref 3) ∈ lw' → sx_M z9 hd_C σ 0 0 σ' → am_K g 30 tX9_readStands.1 0 0 16 lw' [.ref 3] σ' post) : am_K g 30 tX9_readStands.1 0 0 0 lw [] σ post := by
  refine sg_seg (sw := []) (vs := [(σ.2.1 12 8).toInt]) (ws := []) G (mi := 304) rfl hct sg_rs1b_ok ⟨rfl, trivial⟩ (hd_rfc hl (hd_rfc hlr1 hd_rfn)) trivial (hd_p1 rfl bp12_8.1 bp12_8.2 hd_p0) hM ?_ ?_
  · intro r σ' hq
    cases r with
    | none => exact hq.elim
    | some v =>
      obtain ⟨p, hp, hM2, ks, hk, hv⟩ := hq
      cases hp
  · intro u hu
    simp only [List.mem_cons, List.not_mem_nil, or_false] at hu
    rcases hu with rfl
    · intro lw' sw' vs' ws' σ' ⟨h1_0, h2, h3_0, h4, h5⟩
      obtain rfl := hd_src0 h1_0
      obtain ⟨sw1, rfl, h3_1⟩ := hd_str h3_0
      obtain ⟨rfl, rfl⟩ := hd_st0 h3_1
      have hr9_0 := hd_rfh h2
      have hr9_1 := hd_rfh (hd_rfT h2)
      exact cuta _  _ hr9_0 hr9_1   h5
theorem sg_rs2_run (G : sx_G0 g L xs z9 hd_C ex_mt) (hct : ∀ (mi : Nat) (T2 : ex_T) (c' : sx_Ct), ex_mt mi = some T2 → c' ∈ k9 mi → c'.1 < 60 → sx_Holds g z9 hd_C T2 c') {σ : am_S} {lw : List (Nat × Value)} {post : Option (Option Value) → am_S → Prop} (hM : sx_M z9 hd_C σ 0 0 σ) (hl : (0, Value.ref 12) ∈ lw) (hlr1 : (1, Value.ref 3) ∈ lw) (bp3_3 : 3 ≤ (σ.2.1 3 3).toInt ∧ (σ.2.1 3 3).toInt ≤ 3) (ret0 : ∀ (r : Int32) (σ' : am_S), (0 ≤ 1 * r.toInt + 0 ∧ 1 * r.toInt + 0 ≤ 0) → (2 ≤ 1 * (σ'.2.1 3 7).toInt + 0 ∧ 1 * (σ'.2.1 3 7).toInt + 0 ≤ 2) → (0 ≤ 1 * (σ.2.1 3 4).toInt + ((-1) * (σ'.2.1 3 8).toInt + 0) ∧ 1 * (σ.2.1 3 4).toInt + ((-1) * (σ'.2.1 3 8).toInt + 0) ≤ 0) → ((-2147483648) ≤ 1 * (σ.2.1 3 6).toInt + 0 ∧ 1 * (σ.2.1 3 6).toInt + 0 ≤ 0) → sx_M z9 hd_C σ 402653184 0 σ' → post (some (some (.int r))) σ') (ret1 : ∀ (r : Int32) (σ' : am_S), (0 ≤ 1 * r.toInt + 0 ∧ 1 * r.toInt + 0 ≤ 0) → (2 ≤ 1 * (σ'.2.1 3 7).toInt + 0 ∧ 1 * (σ'.2.1 3 7).toInt + 0 ≤ 2) → (0 ≤ 1 * (σ.2.1 3 4).toInt + ((-1) * (σ'.2.1 3 8).toInt + 0) ∧ 1 * (σ.2.1 3 4).toInt + ((-1) * (σ'.2.1 3 8).toInt + 0) ≤ 0) → (61 ≤ 1 * (σ.2.1 3 6).toInt + 0 ∧ 1 * (σ.2.1 3 6).toInt + 0 ≤ 2147483647) → sx_M z9 hd_C σ 402653184 0 σ' → post (some (some (.int r))) σ') (cuta : ∀ (lw' : List (Nat × Value)) (m2' : Int32) (σ' : am_S), (0, Value.ref 12) ∈ lw' → (1, Value.ref 3) ∈ lw' → (2, Value.int m2') ∈ lw' → (0 ≤ 1 * m2'.toInt + 0 ∧ 1 * m2'.toInt + 0 ≤ 0) → (1 ≤ 1 * (σ.2.1 3 6).toInt + 0 ∧ 1 * (σ.2.1 3 6).toInt + 0 ≤ 60) → sx_M z9 hd_C σ 0 0 σ' → am_K g 30 tX9_readStands.1 0 0 33 lw' [] σ' post) : am_K g 30 tX9_readStands.1 0 0 19 lw [] σ post := by
  refine sg_seg (sw := []) (vs := [(σ.2.1 3 3).toInt, (σ.2.1 3 6).toInt, (σ.2.1 3 4).toInt]) (ws := []) G (mi := 304) rfl hct sg_rs2_ok ⟨rfl, ⟨rfl, ⟨rfl, trivial⟩⟩⟩ (hd_rfc hl (hd_rfc hlr1 hd_rfn)) trivial (hd_p1 rfl bp3_3.1 bp3_3.2 (hd_p1 rfl (hd_kd_3_6 hM).1 (hd_kd_3_6 hM).2 (hd_p1 rfl (hd_kd_3_4 hM).1 (hd_kd_3_4 hM).2 hd_p0))) hM ?_ ?_
  · intro r σ' hq
    cases r with
    | none => exact hq.elim
    | some v =>
      obtain ⟨p, hp, hM2, ks, hk, hv⟩ := hq
      simp only [List.mem_cons, List.not_mem_nil, or_false] at hp
      rcases hp with rfl | rfl
      · obtain ⟨ks0, rfl, hk1⟩ := hd_keyc hk; obtain ⟨ks1, rfl, hk2⟩ := hd_keyc hk1; obtain rfl := hd_keys hk2
        cases v with
        | none => exact hv.elim
        | some w9 =>
          obtain ⟨r, rfl, hP⟩ := hv
          obtain ⟨v0, e0, l0, u0⟩ := hP _ (List.mem_cons_self)
          have g0 : 1 * r.toInt + 0 = v0 := Option.some.inj e0
          obtain ⟨v1, e1, l1, u1⟩ := hP _ (List.mem_cons_of_mem _ (List.mem_cons_self))
          have g1 : 1 * (σ'.2.1 3 7).toInt + 0 = v1 := Option.some.inj e1
          obtain ⟨v2, e2, l2, u2⟩ := hP _ (List.mem_cons_of_mem _ (List.mem_cons_of_mem _ (List.mem_cons_self)))
          have g2 : 1 * (σ.2.1 3 4).toInt + ((-1) * (σ'.2.1 3 8).toInt + 0) = v2 := Option.some.inj e2
          obtain ⟨v3, e3, l3, u3⟩ := hP _ (List.mem_cons_of_mem _ (List.mem_cons_of_mem _ (List.mem_cons_of_mem _ (List.mem_cons_self))))
          have g3 : 1 * (σ.2.1 3 6).toInt + 0 = v3 := Option.some.inj e3
          exact ret0 r _ ⟨by rw [g0]; exact l0, by rw [g0]; exact u0⟩ ⟨by rw [g1]; exact l1, by rw [g1]; exact u1⟩ ⟨by rw [g2]; exact l2, by rw [g2]; exact u2⟩ ⟨by rw [g3]; exact l3, by rw [g3]; exact u3⟩ hM2
      · obtain ⟨ks0, rfl, hk1⟩ := hd_keyc hk; obtain ⟨ks1, rfl, hk2⟩ := hd_keyc hk1; obtain rfl := hd_keys hk2
        cases v with
        | none => exact hv.elim
        | some w9 =>
          obtain ⟨r, rfl, hP⟩ := hv
          obtain ⟨v0, e0, l0, u0⟩ := hP _ (List.mem_cons_self)
          have g0 : 1 * r.toInt + 0 = v0 := Option.some.inj e0
          obtain ⟨v1, e1, l1, u1⟩ := hP _ (List.mem_cons_of_mem _ (List.mem_cons_self))
          have g1 : 1 * (σ'.2.1 3 7).toInt + 0 = v1 := Option.some.inj e1
          obtain ⟨v2, e2, l2, u2⟩ := hP _ (List.mem_cons_of_mem _ (List.mem_cons_of_mem _ (List.mem_cons_self)))
          have g2 : 1 * (σ.2.1 3 4).toInt + ((-1) * (σ'.2.1 3 8).toInt + 0) = v2 := Option.some.inj e2
          obtain ⟨v3, e3, l3, u3⟩ := hP _ (List.mem_cons_of_mem _ (List.mem_cons_of_mem _ (List.mem_cons_of_mem _ (List.mem_cons_self))))
          have g3 : 1 * (σ.2.1 3 6).toInt + 0 = v3 := Option.some.inj e3
          exact ret1 r _ ⟨by rw [g0]; exact l0, by rw [g0]; exact u0⟩ ⟨by rw [g1]; exact l1, by rw [g1]; exact u1⟩ ⟨by rw [g2]; exact l2, by rw [g2]; exact u2⟩ ⟨by rw [g3]; exact l3, by rw [g3]; exact u3⟩ hM2
  · intro u hu
    simp only [List.mem_cons, List.not_mem_nil, or_false] at hu
    rcases hu with rfl
    · intro lw' sw' vs' ws' σ' ⟨h1_0, h2, h3_0, h4, h5⟩
      obtain ⟨m2', vs1, rfl, hm2, h1_1⟩ := hd_srcl h1_0
      obtain rfl := hd_src0 h1_1
      obtain ⟨rfl, rfl⟩ := hd_st0 h3_0
      have hr9_0 := hd_rfh h2
      have hr9_1 := hd_rfh (hd_rfT h2)
      obtain ⟨v0, e0, l0, u0⟩ := h4 _ (List.mem_cons_self)
      have g0 : 1 * m2'.toInt + 0 = v0 := Option.some.inj e0
      obtain ⟨v1, e1, l1, u1⟩ := h4 _ (List.mem_cons_of_mem _ (List.mem_cons_self))
      have g1 : 1 * (σ.2.1 3 6).toInt + 0 = v1 := Option.some.inj e1
      exact cuta _ _ _ hr9_0 hr9_1 hm2 ⟨by rw [g0]; exact l0, by rw [g0]; exact u0⟩ ⟨by rw [g1]; exact l1, by rw [g1]; exact u1⟩ h5
theorem sg_rs2a_run (G : sx_G0 g L xs z9 hd_C ex_mt) (hct : ∀ (mi : Nat) (T2 : ex_T) (c' : sx_Ct), ex_mt mi = some T2 → c' ∈ k9 mi → c'.1 < 60 → sx_Holds g z9 hd_C T2 c') {σ : am_S} {lw : List (Nat × Value)} {post : Option (Option Value) → am_S → Prop} (hM : sx_M z9 hd_C σ 0 0 σ) (hl : (0, Value.ref 12) ∈ lw) (hlr1 : (1, Value.ref 3) ∈ lw) (bp3_3 : (-2147483648) ≤ (σ.2.1 3 3).toInt ∧ (σ.2.1 3 3).toInt ≤ 2) (ret0 : ∀ (r : Int32) (σ' : am_S), (0 ≤ 1 * r.toInt + 0 ∧ 1 * r.toInt + 0 ≤ 0) → (1 ≤ 1 * (σ'.2.1 3 7).toInt + 0 ∧ 1 * (σ'.2.1 3 7).toInt + 0 ≤ 1) → (0 ≤ 1 * (σ.2.1 3 4).toInt + ((-1) * (σ'.2.1 3 8).toInt + 0) ∧ 1 * (σ.2.1 3 4).toInt + ((-1) * (σ'.2.1 3 8).toInt + 0) ≤ 0) → sx_M z9 hd_C σ 402653184 0 σ' → post (some (some (.int r))) σ') : am_K g 30 tX9_readStands.1 0 0 19 lw [] σ post := by
  refine sg_seg (sw := []) (vs := [(σ.2.1 3 3).toInt, (σ.2.1 3 4).toInt]) (ws := []) G (mi := 304) rfl hct sg_rs2a_ok ⟨rfl, ⟨rfl, trivial⟩⟩ (hd_rfc hl (hd_rfc hlr1 hd_rfn)) trivial (hd_p1 rfl bp3_3.1 bp3_3.2 (hd_p1 rfl (hd_kd_3_4 hM).1 (hd_kd_3_4 hM).2 hd_p0)) hM ?_ ?_
  · intro r σ' hq
    cases r with
    | none => exact hq.elim
    | some v =>
      obtain ⟨p, hp, hM2, ks, hk, hv⟩ := hq
      simp only [List.mem_cons, List.not_mem_nil, or_false] at hp
      rcases hp with rfl
      · obtain ⟨ks0, rfl, hk1⟩ := hd_keyc hk; obtain ⟨ks1, rfl, hk2⟩ := hd_keyc hk1; obtain rfl := hd_keys hk2
        cases v with
        | none => exact hv.elim
        | some w9 =>
          obtain ⟨r, rfl, hP⟩ := hv
          obtain ⟨v0, e0, l0, u0⟩ := hP _ (List.mem_cons_self)
          have g0 : 1 * r.toInt + 0 = v0 := Option.some.inj e0
          obtain ⟨v1, e1, l1, u1⟩ := hP _ (List.mem_cons_of_mem _ (List.mem_cons_self))
          have g1 : 1 * (σ'.2.1 3 7).toInt + 0 = v1 := Option.some.inj e1
          obtain ⟨v2, e2, l2, u2⟩ := hP _ (List.mem_cons_of_mem _ (List.mem_cons_of_mem _ (List.mem_cons_self)))
          have g2 : 1 * (σ.2.1 3 4).toInt + ((-1) * (σ'.2.1 3 8).toInt + 0) = v2 := Option.some.inj e2
          exact ret0 r _ ⟨by rw [g0]; exact l0, by rw [g0]; exact u0⟩ ⟨by rw [g1]; exact l1, by rw [g1]; exact u1⟩ ⟨by rw [g2]; exact l2, by rw [g2]; exact u2⟩ hM2
  · intro u hu
    cases hu
theorem sg_rs2b_run (G : sx_G0 g L xs z9 hd_C ex_mt) (hct : ∀ (mi : Nat) (T2 : ex_T) (c' : sx_Ct), ex_mt mi = some T2 → c' ∈ k9 mi → c'.1 < 60 → sx_Holds g z9 hd_C T2 c') {σ : am_S} {lw : List (Nat × Value)} {post : Option (Option Value) → am_S → Prop} (hM : sx_M z9 hd_C σ 0 0 σ) (hl : (0, Value.ref 12) ∈ lw) (hlr1 : (1, Value.ref 3) ∈ lw) (bp3_3 : 4 ≤ (σ.2.1 3 3).toInt ∧ (σ.2.1 3 3).toInt ≤ 2147483647) (ret0 : ∀ (r : Int32) (σ' : am_S), (0 ≤ 1 * r.toInt + 0 ∧ 1 * r.toInt + 0 ≤ 0) → (1 ≤ 1 * (σ'.2.1 3 7).toInt + 0 ∧ 1 * (σ'.2.1 3 7).toInt + 0 ≤ 1) → (0 ≤ 1 * (σ.2.1 3 4).toInt + ((-1) * (σ'.2.1 3 8).toInt + 0) ∧ 1 * (σ.2.1 3 4).toInt + ((-1) * (σ'.2.1 3 8).toInt + 0) ≤ 0) → sx_M z9 hd_C σ 402653184 0 σ' → post (some (some (.int r))) σ') : am_K g 30 tX9_readStands.1 0 0 19 lw [] σ post := by
  refine sg_seg (sw := []) (vs := [(σ.2.1 3 3).toInt, (σ.2.1 3 4).toInt]) (ws := []) G (mi := 304) rfl hct sg_rs2b_ok ⟨rfl, ⟨rfl, trivial⟩⟩ (hd_rfc hl (hd_rfc hlr1 hd_rfn)) trivial (hd_p1 rfl bp3_3.1 bp3_3.2 (hd_p1 rfl (hd_kd_3_4 hM).1 (hd_kd_3_4 hM).2 hd_p0)) hM ?_ ?_
  · intro r σ' hq
    cases r with
    | none => exact hq.elim
    | some v =>
      obtain ⟨p, hp, hM2, ks, hk, hv⟩ := hq
      simp only [List.mem_cons, List.not_mem_nil, or_false] at hp
      rcases hp with rfl
      · obtain ⟨ks0, rfl, hk1⟩ := hd_keyc hk; obtain ⟨ks1, rfl, hk2⟩ := hd_keyc hk1; obtain rfl := hd_keys hk2
        cases v with
        | none => exact hv.elim
        | some w9 =>
          obtain ⟨r, rfl, hP⟩ := hv
          obtain ⟨v0, e0, l0, u0⟩ := hP _ (List.mem_cons_self)
          have g0 : 1 * r.toInt + 0 = v0 := Option.some.inj e0
          obtain ⟨v1, e1, l1, u1⟩ := hP _ (List.mem_cons_of_mem _ (List.mem_cons_self))
          have g1 : 1 * (σ'.2.1 3 7).toInt + 0 = v1 := Option.some.inj e1
          obtain ⟨v2, e2, l2, u2⟩ := hP _ (List.mem_cons_of_mem _ (List.mem_cons_of_mem _ (List.mem_cons_self)))
          have g2 : 1 * (σ.2.1 3 4).toInt + ((-1) * (σ'.2.1 3 8).toInt + 0) = v2 := Option.some.inj e2
          exact ret0 r _ ⟨by rw [g0]; exact l0, by rw [g0]; exact u0⟩ ⟨by rw [g1]; exact l1, by rw [g1]; exact u1⟩ ⟨by rw [g2]; exact l2, by rw [g2]; exact u2⟩ hM2
  · intro u hu
    cases hu
theorem sg_rs3_run (G : sx_G0 g L xs z9 hd_C ex_mt) (hct : ∀ (mi : Nat) (T2 : ex_T) (c' : sx_Ct), ex_mt mi = some T2 → c' ∈ k9 mi → c'.1 < 60 → sx_Holds g z9 hd_C T2 c') {σ : am_S} {lw : List (Nat × Value)} {post : Option (Option Value) → am_S → Prop} (hM : sx_M z9 hd_C σ 0 0 σ) (hl : (0, Value.ref 12) ∈ lw) (hlr1 : (1, Value.ref 3) ∈ lw) {m2 : Int32} (hl2 : (2, Value.int m2) ∈ lw) (bl2 : 0 ≤ m2.toInt ∧ m2.toInt ≤ 6) (cuta : ∀ (lw' : List (Nat × Value)) (m2' : Int32) (n0' : Int32) (σ' : am_S), (0, Value.ref 12) ∈ lw' → (1, Value.ref 3) ∈ lw' → (2, Value.int m2') ∈ lw' → (0 ≤ 1 * m2.toInt + ((-1) * n0'.toInt + 0) ∧ 1 * m2.toInt + ((-1) * n0'.toInt + 0) ≤ 0) → (0 ≤ 1 * m2.toInt + ((-1) * m2'.toInt + 0) ∧ 1 * m2.toInt + ((-1) * m2'.toInt + 0) ≤ 0) → ((-4611686018427387904) ≤ 1 * m2.toInt + ((-1) * (σ.2.1 12 8).toInt + 0) ∧ 1 * m2.toInt + ((-1) * (σ.2.1 12 8).toInt + 0) ≤ (-1)) → sx_M z9 hd_C σ 0 0 σ' → am_K g 30 tX9_readStands.1 0 0 43 lw' [.int n0', .ref 12] σ' post) (cutb : ∀ (lw' : List (Nat × Value))  (σ' : am_S), (0, Value.ref 12) ∈ lw' → (1, Value.ref 3) ∈ lw' → (0 ≤ 1 * m2.toInt + ((-1) * (σ.2.1 12 8).toInt + 0) ∧ 1 * m2.toInt + ((-1) * (σ.2.1 12 8).toInt + 0) ≤ 4611686018427387904) → sx_M z9 hd_C σ 0 0 σ' → am_K g 30 tX9_readStands.1 0 0 65 lw' [] σ' post) : am_K g 30 tX9_readStands.1 0 0 33 lw [] σ post := by
  refine sg_seg (sw := []) (vs := [m2.toInt, (σ.2.1 12 8).toInt]) (ws := []) G (mi := 304) rfl hct sg_rs3_ok ⟨⟨m2, hl2, rfl⟩, ⟨rfl, trivial⟩⟩ (hd_rfc hl (hd_rfc hlr1 hd_rfn)) trivial (hd_p1 rfl bl2.1 bl2.2 (hd_p1 rfl (hd_kd_12_8 hM).1 (hd_kd_12_8 hM).2 hd_p0)) hM ?_ ?_
  · intro r σ' hq
    cases r with
    | none => exact hq.elim
    | some v =>
      obtain ⟨p, hp, hM2, ks, hk, hv⟩ := hq
      cases hp
  · intro u hu
    simp only [List.mem_cons, List.not_mem_nil, or_false] at hu
    rcases hu with rfl | rfl
    · intro lw' sw' vs' ws' σ' ⟨h1_0, h2, h3_0, h4, h5⟩
      obtain ⟨m2', vs1, rfl, hm2, h1_1⟩ := hd_srcl h1_0
      obtain rfl := hd_src0 h1_1
      obtain ⟨n0', sw1, ws1, rfl, rfl, h3_1⟩ := hd_sti h3_0
      obtain ⟨sw2, rfl, h3_2⟩ := hd_str h3_1
      obtain ⟨rfl, rfl⟩ := hd_st0 h3_2
      have hr9_0 := hd_rfh h2
      have hr9_1 := hd_rfh (hd_rfT h2)
      obtain ⟨v0, e0, l0, u0⟩ := h4 _ (List.mem_cons_self)
      have g0 : 1 * m2.toInt + ((-1) * n0'.toInt + 0) = v0 := Option.some.inj e0
      obtain ⟨v1, e1, l1, u1⟩ := h4 _ (List.mem_cons_of_mem _ (List.mem_cons_self))
      have g1 : 1 * m2.toInt + ((-1) * m2'.toInt + 0) = v1 := Option.some.inj e1
      obtain ⟨v2, e2, l2, u2⟩ := h4 _ (List.mem_cons_of_mem _ (List.mem_cons_of_mem _ (List.mem_cons_self)))
      have g2 : 1 * m2.toInt + ((-1) * (σ.2.1 12 8).toInt + 0) = v2 := Option.some.inj e2
      exact cuta _ _ _ _ hr9_0 hr9_1 hm2 ⟨by rw [g0]; exact l0, by rw [g0]; exact u0⟩ ⟨by rw [g1]; exact l1, by rw [g1]; exact u1⟩ ⟨by rw [g2]; exact l2, by rw [g2]; exact u2⟩ h5
    · intro lw' sw' vs' ws' σ' ⟨h1_0, h2, h3_0, h4, h5⟩
      obtain rfl := hd_src0 h1_0
      obtain ⟨rfl, rfl⟩ := hd_st0 h3_0
      have hr9_0 := hd_rfh h2
      have hr9_1 := hd_rfh (hd_rfT h2)
      obtain ⟨v0, e0, l0, u0⟩ := h4 _ (List.mem_cons_self)
      have g0 : 1 * m2.toInt + ((-1) * (σ.2.1 12 8).toInt + 0) = v0 := Option.some.inj e0
      exact cutb _  _ hr9_0 hr9_1  ⟨by rw [g0]; exact l0, by rw [g0]; exact u0⟩ h5
theorem sg_rs4a_run (G : sx_G0 g L xs z9 hd_C ex_mt) (hct : ∀ (mi : Nat) (T2 : ex_T) (c' : sx_Ct), ex_mt mi = some T2 → c' ∈ k9 mi → c'.1 < 60 → sx_Holds g z9 hd_C T2 c') {σ : am_S} {lw : List (Nat × Value)} {post : Option (Option Value) → am_S → Prop} (hM : sx_M z9 hd_C σ 0 0 σ) (hl : (0, Value.ref 12) ∈ lw) (hlr1 : (1, Value.ref 3) ∈ lw) {n0 : Int32} (bf0 : 0 ≤ 1 * (σ.2.1 3 6).toInt + ((-1) * n0.toInt + 0) ∧ 1 * (σ.2.1 3 6).toInt + ((-1) * n0.toInt + 0) ≤ 0) (ret0 : ∀ (r : Int32) (σ' : am_S), (0 ≤ 1 * r.toInt + 0 ∧ 1 * r.toInt + 0 ≤ 0) → (3 ≤ 1 * (σ'.2.1 3 7).toInt + 0 ∧ 1 * (σ'.2.1 3 7).toInt + 0 ≤ 3) → (0 ≤ 1 * (σ.2.1 3 4).toInt + ((-1) * (σ'.2.1 3 8).toInt + 0) ∧ 1 * (σ.2.1 3 4).toInt + ((-1) * (σ'.2.1 3 8).toInt + 0) ≤ 0) → sx_M z9 hd_C σ 402653184 0 σ' → post (some (some (.int r))) σ') : am_K g 30 tX9_readStands.1 0 0 46 lw [.int n0] σ post := by
  refine sg_seg (sw := [.int n0]) (vs := [(σ.2.1 3 6).toInt, (σ.2.1 3 4).toInt]) (ws := [n0.toInt]) G (mi := 304) rfl hct sg_rs4a_ok ⟨rfl, ⟨rfl, trivial⟩⟩ (hd_rfc hl (hd_rfc hlr1 hd_rfn)) ⟨⟨n0, rfl, rfl⟩, trivial⟩ (hd_p1 rfl (hd_kd_3_6 hM).1 (hd_kd_3_6 hM).2 (hd_p1 rfl (hd_kd_3_4 hM).1 (hd_kd_3_4 hM).2 (hd_p1 rfl (Int32.le_toInt _) (Int32.toInt_le _) (hd_pf rfl bf0.1 bf0.2 hd_p0)))) hM ?_ ?_
  · intro r σ' hq
    cases r with
    | none => exact hq.elim
    | some v =>
      obtain ⟨p, hp, hM2, ks, hk, hv⟩ := hq
      simp only [List.mem_cons, List.not_mem_nil, or_false] at hp
      rcases hp with rfl
      · obtain ⟨ks0, rfl, hk1⟩ := hd_keyc hk; obtain ⟨ks1, rfl, hk2⟩ := hd_keyc hk1; obtain rfl := hd_keys hk2
        cases v with
        | none => exact hv.elim
        | some w9 =>
          obtain ⟨r, rfl, hP⟩ := hv
          obtain ⟨v0, e0, l0, u0⟩ := hP _ (List.mem_cons_self)
          have g0 : 1 * r.toInt + 0 = v0 := Option.some.inj e0
          obtain ⟨v1, e1, l1, u1⟩ := hP _ (List.mem_cons_of_mem _ (List.mem_cons_self))
          have g1 : 1 * (σ'.2.1 3 7).toInt + 0 = v1 := Option.some.inj e1
          obtain ⟨v2, e2, l2, u2⟩ := hP _ (List.mem_cons_of_mem _ (List.mem_cons_of_mem _ (List.mem_cons_self)))
          have g2 : 1 * (σ.2.1 3 4).toInt + ((-1) * (σ'.2.1 3 8).toInt + 0) = v2 := Option.some.inj e2
          exact ret0 r _ ⟨by rw [g0]; exact l0, by rw [g0]; exact u0⟩ ⟨by rw [g1]; exact l1, by rw [g1]; exact u1⟩ ⟨by rw [g2]; exact l2, by rw [g2]; exact u2⟩ hM2
  · intro u hu
    cases hu
theorem sg_rs4b_run (G : sx_G0 g L xs z9 hd_C ex_mt) (hct : ∀ (mi : Nat) (T2 : ex_T) (c' : sx_Ct), ex_mt mi = some T2 → c' ∈ k9 mi → c'.1 < 60 → sx_Holds g z9 hd_C T2 c') {σ : am_S} {lw : List (Nat × Value)} {post : Option (Option Value) → am_S → Prop} (hM : sx_M z9 hd_C σ 0 0 σ) (hl : (0, Value.ref 12) ∈ lw) (hlr1 : (1, Value.ref 3) ∈ lw) {m2 : Int32} (hl2 : (2, Value.int m2) ∈ lw) (bl2 : 0 ≤ m2.toInt ∧ m2.toInt ≤ 5) {n0 : Int32} (bf0 : 1 ≤ 1 * (σ.2.1 3 6).toInt + ((-1) * n0.toInt + 0) ∧ 1 * (σ.2.1 3 6).toInt + ((-1) * n0.toInt + 0) ≤ 4611686018427387904) (cuta : ∀ (lw' : List (Nat × Value)) (m2' : Int32) (σ' : am_S), (0, Value.ref 12) ∈ lw' → (1, Value.ref 3) ∈ lw' → (2, Value.int m2') ∈ lw' → ((-1) ≤ 1 * m2.toInt + ((-1) * m2'.toInt + 0) ∧ 1 * m2.toInt + ((-1) * m2'.toInt + 0) ≤ (-1)) → sx_M z9 hd_C σ 0 0 σ' → am_K g 30 tX9_readStands.1 0 0 33 lw' [] σ' post) : am_K g 30 tX9_readStands.1 0 0 46 lw [.int n0] σ post := by
  refine sg_seg (sw := [.int n0]) (vs := [m2.toInt, (σ.2.1 3 6).toInt]) (ws := [n0.toInt]) G (mi := 304) rfl hct sg_rs4b_ok ⟨⟨m2, hl2, rfl⟩, ⟨rfl, trivial⟩⟩ (hd_rfc hl (hd_rfc hlr1 hd_rfn)) ⟨⟨n0, rfl, rfl⟩, trivial⟩ (hd_p1 rfl bl2.1 bl2.2 (hd_p1 rfl (hd_kd_3_6 hM).1 (hd_kd_3_6 hM).2 (hd_p1 rfl (Int32.le_toInt _) (Int32.toInt_le _) (hd_pf rfl bf0.1 bf0.2 hd_p0)))) hM ?_ ?_
  · intro r σ' hq
    cases r with
    | none => exact hq.elim
    | some v =>
      obtain ⟨p, hp, hM2, ks, hk, hv⟩ := hq
      cases hp
  · intro u hu
    simp only [List.mem_cons, List.not_mem_nil, or_false] at hu
    rcases hu with rfl
    · intro lw' sw' vs' ws' σ' ⟨h1_0, h2, h3_0, h4, h5⟩
      obtain ⟨m2', vs1, rfl, hm2, h1_1⟩ := hd_srcl h1_0
      obtain rfl := hd_src0 h1_1
      obtain ⟨rfl, rfl⟩ := hd_st0 h3_0
      have hr9_0 := hd_rfh h2
      have hr9_1 := hd_rfh (hd_rfT h2)
      obtain ⟨v0, e0, l0, u0⟩ := h4 _ (List.mem_cons_self)
      have g0 : 1 * m2.toInt + ((-1) * m2'.toInt + 0) = v0 := Option.some.inj e0
      exact cuta _ _ _ hr9_0 hr9_1 hm2 ⟨by rw [g0]; exact l0, by rw [g0]; exact u0⟩ h5
theorem sg_rs4c_run (G : sx_G0 g L xs z9 hd_C ex_mt) (hct : ∀ (mi : Nat) (T2 : ex_T) (c' : sx_Ct), ex_mt mi = some T2 → c' ∈ k9 mi → c'.1 < 60 → sx_Holds g z9 hd_C T2 c') {σ : am_S} {lw : List (Nat × Value)} {post : Option (Option Value) → am_S → Prop} (hM : sx_M z9 hd_C σ 0 0 σ) (hl : (0, Value.ref 12) ∈ lw) (hlr1 : (1, Value.ref 3) ∈ lw) {m2 : Int32} (hl2 : (2, Value.int m2) ∈ lw) (bl2 : 0 ≤ m2.toInt ∧ m2.toInt ≤ 5) {n0 : Int32} (bf0 : (-4611686018427387904) ≤ 1 * (σ.2.1 3 6).toInt + ((-1) * n0.toInt + 0) ∧ 1 * (σ.2.1 3 6).toInt + ((-1) * n0.toInt + 0) ≤ (-1)) (cuta : ∀ (lw' : List (Nat × Value)) (m2' : Int32) (σ' : am_S), (0, Value.ref 12) ∈ lw' → (1, Value.ref 3) ∈ lw' → (2, Value.int m2') ∈ lw' → ((-1) ≤ 1 * m2.toInt + ((-1) * m2'.toInt + 0) ∧ 1 * m2.toInt + ((-1) * m2'.toInt + 0) ≤ (-1)) → sx_M z9 hd_C σ 0 0 σ' → am_K g 30 tX9_readStands.1 0 0 33 lw' [] σ' post) : am_K g 30 tX9_readStands.1 0 0 46 lw [.int n0] σ post := by
  refine sg_seg (sw := [.int n0]) (vs := [m2.toInt, (σ.2.1 3 6).toInt]) (ws := [n0.toInt]) G (mi := 304) rfl hct sg_rs4c_ok ⟨⟨m2, hl2, rfl⟩, ⟨rfl, trivial⟩⟩ (hd_rfc hl (hd_rfc hlr1 hd_rfn)) ⟨⟨n0, rfl, rfl⟩, trivial⟩ (hd_p1 rfl bl2.1 bl2.2 (hd_p1 rfl (hd_kd_3_6 hM).1 (hd_kd_3_6 hM).2 (hd_p1 rfl (Int32.le_toInt _) (Int32.toInt_le _) (hd_pf rfl bf0.1 bf0.2 hd_p0)))) hM ?_ ?_
  · intro r σ' hq
    cases r with
    | none => exact hq.elim
    | some v =>
      obtain ⟨p, hp, hM2, ks, hk, hv⟩ := hq
      cases hp
  · intro u hu
    simp only [List.mem_cons, List.not_mem_nil, or_false] at hu
    rcases hu with rfl
    · intro lw' sw' vs' ws' σ' ⟨h1_0, h2, h3_0, h4, h5⟩
      obtain ⟨m2', vs1, rfl, hm2, h1_1⟩ := hd_srcl h1_0
      obtain rfl := hd_src0 h1_1
      obtain ⟨rfl, rfl⟩ := hd_st0 h3_0
      have hr9_0 := hd_rfh h2
      have hr9_1 := hd_rfh (hd_rfT h2)
      obtain ⟨v0, e0, l0, u0⟩ := h4 _ (List.mem_cons_self)
      have g0 : 1 * m2.toInt + ((-1) * m2'.toInt + 0) = v0 := Option.some.inj e0
      exact cuta _ _ _ hr9_0 hr9_1 hm2 ⟨by rw [g0]; exact l0, by rw [g0]; exact u0⟩ h5
theorem sg_rs5_run (G : sx_G0 g L xs z9 hd_C ex_mt) (hct : ∀ (mi : Nat) (T2 : ex_T) (c' : sx_Ct), ex_mt mi = some T2 → c' ∈ k9 mi → c'.1 < 60 → sx_Holds g z9 hd_C T2 c') {σ : am_S} {lw : List (Nat × Value)} {post : Option (Option Value) → am_S → Prop} (hM : sx_M z9 hd_C σ 0 0 σ) (hl : (0, Value.ref 12) ∈ lw) (hlr1 : (1, Value.ref 3) ∈ lw)  (cuta : ∀ (lw' : List (Nat × Value)) (n0' : Int32) (n1' : Int32) (σ' : am_S), (0, Value.ref 12) ∈ lw' → (1, Value.ref 3) ∈ lw' → (0 ≤ 1 * (σ.2.1 3 6).toInt + ((-1) * n0'.toInt + 0) ∧ 1 * (σ.2.1 3 6).toInt + ((-1) * n0'.toInt + 0) ≤ 0) → (0 ≤ 1 * (σ.2.1 12 8).toInt + ((-1) * n1'.toInt + 0) ∧ 1 * (σ.2.1 12 8).toInt + ((-1) * n1'.toInt + 0) ≤ 0) → sx_M z9 hd_C σ 0 0 σ' → am_K g 30 tX9_readStands.1 0 0 77 lw' [.int n0', .int n1', .ref 17] σ' post) : am_K g 30 tX9_readStands.1 0 0 65 lw [] σ post := by
  refine sg_seg (sw := []) (vs := [(σ.2.1 12 8).toInt, (σ.2.1 3 6).toInt]) (ws := []) G (mi := 304) rfl hct sg_rs5_ok ⟨rfl, ⟨rfl, trivial⟩⟩ (hd_rfc hl (hd_rfc hlr1 hd_rfn)) trivial (hd_p1 rfl (hd_kd_12_8 hM).1 (hd_kd_12_8 hM).2 (hd_p1 rfl (hd_kd_3_6 hM).1 (hd_kd_3_6 hM).2 hd_p0)) hM ?_ ?_
  · intro r σ' hq
    cases r with
    | none => exact hq.elim
    | some v =>
      obtain ⟨p, hp, hM2, ks, hk, hv⟩ := hq
      cases hp
  · intro u hu
    simp only [List.mem_cons, List.not_mem_nil, or_false] at hu
    rcases hu with rfl
    · intro lw' sw' vs' ws' σ' ⟨h1_0, h2, h3_0, h4, h5⟩
      obtain rfl := hd_src0 h1_0
      obtain ⟨n0', sw1, ws1, rfl, rfl, h3_1⟩ := hd_sti h3_0
      obtain ⟨n1', sw2, ws2, rfl, rfl, h3_2⟩ := hd_sti h3_1
      obtain ⟨sw3, rfl, h3_3⟩ := hd_str h3_2
      obtain ⟨rfl, rfl⟩ := hd_st0 h3_3
      have hr9_0 := hd_rfh h2
      have hr9_1 := hd_rfh (hd_rfT h2)
      obtain ⟨v0, e0, l0, u0⟩ := h4 _ (List.mem_cons_self)
      have g0 : 1 * (σ.2.1 3 6).toInt + ((-1) * n0'.toInt + 0) = v0 := Option.some.inj e0
      obtain ⟨v1, e1, l1, u1⟩ := h4 _ (List.mem_cons_of_mem _ (List.mem_cons_self))
      have g1 : 1 * (σ.2.1 12 8).toInt + ((-1) * n1'.toInt + 0) = v1 := Option.some.inj e1
      exact cuta _ _ _ _ hr9_0 hr9_1  ⟨by rw [g0]; exact l0, by rw [g0]; exact u0⟩ ⟨by rw [g1]; exact l1, by rw [g1]; exact u1⟩ h5
theorem sg_rs6_run (G : sx_G0 g L xs z9 hd_C ex_mt) (hct : ∀ (mi : Nat) (T2 : ex_T) (c' : sx_Ct), ex_mt mi = some T2 → c' ∈ k9 mi → c'.1 < 60 → sx_Holds g z9 hd_C T2 c') {σ : am_S} {lw : List (Nat × Value)} {post : Option (Option Value) → am_S → Prop} (hM : sx_M z9 hd_C σ 0 0 σ) (hl : (0, Value.ref 12) ∈ lw) (hlr1 : (1, Value.ref 3) ∈ lw)  (cuta : ∀ (lw' : List (Nat × Value))  (σ' : am_S), (0, Value.ref 12) ∈ lw' → (1, Value.ref 3) ∈ lw' → sx_M z9 hd_C σ 0 0 σ' → am_K g 30 tX9_readStands.1 0 0 81 lw' [.ref 3] σ' post) : am_K g 30 tX9_readStands.1 0 0 80 lw [] σ post := by
  refine sg_seg (sw := []) (vs := []) (ws := []) G (mi := 304) rfl hct sg_rs6_ok trivial (hd_rfc hl (hd_rfc hlr1 hd_rfn)) trivial hd_p0 hM ?_ ?_
  · intro r σ' hq
    cases r with
    | none => exact hq.elim
    | some v =>
      obtain ⟨p, hp, hM2, ks, hk, hv⟩ := hq
      cases hp
  · intro u hu
    simp only [List.mem_cons, List.not_mem_nil, or_false] at hu
    rcases hu with rfl
    · intro lw' sw' vs' ws' σ' ⟨h1_0, h2, h3_0, h4, h5⟩
      obtain rfl := hd_src0 h1_0
      obtain ⟨sw1, rfl, h3_1⟩ := hd_str h3_0
      obtain ⟨rfl, rfl⟩ := hd_st0 h3_1
      have hr9_0 := hd_rfh h2
      have hr9_1 := hd_rfh (hd_rfT h2)
      exact cuta _  _ hr9_0 hr9_1   h5
theorem sg_rs7_run (G : sx_G0 g L xs z9 hd_C ex_mt) (hct : ∀ (mi : Nat) (T2 : ex_T) (c' : sx_Ct), ex_mt mi = some T2 → c' ∈ k9 mi → c'.1 < 60 → sx_Holds g z9 hd_C T2 c') {σ : am_S} {lw : List (Nat × Value)} {post : Option (Option Value) → am_S → Prop} (hM : sx_M z9 hd_C σ 0 0 σ) (hl : (0, Value.ref 12) ∈ lw) (hlr1 : (1, Value.ref 3) ∈ lw)  (cuta : ∀ (lw' : List (Nat × Value)) (n0' : Int32) (n1' : Int32) (n2' : Int32) (σ' : am_S), (0, Value.ref 12) ∈ lw' → (1, Value.ref 3) ∈ lw' → (9 ≤ 1 * n0'.toInt + 0 ∧ 1 * n0'.toInt + 0 ≤ 9) → (1 ≤ 1 * n1'.toInt + 0 ∧ 1 * n1'.toInt + 0 ≤ 1) → (0 ≤ 1 * (σ.2.1 12 8).toInt + ((-1) * n2'.toInt + 0) ∧ 1 * (σ.2.1 12 8).toInt + ((-1) * n2'.toInt + 0) ≤ 0) → sx_M z9 hd_C σ 0 0 σ' → am_K g 30 tX9_readStands.1 0 0 96 lw' [.int n0', .int n1', .ref 3, .int n2', .ref 18] σ' post) : am_K g 30 tX9_readStands.1 0 0 84 lw [] σ post := by
  refine sg_seg (sw := []) (vs := [(σ.2.1 12 8).toInt]) (ws := []) G (mi := 304) rfl hct sg_rs7_ok ⟨rfl, trivial⟩ (hd_rfc hl (hd_rfc hlr1 hd_rfn)) trivial (hd_p1 rfl (hd_kd_12_8 hM).1 (hd_kd_12_8 hM).2 hd_p0) hM ?_ ?_
  · intro r σ' hq
    cases r with
    | none => exact hq.elim
    | some v =>
      obtain ⟨p, hp, hM2, ks, hk, hv⟩ := hq
      cases hp
  · intro u hu
    simp only [List.mem_cons, List.not_mem_nil, or_false] at hu
    rcases hu with rfl
    · intro lw' sw' vs' ws' σ' ⟨h1_0, h2, h3_0, h4, h5⟩
      obtain rfl := hd_src0 h1_0
      obtain ⟨n0', sw1, ws1, rfl, rfl, h3_1⟩ := hd_sti h3_0
      obtain ⟨n1', sw2, ws2, rfl, rfl, h3_2⟩ := hd_sti h3_1
      obtain ⟨sw3, rfl, h3_3⟩ := hd_str h3_2
      obtain ⟨n2', sw4, ws4, rfl, rfl, h3_4⟩ := hd_sti h3_3
      obtain ⟨sw5, rfl, h3_5⟩ := hd_str h3_4
      obtain ⟨rfl, rfl⟩ := hd_st0 h3_5
      have hr9_0 := hd_rfh h2
      have hr9_1 := hd_rfh (hd_rfT h2)
      obtain ⟨v0, e0, l0, u0⟩ := h4 _ (List.mem_cons_self)
      have g0 : 1 * n0'.toInt + 0 = v0 := Option.some.inj e0
      obtain ⟨v1, e1, l1, u1⟩ := h4 _ (List.mem_cons_of_mem _ (List.mem_cons_self))
      have g1 : 1 * n1'.toInt + 0 = v1 := Option.some.inj e1
      obtain ⟨v2, e2, l2, u2⟩ := h4 _ (List.mem_cons_of_mem _ (List.mem_cons_of_mem _ (List.mem_cons_self)))
      have g2 : 1 * (σ.2.1 12 8).toInt + ((-1) * n2'.toInt + 0) = v2 := Option.some.inj e2
      exact cuta _ _ _ _ _ hr9_0 hr9_1  ⟨by rw [g0]; exact l0, by rw [g0]; exact u0⟩ ⟨by rw [g1]; exact l1, by rw [g1]; exact u1⟩ ⟨by rw [g2]; exact l2, by rw [g2]; exact u2⟩ h5
theorem sg_rs8z_run (G : sx_G0 g L xs z9 hd_C ex_mt) (hct : ∀ (mi : Nat) (T2 : ex_T) (c' : sx_Ct), ex_mt mi = some T2 → c' ∈ k9 mi → c'.1 < 60 → sx_Holds g z9 hd_C T2 c') {σ : am_S} {lw : List (Nat × Value)} {post : Option (Option Value) → am_S → Prop} (hM : sx_M z9 hd_C σ 0 0 σ) (hl : (0, Value.ref 12) ∈ lw) (hlr1 : (1, Value.ref 3) ∈ lw) {n0 : Int32} (bk0 : 0 ≤ n0.toInt ∧ n0.toInt ≤ 0) (ret0 : ∀ (r : Int32) (σ' : am_S), (0 ≤ 1 * r.toInt + 0 ∧ 1 * r.toInt + 0 ≤ 0) → sx_M z9 hd_C σ 0 0 σ' → post (some (some (.int r))) σ') : am_K g 30 tX9_readStands.1 0 0 99 lw [.int n0] σ post := by
  refine sg_seg (sw := [.int n0]) (vs := []) (ws := [n0.toInt]) G (mi := 304) rfl hct sg_rs8z_ok trivial (hd_rfc hl (hd_rfc hlr1 hd_rfn)) ⟨⟨n0, rfl, rfl⟩, trivial⟩ (hd_p1 rfl bk0.1 bk0.2 hd_p0) hM ?_ ?_
  · intro r σ' hq
    cases r with
    | none => exact hq.elim
    | some v =>
      obtain ⟨p, hp, hM2, ks, hk, hv⟩ := hq
      simp only [List.mem_cons, List.not_mem_nil, or_false] at hp
      rcases hp with rfl
      · obtain rfl := hd_keys hk
        cases v with
        | none => exact hv.elim
        | some w9 =>
          obtain ⟨r, rfl, hP⟩ := hv
          obtain ⟨v0, e0, l0, u0⟩ := hP _ (List.mem_cons_self)
          have g0 : 1 * r.toInt + 0 = v0 := Option.some.inj e0
          exact ret0 r _ ⟨by rw [g0]; exact l0, by rw [g0]; exact u0⟩ hM2
  · intro u hu
    cases hu
theorem sg_rs8_run (G : sx_G0 g L xs z9 hd_C ex_mt) (hct : ∀ (mi : Nat) (T2 : ex_T) (c' : sx_Ct), ex_mt mi = some T2 → c' ∈ k9 mi → c'.1 < 60 → sx_Holds g z9 hd_C T2 c') {σ : am_S} {lw : List (Nat × Value)} {post : Option (Option Value) → am_S → Prop} (hM : sx_M z9 hd_C σ 0 0 σ) (hl : (0, Value.ref 12) ∈ lw) (hlr1 : (1, Value.ref 3) ∈ lw) (bp12_8 : 0 ≤ (σ.2.1 12 8).toInt ∧ (σ.2.1 12 8).toInt ≤ 5) {n0 : Int32} (bk0 : 1 ≤ n0.toInt ∧ n0.toInt ≤ 1) (ret0 : ∀ (r : Int32) (σ' : am_S), (1 ≤ 1 * r.toInt + 0 ∧ 1 * r.toInt + 0 ≤ 1) → ((-1) ≤ 1 * (σ.2.1 12 8).toInt + ((-1) * (σ'.2.1 12 8).toInt + 0) ∧ 1 * (σ.2.1 12 8).toInt + ((-1) * (σ'.2.1 12 8).toInt + 0) ≤ (-1)) → sx_M z9 hd_C σ 36028797018963968 0 σ' → post (some (some (.int r))) σ') : am_K g 30 tX9_readStands.1 0 0 99 lw [.int n0] σ post := by
  refine sg_seg (sw := [.int n0]) (vs := [(σ.2.1 12 8).toInt]) (ws := [n0.toInt]) G (mi := 304) rfl hct sg_rs8_ok ⟨rfl, trivial⟩ (hd_rfc hl (hd_rfc hlr1 hd_rfn)) ⟨⟨n0, rfl, rfl⟩, trivial⟩ (hd_p1 rfl bp12_8.1 bp12_8.2 (hd_p1 rfl bk0.1 bk0.2 hd_p0)) hM ?_ ?_
  · intro r σ' hq
    cases r with
    | none => exact hq.elim
    | some v =>
      obtain ⟨p, hp, hM2, ks, hk, hv⟩ := hq
      simp only [List.mem_cons, List.not_mem_nil, or_false] at hp
      rcases hp with rfl
      · obtain ⟨ks0, rfl, hk1⟩ := hd_keyc hk; obtain rfl := hd_keys hk1
        cases v with
        | none => exact hv.elim
        | some w9 =>
          obtain ⟨r, rfl, hP⟩ := hv
          obtain ⟨v0, e0, l0, u0⟩ := hP _ (List.mem_cons_self)
          have g0 : 1 * r.toInt + 0 = v0 := Option.some.inj e0
          obtain ⟨v1, e1, l1, u1⟩ := hP _ (List.mem_cons_of_mem _ (List.mem_cons_self))
          have g1 : 1 * (σ.2.1 12 8).toInt + ((-1) * (σ'.2.1 12 8).toInt + 0) = v1 := Option.some.inj e1
          exact ret0 r _ ⟨by rw [g0]; exact l0, by rw [g0]; exact u0⟩ ⟨by rw [g1]; exact l1, by rw [g1]; exact u1⟩ hM2
  · intro u hu
    cases hu
theorem sg_rt1_run (G : sx_G0 g L xs z9 hd_C ex_mt) (hct : ∀ (mi : Nat) (T2 : ex_T) (c' : sx_Ct), ex_mt mi = some T2 → c' ∈ k9 mi → c'.1 < 60 → sx_Holds g z9 hd_C T2 c') {σ : am_S} {lw : List (Nat × Value)} {post : Option (Option Value) → am_S → Prop} (hM : sx_M z9 hd_C σ 0 0 σ) (hl : (0, Value.ref 12) ∈ lw) (hlr1 : (1, Value.ref 3) ∈ lw) {m2 : Int32} (hl2 : (2, Value.int m2) ∈ lw) (cuta : ∀ (lw' : List (Nat × Value)) (m2' : Int32) (n0' : Int32) (n1' : Int32) (σ' : am_S), (0, Value.ref 12) ∈ lw' → (1, Value.ref 3) ∈ lw' → (2, Value.int m2') ∈ lw' → (0 ≤ 1 * m2.toInt + ((-1) * n0'.toInt + 0) ∧ 1 * m2.toInt + ((-1) * n0'.toInt + 0) ≤ 0) → (0 ≤ 1 * (σ.2.1 12 10).toInt + ((-1) * n1'.toInt + 0) ∧ 1 * (σ.2.1 12 10).toInt + ((-1) * n1'.toInt + 0) ≤ 0) → (0 ≤ 1 * m2.toInt + ((-1) * m2'.toInt + 0) ∧ 1 * m2.toInt + ((-1) * m2'.toInt + 0) ≤ 0) → sx_M z9 hd_C σ 0 0 σ' → am_K g 30 tX9_readSetting.1 0 0 5 lw' [.int n0', .int n1'] σ' post) : am_K g 30 tX9_readSetting.1 0 0 0 lw [] σ post := by
  refine sg_seg (sw := []) (vs := [m2.toInt, (σ.2.1 12 10).toInt]) (ws := []) G (mi := 303) rfl hct sg_rt1_ok ⟨⟨m2, hl2, rfl⟩, ⟨rfl, trivial⟩⟩ (hd_rfc hl (hd_rfc hlr1 hd_rfn)) trivial (hd_p1 rfl (Int32.le_toInt _) (Int32.toInt_le _) (hd_p1 rfl (hd_kd_12_10 hM).1 (hd_kd_12_10 hM).2 hd_p0)) hM ?_ ?_
  · intro r σ' hq
    cases r with
    | none => exact hq.elim
    | some v =>
      obtain ⟨p, hp, hM2, ks, hk, hv⟩ := hq
      cases hp
  · intro u hu
    simp only [List.mem_cons, List.not_mem_nil, or_false] at hu
    rcases hu with rfl
    · intro lw' sw' vs' ws' σ' ⟨h1_0, h2, h3_0, h4, h5⟩
      obtain ⟨m2', vs1, rfl, hm2, h1_1⟩ := hd_srcl h1_0
      obtain rfl := hd_src0 h1_1
      obtain ⟨n0', sw1, ws1, rfl, rfl, h3_1⟩ := hd_sti h3_0
      obtain ⟨n1', sw2, ws2, rfl, rfl, h3_2⟩ := hd_sti h3_1
      obtain ⟨rfl, rfl⟩ := hd_st0 h3_2
      have hr9_0 := hd_rfh h2
      have hr9_1 := hd_rfh (hd_rfT h2)
      obtain ⟨v0, e0, l0, u0⟩ := h4 _ (List.mem_cons_self)
      have g0 : 1 * m2.toInt + ((-1) * n0'.toInt + 0) = v0 := Option.some.inj e0
      obtain ⟨v1, e1, l1, u1⟩ := h4 _ (List.mem_cons_of_mem _ (List.mem_cons_self))
      have g1 : 1 * (σ.2.1 12 10).toInt + ((-1) * n1'.toInt + 0) = v1 := Option.some.inj e1
      obtain ⟨v2, e2, l2, u2⟩ := h4 _ (List.mem_cons_of_mem _ (List.mem_cons_of_mem _ (List.mem_cons_self)))
      have g2 : 1 * m2.toInt + ((-1) * m2'.toInt + 0) = v2 := Option.some.inj e2
      exact cuta _ _ _ _ _ hr9_0 hr9_1 hm2 ⟨by rw [g0]; exact l0, by rw [g0]; exact u0⟩ ⟨by rw [g1]; exact l1, by rw [g1]; exact u1⟩ ⟨by rw [g2]; exact l2, by rw [g2]; exact u2⟩ h5
theorem sg_rt2_run (G : sx_G0 g L xs z9 hd_C ex_mt) (hct : ∀ (mi : Nat) (T2 : ex_T) (c' : sx_Ct), ex_mt mi = some T2 → c' ∈ k9 mi → c'.1 < 60 → sx_Holds g z9 hd_C T2 c') {σ : am_S} {lw : List (Nat × Value)} {post : Option (Option Value) → am_S → Prop} (hM : sx_M z9 hd_C σ 0 0 σ) (hl : (0, Value.ref 12) ∈ lw) (hlr1 : (1, Value.ref 3) ∈ lw) {m2 : Int32} (hl2 : (2, Value.int m2) ∈ lw) {n0 : Int32} (cuta : ∀ (lw' : List (Nat × Value)) (m2' : Int32) (n0' : Int32) (n1' : Int32) (σ' : am_S), (0, Value.ref 12) ∈ lw' → (1, Value.ref 3) ∈ lw' → (2, Value.int m2') ∈ lw' → (1 ≤ 1 * n0'.toInt + 0 ∧ 1 * n0'.toInt + 0 ≤ 1) → (0 ≤ 1 * n0.toInt + ((-1) * n1'.toInt + 0) ∧ 1 * n0.toInt + ((-1) * n1'.toInt + 0) ≤ 0) → (0 ≤ 1 * m2.toInt + ((-1) * m2'.toInt + 0) ∧ 1 * m2.toInt + ((-1) * m2'.toInt + 0) ≤ 0) → sx_M z9 hd_C σ 0 0 σ' → am_K g 30 tX9_readSetting.1 0 0 7 lw' [.int n0', .int n1'] σ' post) : am_K g 30 tX9_readSetting.1 0 0 6 lw [.int n0] σ post := by
  refine sg_seg (sw := [.int n0]) (vs := [m2.toInt]) (ws := [n0.toInt]) G (mi := 303) rfl hct sg_rt2_ok ⟨⟨m2, hl2, rfl⟩, trivial⟩ (hd_rfc hl (hd_rfc hlr1 hd_rfn)) ⟨⟨n0, rfl, rfl⟩, trivial⟩ (hd_p1 rfl (Int32.le_toInt _) (Int32.toInt_le _) (hd_p1 rfl (Int32.le_toInt _) (Int32.toInt_le _) hd_p0)) hM ?_ ?_
  · intro r σ' hq
    cases r with
    | none => exact hq.elim
    | some v =>
      obtain ⟨p, hp, hM2, ks, hk, hv⟩ := hq
      cases hp
  · intro u hu
    simp only [List.mem_cons, List.not_mem_nil, or_false] at hu
    rcases hu with rfl
    · intro lw' sw' vs' ws' σ' ⟨h1_0, h2, h3_0, h4, h5⟩
      obtain ⟨m2', vs1, rfl, hm2, h1_1⟩ := hd_srcl h1_0
      obtain rfl := hd_src0 h1_1
      obtain ⟨n0', sw1, ws1, rfl, rfl, h3_1⟩ := hd_sti h3_0
      obtain ⟨n1', sw2, ws2, rfl, rfl, h3_2⟩ := hd_sti h3_1
      obtain ⟨rfl, rfl⟩ := hd_st0 h3_2
      have hr9_0 := hd_rfh h2
      have hr9_1 := hd_rfh (hd_rfT h2)
      obtain ⟨v0, e0, l0, u0⟩ := h4 _ (List.mem_cons_self)
      have g0 : 1 * n0'.toInt + 0 = v0 := Option.some.inj e0
      obtain ⟨v1, e1, l1, u1⟩ := h4 _ (List.mem_cons_of_mem _ (List.mem_cons_self))
      have g1 : 1 * n0.toInt + ((-1) * n1'.toInt + 0) = v1 := Option.some.inj e1
      obtain ⟨v2, e2, l2, u2⟩ := h4 _ (List.mem_cons_of_mem _ (List.mem_cons_of_mem _ (List.mem_cons_self)))
      have g2 : 1 * m2.toInt + ((-1) * m2'.toInt + 0) = v2 := Option.some.inj e2
      exact cuta _ _ _ _ _ hr9_0 hr9_1 hm2 ⟨by rw [g0]; exact l0, by rw [g0]; exact u0⟩ ⟨by rw [g1]; exact l1, by rw [g1]; exact u1⟩ ⟨by rw [g2]; exact l2, by rw [g2]; exact u2⟩ h5
theorem sg_rt3a_run (G : sx_G0 g L xs z9 hd_C ex_mt) (hct : ∀ (mi : Nat) (T2 : ex_T) (c' : sx_Ct), ex_mt mi = some T2 → c' ∈ k9 mi → c'.1 < 60 → sx_Holds g z9 hd_C T2 c') {σ : am_S} {lw : List (Nat × Value)} {post : Option (Option Value) → am_S → Prop} (hM : sx_M z9 hd_C σ 0 0 σ) (hl : (0, Value.ref 12) ∈ lw) (hlr1 : (1, Value.ref 3) ∈ lw) {n0 : Int32} (bk0 : 1 ≤ n0.toInt ∧ n0.toInt ≤ 1) (ret0 : ∀ (r : Int32) (σ' : am_S), (0 ≤ 1 * r.toInt + 0 ∧ 1 * r.toInt + 0 ≤ 0) → (3 ≤ 1 * (σ'.2.1 3 7).toInt + 0 ∧ 1 * (σ'.2.1 3 7).toInt + 0 ≤ 3) → (0 ≤ 1 * (σ.2.1 3 4).toInt + ((-1) * (σ'.2.1 3 8).toInt + 0) ∧ 1 * (σ.2.1 3 4).toInt + ((-1) * (σ'.2.1 3 8).toInt + 0) ≤ 0) → sx_M z9 hd_C σ 402653184 0 σ' → post (some (some (.int r))) σ') : am_K g 30 tX9_readSetting.1 0 0 8 lw [.int n0] σ post := by
  refine sg_seg (sw := [.int n0]) (vs := [(σ.2.1 3 4).toInt]) (ws := [n0.toInt]) G (mi := 303) rfl hct sg_rt3a_ok ⟨rfl, trivial⟩ (hd_rfc hl (hd_rfc hlr1 hd_rfn)) ⟨⟨n0, rfl, rfl⟩, trivial⟩ (hd_p1 rfl (hd_kd_3_4 hM).1 (hd_kd_3_4 hM).2 (hd_p1 rfl bk0.1 bk0.2 hd_p0)) hM ?_ ?_
  · intro r σ' hq
    cases r with
    | none => exact hq.elim
    | some v =>
      obtain ⟨p, hp, hM2, ks, hk, hv⟩ := hq
      simp only [List.mem_cons, List.not_mem_nil, or_false] at hp
      rcases hp with rfl
      · obtain ⟨ks0, rfl, hk1⟩ := hd_keyc hk; obtain ⟨ks1, rfl, hk2⟩ := hd_keyc hk1; obtain rfl := hd_keys hk2
        cases v with
        | none => exact hv.elim
        | some w9 =>
          obtain ⟨r, rfl, hP⟩ := hv
          obtain ⟨v0, e0, l0, u0⟩ := hP _ (List.mem_cons_self)
          have g0 : 1 * r.toInt + 0 = v0 := Option.some.inj e0
          obtain ⟨v1, e1, l1, u1⟩ := hP _ (List.mem_cons_of_mem _ (List.mem_cons_self))
          have g1 : 1 * (σ'.2.1 3 7).toInt + 0 = v1 := Option.some.inj e1
          obtain ⟨v2, e2, l2, u2⟩ := hP _ (List.mem_cons_of_mem _ (List.mem_cons_of_mem _ (List.mem_cons_self)))
          have g2 : 1 * (σ.2.1 3 4).toInt + ((-1) * (σ'.2.1 3 8).toInt + 0) = v2 := Option.some.inj e2
          exact ret0 r _ ⟨by rw [g0]; exact l0, by rw [g0]; exact u0⟩ ⟨by rw [g1]; exact l1, by rw [g1]; exact u1⟩ ⟨by rw [g2]; exact l2, by rw [g2]; exact u2⟩ hM2
  · intro u hu
    cases hu
theorem sg_rt3b_run (G : sx_G0 g L xs z9 hd_C ex_mt) (hct : ∀ (mi : Nat) (T2 : ex_T) (c' : sx_Ct), ex_mt mi = some T2 → c' ∈ k9 mi → c'.1 < 60 → sx_Holds g z9 hd_C T2 c') {σ : am_S} {lw : List (Nat × Value)} {post : Option (Option Value) → am_S → Prop} (hM : sx_M z9 hd_C σ 0 0 σ) (hl : (0, Value.ref 12) ∈ lw) (hlr1 : (1, Value.ref 3) ∈ lw) {m2 : Int32} (hl2 : (2, Value.int m2) ∈ lw) {n0 : Int32} (bk0 : 0 ≤ n0.toInt ∧ n0.toInt ≤ 0) (cuta : ∀ (lw' : List (Nat × Value)) (m2' : Int32) (n0' : Int32) (n1' : Int32) (n2' : Int32) (σ' : am_S), (0, Value.ref 12) ∈ lw' → (1, Value.ref 3) ∈ lw' → (2, Value.int m2') ∈ lw' → (0 ≤ 1 * m2.toInt + ((-1) * n0'.toInt + 0) ∧ 1 * m2.toInt + ((-1) * n0'.toInt + 0) ≤ 0) → (1 ≤ 1 * n1'.toInt + 0 ∧ 1 * n1'.toInt + 0 ≤ 1) → (0 ≤ 1 * (σ.2.1 12 10).toInt + ((-1) * n2'.toInt + 0) ∧ 1 * (σ.2.1 12 10).toInt + ((-1) * n2'.toInt + 0) ≤ 0) → (0 ≤ 1 * m2.toInt + ((-1) * m2'.toInt + 0) ∧ 1 * m2.toInt + ((-1) * m2'.toInt + 0) ≤ 0) → sx_M z9 hd_C σ 0 0 σ' → am_K g 30 tX9_readSetting.1 0 0 25 lw' [.int n0', .int n1', .int n2', .ref 12] σ' post) : am_K g 30 tX9_readSetting.1 0 0 8 lw [.int n0] σ post := by
  refine sg_seg (sw := [.int n0]) (vs := [m2.toInt, (σ.2.1 12 10).toInt]) (ws := [n0.toInt]) G (mi := 303) rfl hct sg_rt3b_ok ⟨⟨m2, hl2, rfl⟩, ⟨rfl, trivial⟩⟩ (hd_rfc hl (hd_rfc hlr1 hd_rfn)) ⟨⟨n0, rfl, rfl⟩, trivial⟩ (hd_p1 rfl (Int32.le_toInt _) (Int32.toInt_le _) (hd_p1 rfl (hd_kd_12_10 hM).1 (hd_kd_12_10 hM).2 (hd_p1 rfl bk0.1 bk0.2 hd_p0))) hM ?_ ?_
  · intro r σ' hq
    cases r with
    | none => exact hq.elim
    | some v =>
      obtain ⟨p, hp, hM2, ks, hk, hv⟩ := hq
      cases hp
  · intro u hu
    simp only [List.mem_cons, List.not_mem_nil, or_false] at hu
    rcases hu with rfl
    · intro lw' sw' vs' ws' σ' ⟨h1_0, h2, h3_0, h4, h5⟩
      obtain ⟨m2', vs1, rfl, hm2, h1_1⟩ := hd_srcl h1_0
      obtain rfl := hd_src0 h1_1
      obtain ⟨n0', sw1, ws1, rfl, rfl, h3_1⟩ := hd_sti h3_0
      obtain ⟨n1', sw2, ws2, rfl, rfl, h3_2⟩ := hd_sti h3_1
      obtain ⟨n2', sw3, ws3, rfl, rfl, h3_3⟩ := hd_sti h3_2
      obtain ⟨sw4, rfl, h3_4⟩ := hd_str h3_3
      obtain ⟨rfl, rfl⟩ := hd_st0 h3_4
      have hr9_0 := hd_rfh h2
      have hr9_1 := hd_rfh (hd_rfT h2)
      obtain ⟨v0, e0, l0, u0⟩ := h4 _ (List.mem_cons_self)
      have g0 : 1 * m2.toInt + ((-1) * n0'.toInt + 0) = v0 := Option.some.inj e0
      obtain ⟨v1, e1, l1, u1⟩ := h4 _ (List.mem_cons_of_mem _ (List.mem_cons_self))
      have g1 : 1 * n1'.toInt + 0 = v1 := Option.some.inj e1
      obtain ⟨v2, e2, l2, u2⟩ := h4 _ (List.mem_cons_of_mem _ (List.mem_cons_of_mem _ (List.mem_cons_self)))
      have g2 : 1 * (σ.2.1 12 10).toInt + ((-1) * n2'.toInt + 0) = v2 := Option.some.inj e2
      obtain ⟨v3, e3, l3, u3⟩ := h4 _ (List.mem_cons_of_mem _ (List.mem_cons_of_mem _ (List.mem_cons_of_mem _ (List.mem_cons_self))))
      have g3 : 1 * m2.toInt + ((-1) * m2'.toInt + 0) = v3 := Option.some.inj e3
      exact cuta _ _ _ _ _ _ hr9_0 hr9_1 hm2 ⟨by rw [g0]; exact l0, by rw [g0]; exact u0⟩ ⟨by rw [g1]; exact l1, by rw [g1]; exact u1⟩ ⟨by rw [g2]; exact l2, by rw [g2]; exact u2⟩ ⟨by rw [g3]; exact l3, by rw [g3]; exact u3⟩ h5
theorem sg_rt4_run (G : sx_G0 g L xs z9 hd_C ex_mt) (hct : ∀ (mi : Nat) (T2 : ex_T) (c' : sx_Ct), ex_mt mi = some T2 → c' ∈ k9 mi → c'.1 < 60 → sx_Holds g z9 hd_C T2 c') {σ : am_S} {lw : List (Nat × Value)} {post : Option (Option Value) → am_S → Prop} (hM : sx_M z9 hd_C σ 0 0 σ) (hl : (0, Value.ref 12) ∈ lw) (hlr1 : (1, Value.ref 3) ∈ lw) {m2 : Int32} (hl2 : (2, Value.int m2) ∈ lw) (cuta : ∀ (lw' : List (Nat × Value)) (m2' : Int32) (σ' : am_S), (0, Value.ref 12) ∈ lw' → (1, Value.ref 3) ∈ lw' → (2, Value.int m2') ∈ lw' → (0 ≤ 1 * m2.toInt + ((-1) * m2'.toInt + 0) ∧ 1 * m2.toInt + ((-1) * m2'.toInt + 0) ≤ 0) → sx_M z9 hd_C σ 0 0 σ' → am_K g 30 tX9_readSetting.1 0 0 31 lw' [.ref 3] σ' post) : am_K g 30 tX9_readSetting.1 0 0 30 lw [] σ post := by
  refine sg_seg (sw := []) (vs := [m2.toInt]) (ws := []) G (mi := 303) rfl hct sg_rt4_ok ⟨⟨m2, hl2, rfl⟩, trivial⟩ (hd_rfc hl (hd_rfc hlr1 hd_rfn)) trivial (hd_p1 rfl (Int32.le_toInt _) (Int32.toInt_le _) hd_p0) hM ?_ ?_
  · intro r σ' hq
    cases r with
    | none => exact hq.elim
    | some v =>
      obtain ⟨p, hp, hM2, ks, hk, hv⟩ := hq
      cases hp
  · intro u hu
    simp only [List.mem_cons, List.not_mem_nil, or_false] at hu
    rcases hu with rfl
    · intro lw' sw' vs' ws' σ' ⟨h1_0, h2, h3_0, h4, h5⟩
      obtain ⟨m2', vs1, rfl, hm2, h1_1⟩ := hd_srcl h1_0
      obtain rfl := hd_src0 h1_1
      obtain ⟨sw1, rfl, h3_1⟩ := hd_str h3_0
      obtain ⟨rfl, rfl⟩ := hd_st0 h3_1
      have hr9_0 := hd_rfh h2
      have hr9_1 := hd_rfh (hd_rfT h2)
      obtain ⟨v0, e0, l0, u0⟩ := h4 _ (List.mem_cons_self)
      have g0 : 1 * m2.toInt + ((-1) * m2'.toInt + 0) = v0 := Option.some.inj e0
      exact cuta _ _ _ hr9_0 hr9_1 hm2 ⟨by rw [g0]; exact l0, by rw [g0]; exact u0⟩ h5
theorem sg_rt5_run (G : sx_G0 g L xs z9 hd_C ex_mt) (hct : ∀ (mi : Nat) (T2 : ex_T) (c' : sx_Ct), ex_mt mi = some T2 → c' ∈ k9 mi → c'.1 < 60 → sx_Holds g z9 hd_C T2 c') {σ : am_S} {lw : List (Nat × Value)} {post : Option (Option Value) → am_S → Prop} (hM : sx_M z9 hd_C σ 0 0 σ) (hl : (0, Value.ref 12) ∈ lw) (hlr1 : (1, Value.ref 3) ∈ lw) {m2 : Int32} (hl2 : (2, Value.int m2) ∈ lw) (cuta : ∀ (lw' : List (Nat × Value)) (m2' : Int32) (n0' : Int32) (n1' : Int32) (σ' : am_S), (0, Value.ref 12) ∈ lw' → (1, Value.ref 3) ∈ lw' → (2, Value.int m2') ∈ lw' → (0 ≤ 1 * m2.toInt + ((-1) * n0'.toInt + 0) ∧ 1 * m2.toInt + ((-1) * n0'.toInt + 0) ≤ 0) → (0 ≤ 1 * m2.toInt + ((-1) * n1'.toInt + 0) ∧ 1 * m2.toInt + ((-1) * n1'.toInt + 0) ≤ 0) → (0 ≤ 1 * m2.toInt + ((-1) * m2'.toInt + 0) ∧ 1 * m2.toInt + ((-1) * m2'.toInt + 0) ≤ 0) → sx_M z9 hd_C σ 0 0 σ' → am_K g 30 tX9_readSetting.1 0 0 44 lw' [.int n0', .retAddr 2, .ref 3, .int n1', .ref 19] σ' post) : am_K g 30 tX9_readSetting.1 0 0 34 lw [] σ post := by
  refine sg_seg (sw := []) (vs := [m2.toInt]) (ws := []) G (mi := 303) rfl hct sg_rt5_ok ⟨⟨m2, hl2, rfl⟩, trivial⟩ (hd_rfc hl (hd_rfc hlr1 hd_rfn)) trivial (hd_p1 rfl (Int32.le_toInt _) (Int32.toInt_le _) hd_p0) hM ?_ ?_
  · intro r σ' hq
    cases r with
    | none => exact hq.elim
    | some v =>
      obtain ⟨p, hp, hM2, ks, hk, hv⟩ := hq
      cases hp
  · intro u hu
    simp only [List.mem_cons, List.not_mem_nil, or_false] at hu
    rcases hu with rfl
    · intro lw' sw' vs' ws' σ' ⟨h1_0, h2, h3_0, h4, h5⟩
      obtain ⟨m2', vs1, rfl, hm2, h1_1⟩ := hd_srcl h1_0
      obtain rfl := hd_src0 h1_1
      obtain ⟨n0', sw1, ws1, rfl, rfl, h3_1⟩ := hd_sti h3_0
      obtain ⟨sw2, rfl, h3_2⟩ := hd_strx h3_1
      obtain ⟨sw3, rfl, h3_3⟩ := hd_str h3_2
      obtain ⟨n1', sw4, ws4, rfl, rfl, h3_4⟩ := hd_sti h3_3
      obtain ⟨sw5, rfl, h3_5⟩ := hd_str h3_4
      obtain ⟨rfl, rfl⟩ := hd_st0 h3_5
      have hr9_0 := hd_rfh h2
      have hr9_1 := hd_rfh (hd_rfT h2)
      obtain ⟨v0, e0, l0, u0⟩ := h4 _ (List.mem_cons_self)
      have g0 : 1 * m2.toInt + ((-1) * n0'.toInt + 0) = v0 := Option.some.inj e0
      obtain ⟨v1, e1, l1, u1⟩ := h4 _ (List.mem_cons_of_mem _ (List.mem_cons_self))
      have g1 : 1 * m2.toInt + ((-1) * n1'.toInt + 0) = v1 := Option.some.inj e1
      obtain ⟨v2, e2, l2, u2⟩ := h4 _ (List.mem_cons_of_mem _ (List.mem_cons_of_mem _ (List.mem_cons_self)))
      have g2 : 1 * m2.toInt + ((-1) * m2'.toInt + 0) = v2 := Option.some.inj e2
      exact cuta _ _ _ _ _ hr9_0 hr9_1 hm2 ⟨by rw [g0]; exact l0, by rw [g0]; exact u0⟩ ⟨by rw [g1]; exact l1, by rw [g1]; exact u1⟩ ⟨by rw [g2]; exact l2, by rw [g2]; exact u2⟩ h5
theorem sg_rt5b_run (G : sx_G0 g L xs z9 hd_C ex_mt) (hct : ∀ (mi : Nat) (T2 : ex_T) (c' : sx_Ct), ex_mt mi = some T2 → c' ∈ k9 mi → c'.1 < 60 → sx_Holds g z9 hd_C T2 c') {σ : am_S} {lw : List (Nat × Value)} {post : Option (Option Value) → am_S → Prop} (hM : sx_M z9 hd_C σ 0 0 σ) (hl : (0, Value.ref 12) ∈ lw) (hlr1 : (1, Value.ref 3) ∈ lw) {m2 : Int32} (hl2 : (2, Value.int m2) ∈ lw) {n0 : Int32} {n1 : Int32} (cuta : ∀ (lw' : List (Nat × Value)) (n0' : Int32) (n1' : Int32) (n2' : Int32) (σ' : am_S), (0, Value.ref 12) ∈ lw' → (1, Value.ref 3) ∈ lw' → (0 ≤ 1 * m2.toInt + ((-1) * n0'.toInt + 0) ∧ 1 * m2.toInt + ((-1) * n0'.toInt + 0) ≤ 0) → (0 ≤ 1 * n0.toInt + ((-1) * n1'.toInt + 0) ∧ 1 * n0.toInt + ((-1) * n1'.toInt + 0) ≤ 0) → (0 ≤ 1 * n1.toInt + ((-1) * n2'.toInt + 0) ∧ 1 * n1.toInt + ((-1) * n2'.toInt + 0) ≤ 0) → sx_M z9 hd_C σ 0 0 σ' → am_K g 30 tX9_readSetting.1 0 0 51 lw' [.int n0', .retAddr 3, .int n1', .ref 3, .int n2', .ref 19] σ' post) : am_K g 30 tX9_readSetting.1 0 0 47 lw [.int n0, .ref 3, .int n1, .ref 19] σ post := by
  refine sg_seg (sw := [.int n0, .ref 3, .int n1, .ref 19]) (vs := [m2.toInt]) (ws := [n0.toInt, n1.toInt]) G (mi := 303) rfl hct sg_rt5b_ok ⟨⟨m2, hl2, rfl⟩, trivial⟩ (hd_rfc hl (hd_rfc hlr1 hd_rfn)) ⟨⟨n0, rfl, rfl⟩, ⟨rfl, ⟨⟨n1, rfl, rfl⟩, ⟨rfl, trivial⟩⟩⟩⟩ (hd_p1 rfl (Int32.le_toInt _) (Int32.toInt_le _) (hd_p1 rfl (Int32.le_toInt _) (Int32.toInt_le _) (hd_p1 rfl (Int32.le_toInt _) (Int32.toInt_le _) hd_p0))) hM ?_ ?_
  · intro r σ' hq
    cases r with
    | none => exact hq.elim
    | some v =>
      obtain ⟨p, hp, hM2, ks, hk, hv⟩ := hq
      cases hp
  · intro u hu
    simp only [List.mem_cons, List.not_mem_nil, or_false] at hu
    rcases hu with rfl
    · intro lw' sw' vs' ws' σ' ⟨h1_0, h2, h3_0, h4, h5⟩
      obtain rfl := hd_src0 h1_0
      obtain ⟨n0', sw1, ws1, rfl, rfl, h3_1⟩ := hd_sti h3_0
      obtain ⟨sw2, rfl, h3_2⟩ := hd_strx h3_1
      obtain ⟨n1', sw3, ws3, rfl, rfl, h3_3⟩ := hd_sti h3_2
      obtain ⟨sw4, rfl, h3_4⟩ := hd_str h3_3
      obtain ⟨n2', sw5, ws5, rfl, rfl, h3_5⟩ := hd_sti h3_4
      obtain ⟨sw6, rfl, h3_6⟩ := hd_str h3_5
      obtain ⟨rfl, rfl⟩ := hd_st0 h3_6
      have hr9_0 := hd_rfh h2
      have hr9_1 := hd_rfh (hd_rfT h2)
      obtain ⟨v0, e0, l0, u0⟩ := h4 _ (List.mem_cons_self)
      have g0 : 1 * m2.toInt + ((-1) * n0'.toInt + 0) = v0 := Option.some.inj e0
      obtain ⟨v1, e1, l1, u1⟩ := h4 _ (List.mem_cons_of_mem _ (List.mem_cons_self))
      have g1 : 1 * n0.toInt + ((-1) * n1'.toInt + 0) = v1 := Option.some.inj e1
      obtain ⟨v2, e2, l2, u2⟩ := h4 _ (List.mem_cons_of_mem _ (List.mem_cons_of_mem _ (List.mem_cons_self)))
      have g2 : 1 * n1.toInt + ((-1) * n2'.toInt + 0) = v2 := Option.some.inj e2
      exact cuta _ _ _ _ _ hr9_0 hr9_1  ⟨by rw [g0]; exact l0, by rw [g0]; exact u0⟩ ⟨by rw [g1]; exact l1, by rw [g1]; exact u1⟩ ⟨by rw [g2]; exact l2, by rw [g2]; exact u2⟩ h5
theorem sg_rt6_run (G : sx_G0 g L xs z9 hd_C ex_mt) (hct : ∀ (mi : Nat) (T2 : ex_T) (c' : sx_Ct), ex_mt mi = some T2 → c' ∈ k9 mi → c'.1 < 60 → sx_Holds g z9 hd_C T2 c') {σ : am_S} {lw : List (Nat × Value)} {post : Option (Option Value) → am_S → Prop} (hM : sx_M z9 hd_C σ 0 0 σ) (hl : (0, Value.ref 12) ∈ lw) (hlr1 : (1, Value.ref 3) ∈ lw) {n0 : Int32} (bk0 : 0 ≤ n0.toInt ∧ n0.toInt ≤ 1) (ret0 : ∀ (r : Int32) (σ' : am_S), (0 ≤ 1 * n0.toInt + ((-1) * r.toInt + 0) ∧ 1 * n0.toInt + ((-1) * r.toInt + 0) ≤ 0) → sx_M z9 hd_C σ 0 0 σ' → post (some (some (.int r))) σ') : am_K g 30 tX9_readSetting.1 0 0 57 lw [.int n0] σ post := by
  refine sg_seg (sw := [.int n0]) (vs := []) (ws := [n0.toInt]) G (mi := 303) rfl hct sg_rt6_ok trivial (hd_rfc hl (hd_rfc hlr1 hd_rfn)) ⟨⟨n0, rfl, rfl⟩, trivial⟩ (hd_p1 rfl bk0.1 bk0.2 hd_p0) hM ?_ ?_
  · intro r σ' hq
    cases r with
    | none => exact hq.elim
    | some v =>
      obtain ⟨p, hp, hM2, ks, hk, hv⟩ := hq
      simp only [List.mem_cons, List.not_mem_nil, or_false] at hp
      rcases hp with rfl
      · obtain rfl := hd_keys hk
        cases v with
        | none => exact hv.elim
        | some w9 =>
          obtain ⟨r, rfl, hP⟩ := hv
          obtain ⟨v0, e0, l0, u0⟩ := hP _ (List.mem_cons_self)
          have g0 : 1 * n0.toInt + ((-1) * r.toInt + 0) = v0 := Option.some.inj e0
          exact ret0 r _ ⟨by rw [g0]; exact l0, by rw [g0]; exact u0⟩ hM2
  · intro u hu
    cases hu
theorem sg_rl1_run (G : sx_G0 g L xs z9 hd_C ex_mt) (hct : ∀ (mi : Nat) (T2 : ex_T) (c' : sx_Ct), ex_mt mi = some T2 → c' ∈ k9 mi → c'.1 < 60 → sx_Holds g z9 hd_C T2 c') {σ : am_S} {lw : List (Nat × Value)} {post : Option (Option Value) → am_S → Prop} (hM : sx_M z9 hd_C σ 0 0 σ) (hl : (0, Value.ref 12) ∈ lw) (hlr1 : (1, Value.ref 3) ∈ lw)  (cuta : ∀ (lw' : List (Nat × Value))  (σ' : am_S), (0, Value.ref 12) ∈ lw' → (1, Value.ref 3) ∈ lw' → sx_M z9 hd_C σ 0 0 σ' → am_K g 40 tX9_readLine.1 0 0 3 lw' [.retAddr 18087, .ref 3] σ' post) : am_K g 40 tX9_readLine.1 0 0 0 lw [] σ post := by
  refine sg_seg (sw := []) (vs := []) (ws := []) G (mi := 302) rfl hct sg_rl1_ok trivial (hd_rfc hl (hd_rfc hlr1 hd_rfn)) trivial hd_p0 hM ?_ ?_
  · intro r σ' hq
    cases r with
    | none => exact hq.elim
    | some v =>
      obtain ⟨p, hp, hM2, ks, hk, hv⟩ := hq
      cases hp
  · intro u hu
    simp only [List.mem_cons, List.not_mem_nil, or_false] at hu
    rcases hu with rfl
    · intro lw' sw' vs' ws' σ' ⟨h1_0, h2, h3_0, h4, h5⟩
      obtain rfl := hd_src0 h1_0
      obtain ⟨sw1, rfl, h3_1⟩ := hd_strx h3_0
      obtain ⟨sw2, rfl, h3_2⟩ := hd_str h3_1
      obtain ⟨rfl, rfl⟩ := hd_st0 h3_2
      have hr9_0 := hd_rfh h2
      have hr9_1 := hd_rfh (hd_rfT h2)
      exact cuta _  _ hr9_0 hr9_1   h5
theorem sg_rl2a_run (G : sx_G0 g L xs z9 hd_C ex_mt) (hct : ∀ (mi : Nat) (T2 : ex_T) (c' : sx_Ct), ex_mt mi = some T2 → c' ∈ k9 mi → c'.1 < 60 → sx_Holds g z9 hd_C T2 c') {σ : am_S} {lw : List (Nat × Value)} {post : Option (Option Value) → am_S → Prop} (hM : sx_M z9 hd_C σ 0 0 σ) (hl : (0, Value.ref 12) ∈ lw) (hlr1 : (1, Value.ref 3) ∈ lw) {n0 : Int32} (bk0 : 8 ≤ n0.toInt ∧ n0.toInt ≤ 8) (cuta : ∀ (lw' : List (Nat × Value))  (σ' : am_S), (0, Value.ref 12) ∈ lw' → (1, Value.ref 3) ∈ lw' → sx_M z9 hd_C σ 0 0 σ' → am_K g 40 tX9_readLine.1 0 0 15 lw' [.ref 3, .ref 12] σ' post) : am_K g 40 tX9_readLine.1 0 0 6 lw [.int n0] σ post := by
  refine sg_seg (sw := [.int n0]) (vs := []) (ws := [n0.toInt]) G (mi := 302) rfl hct sg_rl2a_ok trivial (hd_rfc hl (hd_rfc hlr1 hd_rfn)) ⟨⟨n0, rfl, rfl⟩, trivial⟩ (hd_p1 rfl bk0.1 bk0.2 hd_p0) hM ?_ ?_
  · intro r σ' hq
    cases r with
    | none => exact hq.elim
    | some v =>
      obtain ⟨p, hp, hM2, ks, hk, hv⟩ := hq
      cases hp
  · intro u hu
    simp only [List.mem_cons, List.not_mem_nil, or_false] at hu
    rcases hu with rfl
    · intro lw' sw' vs' ws' σ' ⟨h1_0, h2, h3_0, h4, h5⟩
      obtain rfl := hd_src0 h1_0
      obtain ⟨sw1, rfl, h3_1⟩ := hd_str h3_0
      obtain ⟨sw2, rfl, h3_2⟩ := hd_str h3_1
      obtain ⟨rfl, rfl⟩ := hd_st0 h3_2
      have hr9_0 := hd_rfh h2
      have hr9_1 := hd_rfh (hd_rfT h2)
      exact cuta _  _ hr9_0 hr9_1   h5
theorem sg_rl2b_run (G : sx_G0 g L xs z9 hd_C ex_mt) (hct : ∀ (mi : Nat) (T2 : ex_T) (c' : sx_Ct), ex_mt mi = some T2 → c' ∈ k9 mi → c'.1 < 60 → sx_Holds g z9 hd_C T2 c') {σ : am_S} {lw : List (Nat × Value)} {post : Option (Option Value) → am_S → Prop} (hM : sx_M z9 hd_C σ 0 0 σ) (hl : (0, Value.ref 12) ∈ lw) (hlr1 : (1, Value.ref 3) ∈ lw) {n0 : Int32} (bk0 : 9 ≤ n0.toInt ∧ n0.toInt ≤ 9) (cuta : ∀ (lw' : List (Nat × Value))  (σ' : am_S), (0, Value.ref 12) ∈ lw' → (1, Value.ref 3) ∈ lw' → sx_M z9 hd_C σ 0 0 σ' → am_K g 40 tX9_readLine.1 0 0 27 lw' [.ref 3, .ref 12] σ' post) : am_K g 40 tX9_readLine.1 0 0 6 lw [.int n0] σ post := by
  refine sg_seg (sw := [.int n0]) (vs := []) (ws := [n0.toInt]) G (mi := 302) rfl hct sg_rl2b_ok trivial (hd_rfc hl (hd_rfc hlr1 hd_rfn)) ⟨⟨n0, rfl, rfl⟩, trivial⟩ (hd_p1 rfl bk0.1 bk0.2 hd_p0) hM ?_ ?_
  · intro r σ' hq
    cases r with
    | none => exact hq.elim
    | some v =>
      obtain ⟨p, hp, hM2, ks, hk, hv⟩ := hq
      cases hp
  · intro u hu
    simp only [List.mem_cons, List.not_mem_nil, or_false] at hu
    rcases hu with rfl
    · intro lw' sw' vs' ws' σ' ⟨h1_0, h2, h3_0, h4, h5⟩
      obtain rfl := hd_src0 h1_0
      obtain ⟨sw1, rfl, h3_1⟩ := hd_str h3_0
      obtain ⟨sw2, rfl, h3_2⟩ := hd_str h3_1
      obtain ⟨rfl, rfl⟩ := hd_st0 h3_2
      have hr9_0 := hd_rfh h2
      have hr9_1 := hd_rfh (hd_rfT h2)
      exact cuta _  _ hr9_0 hr9_1   h5
theorem sg_rl2c_run (G : sx_G0 g L xs z9 hd_C ex_mt) (hct : ∀ (mi : Nat) (T2 : ex_T) (c' : sx_Ct), ex_mt mi = some T2 → c' ∈ k9 mi → c'.1 < 60 → sx_Holds g z9 hd_C T2 c') {σ : am_S} {lw : List (Nat × Value)} {post : Option (Option Value) → am_S → Prop} (hM : sx_M z9 hd_C σ 0 0 σ) (hl : (0, Value.ref 12) ∈ lw) (hlr1 : (1, Value.ref 3) ∈ lw) {n0 : Int32} (bk0 : (-1) ≤ n0.toInt ∧ n0.toInt ≤ (-1)) (ret0 : ∀ (r : Int32) (σ' : am_S), (0 ≤ 1 * r.toInt + 0 ∧ 1 * r.toInt + 0 ≤ 0) → (1 ≤ 1 * (σ'.2.1 3 7).toInt + 0 ∧ 1 * (σ'.2.1 3 7).toInt + 0 ≤ 1) → (0 ≤ 1 * (σ.2.1 3 4).toInt + ((-1) * (σ'.2.1 3 8).toInt + 0) ∧ 1 * (σ.2.1 3 4).toInt + ((-1) * (σ'.2.1 3 8).toInt + 0) ≤ 0) → sx_M z9 hd_C σ 402653184 0 σ' → post (some (some (.int r))) σ') : am_K g 40 tX9_readLine.1 0 0 6 lw [.int n0] σ post := by
  refine sg_seg (sw := [.int n0]) (vs := [(σ.2.1 3 4).toInt]) (ws := [n0.toInt]) G (mi := 302) rfl hct sg_rl2c_ok ⟨rfl, trivial⟩ (hd_rfc hl (hd_rfc hlr1 hd_rfn)) ⟨⟨n0, rfl, rfl⟩, trivial⟩ (hd_p1 rfl (hd_kd_3_4 hM).1 (hd_kd_3_4 hM).2 (hd_p1 rfl bk0.1 bk0.2 hd_p0)) hM ?_ ?_
  · intro r σ' hq
    cases r with
    | none => exact hq.elim
    | some v =>
      obtain ⟨p, hp, hM2, ks, hk, hv⟩ := hq
      simp only [List.mem_cons, List.not_mem_nil, or_false] at hp
      rcases hp with rfl
      · obtain ⟨ks0, rfl, hk1⟩ := hd_keyc hk; obtain ⟨ks1, rfl, hk2⟩ := hd_keyc hk1; obtain rfl := hd_keys hk2
        cases v with
        | none => exact hv.elim
        | some w9 =>
          obtain ⟨r, rfl, hP⟩ := hv
          obtain ⟨v0, e0, l0, u0⟩ := hP _ (List.mem_cons_self)
          have g0 : 1 * r.toInt + 0 = v0 := Option.some.inj e0
          obtain ⟨v1, e1, l1, u1⟩ := hP _ (List.mem_cons_of_mem _ (List.mem_cons_self))
          have g1 : 1 * (σ'.2.1 3 7).toInt + 0 = v1 := Option.some.inj e1
          obtain ⟨v2, e2, l2, u2⟩ := hP _ (List.mem_cons_of_mem _ (List.mem_cons_of_mem _ (List.mem_cons_self)))
          have g2 : 1 * (σ.2.1 3 4).toInt + ((-1) * (σ'.2.1 3 8).toInt + 0) = v2 := Option.some.inj e2
          exact ret0 r _ ⟨by rw [g0]; exact l0, by rw [g0]; exact u0⟩ ⟨by rw [g1]; exact l1, by rw [g1]; exact u1⟩ ⟨by rw [g2]; exact l2, by rw [g2]; exact u2⟩ hM2
  · intro u hu
    cases hu
theorem sg_rl2d_run (G : sx_G0 g L xs z9 hd_C ex_mt) (hct : ∀ (mi : Nat) (T2 : ex_T) (c' : sx_Ct), ex_mt mi = some T2 → c' ∈ k9 mi → c'.1 < 60 → sx_Holds g z9 hd_C T2 c') {σ : am_S} {lw : List (Nat × Value)} {post : Option (Option Value) → am_S → Prop} (hM : sx_M z9 hd_C σ 0 0 σ) (hl : (0, Value.ref 12) ∈ lw) (hlr1 : (1, Value.ref 3) ∈ lw) {n0 : Int32} (bk0 : 0 ≤ n0.toInt ∧ n0.toInt ≤ 7) (cuta : ∀ (lw' : List (Nat × Value)) (n0' : Int32) (σ' : am_S), (0, Value.ref 12) ∈ lw' → (1, Value.ref 3) ∈ lw' → (0 ≤ 1 * n0.toInt + ((-1) * n0'.toInt + 0) ∧ 1 * n0.toInt + ((-1) * n0'.toInt + 0) ≤ 0) → sx_M z9 hd_C σ 0 0 σ' → am_K g 40 tX9_readLine.1 0 0 47 lw' [.int n0', .ref 3, .ref 12] σ' post) : am_K g 40 tX9_readLine.1 0 0 6 lw [.int n0] σ post := by
  refine sg_seg (sw := [.int n0]) (vs := []) (ws := [n0.toInt]) G (mi := 302) rfl hct sg_rl2d_ok trivial (hd_rfc hl (hd_rfc hlr1 hd_rfn)) ⟨⟨n0, rfl, rfl⟩, trivial⟩ (hd_p1 rfl bk0.1 bk0.2 hd_p0) hM ?_ ?_
  · intro r σ' hq
    cases r with
    | none => exact hq.elim
    | some v =>
      obtain ⟨p, hp, hM2, ks, hk, hv⟩ := hq
      cases hp
  · intro u hu
    simp only [List.mem_cons, List.not_mem_nil, or_false] at hu
    rcases hu with rfl
    · intro lw' sw' vs' ws' σ' ⟨h1_0, h2, h3_0, h4, h5⟩
      obtain rfl := hd_src0 h1_0
      obtain ⟨n0', sw1, ws1, rfl, rfl, h3_1⟩ := hd_sti h3_0
      obtain ⟨sw2, rfl, h3_2⟩ := hd_str h3_1
      obtain ⟨sw3, rfl, h3_3⟩ := hd_str h3_2
      obtain ⟨rfl, rfl⟩ := hd_st0 h3_3
      have hr9_0 := hd_rfh h2
      have hr9_1 := hd_rfh (hd_rfT h2)
      obtain ⟨v0, e0, l0, u0⟩ := h4 _ (List.mem_cons_self)
      have g0 : 1 * n0.toInt + ((-1) * n0'.toInt + 0) = v0 := Option.some.inj e0
      exact cuta _ _ _ hr9_0 hr9_1  ⟨by rw [g0]; exact l0, by rw [g0]; exact u0⟩ h5
theorem sg_rl3_run (G : sx_G0 g L xs z9 hd_C ex_mt) (hct : ∀ (mi : Nat) (T2 : ex_T) (c' : sx_Ct), ex_mt mi = some T2 → c' ∈ k9 mi → c'.1 < 60 → sx_Holds g z9 hd_C T2 c') {σ : am_S} {lw : List (Nat × Value)} {post : Option (Option Value) → am_S → Prop} (hM : sx_M z9 hd_C σ 0 0 σ) (hl : (0, Value.ref 12) ∈ lw) (hlr1 : (1, Value.ref 3) ∈ lw) {n0 : Int32} (bk0 : 0 ≤ n0.toInt ∧ n0.toInt ≤ 1) (ret0 : ∀ (r : Int32) (σ' : am_S), (0 ≤ 1 * n0.toInt + ((-1) * r.toInt + 0) ∧ 1 * n0.toInt + ((-1) * r.toInt + 0) ≤ 0) → sx_M z9 hd_C σ 0 0 σ' → post (some (some (.int r))) σ') : am_K g 40 tX9_readLine.1 0 0 18 lw [.int n0] σ post := by
  refine sg_seg (sw := [.int n0]) (vs := []) (ws := [n0.toInt]) G (mi := 302) rfl hct sg_rl3_ok trivial (hd_rfc hl (hd_rfc hlr1 hd_rfn)) ⟨⟨n0, rfl, rfl⟩, trivial⟩ (hd_p1 rfl bk0.1 bk0.2 hd_p0) hM ?_ ?_
  · intro r σ' hq
    cases r with
    | none => exact hq.elim
    | some v =>
      obtain ⟨p, hp, hM2, ks, hk, hv⟩ := hq
      simp only [List.mem_cons, List.not_mem_nil, or_false] at hp
      rcases hp with rfl
      · obtain rfl := hd_keys hk
        cases v with
        | none => exact hv.elim
        | some w9 =>
          obtain ⟨r, rfl, hP⟩ := hv
          obtain ⟨v0, e0, l0, u0⟩ := hP _ (List.mem_cons_self)
          have g0 : 1 * n0.toInt + ((-1) * r.toInt + 0) = v0 := Option.some.inj e0
          exact ret0 r _ ⟨by rw [g0]; exact l0, by rw [g0]; exact u0⟩ hM2
  · intro u hu
    cases hu
theorem sg_rl4_run (G : sx_G0 g L xs z9 hd_C ex_mt) (hct : ∀ (mi : Nat) (T2 : ex_T) (c' : sx_Ct), ex_mt mi = some T2 → c' ∈ k9 mi → c'.1 < 60 → sx_Holds g z9 hd_C T2 c') {σ : am_S} {lw : List (Nat × Value)} {post : Option (Option Value) → am_S → Prop} (hM : sx_M z9 hd_C σ 0 0 σ) (hl : (0, Value.ref 12) ∈ lw) (hlr1 : (1, Value.ref 3) ∈ lw) {n0 : Int32} (bk0 : 0 ≤ n0.toInt ∧ n0.toInt ≤ 1) (ret0 : ∀ (r : Int32) (σ' : am_S), (0 ≤ 1 * n0.toInt + ((-1) * r.toInt + 0) ∧ 1 * n0.toInt + ((-1) * r.toInt + 0) ≤ 0) → sx_M z9 hd_C σ 0 0 σ' → post (some (some (.int r))) σ') : am_K g 40 tX9_readLine.1 0 0 30 lw [.int n0] σ post := by
  refine sg_seg (sw := [.int n0]) (vs := []) (ws := [n0.toInt]) G (mi := 302) rfl hct sg_rl4_ok trivial (hd_rfc hl (hd_rfc hlr1 hd_rfn)) ⟨⟨n0, rfl, rfl⟩, trivial⟩ (hd_p1 rfl bk0.1 bk0.2 hd_p0) hM ?_ ?_
  · intro r σ' hq
    cases r with
    | none => exact hq.elim
    | some v =>
      obtain ⟨p, hp, hM2, ks, hk, hv⟩ := hq
      simp only [List.mem_cons, List.not_mem_nil, or_false] at hp
      rcases hp with rfl
      · obtain rfl := hd_keys hk
        cases v with
        | none => exact hv.elim
        | some w9 =>
          obtain ⟨r, rfl, hP⟩ := hv
          obtain ⟨v0, e0, l0, u0⟩ := hP _ (List.mem_cons_self)
          have g0 : 1 * n0.toInt + ((-1) * r.toInt + 0) = v0 := Option.some.inj e0
          exact ret0 r _ ⟨by rw [g0]; exact l0, by rw [g0]; exact u0⟩ hM2
  · intro u hu
    cases hu
theorem sg_rl5_run (G : sx_G0 g L xs z9 hd_C ex_mt) (hct : ∀ (mi : Nat) (T2 : ex_T) (c' : sx_Ct), ex_mt mi = some T2 → c' ∈ k9 mi → c'.1 < 60 → sx_Holds g z9 hd_C T2 c') {σ : am_S} {lw : List (Nat × Value)} {post : Option (Option Value) → am_S → Prop} (hM : sx_M z9 hd_C σ 0 0 σ) (hl : (0, Value.ref 12) ∈ lw) (hlr1 : (1, Value.ref 3) ∈ lw) {n0 : Int32} (bk0 : 0 ≤ n0.toInt ∧ n0.toInt ≤ 1) (ret0 : ∀ (r : Int32) (σ' : am_S), (0 ≤ 1 * n0.toInt + ((-1) * r.toInt + 0) ∧ 1 * n0.toInt + ((-1) * r.toInt + 0) ≤ 0) → sx_M z9 hd_C σ 0 0 σ' → post (some (some (.int r))) σ') : am_K g 40 tX9_readLine.1 0 0 50 lw [.int n0] σ post := by
  refine sg_seg (sw := [.int n0]) (vs := []) (ws := [n0.toInt]) G (mi := 302) rfl hct sg_rl5_ok trivial (hd_rfc hl (hd_rfc hlr1 hd_rfn)) ⟨⟨n0, rfl, rfl⟩, trivial⟩ (hd_p1 rfl bk0.1 bk0.2 hd_p0) hM ?_ ?_
  · intro r σ' hq
    cases r with
    | none => exact hq.elim
    | some v =>
      obtain ⟨p, hp, hM2, ks, hk, hv⟩ := hq
      simp only [List.mem_cons, List.not_mem_nil, or_false] at hp
      rcases hp with rfl
      · obtain rfl := hd_keys hk
        cases v with
        | none => exact hv.elim
        | some w9 =>
          obtain ⟨r, rfl, hP⟩ := hv
          obtain ⟨v0, e0, l0, u0⟩ := hP _ (List.mem_cons_self)
          have g0 : 1 * n0.toInt + ((-1) * r.toInt + 0) = v0 := Option.some.inj e0
          exact ret0 r _ ⟨by rw [g0]; exact l0, by rw [g0]; exact u0⟩ hM2
  · intro u hu
    cases hu
theorem sg_rf1_run (G : sx_G0 g L xs z9 hd_C ex_mt) (hct : ∀ (mi : Nat) (T2 : ex_T) (c' : sx_Ct), ex_mt mi = some T2 → c' ∈ k9 mi → c'.1 < 60 → sx_Holds g z9 hd_C T2 c') {σ : am_S} {lw : List (Nat × Value)} {post : Option (Option Value) → am_S → Prop} (hM : sx_M z9 hd_C σ 0 0 σ) (hl : (0, Value.ref 12) ∈ lw) (hlr1 : (1, Value.ref 3) ∈ lw)  (cuta : ∀ (lw' : List (Nat × Value))  (σ' : am_S), (0, Value.ref 12) ∈ lw' → (1, Value.ref 3) ∈ lw' → sx_M z9 hd_C σ 0 0 σ' → am_K g 50 tX9_readFrom.1 0 0 1 lw' [.ref 12] σ' post) : am_K g 50 tX9_readFrom.1 0 0 0 lw [] σ post := by
  refine sg_seg (sw := []) (vs := []) (ws := []) G (mi := 300) rfl hct sg_rf1_ok trivial (hd_rfc hl (hd_rfc hlr1 hd_rfn)) trivial hd_p0 hM ?_ ?_
  · intro r σ' hq
    cases r with
    | none => exact hq.elim
    | some v =>
      obtain ⟨p, hp, hM2, ks, hk, hv⟩ := hq
      cases hp
  · intro u hu
    simp only [List.mem_cons, List.not_mem_nil, or_false] at hu
    rcases hu with rfl
    · intro lw' sw' vs' ws' σ' ⟨h1_0, h2, h3_0, h4, h5⟩
      obtain rfl := hd_src0 h1_0
      obtain ⟨sw1, rfl, h3_1⟩ := hd_str h3_0
      obtain ⟨rfl, rfl⟩ := hd_st0 h3_1
      have hr9_0 := hd_rfh h2
      have hr9_1 := hd_rfh (hd_rfT h2)
      exact cuta _  _ hr9_0 hr9_1   h5
theorem sg_cr1_run (G : sx_G0 g L xs z9 hd_C ex_mt) (hct : ∀ (mi : Nat) (T2 : ex_T) (c' : sx_Ct), ex_mt mi = some T2 → c' ∈ k9 mi → c'.1 < 60 → sx_Holds g z9 hd_C T2 c') {σ : am_S} {lw : List (Nat × Value)} {post : Option (Option Value) → am_S → Prop} (hM : sx_M z9 hd_C σ 0 0 σ) (hl : (0, Value.retAddr 1) ∈ lw) (hlr1 : (1, Value.ref 19) ∈ lw)  (cuta : ∀ (lw' : List (Nat × Value)) (m2' : Int32) (m3' : Int32) (σ' : am_S), (0, Value.retAddr 1) ∈ lw' → (1, Value.ref 19) ∈ lw' → (2, Value.int m2') ∈ lw' → (3, Value.int m3') ∈ lw' → (8 ≤ 1 * m2'.toInt + 0 ∧ 1 * m2'.toInt + 0 ≤ 8) → (0 ≤ 1 * m3'.toInt + 0 ∧ 1 * m3'.toInt + 0 ≤ 0) → sx_M z9 hd_C σ 0 0 σ' → am_K g 15 tX11_copyRow.1 0 0 10 lw' [] σ' post) : am_K g 15 tX11_copyRow.1 0 0 0 lw [] σ post := by
  refine sg_seg (sw := []) (vs := []) (ws := []) G (mi := 25) rfl hct sg_cr1_ok trivial (hd_rfcx hl (hd_rfc hlr1 hd_rfn)) trivial hd_p0 hM ?_ ?_
  · intro r σ' hq
    cases r with
    | none => exact hq.elim
    | some v =>
      obtain ⟨p, hp, hM2, ks, hk, hv⟩ := hq
      cases hp
  · intro u hu
    simp only [List.mem_cons, List.not_mem_nil, or_false] at hu
    rcases hu with rfl
    · intro lw' sw' vs' ws' σ' ⟨h1_0, h2, h3_0, h4, h5⟩
      obtain ⟨m2', vs1, rfl, hm2, h1_1⟩ := hd_srcl h1_0
      obtain ⟨m3', vs2, rfl, hm3, h1_2⟩ := hd_srcl h1_1
      obtain rfl := hd_src0 h1_2
      obtain ⟨rfl, rfl⟩ := hd_st0 h3_0
      have hr9_0 := hd_rfhx h2
      have hr9_1 := hd_rfh (hd_rfT h2)
      obtain ⟨v0, e0, l0, u0⟩ := h4 _ (List.mem_cons_self)
      have g0 : 1 * m2'.toInt + 0 = v0 := Option.some.inj e0
      obtain ⟨v1, e1, l1, u1⟩ := h4 _ (List.mem_cons_of_mem _ (List.mem_cons_self))
      have g1 : 1 * m3'.toInt + 0 = v1 := Option.some.inj e1
      exact cuta _ _ _ _ hr9_0 hr9_1 hm2 hm3 ⟨by rw [g0]; exact l0, by rw [g0]; exact u0⟩ ⟨by rw [g1]; exact l1, by rw [g1]; exact u1⟩ h5
theorem sg_cr2_run (G : sx_G0 g L xs z9 hd_C ex_mt) (hct : ∀ (mi : Nat) (T2 : ex_T) (c' : sx_Ct), ex_mt mi = some T2 → c' ∈ k9 mi → c'.1 < 60 → sx_Holds g z9 hd_C T2 c') {σ : am_S} {lw : List (Nat × Value)} {post : Option (Option Value) → am_S → Prop} (hM : sx_M z9 hd_C σ 0 0 σ) (hl : (0, Value.retAddr 1) ∈ lw) (hlr1 : (1, Value.ref 19) ∈ lw) {m2 : Int32} (hl2 : (2, Value.int m2) ∈ lw) (bl2 : 8 ≤ m2.toInt ∧ m2.toInt ≤ 8) {m3 : Int32} (hl3 : (3, Value.int m3) ∈ lw) (bl3 : 0 ≤ m3.toInt ∧ m3.toInt ≤ 7) (cuta : ∀ (lw' : List (Nat × Value)) (m2' : Int32) (m3' : Int32) (n0' : Int32) (n1' : Int32) (σ' : am_S), (0, Value.retAddr 1) ∈ lw' → (1, Value.ref 19) ∈ lw' → (2, Value.int m2') ∈ lw' → (3, Value.int m3') ∈ lw' → (0 ≤ 1 * m3.toInt + ((-1) * n0'.toInt + 0) ∧ 1 * m3.toInt + ((-1) * n0'.toInt + 0) ≤ 0) → (0 ≤ 1 * m3.toInt + ((-1) * n1'.toInt + 0) ∧ 1 * m3.toInt + ((-1) * n1'.toInt + 0) ≤ 0) → (0 ≤ 1 * m2.toInt + ((-1) * m2'.toInt + 0) ∧ 1 * m2.toInt + ((-1) * m2'.toInt + 0) ≤ 0) → (0 ≤ 1 * m3.toInt + ((-1) * m3'.toInt + 0) ∧ 1 * m3.toInt + ((-1) * m3'.toInt + 0) ≤ 0) → sx_M z9 hd_C σ 0 0 σ' → am_K g 15 tX11_copyRow.1 0 0 19 lw' [.int n0', .retAddr 1, .int n1', .ref 19] σ' post) : am_K g 15 tX11_copyRow.1 0 0 10 lw [] σ post := by
  refine sg_seg (sw := []) (vs := [m2.toInt, m3.toInt]) (ws := []) G (mi := 25) rfl hct sg_cr2_ok ⟨⟨m2, hl2, rfl⟩, ⟨⟨m3, hl3, rfl⟩, trivial⟩⟩ (hd_rfcx hl (hd_rfc hlr1 hd_rfn)) trivial (hd_p1 rfl bl2.1 bl2.2 (hd_p1 rfl bl3.1 bl3.2 hd_p0)) hM ?_ ?_
  · intro r σ' hq
    cases r with
    | none => exact hq.elim
    | some v =>
      obtain ⟨p, hp, hM2, ks, hk, hv⟩ := hq
      cases hp
  · intro u hu
    simp only [List.mem_cons, List.not_mem_nil, or_false] at hu
    rcases hu with rfl
    · intro lw' sw' vs' ws' σ' ⟨h1_0, h2, h3_0, h4, h5⟩
      obtain ⟨m2', vs1, rfl, hm2, h1_1⟩ := hd_srcl h1_0
      obtain ⟨m3', vs2, rfl, hm3, h1_2⟩ := hd_srcl h1_1
      obtain rfl := hd_src0 h1_2
      obtain ⟨n0', sw1, ws1, rfl, rfl, h3_1⟩ := hd_sti h3_0
      obtain ⟨sw2, rfl, h3_2⟩ := hd_strx h3_1
      obtain ⟨n1', sw3, ws3, rfl, rfl, h3_3⟩ := hd_sti h3_2
      obtain ⟨sw4, rfl, h3_4⟩ := hd_str h3_3
      obtain ⟨rfl, rfl⟩ := hd_st0 h3_4
      have hr9_0 := hd_rfhx h2
      have hr9_1 := hd_rfh (hd_rfT h2)
      obtain ⟨v0, e0, l0, u0⟩ := h4 _ (List.mem_cons_self)
      have g0 : 1 * m3.toInt + ((-1) * n0'.toInt + 0) = v0 := Option.some.inj e0
      obtain ⟨v1, e1, l1, u1⟩ := h4 _ (List.mem_cons_of_mem _ (List.mem_cons_self))
      have g1 : 1 * m3.toInt + ((-1) * n1'.toInt + 0) = v1 := Option.some.inj e1
      obtain ⟨v2, e2, l2, u2⟩ := h4 _ (List.mem_cons_of_mem _ (List.mem_cons_of_mem _ (List.mem_cons_self)))
      have g2 : 1 * m2.toInt + ((-1) * m2'.toInt + 0) = v2 := Option.some.inj e2
      obtain ⟨v3, e3, l3, u3⟩ := h4 _ (List.mem_cons_of_mem _ (List.mem_cons_of_mem _ (List.mem_cons_of_mem _ (List.mem_cons_self))))
      have g3 : 1 * m3.toInt + ((-1) * m3'.toInt + 0) = v3 := Option.some.inj e3
      exact cuta _ _ _ _ _ _ hr9_0 hr9_1 hm2 hm3 ⟨by rw [g0]; exact l0, by rw [g0]; exact u0⟩ ⟨by rw [g1]; exact l1, by rw [g1]; exact u1⟩ ⟨by rw [g2]; exact l2, by rw [g2]; exact u2⟩ ⟨by rw [g3]; exact l3, by rw [g3]; exact u3⟩ h5
theorem sg_cr3_run (G : sx_G0 g L xs z9 hd_C ex_mt) (hct : ∀ (mi : Nat) (T2 : ex_T) (c' : sx_Ct), ex_mt mi = some T2 → c' ∈ k9 mi → c'.1 < 60 → sx_Holds g z9 hd_C T2 c') {σ : am_S} {lw : List (Nat × Value)} {post : Option (Option Value) → am_S → Prop} (hM : sx_M z9 hd_C σ 0 0 σ) (hl : (0, Value.retAddr 1) ∈ lw) (hlr1 : (1, Value.ref 19) ∈ lw) {m2 : Int32} (hl2 : (2, Value.int m2) ∈ lw) (bl2 : 8 ≤ m2.toInt ∧ m2.toInt ≤ 8) {m3 : Int32} (hl3 : (3, Value.int m3) ∈ lw) (bl3 : 0 ≤ m3.toInt ∧ m3.toInt ≤ 7) (cuta : ∀ (lw' : List (Nat × Value)) (m2' : Int32) (m3' : Int32) (σ' : am_S), (0, Value.retAddr 1) ∈ lw' → (1, Value.ref 19) ∈ lw' → (2, Value.int m2') ∈ lw' → (3, Value.int m3') ∈ lw' → (0 ≤ 1 * m2.toInt + ((-1) * m2'.toInt + 0) ∧ 1 * m2.toInt + ((-1) * m2'.toInt + 0) ≤ 0) → ((-1) ≤ 1 * m3.toInt + ((-1) * m3'.toInt + 0) ∧ 1 * m3.toInt + ((-1) * m3'.toInt + 0) ≤ (-1)) → sx_M z9 hd_C σ 0 0 σ' → am_K g 15 tX11_copyRow.1 0 0 10 lw' [] σ' post) : am_K g 15 tX11_copyRow.1 0 0 21 lw [] σ post := by
  refine sg_seg (sw := []) (vs := [m2.toInt, m3.toInt]) (ws := []) G (mi := 25) rfl hct sg_cr3_ok ⟨⟨m2, hl2, rfl⟩, ⟨⟨m3, hl3, rfl⟩, trivial⟩⟩ (hd_rfcx hl (hd_rfc hlr1 hd_rfn)) trivial (hd_p1 rfl bl2.1 bl2.2 (hd_p1 rfl bl3.1 bl3.2 hd_p0)) hM ?_ ?_
  · intro r σ' hq
    cases r with
    | none => exact hq.elim
    | some v =>
      obtain ⟨p, hp, hM2, ks, hk, hv⟩ := hq
      cases hp
  · intro u hu
    simp only [List.mem_cons, List.not_mem_nil, or_false] at hu
    rcases hu with rfl
    · intro lw' sw' vs' ws' σ' ⟨h1_0, h2, h3_0, h4, h5⟩
      obtain ⟨m2', vs1, rfl, hm2, h1_1⟩ := hd_srcl h1_0
      obtain ⟨m3', vs2, rfl, hm3, h1_2⟩ := hd_srcl h1_1
      obtain rfl := hd_src0 h1_2
      obtain ⟨rfl, rfl⟩ := hd_st0 h3_0
      have hr9_0 := hd_rfhx h2
      have hr9_1 := hd_rfh (hd_rfT h2)
      obtain ⟨v0, e0, l0, u0⟩ := h4 _ (List.mem_cons_self)
      have g0 : 1 * m2.toInt + ((-1) * m2'.toInt + 0) = v0 := Option.some.inj e0
      obtain ⟨v1, e1, l1, u1⟩ := h4 _ (List.mem_cons_of_mem _ (List.mem_cons_self))
      have g1 : 1 * m3.toInt + ((-1) * m3'.toInt + 0) = v1 := Option.some.inj e1
      exact cuta _ _ _ _ hr9_0 hr9_1 hm2 hm3 ⟨by rw [g0]; exact l0, by rw [g0]; exact u0⟩ ⟨by rw [g1]; exact l1, by rw [g1]; exact u1⟩ h5
theorem sg_cr4_run (G : sx_G0 g L xs z9 hd_C ex_mt) (hct : ∀ (mi : Nat) (T2 : ex_T) (c' : sx_Ct), ex_mt mi = some T2 → c' ∈ k9 mi → c'.1 < 60 → sx_Holds g z9 hd_C T2 c') {σ : am_S} {lw : List (Nat × Value)} {post : Option (Option Value) → am_S → Prop} (hM : sx_M z9 hd_C σ 0 0 σ) (hl : (0, Value.retAddr 1) ∈ lw) (hlr1 : (1, Value.ref 19) ∈ lw) {m2 : Int32} (hl2 : (2, Value.int m2) ∈ lw) (bl2 : 8 ≤ m2.toInt ∧ m2.toInt ≤ 8) {m3 : Int32} (hl3 : (3, Value.int m3) ∈ lw) (bl3 : 8 ≤ m3.toInt ∧ m3.toInt ≤ 8) (ret0 : ∀ (σ' : am_S), sx_M z9 hd_C σ 0 0 σ' → post (some none) σ') : am_K g 15 tX11_copyRow.1 0 0 10 lw [] σ post := by
  refine sg_seg (sw := []) (vs := [m2.toInt, m3.toInt]) (ws := []) G (mi := 25) rfl hct sg_cr4_ok ⟨⟨m2, hl2, rfl⟩, ⟨⟨m3, hl3, rfl⟩, trivial⟩⟩ (hd_rfcx hl (hd_rfc hlr1 hd_rfn)) trivial (hd_p1 rfl bl2.1 bl2.2 (hd_p1 rfl bl3.1 bl3.2 hd_p0)) hM ?_ ?_
  · intro r σ' hq
    cases r with
    | none => exact hq.elim
    | some v =>
      obtain ⟨p, hp, hM2, ks, hk, hv⟩ := hq
      simp only [List.mem_cons, List.not_mem_nil, or_false] at hp
      rcases hp with rfl
      · obtain rfl := hd_keys hk
        cases v with
        | some w9 => exact hv.elim
        | none =>
          have hP := hv
          exact ret0 _  hM2
  · intro u hu
    cases hu
theorem sg_cl1_run (G : sx_G0 g L xs z9 hd_C ex_mt) (hct : ∀ (mi : Nat) (T2 : ex_T) (c' : sx_Ct), ex_mt mi = some T2 → c' ∈ k9 mi → c'.1 < 60 → sx_Holds g z9 hd_C T2 c') {σ : am_S} {lw : List (Nat × Value)} {post : Option (Option Value) → am_S → Prop} (hM : sx_M z9 hd_C σ 0 0 σ) (hl : (0, Value.ref 12) ∈ lw)  (cuta : ∀ (lw' : List (Nat × Value))  (σ' : am_S), (0, Value.ref 12) ∈ lw' → (0 ≤ 1 * (σ'.2.1 12 7).toInt + 0 ∧ 1 * (σ'.2.1 12 7).toInt + 0 ≤ 0) → (0 ≤ 1 * (σ'.2.1 12 8).toInt + 0 ∧ 1 * (σ'.2.1 12 8).toInt + 0 ≤ 0) → (0 ≤ 1 * (σ'.2.1 12 9).toInt + 0 ∧ 1 * (σ'.2.1 12 9).toInt + 0 ≤ 0) → (0 ≤ 1 * (σ'.2.1 12 10).toInt + 0 ∧ 1 * (σ'.2.1 12 10).toInt + 0 ≤ 0) → sx_M z9 hd_C σ 270215977642229760 0 σ' → am_K g 20 tX9_clear.1 0 0 27 lw' [.ref 19, .retAddr 1] σ' post) : am_K g 20 tX9_clear.1 0 0 0 lw [] σ post := by
  refine sg_seg (sw := []) (vs := []) (ws := []) G (mi := 289) rfl hct sg_cl1_ok trivial (hd_refs hl) trivial hd_p0 hM ?_ ?_
  · intro r σ' hq
    cases r with
    | none => exact hq.elim
    | some v =>
      obtain ⟨p, hp, hM2, ks, hk, hv⟩ := hq
      cases hp
  · intro u hu
    simp only [List.mem_cons, List.not_mem_nil, or_false] at hu
    rcases hu with rfl
    · intro lw' sw' vs' ws' σ' ⟨h1_0, h2, h3_0, h4, h5⟩
      obtain ⟨vs1, rfl, h1_1⟩ := hd_srcs h1_0
      obtain ⟨vs2, rfl, h1_2⟩ := hd_srcs h1_1
      obtain ⟨vs3, rfl, h1_3⟩ := hd_srcs h1_2
      obtain ⟨vs4, rfl, h1_4⟩ := hd_srcs h1_3
      obtain rfl := hd_src0 h1_4
      obtain ⟨sw1, rfl, h3_1⟩ := hd_str h3_0
      obtain ⟨sw2, rfl, h3_2⟩ := hd_strx h3_1
      obtain ⟨rfl, rfl⟩ := hd_st0 h3_2
      have hr9 := hd_ref0 h2
      obtain ⟨v0, e0, l0, u0⟩ := h4 _ (List.mem_cons_self)
      have g0 : 1 * (σ'.2.1 12 7).toInt + 0 = v0 := Option.some.inj e0
      obtain ⟨v1, e1, l1, u1⟩ := h4 _ (List.mem_cons_of_mem _ (List.mem_cons_self))
      have g1 : 1 * (σ'.2.1 12 8).toInt + 0 = v1 := Option.some.inj e1
      obtain ⟨v2, e2, l2, u2⟩ := h4 _ (List.mem_cons_of_mem _ (List.mem_cons_of_mem _ (List.mem_cons_self)))
      have g2 : 1 * (σ'.2.1 12 9).toInt + 0 = v2 := Option.some.inj e2
      obtain ⟨v3, e3, l3, u3⟩ := h4 _ (List.mem_cons_of_mem _ (List.mem_cons_of_mem _ (List.mem_cons_of_mem _ (List.mem_cons_self))))
      have g3 : 1 * (σ'.2.1 12 10).toInt + 0 = v3 := Option.some.inj e3
      exact cuta _  _ hr9  ⟨by rw [g0]; exact l0, by rw [g0]; exact u0⟩ ⟨by rw [g1]; exact l1, by rw [g1]; exact u1⟩ ⟨by rw [g2]; exact l2, by rw [g2]; exact u2⟩ ⟨by rw [g3]; exact l3, by rw [g3]; exact u3⟩ h5
theorem sg_cl2_run (G : sx_G0 g L xs z9 hd_C ex_mt) (hct : ∀ (mi : Nat) (T2 : ex_T) (c' : sx_Ct), ex_mt mi = some T2 → c' ∈ k9 mi → c'.1 < 60 → sx_Holds g z9 hd_C T2 c') {σ : am_S} {lw : List (Nat × Value)} {post : Option (Option Value) → am_S → Prop} (hM : sx_M z9 hd_C σ 0 0 σ) (hl : (0, Value.ref 12) ∈ lw)  (ret0 : ∀ (σ' : am_S), sx_M z9 hd_C σ 0 0 σ' → post (some none) σ') : am_K g 20 tX9_clear.1 0 0 30 lw [] σ post := by
  refine sg_seg (sw := []) (vs := []) (ws := []) G (mi := 289) rfl hct sg_cl2_ok trivial (hd_refs hl) trivial hd_p0 hM ?_ ?_
  · intro r σ' hq
    cases r with
    | none => exact hq.elim
    | some v =>
      obtain ⟨p, hp, hM2, ks, hk, hv⟩ := hq
      simp only [List.mem_cons, List.not_mem_nil, or_false] at hp
      rcases hp with rfl
      · obtain rfl := hd_keys hk
        cases v with
        | some w9 => exact hv.elim
        | none =>
          have hP := hv
          exact ret0 _  hM2
  · intro u hu
    cases hu
theorem sg_rf2a_run (G : sx_G0 g L xs z9 hd_C ex_mt) (hct : ∀ (mi : Nat) (T2 : ex_T) (c' : sx_Ct), ex_mt mi = some T2 → c' ∈ k9 mi → c'.1 < 60 → sx_Holds g z9 hd_C T2 c') {σ : am_S} {lw : List (Nat × Value)} {post : Option (Option Value) → am_S → Prop} (hM : sx_M z9 hd_C σ 0 0 σ) (hl : (0, Value.ref 12) ∈ lw) (hlr1 : (1, Value.ref 3) ∈ lw) (bp12_9 : 0 ≤ (σ.2.1 12 9).toInt ∧ (σ.2.1 12 9).toInt ≤ 899) (bp3_3 : 0 ≤ (σ.2.1 3 3).toInt ∧ (σ.2.1 3 3).toInt ≤ 0) (cuta : ∀ (lw' : List (Nat × Value))  (σ' : am_S), (0, Value.ref 12) ∈ lw' → (1, Value.ref 3) ∈ lw' → sx_M z9 hd_C σ 0 0 σ' → am_K g 50 tX9_readFrom.1 0 0 53 lw' [] σ' post) : am_K g 50 tX9_readFrom.1 0 0 4 lw [] σ post := by
  refine sg_seg (sw := []) (vs := [(σ.2.1 12 9).toInt, (σ.2.1 3 3).toInt]) (ws := []) G (mi := 300) rfl hct sg_rf2a_ok ⟨rfl, ⟨rfl, trivial⟩⟩ (hd_rfc hl (hd_rfc hlr1 hd_rfn)) trivial (hd_p1 rfl bp12_9.1 bp12_9.2 (hd_p1 rfl bp3_3.1 bp3_3.2 hd_p0)) hM ?_ ?_
  · intro r σ' hq
    cases r with
    | none => exact hq.elim
    | some v =>
      obtain ⟨p, hp, hM2, ks, hk, hv⟩ := hq
      cases hp
  · intro u hu
    simp only [List.mem_cons, List.not_mem_nil, or_false] at hu
    rcases hu with rfl
    · intro lw' sw' vs' ws' σ' ⟨h1_0, h2, h3_0, h4, h5⟩
      obtain rfl := hd_src0 h1_0
      obtain ⟨rfl, rfl⟩ := hd_st0 h3_0
      have hr9_0 := hd_rfh h2
      have hr9_1 := hd_rfh (hd_rfT h2)
      exact cuta _  _ hr9_0 hr9_1   h5
theorem sg_rf2b_run (G : sx_G0 g L xs z9 hd_C ex_mt) (hct : ∀ (mi : Nat) (T2 : ex_T) (c' : sx_Ct), ex_mt mi = some T2 → c' ∈ k9 mi → c'.1 < 60 → sx_Holds g z9 hd_C T2 c') {σ : am_S} {lw : List (Nat × Value)} {post : Option (Option Value) → am_S → Prop} (hM : sx_M z9 hd_C σ 0 0 σ) (hl : (0, Value.ref 12) ∈ lw) (hlr1 : (1, Value.ref 3) ∈ lw) (bp12_9 : 0 ≤ (σ.2.1 12 9).toInt ∧ (σ.2.1 12 9).toInt ≤ 899) (bp3_3 : 1 ≤ (σ.2.1 3 3).toInt ∧ (σ.2.1 3 3).toInt ≤ 4) (cuta : ∀ (lw' : List (Nat × Value))  (σ' : am_S), (0, Value.ref 12) ∈ lw' → (1, Value.ref 3) ∈ lw' → sx_M z9 hd_C σ 0 0 σ' → am_K g 50 tX9_readFrom.1 0 0 23 lw' [.ref 3, .ref 12] σ' post) : am_K g 50 tX9_readFrom.1 0 0 4 lw [] σ post := by
  refine sg_seg (sw := []) (vs := [(σ.2.1 12 9).toInt, (σ.2.1 3 3).toInt]) (ws := []) G (mi := 300) rfl hct sg_rf2b_ok ⟨rfl, ⟨rfl, trivial⟩⟩ (hd_rfc hl (hd_rfc hlr1 hd_rfn)) trivial (hd_p1 rfl bp12_9.1 bp12_9.2 (hd_p1 rfl bp3_3.1 bp3_3.2 hd_p0)) hM ?_ ?_
  · intro r σ' hq
    cases r with
    | none => exact hq.elim
    | some v =>
      obtain ⟨p, hp, hM2, ks, hk, hv⟩ := hq
      cases hp
  · intro u hu
    simp only [List.mem_cons, List.not_mem_nil, or_false] at hu
    rcases hu with rfl
    · intro lw' sw' vs' ws' σ' ⟨h1_0, h2, h3_0, h4, h5⟩
      obtain rfl := hd_src0 h1_0
      obtain ⟨sw1, rfl, h3_1⟩ := hd_str h3_0
      obtain ⟨sw2, rfl, h3_2⟩ := hd_str h3_1
      obtain ⟨rfl, rfl⟩ := hd_st0 h3_2
      have hr9_0 := hd_rfh h2
      have hr9_1 := hd_rfh (hd_rfT h2)
      exact cuta _  _ hr9_0 hr9_1   h5
theorem sg_rf2c_run (G : sx_G0 g L xs z9 hd_C ex_mt) (hct : ∀ (mi : Nat) (T2 : ex_T) (c' : sx_Ct), ex_mt mi = some T2 → c' ∈ k9 mi → c'.1 < 60 → sx_Holds g z9 hd_C T2 c') {σ : am_S} {lw : List (Nat × Value)} {post : Option (Option Value) → am_S → Prop} (hM : sx_M z9 hd_C σ 0 0 σ) (hl : (0, Value.ref 12) ∈ lw) (hlr1 : (1, Value.ref 3) ∈ lw) (bp12_9 : 900 ≤ (σ.2.1 12 9).toInt ∧ (σ.2.1 12 9).toInt ≤ 2147483647) (cuta : ∀ (lw' : List (Nat × Value))  (σ' : am_S), (0, Value.ref 12) ∈ lw' → (1, Value.ref 3) ∈ lw' → sx_M z9 hd_C σ 0 0 σ' → am_K g 50 tX9_readFrom.1 0 0 53 lw' [] σ' post) : am_K g 50 tX9_readFrom.1 0 0 4 lw [] σ post := by
  refine sg_seg (sw := []) (vs := [(σ.2.1 12 9).toInt]) (ws := []) G (mi := 300) rfl hct sg_rf2c_ok ⟨rfl, trivial⟩ (hd_rfc hl (hd_rfc hlr1 hd_rfn)) trivial (hd_p1 rfl bp12_9.1 bp12_9.2 hd_p0) hM ?_ ?_
  · intro r σ' hq
    cases r with
    | none => exact hq.elim
    | some v =>
      obtain ⟨p, hp, hM2, ks, hk, hv⟩ := hq
      cases hp
  · intro u hu
    simp only [List.mem_cons, List.not_mem_nil, or_false] at hu
    rcases hu with rfl
    · intro lw' sw' vs' ws' σ' ⟨h1_0, h2, h3_0, h4, h5⟩
      obtain rfl := hd_src0 h1_0
      obtain ⟨rfl, rfl⟩ := hd_st0 h3_0
      have hr9_0 := hd_rfh h2
      have hr9_1 := hd_rfh (hd_rfT h2)
      exact cuta _  _ hr9_0 hr9_1   h5
theorem sg_rf3a_run (G : sx_G0 g L xs z9 hd_C ex_mt) (hct : ∀ (mi : Nat) (T2 : ex_T) (c' : sx_Ct), ex_mt mi = some T2 → c' ∈ k9 mi → c'.1 < 60 → sx_Holds g z9 hd_C T2 c') {σ : am_S} {lw : List (Nat × Value)} {post : Option (Option Value) → am_S → Prop} (hM : sx_M z9 hd_C σ 0 0 σ) (hl : (0, Value.ref 12) ∈ lw) (hlr1 : (1, Value.ref 3) ∈ lw) {n0 : Int32} (bk0 : 0 ≤ n0.toInt ∧ n0.toInt ≤ 0) (ret0 : ∀ (r : Int32) (σ' : am_S), (0 ≤ 1 * r.toInt + 0 ∧ 1 * r.toInt + 0 ≤ 0) → sx_M z9 hd_C σ 0 0 σ' → post (some (some (.int r))) σ') : am_K g 50 tX9_readFrom.1 0 0 26 lw [.int n0] σ post := by
  refine sg_seg (sw := [.int n0]) (vs := []) (ws := [n0.toInt]) G (mi := 300) rfl hct sg_rf3a_ok trivial (hd_rfc hl (hd_rfc hlr1 hd_rfn)) ⟨⟨n0, rfl, rfl⟩, trivial⟩ (hd_p1 rfl bk0.1 bk0.2 hd_p0) hM ?_ ?_
  · intro r σ' hq
    cases r with
    | none => exact hq.elim
    | some v =>
      obtain ⟨p, hp, hM2, ks, hk, hv⟩ := hq
      simp only [List.mem_cons, List.not_mem_nil, or_false] at hp
      rcases hp with rfl
      · obtain rfl := hd_keys hk
        cases v with
        | none => exact hv.elim
        | some w9 =>
          obtain ⟨r, rfl, hP⟩ := hv
          obtain ⟨v0, e0, l0, u0⟩ := hP _ (List.mem_cons_self)
          have g0 : 1 * r.toInt + 0 = v0 := Option.some.inj e0
          exact ret0 r _ ⟨by rw [g0]; exact l0, by rw [g0]; exact u0⟩ hM2
  · intro u hu
    cases hu
theorem sg_rf3b_run (G : sx_G0 g L xs z9 hd_C ex_mt) (hct : ∀ (mi : Nat) (T2 : ex_T) (c' : sx_Ct), ex_mt mi = some T2 → c' ∈ k9 mi → c'.1 < 60 → sx_Holds g z9 hd_C T2 c') {σ : am_S} {lw : List (Nat × Value)} {post : Option (Option Value) → am_S → Prop} (hM : sx_M z9 hd_C σ 0 0 σ) (hl : (0, Value.ref 12) ∈ lw) (hlr1 : (1, Value.ref 3) ∈ lw) {n0 : Int32} (bk0 : 1 ≤ n0.toInt ∧ n0.toInt ≤ 1) (cuta : ∀ (lw' : List (Nat × Value)) (n0' : Int32) (σ' : am_S), (0, Value.ref 12) ∈ lw' → (1, Value.ref 3) ∈ lw' → (59 ≤ 1 * n0'.toInt + 0 ∧ 1 * n0'.toInt + 0 ≤ 59) → sx_M z9 hd_C σ 0 0 σ' → am_K g 50 tX9_readFrom.1 0 0 32 lw' [.int n0', .ref 3] σ' post) : am_K g 50 tX9_readFrom.1 0 0 26 lw [.int n0] σ post := by
  refine sg_seg (sw := [.int n0]) (vs := []) (ws := [n0.toInt]) G (mi := 300) rfl hct sg_rf3b_ok trivial (hd_rfc hl (hd_rfc hlr1 hd_rfn)) ⟨⟨n0, rfl, rfl⟩, trivial⟩ (hd_p1 rfl bk0.1 bk0.2 hd_p0) hM ?_ ?_
  · intro r σ' hq
    cases r with
    | none => exact hq.elim
    | some v =>
      obtain ⟨p, hp, hM2, ks, hk, hv⟩ := hq
      cases hp
  · intro u hu
    simp only [List.mem_cons, List.not_mem_nil, or_false] at hu
    rcases hu with rfl
    · intro lw' sw' vs' ws' σ' ⟨h1_0, h2, h3_0, h4, h5⟩
      obtain rfl := hd_src0 h1_0
      obtain ⟨n0', sw1, ws1, rfl, rfl, h3_1⟩ := hd_sti h3_0
      obtain ⟨sw2, rfl, h3_2⟩ := hd_str h3_1
      obtain ⟨rfl, rfl⟩ := hd_st0 h3_2
      have hr9_0 := hd_rfh h2
      have hr9_1 := hd_rfh (hd_rfT h2)
      obtain ⟨v0, e0, l0, u0⟩ := h4 _ (List.mem_cons_self)
      have g0 : 1 * n0'.toInt + 0 = v0 := Option.some.inj e0
      exact cuta _ _ _ hr9_0 hr9_1  ⟨by rw [g0]; exact l0, by rw [g0]; exact u0⟩ h5
theorem sg_rf4a_run (G : sx_G0 g L xs z9 hd_C ex_mt) (hct : ∀ (mi : Nat) (T2 : ex_T) (c' : sx_Ct), ex_mt mi = some T2 → c' ∈ k9 mi → c'.1 < 60 → sx_Holds g z9 hd_C T2 c') {σ : am_S} {lw : List (Nat × Value)} {post : Option (Option Value) → am_S → Prop} (hM : sx_M z9 hd_C σ 0 0 σ) (hl : (0, Value.ref 12) ∈ lw) (hlr1 : (1, Value.ref 3) ∈ lw) {n0 : Int32} (bk0 : 0 ≤ n0.toInt ∧ n0.toInt ≤ 0) (ret0 : ∀ (r : Int32) (σ' : am_S), (0 ≤ 1 * r.toInt + 0 ∧ 1 * r.toInt + 0 ≤ 0) → sx_M z9 hd_C σ 0 0 σ' → post (some (some (.int r))) σ') : am_K g 50 tX9_readFrom.1 0 0 35 lw [.int n0] σ post := by
  refine sg_seg (sw := [.int n0]) (vs := []) (ws := [n0.toInt]) G (mi := 300) rfl hct sg_rf4a_ok trivial (hd_rfc hl (hd_rfc hlr1 hd_rfn)) ⟨⟨n0, rfl, rfl⟩, trivial⟩ (hd_p1 rfl bk0.1 bk0.2 hd_p0) hM ?_ ?_
  · intro r σ' hq
    cases r with
    | none => exact hq.elim
    | some v =>
      obtain ⟨p, hp, hM2, ks, hk, hv⟩ := hq
      simp only [List.mem_cons, List.not_mem_nil, or_false] at hp
      rcases hp with rfl
      · obtain rfl := hd_keys hk
        cases v with
        | none => exact hv.elim
        | some w9 =>
          obtain ⟨r, rfl, hP⟩ := hv
          obtain ⟨v0, e0, l0, u0⟩ := hP _ (List.mem_cons_self)
          have g0 : 1 * r.toInt + 0 = v0 := Option.some.inj e0
          exact ret0 r _ ⟨by rw [g0]; exact l0, by rw [g0]; exact u0⟩ hM2
  · intro u hu
    cases hu
theorem sg_rf4b_run (G : sx_G0 g L xs z9 hd_C ex_mt) (hct : ∀ (mi : Nat) (T2 : ex_T) (c' : sx_Ct), ex_mt mi = some T2 → c' ∈ k9 mi → c'.1 < 60 → sx_Holds g z9 hd_C T2 c') {σ : am_S} {lw : List (Nat × Value)} {post : Option (Option Value) → am_S → Prop} (hM : sx_M z9 hd_C σ 0 0 σ) (hl : (0, Value.ref 12) ∈ lw) (hlr1 : (1, Value.ref 3) ∈ lw) (bp12_9 : 0 ≤ (σ.2.1 12 9).toInt ∧ (σ.2.1 12 9).toInt ≤ 899) {n0 : Int32} (bk0 : 1 ≤ n0.toInt ∧ n0.toInt ≤ 1) (cuta : ∀ (lw' : List (Nat × Value))  (σ' : am_S), (0, Value.ref 12) ∈ lw' → (1, Value.ref 3) ∈ lw' → ((-1) ≤ 1 * (σ.2.1 12 9).toInt + ((-1) * (σ'.2.1 12 9).toInt + 0) ∧ 1 * (σ.2.1 12 9).toInt + ((-1) * (σ'.2.1 12 9).toInt + 0) ≤ (-1)) → sx_M z9 hd_C σ 72057594037927936 0 σ' → am_K g 50 tX9_readFrom.1 0 0 4 lw' [] σ' post) : am_K g 50 tX9_readFrom.1 0 0 35 lw [.int n0] σ post := by
  refine sg_seg (sw := [.int n0]) (vs := [(σ.2.1 12 9).toInt]) (ws := [n0.toInt]) G (mi := 300) rfl hct sg_rf4b_ok ⟨rfl, trivial⟩ (hd_rfc hl (hd_rfc hlr1 hd_rfn)) ⟨⟨n0, rfl, rfl⟩, trivial⟩ (hd_p1 rfl bp12_9.1 bp12_9.2 (hd_p1 rfl bk0.1 bk0.2 hd_p0)) hM ?_ ?_
  · intro r σ' hq
    cases r with
    | none => exact hq.elim
    | some v =>
      obtain ⟨p, hp, hM2, ks, hk, hv⟩ := hq
      cases hp
  · intro u hu
    simp only [List.mem_cons, List.not_mem_nil, or_false] at hu
    rcases hu with rfl
    · intro lw' sw' vs' ws' σ' ⟨h1_0, h2, h3_0, h4, h5⟩
      obtain ⟨vs1, rfl, h1_1⟩ := hd_srcs h1_0
      obtain rfl := hd_src0 h1_1
      obtain ⟨rfl, rfl⟩ := hd_st0 h3_0
      have hr9_0 := hd_rfh h2
      have hr9_1 := hd_rfh (hd_rfT h2)
      obtain ⟨v0, e0, l0, u0⟩ := h4 _ (List.mem_cons_self)
      have g0 : 1 * (σ.2.1 12 9).toInt + ((-1) * (σ'.2.1 12 9).toInt + 0) = v0 := Option.some.inj e0
      exact cuta _  _ hr9_0 hr9_1  ⟨by rw [g0]; exact l0, by rw [g0]; exact u0⟩ h5
theorem sg_rf5a_run (G : sx_G0 g L xs z9 hd_C ex_mt) (hct : ∀ (mi : Nat) (T2 : ex_T) (c' : sx_Ct), ex_mt mi = some T2 → c' ∈ k9 mi → c'.1 < 60 → sx_Holds g z9 hd_C T2 c') {σ : am_S} {lw : List (Nat × Value)} {post : Option (Option Value) → am_S → Prop} (hM : sx_M z9 hd_C σ 0 0 σ) (hl : (0, Value.ref 12) ∈ lw) (hlr1 : (1, Value.ref 3) ∈ lw) (bp12_8 : 0 ≤ (σ.2.1 12 8).toInt ∧ (σ.2.1 12 8).toInt ≤ 0) (ret0 : ∀ (r : Int32) (σ' : am_S), (1 ≤ 1 * r.toInt + 0 ∧ 1 * r.toInt + 0 ≤ 1) → (1 ≤ 1 * (σ'.2.1 12 8).toInt + 0 ∧ 1 * (σ'.2.1 12 8).toInt + 0 ≤ 1) → (10 ≤ 1 * (σ'.2.1 17 0).toInt + 0 ∧ 1 * (σ'.2.1 17 0).toInt + 0 ≤ 10) → (1 ≤ 1 * (σ'.2.1 18 0).toInt + 0 ∧ 1 * (σ'.2.1 18 0).toInt + 0 ≤ 1) → sx_M z9 hd_C σ 13871086852301127680 0 σ' → post (some (some (.int r))) σ') : am_K g 50 tX9_readFrom.1 0 0 53 lw [] σ post := by
  refine sg_seg (sw := []) (vs := [(σ.2.1 12 8).toInt]) (ws := []) G (mi := 300) rfl hct sg_rf5a_ok ⟨rfl, trivial⟩ (hd_rfc hl (hd_rfc hlr1 hd_rfn)) trivial (hd_p1 rfl bp12_8.1 bp12_8.2 hd_p0) hM ?_ ?_
  · intro r σ' hq
    cases r with
    | none => exact hq.elim
    | some v =>
      obtain ⟨p, hp, hM2, ks, hk, hv⟩ := hq
      simp only [List.mem_cons, List.not_mem_nil, or_false] at hp
      rcases hp with rfl
      · obtain ⟨ks0, rfl, hk1⟩ := hd_keyc hk; obtain ⟨ks1, rfl, hk2⟩ := hd_keyc hk1; obtain ⟨ks2, rfl, hk3⟩ := hd_keyc hk2; obtain rfl := hd_keys hk3
        cases v with
        | none => exact hv.elim
        | some w9 =>
          obtain ⟨r, rfl, hP⟩ := hv
          obtain ⟨v0, e0, l0, u0⟩ := hP _ (List.mem_cons_self)
          have g0 : 1 * r.toInt + 0 = v0 := Option.some.inj e0
          obtain ⟨v1, e1, l1, u1⟩ := hP _ (List.mem_cons_of_mem _ (List.mem_cons_self))
          have g1 : 1 * (σ'.2.1 12 8).toInt + 0 = v1 := Option.some.inj e1
          obtain ⟨v2, e2, l2, u2⟩ := hP _ (List.mem_cons_of_mem _ (List.mem_cons_of_mem _ (List.mem_cons_self)))
          have g2 : 1 * (σ'.2.1 17 0).toInt + 0 = v2 := Option.some.inj e2
          obtain ⟨v3, e3, l3, u3⟩ := hP _ (List.mem_cons_of_mem _ (List.mem_cons_of_mem _ (List.mem_cons_of_mem _ (List.mem_cons_self))))
          have g3 : 1 * (σ'.2.1 18 0).toInt + 0 = v3 := Option.some.inj e3
          exact ret0 r _ ⟨by rw [g0]; exact l0, by rw [g0]; exact u0⟩ ⟨by rw [g1]; exact l1, by rw [g1]; exact u1⟩ ⟨by rw [g2]; exact l2, by rw [g2]; exact u2⟩ ⟨by rw [g3]; exact l3, by rw [g3]; exact u3⟩ hM2
  · intro u hu
    cases hu
theorem sg_rf5b_run (G : sx_G0 g L xs z9 hd_C ex_mt) (hct : ∀ (mi : Nat) (T2 : ex_T) (c' : sx_Ct), ex_mt mi = some T2 → c' ∈ k9 mi → c'.1 < 60 → sx_Holds g z9 hd_C T2 c') {σ : am_S} {lw : List (Nat × Value)} {post : Option (Option Value) → am_S → Prop} (hM : sx_M z9 hd_C σ 0 0 σ) (hl : (0, Value.ref 12) ∈ lw) (hlr1 : (1, Value.ref 3) ∈ lw) (bp12_8 : 1 ≤ (σ.2.1 12 8).toInt ∧ (σ.2.1 12 8).toInt ≤ 6) (ret0 : ∀ (r : Int32) (σ' : am_S), (1 ≤ 1 * r.toInt + 0 ∧ 1 * r.toInt + 0 ≤ 1) → sx_M z9 hd_C σ 0 0 σ' → post (some (some (.int r))) σ') : am_K g 50 tX9_readFrom.1 0 0 53 lw [] σ post := by
  refine sg_seg (sw := []) (vs := [(σ.2.1 12 8).toInt]) (ws := []) G (mi := 300) rfl hct sg_rf5b_ok ⟨rfl, trivial⟩ (hd_rfc hl (hd_rfc hlr1 hd_rfn)) trivial (hd_p1 rfl bp12_8.1 bp12_8.2 hd_p0) hM ?_ ?_
  · intro r σ' hq
    cases r with
    | none => exact hq.elim
    | some v =>
      obtain ⟨p, hp, hM2, ks, hk, hv⟩ := hq
      simp only [List.mem_cons, List.not_mem_nil, or_false] at hp
      rcases hp with rfl
      · obtain rfl := hd_keys hk
        cases v with
        | none => exact hv.elim
        | some w9 =>
          obtain ⟨r, rfl, hP⟩ := hv
          obtain ⟨v0, e0, l0, u0⟩ := hP _ (List.mem_cons_self)
          have g0 : 1 * r.toInt + 0 = v0 := Option.some.inj e0
          exact ret0 r _ ⟨by rw [g0]; exact l0, by rw [g0]; exact u0⟩ hM2
  · intro u hu
    cases hu
theorem sg_wo1a_run (G : sx_G0 g L xs z9 hd_C ex_mt) (hct : ∀ (mi : Nat) (T2 : ex_T) (c' : sx_Ct), ex_mt mi = some T2 → c' ∈ k9 mi → c'.1 < 60 → sx_Holds g z9 hd_C T2 c') {σ : am_S} {lw : List (Nat × Value)} {post : Option (Option Value) → am_S → Prop} (hM : sx_M z9 hd_C σ 0 0 σ) (hl : (0, Value.ref 3) ∈ lw) (hlr1 : (1, Value.retAddr 18087) ∈ lw) (bp3_3 : (-2147483648) ≤ (σ.2.1 3 3).toInt ∧ (σ.2.1 3 3).toInt ≤ 1) (ret0 : ∀ (r : Int32) (σ' : am_S), ((-1) ≤ 1 * r.toInt + 0 ∧ 1 * r.toInt + 0 ≤ (-1)) → sx_M z9 hd_C σ 0 0 σ' → post (some (some (.int r))) σ') : am_K g 15 tX6_wordOf.1 0 0 0 lw [] σ post := by
  refine sg_seg (sw := []) (vs := [(σ.2.1 3 3).toInt]) (ws := []) G (mi := 252) rfl hct sg_wo1a_ok ⟨rfl, trivial⟩ (hd_rfc hl (hd_rfcx hlr1 hd_rfn)) trivial (hd_p1 rfl bp3_3.1 bp3_3.2 hd_p0) hM ?_ ?_
  · intro r σ' hq
    cases r with
    | none => exact hq.elim
    | some v =>
      obtain ⟨p, hp, hM2, ks, hk, hv⟩ := hq
      simp only [List.mem_cons, List.not_mem_nil, or_false] at hp
      rcases hp with rfl
      · obtain rfl := hd_keys hk
        cases v with
        | none => exact hv.elim
        | some w9 =>
          obtain ⟨r, rfl, hP⟩ := hv
          obtain ⟨v0, e0, l0, u0⟩ := hP _ (List.mem_cons_self)
          have g0 : 1 * r.toInt + 0 = v0 := Option.some.inj e0
          exact ret0 r _ ⟨by rw [g0]; exact l0, by rw [g0]; exact u0⟩ hM2
  · intro u hu
    cases hu
theorem sg_wo1b_run (G : sx_G0 g L xs z9 hd_C ex_mt) (hct : ∀ (mi : Nat) (T2 : ex_T) (c' : sx_Ct), ex_mt mi = some T2 → c' ∈ k9 mi → c'.1 < 60 → sx_Holds g z9 hd_C T2 c') {σ : am_S} {lw : List (Nat × Value)} {post : Option (Option Value) → am_S → Prop} (hM : sx_M z9 hd_C σ 0 0 σ) (hl : (0, Value.ref 3) ∈ lw) (hlr1 : (1, Value.retAddr 18087) ∈ lw) (bp3_3 : 3 ≤ (σ.2.1 3 3).toInt ∧ (σ.2.1 3 3).toInt ≤ 2147483647) (ret0 : ∀ (r : Int32) (σ' : am_S), ((-1) ≤ 1 * r.toInt + 0 ∧ 1 * r.toInt + 0 ≤ (-1)) → sx_M z9 hd_C σ 0 0 σ' → post (some (some (.int r))) σ') : am_K g 15 tX6_wordOf.1 0 0 0 lw [] σ post := by
  refine sg_seg (sw := []) (vs := [(σ.2.1 3 3).toInt]) (ws := []) G (mi := 252) rfl hct sg_wo1b_ok ⟨rfl, trivial⟩ (hd_rfc hl (hd_rfcx hlr1 hd_rfn)) trivial (hd_p1 rfl bp3_3.1 bp3_3.2 hd_p0) hM ?_ ?_
  · intro r σ' hq
    cases r with
    | none => exact hq.elim
    | some v =>
      obtain ⟨p, hp, hM2, ks, hk, hv⟩ := hq
      simp only [List.mem_cons, List.not_mem_nil, or_false] at hp
      rcases hp with rfl
      · obtain rfl := hd_keys hk
        cases v with
        | none => exact hv.elim
        | some w9 =>
          obtain ⟨r, rfl, hP⟩ := hv
          obtain ⟨v0, e0, l0, u0⟩ := hP _ (List.mem_cons_self)
          have g0 : 1 * r.toInt + 0 = v0 := Option.some.inj e0
          exact ret0 r _ ⟨by rw [g0]; exact l0, by rw [g0]; exact u0⟩ hM2
  · intro u hu
    cases hu
theorem sg_wo1c_run (G : sx_G0 g L xs z9 hd_C ex_mt) (hct : ∀ (mi : Nat) (T2 : ex_T) (c' : sx_Ct), ex_mt mi = some T2 → c' ∈ k9 mi → c'.1 < 60 → sx_Holds g z9 hd_C T2 c') {σ : am_S} {lw : List (Nat × Value)} {post : Option (Option Value) → am_S → Prop} (hM : sx_M z9 hd_C σ 0 0 σ) (hl : (0, Value.ref 3) ∈ lw) (hlr1 : (1, Value.retAddr 18087) ∈ lw) (bp3_3 : 2 ≤ (σ.2.1 3 3).toInt ∧ (σ.2.1 3 3).toInt ≤ 2) (cuta : ∀ (lw' : List (Nat × Value)) (m2' : Int32) (m3' : Int32) (m4' : Int32) (m5' : Int32) (n0' : Int32) (σ' : am_S), (0, Value.ref 3) ∈ lw' → (1, Value.retAddr 18087) ∈ lw' → (2, Value.int m2') ∈ lw' → (3, Value.int m3') ∈ lw' → (4, Value.int m4') ∈ lw' → (5, Value.int m5') ∈ lw' → (0 ≤ 1 * m2'.toInt + 0 ∧ 1 * m2'.toInt + 0 ≤ 0) → (0 ≤ 1 * m3'.toInt + 0 ∧ 1 * m3'.toInt + 0 ≤ 0) → (1 ≤ 1 * m4'.toInt + 0 ∧ 1 * m4'.toInt + 0 ≤ 1) → (0 ≤ 1 * m5'.toInt + 0 ∧ 1 * m5'.toInt + 0 ≤ 0) → (0 ≤ 1 * n0'.toInt + 0 ∧ 1 * n0'.toInt + 0 ≤ 0) → sx_M z9 hd_C σ 0 0 σ' → am_K g 15 tX6_wordOf.1 0 0 23 lw' [.retAddr 18087, .int n0'] σ' post) : am_K g 15 tX6_wordOf.1 0 0 0 lw [] σ post := by
  refine sg_seg (sw := []) (vs := [(σ.2.1 3 3).toInt]) (ws := []) G (mi := 252) rfl hct sg_wo1c_ok ⟨rfl, trivial⟩ (hd_rfc hl (hd_rfcx hlr1 hd_rfn)) trivial (hd_p1 rfl bp3_3.1 bp3_3.2 hd_p0) hM ?_ ?_
  · intro r σ' hq
    cases r with
    | none => exact hq.elim
    | some v =>
      obtain ⟨p, hp, hM2, ks, hk, hv⟩ := hq
      cases hp
  · intro u hu
    simp only [List.mem_cons, List.not_mem_nil, or_false] at hu
    rcases hu with rfl
    · intro lw' sw' vs' ws' σ' ⟨h1_0, h2, h3_0, h4, h5⟩
      obtain ⟨m2', vs1, rfl, hm2, h1_1⟩ := hd_srcl h1_0
      obtain ⟨m3', vs2, rfl, hm3, h1_2⟩ := hd_srcl h1_1
      obtain ⟨m4', vs3, rfl, hm4, h1_3⟩ := hd_srcl h1_2
      obtain ⟨m5', vs4, rfl, hm5, h1_4⟩ := hd_srcl h1_3
      obtain rfl := hd_src0 h1_4
      obtain ⟨sw1, rfl, h3_1⟩ := hd_strx h3_0
      obtain ⟨n0', sw2, ws2, rfl, rfl, h3_2⟩ := hd_sti h3_1
      obtain ⟨rfl, rfl⟩ := hd_st0 h3_2
      have hr9_0 := hd_rfh h2
      have hr9_1 := hd_rfhx (hd_rfT h2)
      obtain ⟨v0, e0, l0, u0⟩ := h4 _ (List.mem_cons_self)
      have g0 : 1 * m2'.toInt + 0 = v0 := Option.some.inj e0
      obtain ⟨v1, e1, l1, u1⟩ := h4 _ (List.mem_cons_of_mem _ (List.mem_cons_self))
      have g1 : 1 * m3'.toInt + 0 = v1 := Option.some.inj e1
      obtain ⟨v2, e2, l2, u2⟩ := h4 _ (List.mem_cons_of_mem _ (List.mem_cons_of_mem _ (List.mem_cons_self)))
      have g2 : 1 * m4'.toInt + 0 = v2 := Option.some.inj e2
      obtain ⟨v3, e3, l3, u3⟩ := h4 _ (List.mem_cons_of_mem _ (List.mem_cons_of_mem _ (List.mem_cons_of_mem _ (List.mem_cons_self))))
      have g3 : 1 * m5'.toInt + 0 = v3 := Option.some.inj e3
      obtain ⟨v4, e4, l4, u4⟩ := h4 _ (List.mem_cons_of_mem _ (List.mem_cons_of_mem _ (List.mem_cons_of_mem _ (List.mem_cons_of_mem _ (List.mem_cons_self)))))
      have g4 : 1 * n0'.toInt + 0 = v4 := Option.some.inj e4
      exact cuta _ _ _ _ _ _ _ hr9_0 hr9_1 hm2 hm3 hm4 hm5 ⟨by rw [g0]; exact l0, by rw [g0]; exact u0⟩ ⟨by rw [g1]; exact l1, by rw [g1]; exact u1⟩ ⟨by rw [g2]; exact l2, by rw [g2]; exact u2⟩ ⟨by rw [g3]; exact l3, by rw [g3]; exact u3⟩ ⟨by rw [g4]; exact l4, by rw [g4]; exact u4⟩ h5
end HR
