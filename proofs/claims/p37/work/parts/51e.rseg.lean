/-! segments of the readers (written by a program) -/
def sg_wo2a : sg_Cu := (26, 0, [(0, .inr (some (false, 3))), (1, .inr (some (true, 18087)))], ([.inl 2, .inl 3, .inl 4, .inl 5], [([(.ofNat 1, 0)], .ofNat 0, .ofNat 10), ([(.ofNat 1, 1)], .ofNat 0, .ofNat 62), ([(.ofNat 1, 2)], .ofNat 0, .ofNat 1), ([(.ofNat 1, 3)], .ofNat 0, .ofNat 61), ([(.ofNat 1, 4)], .ofNat 62, .ofNat 62), ([(.ofNat 1, 5)], .ofNat 0, .ofNat 61), ([(.ofNat 1, 3), (.negSucc 0, 5)], .ofNat 0, .ofNat 0)]), [none, none])
def sg_wo2a_a : sg_Cu := (32, 0, [(0, .inr (some (false, 3))), (1, .inr (some (true, 18087)))], ([.inl 2, .inl 3, .inl 4, .inl 5], [([(.ofNat 1, 3), (.negSucc 0, 10)], .ofNat 0, .ofNat 0), ([(.ofNat 1, 3), (.negSucc 0, 9)], .ofNat 0, .ofNat 0), ([(.ofNat 1, 0), (.negSucc 0, 6)], .ofNat 0, .ofNat 0), ([(.ofNat 1, 1), (.negSucc 0, 7)], .ofNat 0, .ofNat 0), ([(.ofNat 1, 2), (.negSucc 0, 8)], .ofNat 0, .ofNat 0)]), [none, some (true, 18087)])
theorem sg_wo2a_ok : sg_chk z9 ex_mt k9 60 tX6_wordOf 5 15 sg_wo2a [] [sg_wo2a_a] = true := by decide +kernel
def sg_wo2b : sg_Cu := (26, 0, [(0, .inr (some (false, 3))), (1, .inr (some (true, 18087)))], ([.inl 2, .inl 3, .inl 4, .inl 5], [([(.ofNat 1, 0)], .ofNat 0, .ofNat 10), ([(.ofNat 1, 1)], .ofNat 0, .ofNat 62), ([(.ofNat 1, 2)], .ofNat 0, .ofNat 0), ([(.ofNat 1, 3)], .ofNat 0, .ofNat 62), ([(.ofNat 1, 4)], .ofNat 62, .ofNat 62), ([(.ofNat 1, 5)], .ofNat 62, .ofNat 62)]), [none, none])
def sg_wo2b_p0 : sx_Po := (0, true, [], [([(.ofNat 1, 6)], .negSucc 0, .negSucc 0)])
theorem sg_wo2b_ok : sg_chk z9 ex_mt k9 60 tX6_wordOf 6 15 sg_wo2b [sg_wo2b_p0] [] = true := by decide +kernel
def sg_wo2c : sg_Cu := (26, 0, [(0, .inr (some (false, 3))), (1, .inr (some (true, 18087)))], ([.inl 2, .inl 3, .inl 4, .inl 5, .inr 196613], [([(.ofNat 1, 0)], .ofNat 0, .ofNat 10), ([(.ofNat 1, 1)], .ofNat 0, .ofNat 62), ([(.ofNat 1, 2)], .ofNat 1, .ofNat 1), ([(.ofNat 1, 3)], .ofNat 0, .ofNat 62), ([(.ofNat 1, 4)], .negSucc 2147483647, .ofNat 2147483647), ([(.ofNat 1, 5)], .ofNat 62, .ofNat 62), ([(.ofNat 1, 6)], .ofNat 62, .ofNat 62), ([(.ofNat 1, 1), (.negSucc 0, 4)], .negSucc 4611686018427387903, .negSucc 0)]), [none, none])
def sg_wo2c_p0 : sx_Po := (0, true, [], [([(.ofNat 1, 7)], .negSucc 0, .negSucc 0)])
theorem sg_wo2c_ok : sg_chk z9 ex_mt k9 60 tX6_wordOf 10 15 sg_wo2c [sg_wo2c_p0] [] = true := by decide +kernel
def sg_wo2d : sg_Cu := (26, 0, [(0, .inr (some (false, 3))), (1, .inr (some (true, 18087)))], ([.inl 2, .inl 3, .inl 4, .inl 5, .inr 196613], [([(.ofNat 1, 0)], .ofNat 0, .ofNat 10), ([(.ofNat 1, 1)], .ofNat 0, .ofNat 62), ([(.ofNat 1, 2)], .ofNat 1, .ofNat 1), ([(.ofNat 1, 3)], .ofNat 0, .ofNat 62), ([(.ofNat 1, 4)], .negSucc 2147483647, .ofNat 2147483647), ([(.ofNat 1, 5)], .ofNat 62, .ofNat 62), ([(.ofNat 1, 6)], .ofNat 62, .ofNat 62), ([(.ofNat 1, 1), (.negSucc 0, 4)], .ofNat 1, .ofNat 4611686018427387904)]), [none, none])
def sg_wo2d_p0 : sx_Po := (0, true, [], [([(.ofNat 1, 7)], .negSucc 0, .negSucc 0)])
theorem sg_wo2d_ok : sg_chk z9 ex_mt k9 60 tX6_wordOf 10 15 sg_wo2d [sg_wo2d_p0] [] = true := by decide +kernel
def sg_wo2e : sg_Cu := (26, 0, [(0, .inr (some (false, 3))), (1, .inr (some (true, 18087)))], ([.inl 2, .inl 3, .inl 4, .inl 5, .inr 196613], [([(.ofNat 1, 0)], .ofNat 0, .ofNat 10), ([(.ofNat 1, 1)], .ofNat 0, .ofNat 62), ([(.ofNat 1, 2)], .ofNat 1, .ofNat 1), ([(.ofNat 1, 3)], .ofNat 0, .ofNat 62), ([(.ofNat 1, 4)], .negSucc 2147483647, .ofNat 2147483647), ([(.ofNat 1, 5)], .ofNat 62, .ofNat 62), ([(.ofNat 1, 6)], .ofNat 62, .ofNat 62), ([(.ofNat 1, 1), (.negSucc 0, 4)], .ofNat 0, .ofNat 0)]), [none, none])
def sg_wo2e_p0 : sx_Po := (0, true, [], [([(.ofNat 1, 0), (.negSucc 0, 7)], .ofNat 0, .ofNat 0)])
theorem sg_wo2e_ok : sg_chk z9 ex_mt k9 60 tX6_wordOf 11 15 sg_wo2e [sg_wo2e_p0] [] = true := by decide +kernel
def sg_wo3a : sg_Cu := (35, 0, [(0, .inr (some (false, 3))), (1, .inr (some (true, 18087)))], ([.inl 2, .inl 3, .inl 4, .inl 5, .inr 196613], [([(.ofNat 1, 0)], .ofNat 0, .ofNat 10), ([(.ofNat 1, 1)], .ofNat 0, .ofNat 62), ([(.ofNat 1, 2)], .ofNat 1, .ofNat 1), ([(.ofNat 1, 3)], .ofNat 0, .ofNat 62), ([(.ofNat 1, 4)], .negSucc 2147483647, .ofNat 2147483647), ([(.ofNat 1, 5)], .ofNat 32, .ofNat 32), ([(.ofNat 1, 1), (.negSucc 0, 4)], .ofNat 0, .ofNat 0)]), [none])
def sg_wo3a_p0 : sx_Po := (0, true, [], [([(.ofNat 1, 0), (.negSucc 0, 6)], .ofNat 0, .ofNat 0)])
theorem sg_wo3a_ok : sg_chk z9 ex_mt k9 60 tX6_wordOf 13 15 sg_wo3a [sg_wo3a_p0] [] = true := by decide +kernel
def sg_wo3b : sg_Cu := (35, 0, [(0, .inr (some (false, 3))), (1, .inr (some (true, 18087)))], ([.inl 2, .inl 3, .inl 4, .inl 5, .inr 196613], [([(.ofNat 1, 0)], .ofNat 0, .ofNat 9), ([(.ofNat 1, 1)], .ofNat 0, .ofNat 62), ([(.ofNat 1, 2)], .ofNat 1, .ofNat 1), ([(.ofNat 1, 3)], .ofNat 0, .ofNat 61), ([(.ofNat 1, 4)], .negSucc 2147483647, .ofNat 2147483647), ([(.ofNat 1, 5)], .ofNat 32, .ofNat 32), ([(.ofNat 1, 1), (.negSucc 0, 4)], .negSucc 4611686018427387903, .negSucc 0)]), [none])
def sg_wo3b_a : sg_Cu := (23, 0, [(0, .inr (some (false, 3))), (1, .inr (some (true, 18087)))], ([.inl 2, .inl 3, .inl 4, .inl 5], [([(.ofNat 1, 3), (.negSucc 0, 9)], .negSucc 0, .negSucc 0), ([(.ofNat 1, 3), (.negSucc 0, 10)], .negSucc 0, .negSucc 0), ([(.ofNat 1, 0), (.negSucc 0, 6)], .negSucc 0, .negSucc 0), ([(.ofNat 1, 7)], .ofNat 0, .ofNat 0), ([(.ofNat 1, 8)], .ofNat 1, .ofNat 1)]), [some (true, 18087), none])
theorem sg_wo3b_ok : sg_chk z9 ex_mt k9 60 tX6_wordOf 21 15 sg_wo3b [] [sg_wo3b_a] = true := by decide +kernel
def sg_wo3c : sg_Cu := (35, 0, [(0, .inr (some (false, 3))), (1, .inr (some (true, 18087)))], ([.inl 2, .inl 3, .inl 4, .inl 5, .inr 196613], [([(.ofNat 1, 0)], .ofNat 0, .ofNat 9), ([(.ofNat 1, 1)], .ofNat 0, .ofNat 62), ([(.ofNat 1, 2)], .ofNat 1, .ofNat 1), ([(.ofNat 1, 3)], .ofNat 0, .ofNat 61), ([(.ofNat 1, 4)], .negSucc 2147483647, .ofNat 2147483647), ([(.ofNat 1, 5)], .ofNat 32, .ofNat 32), ([(.ofNat 1, 1), (.negSucc 0, 4)], .ofNat 1, .ofNat 4611686018427387904)]), [none])
def sg_wo3c_a : sg_Cu := (23, 0, [(0, .inr (some (false, 3))), (1, .inr (some (true, 18087)))], ([.inl 2, .inl 3, .inl 4, .inl 5], [([(.ofNat 1, 3), (.negSucc 0, 9)], .negSucc 0, .negSucc 0), ([(.ofNat 1, 3), (.negSucc 0, 10)], .negSucc 0, .negSucc 0), ([(.ofNat 1, 0), (.negSucc 0, 6)], .negSucc 0, .negSucc 0), ([(.ofNat 1, 7)], .ofNat 0, .ofNat 0), ([(.ofNat 1, 8)], .ofNat 1, .ofNat 1)]), [some (true, 18087), none])
theorem sg_wo3c_ok : sg_chk z9 ex_mt k9 60 tX6_wordOf 21 15 sg_wo3c [] [sg_wo3c_a] = true := by decide +kernel
def sg_wo3d : sg_Cu := (35, 0, [(0, .inr (some (false, 3))), (1, .inr (some (true, 18087)))], ([.inl 2, .inl 3, .inl 4, .inl 5], [([(.ofNat 1, 0)], .ofNat 0, .ofNat 9), ([(.ofNat 1, 1)], .ofNat 0, .ofNat 62), ([(.ofNat 1, 2)], .ofNat 0, .ofNat 0), ([(.ofNat 1, 3)], .ofNat 0, .ofNat 61), ([(.ofNat 1, 4)], .ofNat 32, .ofNat 32)]), [none])
def sg_wo3d_a : sg_Cu := (23, 0, [(0, .inr (some (false, 3))), (1, .inr (some (true, 18087)))], ([.inl 2, .inl 3, .inl 4, .inl 5], [([(.ofNat 1, 3), (.negSucc 0, 8)], .negSucc 0, .negSucc 0), ([(.ofNat 1, 3), (.negSucc 0, 9)], .negSucc 0, .negSucc 0), ([(.ofNat 1, 0), (.negSucc 0, 5)], .negSucc 0, .negSucc 0), ([(.ofNat 1, 6)], .ofNat 0, .ofNat 0), ([(.ofNat 1, 7)], .ofNat 1, .ofNat 1)]), [some (true, 18087), none])
theorem sg_wo3d_ok : sg_chk z9 ex_mt k9 60 tX6_wordOf 17 15 sg_wo3d [] [sg_wo3d_a] = true := by decide +kernel
def sg_wo3e : sg_Cu := (35, 0, [(0, .inr (some (false, 3))), (1, .inr (some (true, 18087)))], ([.inl 2, .inl 3, .inl 4, .inl 5], [([(.ofNat 1, 0)], .ofNat 0, .ofNat 10), ([(.ofNat 1, 1)], .ofNat 0, .ofNat 61), ([(.ofNat 1, 2)], .ofNat 0, .ofNat 0), ([(.ofNat 1, 3)], .ofNat 0, .ofNat 61), ([(.ofNat 1, 4)], .ofNat 97, .ofNat 122)]), [none])
def sg_wo3e_a : sg_Cu := (23, 0, [(0, .inr (some (false, 3))), (1, .inr (some (true, 18087)))], ([.inl 2, .inl 3, .inl 4, .inl 5], [([(.ofNat 1, 3), (.negSucc 0, 8)], .negSucc 0, .negSucc 0), ([(.ofNat 1, 3), (.negSucc 0, 9)], .negSucc 0, .negSucc 0), ([(.ofNat 1, 0), (.negSucc 0, 5)], .ofNat 0, .ofNat 0), ([(.ofNat 1, 1), (.negSucc 0, 6)], .negSucc 0, .negSucc 0), ([(.ofNat 1, 7)], .ofNat 0, .ofNat 0)]), [some (true, 18087), none])
theorem sg_wo3e_ok : sg_chk z9 ex_mt k9 60 tX6_wordOf 16 15 sg_wo3e [] [sg_wo3e_a] = true := by decide +kernel
def sg_wo3f : sg_Cu := (35, 0, [(0, .inr (some (false, 3))), (1, .inr (some (true, 18087)))], ([.inl 2, .inl 3, .inl 4, .inl 5, .inr 196613], [([(.ofNat 1, 0)], .ofNat 0, .ofNat 10), ([(.ofNat 1, 1)], .ofNat 0, .ofNat 61), ([(.ofNat 1, 2)], .ofNat 1, .ofNat 1), ([(.ofNat 1, 3)], .ofNat 0, .ofNat 61), ([(.ofNat 1, 4)], .negSucc 2147483647, .ofNat 2147483647), ([(.ofNat 1, 5)], .ofNat 97, .ofNat 122), ([(.ofNat 1, 1), (.negSucc 0, 4)], .ofNat 0, .ofNat 4611686018427387904)]), [none])
def sg_wo3f_a : sg_Cu := (23, 0, [(0, .inr (some (false, 3))), (1, .inr (some (true, 18087)))], ([.inl 2, .inl 3, .inl 4, .inl 5], [([(.ofNat 1, 3), (.negSucc 0, 9)], .negSucc 0, .negSucc 0), ([(.ofNat 1, 3), (.negSucc 0, 10)], .negSucc 0, .negSucc 0), ([(.ofNat 1, 0), (.negSucc 0, 6)], .ofNat 0, .ofNat 0), ([(.ofNat 1, 1), (.negSucc 0, 7)], .negSucc 0, .negSucc 0), ([(.ofNat 1, 8)], .ofNat 0, .ofNat 0)]), [some (true, 18087), none])
theorem sg_wo3f_ok : sg_chk z9 ex_mt k9 60 tX6_wordOf 20 15 sg_wo3f [] [sg_wo3f_a] = true := by decide +kernel
def sg_wo3g : sg_Cu := (35, 0, [(0, .inr (some (false, 3))), (1, .inr (some (true, 18087)))], ([.inl 2, .inl 3, .inl 4, .inl 5, .inr 196613, .inr 196612], [([(.ofNat 1, 0)], .ofNat 0, .ofNat 10), ([(.ofNat 1, 1)], .ofNat 0, .ofNat 61), ([(.ofNat 1, 2)], .ofNat 1, .ofNat 1), ([(.ofNat 1, 3)], .ofNat 0, .ofNat 61), ([(.ofNat 1, 4)], .negSucc 2147483647, .ofNat 2147483647), ([(.ofNat 1, 5)], .ofNat 0, .ofNat 940), ([(.ofNat 1, 6)], .ofNat 97, .ofNat 122), ([(.ofNat 1, 1), (.negSucc 0, 4)], .negSucc 4611686018427387903, .negSucc 0)]), [none])
def sg_wo3g_a : sg_Cu := (67, 0, [(0, .inr (some (false, 3))), (1, .inr (some (true, 18087)))], ([.inl 2, .inl 3, .inl 4, .inl 5, .inl 6], [([(.ofNat 1, 1), (.ofNat 1, 5), (.negSucc 0, 12)], .ofNat 0, .ofNat 0), ([(.ofNat 1, 3), (.negSucc 0, 10)], .ofNat 0, .ofNat 0), ([(.ofNat 1, 6), (.negSucc 0, 11)], .ofNat 0, .ofNat 0), ([(.ofNat 1, 0), (.negSucc 0, 7)], .ofNat 0, .ofNat 0), ([(.ofNat 1, 1), (.negSucc 0, 8)], .ofNat 0, .ofNat 0), ([(.ofNat 1, 2), (.negSucc 0, 9)], .ofNat 0, .ofNat 0)]), [none, some (false, 1)])
theorem sg_wo3g_ok : sg_chk z9 ex_mt k9 60 tX6_wordOf 18 15 sg_wo3g [] [sg_wo3g_a] = true := by decide +kernel
def sg_wo4a : sg_Cu := (70, 0, [(0, .inr (some (false, 3))), (1, .inr (some (true, 18087)))], ([.inl 2, .inl 3, .inl 4, .inl 5, .inl 6], [([(.ofNat 1, 0)], .ofNat 0, .ofNat 10), ([(.ofNat 1, 1)], .ofNat 0, .ofNat 61), ([(.ofNat 1, 2)], .ofNat 0, .ofNat 1), ([(.ofNat 1, 3)], .ofNat 0, .ofNat 61), ([(.ofNat 1, 4)], .negSucc 2147483647, .ofNat 2147483647), ([(.ofNat 1, 5)], .negSucc 2147483647, .ofNat 2147483647), ([(.ofNat 1, 4), (.negSucc 0, 5)], .ofNat 1, .ofNat 4611686018427387904)]), [none])
def sg_wo4a_a : sg_Cu := (23, 0, [(0, .inr (some (false, 3))), (1, .inr (some (true, 18087)))], ([.inl 2, .inl 3, .inl 4, .inl 5], [([(.ofNat 1, 3), (.negSucc 0, 9)], .negSucc 0, .negSucc 0), ([(.ofNat 1, 3), (.negSucc 0, 10)], .negSucc 0, .negSucc 0), ([(.ofNat 1, 0), (.negSucc 0, 6)], .ofNat 0, .ofNat 0), ([(.ofNat 1, 1), (.negSucc 0, 7)], .negSucc 0, .negSucc 0), ([(.ofNat 1, 8)], .ofNat 0, .ofNat 0)]), [some (true, 18087), none])
theorem sg_wo4a_ok : sg_chk z9 ex_mt k9 60 tX6_wordOf 12 15 sg_wo4a [] [sg_wo4a_a] = true := by decide +kernel
def sg_wo4b : sg_Cu := (70, 0, [(0, .inr (some (false, 3))), (1, .inr (some (true, 18087)))], ([.inl 2, .inl 3, .inl 4, .inl 5, .inl 6], [([(.ofNat 1, 0)], .ofNat 0, .ofNat 10), ([(.ofNat 1, 1)], .ofNat 0, .ofNat 61), ([(.ofNat 1, 2)], .ofNat 0, .ofNat 1), ([(.ofNat 1, 3)], .ofNat 0, .ofNat 61), ([(.ofNat 1, 4)], .negSucc 2147483647, .ofNat 2147483647), ([(.ofNat 1, 5)], .negSucc 2147483647, .ofNat 2147483647), ([(.ofNat 1, 4), (.negSucc 0, 5)], .ofNat 0, .ofNat 0)]), [none])
def sg_wo4b_a : sg_Cu := (23, 0, [(0, .inr (some (false, 3))), (1, .inr (some (true, 18087)))], ([.inl 2, .inl 3, .inl 4, .inl 5], [([(.ofNat 1, 3), (.negSucc 0, 9)], .negSucc 0, .negSucc 0), ([(.ofNat 1, 3), (.negSucc 0, 10)], .negSucc 0, .negSucc 0), ([(.ofNat 1, 0), (.negSucc 0, 6)], .ofNat 0, .ofNat 0), ([(.ofNat 1, 1), (.negSucc 0, 7)], .negSucc 0, .negSucc 0), ([(.ofNat 1, 8)], .ofNat 1, .ofNat 1)]), [some (true, 18087), none])
theorem sg_wo4b_ok : sg_chk z9 ex_mt k9 60 tX6_wordOf 13 15 sg_wo4b [] [sg_wo4b_a] = true := by decide +kernel
def sg_wo4c : sg_Cu := (70, 0, [(0, .inr (some (false, 3))), (1, .inr (some (true, 18087)))], ([.inl 2, .inl 3, .inl 4, .inl 5, .inl 6], [([(.ofNat 1, 0)], .ofNat 0, .ofNat 10), ([(.ofNat 1, 1)], .ofNat 0, .ofNat 61), ([(.ofNat 1, 2)], .ofNat 0, .ofNat 1), ([(.ofNat 1, 3)], .ofNat 0, .ofNat 61), ([(.ofNat 1, 4)], .negSucc 2147483647, .ofNat 2147483647), ([(.ofNat 1, 5)], .negSucc 2147483647, .ofNat 2147483647), ([(.ofNat 1, 4), (.negSucc 0, 5)], .negSucc 4611686018427387903, .negSucc 0)]), [none])
def sg_wo4c_a : sg_Cu := (23, 0, [(0, .inr (some (false, 3))), (1, .inr (some (true, 18087)))], ([.inl 2, .inl 3, .inl 4, .inl 5], [([(.ofNat 1, 3), (.negSucc 0, 9)], .negSucc 0, .negSucc 0), ([(.ofNat 1, 3), (.negSucc 0, 10)], .negSucc 0, .negSucc 0), ([(.ofNat 1, 0), (.negSucc 0, 6)], .ofNat 0, .ofNat 0), ([(.ofNat 1, 1), (.negSucc 0, 7)], .negSucc 0, .negSucc 0), ([(.ofNat 1, 8)], .ofNat 0, .ofNat 0)]), [some (true, 18087), none])
theorem sg_wo4c_ok : sg_chk z9 ex_mt k9 60 tX6_wordOf 12 15 sg_wo4c [] [sg_wo4c_a] = true := by decide +kernel
def sg_op1 : sg_Cu := (0, 0, [(0, .inr (some (false, 3)))], ([.inl 1], [([(.ofNat 1, 0)], .negSucc 2147483647, .ofNat 2147483647)]), [])
def sg_op1_a : sg_Cu := (21, 408944640, [(0, .inr (some (false, 3)))], ([.inr 196609, .inr 196610, .inr 196615, .inr 196616], [([(.ofNat 1, 0), (.negSucc 0, 1)], .ofNat 0, .ofNat 0), ([(.ofNat 1, 2)], .ofNat 0, .ofNat 0), ([(.ofNat 1, 3)], .ofNat 0, .ofNat 0), ([(.ofNat 1, 4)], .ofNat 0, .ofNat 0)]), [some (false, 3)])
theorem sg_op1_ok : sg_chk z9 ex_mt k9 60 tX6_open 15 15 sg_op1 [] [sg_op1_a] = true := by decide +kernel
def sg_op2 : sg_Cu := (24, 0, [(0, .inr (some (false, 3)))], ([], []), [])
def sg_op2_p0 : sx_Po := (0, false, [], [])
theorem sg_op2_ok : sg_chk z9 ex_mt k9 60 tX6_open 2 15 sg_op2 [sg_op2_p0] [] = true := by decide +kernel
def sg_cp1_0 : sg_Cu := (0, 0, [(0, .inr (some (false, 13))), (1, .inr (some (false, 5)))], ([], []), [])
def sg_cp1_0_a : sg_Cu := (10, 0, [(0, .inr (some (false, 13))), (1, .inr (some (false, 5)))], ([.inl 2, .inl 3], [([(.ofNat 1, 0)], .ofNat 10, .ofNat 10), ([(.ofNat 1, 1)], .ofNat 0, .ofNat 0)]), [])
theorem sg_cp1_0_ok : sg_chk z9 ex_mt k9 60 tX11_copyRow 10 15 sg_cp1_0 [] [sg_cp1_0_a] = true := by decide +kernel
def sg_cp2_0 : sg_Cu := (10, 0, [(0, .inr (some (false, 13))), (1, .inr (some (false, 5)))], ([.inl 2, .inl 3], [([(.ofNat 1, 0)], .ofNat 10, .ofNat 10), ([(.ofNat 1, 1)], .ofNat 0, .ofNat 9)]), [])
def sg_cp2_0_a : sg_Cu := (19, 0, [(0, .inr (some (false, 13))), (1, .inr (some (false, 5)))], ([.inl 2, .inl 3], [([(.ofNat 1, 1), (.negSucc 0, 4)], .ofNat 0, .ofNat 0), ([(.ofNat 1, 1), (.negSucc 0, 5)], .ofNat 0, .ofNat 0), ([(.ofNat 1, 0), (.negSucc 0, 2)], .ofNat 0, .ofNat 0), ([(.ofNat 1, 1), (.negSucc 0, 3)], .ofNat 0, .ofNat 0)]), [none, some (false, 13), none, some (false, 5)])
theorem sg_cp2_0_ok : sg_chk z9 ex_mt k9 60 tX11_copyRow 9 15 sg_cp2_0 [] [sg_cp2_0_a] = true := by decide +kernel
def sg_cp3_0 : sg_Cu := (21, 0, [(0, .inr (some (false, 13))), (1, .inr (some (false, 5)))], ([.inl 2, .inl 3], [([(.ofNat 1, 0)], .ofNat 10, .ofNat 10), ([(.ofNat 1, 1)], .ofNat 0, .ofNat 9)]), [])
def sg_cp3_0_a : sg_Cu := (10, 0, [(0, .inr (some (false, 13))), (1, .inr (some (false, 5)))], ([.inl 2, .inl 3], [([(.ofNat 1, 0), (.negSucc 0, 2)], .ofNat 0, .ofNat 0), ([(.ofNat 1, 1), (.negSucc 0, 3)], .negSucc 0, .negSucc 0)]), [])
theorem sg_cp3_0_ok : sg_chk z9 ex_mt k9 60 tX11_copyRow 4 15 sg_cp3_0 [] [sg_cp3_0_a] = true := by decide +kernel
def sg_cp4_0 : sg_Cu := (10, 0, [(0, .inr (some (false, 13))), (1, .inr (some (false, 5)))], ([.inl 2, .inl 3], [([(.ofNat 1, 0)], .ofNat 10, .ofNat 10), ([(.ofNat 1, 1)], .ofNat 10, .ofNat 10)]), [])
def sg_cp4_0_p0 : sx_Po := (0, false, [], [])
theorem sg_cp4_0_ok : sg_chk z9 ex_mt k9 60 tX11_copyRow 5 15 sg_cp4_0 [sg_cp4_0_p0] [] = true := by decide +kernel
def sg_cf0 : sg_Cu := (0, 0, [(0, .inr (some (false, 4))), (1, .inr (some (false, 12)))], ([], []), [])
def sg_cf0_a : sg_Cu := (8, 0, [(0, .inr (some (false, 4))), (1, .inr (some (false, 12)))], ([], []), [some (false, 5), some (false, 13)])
theorem sg_cf0_ok : sg_chk z9 ex_mt k9 60 tX9_copyFrom 6 20 sg_cf0 [] [sg_cf0_a] = true := by decide +kernel
def sg_cp1_1 : sg_Cu := (0, 0, [(0, .inr (some (false, 14))), (1, .inr (some (false, 6)))], ([], []), [])
def sg_cp1_1_a : sg_Cu := (10, 0, [(0, .inr (some (false, 14))), (1, .inr (some (false, 6)))], ([.inl 2, .inl 3], [([(.ofNat 1, 0)], .ofNat 10, .ofNat 10), ([(.ofNat 1, 1)], .ofNat 0, .ofNat 0)]), [])
theorem sg_cp1_1_ok : sg_chk z9 ex_mt k9 60 tX11_copyRow 10 15 sg_cp1_1 [] [sg_cp1_1_a] = true := by decide +kernel
def sg_cp2_1 : sg_Cu := (10, 0, [(0, .inr (some (false, 14))), (1, .inr (some (false, 6)))], ([.inl 2, .inl 3], [([(.ofNat 1, 0)], .ofNat 10, .ofNat 10), ([(.ofNat 1, 1)], .ofNat 0, .ofNat 9)]), [])
def sg_cp2_1_a : sg_Cu := (19, 0, [(0, .inr (some (false, 14))), (1, .inr (some (false, 6)))], ([.inl 2, .inl 3], [([(.ofNat 1, 1), (.negSucc 0, 4)], .ofNat 0, .ofNat 0), ([(.ofNat 1, 1), (.negSucc 0, 5)], .ofNat 0, .ofNat 0), ([(.ofNat 1, 0), (.negSucc 0, 2)], .ofNat 0, .ofNat 0), ([(.ofNat 1, 1), (.negSucc 0, 3)], .ofNat 0, .ofNat 0)]), [none, some (false, 14), none, some (false, 6)])
theorem sg_cp2_1_ok : sg_chk z9 ex_mt k9 60 tX11_copyRow 9 15 sg_cp2_1 [] [sg_cp2_1_a] = true := by decide +kernel
def sg_cp3_1 : sg_Cu := (21, 0, [(0, .inr (some (false, 14))), (1, .inr (some (false, 6)))], ([.inl 2, .inl 3], [([(.ofNat 1, 0)], .ofNat 10, .ofNat 10), ([(.ofNat 1, 1)], .ofNat 0, .ofNat 9)]), [])
def sg_cp3_1_a : sg_Cu := (10, 0, [(0, .inr (some (false, 14))), (1, .inr (some (false, 6)))], ([.inl 2, .inl 3], [([(.ofNat 1, 0), (.negSucc 0, 2)], .ofNat 0, .ofNat 0), ([(.ofNat 1, 1), (.negSucc 0, 3)], .negSucc 0, .negSucc 0)]), [])
theorem sg_cp3_1_ok : sg_chk z9 ex_mt k9 60 tX11_copyRow 4 15 sg_cp3_1 [] [sg_cp3_1_a] = true := by decide +kernel
def sg_cp4_1 : sg_Cu := (10, 0, [(0, .inr (some (false, 14))), (1, .inr (some (false, 6)))], ([.inl 2, .inl 3], [([(.ofNat 1, 0)], .ofNat 10, .ofNat 10), ([(.ofNat 1, 1)], .ofNat 10, .ofNat 10)]), [])
def sg_cp4_1_p0 : sx_Po := (0, false, [], [])
theorem sg_cp4_1_ok : sg_chk z9 ex_mt k9 60 tX11_copyRow 5 15 sg_cp4_1 [sg_cp4_1_p0] [] = true := by decide +kernel
def sg_cf1 : sg_Cu := (11, 0, [(0, .inr (some (false, 4))), (1, .inr (some (false, 12)))], ([], []), [])
def sg_cf1_a : sg_Cu := (19, 0, [(0, .inr (some (false, 4))), (1, .inr (some (false, 12)))], ([], []), [some (false, 6), some (false, 14)])
theorem sg_cf1_ok : sg_chk z9 ex_mt k9 60 tX9_copyFrom 6 20 sg_cf1 [] [sg_cf1_a] = true := by decide +kernel
def sg_cp1_2 : sg_Cu := (0, 0, [(0, .inr (some (false, 15))), (1, .inr (some (false, 7)))], ([], []), [])
def sg_cp1_2_a : sg_Cu := (10, 0, [(0, .inr (some (false, 15))), (1, .inr (some (false, 7)))], ([.inl 2, .inl 3], [([(.ofNat 1, 0)], .ofNat 10, .ofNat 10), ([(.ofNat 1, 1)], .ofNat 0, .ofNat 0)]), [])
theorem sg_cp1_2_ok : sg_chk z9 ex_mt k9 60 tX11_copyRow 10 15 sg_cp1_2 [] [sg_cp1_2_a] = true := by decide +kernel
def sg_cp2_2 : sg_Cu := (10, 0, [(0, .inr (some (false, 15))), (1, .inr (some (false, 7)))], ([.inl 2, .inl 3], [([(.ofNat 1, 0)], .ofNat 10, .ofNat 10), ([(.ofNat 1, 1)], .ofNat 0, .ofNat 9)]), [])
def sg_cp2_2_a : sg_Cu := (19, 0, [(0, .inr (some (false, 15))), (1, .inr (some (false, 7)))], ([.inl 2, .inl 3], [([(.ofNat 1, 1), (.negSucc 0, 4)], .ofNat 0, .ofNat 0), ([(.ofNat 1, 1), (.negSucc 0, 5)], .ofNat 0, .ofNat 0), ([(.ofNat 1, 0), (.negSucc 0, 2)], .ofNat 0, .ofNat 0), ([(.ofNat 1, 1), (.negSucc 0, 3)], .ofNat 0, .ofNat 0)]), [none, some (false, 15), none, some (false, 7)])
theorem sg_cp2_2_ok : sg_chk z9 ex_mt k9 60 tX11_copyRow 9 15 sg_cp2_2 [] [sg_cp2_2_a] = true := by decide +kernel
def sg_cp3_2 : sg_Cu := (21, 0, [(0, .inr (some (false, 15))), (1, .inr (some (false, 7)))], ([.inl 2, .inl 3], [([(.ofNat 1, 0)], .ofNat 10, .ofNat 10), ([(.ofNat 1, 1)], .ofNat 0, .ofNat 9)]), [])
def sg_cp3_2_a : sg_Cu := (10, 0, [(0, .inr (some (false, 15))), (1, .inr (some (false, 7)))], ([.inl 2, .inl 3], [([(.ofNat 1, 0), (.negSucc 0, 2)], .ofNat 0, .ofNat 0), ([(.ofNat 1, 1), (.negSucc 0, 3)], .negSucc 0, .negSucc 0)]), [])
theorem sg_cp3_2_ok : sg_chk z9 ex_mt k9 60 tX11_copyRow 4 15 sg_cp3_2 [] [sg_cp3_2_a] = true := by decide +kernel
def sg_cp4_2 : sg_Cu := (10, 0, [(0, .inr (some (false, 15))), (1, .inr (some (false, 7)))], ([.inl 2, .inl 3], [([(.ofNat 1, 0)], .ofNat 10, .ofNat 10), ([(.ofNat 1, 1)], .ofNat 10, .ofNat 10)]), [])
def sg_cp4_2_p0 : sx_Po := (0, false, [], [])
theorem sg_cp4_2_ok : sg_chk z9 ex_mt k9 60 tX11_copyRow 5 15 sg_cp4_2 [sg_cp4_2_p0] [] = true := by decide +kernel
def sg_cf2 : sg_Cu := (22, 0, [(0, .inr (some (false, 4))), (1, .inr (some (false, 12)))], ([], []), [])
def sg_cf2_a : sg_Cu := (30, 0, [(0, .inr (some (false, 4))), (1, .inr (some (false, 12)))], ([], []), [some (false, 7), some (false, 15)])
theorem sg_cf2_ok : sg_chk z9 ex_mt k9 60 tX9_copyFrom 6 20 sg_cf2 [] [sg_cf2_a] = true := by decide +kernel
def sg_cp1_3 : sg_Cu := (0, 0, [(0, .inr (some (false, 16))), (1, .inr (some (false, 8)))], ([], []), [])
def sg_cp1_3_a : sg_Cu := (10, 0, [(0, .inr (some (false, 16))), (1, .inr (some (false, 8)))], ([.inl 2, .inl 3], [([(.ofNat 1, 0)], .ofNat 10, .ofNat 10), ([(.ofNat 1, 1)], .ofNat 0, .ofNat 0)]), [])
theorem sg_cp1_3_ok : sg_chk z9 ex_mt k9 60 tX11_copyRow 10 15 sg_cp1_3 [] [sg_cp1_3_a] = true := by decide +kernel
def sg_cp2_3 : sg_Cu := (10, 0, [(0, .inr (some (false, 16))), (1, .inr (some (false, 8)))], ([.inl 2, .inl 3], [([(.ofNat 1, 0)], .ofNat 10, .ofNat 10), ([(.ofNat 1, 1)], .ofNat 0, .ofNat 9)]), [])
def sg_cp2_3_a : sg_Cu := (19, 0, [(0, .inr (some (false, 16))), (1, .inr (some (false, 8)))], ([.inl 2, .inl 3], [([(.ofNat 1, 1), (.negSucc 0, 4)], .ofNat 0, .ofNat 0), ([(.ofNat 1, 1), (.negSucc 0, 5)], .ofNat 0, .ofNat 0), ([(.ofNat 1, 0), (.negSucc 0, 2)], .ofNat 0, .ofNat 0), ([(.ofNat 1, 1), (.negSucc 0, 3)], .ofNat 0, .ofNat 0)]), [none, some (false, 16), none, some (false, 8)])
theorem sg_cp2_3_ok : sg_chk z9 ex_mt k9 60 tX11_copyRow 9 15 sg_cp2_3 [] [sg_cp2_3_a] = true := by decide +kernel
def sg_cp3_3 : sg_Cu := (21, 0, [(0, .inr (some (false, 16))), (1, .inr (some (false, 8)))], ([.inl 2, .inl 3], [([(.ofNat 1, 0)], .ofNat 10, .ofNat 10), ([(.ofNat 1, 1)], .ofNat 0, .ofNat 9)]), [])
def sg_cp3_3_a : sg_Cu := (10, 0, [(0, .inr (some (false, 16))), (1, .inr (some (false, 8)))], ([.inl 2, .inl 3], [([(.ofNat 1, 0), (.negSucc 0, 2)], .ofNat 0, .ofNat 0), ([(.ofNat 1, 1), (.negSucc 0, 3)], .negSucc 0, .negSucc 0)]), [])
theorem sg_cp3_3_ok : sg_chk z9 ex_mt k9 60 tX11_copyRow 4 15 sg_cp3_3 [] [sg_cp3_3_a] = true := by decide +kernel
def sg_cp4_3 : sg_Cu := (10, 0, [(0, .inr (some (false, 16))), (1, .inr (some (false, 8)))], ([.inl 2, .inl 3], [([(.ofNat 1, 0)], .ofNat 10, .ofNat 10), ([(.ofNat 1, 1)], .ofNat 10, .ofNat 10)]), [])
def sg_cp4_3_p0 : sx_Po := (0, false, [], [])
theorem sg_cp4_3_ok : sg_chk z9 ex_mt k9 60 tX11_copyRow 5 15 sg_cp4_3 [sg_cp4_3_p0] [] = true := by decide +kernel
def sg_cf3 : sg_Cu := (33, 0, [(0, .inr (some (false, 4))), (1, .inr (some (false, 12)))], ([], []), [])
def sg_cf3_a : sg_Cu := (41, 0, [(0, .inr (some (false, 4))), (1, .inr (some (false, 12)))], ([], []), [some (false, 8), some (false, 16)])
theorem sg_cf3_ok : sg_chk z9 ex_mt k9 60 tX9_copyFrom 6 20 sg_cf3 [] [sg_cf3_a] = true := by decide +kernel
def sg_cp1_4 : sg_Cu := (0, 0, [(0, .inr (some (false, 17))), (1, .inr (some (false, 9)))], ([], []), [])
def sg_cp1_4_a : sg_Cu := (10, 0, [(0, .inr (some (false, 17))), (1, .inr (some (false, 9)))], ([.inl 2, .inl 3], [([(.ofNat 1, 0)], .ofNat 6, .ofNat 6), ([(.ofNat 1, 1)], .ofNat 0, .ofNat 0)]), [])
theorem sg_cp1_4_ok : sg_chk z9 ex_mt k9 60 tX11_copyRow 10 15 sg_cp1_4 [] [sg_cp1_4_a] = true := by decide +kernel
def sg_cp2_4 : sg_Cu := (10, 0, [(0, .inr (some (false, 17))), (1, .inr (some (false, 9)))], ([.inl 2, .inl 3], [([(.ofNat 1, 0)], .ofNat 6, .ofNat 6), ([(.ofNat 1, 1)], .ofNat 0, .ofNat 5)]), [])
def sg_cp2_4_a : sg_Cu := (19, 0, [(0, .inr (some (false, 17))), (1, .inr (some (false, 9)))], ([.inl 2, .inl 3], [([(.ofNat 1, 1), (.negSucc 0, 4)], .ofNat 0, .ofNat 0), ([(.ofNat 1, 1), (.negSucc 0, 5)], .ofNat 0, .ofNat 0), ([(.ofNat 1, 0), (.negSucc 0, 2)], .ofNat 0, .ofNat 0), ([(.ofNat 1, 1), (.negSucc 0, 3)], .ofNat 0, .ofNat 0)]), [none, some (false, 17), none, some (false, 9)])
theorem sg_cp2_4_ok : sg_chk z9 ex_mt k9 60 tX11_copyRow 9 15 sg_cp2_4 [] [sg_cp2_4_a] = true := by decide +kernel
def sg_cp3_4 : sg_Cu := (21, 0, [(0, .inr (some (false, 17))), (1, .inr (some (false, 9)))], ([.inl 2, .inl 3], [([(.ofNat 1, 0)], .ofNat 6, .ofNat 6), ([(.ofNat 1, 1)], .ofNat 0, .ofNat 5)]), [])
def sg_cp3_4_a : sg_Cu := (10, 0, [(0, .inr (some (false, 17))), (1, .inr (some (false, 9)))], ([.inl 2, .inl 3], [([(.ofNat 1, 0), (.negSucc 0, 2)], .ofNat 0, .ofNat 0), ([(.ofNat 1, 1), (.negSucc 0, 3)], .negSucc 0, .negSucc 0)]), [])
theorem sg_cp3_4_ok : sg_chk z9 ex_mt k9 60 tX11_copyRow 4 15 sg_cp3_4 [] [sg_cp3_4_a] = true := by decide +kernel
def sg_cp4_4 : sg_Cu := (10, 0, [(0, .inr (some (false, 17))), (1, .inr (some (false, 9)))], ([.inl 2, .inl 3], [([(.ofNat 1, 0)], .ofNat 6, .ofNat 6), ([(.ofNat 1, 1)], .ofNat 6, .ofNat 6)]), [])
def sg_cp4_4_p0 : sx_Po := (0, false, [], [])
theorem sg_cp4_4_ok : sg_chk z9 ex_mt k9 60 tX11_copyRow 5 15 sg_cp4_4 [sg_cp4_4_p0] [] = true := by decide +kernel
def sg_cf4 : sg_Cu := (44, 0, [(0, .inr (some (false, 4))), (1, .inr (some (false, 12)))], ([], []), [])
def sg_cf4_a : sg_Cu := (52, 0, [(0, .inr (some (false, 4))), (1, .inr (some (false, 12)))], ([], []), [some (false, 9), some (false, 17)])
theorem sg_cf4_ok : sg_chk z9 ex_mt k9 60 tX9_copyFrom 6 20 sg_cf4 [] [sg_cf4_a] = true := by decide +kernel
def sg_cp1_5 : sg_Cu := (0, 0, [(0, .inr (some (false, 18))), (1, .inr (some (false, 10)))], ([], []), [])
def sg_cp1_5_a : sg_Cu := (10, 0, [(0, .inr (some (false, 18))), (1, .inr (some (false, 10)))], ([.inl 2, .inl 3], [([(.ofNat 1, 0)], .ofNat 6, .ofNat 6), ([(.ofNat 1, 1)], .ofNat 0, .ofNat 0)]), [])
theorem sg_cp1_5_ok : sg_chk z9 ex_mt k9 60 tX11_copyRow 10 15 sg_cp1_5 [] [sg_cp1_5_a] = true := by decide +kernel
def sg_cp2_5 : sg_Cu := (10, 0, [(0, .inr (some (false, 18))), (1, .inr (some (false, 10)))], ([.inl 2, .inl 3], [([(.ofNat 1, 0)], .ofNat 6, .ofNat 6), ([(.ofNat 1, 1)], .ofNat 0, .ofNat 5)]), [])
def sg_cp2_5_a : sg_Cu := (19, 0, [(0, .inr (some (false, 18))), (1, .inr (some (false, 10)))], ([.inl 2, .inl 3], [([(.ofNat 1, 1), (.negSucc 0, 4)], .ofNat 0, .ofNat 0), ([(.ofNat 1, 1), (.negSucc 0, 5)], .ofNat 0, .ofNat 0), ([(.ofNat 1, 0), (.negSucc 0, 2)], .ofNat 0, .ofNat 0), ([(.ofNat 1, 1), (.negSucc 0, 3)], .ofNat 0, .ofNat 0)]), [none, some (false, 18), none, some (false, 10)])
theorem sg_cp2_5_ok : sg_chk z9 ex_mt k9 60 tX11_copyRow 9 15 sg_cp2_5 [] [sg_cp2_5_a] = true := by decide +kernel
def sg_cp3_5 : sg_Cu := (21, 0, [(0, .inr (some (false, 18))), (1, .inr (some (false, 10)))], ([.inl 2, .inl 3], [([(.ofNat 1, 0)], .ofNat 6, .ofNat 6), ([(.ofNat 1, 1)], .ofNat 0, .ofNat 5)]), [])
def sg_cp3_5_a : sg_Cu := (10, 0, [(0, .inr (some (false, 18))), (1, .inr (some (false, 10)))], ([.inl 2, .inl 3], [([(.ofNat 1, 0), (.negSucc 0, 2)], .ofNat 0, .ofNat 0), ([(.ofNat 1, 1), (.negSucc 0, 3)], .negSucc 0, .negSucc 0)]), [])
theorem sg_cp3_5_ok : sg_chk z9 ex_mt k9 60 tX11_copyRow 4 15 sg_cp3_5 [] [sg_cp3_5_a] = true := by decide +kernel
def sg_cp4_5 : sg_Cu := (10, 0, [(0, .inr (some (false, 18))), (1, .inr (some (false, 10)))], ([.inl 2, .inl 3], [([(.ofNat 1, 0)], .ofNat 6, .ofNat 6), ([(.ofNat 1, 1)], .ofNat 6, .ofNat 6)]), [])
def sg_cp4_5_p0 : sx_Po := (0, false, [], [])
theorem sg_cp4_5_ok : sg_chk z9 ex_mt k9 60 tX11_copyRow 5 15 sg_cp4_5 [sg_cp4_5_p0] [] = true := by decide +kernel
def sg_cf5 : sg_Cu := (55, 0, [(0, .inr (some (false, 4))), (1, .inr (some (false, 12)))], ([], []), [])
def sg_cf5_a : sg_Cu := (63, 0, [(0, .inr (some (false, 4))), (1, .inr (some (false, 12)))], ([], []), [some (false, 10), some (false, 18)])
theorem sg_cf5_ok : sg_chk z9 ex_mt k9 60 tX9_copyFrom 6 20 sg_cf5 [] [sg_cf5_a] = true := by decide +kernel
def sg_cp1_6 : sg_Cu := (0, 0, [(0, .inr (some (false, 19))), (1, .inr (some (false, 11)))], ([], []), [])
def sg_cp1_6_a : sg_Cu := (10, 0, [(0, .inr (some (false, 19))), (1, .inr (some (false, 11)))], ([.inl 2, .inl 3], [([(.ofNat 1, 0)], .ofNat 8, .ofNat 8), ([(.ofNat 1, 1)], .ofNat 0, .ofNat 0)]), [])
theorem sg_cp1_6_ok : sg_chk z9 ex_mt k9 60 tX11_copyRow 10 15 sg_cp1_6 [] [sg_cp1_6_a] = true := by decide +kernel
def sg_cp2_6 : sg_Cu := (10, 0, [(0, .inr (some (false, 19))), (1, .inr (some (false, 11)))], ([.inl 2, .inl 3], [([(.ofNat 1, 0)], .ofNat 8, .ofNat 8), ([(.ofNat 1, 1)], .ofNat 0, .ofNat 7)]), [])
def sg_cp2_6_a : sg_Cu := (19, 0, [(0, .inr (some (false, 19))), (1, .inr (some (false, 11)))], ([.inl 2, .inl 3], [([(.ofNat 1, 1), (.negSucc 0, 4)], .ofNat 0, .ofNat 0), ([(.ofNat 1, 1), (.negSucc 0, 5)], .ofNat 0, .ofNat 0), ([(.ofNat 1, 0), (.negSucc 0, 2)], .ofNat 0, .ofNat 0), ([(.ofNat 1, 1), (.negSucc 0, 3)], .ofNat 0, .ofNat 0)]), [none, some (false, 19), none, some (false, 11)])
theorem sg_cp2_6_ok : sg_chk z9 ex_mt k9 60 tX11_copyRow 9 15 sg_cp2_6 [] [sg_cp2_6_a] = true := by decide +kernel
def sg_cp3_6 : sg_Cu := (21, 0, [(0, .inr (some (false, 19))), (1, .inr (some (false, 11)))], ([.inl 2, .inl 3], [([(.ofNat 1, 0)], .ofNat 8, .ofNat 8), ([(.ofNat 1, 1)], .ofNat 0, .ofNat 7)]), [])
def sg_cp3_6_a : sg_Cu := (10, 0, [(0, .inr (some (false, 19))), (1, .inr (some (false, 11)))], ([.inl 2, .inl 3], [([(.ofNat 1, 0), (.negSucc 0, 2)], .ofNat 0, .ofNat 0), ([(.ofNat 1, 1), (.negSucc 0, 3)], .negSucc 0, .negSucc 0)]), [])
theorem sg_cp3_6_ok : sg_chk z9 ex_mt k9 60 tX11_copyRow 4 15 sg_cp3_6 [] [sg_cp3_6_a] = true := by decide +kernel
def sg_cp4_6 : sg_Cu := (10, 0, [(0, .inr (some (false, 19))), (1, .inr (some (false, 11)))], ([.inl 2, .inl 3], [([(.ofNat 1, 0)], .ofNat 8, .ofNat 8), ([(.ofNat 1, 1)], .ofNat 8, .ofNat 8)]), [])
def sg_cp4_6_p0 : sx_Po := (0, false, [], [])
theorem sg_cp4_6_ok : sg_chk z9 ex_mt k9 60 tX11_copyRow 5 15 sg_cp4_6 [sg_cp4_6_p0] [] = true := by decide +kernel
def sg_cf6 : sg_Cu := (66, 0, [(0, .inr (some (false, 4))), (1, .inr (some (false, 12)))], ([], []), [])
def sg_cf6_a : sg_Cu := (74, 0, [(0, .inr (some (false, 4))), (1, .inr (some (false, 12)))], ([], []), [some (false, 11), some (false, 19)])
theorem sg_cf6_ok : sg_chk z9 ex_mt k9 60 tX9_copyFrom 6 20 sg_cf6 [] [sg_cf6_a] = true := by decide +kernel
def sg_cf7 : sg_Cu := (77, 0, [(0, .inr (some (false, 4))), (1, .inr (some (false, 12)))], ([.inr 786439, .inr 786440, .inr 786441, .inr 786442], [([(.ofNat 1, 0)], .ofNat 0, .ofNat 10), ([(.ofNat 1, 1)], .ofNat 0, .ofNat 6), ([(.ofNat 1, 2)], .negSucc 2147483647, .ofNat 2147483647), ([(.ofNat 1, 3)], .negSucc 2147483647, .ofNat 2147483647)]), [])
def sg_cf7_p0 : sx_Po := (1030792151040, false, [262151, 262152, 262153, 262154], [([(.ofNat 1, 0), (.negSucc 0, 4)], .ofNat 0, .ofNat 0), ([(.ofNat 1, 1), (.negSucc 0, 5)], .ofNat 0, .ofNat 0), ([(.ofNat 1, 2), (.negSucc 0, 6)], .ofNat 0, .ofNat 0), ([(.ofNat 1, 3), (.negSucc 0, 7)], .ofNat 0, .ofNat 0)])
theorem sg_cf7_ok : sg_chk z9 ex_mt k9 60 tX9_copyFrom 18 20 sg_cf7 [sg_cf7_p0] [] = true := by decide +kernel
def sg_cs1 : sg_Cu := (0, 0, [(0, .inr (some (false, 0)))], ([], []), [])
def sg_cs1_a : sg_Cu := (7, 0, [(0, .inr (some (false, 0)))], ([], [([(.ofNat 1, 0)], .ofNat 900, .ofNat 900)]), [none, some (false, 3)])
theorem sg_cs1_ok : sg_chk z9 ex_mt k9 60 tX11_station 5 60 sg_cs1 [] [sg_cs1_a] = true := by decide +kernel
def sg_cs2 : sg_Cu := (10, 0, [(0, .inr (some (false, 0)))], ([], []), [])
def sg_cs2_a : sg_Cu := (18, 0, [(0, .inr (some (false, 0)))], ([], []), [some (false, 3), some (false, 12)])
theorem sg_cs2_ok : sg_chk z9 ex_mt k9 60 tX11_station 6 60 sg_cs2 [] [sg_cs2_a] = true := by decide +kernel
def sg_cs3a : sg_Cu := (21, 0, [(0, .inr (some (false, 0)))], ([.inr 196615, .inr 196616], [([(.ofNat 1, 0)], .negSucc 2147483647, .ofNat 2147483647), ([(.ofNat 1, 1)], .ofNat 0, .ofNat 940), ([(.ofNat 1, 2)], .ofNat 0, .ofNat 0)]), [none])
def sg_cs3a_p0 : sx_Po := (327680, true, [65537, 16], [([(.ofNat 1, 1), (.ofNat 1, 3)], .negSucc 0, .negSucc 0), ([(.ofNat 1, 4)], .ofNat 0, .ofNat 0), ([(.ofNat 1, 0), (.negSucc 0, 5)], .ofNat 0, .ofNat 0)])
theorem sg_cs3a_ok : sg_chk z9 ex_mt k9 60 tX11_station 19 60 sg_cs3a [sg_cs3a_p0] [] = true := by decide +kernel
def sg_cs3b : sg_Cu := (21, 0, [(0, .inr (some (false, 0)))], ([.inr 196615], [([(.ofNat 1, 0)], .negSucc 2147483647, .ofNat 2147483647), ([(.ofNat 1, 1)], .ofNat 1, .ofNat 1)]), [none])
def sg_cs3b_a : sg_Cu := (63, 327680, [(0, .inr (some (false, 0)))], ([.inr 65537, .inr 16], [([(.ofNat 1, 2)], .ofNat 0, .ofNat 0), ([(.ofNat 1, 0), (.negSucc 0, 3)], .ofNat 0, .ofNat 0)]), [some (false, 12), some (false, 4)])
theorem sg_cs3b_ok : sg_chk z9 ex_mt k9 60 tX11_station 18 60 sg_cs3b [] [sg_cs3b_a] = true := by decide +kernel
def sg_cs4 : sg_Cu := (66, 0, [(0, .inr (some (false, 0)))], ([.inr 262153], [([(.ofNat 1, 0)], .negSucc 2147483647, .ofNat 2147483647)]), [])
def sg_cs4_p0 : sx_Po := (1545991186617599960349003439614961249021099984136100238717300346569359360, true, [4456465, 4456466, 4456467], [([(.ofNat 1, 0), (.negSucc 0, 1)], .ofNat 0, .ofNat 0), ([(.ofNat 1, 2)], .ofNat 0, .ofNat 0), ([(.ofNat 1, 3)], .ofNat 0, .ofNat 0), ([(.ofNat 1, 4)], .ofNat 0, .ofNat 0)])
theorem sg_cs4_ok : sg_chk z9 ex_mt k9 60 tX11_station 78 60 sg_cs4 [sg_cs4_p0] [] = true := by decide +kernel
section HR
variable {g : am_C} {L : Nat} {xs : Nat → Int32}
theorem sg_wo2a_run (G : sx_G0 g L xs z9 hd_C ex_mt) (hct : ∀ (mi : Nat) (T2 : ex_T) (c' : sx_Ct), ex_mt mi = some T2 → c' ∈ k9 mi → c'.1 < 60 → sx_Holds g z9 hd_C T2 c') {σ : am_S} {lw : List (Nat × Value)} {post : Option (Option Value) → am_S → Prop} (hM : sx_M z9 hd_C σ 0 0 σ) (hl : (0, Value.ref 3) ∈ lw) (hlr1 : (1, Value.retAddr 18087) ∈ lw) {m2 : Int32} (hl2 : (2, Value.int m2) ∈ lw) (bl2 : 0 ≤ m2.toInt ∧ m2.toInt ≤ 10) {m3 : Int32} (hl3 : (3, Value.int m3) ∈ lw) (bl3 : 0 ≤ m3.toInt ∧ m3.toInt ≤ 62) {m4 : Int32} (hl4 : (4, Value.int m4) ∈ lw) (bl4 : 0 ≤ m4.toInt ∧ m4.toInt ≤ 1) {m5 : Int32} (hl5 : (5, Value.int m5) ∈ lw) (bl5 : 0 ≤ m5.toInt ∧ m5.toInt ≤ 61) {n0 : Int32} (bk0 : 62 ≤ n0.toInt ∧ n0.toInt ≤ 62) {n1 : Int32} (bk1 : 0 ≤ n1.toInt ∧ n1.toInt ≤ 61) (bf0 : 0 ≤ 1 * m5.toInt + ((-1) * n1.toInt + 0) ∧ 1 * m5.toInt + ((-1) * n1.toInt + 0) ≤ 0) (cuta : ∀ (lw' : List (Nat × Value)) (m2' : Int32) (m3' : Int32) (m4' : Int32) (m5' : Int32) (n0' : Int32) (σ' : am_S), (0, Value.ref 3) ∈ lw' → (1, Value.retAddr 18087) ∈ lw' → (2, Value.int m2') ∈ lw' → (3, Value.int m3') ∈ lw' → (4, Value.int m4') ∈ lw' → (5, Value.int m5') ∈ lw' → (0 ≤ 1 * m5.toInt + ((-1) * n0'.toInt + 0) ∧ 1 * m5.toInt + ((-1) * n0'.toInt + 0) ≤ 0) → (0 ≤ 1 * m5.toInt + ((-1) * m5'.toInt + 0) ∧ 1 * m5.toInt + ((-1) * m5'.toInt + 0) ≤ 0) → (0 ≤ 1 * m2.toInt + ((-1) * m2'.toInt + 0) ∧ 1 * m2.toInt + ((-1) * m2'.toInt + 0) ≤ 0) → (0 ≤ 1 * m3.toInt + ((-1) * m3'.toInt + 0) ∧ 1 * m3.toInt + ((-1) * m3'.toInt + 0) ≤ 0) → (0 ≤ 1 * m4.toInt + ((-1) * m4'.toInt + 0) ∧ 1 * m4.toInt + ((-1) * m4'.toInt + 0) ≤ 0) → sx_M z9 hd_C σ 0 0 σ' → am_K g 15 tX6_wordOf.1 0 0 32 lw' [.int n0', .retAddr 18087] σ' post) : am_K g 15 tX6_wordOf.1 0 0 26 lw [.int n0, .int n1] σ post := by
  refine sg_seg (sw := [.int n0, .int n1]) (vs := [m2.toInt, m3.toInt, m4.toInt, m5.toInt]) (ws := [n0.toInt, n1.toInt]) G (mi := 252) rfl hct sg_wo2a_ok ⟨⟨m2, hl2, rfl⟩, ⟨⟨m3, hl3, rfl⟩, ⟨⟨m4, hl4, rfl⟩, ⟨⟨m5, hl5, rfl⟩, trivial⟩⟩⟩⟩ (hd_rfc hl (hd_rfcx hlr1 hd_rfn)) ⟨⟨n0, rfl, rfl⟩, ⟨⟨n1, rfl, rfl⟩, trivial⟩⟩ (hd_p1 rfl bl2.1 bl2.2 (hd_p1 rfl bl3.1 bl3.2 (hd_p1 rfl bl4.1 bl4.2 (hd_p1 rfl bl5.1 bl5.2 (hd_p1 rfl bk0.1 bk0.2 (hd_p1 rfl bk1.1 bk1.2 (hd_pf rfl bf0.1 bf0.2 hd_p0))))))) hM ?_ ?_
  · intro r σ' hq
    cases r with
    | none => exact hq.elim
    | some v =>
      obtain ⟨p, hp, hM2, ks, hk, hv⟩ := hq
      cases hp
  · intro u hu
    simp only [List.mem_cons, List.not_mem_nil, or_false] at hu
    rcases hu with rfl
    · intro lw' sw' vs' ws' σ' ⟨h1_0, h2, h3_0, h4, h5⟩
      obtain ⟨m2', vs1, rfl, hm2, h1_1⟩ := hd_srcl h1_0
      obtain ⟨m3', vs2, rfl, hm3, h1_2⟩ := hd_srcl h1_1
      obtain ⟨m4', vs3, rfl, hm4, h1_3⟩ := hd_srcl h1_2
      obtain ⟨m5', vs4, rfl, hm5, h1_4⟩ := hd_srcl h1_3
      obtain rfl := hd_src0 h1_4
      obtain ⟨n0', sw1, ws1, rfl, rfl, h3_1⟩ := hd_sti h3_0
      obtain ⟨sw2, rfl, h3_2⟩ := hd_strx h3_1
      obtain ⟨rfl, rfl⟩ := hd_st0 h3_2
      have hr9_0 := hd_rfh h2
      have hr9_1 := hd_rfhx (hd_rfT h2)
      obtain ⟨v0, e0, l0, u0⟩ := h4 _ (List.mem_cons_self)
      have g0 : 1 * m5.toInt + ((-1) * n0'.toInt + 0) = v0 := Option.some.inj e0
      obtain ⟨v1, e1, l1, u1⟩ := h4 _ (List.mem_cons_of_mem _ (List.mem_cons_self))
      have g1 : 1 * m5.toInt + ((-1) * m5'.toInt + 0) = v1 := Option.some.inj e1
      obtain ⟨v2, e2, l2, u2⟩ := h4 _ (List.mem_cons_of_mem _ (List.mem_cons_of_mem _ (List.mem_cons_self)))
      have g2 : 1 * m2.toInt + ((-1) * m2'.toInt + 0) = v2 := Option.some.inj e2
      obtain ⟨v3, e3, l3, u3⟩ := h4 _ (List.mem_cons_of_mem _ (List.mem_cons_of_mem _ (List.mem_cons_of_mem _ (List.mem_cons_self))))
      have g3 : 1 * m3.toInt + ((-1) * m3'.toInt + 0) = v3 := Option.some.inj e3
      obtain ⟨v4, e4, l4, u4⟩ := h4 _ (List.mem_cons_of_mem _ (List.mem_cons_of_mem _ (List.mem_cons_of_mem _ (List.mem_cons_of_mem _ (List.mem_cons_self)))))
      have g4 : 1 * m4.toInt + ((-1) * m4'.toInt + 0) = v4 := Option.some.inj e4
      exact cuta _ _ _ _ _ _ _ hr9_0 hr9_1 hm2 hm3 hm4 hm5 ⟨by rw [g0]; exact l0, by rw [g0]; exact u0⟩ ⟨by rw [g1]; exact l1, by rw [g1]; exact u1⟩ ⟨by rw [g2]; exact l2, by rw [g2]; exact u2⟩ ⟨by rw [g3]; exact l3, by rw [g3]; exact u3⟩ ⟨by rw [g4]; exact l4, by rw [g4]; exact u4⟩ h5
theorem sg_wo2b_run (G : sx_G0 g L xs z9 hd_C ex_mt) (hct : ∀ (mi : Nat) (T2 : ex_T) (c' : sx_Ct), ex_mt mi = some T2 → c' ∈ k9 mi → c'.1 < 60 → sx_Holds g z9 hd_C T2 c') {σ : am_S} {lw : List (Nat × Value)} {post : Option (Option Value) → am_S → Prop} (hM : sx_M z9 hd_C σ 0 0 σ) (hl : (0, Value.ref 3) ∈ lw) (hlr1 : (1, Value.retAddr 18087) ∈ lw) {m2 : Int32} (hl2 : (2, Value.int m2) ∈ lw) (bl2 : 0 ≤ m2.toInt ∧ m2.toInt ≤ 10) {m3 : Int32} (hl3 : (3, Value.int m3) ∈ lw) (bl3 : 0 ≤ m3.toInt ∧ m3.toInt ≤ 62) {m4 : Int32} (hl4 : (4, Value.int m4) ∈ lw) (bl4 : 0 ≤ m4.toInt ∧ m4.toInt ≤ 0) {m5 : Int32} (hl5 : (5, Value.int m5) ∈ lw) (bl5 : 0 ≤ m5.toInt ∧ m5.toInt ≤ 62) {n0 : Int32} (bk0 : 62 ≤ n0.toInt ∧ n0.toInt ≤ 62) {n1 : Int32} (bk1 : 62 ≤ n1.toInt ∧ n1.toInt ≤ 62) (ret0 : ∀ (r : Int32) (σ' : am_S), ((-1) ≤ 1 * r.toInt + 0 ∧ 1 * r.toInt + 0 ≤ (-1)) → sx_M z9 hd_C σ 0 0 σ' → post (some (some (.int r))) σ') : am_K g 15 tX6_wordOf.1 0 0 26 lw [.int n0, .int n1] σ post := by
  refine sg_seg (sw := [.int n0, .int n1]) (vs := [m2.toInt, m3.toInt, m4.toInt, m5.toInt]) (ws := [n0.toInt, n1.toInt]) G (mi := 252) rfl hct sg_wo2b_ok ⟨⟨m2, hl2, rfl⟩, ⟨⟨m3, hl3, rfl⟩, ⟨⟨m4, hl4, rfl⟩, ⟨⟨m5, hl5, rfl⟩, trivial⟩⟩⟩⟩ (hd_rfc hl (hd_rfcx hlr1 hd_rfn)) ⟨⟨n0, rfl, rfl⟩, ⟨⟨n1, rfl, rfl⟩, trivial⟩⟩ (hd_p1 rfl bl2.1 bl2.2 (hd_p1 rfl bl3.1 bl3.2 (hd_p1 rfl bl4.1 bl4.2 (hd_p1 rfl bl5.1 bl5.2 (hd_p1 rfl bk0.1 bk0.2 (hd_p1 rfl bk1.1 bk1.2 hd_p0)))))) hM ?_ ?_
  · intro r σ' hq
    cases r with
    | none => exact hq.elim
    | some v =>
      obtain ⟨p, hp, hM2, ks, hk, hv⟩ := hq
      simp only [List.mem_cons, List.not_mem_nil, or_false] at hp
      rcases hp with rfl
      · obtain rfl := hd_keys hk
        cases v with
        | none => exact hv.elim
        | some w9 =>
          obtain ⟨r, rfl, hP⟩ := hv
          obtain ⟨v0, e0, l0, u0⟩ := hP _ (List.mem_cons_self)
          have g0 : 1 * r.toInt + 0 = v0 := Option.some.inj e0
          exact ret0 r _ ⟨by rw [g0]; exact l0, by rw [g0]; exact u0⟩ hM2
  · intro u hu
    cases hu
theorem sg_wo2c_run (G : sx_G0 g L xs z9 hd_C ex_mt) (hct : ∀ (mi : Nat) (T2 : ex_T) (c' : sx_Ct), ex_mt mi = some T2 → c' ∈ k9 mi → c'.1 < 60 → sx_Holds g z9 hd_C T2 c') {σ : am_S} {lw : List (Nat × Value)} {post : Option (Option Value) → am_S → Prop} (hM : sx_M z9 hd_C σ 0 0 σ) (hl : (0, Value.ref 3) ∈ lw) (hlr1 : (1, Value.retAddr 18087) ∈ lw) {m2 : Int32} (hl2 : (2, Value.int m2) ∈ lw) (bl2 : 0 ≤ m2.toInt ∧ m2.toInt ≤ 10) {m3 : Int32} (hl3 : (3, Value.int m3) ∈ lw) (bl3 : 0 ≤ m3.toInt ∧ m3.toInt ≤ 62) {m4 : Int32} (hl4 : (4, Value.int m4) ∈ lw) (bl4 : 1 ≤ m4.toInt ∧ m4.toInt ≤ 1) {m5 : Int32} (hl5 : (5, Value.int m5) ∈ lw) (bl5 : 0 ≤ m5.toInt ∧ m5.toInt ≤ 62) {n0 : Int32} (bk0 : 62 ≤ n0.toInt ∧ n0.toInt ≤ 62) {n1 : Int32} (bk1 : 62 ≤ n1.toInt ∧ n1.toInt ≤ 62) (bf0 : (-4611686018427387904) ≤ 1 * m3.toInt + ((-1) * (σ.2.1 3 5).toInt + 0) ∧ 1 * m3.toInt + ((-1) * (σ.2.1 3 5).toInt + 0) ≤ (-1)) (ret0 : ∀ (r : Int32) (σ' : am_S), ((-1) ≤ 1 * r.toInt + 0 ∧ 1 * r.toInt + 0 ≤ (-1)) → sx_M z9 hd_C σ 0 0 σ' → post (some (some (.int r))) σ') : am_K g 15 tX6_wordOf.1 0 0 26 lw [.int n0, .int n1] σ post := by
  refine sg_seg (sw := [.int n0, .int n1]) (vs := [m2.toInt, m3.toInt, m4.toInt, m5.toInt, (σ.2.1 3 5).toInt]) (ws := [n0.toInt, n1.toInt]) G (mi := 252) rfl hct sg_wo2c_ok ⟨⟨m2, hl2, rfl⟩, ⟨⟨m3, hl3, rfl⟩, ⟨⟨m4, hl4, rfl⟩, ⟨⟨m5, hl5, rfl⟩, ⟨rfl, trivial⟩⟩⟩⟩⟩ (hd_rfc hl (hd_rfcx hlr1 hd_rfn)) ⟨⟨n0, rfl, rfl⟩, ⟨⟨n1, rfl, rfl⟩, trivial⟩⟩ (hd_p1 rfl bl2.1 bl2.2 (hd_p1 rfl bl3.1 bl3.2 (hd_p1 rfl bl4.1 bl4.2 (hd_p1 rfl bl5.1 bl5.2 (hd_p1 rfl (hd_kd_3_5 hM).1 (hd_kd_3_5 hM).2 (hd_p1 rfl bk0.1 bk0.2 (hd_p1 rfl bk1.1 bk1.2 (hd_pf rfl bf0.1 bf0.2 hd_p0)))))))) hM ?_ ?_
  · intro r σ' hq
    cases r with
    | none => exact hq.elim
    | some v =>
      obtain ⟨p, hp, hM2, ks, hk, hv⟩ := hq
      simp only [List.mem_cons, List.not_mem_nil, or_false] at hp
      rcases hp with rfl
      · obtain rfl := hd_keys hk
        cases v with
        | none => exact hv.elim
        | some w9 =>
          obtain ⟨r, rfl, hP⟩ := hv
          obtain ⟨v0, e0, l0, u0⟩ := hP _ (List.mem_cons_self)
          have g0 : 1 * r.toInt + 0 = v0 := Option.some.inj e0
          exact ret0 r _ ⟨by rw [g0]; exact l0, by rw [g0]; exact u0⟩ hM2
  · intro u hu
    cases hu
theorem sg_wo2d_run (G : sx_G0 g L xs z9 hd_C ex_mt) (hct : ∀ (mi : Nat) (T2 : ex_T) (c' : sx_Ct), ex_mt mi = some T2 → c' ∈ k9 mi → c'.1 < 60 → sx_Holds g z9 hd_C T2 c') {σ : am_S} {lw : List (Nat × Value)} {post : Option (Option Value) → am_S → Prop} (hM : sx_M z9 hd_C σ 0 0 σ) (hl : (0, Value.ref 3) ∈ lw) (hlr1 : (1, Value.retAddr 18087) ∈ lw) {m2 : Int32} (hl2 : (2, Value.int m2) ∈ lw) (bl2 : 0 ≤ m2.toInt ∧ m2.toInt ≤ 10) {m3 : Int32} (hl3 : (3, Value.int m3) ∈ lw) (bl3 : 0 ≤ m3.toInt ∧ m3.toInt ≤ 62) {m4 : Int32} (hl4 : (4, Value.int m4) ∈ lw) (bl4 : 1 ≤ m4.toInt ∧ m4.toInt ≤ 1) {m5 : Int32} (hl5 : (5, Value.int m5) ∈ lw) (bl5 : 0 ≤ m5.toInt ∧ m5.toInt ≤ 62) {n0 : Int32} (bk0 : 62 ≤ n0.toInt ∧ n0.toInt ≤ 62) {n1 : Int32} (bk1 : 62 ≤ n1.toInt ∧ n1.toInt ≤ 62) (bf0 : 1 ≤ 1 * m3.toInt + ((-1) * (σ.2.1 3 5).toInt + 0) ∧ 1 * m3.toInt + ((-1) * (σ.2.1 3 5).toInt + 0) ≤ 4611686018427387904) (ret0 : ∀ (r : Int32) (σ' : am_S), ((-1) ≤ 1 * r.toInt + 0 ∧ 1 * r.toInt + 0 ≤ (-1)) → sx_M z9 hd_C σ 0 0 σ' → post (some (some (.int r))) σ') : am_K g 15 tX6_wordOf.1 0 0 26 lw [.int n0, .int n1] σ post := by
  refine sg_seg (sw := [.int n0, .int n1]) (vs := [m2.toInt, m3.toInt, m4.toInt, m5.toInt, (σ.2.1 3 5).toInt]) (ws := [n0.toInt, n1.toInt]) G (mi := 252) rfl hct sg_wo2d_ok ⟨⟨m2, hl2, rfl⟩, ⟨⟨m3, hl3, rfl⟩, ⟨⟨m4, hl4, rfl⟩, ⟨⟨m5, hl5, rfl⟩, ⟨rfl, trivial⟩⟩⟩⟩⟩ (hd_rfc hl (hd_rfcx hlr1 hd_rfn)) ⟨⟨n0, rfl, rfl⟩, ⟨⟨n1, rfl, rfl⟩, trivial⟩⟩ (hd_p1 rfl bl2.1 bl2.2 (hd_p1 rfl bl3.1 bl3.2 (hd_p1 rfl bl4.1 bl4.2 (hd_p1 rfl bl5.1 bl5.2 (hd_p1 rfl (hd_kd_3_5 hM).1 (hd_kd_3_5 hM).2 (hd_p1 rfl bk0.1 bk0.2 (hd_p1 rfl bk1.1 bk1.2 (hd_pf rfl bf0.1 bf0.2 hd_p0)))))))) hM ?_ ?_
  · intro r σ' hq
    cases r with
    | none => exact hq.elim
    | some v =>
      obtain ⟨p, hp, hM2, ks, hk, hv⟩ := hq
      simp only [List.mem_cons, List.not_mem_nil, or_false] at hp
      rcases hp with rfl
      · obtain rfl := hd_keys hk
        cases v with
        | none => exact hv.elim
        | some w9 =>
          obtain ⟨r, rfl, hP⟩ := hv
          obtain ⟨v0, e0, l0, u0⟩ := hP _ (List.mem_cons_self)
          have g0 : 1 * r.toInt + 0 = v0 := Option.some.inj e0
          exact ret0 r _ ⟨by rw [g0]; exact l0, by rw [g0]; exact u0⟩ hM2
  · intro u hu
    cases hu
theorem sg_wo2e_run (G : sx_G0 g L xs z9 hd_C ex_mt) (hct : ∀ (mi : Nat) (T2 : ex_T) (c' : sx_Ct), ex_mt mi = some T2 → c' ∈ k9 mi → c'.1 < 60 → sx_Holds g z9 hd_C T2 c') {σ : am_S} {lw : List (Nat × Value)} {post : Option (Option Value) → am_S → Prop} (hM : sx_M z9 hd_C σ 0 0 σ) (hl : (0, Value.ref 3) ∈ lw) (hlr1 : (1, Value.retAddr 18087) ∈ lw) {m2 : Int32} (hl2 : (2, Value.int m2) ∈ lw) (bl2 : 0 ≤ m2.toInt ∧ m2.toInt ≤ 10) {m3 : Int32} (hl3 : (3, Value.int m3) ∈ lw) (bl3 : 0 ≤ m3.toInt ∧ m3.toInt ≤ 62) {m4 : Int32} (hl4 : (4, Value.int m4) ∈ lw) (bl4 : 1 ≤ m4.toInt ∧ m4.toInt ≤ 1) {m5 : Int32} (hl5 : (5, Value.int m5) ∈ lw) (bl5 : 0 ≤ m5.toInt ∧ m5.toInt ≤ 62) {n0 : Int32} (bk0 : 62 ≤ n0.toInt ∧ n0.toInt ≤ 62) {n1 : Int32} (bk1 : 62 ≤ n1.toInt ∧ n1.toInt ≤ 62) (bf0 : 0 ≤ 1 * m3.toInt + ((-1) * (σ.2.1 3 5).toInt + 0) ∧ 1 * m3.toInt + ((-1) * (σ.2.1 3 5).toInt + 0) ≤ 0) (ret0 : ∀ (r : Int32) (σ' : am_S), (0 ≤ 1 * m2.toInt + ((-1) * r.toInt + 0) ∧ 1 * m2.toInt + ((-1) * r.toInt + 0) ≤ 0) → sx_M z9 hd_C σ 0 0 σ' → post (some (some (.int r))) σ') : am_K g 15 tX6_wordOf.1 0 0 26 lw [.int n0, .int n1] σ post := by
  refine sg_seg (sw := [.int n0, .int n1]) (vs := [m2.toInt, m3.toInt, m4.toInt, m5.toInt, (σ.2.1 3 5).toInt]) (ws := [n0.toInt, n1.toInt]) G (mi := 252) rfl hct sg_wo2e_ok ⟨⟨m2, hl2, rfl⟩, ⟨⟨m3, hl3, rfl⟩, ⟨⟨m4, hl4, rfl⟩, ⟨⟨m5, hl5, rfl⟩, ⟨rfl, trivial⟩⟩⟩⟩⟩ (hd_rfc hl (hd_rfcx hlr1 hd_rfn)) ⟨⟨n0, rfl, rfl⟩, ⟨⟨n1, rfl, rfl⟩, trivial⟩⟩ (hd_p1 rfl bl2.1 bl2.2 (hd_p1 rfl bl3.1 bl3.2 (hd_p1 rfl bl4.1 bl4.2 (hd_p1 rfl bl5.1 bl5.2 (hd_p1 rfl (hd_kd_3_5 hM).1 (hd_kd_3_5 hM).2 (hd_p1 rfl bk0.1 bk0.2 (hd_p1 rfl bk1.1 bk1.2 (hd_pf rfl bf0.1 bf0.2 hd_p0)))))))) hM ?_ ?_
  · intro r σ' hq
    cases r with
    | none => exact hq.elim
    | some v =>
      obtain ⟨p, hp, hM2, ks, hk, hv⟩ := hq
      simp only [List.mem_cons, List.not_mem_nil, or_false] at hp
      rcases hp with rfl
      · obtain rfl := hd_keys hk
        cases v with
        | none => exact hv.elim
        | some w9 =>
          obtain ⟨r, rfl, hP⟩ := hv
          obtain ⟨v0, e0, l0, u0⟩ := hP _ (List.mem_cons_self)
          have g0 : 1 * m2.toInt + ((-1) * r.toInt + 0) = v0 := Option.some.inj e0
          exact ret0 r _ ⟨by rw [g0]; exact l0, by rw [g0]; exact u0⟩ hM2
  · intro u hu
    cases hu
theorem sg_wo3a_run (G : sx_G0 g L xs z9 hd_C ex_mt) (hct : ∀ (mi : Nat) (T2 : ex_T) (c' : sx_Ct), ex_mt mi = some T2 → c' ∈ k9 mi → c'.1 < 60 → sx_Holds g z9 hd_C T2 c') {σ : am_S} {lw : List (Nat × Value)} {post : Option (Option Value) → am_S → Prop} (hM : sx_M z9 hd_C σ 0 0 σ) (hl : (0, Value.ref 3) ∈ lw) (hlr1 : (1, Value.retAddr 18087) ∈ lw) {m2 : Int32} (hl2 : (2, Value.int m2) ∈ lw) (bl2 : 0 ≤ m2.toInt ∧ m2.toInt ≤ 10) {m3 : Int32} (hl3 : (3, Value.int m3) ∈ lw) (bl3 : 0 ≤ m3.toInt ∧ m3.toInt ≤ 62) {m4 : Int32} (hl4 : (4, Value.int m4) ∈ lw) (bl4 : 1 ≤ m4.toInt ∧ m4.toInt ≤ 1) {m5 : Int32} (hl5 : (5, Value.int m5) ∈ lw) (bl5 : 0 ≤ m5.toInt ∧ m5.toInt ≤ 62) {n0 : Int32} (bk0 : 32 ≤ n0.toInt ∧ n0.toInt ≤ 32) (bf0 : 0 ≤ 1 * m3.toInt + ((-1) * (σ.2.1 3 5).toInt + 0) ∧ 1 * m3.toInt + ((-1) * (σ.2.1 3 5).toInt + 0) ≤ 0) (ret0 : ∀ (r : Int32) (σ' : am_S), (0 ≤ 1 * m2.toInt + ((-1) * r.toInt + 0) ∧ 1 * m2.toInt + ((-1) * r.toInt + 0) ≤ 0) → sx_M z9 hd_C σ 0 0 σ' → post (some (some (.int r))) σ') : am_K g 15 tX6_wordOf.1 0 0 35 lw [.int n0] σ post := by
  refine sg_seg (sw := [.int n0]) (vs := [m2.toInt, m3.toInt, m4.toInt, m5.toInt, (σ.2.1 3 5).toInt]) (ws := [n0.toInt]) G (mi := 252) rfl hct sg_wo3a_ok ⟨⟨m2, hl2, rfl⟩, ⟨⟨m3, hl3, rfl⟩, ⟨⟨m4, hl4, rfl⟩, ⟨⟨m5, hl5, rfl⟩, ⟨rfl, trivial⟩⟩⟩⟩⟩ (hd_rfc hl (hd_rfcx hlr1 hd_rfn)) ⟨⟨n0, rfl, rfl⟩, trivial⟩ (hd_p1 rfl bl2.1 bl2.2 (hd_p1 rfl bl3.1 bl3.2 (hd_p1 rfl bl4.1 bl4.2 (hd_p1 rfl bl5.1 bl5.2 (hd_p1 rfl (hd_kd_3_5 hM).1 (hd_kd_3_5 hM).2 (hd_p1 rfl bk0.1 bk0.2 (hd_pf rfl bf0.1 bf0.2 hd_p0))))))) hM ?_ ?_
  · intro r σ' hq
    cases r with
    | none => exact hq.elim
    | some v =>
      obtain ⟨p, hp, hM2, ks, hk, hv⟩ := hq
      simp only [List.mem_cons, List.not_mem_nil, or_false] at hp
      rcases hp with rfl
      · obtain rfl := hd_keys hk
        cases v with
        | none => exact hv.elim
        | some w9 =>
          obtain ⟨r, rfl, hP⟩ := hv
          obtain ⟨v0, e0, l0, u0⟩ := hP _ (List.mem_cons_self)
          have g0 : 1 * m2.toInt + ((-1) * r.toInt + 0) = v0 := Option.some.inj e0
          exact ret0 r _ ⟨by rw [g0]; exact l0, by rw [g0]; exact u0⟩ hM2
  · intro u hu
    cases hu
theorem sg_wo3b_run (G : sx_G0 g L xs z9 hd_C ex_mt) (hct : ∀ (mi : Nat) (T2 : ex_T) (c' : sx_Ct), ex_mt mi = some T2 → c' ∈ k9 mi → c'.1 < 60 → sx_Holds g z9 hd_C T2 c') {σ : am_S} {lw : List (Nat × Value)} {post : Option (Option Value) → am_S → Prop} (hM : sx_M z9 hd_C σ 0 0 σ) (hl : (0, Value.ref 3) ∈ lw) (hlr1 : (1, Value.retAddr 18087) ∈ lw) {m2 : Int32} (hl2 : (2, Value.int m2) ∈ lw) (bl2 : 0 ≤ m2.toInt ∧ m2.toInt ≤ 9) {m3 : Int32} (hl3 : (3, Value.int m3) ∈ lw) (bl3 : 0 ≤ m3.toInt ∧ m3.toInt ≤ 62) {m4 : Int32} (hl4 : (4, Value.int m4) ∈ lw) (bl4 : 1 ≤ m4.toInt ∧ m4.toInt ≤ 1) {m5 : Int32} (hl5 : (5, Value.int m5) ∈ lw) (bl5 : 0 ≤ m5.toInt ∧ m5.toInt ≤ 61) {n0 : Int32} (bk0 : 32 ≤ n0.toInt ∧ n0.toInt ≤ 32) (bf0 : (-4611686018427387904) ≤ 1 * m3.toInt + ((-1) * (σ.2.1 3 5).toInt + 0) ∧ 1 * m3.toInt + ((-1) * (σ.2.1 3 5).toInt + 0) ≤ (-1)) (cuta : ∀ (lw' : List (Nat × Value)) (m2' : Int32) (m3' : Int32) (m4' : Int32) (m5' : Int32) (n0' : Int32) (σ' : am_S), (0, Value.ref 3) ∈ lw' → (1, Value.retAddr 18087) ∈ lw' → (2, Value.int m2') ∈ lw' → (3, Value.int m3') ∈ lw' → (4, Value.int m4') ∈ lw' → (5, Value.int m5') ∈ lw' → ((-1) ≤ 1 * m5.toInt + ((-1) * m5'.toInt + 0) ∧ 1 * m5.toInt + ((-1) * m5'.toInt + 0) ≤ (-1)) → ((-1) ≤ 1 * m5.toInt + ((-1) * n0'.toInt + 0) ∧ 1 * m5.toInt + ((-1) * n0'.toInt + 0) ≤ (-1)) → ((-1) ≤ 1 * m2.toInt + ((-1) * m2'.toInt + 0) ∧ 1 * m2.toInt + ((-1) * m2'.toInt + 0) ≤ (-1)) → (0 ≤ 1 * m3'.toInt + 0 ∧ 1 * m3'.toInt + 0 ≤ 0) → (1 ≤ 1 * m4'.toInt + 0 ∧ 1 * m4'.toInt + 0 ≤ 1) → sx_M z9 hd_C σ 0 0 σ' → am_K g 15 tX6_wordOf.1 0 0 23 lw' [.retAddr 18087, .int n0'] σ' post) : am_K g 15 tX6_wordOf.1 0 0 35 lw [.int n0] σ post := by
  refine sg_seg (sw := [.int n0]) (vs := [m2.toInt, m3.toInt, m4.toInt, m5.toInt, (σ.2.1 3 5).toInt]) (ws := [n0.toInt]) G (mi := 252) rfl hct sg_wo3b_ok ⟨⟨m2, hl2, rfl⟩, ⟨⟨m3, hl3, rfl⟩, ⟨⟨m4, hl4, rfl⟩, ⟨⟨m5, hl5, rfl⟩, ⟨rfl, trivial⟩⟩⟩⟩⟩ (hd_rfc hl (hd_rfcx hlr1 hd_rfn)) ⟨⟨n0, rfl, rfl⟩, trivial⟩ (hd_p1 rfl bl2.1 bl2.2 (hd_p1 rfl bl3.1 bl3.2 (hd_p1 rfl bl4.1 bl4.2 (hd_p1 rfl bl5.1 bl5.2 (hd_p1 rfl (hd_kd_3_5 hM).1 (hd_kd_3_5 hM).2 (hd_p1 rfl bk0.1 bk0.2 (hd_pf rfl bf0.1 bf0.2 hd_p0))))))) hM ?_ ?_
  · intro r σ' hq
    cases r with
    | none => exact hq.elim
    | some v =>
      obtain ⟨p, hp, hM2, ks, hk, hv⟩ := hq
      cases hp
  · intro u hu
    simp only [List.mem_cons, List.not_mem_nil, or_false] at hu
    rcases hu with rfl
    · intro lw' sw' vs' ws' σ' ⟨h1_0, h2, h3_0, h4, h5⟩
      obtain ⟨m2', vs1, rfl, hm2, h1_1⟩ := hd_srcl h1_0
      obtain ⟨m3', vs2, rfl, hm3, h1_2⟩ := hd_srcl h1_1
      obtain ⟨m4', vs3, rfl, hm4, h1_3⟩ := hd_srcl h1_2
      obtain ⟨m5', vs4, rfl, hm5, h1_4⟩ := hd_srcl h1_3
      obtain rfl := hd_src0 h1_4
      obtain ⟨sw1, rfl, h3_1⟩ := hd_strx h3_0
      obtain ⟨n0', sw2, ws2, rfl, rfl, h3_2⟩ := hd_sti h3_1
      obtain ⟨rfl, rfl⟩ := hd_st0 h3_2
      have hr9_0 := hd_rfh h2
      have hr9_1 := hd_rfhx (hd_rfT h2)
      obtain ⟨v0, e0, l0, u0⟩ := h4 _ (List.mem_cons_self)
      have g0 : 1 * m5.toInt + ((-1) * m5'.toInt + 0) = v0 := Option.some.inj e0
      obtain ⟨v1, e1, l1, u1⟩ := h4 _ (List.mem_cons_of_mem _ (List.mem_cons_self))
      have g1 : 1 * m5.toInt + ((-1) * n0'.toInt + 0) = v1 := Option.some.inj e1
      obtain ⟨v2, e2, l2, u2⟩ := h4 _ (List.mem_cons_of_mem _ (List.mem_cons_of_mem _ (List.mem_cons_self)))
      have g2 : 1 * m2.toInt + ((-1) * m2'.toInt + 0) = v2 := Option.some.inj e2
      obtain ⟨v3, e3, l3, u3⟩ := h4 _ (List.mem_cons_of_mem _ (List.mem_cons_of_mem _ (List.mem_cons_of_mem _ (List.mem_cons_self))))
      have g3 : 1 * m3'.toInt + 0 = v3 := Option.some.inj e3
      obtain ⟨v4, e4, l4, u4⟩ := h4 _ (List.mem_cons_of_mem _ (List.mem_cons_of_mem _ (List.mem_cons_of_mem _ (List.mem_cons_of_mem _ (List.mem_cons_self)))))
      have g4 : 1 * m4'.toInt + 0 = v4 := Option.some.inj e4
      exact cuta _ _ _ _ _ _ _ hr9_0 hr9_1 hm2 hm3 hm4 hm5 ⟨by rw [g0]; exact l0, by rw [g0]; exact u0⟩ ⟨by rw [g1]; exact l1, by rw [g1]; exact u1⟩ ⟨by rw [g2]; exact l2, by rw [g2]; exact u2⟩ ⟨by rw [g3]; exact l3, by rw [g3]; exact u3⟩ ⟨by rw [g4]; exact l4, by rw [g4]; exact u4⟩ h5
theorem sg_wo3c_run (G : sx_G0 g L xs z9 hd_C ex_mt) (hct : ∀ (mi : Nat) (T2 : ex_T) (c' : sx_Ct), ex_mt mi = some T2 → c' ∈ k9 mi → c'.1 < 60 → sx_Holds g z9 hd_C T2 c') {σ : am_S} {lw : List (Nat × Value)} {post : Option (Option Value) → am_S → Prop} (hM : sx_M z9 hd_C σ 0 0 σ) (hl : (0, Value.ref 3) ∈ lw) (hlr1 : (1, Value.retAddr 18087) ∈ lw) {m2 : Int32} (hl2 : (2, Value.int m2) ∈ lw) (bl2 : 0 ≤ m2.toInt ∧ m2.toInt ≤ 9) {m3 : Int32} (hl3 : (3, Value.int m3) ∈ lw) (bl3 : 0 ≤ m3.toInt ∧ m3.toInt ≤ 62) {m4 : Int32} (hl4 : (4, Value.int m4) ∈ lw) (bl4 : 1 ≤ m4.toInt ∧ m4.toInt ≤ 1) {m5 : Int32} (hl5 : (5, Value.int m5) ∈ lw) (bl5 : 0 ≤ m5.toInt ∧ m5.toInt ≤ 61) {n0 : Int32} (bk0 : 32 ≤ n0.toInt ∧ n0.toInt ≤ 32) (bf0 : 1 ≤ 1 * m3.toInt + ((-1) * (σ.2.1 3 5).toInt + 0) ∧ 1 * m3.toInt + ((-1) * (σ.2.1 3 5).toInt + 0) ≤ 4611686018427387904) (cuta : ∀ (lw' : List (Nat × Value)) (m2' : Int32) (m3' : Int32) (m4' : Int32) (m5' : Int32) (n0' : Int32) (σ' : am_S), (0, Value.ref 3) ∈ lw' → (1, Value.retAddr 18087) ∈ lw' → (2, Value.int m2') ∈ lw' → (3, Value.int m3') ∈ lw' → (4, Value.int m4') ∈ lw' → (5, Value.int m5') ∈ lw' → ((-1) ≤ 1 * m5.toInt + ((-1) * m5'.toInt + 0) ∧ 1 * m5.toInt + ((-1) * m5'.toInt + 0) ≤ (-1)) → ((-1) ≤ 1 * m5.toInt + ((-1) * n0'.toInt + 0) ∧ 1 * m5.toInt + ((-1) * n0'.toInt + 0) ≤ (-1)) → ((-1) ≤ 1 * m2.toInt + ((-1) * m2'.toInt + 0) ∧ 1 * m2.toInt + ((-1) * m2'.toInt + 0) ≤ (-1)) → (0 ≤ 1 * m3'.toInt + 0 ∧ 1 * m3'.toInt + 0 ≤ 0) → (1 ≤ 1 * m4'.toInt + 0 ∧ 1 * m4'.toInt + 0 ≤ 1) → sx_M z9 hd_C σ 0 0 σ' → am_K g 15 tX6_wordOf.1 0 0 23 lw' [.retAddr 18087, .int n0'] σ' post) : am_K g 15 tX6_wordOf.1 0 0 35 lw [.int n0] σ post := by
  refine sg_seg (sw := [.int n0]) (vs := [m2.toInt, m3.toInt, m4.toInt, m5.toInt, (σ.2.1 3 5).toInt]) (ws := [n0.toInt]) G (mi := 252) rfl hct sg_wo3c_ok ⟨⟨m2, hl2, rfl⟩, ⟨⟨m3, hl3, rfl⟩, ⟨⟨m4, hl4, rfl⟩, ⟨⟨m5, hl5, rfl⟩, ⟨rfl, trivial⟩⟩⟩⟩⟩ (hd_rfc hl (hd_rfcx hlr1 hd_rfn)) ⟨⟨n0, rfl, rfl⟩, trivial⟩ (hd_p1 rfl bl2.1 bl2.2 (hd_p1 rfl bl3.1 bl3.2 (hd_p1 rfl bl4.1 bl4.2 (hd_p1 rfl bl5.1 bl5.2 (hd_p1 rfl (hd_kd_3_5 hM).1 (hd_kd_3_5 hM).2 (hd_p1 rfl bk0.1 bk0.2 (hd_pf rfl bf0.1 bf0.2 hd_p0))))))) hM ?_ ?_
  · intro r σ' hq
    cases r with
    | none => exact hq.elim
    | some v =>
      obtain ⟨p, hp, hM2, ks, hk, hv⟩ := hq
      cases hp
  · intro u hu
    simp only [List.mem_cons, List.not_mem_nil, or_false] at hu
    rcases hu with rfl
    · intro lw' sw' vs' ws' σ' ⟨h1_0, h2, h3_0, h4, h5⟩
      obtain ⟨m2', vs1, rfl, hm2, h1_1⟩ := hd_srcl h1_0
      obtain ⟨m3', vs2, rfl, hm3, h1_2⟩ := hd_srcl h1_1
      obtain ⟨m4', vs3, rfl, hm4, h1_3⟩ := hd_srcl h1_2
      obtain ⟨m5', vs4, rfl, hm5, h1_4⟩ := hd_srcl h1_3
      obtain rfl := hd_src0 h1_4
      obtain ⟨sw1, rfl, h3_1⟩ := hd_strx h3_0
      obtain ⟨n0', sw2, ws2, rfl, rfl, h3_2⟩ := hd_sti h3_1
      obtain ⟨rfl, rfl⟩ := hd_st0 h3_2
      have hr9_0 := hd_rfh h2
      have hr9_1 := hd_rfhx (hd_rfT h2)
      obtain ⟨v0, e0, l0, u0⟩ := h4 _ (List.mem_cons_self)
      have g0 : 1 * m5.toInt + ((-1) * m5'.toInt + 0) = v0 := Option.some.inj e0
      obtain ⟨v1, e1, l1, u1⟩ := h4 _ (List.mem_cons_of_mem _ (List.mem_cons_self))
      have g1 : 1 * m5.toInt + ((-1) * n0'.toInt + 0) = v1 := Option.some.inj e1
      obtain ⟨v2, e2, l2, u2⟩ := h4 _ (List.mem_cons_of_mem _ (List.mem_cons_of_mem _ (List.mem_cons_self)))
      have g2 : 1 * m2.toInt + ((-1) * m2'.toInt + 0) = v2 := Option.some.inj e2
      obtain ⟨v3, e3, l3, u3⟩ := h4 _ (List.mem_cons_of_mem _ (List.mem_cons_of_mem _ (List.mem_cons_of_mem _ (List.mem_cons_self))))
      have g3 : 1 * m3'.toInt + 0 = v3 := Option.some.inj e3
      obtain ⟨v4, e4, l4, u4⟩ := h4 _ (List.mem_cons_of_mem _ (List.mem_cons_of_mem _ (List.mem_cons_of_mem _ (List.mem_cons_of_mem _ (List.mem_cons_self)))))
      have g4 : 1 * m4'.toInt + 0 = v4 := Option.some.inj e4
      exact cuta _ _ _ _ _ _ _ hr9_0 hr9_1 hm2 hm3 hm4 hm5 ⟨by rw [g0]; exact l0, by rw [g0]; exact u0⟩ ⟨by rw [g1]; exact l1, by rw [g1]; exact u1⟩ ⟨by rw [g2]; exact l2, by rw [g2]; exact u2⟩ ⟨by rw [g3]; exact l3, by rw [g3]; exact u3⟩ ⟨by rw [g4]; exact l4, by rw [g4]; exact u4⟩ h5
theorem sg_wo3d_run (G : sx_G0 g L xs z9 hd_C ex_mt) (hct : ∀ (mi : Nat) (T2 : ex_T) (c' : sx_Ct), ex_mt mi = some T2 → c' ∈ k9 mi → c'.1 < 60 → sx_Holds g z9 hd_C T2 c') {σ : am_S} {lw : List (Nat × Value)} {post : Option (Option Value) → am_S → Prop} (hM : sx_M z9 hd_C σ 0 0 σ) (hl : (0, Value.ref 3) ∈ lw) (hlr1 : (1, Value.retAddr 18087) ∈ lw) {m2 : Int32} (hl2 : (2, Value.int m2) ∈ lw) (bl2 : 0 ≤ m2.toInt ∧ m2.toInt ≤ 9) {m3 : Int32} (hl3 : (3, Value.int m3) ∈ lw) (bl3 : 0 ≤ m3.toInt ∧ m3.toInt ≤ 62) {m4 : Int32} (hl4 : (4, Value.int m4) ∈ lw) (bl4 : 0 ≤ m4.toInt ∧ m4.toInt ≤ 0) {m5 : Int32} (hl5 : (5, Value.int m5) ∈ lw) (bl5 : 0 ≤ m5.toInt ∧ m5.toInt ≤ 61) {n0 : Int32} (bk0 : 32 ≤ n0.toInt ∧ n0.toInt ≤ 32) (cuta : ∀ (lw' : List (Nat × Value)) (m2' : Int32) (m3' : Int32) (m4' : Int32) (m5' : Int32) (n0' : Int32) (σ' : am_S), (0, Value.ref 3) ∈ lw' → (1, Value.retAddr 18087) ∈ lw' → (2, Value.int m2') ∈ lw' → (3, Value.int m3') ∈ lw' → (4, Value.int m4') ∈ lw' → (5, Value.int m5') ∈ lw' → ((-1) ≤ 1 * m5.toInt + ((-1) * m5'.toInt + 0) ∧ 1 * m5.toInt + ((-1) * m5'.toInt + 0) ≤ (-1)) → ((-1) ≤ 1 * m5.toInt + ((-1) * n0'.toInt + 0) ∧ 1 * m5.toInt + ((-1) * n0'.toInt + 0) ≤ (-1)) → ((-1) ≤ 1 * m2.toInt + ((-1) * m2'.toInt + 0) ∧ 1 * m2.toInt + ((-1) * m2'.toInt + 0) ≤ (-1)) → (0 ≤ 1 * m3'.toInt + 0 ∧ 1 * m3'.toInt + 0 ≤ 0) → (1 ≤ 1 * m4'.toInt + 0 ∧ 1 * m4'.toInt + 0 ≤ 1) → sx_M z9 hd_C σ 0 0 σ' → am_K g 15 tX6_wordOf.1 0 0 23 lw' [.retAddr 18087, .int n0'] σ' post) : am_K g 15 tX6_wordOf.1 0 0 35 lw [.int n0] σ post := by
  refine sg_seg (sw := [.int n0]) (vs := [m2.toInt, m3.toInt, m4.toInt, m5.toInt]) (ws := [n0.toInt]) G (mi := 252) rfl hct sg_wo3d_ok ⟨⟨m2, hl2, rfl⟩, ⟨⟨m3, hl3, rfl⟩, ⟨⟨m4, hl4, rfl⟩, ⟨⟨m5, hl5, rfl⟩, trivial⟩⟩⟩⟩ (hd_rfc hl (hd_rfcx hlr1 hd_rfn)) ⟨⟨n0, rfl, rfl⟩, trivial⟩ (hd_p1 rfl bl2.1 bl2.2 (hd_p1 rfl bl3.1 bl3.2 (hd_p1 rfl bl4.1 bl4.2 (hd_p1 rfl bl5.1 bl5.2 (hd_p1 rfl bk0.1 bk0.2 hd_p0))))) hM ?_ ?_
  · intro r σ' hq
    cases r with
    | none => exact hq.elim
    | some v =>
      obtain ⟨p, hp, hM2, ks, hk, hv⟩ := hq
      cases hp
  · intro u hu
    simp only [List.mem_cons, List.not_mem_nil, or_false] at hu
    rcases hu with rfl
    · intro lw' sw' vs' ws' σ' ⟨h1_0, h2, h3_0, h4, h5⟩
      obtain ⟨m2', vs1, rfl, hm2, h1_1⟩ := hd_srcl h1_0
      obtain ⟨m3', vs2, rfl, hm3, h1_2⟩ := hd_srcl h1_1
      obtain ⟨m4', vs3, rfl, hm4, h1_3⟩ := hd_srcl h1_2
      obtain ⟨m5', vs4, rfl, hm5, h1_4⟩ := hd_srcl h1_3
      obtain rfl := hd_src0 h1_4
      obtain ⟨sw1, rfl, h3_1⟩ := hd_strx h3_0
      obtain ⟨n0', sw2, ws2, rfl, rfl, h3_2⟩ := hd_sti h3_1
      obtain ⟨rfl, rfl⟩ := hd_st0 h3_2
      have hr9_0 := hd_rfh h2
      have hr9_1 := hd_rfhx (hd_rfT h2)
      obtain ⟨v0, e0, l0, u0⟩ := h4 _ (List.mem_cons_self)
      have g0 : 1 * m5.toInt + ((-1) * m5'.toInt + 0) = v0 := Option.some.inj e0
      obtain ⟨v1, e1, l1, u1⟩ := h4 _ (List.mem_cons_of_mem _ (List.mem_cons_self))
      have g1 : 1 * m5.toInt + ((-1) * n0'.toInt + 0) = v1 := Option.some.inj e1
      obtain ⟨v2, e2, l2, u2⟩ := h4 _ (List.mem_cons_of_mem _ (List.mem_cons_of_mem _ (List.mem_cons_self)))
      have g2 : 1 * m2.toInt + ((-1) * m2'.toInt + 0) = v2 := Option.some.inj e2
      obtain ⟨v3, e3, l3, u3⟩ := h4 _ (List.mem_cons_of_mem _ (List.mem_cons_of_mem _ (List.mem_cons_of_mem _ (List.mem_cons_self))))
      have g3 : 1 * m3'.toInt + 0 = v3 := Option.some.inj e3
      obtain ⟨v4, e4, l4, u4⟩ := h4 _ (List.mem_cons_of_mem _ (List.mem_cons_of_mem _ (List.mem_cons_of_mem _ (List.mem_cons_of_mem _ (List.mem_cons_self)))))
      have g4 : 1 * m4'.toInt + 0 = v4 := Option.some.inj e4
      exact cuta _ _ _ _ _ _ _ hr9_0 hr9_1 hm2 hm3 hm4 hm5 ⟨by rw [g0]; exact l0, by rw [g0]; exact u0⟩ ⟨by rw [g1]; exact l1, by rw [g1]; exact u1⟩ ⟨by rw [g2]; exact l2, by rw [g2]; exact u2⟩ ⟨by rw [g3]; exact l3, by rw [g3]; exact u3⟩ ⟨by rw [g4]; exact l4, by rw [g4]; exact u4⟩ h5
theorem sg_wo3e_run (G : sx_G0 g L xs z9 hd_C ex_mt) (hct : ∀ (mi : Nat) (T2 : ex_T) (c' : sx_Ct), ex_mt mi = some T2 → c' ∈ k9 mi → c'.1 < 60 → sx_Holds g z9 hd_C T2 c') {σ : am_S} {lw : List (Nat × Value)} {post : Option (Option Value) → am_S → Prop} (hM : sx_M z9 hd_C σ 0 0 σ) (hl : (0, Value.ref 3) ∈ lw) (hlr1 : (1, Value.retAddr 18087) ∈ lw) {m2 : Int32} (hl2 : (2, Value.int m2) ∈ lw) (bl2 : 0 ≤ m2.toInt ∧ m2.toInt ≤ 10) {m3 : Int32} (hl3 : (3, Value.int m3) ∈ lw) (bl3 : 0 ≤ m3.toInt ∧ m3.toInt ≤ 61) {m4 : Int32} (hl4 : (4, Value.int m4) ∈ lw) (bl4 : 0 ≤ m4.toInt ∧ m4.toInt ≤ 0) {m5 : Int32} (hl5 : (5, Value.int m5) ∈ lw) (bl5 : 0 ≤ m5.toInt ∧ m5.toInt ≤ 61) {n0 : Int32} (bk0 : 97 ≤ n0.toInt ∧ n0.toInt ≤ 122) (cuta : ∀ (lw' : List (Nat × Value)) (m2' : Int32) (m3' : Int32) (m4' : Int32) (m5' : Int32) (n0' : Int32) (σ' : am_S), (0, Value.ref 3) ∈ lw' → (1, Value.retAddr 18087) ∈ lw' → (2, Value.int m2') ∈ lw' → (3, Value.int m3') ∈ lw' → (4, Value.int m4') ∈ lw' → (5, Value.int m5') ∈ lw' → ((-1) ≤ 1 * m5.toInt + ((-1) * m5'.toInt + 0) ∧ 1 * m5.toInt + ((-1) * m5'.toInt + 0) ≤ (-1)) → ((-1) ≤ 1 * m5.toInt + ((-1) * n0'.toInt + 0) ∧ 1 * m5.toInt + ((-1) * n0'.toInt + 0) ≤ (-1)) → (0 ≤ 1 * m2.toInt + ((-1) * m2'.toInt + 0) ∧ 1 * m2.toInt + ((-1) * m2'.toInt + 0) ≤ 0) → ((-1) ≤ 1 * m3.toInt + ((-1) * m3'.toInt + 0) ∧ 1 * m3.toInt + ((-1) * m3'.toInt + 0) ≤ (-1)) → (0 ≤ 1 * m4'.toInt + 0 ∧ 1 * m4'.toInt + 0 ≤ 0) → sx_M z9 hd_C σ 0 0 σ' → am_K g 15 tX6_wordOf.1 0 0 23 lw' [.retAddr 18087, .int n0'] σ' post) : am_K g 15 tX6_wordOf.1 0 0 35 lw [.int n0] σ post := by
  refine sg_seg (sw := [.int n0]) (vs := [m2.toInt, m3.toInt, m4.toInt, m5.toInt]) (ws := [n0.toInt]) G (mi := 252) rfl hct sg_wo3e_ok ⟨⟨m2, hl2, rfl⟩, ⟨⟨m3, hl3, rfl⟩, ⟨⟨m4, hl4, rfl⟩, ⟨⟨m5, hl5, rfl⟩, trivial⟩⟩⟩⟩ (hd_rfc hl (hd_rfcx hlr1 hd_rfn)) ⟨⟨n0, rfl, rfl⟩, trivial⟩ (hd_p1 rfl bl2.1 bl2.2 (hd_p1 rfl bl3.1 bl3.2 (hd_p1 rfl bl4.1 bl4.2 (hd_p1 rfl bl5.1 bl5.2 (hd_p1 rfl bk0.1 bk0.2 hd_p0))))) hM ?_ ?_
  · intro r σ' hq
    cases r with
    | none => exact hq.elim
    | some v =>
      obtain ⟨p, hp, hM2, ks, hk, hv⟩ := hq
      cases hp
  · intro u hu
    simp only [List.mem_cons, List.not_mem_nil, or_false] at hu
    rcases hu with rfl
    · intro lw' sw' vs' ws' σ' ⟨h1_0, h2, h3_0, h4, h5⟩
      obtain ⟨m2', vs1, rfl, hm2, h1_1⟩ := hd_srcl h1_0
      obtain ⟨m3', vs2, rfl, hm3, h1_2⟩ := hd_srcl h1_1
      obtain ⟨m4', vs3, rfl, hm4, h1_3⟩ := hd_srcl h1_2
      obtain ⟨m5', vs4, rfl, hm5, h1_4⟩ := hd_srcl h1_3
      obtain rfl := hd_src0 h1_4
      obtain ⟨sw1, rfl, h3_1⟩ := hd_strx h3_0
      obtain ⟨n0', sw2, ws2, rfl, rfl, h3_2⟩ := hd_sti h3_1
      obtain ⟨rfl, rfl⟩ := hd_st0 h3_2
      have hr9_0 := hd_rfh h2
      have hr9_1 := hd_rfhx (hd_rfT h2)
      obtain ⟨v0, e0, l0, u0⟩ := h4 _ (List.mem_cons_self)
      have g0 : 1 * m5.toInt + ((-1) * m5'.toInt + 0) = v0 := Option.some.inj e0
      obtain ⟨v1, e1, l1, u1⟩ := h4 _ (List.mem_cons_of_mem _ (List.mem_cons_self))
      have g1 : 1 * m5.toInt + ((-1) * n0'.toInt + 0) = v1 := Option.some.inj e1
      obtain ⟨v2, e2, l2, u2⟩ := h4 _ (List.mem_cons_of_mem _ (List.mem_cons_of_mem _ (List.mem_cons_self)))
      have g2 : 1 * m2.toInt + ((-1) * m2'.toInt + 0) = v2 := Option.some.inj e2
      obtain ⟨v3, e3, l3, u3⟩ := h4 _ (List.mem_cons_of_mem _ (List.mem_cons_of_mem _ (List.mem_cons_of_mem _ (List.mem_cons_self))))
      have g3 : 1 * m3.toInt + ((-1) * m3'.toInt + 0) = v3 := Option.some.inj e3
      obtain ⟨v4, e4, l4, u4⟩ := h4 _ (List.mem_cons_of_mem _ (List.mem_cons_of_mem _ (List.mem_cons_of_mem _ (List.mem_cons_of_mem _ (List.mem_cons_self)))))
      have g4 : 1 * m4'.toInt + 0 = v4 := Option.some.inj e4
      exact cuta _ _ _ _ _ _ _ hr9_0 hr9_1 hm2 hm3 hm4 hm5 ⟨by rw [g0]; exact l0, by rw [g0]; exact u0⟩ ⟨by rw [g1]; exact l1, by rw [g1]; exact u1⟩ ⟨by rw [g2]; exact l2, by rw [g2]; exact u2⟩ ⟨by rw [g3]; exact l3, by rw [g3]; exact u3⟩ ⟨by rw [g4]; exact l4, by rw [g4]; exact u4⟩ h5
theorem sg_wo3f_run (G : sx_G0 g L xs z9 hd_C ex_mt) (hct : ∀ (mi : Nat) (T2 : ex_T) (c' : sx_Ct), ex_mt mi = some T2 → c' ∈ k9 mi → c'.1 < 60 → sx_Holds g z9 hd_C T2 c') {σ : am_S} {lw : List (Nat × Value)} {post : Option (Option Value) → am_S → Prop} (hM : sx_M z9 hd_C σ 0 0 σ) (hl : (0, Value.ref 3) ∈ lw) (hlr1 : (1, Value.retAddr 18087) ∈ lw) {m2 : Int32} (hl2 : (2, Value.int m2) ∈ lw) (bl2 : 0 ≤ m2.toInt ∧ m2.toInt ≤ 10) {m3 : Int32} (hl3 : (3, Value.int m3) ∈ lw) (bl3 : 0 ≤ m3.toInt ∧ m3.toInt ≤ 61) {m4 : Int32} (hl4 : (4, Value.int m4) ∈ lw) (bl4 : 1 ≤ m4.toInt ∧ m4.toInt ≤ 1) {m5 : Int32} (hl5 : (5, Value.int m5) ∈ lw) (bl5 : 0 ≤ m5.toInt ∧ m5.toInt ≤ 61) {n0 : Int32} (bk0 : 97 ≤ n0.toInt ∧ n0.toInt ≤ 122) (bf0 : 0 ≤ 1 * m3.toInt + ((-1) * (σ.2.1 3 5).toInt + 0) ∧ 1 * m3.toInt + ((-1) * (σ.2.1 3 5).toInt + 0) ≤ 4611686018427387904) (cuta : ∀ (lw' : List (Nat × Value)) (m2' : Int32) (m3' : Int32) (m4' : Int32) (m5' : Int32) (n0' : Int32) (σ' : am_S), (0, Value.ref 3) ∈ lw' → (1, Value.retAddr 18087) ∈ lw' → (2, Value.int m2') ∈ lw' → (3, Value.int m3') ∈ lw' → (4, Value.int m4') ∈ lw' → (5, Value.int m5') ∈ lw' → ((-1) ≤ 1 * m5.toInt + ((-1) * m5'.toInt + 0) ∧ 1 * m5.toInt + ((-1) * m5'.toInt + 0) ≤ (-1)) → ((-1) ≤ 1 * m5.toInt + ((-1) * n0'.toInt + 0) ∧ 1 * m5.toInt + ((-1) * n0'.toInt + 0) ≤ (-1)) → (0 ≤ 1 * m2.toInt + ((-1) * m2'.toInt + 0) ∧ 1 * m2.toInt + ((-1) * m2'.toInt + 0) ≤ 0) → ((-1) ≤ 1 * m3.toInt + ((-1) * m3'.toInt + 0) ∧ 1 * m3.toInt + ((-1) * m3'.toInt + 0) ≤ (-1)) → (0 ≤ 1 * m4'.toInt + 0 ∧ 1 * m4'.toInt + 0 ≤ 0) → sx_M z9 hd_C σ 0 0 σ' → am_K g 15 tX6_wordOf.1 0 0 23 lw' [.retAddr 18087, .int n0'] σ' post) : am_K g 15 tX6_wordOf.1 0 0 35 lw [.int n0] σ post := by
  refine sg_seg (sw := [.int n0]) (vs := [m2.toInt, m3.toInt, m4.toInt, m5.toInt, (σ.2.1 3 5).toInt]) (ws := [n0.toInt]) G (mi := 252) rfl hct sg_wo3f_ok ⟨⟨m2, hl2, rfl⟩, ⟨⟨m3, hl3, rfl⟩, ⟨⟨m4, hl4, rfl⟩, ⟨⟨m5, hl5, rfl⟩, ⟨rfl, trivial⟩⟩⟩⟩⟩ (hd_rfc hl (hd_rfcx hlr1 hd_rfn)) ⟨⟨n0, rfl, rfl⟩, trivial⟩ (hd_p1 rfl bl2.1 bl2.2 (hd_p1 rfl bl3.1 bl3.2 (hd_p1 rfl bl4.1 bl4.2 (hd_p1 rfl bl5.1 bl5.2 (hd_p1 rfl (hd_kd_3_5 hM).1 (hd_kd_3_5 hM).2 (hd_p1 rfl bk0.1 bk0.2 (hd_pf rfl bf0.1 bf0.2 hd_p0))))))) hM ?_ ?_
  · intro r σ' hq
    cases r with
    | none => exact hq.elim
    | some v =>
      obtain ⟨p, hp, hM2, ks, hk, hv⟩ := hq
      cases hp
  · intro u hu
    simp only [List.mem_cons, List.not_mem_nil, or_false] at hu
    rcases hu with rfl
    · intro lw' sw' vs' ws' σ' ⟨h1_0, h2, h3_0, h4, h5⟩
      obtain ⟨m2', vs1, rfl, hm2, h1_1⟩ := hd_srcl h1_0
      obtain ⟨m3', vs2, rfl, hm3, h1_2⟩ := hd_srcl h1_1
      obtain ⟨m4', vs3, rfl, hm4, h1_3⟩ := hd_srcl h1_2
      obtain ⟨m5', vs4, rfl, hm5, h1_4⟩ := hd_srcl h1_3
      obtain rfl := hd_src0 h1_4
      obtain ⟨sw1, rfl, h3_1⟩ := hd_strx h3_0
      obtain ⟨n0', sw2, ws2, rfl, rfl, h3_2⟩ := hd_sti h3_1
      obtain ⟨rfl, rfl⟩ := hd_st0 h3_2
      have hr9_0 := hd_rfh h2
      have hr9_1 := hd_rfhx (hd_rfT h2)
      obtain ⟨v0, e0, l0, u0⟩ := h4 _ (List.mem_cons_self)
      have g0 : 1 * m5.toInt + ((-1) * m5'.toInt + 0) = v0 := Option.some.inj e0
      obtain ⟨v1, e1, l1, u1⟩ := h4 _ (List.mem_cons_of_mem _ (List.mem_cons_self))
      have g1 : 1 * m5.toInt + ((-1) * n0'.toInt + 0) = v1 := Option.some.inj e1
      obtain ⟨v2, e2, l2, u2⟩ := h4 _ (List.mem_cons_of_mem _ (List.mem_cons_of_mem _ (List.mem_cons_self)))
      have g2 : 1 * m2.toInt + ((-1) * m2'.toInt + 0) = v2 := Option.some.inj e2
      obtain ⟨v3, e3, l3, u3⟩ := h4 _ (List.mem_cons_of_mem _ (List.mem_cons_of_mem _ (List.mem_cons_of_mem _ (List.mem_cons_self))))
      have g3 : 1 * m3.toInt + ((-1) * m3'.toInt + 0) = v3 := Option.some.inj e3
      obtain ⟨v4, e4, l4, u4⟩ := h4 _ (List.mem_cons_of_mem _ (List.mem_cons_of_mem _ (List.mem_cons_of_mem _ (List.mem_cons_of_mem _ (List.mem_cons_self)))))
      have g4 : 1 * m4'.toInt + 0 = v4 := Option.some.inj e4
      exact cuta _ _ _ _ _ _ _ hr9_0 hr9_1 hm2 hm3 hm4 hm5 ⟨by rw [g0]; exact l0, by rw [g0]; exact u0⟩ ⟨by rw [g1]; exact l1, by rw [g1]; exact u1⟩ ⟨by rw [g2]; exact l2, by rw [g2]; exact u2⟩ ⟨by rw [g3]; exact l3, by rw [g3]; exact u3⟩ ⟨by rw [g4]; exact l4, by rw [g4]; exact u4⟩ h5
theorem sg_wo3g_run (G : sx_G0 g L xs z9 hd_C ex_mt) (hct : ∀ (mi : Nat) (T2 : ex_T) (c' : sx_Ct), ex_mt mi = some T2 → c' ∈ k9 mi → c'.1 < 60 → sx_Holds g z9 hd_C T2 c') {σ : am_S} {lw : List (Nat × Value)} {post : Option (Option Value) → am_S → Prop} (hM : sx_M z9 hd_C σ 0 0 σ) (hl : (0, Value.ref 3) ∈ lw) (hlr1 : (1, Value.retAddr 18087) ∈ lw) {m2 : Int32} (hl2 : (2, Value.int m2) ∈ lw) (bl2 : 0 ≤ m2.toInt ∧ m2.toInt ≤ 10) {m3 : Int32} (hl3 : (3, Value.int m3) ∈ lw) (bl3 : 0 ≤ m3.toInt ∧ m3.toInt ≤ 61) {m4 : Int32} (hl4 : (4, Value.int m4) ∈ lw) (bl4 : 1 ≤ m4.toInt ∧ m4.toInt ≤ 1) {m5 : Int32} (hl5 : (5, Value.int m5) ∈ lw) (bl5 : 0 ≤ m5.toInt ∧ m5.toInt ≤ 61) (bp3_4 : 0 ≤ (σ.2.1 3 4).toInt ∧ (σ.2.1 3 4).toInt ≤ 940) {n0 : Int32} (bk0 : 97 ≤ n0.toInt ∧ n0.toInt ≤ 122) (bf0 : (-4611686018427387904) ≤ 1 * m3.toInt + ((-1) * (σ.2.1 3 5).toInt + 0) ∧ 1 * m3.toInt + ((-1) * (σ.2.1 3 5).toInt + 0) ≤ (-1)) (cuta : ∀ (lw' : List (Nat × Value)) (m2' : Int32) (m3' : Int32) (m4' : Int32) (m5' : Int32) (m6' : Int32) (n0' : Int32) (σ' : am_S), (0, Value.ref 3) ∈ lw' → (1, Value.retAddr 18087) ∈ lw' → (2, Value.int m2') ∈ lw' → (3, Value.int m3') ∈ lw' → (4, Value.int m4') ∈ lw' → (5, Value.int m5') ∈ lw' → (6, Value.int m6') ∈ lw' → (0 ≤ 1 * m3.toInt + (1 * (σ.2.1 3 4).toInt + ((-1) * n0'.toInt + 0)) ∧ 1 * m3.toInt + (1 * (σ.2.1 3 4).toInt + ((-1) * n0'.toInt + 0)) ≤ 0) → (0 ≤ 1 * m5.toInt + ((-1) * m5'.toInt + 0) ∧ 1 * m5.toInt + ((-1) * m5'.toInt + 0) ≤ 0) → (0 ≤ 1 * n0.toInt + ((-1) * m6'.toInt + 0) ∧ 1 * n0.toInt + ((-1) * m6'.toInt + 0) ≤ 0) → (0 ≤ 1 * m2.toInt + ((-1) * m2'.toInt + 0) ∧ 1 * m2.toInt + ((-1) * m2'.toInt + 0) ≤ 0) → (0 ≤ 1 * m3.toInt + ((-1) * m3'.toInt + 0) ∧ 1 * m3.toInt + ((-1) * m3'.toInt + 0) ≤ 0) → (0 ≤ 1 * m4.toInt + ((-1) * m4'.toInt + 0) ∧ 1 * m4.toInt + ((-1) * m4'.toInt + 0) ≤ 0) → sx_M z9 hd_C σ 0 0 σ' → am_K g 15 tX6_wordOf.1 0 0 67 lw' [.int n0', .ref 1] σ' post) : am_K g 15 tX6_wordOf.1 0 0 35 lw [.int n0] σ post := by
  refine sg_seg (sw := [.int n0]) (vs := [m2.toInt, m3.toInt, m4.toInt, m5.toInt, (σ.2.1 3 5).toInt, (σ.2.1 3 4).toInt]) (ws := [n0.toInt]) G (mi := 252) rfl hct sg_wo3g_ok ⟨⟨m2, hl2, rfl⟩, ⟨⟨m3, hl3, rfl⟩, ⟨⟨m4, hl4, rfl⟩, ⟨⟨m5, hl5, rfl⟩, ⟨rfl, ⟨rfl, trivial⟩⟩⟩⟩⟩⟩ (hd_rfc hl (hd_rfcx hlr1 hd_rfn)) ⟨⟨n0, rfl, rfl⟩, trivial⟩ (hd_p1 rfl bl2.1 bl2.2 (hd_p1 rfl bl3.1 bl3.2 (hd_p1 rfl bl4.1 bl4.2 (hd_p1 rfl bl5.1 bl5.2 (hd_p1 rfl (hd_kd_3_5 hM).1 (hd_kd_3_5 hM).2 (hd_p1 rfl bp3_4.1 bp3_4.2 (hd_p1 rfl bk0.1 bk0.2 (hd_pf rfl bf0.1 bf0.2 hd_p0)))))))) hM ?_ ?_
  · intro r σ' hq
    cases r with
    | none => exact hq.elim
    | some v =>
      obtain ⟨p, hp, hM2, ks, hk, hv⟩ := hq
      cases hp
  · intro u hu
    simp only [List.mem_cons, List.not_mem_nil, or_false] at hu
    rcases hu with rfl
    · intro lw' sw' vs' ws' σ' ⟨h1_0, h2, h3_0, h4, h5⟩
      obtain ⟨m2', vs1, rfl, hm2, h1_1⟩ := hd_srcl h1_0
      obtain ⟨m3', vs2, rfl, hm3, h1_2⟩ := hd_srcl h1_1
      obtain ⟨m4', vs3, rfl, hm4, h1_3⟩ := hd_srcl h1_2
      obtain ⟨m5', vs4, rfl, hm5, h1_4⟩ := hd_srcl h1_3
      obtain ⟨m6', vs5, rfl, hm6, h1_5⟩ := hd_srcl h1_4
      obtain rfl := hd_src0 h1_5
      obtain ⟨n0', sw1, ws1, rfl, rfl, h3_1⟩ := hd_sti h3_0
      obtain ⟨sw2, rfl, h3_2⟩ := hd_str h3_1
      obtain ⟨rfl, rfl⟩ := hd_st0 h3_2
      have hr9_0 := hd_rfh h2
      have hr9_1 := hd_rfhx (hd_rfT h2)
      obtain ⟨v0, e0, l0, u0⟩ := h4 _ (List.mem_cons_self)
      have g0 : 1 * m3.toInt + (1 * (σ.2.1 3 4).toInt + ((-1) * n0'.toInt + 0)) = v0 := Option.some.inj e0
      obtain ⟨v1, e1, l1, u1⟩ := h4 _ (List.mem_cons_of_mem _ (List.mem_cons_self))
      have g1 : 1 * m5.toInt + ((-1) * m5'.toInt + 0) = v1 := Option.some.inj e1
      obtain ⟨v2, e2, l2, u2⟩ := h4 _ (List.mem_cons_of_mem _ (List.mem_cons_of_mem _ (List.mem_cons_self)))
      have g2 : 1 * n0.toInt + ((-1) * m6'.toInt + 0) = v2 := Option.some.inj e2
      obtain ⟨v3, e3, l3, u3⟩ := h4 _ (List.mem_cons_of_mem _ (List.mem_cons_of_mem _ (List.mem_cons_of_mem _ (List.mem_cons_self))))
      have g3 : 1 * m2.toInt + ((-1) * m2'.toInt + 0) = v3 := Option.some.inj e3
      obtain ⟨v4, e4, l4, u4⟩ := h4 _ (List.mem_cons_of_mem _ (List.mem_cons_of_mem _ (List.mem_cons_of_mem _ (List.mem_cons_of_mem _ (List.mem_cons_self)))))
      have g4 : 1 * m3.toInt + ((-1) * m3'.toInt + 0) = v4 := Option.some.inj e4
      obtain ⟨v5, e5, l5, u5⟩ := h4 _ (List.mem_cons_of_mem _ (List.mem_cons_of_mem _ (List.mem_cons_of_mem _ (List.mem_cons_of_mem _ (List.mem_cons_of_mem _ (List.mem_cons_self))))))
      have g5 : 1 * m4.toInt + ((-1) * m4'.toInt + 0) = v5 := Option.some.inj e5
      exact cuta _ _ _ _ _ _ _ _ hr9_0 hr9_1 hm2 hm3 hm4 hm5 hm6 ⟨by rw [g0]; exact l0, by rw [g0]; exact u0⟩ ⟨by rw [g1]; exact l1, by rw [g1]; exact u1⟩ ⟨by rw [g2]; exact l2, by rw [g2]; exact u2⟩ ⟨by rw [g3]; exact l3, by rw [g3]; exact u3⟩ ⟨by rw [g4]; exact l4, by rw [g4]; exact u4⟩ ⟨by rw [g5]; exact l5, by rw [g5]; exact u5⟩ h5
theorem sg_wo4a_run (G : sx_G0 g L xs z9 hd_C ex_mt) (hct : ∀ (mi : Nat) (T2 : ex_T) (c' : sx_Ct), ex_mt mi = some T2 → c' ∈ k9 mi → c'.1 < 60 → sx_Holds g z9 hd_C T2 c') {σ : am_S} {lw : List (Nat × Value)} {post : Option (Option Value) → am_S → Prop} (hM : sx_M z9 hd_C σ 0 0 σ) (hl : (0, Value.ref 3) ∈ lw) (hlr1 : (1, Value.retAddr 18087) ∈ lw) {m2 : Int32} (hl2 : (2, Value.int m2) ∈ lw) (bl2 : 0 ≤ m2.toInt ∧ m2.toInt ≤ 10) {m3 : Int32} (hl3 : (3, Value.int m3) ∈ lw) (bl3 : 0 ≤ m3.toInt ∧ m3.toInt ≤ 61) {m4 : Int32} (hl4 : (4, Value.int m4) ∈ lw) (bl4 : 0 ≤ m4.toInt ∧ m4.toInt ≤ 1) {m5 : Int32} (hl5 : (5, Value.int m5) ∈ lw) (bl5 : 0 ≤ m5.toInt ∧ m5.toInt ≤ 61) {m6 : Int32} (hl6 : (6, Value.int m6) ∈ lw) {n0 : Int32} (bf0 : 1 ≤ 1 * m6.toInt + ((-1) * n0.toInt + 0) ∧ 1 * m6.toInt + ((-1) * n0.toInt + 0) ≤ 4611686018427387904) (cuta : ∀ (lw' : List (Nat × Value)) (m2' : Int32) (m3' : Int32) (m4' : Int32) (m5' : Int32) (n0' : Int32) (σ' : am_S), (0, Value.ref 3) ∈ lw' → (1, Value.retAddr 18087) ∈ lw' → (2, Value.int m2') ∈ lw' → (3, Value.int m3') ∈ lw' → (4, Value.int m4') ∈ lw' → (5, Value.int m5') ∈ lw' → ((-1) ≤ 1 * m5.toInt + ((-1) * m5'.toInt + 0) ∧ 1 * m5.toInt + ((-1) * m5'.toInt + 0) ≤ (-1)) → ((-1) ≤ 1 * m5.toInt + ((-1) * n0'.toInt + 0) ∧ 1 * m5.toInt + ((-1) * n0'.toInt + 0) ≤ (-1)) → (0 ≤ 1 * m2.toInt + ((-1) * m2'.toInt + 0) ∧ 1 * m2.toInt + ((-1) * m2'.toInt + 0) ≤ 0) → ((-1) ≤ 1 * m3.toInt + ((-1) * m3'.toInt + 0) ∧ 1 * m3.toInt + ((-1) * m3'.toInt + 0) ≤ (-1)) → (0 ≤ 1 * m4'.toInt + 0 ∧ 1 * m4'.toInt + 0 ≤ 0) → sx_M z9 hd_C σ 0 0 σ' → am_K g 15 tX6_wordOf.1 0 0 23 lw' [.retAddr 18087, .int n0'] σ' post) : am_K g 15 tX6_wordOf.1 0 0 70 lw [.int n0] σ post := by
  refine sg_seg (sw := [.int n0]) (vs := [m2.toInt, m3.toInt, m4.toInt, m5.toInt, m6.toInt]) (ws := [n0.toInt]) G (mi := 252) rfl hct sg_wo4a_ok ⟨⟨m2, hl2, rfl⟩, ⟨⟨m3, hl3, rfl⟩, ⟨⟨m4, hl4, rfl⟩, ⟨⟨m5, hl5, rfl⟩, ⟨⟨m6, hl6, rfl⟩, trivial⟩⟩⟩⟩⟩ (hd_rfc hl (hd_rfcx hlr1 hd_rfn)) ⟨⟨n0, rfl, rfl⟩, trivial⟩ (hd_p1 rfl bl2.1 bl2.2 (hd_p1 rfl bl3.1 bl3.2 (hd_p1 rfl bl4.1 bl4.2 (hd_p1 rfl bl5.1 bl5.2 (hd_p1 rfl (Int32.le_toInt _) (Int32.toInt_le _) (hd_p1 rfl (Int32.le_toInt _) (Int32.toInt_le _) (hd_pf rfl bf0.1 bf0.2 hd_p0))))))) hM ?_ ?_
  · intro r σ' hq
    cases r with
    | none => exact hq.elim
    | some v =>
      obtain ⟨p, hp, hM2, ks, hk, hv⟩ := hq
      cases hp
  · intro u hu
    simp only [List.mem_cons, List.not_mem_nil, or_false] at hu
    rcases hu with rfl
    · intro lw' sw' vs' ws' σ' ⟨h1_0, h2, h3_0, h4, h5⟩
      obtain ⟨m2', vs1, rfl, hm2, h1_1⟩ := hd_srcl h1_0
      obtain ⟨m3', vs2, rfl, hm3, h1_2⟩ := hd_srcl h1_1
      obtain ⟨m4', vs3, rfl, hm4, h1_3⟩ := hd_srcl h1_2
      obtain ⟨m5', vs4, rfl, hm5, h1_4⟩ := hd_srcl h1_3
      obtain rfl := hd_src0 h1_4
      obtain ⟨sw1, rfl, h3_1⟩ := hd_strx h3_0
      obtain ⟨n0', sw2, ws2, rfl, rfl, h3_2⟩ := hd_sti h3_1
      obtain ⟨rfl, rfl⟩ := hd_st0 h3_2
      have hr9_0 := hd_rfh h2
      have hr9_1 := hd_rfhx (hd_rfT h2)
      obtain ⟨v0, e0, l0, u0⟩ := h4 _ (List.mem_cons_self)
      have g0 : 1 * m5.toInt + ((-1) * m5'.toInt + 0) = v0 := Option.some.inj e0
      obtain ⟨v1, e1, l1, u1⟩ := h4 _ (List.mem_cons_of_mem _ (List.mem_cons_self))
      have g1 : 1 * m5.toInt + ((-1) * n0'.toInt + 0) = v1 := Option.some.inj e1
      obtain ⟨v2, e2, l2, u2⟩ := h4 _ (List.mem_cons_of_mem _ (List.mem_cons_of_mem _ (List.mem_cons_self)))
      have g2 : 1 * m2.toInt + ((-1) * m2'.toInt + 0) = v2 := Option.some.inj e2
      obtain ⟨v3, e3, l3, u3⟩ := h4 _ (List.mem_cons_of_mem _ (List.mem_cons_of_mem _ (List.mem_cons_of_mem _ (List.mem_cons_self))))
      have g3 : 1 * m3.toInt + ((-1) * m3'.toInt + 0) = v3 := Option.some.inj e3
      obtain ⟨v4, e4, l4, u4⟩ := h4 _ (List.mem_cons_of_mem _ (List.mem_cons_of_mem _ (List.mem_cons_of_mem _ (List.mem_cons_of_mem _ (List.mem_cons_self)))))
      have g4 : 1 * m4'.toInt + 0 = v4 := Option.some.inj e4
      exact cuta _ _ _ _ _ _ _ hr9_0 hr9_1 hm2 hm3 hm4 hm5 ⟨by rw [g0]; exact l0, by rw [g0]; exact u0⟩ ⟨by rw [g1]; exact l1, by rw [g1]; exact u1⟩ ⟨by rw [g2]; exact l2, by rw [g2]; exact u2⟩ ⟨by rw [g3]; exact l3, by rw [g3]; exact u3⟩ ⟨by rw [g4]; exact l4, by rw [g4]; exact u4⟩ h5
theorem sg_wo4b_run (G : sx_G0 g L xs z9 hd_C ex_mt) (hct : ∀ (mi : Nat) (T2 : ex_T) (c' : sx_Ct), ex_mt mi = some T2 → c' ∈ k9 mi → c'.1 < 60 → sx_Holds g z9 hd_C T2 c') {σ : am_S} {lw : List (Nat × Value)} {post : Option (Option Value) → am_S → Prop} (hM : sx_M z9 hd_C σ 0 0 σ) (hl : (0, Value.ref 3) ∈ lw) (hlr1 : (1, Value.retAddr 18087) ∈ lw) {m2 : Int32} (hl2 : (2, Value.int m2) ∈ lw) (bl2 : 0 ≤ m2.toInt ∧ m2.toInt ≤ 10) {m3 : Int32} (hl3 : (3, Value.int m3) ∈ lw) (bl3 : 0 ≤ m3.toInt ∧ m3.toInt ≤ 61) {m4 : Int32} (hl4 : (4, Value.int m4) ∈ lw) (bl4 : 0 ≤ m4.toInt ∧ m4.toInt ≤ 1) {m5 : Int32} (hl5 : (5, Value.int m5) ∈ lw) (bl5 : 0 ≤ m5.toInt ∧ m5.toInt ≤ 61) {m6 : Int32} (hl6 : (6, Value.int m6) ∈ lw) {n0 : Int32} (bf0 : 0 ≤ 1 * m6.toInt + ((-1) * n0.toInt + 0) ∧ 1 * m6.toInt + ((-1) * n0.toInt + 0) ≤ 0) (cuta : ∀ (lw' : List (Nat × Value)) (m2' : Int32) (m3' : Int32) (m4' : Int32) (m5' : Int32) (n0' : Int32) (σ' : am_S), (0, Value.ref 3) ∈ lw' → (1, Value.retAddr 18087) ∈ lw' → (2, Value.int m2') ∈ lw' → (3, Value.int m3') ∈ lw' → (4, Value.int m4') ∈ lw' → (5, Value.int m5') ∈ lw' → ((-1) ≤ 1 * m5.toInt + ((-1) * m5'.toInt + 0) ∧ 1 * m5.toInt + ((-1) * m5'.toInt + 0) ≤ (-1)) → ((-1) ≤ 1 * m5.toInt + ((-1) * n0'.toInt + 0) ∧ 1 * m5.toInt + ((-1) * n0'.toInt + 0) ≤ (-1)) → (0 ≤ 1 * m2.toInt + ((-1) * m2'.toInt + 0) ∧ 1 * m2.toInt + ((-1) * m2'.toInt + 0) ≤ 0) → ((-1) ≤ 1 * m3.toInt + ((-1) * m3'.toInt + 0) ∧ 1 * m3.toInt + ((-1) * m3'.toInt + 0) ≤ (-1)) → (1 ≤ 1 * m4'.toInt + 0 ∧ 1 * m4'.toInt + 0 ≤ 1) → sx_M z9 hd_C σ 0 0 σ' → am_K g 15 tX6_wordOf.1 0 0 23 lw' [.retAddr 18087, .int n0'] σ' post) : am_K g 15 tX6_wordOf.1 0 0 70 lw [.int n0] σ post := by
  refine sg_seg (sw := [.int n0]) (vs := [m2.toInt, m3.toInt, m4.toInt, m5.toInt, m6.toInt]) (ws := [n0.toInt]) G (mi := 252) rfl hct sg_wo4b_ok ⟨⟨m2, hl2, rfl⟩, ⟨⟨m3, hl3, rfl⟩, ⟨⟨m4, hl4, rfl⟩, ⟨⟨m5, hl5, rfl⟩, ⟨⟨m6, hl6, rfl⟩, trivial⟩⟩⟩⟩⟩ (hd_rfc hl (hd_rfcx hlr1 hd_rfn)) ⟨⟨n0, rfl, rfl⟩, trivial⟩ (hd_p1 rfl bl2.1 bl2.2 (hd_p1 rfl bl3.1 bl3.2 (hd_p1 rfl bl4.1 bl4.2 (hd_p1 rfl bl5.1 bl5.2 (hd_p1 rfl (Int32.le_toInt _) (Int32.toInt_le _) (hd_p1 rfl (Int32.le_toInt _) (Int32.toInt_le _) (hd_pf rfl bf0.1 bf0.2 hd_p0))))))) hM ?_ ?_
  · intro r σ' hq
    cases r with
    | none => exact hq.elim
    | some v =>
      obtain ⟨p, hp, hM2, ks, hk, hv⟩ := hq
      cases hp
  · intro u hu
    simp only [List.mem_cons, List.not_mem_nil, or_false] at hu
    rcases hu with rfl
    · intro lw' sw' vs' ws' σ' ⟨h1_0, h2, h3_0, h4, h5⟩
      obtain ⟨m2', vs1, rfl, hm2, h1_1⟩ := hd_srcl h1_0
      obtain ⟨m3', vs2, rfl, hm3, h1_2⟩ := hd_srcl h1_1
      obtain ⟨m4', vs3, rfl, hm4, h1_3⟩ := hd_srcl h1_2
      obtain ⟨m5', vs4, rfl, hm5, h1_4⟩ := hd_srcl h1_3
      obtain rfl := hd_src0 h1_4
      obtain ⟨sw1, rfl, h3_1⟩ := hd_strx h3_0
      obtain ⟨n0', sw2, ws2, rfl, rfl, h3_2⟩ := hd_sti h3_1
      obtain ⟨rfl, rfl⟩ := hd_st0 h3_2
      have hr9_0 := hd_rfh h2
      have hr9_1 := hd_rfhx (hd_rfT h2)
      obtain ⟨v0, e0, l0, u0⟩ := h4 _ (List.mem_cons_self)
      have g0 : 1 * m5.toInt + ((-1) * m5'.toInt + 0) = v0 := Option.some.inj e0
      obtain ⟨v1, e1, l1, u1⟩ := h4 _ (List.mem_cons_of_mem _ (List.mem_cons_self))
      have g1 : 1 * m5.toInt + ((-1) * n0'.toInt + 0) = v1 := Option.some.inj e1
      obtain ⟨v2, e2, l2, u2⟩ := h4 _ (List.mem_cons_of_mem _ (List.mem_cons_of_mem _ (List.mem_cons_self)))
      have g2 : 1 * m2.toInt + ((-1) * m2'.toInt + 0) = v2 := Option.some.inj e2
      obtain ⟨v3, e3, l3, u3⟩ := h4 _ (List.mem_cons_of_mem _ (List.mem_cons_of_mem _ (List.mem_cons_of_mem _ (List.mem_cons_self))))
      have g3 : 1 * m3.toInt + ((-1) * m3'.toInt + 0) = v3 := Option.some.inj e3
      obtain ⟨v4, e4, l4, u4⟩ := h4 _ (List.mem_cons_of_mem _ (List.mem_cons_of_mem _ (List.mem_cons_of_mem _ (List.mem_cons_of_mem _ (List.mem_cons_self)))))
      have g4 : 1 * m4'.toInt + 0 = v4 := Option.some.inj e4
      exact cuta _ _ _ _ _ _ _ hr9_0 hr9_1 hm2 hm3 hm4 hm5 ⟨by rw [g0]; exact l0, by rw [g0]; exact u0⟩ ⟨by rw [g1]; exact l1, by rw [g1]; exact u1⟩ ⟨by rw [g2]; exact l2, by rw [g2]; exact u2⟩ ⟨by rw [g3]; exact l3, by rw [g3]; exact u3⟩ ⟨by rw [g4]; exact l4, by rw [g4]; exact u4⟩ h5
theorem sg_wo4c_run (G : sx_G0 g L xs z9 hd_C ex_mt) (hct : ∀ (mi : Nat) (T2 : ex_T) (c' : sx_Ct), ex_mt mi = some T2 → c' ∈ k9 mi → c'.1 < 60 → sx_Holds g z9 hd_C T2 c') {σ : am_S} {lw : List (Nat × Value)} {post : Option (Option Value) → am_S → Prop} (hM : sx_M z9 hd_C σ 0 0 σ) (hl : (0, Value.ref 3) ∈ lw) (hlr1 : (1, Value.retAddr 18087) ∈ lw) {m2 : Int32} (hl2 : (2, Value.int m2) ∈ lw) (bl2 : 0 ≤ m2.toInt ∧ m2.toInt ≤ 10) {m3 : Int32} (hl3 : (3, Value.int m3) ∈ lw) (bl3 : 0 ≤ m3.toInt ∧ m3.toInt ≤ 61) {m4 : Int32} (hl4 : (4, Value.int m4) ∈ lw) (bl4 : 0 ≤ m4.toInt ∧ m4.toInt ≤ 1) {m5 : Int32} (hl5 : (5, Value.int m5) ∈ lw) (bl5 : 0 ≤ m5.toInt ∧ m5.toInt ≤ 61) {m6 : Int32} (hl6 : (6, Value.int m6) ∈ lw) {n0 : Int32} (bf0 : (-4611686018427387904) ≤ 1 * m6.toInt + ((-1) * n0.toInt + 0) ∧ 1 * m6.toInt + ((-1) * n0.toInt + 0) ≤ (-1)) (cuta : ∀ (lw' : List (Nat × Value)) (m2' : Int32) (m3' : Int32) (m4' : Int32) (m5' : Int32) (n0' : Int32) (σ' : am_S), (0, Value.ref 3) ∈ lw' → (1, Value.retAddr 18087) ∈ lw' → (2, Value.int m2') ∈ lw' → (3, Value.int m3') ∈ lw' → (4, Value.int m4') ∈ lw' → (5, Value.int m5') ∈ lw' → ((-1) ≤ 1 * m5.toInt + ((-1) * m5'.toInt + 0) ∧ 1 * m5.toInt + ((-1) * m5'.toInt + 0) ≤ (-1)) → ((-1) ≤ 1 * m5.toInt + ((-1) * n0'.toInt + 0) ∧ 1 * m5.toInt + ((-1) * n0'.toInt + 0) ≤ (-1)) → (0 ≤ 1 * m2.toInt + ((-1) * m2'.toInt + 0) ∧ 1 * m2.toInt + ((-1) * m2'.toInt + 0) ≤ 0) → ((-1) ≤ 1 * m3.toInt + ((-1) * m3'.toInt + 0) ∧ 1 * m3.toInt + ((-1) * m3'.toInt + 0) ≤ (-1)) → (0 ≤ 1 * m4'.toInt + 0 ∧ 1 * m4'.toInt + 0 ≤ 0) → sx_M z9 hd_C σ 0 0 σ' → am_K g 15 tX6_wordOf.1 0 0 23 lw' [.retAddr 18087, .int n0'] σ' post) : am_K g 15 tX6_wordOf.1 0 0 70 lw [.int n0] σ post := by
  refine sg_seg (sw := [.int n0]) (vs := [m2.toInt, m3.toInt, m4.toInt, m5.toInt, m6.toInt]) (ws := [n0.toInt]) G (mi := 252) rfl hct sg_wo4c_ok ⟨⟨m2, hl2, rfl⟩, ⟨⟨m3, hl3, rfl⟩, ⟨⟨m4, hl4, rfl⟩, ⟨⟨m5, hl5, rfl⟩, ⟨⟨m6, hl6, rfl⟩, trivial⟩⟩⟩⟩⟩ (hd_rfc hl (hd_rfcx hlr1 hd_rfn)) ⟨⟨n0, rfl, rfl⟩, trivial⟩ (hd_p1 rfl bl2.1 bl2.2 (hd_p1 rfl bl3.1 bl3.2 (hd_p1 rfl bl4.1 bl4.2 (hd_p1 rfl bl5.1 bl5.2 (hd_p1 rfl (Int32.le_toInt _) (Int32.toInt_le _) (hd_p1 rfl (Int32.le_toInt _) (Int32.toInt_le _) (hd_pf rfl bf0.1 bf0.2 hd_p0))))))) hM ?_ ?_
  · intro r σ' hq
    cases r with
    | none => exact hq.elim
    | some v =>
      obtain ⟨p, hp, hM2, ks, hk, hv⟩ := hq
      cases hp
  · intro u hu
    simp only [List.mem_cons, List.not_mem_nil, or_false] at hu
    rcases hu with rfl
    · intro lw' sw' vs' ws' σ' ⟨h1_0, h2, h3_0, h4, h5⟩
      obtain ⟨m2', vs1, rfl, hm2, h1_1⟩ := hd_srcl h1_0
      obtain ⟨m3', vs2, rfl, hm3, h1_2⟩ := hd_srcl h1_1
      obtain ⟨m4', vs3, rfl, hm4, h1_3⟩ := hd_srcl h1_2
      obtain ⟨m5', vs4, rfl, hm5, h1_4⟩ := hd_srcl h1_3
      obtain rfl := hd_src0 h1_4
      obtain ⟨sw1, rfl, h3_1⟩ := hd_strx h3_0
      obtain ⟨n0', sw2, ws2, rfl, rfl, h3_2⟩ := hd_sti h3_1
      obtain ⟨rfl, rfl⟩ := hd_st0 h3_2
      have hr9_0 := hd_rfh h2
      have hr9_1 := hd_rfhx (hd_rfT h2)
      obtain ⟨v0, e0, l0, u0⟩ := h4 _ (List.mem_cons_self)
      have g0 : 1 * m5.toInt + ((-1) * m5'.toInt + 0) = v0 := Option.some.inj e0
      obtain ⟨v1, e1, l1, u1⟩ := h4 _ (List.mem_cons_of_mem _ (List.mem_cons_self))
      have g1 : 1 * m5.toInt + ((-1) * n0'.toInt + 0) = v1 := Option.some.inj e1
      obtain ⟨v2, e2, l2, u2⟩ := h4 _ (List.mem_cons_of_mem _ (List.mem_cons_of_mem _ (List.mem_cons_self)))
      have g2 : 1 * m2.toInt + ((-1) * m2'.toInt + 0) = v2 := Option.some.inj e2
      obtain ⟨v3, e3, l3, u3⟩ := h4 _ (List.mem_cons_of_mem _ (List.mem_cons_of_mem _ (List.mem_cons_of_mem _ (List.mem_cons_self))))
      have g3 : 1 * m3.toInt + ((-1) * m3'.toInt + 0) = v3 := Option.some.inj e3
      obtain ⟨v4, e4, l4, u4⟩ := h4 _ (List.mem_cons_of_mem _ (List.mem_cons_of_mem _ (List.mem_cons_of_mem _ (List.mem_cons_of_mem _ (List.mem_cons_self)))))
      have g4 : 1 * m4'.toInt + 0 = v4 := Option.some.inj e4
      exact cuta _ _ _ _ _ _ _ hr9_0 hr9_1 hm2 hm3 hm4 hm5 ⟨by rw [g0]; exact l0, by rw [g0]; exact u0⟩ ⟨by rw [g1]; exact l1, by rw [g1]; exact u1⟩ ⟨by rw [g2]; exact l2, by rw [g2]; exact u2⟩ ⟨by rw [g3]; exact l3, by rw [g3]; exact u3⟩ ⟨by rw [g4]; exact l4, by rw [g4]; exact u4⟩ h5
theorem sg_op1_run (G : sx_G0 g L xs z9 hd_C ex_mt) (hct : ∀ (mi : Nat) (T2 : ex_T) (c' : sx_Ct), ex_mt mi = some T2 → c' ∈ k9 mi → c'.1 < 60 → sx_Holds g z9 hd_C T2 c') {σ : am_S} {lw : List (Nat × Value)} {post : Option (Option Value) → am_S → Prop} (hM : sx_M z9 hd_C σ 0 0 σ) (hl : (0, Value.ref 3) ∈ lw) {m1 : Int32} (hl1 : (1, Value.int m1) ∈ lw) (cuta : ∀ (lw' : List (Nat × Value))  (σ' : am_S), (0, Value.ref 3) ∈ lw' → (0 ≤ 1 * m1.toInt + ((-1) * (σ'.2.1 3 1).toInt + 0) ∧ 1 * m1.toInt + ((-1) * (σ'.2.1 3 1).toInt + 0) ≤ 0) → (0 ≤ 1 * (σ'.2.1 3 2).toInt + 0 ∧ 1 * (σ'.2.1 3 2).toInt + 0 ≤ 0) → (0 ≤ 1 * (σ'.2.1 3 7).toInt + 0 ∧ 1 * (σ'.2.1 3 7).toInt + 0 ≤ 0) → (0 ≤ 1 * (σ'.2.1 3 8).toInt + 0 ∧ 1 * (σ'.2.1 3 8).toInt + 0 ≤ 0) → sx_M z9 hd_C σ 408944640 0 σ' → am_K g 15 tX6_open.1 0 0 21 lw' [.ref 3] σ' post) : am_K g 15 tX6_open.1 0 0 0 lw [] σ post := by
  refine sg_seg (sw := []) (vs := [m1.toInt]) (ws := []) G (mi := 246) rfl hct sg_op1_ok ⟨⟨m1, hl1, rfl⟩, trivial⟩ (hd_refs hl) trivial (hd_p1 rfl (Int32.le_toInt _) (Int32.toInt_le _) hd_p0) hM ?_ ?_
  · intro r σ' hq
    cases r with
    | none => exact hq.elim
    | some v =>
      obtain ⟨p, hp, hM2, ks, hk, hv⟩ := hq
      cases hp
  · intro u hu
    simp only [List.mem_cons, List.not_mem_nil, or_false] at hu
    rcases hu with rfl
    · intro lw' sw' vs' ws' σ' ⟨h1_0, h2, h3_0, h4, h5⟩
      obtain ⟨vs1, rfl, h1_1⟩ := hd_srcs h1_0
      obtain ⟨vs2, rfl, h1_2⟩ := hd_srcs h1_1
      obtain ⟨vs3, rfl, h1_3⟩ := hd_srcs h1_2
      obtain ⟨vs4, rfl, h1_4⟩ := hd_srcs h1_3
      obtain rfl := hd_src0 h1_4
      obtain ⟨sw1, rfl, h3_1⟩ := hd_str h3_0
      obtain ⟨rfl, rfl⟩ := hd_st0 h3_1
      have hr9 := hd_ref0 h2
      obtain ⟨v0, e0, l0, u0⟩ := h4 _ (List.mem_cons_self)
      have g0 : 1 * m1.toInt + ((-1) * (σ'.2.1 3 1).toInt + 0) = v0 := Option.some.inj e0
      obtain ⟨v1, e1, l1, u1⟩ := h4 _ (List.mem_cons_of_mem _ (List.mem_cons_self))
      have g1 : 1 * (σ'.2.1 3 2).toInt + 0 = v1 := Option.some.inj e1
      obtain ⟨v2, e2, l2, u2⟩ := h4 _ (List.mem_cons_of_mem _ (List.mem_cons_of_mem _ (List.mem_cons_self)))
      have g2 : 1 * (σ'.2.1 3 7).toInt + 0 = v2 := Option.some.inj e2
      obtain ⟨v3, e3, l3, u3⟩ := h4 _ (List.mem_cons_of_mem _ (List.mem_cons_of_mem _ (List.mem_cons_of_mem _ (List.mem_cons_self))))
      have g3 : 1 * (σ'.2.1 3 8).toInt + 0 = v3 := Option.some.inj e3
      exact cuta _  _ hr9  ⟨by rw [g0]; exact l0, by rw [g0]; exact u0⟩ ⟨by rw [g1]; exact l1, by rw [g1]; exact u1⟩ ⟨by rw [g2]; exact l2, by rw [g2]; exact u2⟩ ⟨by rw [g3]; exact l3, by rw [g3]; exact u3⟩ h5
theorem sg_op2_run (G : sx_G0 g L xs z9 hd_C ex_mt) (hct : ∀ (mi : Nat) (T2 : ex_T) (c' : sx_Ct), ex_mt mi = some T2 → c' ∈ k9 mi → c'.1 < 60 → sx_Holds g z9 hd_C T2 c') {σ : am_S} {lw : List (Nat × Value)} {post : Option (Option Value) → am_S → Prop} (hM : sx_M z9 hd_C σ 0 0 σ) (hl : (0, Value.ref 3) ∈ lw)  (ret0 : ∀ (σ' : am_S), sx_M z9 hd_C σ 0 0 σ' → post (some none) σ') : am_K g 15 tX6_open.1 0 0 24 lw [] σ post := by
  refine sg_seg (sw := []) (vs := []) (ws := []) G (mi := 246) rfl hct sg_op2_ok trivial (hd_refs hl) trivial hd_p0 hM ?_ ?_
  · intro r σ' hq
    cases r with
    | none => exact hq.elim
    | some v =>
      obtain ⟨p, hp, hM2, ks, hk, hv⟩ := hq
      simp only [List.mem_cons, List.not_mem_nil, or_false] at hp
      rcases hp with rfl
      · obtain rfl := hd_keys hk
        cases v with
        | some w9 => exact hv.elim
        | none =>
          have hP := hv
          exact ret0 _  hM2
  · intro u hu
    cases hu
theorem sg_cp1_0_run (G : sx_G0 g L xs z9 hd_C ex_mt) (hct : ∀ (mi : Nat) (T2 : ex_T) (c' : sx_Ct), ex_mt mi = some T2 → c' ∈ k9 mi → c'.1 < 60 → sx_Holds g z9 hd_C T2 c') {σ : am_S} {lw : List (Nat × Value)} {post : Option (Option Value) → am_S → Prop} (hM : sx_M z9 hd_C σ 0 0 σ) (hl : (0, Value.ref 13) ∈ lw) (hlr1 : (1, Value.ref 5) ∈ lw)  (cuta : ∀ (lw' : List (Nat × Value)) (m2' : Int32) (m3' : Int32) (σ' : am_S), (0, Value.ref 13) ∈ lw' → (1, Value.ref 5) ∈ lw' → (2, Value.int m2') ∈ lw' → (3, Value.int m3') ∈ lw' → (10 ≤ 1 * m2'.toInt + 0 ∧ 1 * m2'.toInt + 0 ≤ 10) → (0 ≤ 1 * m3'.toInt + 0 ∧ 1 * m3'.toInt + 0 ≤ 0) → sx_M z9 hd_C σ 0 0 σ' → am_K g 15 tX11_copyRow.1 0 0 10 lw' [] σ' post) : am_K g 15 tX11_copyRow.1 0 0 0 lw [] σ post := by
  refine sg_seg (sw := []) (vs := []) (ws := []) G (mi := 25) rfl hct sg_cp1_0_ok trivial (hd_rfc hl (hd_rfc hlr1 hd_rfn)) trivial hd_p0 hM ?_ ?_
  · intro r σ' hq
    cases r with
    | none => exact hq.elim
    | some v =>
      obtain ⟨p, hp, hM2, ks, hk, hv⟩ := hq
      cases hp
  · intro u hu
    simp only [List.mem_cons, List.not_mem_nil, or_false] at hu
    rcases hu with rfl
    · intro lw' sw' vs' ws' σ' ⟨h1_0, h2, h3_0, h4, h5⟩
      obtain ⟨m2', vs1, rfl, hm2, h1_1⟩ := hd_srcl h1_0
      obtain ⟨m3', vs2, rfl, hm3, h1_2⟩ := hd_srcl h1_1
      obtain rfl := hd_src0 h1_2
      obtain ⟨rfl, rfl⟩ := hd_st0 h3_0
      have hr9_0 := hd_rfh h2
      have hr9_1 := hd_rfh (hd_rfT h2)
      obtain ⟨v0, e0, l0, u0⟩ := h4 _ (List.mem_cons_self)
      have g0 : 1 * m2'.toInt + 0 = v0 := Option.some.inj e0
      obtain ⟨v1, e1, l1, u1⟩ := h4 _ (List.mem_cons_of_mem _ (List.mem_cons_self))
      have g1 : 1 * m3'.toInt + 0 = v1 := Option.some.inj e1
      exact cuta _ _ _ _ hr9_0 hr9_1 hm2 hm3 ⟨by rw [g0]; exact l0, by rw [g0]; exact u0⟩ ⟨by rw [g1]; exact l1, by rw [g1]; exact u1⟩ h5
theorem sg_cp2_0_run (G : sx_G0 g L xs z9 hd_C ex_mt) (hct : ∀ (mi : Nat) (T2 : ex_T) (c' : sx_Ct), ex_mt mi = some T2 → c' ∈ k9 mi → c'.1 < 60 → sx_Holds g z9 hd_C T2 c') {σ : am_S} {lw : List (Nat × Value)} {post : Option (Option Value) → am_S → Prop} (hM : sx_M z9 hd_C σ 0 0 σ) (hl : (0, Value.ref 13) ∈ lw) (hlr1 : (1, Value.ref 5) ∈ lw) {m2 : Int32} (hl2 : (2, Value.int m2) ∈ lw) (bl2 : 10 ≤ m2.toInt ∧ m2.toInt ≤ 10) {m3 : Int32} (hl3 : (3, Value.int m3) ∈ lw) (bl3 : 0 ≤ m3.toInt ∧ m3.toInt ≤ 9) (cuta : ∀ (lw' : List (Nat × Value)) (m2' : Int32) (m3' : Int32) (n0' : Int32) (n1' : Int32) (σ' : am_S), (0, Value.ref 13) ∈ lw' → (1, Value.ref 5) ∈ lw' → (2, Value.int m2') ∈ lw' → (3, Value.int m3') ∈ lw' → (0 ≤ 1 * m3.toInt + ((-1) * n0'.toInt + 0) ∧ 1 * m3.toInt + ((-1) * n0'.toInt + 0) ≤ 0) → (0 ≤ 1 * m3.toInt + ((-1) * n1'.toInt + 0) ∧ 1 * m3.toInt + ((-1) * n1'.toInt + 0) ≤ 0) → (0 ≤ 1 * m2.toInt + ((-1) * m2'.toInt + 0) ∧ 1 * m2.toInt + ((-1) * m2'.toInt + 0) ≤ 0) → (0 ≤ 1 * m3.toInt + ((-1) * m3'.toInt + 0) ∧ 1 * m3.toInt + ((-1) * m3'.toInt + 0) ≤ 0) → sx_M z9 hd_C σ 0 0 σ' → am_K g 15 tX11_copyRow.1 0 0 19 lw' [.int n0', .ref 13, .int n1', .ref 5] σ' post) : am_K g 15 tX11_copyRow.1 0 0 10 lw [] σ post := by
  refine sg_seg (sw := []) (vs := [m2.toInt, m3.toInt]) (ws := []) G (mi := 25) rfl hct sg_cp2_0_ok ⟨⟨m2, hl2, rfl⟩, ⟨⟨m3, hl3, rfl⟩, trivial⟩⟩ (hd_rfc hl (hd_rfc hlr1 hd_rfn)) trivial (hd_p1 rfl bl2.1 bl2.2 (hd_p1 rfl bl3.1 bl3.2 hd_p0)) hM ?_ ?_
  · intro r σ' hq
    cases r with
    | none => exact hq.elim
    | some v =>
      obtain ⟨p, hp, hM2, ks, hk, hv⟩ := hq
      cases hp
  · intro u hu
    simp only [List.mem_cons, List.not_mem_nil, or_false] at hu
    rcases hu with rfl
    · intro lw' sw' vs' ws' σ' ⟨h1_0, h2, h3_0, h4, h5⟩
      obtain ⟨m2', vs1, rfl, hm2, h1_1⟩ := hd_srcl h1_0
      obtain ⟨m3', vs2, rfl, hm3, h1_2⟩ := hd_srcl h1_1
      obtain rfl := hd_src0 h1_2
      obtain ⟨n0', sw1, ws1, rfl, rfl, h3_1⟩ := hd_sti h3_0
      obtain ⟨sw2, rfl, h3_2⟩ := hd_str h3_1
      obtain ⟨n1', sw3, ws3, rfl, rfl, h3_3⟩ := hd_sti h3_2
      obtain ⟨sw4, rfl, h3_4⟩ := hd_str h3_3
      obtain ⟨rfl, rfl⟩ := hd_st0 h3_4
      have hr9_0 := hd_rfh h2
      have hr9_1 := hd_rfh (hd_rfT h2)
      obtain ⟨v0, e0, l0, u0⟩ := h4 _ (List.mem_cons_self)
      have g0 : 1 * m3.toInt + ((-1) * n0'.toInt + 0) = v0 := Option.some.inj e0
      obtain ⟨v1, e1, l1, u1⟩ := h4 _ (List.mem_cons_of_mem _ (List.mem_cons_self))
      have g1 : 1 * m3.toInt + ((-1) * n1'.toInt + 0) = v1 := Option.some.inj e1
      obtain ⟨v2, e2, l2, u2⟩ := h4 _ (List.mem_cons_of_mem _ (List.mem_cons_of_mem _ (List.mem_cons_self)))
      have g2 : 1 * m2.toInt + ((-1) * m2'.toInt + 0) = v2 := Option.some.inj e2
      obtain ⟨v3, e3, l3, u3⟩ := h4 _ (List.mem_cons_of_mem _ (List.mem_cons_of_mem _ (List.mem_cons_of_mem _ (List.mem_cons_self))))
      have g3 : 1 * m3.toInt + ((-1) * m3'.toInt + 0) = v3 := Option.some.inj e3
      exact cuta _ _ _ _ _ _ hr9_0 hr9_1 hm2 hm3 ⟨by rw [g0]; exact l0, by rw [g0]; exact u0⟩ ⟨by rw [g1]; exact l1, by rw [g1]; exact u1⟩ ⟨by rw [g2]; exact l2, by rw [g2]; exact u2⟩ ⟨by rw [g3]; exact l3, by rw [g3]; exact u3⟩ h5
theorem sg_cp3_0_run (G : sx_G0 g L xs z9 hd_C ex_mt) (hct : ∀ (mi : Nat) (T2 : ex_T) (c' : sx_Ct), ex_mt mi = some T2 → c' ∈ k9 mi → c'.1 < 60 → sx_Holds g z9 hd_C T2 c') {σ : am_S} {lw : List (Nat × Value)} {post : Option (Option Value) → am_S → Prop} (hM : sx_M z9 hd_C σ 0 0 σ) (hl : (0, Value.ref 13) ∈ lw) (hlr1 : (1, Value.ref 5) ∈ lw) {m2 : Int32} (hl2 : (2, Value.int m2) ∈ lw) (bl2 : 10 ≤ m2.toInt ∧ m2.toInt ≤ 10) {m3 : Int32} (hl3 : (3, Value.int m3) ∈ lw) (bl3 : 0 ≤ m3.toInt ∧ m3.toInt ≤ 9) (cuta : ∀ (lw' : List (Nat × Value)) (m2' : Int32) (m3' : Int32) (σ' : am_S), (0, Value.ref 13) ∈ lw' → (1, Value.ref 5) ∈ lw' → (2, Value.int m2') ∈ lw' → (3, Value.int m3') ∈ lw' → (0 ≤ 1 * m2.toInt + ((-1) * m2'.toInt + 0) ∧ 1 * m2.toInt + ((-1) * m2'.toInt + 0) ≤ 0) → ((-1) ≤ 1 * m3.toInt + ((-1) * m3'.toInt + 0) ∧ 1 * m3.toInt + ((-1) * m3'.toInt + 0) ≤ (-1)) → sx_M z9 hd_C σ 0 0 σ' → am_K g 15 tX11_copyRow.1 0 0 10 lw' [] σ' post) : am_K g 15 tX11_copyRow.1 0 0 21 lw [] σ post := by
  refine sg_seg (sw := []) (vs := [m2.toInt, m3.toInt]) (ws := []) G (mi := 25) rfl hct sg_cp3_0_ok ⟨⟨m2, hl2, rfl⟩, ⟨⟨m3, hl3, rfl⟩, trivial⟩⟩ (hd_rfc hl (hd_rfc hlr1 hd_rfn)) trivial (hd_p1 rfl bl2.1 bl2.2 (hd_p1 rfl bl3.1 bl3.2 hd_p0)) hM ?_ ?_
  · intro r σ' hq
    cases r with
    | none => exact hq.elim
    | some v =>
      obtain ⟨p, hp, hM2, ks, hk, hv⟩ := hq
      cases hp
  · intro u hu
    simp only [List.mem_cons, List.not_mem_nil, or_false] at hu
    rcases hu with rfl
    · intro lw' sw' vs' ws' σ' ⟨h1_0, h2, h3_0, h4, h5⟩
      obtain ⟨m2', vs1, rfl, hm2, h1_1⟩ := hd_srcl h1_0
      obtain ⟨m3', vs2, rfl, hm3, h1_2⟩ := hd_srcl h1_1
      obtain rfl := hd_src0 h1_2
      obtain ⟨rfl, rfl⟩ := hd_st0 h3_0
      have hr9_0 := hd_rfh h2
      have hr9_1 := hd_rfh (hd_rfT h2)
      obtain ⟨v0, e0, l0, u0⟩ := h4 _ (List.mem_cons_self)
      have g0 : 1 * m2.toInt + ((-1) * m2'.toInt + 0) = v0 := Option.some.inj e0
      obtain ⟨v1, e1, l1, u1⟩ := h4 _ (List.mem_cons_of_mem _ (List.mem_cons_self))
      have g1 : 1 * m3.toInt + ((-1) * m3'.toInt + 0) = v1 := Option.some.inj e1
      exact cuta _ _ _ _ hr9_0 hr9_1 hm2 hm3 ⟨by rw [g0]; exact l0, by rw [g0]; exact u0⟩ ⟨by rw [g1]; exact l1, by rw [g1]; exact u1⟩ h5
theorem sg_cp4_0_run (G : sx_G0 g L xs z9 hd_C ex_mt) (hct : ∀ (mi : Nat) (T2 : ex_T) (c' : sx_Ct), ex_mt mi = some T2 → c' ∈ k9 mi → c'.1 < 60 → sx_Holds g z9 hd_C T2 c') {σ : am_S} {lw : List (Nat × Value)} {post : Option (Option Value) → am_S → Prop} (hM : sx_M z9 hd_C σ 0 0 σ) (hl : (0, Value.ref 13) ∈ lw) (hlr1 : (1, Value.ref 5) ∈ lw) {m2 : Int32} (hl2 : (2, Value.int m2) ∈ lw) (bl2 : 10 ≤ m2.toInt ∧ m2.toInt ≤ 10) {m3 : Int32} (hl3 : (3, Value.int m3) ∈ lw) (bl3 : 10 ≤ m3.toInt ∧ m3.toInt ≤ 10) (ret0 : ∀ (σ' : am_S), sx_M z9 hd_C σ 0 0 σ' → post (some none) σ') : am_K g 15 tX11_copyRow.1 0 0 10 lw [] σ post := by
  refine sg_seg (sw := []) (vs := [m2.toInt, m3.toInt]) (ws := []) G (mi := 25) rfl hct sg_cp4_0_ok ⟨⟨m2, hl2, rfl⟩, ⟨⟨m3, hl3, rfl⟩, trivial⟩⟩ (hd_rfc hl (hd_rfc hlr1 hd_rfn)) trivial (hd_p1 rfl bl2.1 bl2.2 (hd_p1 rfl bl3.1 bl3.2 hd_p0)) hM ?_ ?_
  · intro r σ' hq
    cases r with
    | none => exact hq.elim
    | some v =>
      obtain ⟨p, hp, hM2, ks, hk, hv⟩ := hq
      simp only [List.mem_cons, List.not_mem_nil, or_false] at hp
      rcases hp with rfl
      · obtain rfl := hd_keys hk
        cases v with
        | some w9 => exact hv.elim
        | none =>
          have hP := hv
          exact ret0 _  hM2
  · intro u hu
    cases hu
theorem sg_cf0_run (G : sx_G0 g L xs z9 hd_C ex_mt) (hct : ∀ (mi : Nat) (T2 : ex_T) (c' : sx_Ct), ex_mt mi = some T2 → c' ∈ k9 mi → c'.1 < 60 → sx_Holds g z9 hd_C T2 c') {σ : am_S} {lw : List (Nat × Value)} {post : Option (Option Value) → am_S → Prop} (hM : sx_M z9 hd_C σ 0 0 σ) (hl : (0, Value.ref 4) ∈ lw) (hlr1 : (1, Value.ref 12) ∈ lw)  (cuta : ∀ (lw' : List (Nat × Value))  (σ' : am_S), (0, Value.ref 4) ∈ lw' → (1, Value.ref 12) ∈ lw' → sx_M z9 hd_C σ 0 0 σ' → am_K g 20 tX9_copyFrom.1 0 0 8 lw' [.ref 5, .ref 13] σ' post) : am_K g 20 tX9_copyFrom.1 0 0 0 lw [] σ post := by
  refine sg_seg (sw := []) (vs := []) (ws := []) G (mi := 290) rfl hct sg_cf0_ok trivial (hd_rfc hl (hd_rfc hlr1 hd_rfn)) trivial hd_p0 hM ?_ ?_
  · intro r σ' hq
    cases r with
    | none => exact hq.elim
    | some v =>
      obtain ⟨p, hp, hM2, ks, hk, hv⟩ := hq
      cases hp
  · intro u hu
    simp only [List.mem_cons, List.not_mem_nil, or_false] at hu
    rcases hu with rfl
    · intro lw' sw' vs' ws' σ' ⟨h1_0, h2, h3_0, h4, h5⟩
      obtain rfl := hd_src0 h1_0
      obtain ⟨sw1, rfl, h3_1⟩ := hd_str h3_0
      obtain ⟨sw2, rfl, h3_2⟩ := hd_str h3_1
      obtain ⟨rfl, rfl⟩ := hd_st0 h3_2
      have hr9_0 := hd_rfh h2
      have hr9_1 := hd_rfh (hd_rfT h2)
      exact cuta _  _ hr9_0 hr9_1   h5
theorem sg_cp1_1_run (G : sx_G0 g L xs z9 hd_C ex_mt) (hct : ∀ (mi : Nat) (T2 : ex_T) (c' : sx_Ct), ex_mt mi = some T2 → c' ∈ k9 mi → c'.1 < 60 → sx_Holds g z9 hd_C T2 c') {σ : am_S} {lw : List (Nat × Value)} {post : Option (Option Value) → am_S → Prop} (hM : sx_M z9 hd_C σ 0 0 σ) (hl : (0, Value.ref 14) ∈ lw) (hlr1 : (1, Value.ref 6) ∈ lw)  (cuta : ∀ (lw' : List (Nat × Value)) (m2' : Int32) (m3' : Int32) (σ' : am_S), (0, Value.ref 14) ∈ lw' → (1, Value.ref 6) ∈ lw' → (2, Value.int m2') ∈ lw' → (3, Value.int m3') ∈ lw' → (10 ≤ 1 * m2'.toInt + 0 ∧ 1 * m2'.toInt + 0 ≤ 10) → (0 ≤ 1 * m3'.toInt + 0 ∧ 1 * m3'.toInt + 0 ≤ 0) → sx_M z9 hd_C σ 0 0 σ' → am_K g 15 tX11_copyRow.1 0 0 10 lw' [] σ' post) : am_K g 15 tX11_copyRow.1 0 0 0 lw [] σ post := by
  refine sg_seg (sw := []) (vs := []) (ws := []) G (mi := 25) rfl hct sg_cp1_1_ok trivial (hd_rfc hl (hd_rfc hlr1 hd_rfn)) trivial hd_p0 hM ?_ ?_
  · intro r σ' hq
    cases r with
    | none => exact hq.elim
    | some v =>
      obtain ⟨p, hp, hM2, ks, hk, hv⟩ := hq
      cases hp
  · intro u hu
    simp only [List.mem_cons, List.not_mem_nil, or_false] at hu
    rcases hu with rfl
    · intro lw' sw' vs' ws' σ' ⟨h1_0, h2, h3_0, h4, h5⟩
      obtain ⟨m2', vs1, rfl, hm2, h1_1⟩ := hd_srcl h1_0
      obtain ⟨m3', vs2, rfl, hm3, h1_2⟩ := hd_srcl h1_1
      obtain rfl := hd_src0 h1_2
      obtain ⟨rfl, rfl⟩ := hd_st0 h3_0
      have hr9_0 := hd_rfh h2
      have hr9_1 := hd_rfh (hd_rfT h2)
      obtain ⟨v0, e0, l0, u0⟩ := h4 _ (List.mem_cons_self)
      have g0 : 1 * m2'.toInt + 0 = v0 := Option.some.inj e0
      obtain ⟨v1, e1, l1, u1⟩ := h4 _ (List.mem_cons_of_mem _ (List.mem_cons_self))
      have g1 : 1 * m3'.toInt + 0 = v1 := Option.some.inj e1
      exact cuta _ _ _ _ hr9_0 hr9_1 hm2 hm3 ⟨by rw [g0]; exact l0, by rw [g0]; exact u0⟩ ⟨by rw [g1]; exact l1, by rw [g1]; exact u1⟩ h5
theorem sg_cp2_1_run (G : sx_G0 g L xs z9 hd_C ex_mt) (hct : ∀ (mi : Nat) (T2 : ex_T) (c' : sx_Ct), ex_mt mi = some T2 → c' ∈ k9 mi → c'.1 < 60 → sx_Holds g z9 hd_C T2 c') {σ : am_S} {lw : List (Nat × Value)} {post : Option (Option Value) → am_S → Prop} (hM : sx_M z9 hd_C σ 0 0 σ) (hl : (0, Value.ref 14) ∈ lw) (hlr1 : (1, Value.ref 6) ∈ lw) {m2 : Int32} (hl2 : (2, Value.int m2) ∈ lw) (bl2 : 10 ≤ m2.toInt ∧ m2.toInt ≤ 10) {m3 : Int32} (hl3 : (3, Value.int m3) ∈ lw) (bl3 : 0 ≤ m3.toInt ∧ m3.toInt ≤ 9) (cuta : ∀ (lw' : List (Nat × Value)) (m2' : Int32) (m3' : Int32) (n0' : Int32) (n1' : Int32) (σ' : am_S), (0, Value.ref 14) ∈ lw' → (1, Value.ref 6) ∈ lw' → (2, Value.int m2') ∈ lw' → (3, Value.int m3') ∈ lw' → (0 ≤ 1 * m3.toInt + ((-1) * n0'.toInt + 0) ∧ 1 * m3.toInt + ((-1) * n0'.toInt + 0) ≤ 0) → (0 ≤ 1 * m3.toInt + ((-1) * n1'.toInt + 0) ∧ 1 * m3.toInt + ((-1) * n1'.toInt + 0) ≤ 0) → (0 ≤ 1 * m2.toInt + ((-1) * m2'.toInt + 0) ∧ 1 * m2.toInt + ((-1) * m2'.toInt + 0) ≤ 0) → (0 ≤ 1 * m3.toInt + ((-1) * m3'.toInt + 0) ∧ 1 * m3.toInt + ((-1) * m3'.toInt + 0) ≤ 0) → sx_M z9 hd_C σ 0 0 σ' → am_K g 15 tX11_copyRow.1 0 0 19 lw' [.int n0', .ref 14, .int n1', .ref 6] σ' post) : am_K g 15 tX11_copyRow.1 0 0 10 lw [] σ post := by
  refine sg_seg (sw := []) (vs := [m2.toInt, m3.toInt]) (ws := []) G (mi := 25) rfl hct sg_cp2_1_ok ⟨⟨m2, hl2, rfl⟩, ⟨⟨m3, hl3, rfl⟩, trivial⟩⟩ (hd_rfc hl (hd_rfc hlr1 hd_rfn)) trivial (hd_p1 rfl bl2.1 bl2.2 (hd_p1 rfl bl3.1 bl3.2 hd_p0)) hM ?_ ?_
  · intro r σ' hq
    cases r with
    | none => exact hq.elim
    | some v =>
      obtain ⟨p, hp, hM2, ks, hk, hv⟩ := hq
      cases hp
  · intro u hu
    simp only [List.mem_cons, List.not_mem_nil, or_false] at hu
    rcases hu with rfl
    · intro lw' sw' vs' ws' σ' ⟨h1_0, h2, h3_0, h4, h5⟩
      obtain ⟨m2', vs1, rfl, hm2, h1_1⟩ := hd_srcl h1_0
      obtain ⟨m3', vs2, rfl, hm3, h1_2⟩ := hd_srcl h1_1
      obtain rfl := hd_src0 h1_2
      obtain ⟨n0', sw1, ws1, rfl, rfl, h3_1⟩ := hd_sti h3_0
      obtain ⟨sw2, rfl, h3_2⟩ := hd_str h3_1
      obtain ⟨n1', sw3, ws3, rfl, rfl, h3_3⟩ := hd_sti h3_2
      obtain ⟨sw4, rfl, h3_4⟩ := hd_str h3_3
      obtain ⟨rfl, rfl⟩ := hd_st0 h3_4
      have hr9_0 := hd_rfh h2
      have hr9_1 := hd_rfh (hd_rfT h2)
      obtain ⟨v0, e0, l0, u0⟩ := h4 _ (List.mem_cons_self)
      have g0 : 1 * m3.toInt + ((-1) * n0'.toInt + 0) = v0 := Option.some.inj e0
      obtain ⟨v1, e1, l1, u1⟩ := h4 _ (List.mem_cons_of_mem _ (List.mem_cons_self))
      have g1 : 1 * m3.toInt + ((-1) * n1'.toInt + 0) = v1 := Option.some.inj e1
      obtain ⟨v2, e2, l2, u2⟩ := h4 _ (List.mem_cons_of_mem _ (List.mem_cons_of_mem _ (List.mem_cons_self)))
      have g2 : 1 * m2.toInt + ((-1) * m2'.toInt + 0) = v2 := Option.some.inj e2
      obtain ⟨v3, e3, l3, u3⟩ := h4 _ (List.mem_cons_of_mem _ (List.mem_cons_of_mem _ (List.mem_cons_of_mem _ (List.mem_cons_self))))
      have g3 : 1 * m3.toInt + ((-1) * m3'.toInt + 0) = v3 := Option.some.inj e3
      exact cuta _ _ _ _ _ _ hr9_0 hr9_1 hm2 hm3 ⟨by rw [g0]; exact l0, by rw [g0]; exact u0⟩ ⟨by rw [g1]; exact l1, by rw [g1]; exact u1⟩ ⟨by rw [g2]; exact l2, by rw [g2]; exact u2⟩ ⟨by rw [g3]; exact l3, by rw [g3]; exact u3⟩ h5
theorem sg_cp3_1_run (G : sx_G0 g L xs z9 hd_C ex_mt) (hct : ∀ (mi : Nat) (T2 : ex_T) (c' : sx_Ct), ex_mt mi = some T2 → c' ∈ k9 mi → c'.1 < 60 → sx_Holds g z9 hd_C T2 c') {σ : am_S} {lw : List (Nat × Value)} {post : Option (Option Value) → am_S → Prop} (hM : sx_M z9 hd_C σ 0 0 σ) (hl : (0, Value.ref 14) ∈ lw) (hlr1 : (1, Value.ref 6) ∈ lw) {m2 : Int32} (hl2 : (2, Value.int m2) ∈ lw) (bl2 : 10 ≤ m2.toInt ∧ m2.toInt ≤ 10) {m3 : Int32} (hl3 : (3, Value.int m3) ∈ lw) (bl3 : 0 ≤ m3.toInt ∧ m3.toInt ≤ 9) (cuta : ∀ (lw' : List (Nat × Value)) (m2' : Int32) (m3' : Int32) (σ' : am_S), (0, Value.ref 14) ∈ lw' → (1, Value.ref 6) ∈ lw' → (2, Value.int m2') ∈ lw' → (3, Value.int m3') ∈ lw' → (0 ≤ 1 * m2.toInt + ((-1) * m2'.toInt + 0) ∧ 1 * m2.toInt + ((-1) * m2'.toInt + 0) ≤ 0) → ((-1) ≤ 1 * m3.toInt + ((-1) * m3'.toInt + 0) ∧ 1 * m3.toInt + ((-1) * m3'.toInt + 0) ≤ (-1)) → sx_M z9 hd_C σ 0 0 σ' → am_K g 15 tX11_copyRow.1 0 0 10 lw' [] σ' post) : am_K g 15 tX11_copyRow.1 0 0 21 lw [] σ post := by
  refine sg_seg (sw := []) (vs := [m2.toInt, m3.toInt]) (ws := []) G (mi := 25) rfl hct sg_cp3_1_ok ⟨⟨m2, hl2, rfl⟩, ⟨⟨m3, hl3, rfl⟩, trivial⟩⟩ (hd_rfc hl (hd_rfc hlr1 hd_rfn)) trivial (hd_p1 rfl bl2.1 bl2.2 (hd_p1 rfl bl3.1 bl3.2 hd_p0)) hM ?_ ?_
  · intro r σ' hq
    cases r with
    | none => exact hq.elim
    | some v =>
      obtain ⟨p, hp, hM2, ks, hk, hv⟩ := hq
      cases hp
  · intro u hu
    simp only [List.mem_cons, List.not_mem_nil, or_false] at hu
    rcases hu with rfl
    · intro lw' sw' vs' ws' σ' ⟨h1_0, h2, h3_0, h4, h5⟩
      obtain ⟨m2', vs1, rfl, hm2, h1_1⟩ := hd_srcl h1_0
      obtain ⟨m3', vs2, rfl, hm3, h1_2⟩ := hd_srcl h1_1
      obtain rfl := hd_src0 h1_2
      obtain ⟨rfl, rfl⟩ := hd_st0 h3_0
      have hr9_0 := hd_rfh h2
      have hr9_1 := hd_rfh (hd_rfT h2)
      obtain ⟨v0, e0, l0, u0⟩ := h4 _ (List.mem_cons_self)
      have g0 : 1 * m2.toInt + ((-1) * m2'.toInt + 0) = v0 := Option.some.inj e0
      obtain ⟨v1, e1, l1, u1⟩ := h4 _ (List.mem_cons_of_mem _ (List.mem_cons_self))
      have g1 : 1 * m3.toInt + ((-1) * m3'.toInt + 0) = v1 := Option.some.inj e1
      exact cuta _ _ _ _ hr9_0 hr9_1 hm2 hm3 ⟨by rw [g0]; exact l0, by rw [g0]; exact u0⟩ ⟨by rw [g1]; exact l1, by rw [g1]; exact u1⟩ h5
theorem sg_cp4_1_run (G : sx_G0 g L xs z9 hd_C ex_mt) (hct : ∀ (mi : Nat) (T2 : ex_T) (c' : sx_Ct), ex_mt mi = some T2 → c' ∈ k9 mi → c'.1 < 60 → sx_Holds g z9 hd_C T2 c') {σ : am_S} {lw : List (Nat × Value)} {post : Option (Option Value) → am_S → Prop} (hM : sx_M z9 hd_C σ 0 0 σ) (hl : (0, Value.ref 14) ∈ lw) (hlr1 : (1, Value.ref 6) ∈ lw) {m2 : Int32} (hl2 : (2, Value.int m2) ∈ lw) (bl2 : 10 ≤ m2.toInt ∧ m2.toInt ≤ 10) {m3 : Int32} (hl3 : (3, Value.int m3) ∈ lw) (bl3 : 10 ≤ m3.toInt ∧ m3.toInt ≤ 10) (ret0 : ∀ (σ' : am_S), sx_M z9 hd_C σ 0 0 σ' → post (some none) σ') : am_K g 15 tX11_copyRow.1 0 0 10 lw [] σ post := by
  refine sg_seg (sw := []) (vs := [m2.toInt, m3.toInt]) (ws := []) G (mi := 25) rfl hct sg_cp4_1_ok ⟨⟨m2, hl2, rfl⟩, ⟨⟨m3, hl3, rfl⟩, trivial⟩⟩ (hd_rfc hl (hd_rfc hlr1 hd_rfn)) trivial (hd_p1 rfl bl2.1 bl2.2 (hd_p1 rfl bl3.1 bl3.2 hd_p0)) hM ?_ ?_
  · intro r σ' hq
    cases r with
    | none => exact hq.elim
    | some v =>
      obtain ⟨p, hp, hM2, ks, hk, hv⟩ := hq
      simp only [List.mem_cons, List.not_mem_nil, or_false] at hp
      rcases hp with rfl
      · obtain rfl := hd_keys hk
        cases v with
        | some w9 => exact hv.elim
        | none =>
          have hP := hv
          exact ret0 _  hM2
  · intro u hu
    cases hu
theorem sg_cf1_run (G : sx_G0 g L xs z9 hd_C ex_mt) (hct : ∀ (mi : Nat) (T2 : ex_T) (c' : sx_Ct), ex_mt mi = some T2 → c' ∈ k9 mi → c'.1 < 60 → sx_Holds g z9 hd_C T2 c') {σ : am_S} {lw : List (Nat × Value)} {post : Option (Option Value) → am_S → Prop} (hM : sx_M z9 hd_C σ 0 0 σ) (hl : (0, Value.ref 4) ∈ lw) (hlr1 : (1, Value.ref 12) ∈ lw)  (cuta : ∀ (lw' : List (Nat × Value))  (σ' : am_S), (0, Value.ref 4) ∈ lw' → (1, Value.ref 12) ∈ lw' → sx_M z9 hd_C σ 0 0 σ' → am_K g 20 tX9_copyFrom.1 0 0 19 lw' [.ref 6, .ref 14] σ' post) : am_K g 20 tX9_copyFrom.1 0 0 11 lw [] σ post := by
  refine sg_seg (sw := []) (vs := []) (ws := []) G (mi := 290) rfl hct sg_cf1_ok trivial (hd_rfc hl (hd_rfc hlr1 hd_rfn)) trivial hd_p0 hM ?_ ?_
  · intro r σ' hq
    cases r with
    | none => exact hq.elim
    | some v =>
      obtain ⟨p, hp, hM2, ks, hk, hv⟩ := hq
      cases hp
  · intro u hu
    simp only [List.mem_cons, List.not_mem_nil, or_false] at hu
    rcases hu with rfl
    · intro lw' sw' vs' ws' σ' ⟨h1_0, h2, h3_0, h4, h5⟩
      obtain rfl := hd_src0 h1_0
      obtain ⟨sw1, rfl, h3_1⟩ := hd_str h3_0
      obtain ⟨sw2, rfl, h3_2⟩ := hd_str h3_1
      obtain ⟨rfl, rfl⟩ := hd_st0 h3_2
      have hr9_0 := hd_rfh h2
      have hr9_1 := hd_rfh (hd_rfT h2)
      exact cuta _  _ hr9_0 hr9_1   h5
theorem sg_cp1_2_run (G : sx_G0 g L xs z9 hd_C ex_mt) (hct : ∀ (mi : Nat) (T2 : ex_T) (c' : sx_Ct), ex_mt mi = some T2 → c' ∈ k9 mi → c'.1 < 60 → sx_Holds g z9 hd_C T2 c') {σ : am_S} {lw : List (Nat × Value)} {post : Option (Option Value) → am_S → Prop} (hM : sx_M z9 hd_C σ 0 0 σ) (hl : (0, Value.ref 15) ∈ lw) (hlr1 : (1, Value.ref 7) ∈ lw)  (cuta : ∀ (lw' : List (Nat × Value)) (m2' : Int32) (m3' : Int32) (σ' : am_S), (0, Value.ref 15) ∈ lw' → (1, Value.ref 7) ∈ lw' → (2, Value.int m2') ∈ lw' → (3, Value.int m3') ∈ lw' → (10 ≤ 1 * m2'.toInt + 0 ∧ 1 * m2'.toInt + 0 ≤ 10) → (0 ≤ 1 * m3'.toInt + 0 ∧ 1 * m3'.toInt + 0 ≤ 0) → sx_M z9 hd_C σ 0 0 σ' → am_K g 15 tX11_copyRow.1 0 0 10 lw' [] σ' post) : am_K g 15 tX11_copyRow.1 0 0 0 lw [] σ post := by
  refine sg_seg (sw := []) (vs := []) (ws := []) G (mi := 25) rfl hct sg_cp1_2_ok trivial (hd_rfc hl (hd_rfc hlr1 hd_rfn)) trivial hd_p0 hM ?_ ?_
  · intro r σ' hq
    cases r with
    | none => exact hq.elim
    | some v =>
      obtain ⟨p, hp, hM2, ks, hk, hv⟩ := hq
      cases hp
  · intro u hu
    simp only [List.mem_cons, List.not_mem_nil, or_false] at hu
    rcases hu with rfl
    · intro lw' sw' vs' ws' σ' ⟨h1_0, h2, h3_0, h4, h5⟩
      obtain ⟨m2', vs1, rfl, hm2, h1_1⟩ := hd_srcl h1_0
      obtain ⟨m3', vs2, rfl, hm3, h1_2⟩ := hd_srcl h1_1
      obtain rfl := hd_src0 h1_2
      obtain ⟨rfl, rfl⟩ := hd_st0 h3_0
      have hr9_0 := hd_rfh h2
      have hr9_1 := hd_rfh (hd_rfT h2)
      obtain ⟨v0, e0, l0, u0⟩ := h4 _ (List.mem_cons_self)
      have g0 : 1 * m2'.toInt + 0 = v0 := Option.some.inj e0
      obtain ⟨v1, e1, l1, u1⟩ := h4 _ (List.mem_cons_of_mem _ (List.mem_cons_self))
      have g1 : 1 * m3'.toInt + 0 = v1 := Option.some.inj e1
      exact cuta _ _ _ _ hr9_0 hr9_1 hm2 hm3 ⟨by rw [g0]; exact l0, by rw [g0]; exact u0⟩ ⟨by rw [g1]; exact l1, by rw [g1]; exact u1⟩ h5
theorem sg_cp2_2_run (G : sx_G0 g L xs z9 hd_C ex_mt) (hct : ∀ (mi : Nat) (T2 : ex_T) (c' : sx_Ct), ex_mt mi = some T2 → c' ∈ k9 mi → c'.1 < 60 → sx_Holds g z9 hd_C T2 c') {σ : am_S} {lw : List (Nat × Value)} {post : Option (Option Value) → am_S → Prop} (hM : sx_M z9 hd_C σ 0 0 σ) (hl : (0, Value.ref 15) ∈ lw) (hlr1 : (1, Value.ref 7) ∈ lw) {m2 : Int32} (hl2 : (2, Value.int m2) ∈ lw) (bl2 : 10 ≤ m2.toInt ∧ m2.toInt ≤ 10) {m3 : Int32} (hl3 : (3, Value.int m3) ∈ lw) (bl3 : 0 ≤ m3.toInt ∧ m3.toInt ≤ 9) (cuta : ∀ (lw' : List (Nat × Value)) (m2' : Int32) (m3' : Int32) (n0' : Int32) (n1' : Int32) (σ' : am_S), (0, Value.ref 15) ∈ lw' → (1, Value.ref 7) ∈ lw' → (2, Value.int m2') ∈ lw' → (3, Value.int m3') ∈ lw' → (0 ≤ 1 * m3.toInt + ((-1) * n0'.toInt + 0) ∧ 1 * m3.toInt + ((-1) * n0'.toInt + 0) ≤ 0) → (0 ≤ 1 * m3.toInt + ((-1) * n1'.toInt + 0) ∧ 1 * m3.toInt + ((-1) * n1'.toInt + 0) ≤ 0) → (0 ≤ 1 * m2.toInt + ((-1) * m2'.toInt + 0) ∧ 1 * m2.toInt + ((-1) * m2'.toInt + 0) ≤ 0) → (0 ≤ 1 * m3.toInt + ((-1) * m3'.toInt + 0) ∧ 1 * m3.toInt + ((-1) * m3'.toInt + 0) ≤ 0) → sx_M z9 hd_C σ 0 0 σ' → am_K g 15 tX11_copyRow.1 0 0 19 lw' [.int n0', .ref 15, .int n1', .ref 7] σ' post) : am_K g 15 tX11_copyRow.1 0 0 10 lw [] σ post := by
  refine sg_seg (sw := []) (vs := [m2.toInt, m3.toInt]) (ws := []) G (mi := 25) rfl hct sg_cp2_2_ok ⟨⟨m2, hl2, rfl⟩, ⟨⟨m3, hl3, rfl⟩, trivial⟩⟩ (hd_rfc hl (hd_rfc hlr1 hd_rfn)) trivial (hd_p1 rfl bl2.1 bl2.2 (hd_p1 rfl bl3.1 bl3.2 hd_p0)) hM ?_ ?_
  · intro r σ' hq
    cases r with
    | none => exact hq.elim
    | some v =>
      obtain ⟨p, hp, hM2, ks, hk, hv⟩ := hq
      cases hp
  · intro u hu
    simp only [List.mem_cons, List.not_mem_nil, or_false] at hu
    rcases hu with rfl
    · intro lw' sw' vs' ws' σ' ⟨h1_0, h2, h3_0, h4, h5⟩
      obtain ⟨m2', vs1, rfl, hm2, h1_1⟩ := hd_srcl h1_0
      obtain ⟨m3', vs2, rfl, hm3, h1_2⟩ := hd_srcl h1_1
      obtain rfl := hd_src0 h1_2
      obtain ⟨n0', sw1, ws1, rfl, rfl, h3_1⟩ := hd_sti h3_0
      obtain ⟨sw2, rfl, h3_2⟩ := hd_str h3_1
      obtain ⟨n1', sw3, ws3, rfl, rfl, h3_3⟩ := hd_sti h3_2
      obtain ⟨sw4, rfl, h3_4⟩ := hd_str h3_3
      obtain ⟨rfl, rfl⟩ := hd_st0 h3_4
      have hr9_0 := hd_rfh h2
      have hr9_1 := hd_rfh (hd_rfT h2)
      obtain ⟨v0, e0, l0, u0⟩ := h4 _ (List.mem_cons_self)
      have g0 : 1 * m3.toInt + ((-1) * n0'.toInt + 0) = v0 := Option.some.inj e0
      obtain ⟨v1, e1, l1, u1⟩ := h4 _ (List.mem_cons_of_mem _ (List.mem_cons_self))
      have g1 : 1 * m3.toInt + ((-1) * n1'.toInt + 0) = v1 := Option.some.inj e1
      obtain ⟨v2, e2, l2, u2⟩ := h4 _ (List.mem_cons_of_mem _ (List.mem_cons_of_mem _ (List.mem_cons_self)))
      have g2 : 1 * m2.toInt + ((-1) * m2'.toInt + 0) = v2 := Option.some.inj e2
      obtain ⟨v3, e3, l3, u3⟩ := h4 _ (List.mem_cons_of_mem _ (List.mem_cons_of_mem _ (List.mem_cons_of_mem _ (List.mem_cons_self))))
      have g3 : 1 * m3.toInt + ((-1) * m3'.toInt + 0) = v3 := Option.some.inj e3
      exact cuta _ _ _ _ _ _ hr9_0 hr9_1 hm2 hm3 ⟨by rw [g0]; exact l0, by rw [g0]; exact u0⟩ ⟨by rw [g1]; exact l1, by rw [g1]; exact u1⟩ ⟨by rw [g2]; exact l2, by rw [g2]; exact u2⟩ ⟨by rw [g3]; exact l3, by rw [g3]; exact u3⟩ h5
theorem sg_cp3_2_run (G : sx_G0 g L xs z9 hd_C ex_mt) (hct : ∀ (mi : Nat) (T2 : ex_T) (c' : sx_Ct), ex_mt mi = some T2 → c' ∈ k9 mi → c'.1 < 60 → sx_Holds g z9 hd_C T2 c') {σ : am_S} {lw : List (Nat × Value)} {post : Option (Option Value) → am_S → Prop} (hM : sx_M z9 hd_C σ 0 0 σ) (hl : (0, Value.ref 15) ∈ lw) (hlr1 : (1, Value.ref 7) ∈ lw) {m2 : Int32} (hl2 : (2, Value.int m2) ∈ lw) (bl2 : 10 ≤ m2.toInt ∧ m2.toInt ≤ 10) {m3 : Int32} (hl3 : (3, Value.int m3) ∈ lw) (bl3 : 0 ≤ m3.toInt ∧ m3.toInt ≤ 9) (cuta : ∀ (lw' : List (Nat × Value)) (m2' : Int32) (m3' : Int32) (σ' : am_S), (0, Value.ref 15) ∈ lw' → (1, Value.ref 7) ∈ lw' → (2, Value.int m2') ∈ lw' → (3, Value.int m3') ∈ lw' → (0 ≤ 1 * m2.toInt + ((-1) * m2'.toInt + 0) ∧ 1 * m2.toInt + ((-1) * m2'.toInt + 0) ≤ 0) → ((-1) ≤ 1 * m3.toInt + ((-1) * m3'.toInt + 0) ∧ 1 * m3.toInt + ((-1) * m3'.toInt + 0) ≤ (-1)) → sx_M z9 hd_C σ 0 0 σ' → am_K g 15 tX11_copyRow.1 0 0 10 lw' [] σ' post) : am_K g 15 tX11_copyRow.1 0 0 21 lw [] σ post := by
  refine sg_seg (sw := []) (vs := [m2.toInt, m3.toInt]) (ws := []) G (mi := 25) rfl hct sg_cp3_2_ok ⟨⟨m2, hl2, rfl⟩, ⟨⟨m3, hl3, rfl⟩, trivial⟩⟩ (hd_rfc hl (hd_rfc hlr1 hd_rfn)) trivial (hd_p1 rfl bl2.1 bl2.2 (hd_p1 rfl bl3.1 bl3.2 hd_p0)) hM ?_ ?_
  · intro r σ' hq
    cases r with
    | none => exact hq.elim
    | some v =>
      obtain ⟨p, hp, hM2, ks, hk, hv⟩ := hq
      cases hp
  · intro u hu
    simp only [List.mem_cons, List.not_mem_nil, or_false] at hu
    rcases hu with rfl
    · intro lw' sw' vs' ws' σ' ⟨h1_0, h2, h3_0, h4, h5⟩
      obtain ⟨m2', vs1, rfl, hm2, h1_1⟩ := hd_srcl h1_0
      obtain ⟨m3', vs2, rfl, hm3, h1_2⟩ := hd_srcl h1_1
      obtain rfl := hd_src0 h1_2
      obtain ⟨rfl, rfl⟩ := hd_st0 h3_0
      have hr9_0 := hd_rfh h2
      have hr9_1 := hd_rfh (hd_rfT h2)
      obtain ⟨v0, e0, l0, u0⟩ := h4 _ (List.mem_cons_self)
      have g0 : 1 * m2.toInt + ((-1) * m2'.toInt + 0) = v0 := Option.some.inj e0
      obtain ⟨v1, e1, l1, u1⟩ := h4 _ (List.mem_cons_of_mem _ (List.mem_cons_self))
      have g1 : 1 * m3.toInt + ((-1) * m3'.toInt + 0) = v1 := Option.some.inj e1
      exact cuta _ _ _ _ hr9_0 hr9_1 hm2 hm3 ⟨by rw [g0]; exact l0, by rw [g0]; exact u0⟩ ⟨by rw [g1]; exact l1, by rw [g1]; exact u1⟩ h5
theorem sg_cp4_2_run (G : sx_G0 g L xs z9 hd_C ex_mt) (hct : ∀ (mi : Nat) (T2 : ex_T) (c' : sx_Ct), ex_mt mi = some T2 → c' ∈ k9 mi → c'.1 < 60 → sx_Holds g z9 hd_C T2 c') {σ : am_S} {lw : List (Nat × Value)} {post : Option (Option Value) → am_S → Prop} (hM : sx_M z9 hd_C σ 0 0 σ) (hl : (0, Value.ref 15) ∈ lw) (hlr1 : (1, Value.ref 7) ∈ lw) {m2 : Int32} (hl2 : (2, Value.int m2) ∈ lw) (bl2 : 10 ≤ m2.toInt ∧ m2.toInt ≤ 10) {m3 : Int32} (hl3 : (3, Value.int m3) ∈ lw) (bl3 : 10 ≤ m3.toInt ∧ m3.toInt ≤ 10) (ret0 : ∀ (σ' : am_S), sx_M z9 hd_C σ 0 0 σ' → post (some none) σ') : am_K g 15 tX11_copyRow.1 0 0 10 lw [] σ post := by
  refine sg_seg (sw := []) (vs := [m2.toInt, m3.toInt]) (ws := []) G (mi := 25) rfl hct sg_cp4_2_ok ⟨⟨m2, hl2, rfl⟩, ⟨⟨m3, hl3, rfl⟩, trivial⟩⟩ (hd_rfc hl (hd_rfc hlr1 hd_rfn)) trivial (hd_p1 rfl bl2.1 bl2.2 (hd_p1 rfl bl3.1 bl3.2 hd_p0)) hM ?_ ?_
  · intro r σ' hq
    cases r with
    | none => exact hq.elim
    | some v =>
      obtain ⟨p, hp, hM2, ks, hk, hv⟩ := hq
      simp only [List.mem_cons, List.not_mem_nil, or_false] at hp
      rcases hp with rfl
      · obtain rfl := hd_keys hk
        cases v with
        | some w9 => exact hv.elim
        | none =>
          have hP := hv
          exact ret0 _  hM2
  · intro u hu
    cases hu
theorem sg_cf2_run (G : sx_G0 g L xs z9 hd_C ex_mt) (hct : ∀ (mi : Nat) (T2 : ex_T) (c' : sx_Ct), ex_mt mi = some T2 → c' ∈ k9 mi → c'.1 < 60 → sx_Holds g z9 hd_C T2 c') {σ : am_S} {lw : List (Nat × Value)} {post : Option (Option Value) → am_S → Prop} (hM : sx_M z9 hd_C σ 0 0 σ) (hl : (0, Value.ref 4) ∈ lw) (hlr1 : (1, Value.ref 12) ∈ lw)  (cuta : ∀ (lw' : List (Nat × Value))  (σ' : am_S), (0, Value.ref 4) ∈ lw' → (1, Value.ref 12) ∈ lw' → sx_M z9 hd_C σ 0 0 σ' → am_K g 20 tX9_copyFrom.1 0 0 30 lw' [.ref 7, .ref 15] σ' post) : am_K g 20 tX9_copyFrom.1 0 0 22 lw [] σ post := by
  refine sg_seg (sw := []) (vs := []) (ws := []) G (mi := 290) rfl hct sg_cf2_ok trivial (hd_rfc hl (hd_rfc hlr1 hd_rfn)) trivial hd_p0 hM ?_ ?_
  · intro r σ' hq
    cases r with
    | none => exact hq.elim
    | some v =>
      obtain ⟨p, hp, hM2, ks, hk, hv⟩ := hq
      cases hp
  · intro u hu
    simp only [List.mem_cons, List.not_mem_nil, or_false] at hu
    rcases hu with rfl
    · intro lw' sw' vs' ws' σ' ⟨h1_0, h2, h3_0, h4, h5⟩
      obtain rfl := hd_src0 h1_0
      obtain ⟨sw1, rfl, h3_1⟩ := hd_str h3_0
      obtain ⟨sw2, rfl, h3_2⟩ := hd_str h3_1
      obtain ⟨rfl, rfl⟩ := hd_st0 h3_2
      have hr9_0 := hd_rfh h2
      have hr9_1 := hd_rfh (hd_rfT h2)
      exact cuta _  _ hr9_0 hr9_1   h5
theorem sg_cp1_3_run (G : sx_G0 g L xs z9 hd_C ex_mt) (hct : ∀ (mi : Nat) (T2 : ex_T) (c' : sx_Ct), ex_mt mi = some T2 → c' ∈ k9 mi → c'.1 < 60 → sx_Holds g z9 hd_C T2 c') {σ : am_S} {lw : List (Nat × Value)} {post : Option (Option Value) → am_S → Prop} (hM : sx_M z9 hd_C σ 0 0 σ) (hl : (0, Value.ref 16) ∈ lw) (hlr1 : (1, Value.ref 8) ∈ lw)  (cuta : ∀ (lw' : List (Nat × Value)) (m2' : Int32) (m3' : Int32) (σ' : am_S), (0, Value.ref 16) ∈ lw' → (1, Value.ref 8) ∈ lw' → (2, Value.int m2') ∈ lw' → (3, Value.int m3') ∈ lw' → (10 ≤ 1 * m2'.toInt + 0 ∧ 1 * m2'.toInt + 0 ≤ 10) → (0 ≤ 1 * m3'.toInt + 0 ∧ 1 * m3'.toInt + 0 ≤ 0) → sx_M z9 hd_C σ 0 0 σ' → am_K g 15 tX11_copyRow.1 0 0 10 lw' [] σ' post) : am_K g 15 tX11_copyRow.1 0 0 0 lw [] σ post := by
  refine sg_seg (sw := []) (vs := []) (ws := []) G (mi := 25) rfl hct sg_cp1_3_ok trivial (hd_rfc hl (hd_rfc hlr1 hd_rfn)) trivial hd_p0 hM ?_ ?_
  · intro r σ' hq
    cases r with
    | none => exact hq.elim
    | some v =>
      obtain ⟨p, hp, hM2, ks, hk, hv⟩ := hq
      cases hp
  · intro u hu
    simp only [List.mem_cons, List.not_mem_nil, or_false] at hu
    rcases hu with rfl
    · intro lw' sw' vs' ws' σ' ⟨h1_0, h2, h3_0, h4, h5⟩
      obtain ⟨m2', vs1, rfl, hm2, h1_1⟩ := hd_srcl h1_0
      obtain ⟨m3', vs2, rfl, hm3, h1_2⟩ := hd_srcl h1_1
      obtain rfl := hd_src0 h1_2
      obtain ⟨rfl, rfl⟩ := hd_st0 h3_0
      have hr9_0 := hd_rfh h2
      have hr9_1 := hd_rfh (hd_rfT h2)
      obtain ⟨v0, e0, l0, u0⟩ := h4 _ (List.mem_cons_self)
      have g0 : 1 * m2'.toInt + 0 = v0 := Option.some.inj e0
      obtain ⟨v1, e1, l1, u1⟩ := h4 _ (List.mem_cons_of_mem _ (List.mem_cons_self))
      have g1 : 1 * m3'.toInt + 0 = v1 := Option.some.inj e1
      exact cuta _ _ _ _ hr9_0 hr9_1 hm2 hm3 ⟨by rw [g0]; exact l0, by rw [g0]; exact u0⟩ ⟨by rw [g1]; exact l1, by rw [g1]; exact u1⟩ h5
theorem sg_cp2_3_run (G : sx_G0 g L xs z9 hd_C ex_mt) (hct : ∀ (mi : Nat) (T2 : ex_T) (c' : sx_Ct), ex_mt mi = some T2 → c' ∈ k9 mi → c'.1 < 60 → sx_Holds g z9 hd_C T2 c') {σ : am_S} {lw : List (Nat × Value)} {post : Option (Option Value) → am_S → Prop} (hM : sx_M z9 hd_C σ 0 0 σ) (hl : (0, Value.ref 16) ∈ lw) (hlr1 : (1, Value.ref 8) ∈ lw) {m2 : Int32} (hl2 : (2, Value.int m2) ∈ lw) (bl2 : 10 ≤ m2.toInt ∧ m2.toInt ≤ 10) {m3 : Int32} (hl3 : (3, Value.int m3) ∈ lw) (bl3 : 0 ≤ m3.toInt ∧ m3.toInt ≤ 9) (cuta : ∀ (lw' : List (Nat × Value)) (m2' : Int32) (m3' : Int32) (n0' : Int32) (n1' : Int32) (σ' : am_S), (0, Value.ref 16) ∈ lw' → (1, Value.ref 8) ∈ lw' → (2, Value.int m2') ∈ lw' → (3, Value.int m3') ∈ lw' → (0 ≤ 1 * m3.toInt + ((-1) * n0'.toInt + 0) ∧ 1 * m3.toInt + ((-1) * n0'.toInt + 0) ≤ 0) → (0 ≤ 1 * m3.toInt + ((-1) * n1'.toInt + 0) ∧ 1 * m3.toInt + ((-1) * n1'.toInt + 0) ≤ 0) → (0 ≤ 1 * m2.toInt + ((-1) * m2'.toInt + 0) ∧ 1 * m2.toInt + ((-1) * m2'.toInt + 0) ≤ 0) → (0 ≤ 1 * m3.toInt + ((-1) * m3'.toInt + 0) ∧ 1 * m3.toInt + ((-1) * m3'.toInt + 0) ≤ 0) → sx_M z9 hd_C σ 0 0 σ' → am_K g 15 tX11_copyRow.1 0 0 19 lw' [.int n0', .ref 16, .int n1', .ref 8] σ' post) : am_K g 15 tX11_copyRow.1 0 0 10 lw [] σ post := by
  refine sg_seg (sw := []) (vs := [m2.toInt, m3.toInt]) (ws := []) G (mi := 25) rfl hct sg_cp2_3_ok ⟨⟨m2, hl2, rfl⟩, ⟨⟨m3, hl3, rfl⟩, trivial⟩⟩ (hd_rfc hl (hd_rfc hlr1 hd_rfn)) trivial (hd_p1 rfl bl2.1 bl2.2 (hd_p1 rfl bl3.1 bl3.2 hd_p0)) hM ?_ ?_
  · intro r σ' hq
    cases r with
    | none => exact hq.elim
    | some v =>
      obtain ⟨p, hp, hM2, ks, hk, hv⟩ := hq
      cases hp
  · intro u hu
    simp only [List.mem_cons, List.not_mem_nil, or_false] at hu
    rcases hu with rfl
    · intro lw' sw' vs' ws' σ' ⟨h1_0, h2, h3_0, h4, h5⟩
      obtain ⟨m2', vs1, rfl, hm2, h1_1⟩ := hd_srcl h1_0
      obtain ⟨m3', vs2, rfl, hm3, h1_2⟩ := hd_srcl h1_1
      obtain rfl := hd_src0 h1_2
      obtain ⟨n0', sw1, ws1, rfl, rfl, h3_1⟩ := hd_sti h3_0
      obtain ⟨sw2, rfl, h3_2⟩ := hd_str h3_1
      obtain ⟨n1', sw3, ws3, rfl, rfl, h3_3⟩ := hd_sti h3_2
      obtain ⟨sw4, rfl, h3_4⟩ := hd_str h3_3
      obtain ⟨rfl, rfl⟩ := hd_st0 h3_4
      have hr9_0 := hd_rfh h2
      have hr9_1 := hd_rfh (hd_rfT h2)
      obtain ⟨v0, e0, l0, u0⟩ := h4 _ (List.mem_cons_self)
      have g0 : 1 * m3.toInt + ((-1) * n0'.toInt + 0) = v0 := Option.some.inj e0
      obtain ⟨v1, e1, l1, u1⟩ := h4 _ (List.mem_cons_of_mem _ (List.mem_cons_self))
      have g1 : 1 * m3.toInt + ((-1) * n1'.toInt + 0) = v1 := Option.some.inj e1
      obtain ⟨v2, e2, l2, u2⟩ := h4 _ (List.mem_cons_of_mem _ (List.mem_cons_of_mem _ (List.mem_cons_self)))
      have g2 : 1 * m2.toInt + ((-1) * m2'.toInt + 0) = v2 := Option.some.inj e2
      obtain ⟨v3, e3, l3, u3⟩ := h4 _ (List.mem_cons_of_mem _ (List.mem_cons_of_mem _ (List.mem_cons_of_mem _ (List.mem_cons_self))))
      have g3 : 1 * m3.toInt + ((-1) * m3'.toInt + 0) = v3 := Option.some.inj e3
      exact cuta _ _ _ _ _ _ hr9_0 hr9_1 hm2 hm3 ⟨by rw [g0]; exact l0, by rw [g0]; exact u0⟩ ⟨by rw [g1]; exact l1, by rw [g1]; exact u1⟩ ⟨by rw [g2]; exact l2, by rw [g2]; exact u2⟩ ⟨by rw [g3]; exact l3, by rw [g3]; exact u3⟩ h5
theorem sg_cp3_3_run (G : sx_G0 g L xs z9 hd_C ex_mt) (hct : ∀ (mi : Nat) (T2 : ex_T) (c' : sx_Ct), ex_mt mi = some T2 → c' ∈ k9 mi → c'.1 < 60 → sx_Holds g z9 hd_C T2 c') {σ : am_S} {lw : List (Nat × Value)} {post : Option (Option Value) → am_S → Prop} (hM : sx_M z9 hd_C σ 0 0 σ) (hl : (0, Value.ref 16) ∈ lw) (hlr1 : (1, Value.ref 8) ∈ lw) {m2 : Int32} (hl2 : (2, Value.int m2) ∈ lw) (bl2 : 10 ≤ m2.toInt ∧ m2.toInt ≤ 10) {m3 : Int32} (hl3 : (3, Value.int m3) ∈ lw) (bl3 : 0 ≤ m3.toInt ∧ m3.toInt ≤ 9) (cuta : ∀ (lw' : List (Nat × Value)) (m2' : Int32) (m3' : Int32) (σ' : am_S), (0, Value.ref 16) ∈ lw' → (1, Value.ref 8) ∈ lw' → (2, Value.int m2') ∈ lw' → (3, Value.int m3') ∈ lw' → (0 ≤ 1 * m2.toInt + ((-1) * m2'.toInt + 0) ∧ 1 * m2.toInt + ((-1) * m2'.toInt + 0) ≤ 0) → ((-1) ≤ 1 * m3.toInt + ((-1) * m3'.toInt + 0) ∧ 1 * m3.toInt + ((-1) * m3'.toInt + 0) ≤ (-1)) → sx_M z9 hd_C σ 0 0 σ' → am_K g 15 tX11_copyRow.1 0 0 10 lw' [] σ' post) : am_K g 15 tX11_copyRow.1 0 0 21 lw [] σ post := by
  refine sg_seg (sw := []) (vs := [m2.toInt, m3.toInt]) (ws := []) G (mi := 25) rfl hct sg_cp3_3_ok ⟨⟨m2, hl2, rfl⟩, ⟨⟨m3, hl3, rfl⟩, trivial⟩⟩ (hd_rfc hl (hd_rfc hlr1 hd_rfn)) trivial (hd_p1 rfl bl2.1 bl2.2 (hd_p1 rfl bl3.1 bl3.2 hd_p0)) hM ?_ ?_
  · intro r σ' hq
    cases r with
    | none => exact hq.elim
    | some v =>
      obtain ⟨p, hp, hM2, ks, hk, hv⟩ := hq
      cases hp
  · intro u hu
    simp only [List.mem_cons, List.not_mem_nil, or_false] at hu
    rcases hu with rfl
    · intro lw' sw' vs' ws' σ' ⟨h1_0, h2, h3_0, h4, h5⟩
      obtain ⟨m2', vs1, rfl, hm2, h1_1⟩ := hd_srcl h1_0
      obtain ⟨m3', vs2, rfl, hm3, h1_2⟩ := hd_srcl h1_1
      obtain rfl := hd_src0 h1_2
      obtain ⟨rfl, rfl⟩ := hd_st0 h3_0
      have hr9_0 := hd_rfh h2
      have hr9_1 := hd_rfh (hd_rfT h2)
      obtain ⟨v0, e0, l0, u0⟩ := h4 _ (List.mem_cons_self)
      have g0 : 1 * m2.toInt + ((-1) * m2'.toInt + 0) = v0 := Option.some.inj e0
      obtain ⟨v1, e1, l1, u1⟩ := h4 _ (List.mem_cons_of_mem _ (List.mem_cons_self))
      have g1 : 1 * m3.toInt + ((-1) * m3'.toInt + 0) = v1 := Option.some.inj e1
      exact cuta _ _ _ _ hr9_0 hr9_1 hm2 hm3 ⟨by rw [g0]; exact l0, by rw [g0]; exact u0⟩ ⟨by rw [g1]; exact l1, by rw [g1]; exact u1⟩ h5
theorem sg_cp4_3_run (G : sx_G0 g L xs z9 hd_C ex_mt) (hct : ∀ (mi : Nat) (T2 : ex_T) (c' : sx_Ct), ex_mt mi = some T2 → c' ∈ k9 mi → c'.1 < 60 → sx_Holds g z9 hd_C T2 c') {σ : am_S} {lw : List (Nat × Value)} {post : Option (Option Value) → am_S → Prop} (hM : sx_M z9 hd_C σ 0 0 σ) (hl : (0, Value.ref 16) ∈ lw) (hlr1 : (1, Value.ref 8) ∈ lw) {m2 : Int32} (hl2 : (2, Value.int m2) ∈ lw) (bl2 : 10 ≤ m2.toInt ∧ m2.toInt ≤ 10) {m3 : Int32} (hl3 : (3, Value.int m3) ∈ lw) (bl3 : 10 ≤ m3.toInt ∧ m3.toInt ≤ 10) (ret0 : ∀ (σ' : am_S), sx_M z9 hd_C σ 0 0 σ' → post (some none) σ') : am_K g 15 tX11_copyRow.1 0 0 10 lw [] σ post := by
  refine sg_seg (sw := []) (vs := [m2.toInt, m3.toInt]) (ws := []) G (mi := 25) rfl hct sg_cp4_3_ok ⟨⟨m2, hl2, rfl⟩, ⟨⟨m3, hl3, rfl⟩, trivial⟩⟩ (hd_rfc hl (hd_rfc hlr1 hd_rfn)) trivial (hd_p1 rfl bl2.1 bl2.2 (hd_p1 rfl bl3.1 bl3.2 hd_p0)) hM ?_ ?_
  · intro r σ' hq
    cases r with
    | none => exact hq.elim
    | some v =>
      obtain ⟨p, hp, hM2, ks, hk, hv⟩ := hq
      simp only [List.mem_cons, List.not_mem_nil, or_false] at hp
      rcases hp with rfl
      · obtain rfl := hd_keys hk
        cases v with
        | some w9 => exact hv.elim
        | none =>
          have hP := hv
          exact ret0 _  hM2
  · intro u hu
    cases hu
theorem sg_cf3_run (G : sx_G0 g L xs z9 hd_C ex_mt) (hct : ∀ (mi : Nat) (T2 : ex_T) (c' : sx_Ct), ex_mt mi = some T2 → c' ∈ k9 mi → c'.1 < 60 → sx_Holds g z9 hd_C T2 c') {σ : am_S} {lw : List (Nat × Value)} {post : Option (Option Value) → am_S → Prop} (hM : sx_M z9 hd_C σ 0 0 σ) (hl : (0, Value.ref 4) ∈ lw) (hlr1 : (1, Value.ref 12) ∈ lw)  (cuta : ∀ (lw' : List (Nat × Value))  (σ' : am_S), (0, Value.ref 4) ∈ lw' → (1, Value.ref 12) ∈ lw' → sx_M z9 hd_C σ 0 0 σ' → am_K g 20 tX9_copyFrom.1 0 0 41 lw' [.ref 8, .ref 16] σ' post) : am_K g 20 tX9_copyFrom.1 0 0 33 lw [] σ post := by
  refine sg_seg (sw := []) (vs := []) (ws := []) G (mi := 290) rfl hct sg_cf3_ok trivial (hd_rfc hl (hd_rfc hlr1 hd_rfn)) trivial hd_p0 hM ?_ ?_
  · intro r σ' hq
    cases r with
    | none => exact hq.elim
    | some v =>
      obtain ⟨p, hp, hM2, ks, hk, hv⟩ := hq
      cases hp
  · intro u hu
    simp only [List.mem_cons, List.not_mem_nil, or_false] at hu
    rcases hu with rfl
    · intro lw' sw' vs' ws' σ' ⟨h1_0, h2, h3_0, h4, h5⟩
      obtain rfl := hd_src0 h1_0
      obtain ⟨sw1, rfl, h3_1⟩ := hd_str h3_0
      obtain ⟨sw2, rfl, h3_2⟩ := hd_str h3_1
      obtain ⟨rfl, rfl⟩ := hd_st0 h3_2
      have hr9_0 := hd_rfh h2
      have hr9_1 := hd_rfh (hd_rfT h2)
      exact cuta _  _ hr9_0 hr9_1   h5
theorem sg_cp1_4_run (G : sx_G0 g L xs z9 hd_C ex_mt) (hct : ∀ (mi : Nat) (T2 : ex_T) (c' : sx_Ct), ex_mt mi = some T2 → c' ∈ k9 mi → c'.1 < 60 → sx_Holds g z9 hd_C T2 c') {σ : am_S} {lw : List (Nat × Value)} {post : Option (Option Value) → am_S → Prop} (hM : sx_M z9 hd_C σ 0 0 σ) (hl : (0, Value.ref 17) ∈ lw) (hlr1 : (1, Value.ref 9) ∈ lw)  (cuta : ∀ (lw' : List (Nat × Value)) (m2' : Int32) (m3' : Int32) (σ' : am_S), (0, Value.ref 17) ∈ lw' → (1, Value.ref 9) ∈ lw' → (2, Value.int m2') ∈ lw' → (3, Value.int m3') ∈ lw' → (6 ≤ 1 * m2'.toInt + 0 ∧ 1 * m2'.toInt + 0 ≤ 6) → (0 ≤ 1 * m3'.toInt + 0 ∧ 1 * m3'.toInt + 0 ≤ 0) → sx_M z9 hd_C σ 0 0 σ' → am_K g 15 tX11_copyRow.1 0 0 10 lw' [] σ' post) : am_K g 15 tX11_copyRow.1 0 0 0 lw [] σ post := by
  refine sg_seg (sw := []) (vs := []) (ws := []) G (mi := 25) rfl hct sg_cp1_4_ok trivial (hd_rfc hl (hd_rfc hlr1 hd_rfn)) trivial hd_p0 hM ?_ ?_
  · intro r σ' hq
    cases r with
    | none => exact hq.elim
    | some v =>
      obtain ⟨p, hp, hM2, ks, hk, hv⟩ := hq
      cases hp
  · intro u hu
    simp only [List.mem_cons, List.not_mem_nil, or_false] at hu
    rcases hu with rfl
    · intro lw' sw' vs' ws' σ' ⟨h1_0, h2, h3_0, h4, h5⟩
      obtain ⟨m2', vs1, rfl, hm2, h1_1⟩ := hd_srcl h1_0
      obtain ⟨m3', vs2, rfl, hm3, h1_2⟩ := hd_srcl h1_1
      obtain rfl := hd_src0 h1_2
      obtain ⟨rfl, rfl⟩ := hd_st0 h3_0
      have hr9_0 := hd_rfh h2
      have hr9_1 := hd_rfh (hd_rfT h2)
      obtain ⟨v0, e0, l0, u0⟩ := h4 _ (List.mem_cons_self)
      have g0 : 1 * m2'.toInt + 0 = v0 := Option.some.inj e0
      obtain ⟨v1, e1, l1, u1⟩ := h4 _ (List.mem_cons_of_mem _ (List.mem_cons_self))
      have g1 : 1 * m3'.toInt + 0 = v1 := Option.some.inj e1
      exact cuta _ _ _ _ hr9_0 hr9_1 hm2 hm3 ⟨by rw [g0]; exact l0, by rw [g0]; exact u0⟩ ⟨by rw [g1]; exact l1, by rw [g1]; exact u1⟩ h5
theorem sg_cp2_4_run (G : sx_G0 g L xs z9 hd_C ex_mt) (hct : ∀ (mi : Nat) (T2 : ex_T) (c' : sx_Ct), ex_mt mi = some T2 → c' ∈ k9 mi → c'.1 < 60 → sx_Holds g z9 hd_C T2 c') {σ : am_S} {lw : List (Nat × Value)} {post : Option (Option Value) → am_S → Prop} (hM : sx_M z9 hd_C σ 0 0 σ) (hl : (0, Value.ref 17) ∈ lw) (hlr1 : (1, Value.ref 9) ∈ lw) {m2 : Int32} (hl2 : (2, Value.int m2) ∈ lw) (bl2 : 6 ≤ m2.toInt ∧ m2.toInt ≤ 6) {m3 : Int32} (hl3 : (3, Value.int m3) ∈ lw) (bl3 : 0 ≤ m3.toInt ∧ m3.toInt ≤ 5) (cuta : ∀ (lw' : List (Nat × Value)) (m2' : Int32) (m3' : Int32) (n0' : Int32) (n1' : Int32) (σ' : am_S), (0, Value.ref 17) ∈ lw' → (1, Value.ref 9) ∈ lw' → (2, Value.int m2') ∈ lw' → (3, Value.int m3') ∈ lw' → (0 ≤ 1 * m3.toInt + ((-1) * n0'.toInt + 0) ∧ 1 * m3.toInt + ((-1) * n0'.toInt + 0) ≤ 0) → (0 ≤ 1 * m3.toInt + ((-1) * n1'.toInt + 0) ∧ 1 * m3.toInt + ((-1) * n1'.toInt + 0) ≤ 0) → (0 ≤ 1 * m2.toInt + ((-1) * m2'.toInt + 0) ∧ 1 * m2.toInt + ((-1) * m2'.toInt + 0) ≤ 0) → (0 ≤ 1 * m3.toInt + ((-1) * m3'.toInt + 0) ∧ 1 * m3.toInt + ((-1) * m3'.toInt + 0) ≤ 0) → sx_M z9 hd_C σ 0 0 σ' → am_K g 15 tX11_copyRow.1 0 0 19 lw' [.int n0', .ref 17, .int n1', .ref 9] σ' post) : am_K g 15 tX11_copyRow.1 0 0 10 lw [] σ post := by
  refine sg_seg (sw := []) (vs := [m2.toInt, m3.toInt]) (ws := []) G (mi := 25) rfl hct sg_cp2_4_ok ⟨⟨m2, hl2, rfl⟩, ⟨⟨m3, hl3, rfl⟩, trivial⟩⟩ (hd_rfc hl (hd_rfc hlr1 hd_rfn)) trivial (hd_p1 rfl bl2.1 bl2.2 (hd_p1 rfl bl3.1 bl3.2 hd_p0)) hM ?_ ?_
  · intro r σ' hq
    cases r with
    | none => exact hq.elim
    | some v =>
      obtain ⟨p, hp, hM2, ks, hk, hv⟩ := hq
      cases hp
  · intro u hu
    simp only [List.mem_cons, List.not_mem_nil, or_false] at hu
    rcases hu with rfl
    · intro lw' sw' vs' ws' σ' ⟨h1_0, h2, h3_0, h4, h5⟩
      obtain ⟨m2', vs1, rfl, hm2, h1_1⟩ := hd_srcl h1_0
      obtain ⟨m3', vs2, rfl, hm3, h1_2⟩ := hd_srcl h1_1
      obtain rfl := hd_src0 h1_2
      obtain ⟨n0', sw1, ws1, rfl, rfl, h3_1⟩ := hd_sti h3_0
      obtain ⟨sw2, rfl, h3_2⟩ := hd_str h3_1
      obtain ⟨n1', sw3, ws3, rfl, rfl, h3_3⟩ := hd_sti h3_2
      obtain ⟨sw4, rfl, h3_4⟩ := hd_str h3_3
      obtain ⟨rfl, rfl⟩ := hd_st0 h3_4
      have hr9_0 := hd_rfh h2
      have hr9_1 := hd_rfh (hd_rfT h2)
      obtain ⟨v0, e0, l0, u0⟩ := h4 _ (List.mem_cons_self)
      have g0 : 1 * m3.toInt + ((-1) * n0'.toInt + 0) = v0 := Option.some.inj e0
      obtain ⟨v1, e1, l1, u1⟩ := h4 _ (List.mem_cons_of_mem _ (List.mem_cons_self))
      have g1 : 1 * m3.toInt + ((-1) * n1'.toInt + 0) = v1 := Option.some.inj e1
      obtain ⟨v2, e2, l2, u2⟩ := h4 _ (List.mem_cons_of_mem _ (List.mem_cons_of_mem _ (List.mem_cons_self)))
      have g2 : 1 * m2.toInt + ((-1) * m2'.toInt + 0) = v2 := Option.some.inj e2
      obtain ⟨v3, e3, l3, u3⟩ := h4 _ (List.mem_cons_of_mem _ (List.mem_cons_of_mem _ (List.mem_cons_of_mem _ (List.mem_cons_self))))
      have g3 : 1 * m3.toInt + ((-1) * m3'.toInt + 0) = v3 := Option.some.inj e3
      exact cuta _ _ _ _ _ _ hr9_0 hr9_1 hm2 hm3 ⟨by rw [g0]; exact l0, by rw [g0]; exact u0⟩ ⟨by rw [g1]; exact l1, by rw [g1]; exact u1⟩ ⟨by rw [g2]; exact l2, by rw [g2]; exact u2⟩ ⟨by rw [g3]; exact l3, by rw [g3]; exact u3⟩ h5
theorem sg_cp3_4_run (G : sx_G0 g L xs z9 hd_C ex_mt) (hct : ∀ (mi : Nat) (T2 : ex_T) (c' : sx_Ct), ex_mt mi = some T2 → c' ∈ k9 mi → c'.1 < 60 → sx_Holds g z9 hd_C T2 c') {σ : am_S} {lw : List (Nat × Value)} {post : Option (Option Value) → am_S → Prop} (hM : sx_M z9 hd_C σ 0 0 σ) (hl : (0, Value.ref 17) ∈ lw) (hlr1 : (1, Value.ref 9) ∈ lw) {m2 : Int32} (hl2 : (2, Value.int m2) ∈ lw) (bl2 : 6 ≤ m2.toInt ∧ m2.toInt ≤ 6) {m3 : Int32} (hl3 : (3, Value.int m3) ∈ lw) (bl3 : 0 ≤ m3.toInt ∧ m3.toInt ≤ 5) (cuta : ∀ (lw' : List (Nat × Value)) (m2' : Int32) (m3' : Int32) (σ' : am_S), (0, Value.ref 17) ∈ lw' → (1, Value.ref 9) ∈ lw' → (2, Value.int m2') ∈ lw' → (3, Value.int m3') ∈ lw' → (0 ≤ 1 * m2.toInt + ((-1) * m2'.toInt + 0) ∧ 1 * m2.toInt + ((-1) * m2'.toInt + 0) ≤ 0) → ((-1) ≤ 1 * m3.toInt + ((-1) * m3'.toInt + 0) ∧ 1 * m3.toInt + ((-1) * m3'.toInt + 0) ≤ (-1)) → sx_M z9 hd_C σ 0 0 σ' → am_K g 15 tX11_copyRow.1 0 0 10 lw' [] σ' post) : am_K g 15 tX11_copyRow.1 0 0 21 lw [] σ post := by
  refine sg_seg (sw := []) (vs := [m2.toInt, m3.toInt]) (ws := []) G (mi := 25) rfl hct sg_cp3_4_ok ⟨⟨m2, hl2, rfl⟩, ⟨⟨m3, hl3, rfl⟩, trivial⟩⟩ (hd_rfc hl (hd_rfc hlr1 hd_rfn)) trivial (hd_p1 rfl bl2.1 bl2.2 (hd_p1 rfl bl3.1 bl3.2 hd_p0)) hM ?_ ?_
  · intro r σ' hq
    cases r with
    | none => exact hq.elim
    | some v =>
      obtain ⟨p, hp, hM2, ks, hk, hv⟩ := hq
      cases hp
  · intro u hu
    simp only [List.mem_cons, List.not_mem_nil, or_false] at hu
    rcases hu with rfl
    · intro lw' sw' vs' ws' σ' ⟨h1_0, h2, h3_0, h4, h5⟩
      obtain ⟨m2', vs1, rfl, hm2, h1_1⟩ := hd_srcl h1_0
      obtain ⟨m3', vs2, rfl, hm3, h1_2⟩ := hd_srcl h1_1
      obtain rfl := hd_src0 h1_2
      obtain ⟨rfl, rfl⟩ := hd_st0 h3_0
      have hr9_0 := hd_rfh h2
      have hr9_1 := hd_rfh (hd_rfT h2)
      obtain ⟨v0, e0, l0, u0⟩ := h4 _ (List.mem_cons_self)
      have g0 : 1 * m2.toInt + ((-1) * m2'.toInt + 0) = v0 := Option.some.inj e0
      obtain ⟨v1, e1, l1, u1⟩ := h4 _ (List.mem_cons_of_mem _ (List.mem_cons_self))
      have g1 : 1 * m3.toInt + ((-1) * m3'.toInt + 0) = v1 := Option.some.inj e1
      exact cuta _ _ _ _ hr9_0 hr9_1 hm2 hm3 ⟨by rw [g0]; exact l0, by rw [g0]; exact u0⟩ ⟨by rw [g1]; exact l1, by rw [g1]; exact u1⟩ h5
theorem sg_cp4_4_run (G : sx_G0 g L xs z9 hd_C ex_mt) (hct : ∀ (mi : Nat) (T2 : ex_T) (c' : sx_Ct), ex_mt mi = some T2 → c' ∈ k9 mi → c'.1 < 60 → sx_Holds g z9 hd_C T2 c') {σ : am_S} {lw : List (Nat × Value)} {post : Option (Option Value) → am_S → Prop} (hM : sx_M z9 hd_C σ 0 0 σ) (hl : (0, Value.ref 17) ∈ lw) (hlr1 : (1, Value.ref 9) ∈ lw) {m2 : Int32} (hl2 : (2, Value.int m2) ∈ lw) (bl2 : 6 ≤ m2.toInt ∧ m2.toInt ≤ 6) {m3 : Int32} (hl3 : (3, Value.int m3) ∈ lw) (bl3 : 6 ≤ m3.toInt ∧ m3.toInt ≤ 6) (ret0 : ∀ (σ' : am_S), sx_M z9 hd_C σ 0 0 σ' → post (some none) σ') : am_K g 15 tX11_copyRow.1 0 0 10 lw [] σ post := by
  refine sg_seg (sw := []) (vs := [m2.toInt, m3.toInt]) (ws := []) G (mi := 25) rfl hct sg_cp4_4_ok ⟨⟨m2, hl2, rfl⟩, ⟨⟨m3, hl3, rfl⟩, trivial⟩⟩ (hd_rfc hl (hd_rfc hlr1 hd_rfn)) trivial (hd_p1 rfl bl2.1 bl2.2 (hd_p1 rfl bl3.1 bl3.2 hd_p0)) hM ?_ ?_
  · intro r σ' hq
    cases r with
    | none => exact hq.elim
    | some v =>
      obtain ⟨p, hp, hM2, ks, hk, hv⟩ := hq
      simp only [List.mem_cons, List.not_mem_nil, or_false] at hp
      rcases hp with rfl
      · obtain rfl := hd_keys hk
        cases v with
        | some w9 => exact hv.elim
        | none =>
          have hP := hv
          exact ret0 _  hM2
  · intro u hu
    cases hu
theorem sg_cf4_run (G : sx_G0 g L xs z9 hd_C ex_mt) (hct : ∀ (mi : Nat) (T2 : ex_T) (c' : sx_Ct), ex_mt mi = some T2 → c' ∈ k9 mi → c'.1 < 60 → sx_Holds g z9 hd_C T2 c') {σ : am_S} {lw : List (Nat × Value)} {post : Option (Option Value) → am_S → Prop} (hM : sx_M z9 hd_C σ 0 0 σ) (hl : (0, Value.ref 4) ∈ lw) (hlr1 : (1, Value.ref 12) ∈ lw)  (cuta : ∀ (lw' : List (Nat × Value))  (σ' : am_S), (0, Value.ref 4) ∈ lw' → (1, Value.ref 12) ∈ lw' → sx_M z9 hd_C σ 0 0 σ' → am_K g 20 tX9_copyFrom.1 0 0 52 lw' [.ref 9, .ref 17] σ' post) : am_K g 20 tX9_copyFrom.1 0 0 44 lw [] σ post := by
  refine sg_seg (sw := []) (vs := []) (ws := []) G (mi := 290) rfl hct sg_cf4_ok trivial (hd_rfc hl (hd_rfc hlr1 hd_rfn)) trivial hd_p0 hM ?_ ?_
  · intro r σ' hq
    cases r with
    | none => exact hq.elim
    | some v =>
      obtain ⟨p, hp, hM2, ks, hk, hv⟩ := hq
      cases hp
  · intro u hu
    simp only [List.mem_cons, List.not_mem_nil, or_false] at hu
    rcases hu with rfl
    · intro lw' sw' vs' ws' σ' ⟨h1_0, h2, h3_0, h4, h5⟩
      obtain rfl := hd_src0 h1_0
      obtain ⟨sw1, rfl, h3_1⟩ := hd_str h3_0
      obtain ⟨sw2, rfl, h3_2⟩ := hd_str h3_1
      obtain ⟨rfl, rfl⟩ := hd_st0 h3_2
      have hr9_0 := hd_rfh h2
      have hr9_1 := hd_rfh (hd_rfT h2)
      exact cuta _  _ hr9_0 hr9_1   h5
theorem sg_cp1_5_run (G : sx_G0 g L xs z9 hd_C ex_mt) (hct : ∀ (mi : Nat) (T2 : ex_T) (c' : sx_Ct), ex_mt mi = some T2 → c' ∈ k9 mi → c'.1 < 60 → sx_Holds g z9 hd_C T2 c') {σ : am_S} {lw : List (Nat × Value)} {post : Option (Option Value) → am_S → Prop} (hM : sx_M z9 hd_C σ 0 0 σ) (hl : (0, Value.ref 18) ∈ lw) (hlr1 : (1, Value.ref 10) ∈ lw)  (cuta : ∀ (lw' : List (Nat × Value)) (m2' : Int32) (m3' : Int32) (σ' : am_S), (0, Value.ref 18) ∈ lw' → (1, Value.ref 10) ∈ lw' → (2, Value.int m2') ∈ lw' → (3, Value.int m3') ∈ lw' → (6 ≤ 1 * m2'.toInt + 0 ∧ 1 * m2'.toInt + 0 ≤ 6) → (0 ≤ 1 * m3'.toInt + 0 ∧ 1 * m3'.toInt + 0 ≤ 0) → sx_M z9 hd_C σ 0 0 σ' → am_K g 15 tX11_copyRow.1 0 0 10 lw' [] σ' post) : am_K g 15 tX11_copyRow.1 0 0 0 lw [] σ post := by
  refine sg_seg (sw := []) (vs := []) (ws := []) G (mi := 25) rfl hct sg_cp1_5_ok trivial (hd_rfc hl (hd_rfc hlr1 hd_rfn)) trivial hd_p0 hM ?_ ?_
  · intro r σ' hq
    cases r with
    | none => exact hq.elim
    | some v =>
      obtain ⟨p, hp, hM2, ks, hk, hv⟩ := hq
      cases hp
  · intro u hu
    simp only [List.mem_cons, List.not_mem_nil, or_false] at hu
    rcases hu with rfl
    · intro lw' sw' vs' ws' σ' ⟨h1_0, h2, h3_0, h4, h5⟩
      obtain ⟨m2', vs1, rfl, hm2, h1_1⟩ := hd_srcl h1_0
      obtain ⟨m3', vs2, rfl, hm3, h1_2⟩ := hd_srcl h1_1
      obtain rfl := hd_src0 h1_2
      obtain ⟨rfl, rfl⟩ := hd_st0 h3_0
      have hr9_0 := hd_rfh h2
      have hr9_1 := hd_rfh (hd_rfT h2)
      obtain ⟨v0, e0, l0, u0⟩ := h4 _ (List.mem_cons_self)
      have g0 : 1 * m2'.toInt + 0 = v0 := Option.some.inj e0
      obtain ⟨v1, e1, l1, u1⟩ := h4 _ (List.mem_cons_of_mem _ (List.mem_cons_self))
      have g1 : 1 * m3'.toInt + 0 = v1 := Option.some.inj e1
      exact cuta _ _ _ _ hr9_0 hr9_1 hm2 hm3 ⟨by rw [g0]; exact l0, by rw [g0]; exact u0⟩ ⟨by rw [g1]; exact l1, by rw [g1]; exact u1⟩ h5
theorem sg_cp2_5_run (G : sx_G0 g L xs z9 hd_C ex_mt) (hct : ∀ (mi : Nat) (T2 : ex_T) (c' : sx_Ct), ex_mt mi = some T2 → c' ∈ k9 mi → c'.1 < 60 → sx_Holds g z9 hd_C T2 c') {σ : am_S} {lw : List (Nat × Value)} {post : Option (Option Value) → am_S → Prop} (hM : sx_M z9 hd_C σ 0 0 σ) (hl : (0, Value.ref 18) ∈ lw) (hlr1 : (1, Value.ref 10) ∈ lw) {m2 : Int32} (hl2 : (2, Value.int m2) ∈ lw) (bl2 : 6 ≤ m2.toInt ∧ m2.toInt ≤ 6) {m3 : Int32} (hl3 : (3, Value.int m3) ∈ lw) (bl3 : 0 ≤ m3.toInt ∧ m3.toInt ≤ 5) (cuta : ∀ (lw' : List (Nat × Value)) (m2' : Int32) (m3' : Int32) (n0' : Int32) (n1' : Int32) (σ' : am_S), (0, Value.ref 18) ∈ lw' → (1, Value.ref 10) ∈ lw' → (2, Value.int m2') ∈ lw' → (3, Value.int m3') ∈ lw' → (0 ≤ 1 * m3.toInt + ((-1) * n0'.toInt + 0) ∧ 1 * m3.toInt + ((-1) * n0'.toInt + 0) ≤ 0) → (0 ≤ 1 * m3.toInt + ((-1) * n1'.toInt + 0) ∧ 1 * m3.toInt + ((-1) * n1'.toInt + 0) ≤ 0) → (0 ≤ 1 * m2.toInt + ((-1) * m2'.toInt + 0) ∧ 1 * m2.toInt + ((-1) * m2'.toInt + 0) ≤ 0) → (0 ≤ 1 * m3.toInt + ((-1) * m3'.toInt + 0) ∧ 1 * m3.toInt + ((-1) * m3'.toInt + 0) ≤ 0) → sx_M z9 hd_C σ 0 0 σ' → am_K g 15 tX11_copyRow.1 0 0 19 lw' [.int n0', .ref 18, .int n1', .ref 10] σ' post) : am_K g 15 tX11_copyRow.1 0 0 10 lw [] σ post := by
  refine sg_seg (sw := []) (vs := [m2.toInt, m3.toInt]) (ws := []) G (mi := 25) rfl hct sg_cp2_5_ok ⟨⟨m2, hl2, rfl⟩, ⟨⟨m3, hl3, rfl⟩, trivial⟩⟩ (hd_rfc hl (hd_rfc hlr1 hd_rfn)) trivial (hd_p1 rfl bl2.1 bl2.2 (hd_p1 rfl bl3.1 bl3.2 hd_p0)) hM ?_ ?_
  · intro r σ' hq
    cases r with
    | none => exact hq.elim
    | some v =>
      obtain ⟨p, hp, hM2, ks, hk, hv⟩ := hq
      cases hp
  · intro u hu
    simp only [List.mem_cons, List.not_mem_nil, or_false] at hu
    rcases hu with rfl
    · intro lw' sw' vs' ws' σ' ⟨h1_0, h2, h3_0, h4, h5⟩
      obtain ⟨m2', vs1, rfl, hm2, h1_1⟩ := hd_srcl h1_0
      obtain ⟨m3', vs2, rfl, hm3, h1_2⟩ := hd_srcl h1_1
      obtain rfl := hd_src0 h1_2
      obtain ⟨n0', sw1, ws1, rfl, rfl, h3_1⟩ := hd_sti h3_0
      obtain ⟨sw2, rfl, h3_2⟩ := hd_str h3_1
      obtain ⟨n1', sw3, ws3, rfl, rfl, h3_3⟩ := hd_sti h3_2
      obtain ⟨sw4, rfl, h3_4⟩ := hd_str h3_3
      obtain ⟨rfl, rfl⟩ := hd_st0 h3_4
      have hr9_0 := hd_rfh h2
      have hr9_1 := hd_rfh (hd_rfT h2)
      obtain ⟨v0, e0, l0, u0⟩ := h4 _ (List.mem_cons_self)
      have g0 : 1 * m3.toInt + ((-1) * n0'.toInt + 0) = v0 := Option.some.inj e0
      obtain ⟨v1, e1, l1, u1⟩ := h4 _ (List.mem_cons_of_mem _ (List.mem_cons_self))
      have g1 : 1 * m3.toInt + ((-1) * n1'.toInt + 0) = v1 := Option.some.inj e1
      obtain ⟨v2, e2, l2, u2⟩ := h4 _ (List.mem_cons_of_mem _ (List.mem_cons_of_mem _ (List.mem_cons_self)))
      have g2 : 1 * m2.toInt + ((-1) * m2'.toInt + 0) = v2 := Option.some.inj e2
      obtain ⟨v3, e3, l3, u3⟩ := h4 _ (List.mem_cons_of_mem _ (List.mem_cons_of_mem _ (List.mem_cons_of_mem _ (List.mem_cons_self))))
      have g3 : 1 * m3.toInt + ((-1) * m3'.toInt + 0) = v3 := Option.some.inj e3
      exact cuta _ _ _ _ _ _ hr9_0 hr9_1 hm2 hm3 ⟨by rw [g0]; exact l0, by rw [g0]; exact u0⟩ ⟨by rw [g1]; exact l1, by rw [g1]; exact u1⟩ ⟨by rw [g2]; exact l2, by rw [g2]; exact u2⟩ ⟨by rw [g3]; exact l3, by rw [g3]; exact u3⟩ h5
theorem sg_cp3_5_run (G : sx_G0 g L xs z9 hd_C ex_mt) (hct : ∀ (mi : Nat) (T2 : ex_T) (c' : sx_Ct), ex_mt mi = some T2 → c' ∈ k9 mi → c'.1 < 60 → sx_Holds g z9 hd_C T2 c') {σ : am_S} {lw : List (Nat × Value)} {post : Option (Option Value) → am_S → Prop} (hM : sx_M z9 hd_C σ 0 0 σ) (hl : (0, Value.ref 18) ∈ lw) (hlr1 : (1, Value.ref 10) ∈ lw) {m2 : Int32} (hl2 : (2, Value.int m2) ∈ lw) (bl2 : 6 ≤ m2.toInt ∧ m2.toInt ≤ 6) {m3 : Int32} (hl3 : (3, Value.int m3) ∈ lw) (bl3 : 0 ≤ m3.toInt ∧ m3.toInt ≤ 5) (cuta : ∀ (lw' : List (Nat × Value)) (m2' : Int32) (m3' : Int32) (σ' : am_S), (0, Value.ref 18) ∈ lw' → (1, Value.ref 10) ∈ lw' → (2, Value.int m2') ∈ lw' → (3, Value.int m3') ∈ lw' → (0 ≤ 1 * m2.toInt + ((-1) * m2'.toInt + 0) ∧ 1 * m2.toInt + ((-1) * m2'.toInt + 0) ≤ 0) → ((-1) ≤ 1 * m3.toInt + ((-1) * m3'.toInt + 0) ∧ 1 * m3.toInt + ((-1) * m3'.toInt + 0) ≤ (-1)) → sx_M z9 hd_C σ 0 0 σ' → am_K g 15 tX11_copyRow.1 0 0 10 lw' [] σ' post) : am_K g 15 tX11_copyRow.1 0 0 21 lw [] σ post := by
  refine sg_seg (sw := []) (vs := [m2.toInt, m3.toInt]) (ws := []) G (mi := 25) rfl hct sg_cp3_5_ok ⟨⟨m2, hl2, rfl⟩, ⟨⟨m3, hl3, rfl⟩, trivial⟩⟩ (hd_rfc hl (hd_rfc hlr1 hd_rfn)) trivial (hd_p1 rfl bl2.1 bl2.2 (hd_p1 rfl bl3.1 bl3.2 hd_p0)) hM ?_ ?_
  · intro r σ' hq
    cases r with
    | none => exact hq.elim
    | some v =>
      obtain ⟨p, hp, hM2, ks, hk, hv⟩ := hq
      cases hp
  · intro u hu
    simp only [List.mem_cons, List.not_mem_nil, or_false] at hu
    rcases hu with rfl
    · intro lw' sw' vs' ws' σ' ⟨h1_0, h2, h3_0, h4, h5⟩
      obtain ⟨m2', vs1, rfl, hm2, h1_1⟩ := hd_srcl h1_0
      obtain ⟨m3', vs2, rfl, hm3, h1_2⟩ := hd_srcl h1_1
      obtain rfl := hd_src0 h1_2
      obtain ⟨rfl, rfl⟩ := hd_st0 h3_0
      have hr9_0 := hd_rfh h2
      have hr9_1 := hd_rfh (hd_rfT h2)
      obtain ⟨v0, e0, l0, u0⟩ := h4 _ (List.mem_cons_self)
      have g0 : 1 * m2.toInt + ((-1) * m2'.toInt + 0) = v0 := Option.some.inj e0
      obtain ⟨v1, e1, l1, u1⟩ := h4 _ (List.mem_cons_of_mem _ (List.mem_cons_self))
      have g1 : 1 * m3.toInt + ((-1) * m3'.toInt + 0) = v1 := Option.some.inj e1
      exact cuta _ _ _ _ hr9_0 hr9_1 hm2 hm3 ⟨by rw [g0]; exact l0, by rw [g0]; exact u0⟩ ⟨by rw [g1]; exact l1, by rw [g1]; exact u1⟩ h5
theorem sg_cp4_5_run (G : sx_G0 g L xs z9 hd_C ex_mt) (hct : ∀ (mi : Nat) (T2 : ex_T) (c' : sx_Ct), ex_mt mi = some T2 → c' ∈ k9 mi → c'.1 < 60 → sx_Holds g z9 hd_C T2 c') {σ : am_S} {lw : List (Nat × Value)} {post : Option (Option Value) → am_S → Prop} (hM : sx_M z9 hd_C σ 0 0 σ) (hl : (0, Value.ref 18) ∈ lw) (hlr1 : (1, Value.ref 10) ∈ lw) {m2 : Int32} (hl2 : (2, Value.int m2) ∈ lw) (bl2 : 6 ≤ m2.toInt ∧ m2.toInt ≤ 6) {m3 : Int32} (hl3 : (3, Value.int m3) ∈ lw) (bl3 : 6 ≤ m3.toInt ∧ m3.toInt ≤ 6) (ret0 : ∀ (σ' : am_S), sx_M z9 hd_C σ 0 0 σ' → post (some none) σ') : am_K g 15 tX11_copyRow.1 0 0 10 lw [] σ post := by
  refine sg_seg (sw := []) (vs := [m2.toInt, m3.toInt]) (ws := []) G (mi := 25) rfl hct sg_cp4_5_ok ⟨⟨m2, hl2, rfl⟩, ⟨⟨m3, hl3, rfl⟩, trivial⟩⟩ (hd_rfc hl (hd_rfc hlr1 hd_rfn)) trivial (hd_p1 rfl bl2.1 bl2.2 (hd_p1 rfl bl3.1 bl3.2 hd_p0)) hM ?_ ?_
  · intro r σ' hq
    cases r with
    | none => exact hq.elim
    | some v =>
      obtain ⟨p, hp, hM2, ks, hk, hv⟩ := hq
      simp only [List.mem_cons, List.not_mem_nil, or_false] at hp
      rcases hp with rfl
      · obtain rfl := hd_keys hk
        cases v with
        | some w9 => exact hv.elim
        | none =>
          have hP := hv
          exact ret0 _  hM2
  · intro u hu
    cases hu
theorem sg_cf5_run (G : sx_G0 g L xs z9 hd_C ex_mt) (hct : ∀ (mi : Nat) (T2 : ex_T) (c' : sx_Ct), ex_mt mi = some T2 → c' ∈ k9 mi → c'.1 < 60 → sx_Holds g z9 hd_C T2 c') {σ : am_S} {lw : List (Nat × Value)} {post : Option (Option Value) → am_S → Prop} (hM : sx_M z9 hd_C σ 0 0 σ) (hl : (0, Value.ref 4) ∈ lw) (hlr1 : (1, Value.ref 12) ∈ lw)  (cuta : ∀ (lw' : List (Nat × Value))  (σ' : am_S), (0, Value.ref 4) ∈ lw' → (1, Value.ref 12) ∈ lw' → sx_M z9 hd_C σ 0 0 σ' → am_K g 20 tX9_copyFrom.1 0 0 63 lw' [.ref 10, .ref 18] σ' post) : am_K g 20 tX9_copyFrom.1 0 0 55 lw [] σ post := by
  refine sg_seg (sw := []) (vs := []) (ws := []) G (mi := 290) rfl hct sg_cf5_ok trivial (hd_rfc hl (hd_rfc hlr1 hd_rfn)) trivial hd_p0 hM ?_ ?_
  · intro r σ' hq
    cases r with
    | none => exact hq.elim
    | some v =>
      obtain ⟨p, hp, hM2, ks, hk, hv⟩ := hq
      cases hp
  · intro u hu
    simp only [List.mem_cons, List.not_mem_nil, or_false] at hu
    rcases hu with rfl
    · intro lw' sw' vs' ws' σ' ⟨h1_0, h2, h3_0, h4, h5⟩
      obtain rfl := hd_src0 h1_0
      obtain ⟨sw1, rfl, h3_1⟩ := hd_str h3_0
      obtain ⟨sw2, rfl, h3_2⟩ := hd_str h3_1
      obtain ⟨rfl, rfl⟩ := hd_st0 h3_2
      have hr9_0 := hd_rfh h2
      have hr9_1 := hd_rfh (hd_rfT h2)
      exact cuta _  _ hr9_0 hr9_1   h5
theorem sg_cp1_6_run (G : sx_G0 g L xs z9 hd_C ex_mt) (hct : ∀ (mi : Nat) (T2 : ex_T) (c' : sx_Ct), ex_mt mi = some T2 → c' ∈ k9 mi → c'.1 < 60 → sx_Holds g z9 hd_C T2 c') {σ : am_S} {lw : List (Nat × Value)} {post : Option (Option Value) → am_S → Prop} (hM : sx_M z9 hd_C σ 0 0 σ) (hl : (0, Value.ref 19) ∈ lw) (hlr1 : (1, Value.ref 11) ∈ lw)  (cuta : ∀ (lw' : List (Nat × Value)) (m2' : Int32) (m3' : Int32) (σ' : am_S), (0, Value.ref 19) ∈ lw' → (1, Value.ref 11) ∈ lw' → (2, Value.int m2') ∈ lw' → (3, Value.int m3') ∈ lw' → (8 ≤ 1 * m2'.toInt + 0 ∧ 1 * m2'.toInt + 0 ≤ 8) → (0 ≤ 1 * m3'.toInt + 0 ∧ 1 * m3'.toInt + 0 ≤ 0) → sx_M z9 hd_C σ 0 0 σ' → am_K g 15 tX11_copyRow.1 0 0 10 lw' [] σ' post) : am_K g 15 tX11_copyRow.1 0 0 0 lw [] σ post := by
  refine sg_seg (sw := []) (vs := []) (ws := []) G (mi := 25) rfl hct sg_cp1_6_ok trivial (hd_rfc hl (hd_rfc hlr1 hd_rfn)) trivial hd_p0 hM ?_ ?_
  · intro r σ' hq
    cases r with
    | none => exact hq.elim
    | some v =>
      obtain ⟨p, hp, hM2, ks, hk, hv⟩ := hq
      cases hp
  · intro u hu
    simp only [List.mem_cons, List.not_mem_nil, or_false] at hu
    rcases hu with rfl
    · intro lw' sw' vs' ws' σ' ⟨h1_0, h2, h3_0, h4, h5⟩
      obtain ⟨m2', vs1, rfl, hm2, h1_1⟩ := hd_srcl h1_0
      obtain ⟨m3', vs2, rfl, hm3, h1_2⟩ := hd_srcl h1_1
      obtain rfl := hd_src0 h1_2
      obtain ⟨rfl, rfl⟩ := hd_st0 h3_0
      have hr9_0 := hd_rfh h2
      have hr9_1 := hd_rfh (hd_rfT h2)
      obtain ⟨v0, e0, l0, u0⟩ := h4 _ (List.mem_cons_self)
      have g0 : 1 * m2'.toInt + 0 = v0 := Option.some.inj e0
      obtain ⟨v1, e1, l1, u1⟩ := h4 _ (List.mem_cons_of_mem _ (List.mem_cons_self))
      have g1 : 1 * m3'.toInt + 0 = v1 := Option.some.inj e1
      exact cuta _ _ _ _ hr9_0 hr9_1 hm2 hm3 ⟨by rw [g0]; exact l0, by rw [g0]; exact u0⟩ ⟨by rw [g1]; exact l1, by rw [g1]; exact u1⟩ h5
theorem sg_cp2_6_run (G : sx_G0 g L xs z9 hd_C ex_mt) (hct : ∀ (mi : Nat) (T2 : ex_T) (c' : sx_Ct), ex_mt mi = some T2 → c' ∈ k9 mi → c'.1 < 60 → sx_Holds g z9 hd_C T2 c') {σ : am_S} {lw : List (Nat × Value)} {post : Option (Option Value) → am_S → Prop} (hM : sx_M z9 hd_C σ 0 0 σ) (hl : (0, Value.ref 19) ∈ lw) (hlr1 : (1, Value.ref 11) ∈ lw) {m2 : Int32} (hl2 : (2, Value.int m2) ∈ lw) (bl2 : 8 ≤ m2.toInt ∧ m2.toInt ≤ 8) {m3 : Int32} (hl3 : (3, Value.int m3) ∈ lw) (bl3 : 0 ≤ m3.toInt ∧ m3.toInt ≤ 7) (cuta : ∀ (lw' : List (Nat × Value)) (m2' : Int32) (m3' : Int32) (n0' : Int32) (n1' : Int32) (σ' : am_S), (0, Value.ref 19) ∈ lw' → (1, Value.ref 11) ∈ lw' → (2, Value.int m2') ∈ lw' → (3, Value.int m3') ∈ lw' → (0 ≤ 1 * m3.toInt + ((-1) * n0'.toInt + 0) ∧ 1 * m3.toInt + ((-1) * n0'.toInt + 0) ≤ 0) → (0 ≤ 1 * m3.toInt + ((-1) * n1'.toInt + 0) ∧ 1 * m3.toInt + ((-1) * n1'.toInt + 0) ≤ 0) → (0 ≤ 1 * m2.toInt + ((-1) * m2'.toInt + 0) ∧ 1 * m2.toInt + ((-1) * m2'.toInt + 0) ≤ 0) → (0 ≤ 1 * m3.toInt + ((-1) * m3'.toInt + 0) ∧ 1 * m3.toInt + ((-1) * m3'.toInt + 0) ≤ 0) → sx_M z9 hd_C σ 0 0 σ' → am_K g 15 tX11_copyRow.1 0 0 19 lw' [.int n0', .ref 19, .int n1', .ref 11] σ' post) : am_K g 15 tX11_copyRow.1 0 0 10 lw [] σ post := by
  refine sg_seg (sw := []) (vs := [m2.toInt, m3.toInt]) (ws := []) G (mi := 25) rfl hct sg_cp2_6_ok ⟨⟨m2, hl2, rfl⟩, ⟨⟨m3, hl3, rfl⟩, trivial⟩⟩ (hd_rfc hl (hd_rfc hlr1 hd_rfn)) trivial (hd_p1 rfl bl2.1 bl2.2 (hd_p1 rfl bl3.1 bl3.2 hd_p0)) hM ?_ ?_
  · intro r σ' hq
    cases r with
    | none => exact hq.elim
    | some v =>
      obtain ⟨p, hp, hM2, ks, hk, hv⟩ := hq
      cases hp
  · intro u hu
    simp only [List.mem_cons, List.not_mem_nil, or_false] at hu
    rcases hu with rfl
    · intro lw' sw' vs' ws' σ' ⟨h1_0, h2, h3_0, h4, h5⟩
      obtain ⟨m2', vs1, rfl, hm2, h1_1⟩ := hd_srcl h1_0
      obtain ⟨m3', vs2, rfl, hm3, h1_2⟩ := hd_srcl h1_1
      obtain rfl := hd_src0 h1_2
      obtain ⟨n0', sw1, ws1, rfl, rfl, h3_1⟩ := hd_sti h3_0
      obtain ⟨sw2, rfl, h3_2⟩ := hd_str h3_1
      obtain ⟨n1', sw3, ws3, rfl, rfl, h3_3⟩ := hd_sti h3_2
      obtain ⟨sw4, rfl, h3_4⟩ := hd_str h3_3
      obtain ⟨rfl, rfl⟩ := hd_st0 h3_4
      have hr9_0 := hd_rfh h2
      have hr9_1 := hd_rfh (hd_rfT h2)
      obtain ⟨v0, e0, l0, u0⟩ := h4 _ (List.mem_cons_self)
      have g0 : 1 * m3.toInt + ((-1) * n0'.toInt + 0) = v0 := Option.some.inj e0
      obtain ⟨v1, e1, l1, u1⟩ := h4 _ (List.mem_cons_of_mem _ (List.mem_cons_self))
      have g1 : 1 * m3.toInt + ((-1) * n1'.toInt + 0) = v1 := Option.some.inj e1
      obtain ⟨v2, e2, l2, u2⟩ := h4 _ (List.mem_cons_of_mem _ (List.mem_cons_of_mem _ (List.mem_cons_self)))
      have g2 : 1 * m2.toInt + ((-1) * m2'.toInt + 0) = v2 := Option.some.inj e2
      obtain ⟨v3, e3, l3, u3⟩ := h4 _ (List.mem_cons_of_mem _ (List.mem_cons_of_mem _ (List.mem_cons_of_mem _ (List.mem_cons_self))))
      have g3 : 1 * m3.toInt + ((-1) * m3'.toInt + 0) = v3 := Option.some.inj e3
      exact cuta _ _ _ _ _ _ hr9_0 hr9_1 hm2 hm3 ⟨by rw [g0]; exact l0, by rw [g0]; exact u0⟩ ⟨by rw [g1]; exact l1, by rw [g1]; exact u1⟩ ⟨by rw [g2]; exact l2, by rw [g2]; exact u2⟩ ⟨by rw [g3]; exact l3, by rw [g3]; exact u3⟩ h5
theorem sg_cp3_6_run (G : sx_G0 g L xs z9 hd_C ex_mt) (hct : ∀ (mi : Nat) (T2 : ex_T) (c' : sx_Ct), ex_mt mi = some T2 → c' ∈ k9 mi → c'.1 < 60 → sx_Holds g z9 hd_C T2 c') {σ : am_S} {lw : List (Nat × Value)} {post : Option (Option Value) → am_S → Prop} (hM : sx_M z9 hd_C σ 0 0 σ) (hl : (0, Value.ref 19) ∈ lw) (hlr1 : (1, Value.ref 11) ∈ lw) {m2 : Int32} (hl2 : (2, Value.int m2) ∈ lw) (bl2 : 8 ≤ m2.toInt ∧ m2.toInt ≤ 8) {m3 : Int32} (hl3 : (3, Value.int m3) ∈ lw) (bl3 : 0 ≤ m3.toInt ∧ m3.toInt ≤ 7) (cuta : ∀ (lw' : List (Nat × Value)) (m2' : Int32) (m3' : Int32) (σ' : am_S), (0, Value.ref 19) ∈ lw' → (1, Value.ref 11) ∈ lw' → (2, Value.int m2') ∈ lw' → (3, Value.int m3') ∈ lw' → (0 ≤ 1 * m2.toInt + ((-1) * m2'.toInt + 0) ∧ 1 * m2.toInt + ((-1) * m2'.toInt + 0) ≤ 0) → ((-1) ≤ 1 * m3.toInt + ((-1) * m3'.toInt + 0) ∧ 1 * m3.toInt + ((-1) * m3'.toInt + 0) ≤ (-1)) → sx_M z9 hd_C σ 0 0 σ' → am_K g 15 tX11_copyRow.1 0 0 10 lw' [] σ' post) : am_K g 15 tX11_copyRow.1 0 0 21 lw [] σ post := by
  refine sg_seg (sw := []) (vs := [m2.toInt, m3.toInt]) (ws := []) G (mi := 25) rfl hct sg_cp3_6_ok ⟨⟨m2, hl2, rfl⟩, ⟨⟨m3, hl3, rfl⟩, trivial⟩⟩ (hd_rfc hl (hd_rfc hlr1 hd_rfn)) trivial (hd_p1 rfl bl2.1 bl2.2 (hd_p1 rfl bl3.1 bl3.2 hd_p0)) hM ?_ ?_
  · intro r σ' hq
    cases r with
    | none => exact hq.elim
    | some v =>
      obtain ⟨p, hp, hM2, ks, hk, hv⟩ := hq
      cases hp
  · intro u hu
    simp only [List.mem_cons, List.not_mem_nil, or_false] at hu
    rcases hu with rfl
    · intro lw' sw' vs' ws' σ' ⟨h1_0, h2, h3_0, h4, h5⟩
      obtain ⟨m2', vs1, rfl, hm2, h1_1⟩ := hd_srcl h1_0
      obtain ⟨m3', vs2, rfl, hm3, h1_2⟩ := hd_srcl h1_1
      obtain rfl := hd_src0 h1_2
      obtain ⟨rfl, rfl⟩ := hd_st0 h3_0
      have hr9_0 := hd_rfh h2
      have hr9_1 := hd_rfh (hd_rfT h2)
      obtain ⟨v0, e0, l0, u0⟩ := h4 _ (List.mem_cons_self)
      have g0 : 1 * m2.toInt + ((-1) * m2'.toInt + 0) = v0 := Option.some.inj e0
      obtain ⟨v1, e1, l1, u1⟩ := h4 _ (List.mem_cons_of_mem _ (List.mem_cons_self))
      have g1 : 1 * m3.toInt + ((-1) * m3'.toInt + 0) = v1 := Option.some.inj e1
      exact cuta _ _ _ _ hr9_0 hr9_1 hm2 hm3 ⟨by rw [g0]; exact l0, by rw [g0]; exact u0⟩ ⟨by rw [g1]; exact l1, by rw [g1]; exact u1⟩ h5
theorem sg_cp4_6_run (G : sx_G0 g L xs z9 hd_C ex_mt) (hct : ∀ (mi : Nat) (T2 : ex_T) (c' : sx_Ct), ex_mt mi = some T2 → c' ∈ k9 mi → c'.1 < 60 → sx_Holds g z9 hd_C T2 c') {σ : am_S} {lw : List (Nat × Value)} {post : Option (Option Value) → am_S → Prop} (hM : sx_M z9 hd_C σ 0 0 σ) (hl : (0, Value.ref 19) ∈ lw) (hlr1 : (1, Value.ref 11) ∈ lw) {m2 : Int32} (hl2 : (2, Value.int m2) ∈ lw) (bl2 : 8 ≤ m2.toInt ∧ m2.toInt ≤ 8) {m3 : Int32} (hl3 : (3, Value.int m3) ∈ lw) (bl3 : 8 ≤ m3.toInt ∧ m3.toInt ≤ 8) (ret0 : ∀ (σ' : am_S), sx_M z9 hd_C σ 0 0 σ' → post (some none) σ') : am_K g 15 tX11_copyRow.1 0 0 10 lw [] σ post := by
  refine sg_seg (sw := []) (vs := [m2.toInt, m3.toInt]) (ws := []) G (mi := 25) rfl hct sg_cp4_6_ok ⟨⟨m2, hl2, rfl⟩, ⟨⟨m3, hl3, rfl⟩, trivial⟩⟩ (hd_rfc hl (hd_rfc hlr1 hd_rfn)) trivial (hd_p1 rfl bl2.1 bl2.2 (hd_p1 rfl bl3.1 bl3.2 hd_p0)) hM ?_ ?_
  · intro r σ' hq
    cases r with
    | none => exact hq.elim
    | some v =>
      obtain ⟨p, hp, hM2, ks, hk, hv⟩ := hq
      simp only [List.mem_cons, List.not_mem_nil, or_false] at hp
      rcases hp with rfl
      · obtain rfl := hd_keys hk
        cases v with
        | some w9 => exact hv.elim
        | none =>
          have hP := hv
          exact ret0 _  hM2
  · intro u hu
    cases hu
theorem sg_cf6_run (G : sx_G0 g L xs z9 hd_C ex_mt) (hct : ∀ (mi : Nat) (T2 : ex_T) (c' : sx_Ct), ex_mt mi = some T2 → c' ∈ k9 mi → c'.1 < 60 → sx_Holds g z9 hd_C T2 c') {σ : am_S} {lw : List (Nat × Value)} {post : Option (Option Value) → am_S → Prop} (hM : sx_M z9 hd_C σ 0 0 σ) (hl : (0, Value.ref 4) ∈ lw) (hlr1 : (1, Value.ref 12) ∈ lw)  (cuta : ∀ (lw' : List (Nat × Value))  (σ' : am_S), (0, Value.ref 4) ∈ lw' → (1, Value.ref 12) ∈ lw' → sx_M z9 hd_C σ 0 0 σ' → am_K g 20 tX9_copyFrom.1 0 0 74 lw' [.ref 11, .ref 19] σ' post) : am_K g 20 tX9_copyFrom.1 0 0 66 lw [] σ post := by
  refine sg_seg (sw := []) (vs := []) (ws := []) G (mi := 290) rfl hct sg_cf6_ok trivial (hd_rfc hl (hd_rfc hlr1 hd_rfn)) trivial hd_p0 hM ?_ ?_
  · intro r σ' hq
    cases r with
    | none => exact hq.elim
    | some v =>
      obtain ⟨p, hp, hM2, ks, hk, hv⟩ := hq
      cases hp
  · intro u hu
    simp only [List.mem_cons, List.not_mem_nil, or_false] at hu
    rcases hu with rfl
    · intro lw' sw' vs' ws' σ' ⟨h1_0, h2, h3_0, h4, h5⟩
      obtain rfl := hd_src0 h1_0
      obtain ⟨sw1, rfl, h3_1⟩ := hd_str h3_0
      obtain ⟨sw2, rfl, h3_2⟩ := hd_str h3_1
      obtain ⟨rfl, rfl⟩ := hd_st0 h3_2
      have hr9_0 := hd_rfh h2
      have hr9_1 := hd_rfh (hd_rfT h2)
      exact cuta _  _ hr9_0 hr9_1   h5
theorem sg_cf7_run (G : sx_G0 g L xs z9 hd_C ex_mt) (hct : ∀ (mi : Nat) (T2 : ex_T) (c' : sx_Ct), ex_mt mi = some T2 → c' ∈ k9 mi → c'.1 < 60 → sx_Holds g z9 hd_C T2 c') {σ : am_S} {lw : List (Nat × Value)} {post : Option (Option Value) → am_S → Prop} (hM : sx_M z9 hd_C σ 0 0 σ) (hl : (0, Value.ref 4) ∈ lw) (hlr1 : (1, Value.ref 12) ∈ lw)  (ret0 : ∀ (σ' : am_S), (0 ≤ 1 * (σ.2.1 12 7).toInt + ((-1) * (σ'.2.1 4 7).toInt + 0) ∧ 1 * (σ.2.1 12 7).toInt + ((-1) * (σ'.2.1 4 7).toInt + 0) ≤ 0) → (0 ≤ 1 * (σ.2.1 12 8).toInt + ((-1) * (σ'.2.1 4 8).toInt + 0) ∧ 1 * (σ.2.1 12 8).toInt + ((-1) * (σ'.2.1 4 8).toInt + 0) ≤ 0) → (0 ≤ 1 * (σ.2.1 12 9).toInt + ((-1) * (σ'.2.1 4 9).toInt + 0) ∧ 1 * (σ.2.1 12 9).toInt + ((-1) * (σ'.2.1 4 9).toInt + 0) ≤ 0) → (0 ≤ 1 * (σ.2.1 12 10).toInt + ((-1) * (σ'.2.1 4 10).toInt + 0) ∧ 1 * (σ.2.1 12 10).toInt + ((-1) * (σ'.2.1 4 10).toInt + 0) ≤ 0) → sx_M z9 hd_C σ 1030792151040 0 σ' → post (some none) σ') : am_K g 20 tX9_copyFrom.1 0 0 77 lw [] σ post := by
  refine sg_seg (sw := []) (vs := [(σ.2.1 12 7).toInt, (σ.2.1 12 8).toInt, (σ.2.1 12 9).toInt, (σ.2.1 12 10).toInt]) (ws := []) G (mi := 290) rfl hct sg_cf7_ok ⟨rfl, ⟨rfl, ⟨rfl, ⟨rfl, trivial⟩⟩⟩⟩ (hd_rfc hl (hd_rfc hlr1 hd_rfn)) trivial (hd_p1 rfl (hd_kd_12_7 hM).1 (hd_kd_12_7 hM).2 (hd_p1 rfl (hd_kd_12_8 hM).1 (hd_kd_12_8 hM).2 (hd_p1 rfl (hd_kd_12_9 hM).1 (hd_kd_12_9 hM).2 (hd_p1 rfl (hd_kd_12_10 hM).1 (hd_kd_12_10 hM).2 hd_p0)))) hM ?_ ?_
  · intro r σ' hq
    cases r with
    | none => exact hq.elim
    | some v =>
      obtain ⟨p, hp, hM2, ks, hk, hv⟩ := hq
      simp only [List.mem_cons, List.not_mem_nil, or_false] at hp
      rcases hp with rfl
      · obtain ⟨ks0, rfl, hk1⟩ := hd_keyc hk; obtain ⟨ks1, rfl, hk2⟩ := hd_keyc hk1; obtain ⟨ks2, rfl, hk3⟩ := hd_keyc hk2; obtain ⟨ks3, rfl, hk4⟩ := hd_keyc hk3; obtain rfl := hd_keys hk4
        cases v with
        | some w9 => exact hv.elim
        | none =>
          have hP := hv
          obtain ⟨v0, e0, l0, u0⟩ := hP _ (List.mem_cons_self)
          have g0 : 1 * (σ.2.1 12 7).toInt + ((-1) * (σ'.2.1 4 7).toInt + 0) = v0 := Option.some.inj e0
          obtain ⟨v1, e1, l1, u1⟩ := hP _ (List.mem_cons_of_mem _ (List.mem_cons_self))
          have g1 : 1 * (σ.2.1 12 8).toInt + ((-1) * (σ'.2.1 4 8).toInt + 0) = v1 := Option.some.inj e1
          obtain ⟨v2, e2, l2, u2⟩ := hP _ (List.mem_cons_of_mem _ (List.mem_cons_of_mem _ (List.mem_cons_self)))
          have g2 : 1 * (σ.2.1 12 9).toInt + ((-1) * (σ'.2.1 4 9).toInt + 0) = v2 := Option.some.inj e2
          obtain ⟨v3, e3, l3, u3⟩ := hP _ (List.mem_cons_of_mem _ (List.mem_cons_of_mem _ (List.mem_cons_of_mem _ (List.mem_cons_self))))
          have g3 : 1 * (σ.2.1 12 10).toInt + ((-1) * (σ'.2.1 4 10).toInt + 0) = v3 := Option.some.inj e3
          exact ret0 _ ⟨by rw [g0]; exact l0, by rw [g0]; exact u0⟩ ⟨by rw [g1]; exact l1, by rw [g1]; exact u1⟩ ⟨by rw [g2]; exact l2, by rw [g2]; exact u2⟩ ⟨by rw [g3]; exact l3, by rw [g3]; exact u3⟩ hM2
  · intro u hu
    cases hu
theorem sg_cs1_run (G : sx_G0 g L xs z9 hd_C ex_mt) (hct : ∀ (mi : Nat) (T2 : ex_T) (c' : sx_Ct), ex_mt mi = some T2 → c' ∈ k9 mi → c'.1 < 60 → sx_Holds g z9 hd_C T2 c') {σ : am_S} {lw : List (Nat × Value)} {post : Option (Option Value) → am_S → Prop} (hM : sx_M z9 hd_C σ 0 0 σ) (hl : (0, Value.ref 0) ∈ lw)  (cuta : ∀ (lw' : List (Nat × Value)) (n0' : Int32) (σ' : am_S), (0, Value.ref 0) ∈ lw' → (900 ≤ 1 * n0'.toInt + 0 ∧ 1 * n0'.toInt + 0 ≤ 900) → sx_M z9 hd_C σ 0 0 σ' → am_K g 60 tX11_station.1 0 0 7 lw' [.int n0', .ref 3] σ' post) : am_K g 60 tX11_station.1 0 0 0 lw [] σ post := by
  refine sg_seg (sw := []) (vs := []) (ws := []) G (mi := 65) rfl hct sg_cs1_ok trivial (hd_refs hl) trivial hd_p0 hM ?_ ?_
  · intro r σ' hq
    cases r with
    | none => exact hq.elim
    | some v =>
      obtain ⟨p, hp, hM2, ks, hk, hv⟩ := hq
      cases hp
  · intro u hu
    simp only [List.mem_cons, List.not_mem_nil, or_false] at hu
    rcases hu with rfl
    · intro lw' sw' vs' ws' σ' ⟨h1_0, h2, h3_0, h4, h5⟩
      obtain rfl := hd_src0 h1_0
      obtain ⟨n0', sw1, ws1, rfl, rfl, h3_1⟩ := hd_sti h3_0
      obtain ⟨sw2, rfl, h3_2⟩ := hd_str h3_1
      obtain ⟨rfl, rfl⟩ := hd_st0 h3_2
      have hr9 := hd_ref0 h2
      obtain ⟨v0, e0, l0, u0⟩ := h4 _ (List.mem_cons_self)
      have g0 : 1 * n0'.toInt + 0 = v0 := Option.some.inj e0
      exact cuta _ _ _ hr9  ⟨by rw [g0]; exact l0, by rw [g0]; exact u0⟩ h5
theorem sg_cs2_run (G : sx_G0 g L xs z9 hd_C ex_mt) (hct : ∀ (mi : Nat) (T2 : ex_T) (c' : sx_Ct), ex_mt mi = some T2 → c' ∈ k9 mi → c'.1 < 60 → sx_Holds g z9 hd_C T2 c') {σ : am_S} {lw : List (Nat × Value)} {post : Option (Option Value) → am_S → Prop} (hM : sx_M z9 hd_C σ 0 0 σ) (hl : (0, Value.ref 0) ∈ lw)  (cuta : ∀ (lw' : List (Nat × Value))  (σ' : am_S), (0, Value.ref 0) ∈ lw' → sx_M z9 hd_C σ 0 0 σ' → am_K g 60 tX11_station.1 0 0 18 lw' [.ref 3, .ref 12] σ' post) : am_K g 60 tX11_station.1 0 0 10 lw [] σ post := by
  refine sg_seg (sw := []) (vs := []) (ws := []) G (mi := 65) rfl hct sg_cs2_ok trivial (hd_refs hl) trivial hd_p0 hM ?_ ?_
  · intro r σ' hq
    cases r with
    | none => exact hq.elim
    | some v =>
      obtain ⟨p, hp, hM2, ks, hk, hv⟩ := hq
      cases hp
  · intro u hu
    simp only [List.mem_cons, List.not_mem_nil, or_false] at hu
    rcases hu with rfl
    · intro lw' sw' vs' ws' σ' ⟨h1_0, h2, h3_0, h4, h5⟩
      obtain rfl := hd_src0 h1_0
      obtain ⟨sw1, rfl, h3_1⟩ := hd_str h3_0
      obtain ⟨sw2, rfl, h3_2⟩ := hd_str h3_1
      obtain ⟨rfl, rfl⟩ := hd_st0 h3_2
      have hr9 := hd_ref0 h2
      exact cuta _  _ hr9   h5
theorem sg_cs3a_run (G : sx_G0 g L xs z9 hd_C ex_mt) (hct : ∀ (mi : Nat) (T2 : ex_T) (c' : sx_Ct), ex_mt mi = some T2 → c' ∈ k9 mi → c'.1 < 60 → sx_Holds g z9 hd_C T2 c') {σ : am_S} {lw : List (Nat × Value)} {post : Option (Option Value) → am_S → Prop} (hM : sx_M z9 hd_C σ 0 0 σ) (hl : (0, Value.ref 0) ∈ lw) (bp3_8 : 0 ≤ (σ.2.1 3 8).toInt ∧ (σ.2.1 3 8).toInt ≤ 940) {n0 : Int32} (bk0 : 0 ≤ n0.toInt ∧ n0.toInt ≤ 0) (ret0 : ∀ (r : Int32) (σ' : am_S), ((-1) ≤ 1 * (σ.2.1 3 8).toInt + (1 * r.toInt + 0) ∧ 1 * (σ.2.1 3 8).toInt + (1 * r.toInt + 0) ≤ (-1)) → (0 ≤ 1 * (σ'.2.1 1 1).toInt + 0 ∧ 1 * (σ'.2.1 1 1).toInt + 0 ≤ 0) → (0 ≤ 1 * (σ.2.1 3 7).toInt + ((-1) * (σ'.2.1 0 16).toInt + 0) ∧ 1 * (σ.2.1 3 7).toInt + ((-1) * (σ'.2.1 0 16).toInt + 0) ≤ 0) → sx_M z9 hd_C σ 327680 0 σ' → post (some (some (.int r))) σ') : am_K g 60 tX11_station.1 0 0 21 lw [.int n0] σ post := by
  refine sg_seg (sw := [.int n0]) (vs := [(σ.2.1 3 7).toInt, (σ.2.1 3 8).toInt]) (ws := [n0.toInt]) G (mi := 65) rfl hct sg_cs3a_ok ⟨rfl, ⟨rfl, trivial⟩⟩ (hd_refs hl) ⟨⟨n0, rfl, rfl⟩, trivial⟩ (hd_p1 rfl (hd_kd_3_7 hM).1 (hd_kd_3_7 hM).2 (hd_p1 rfl bp3_8.1 bp3_8.2 (hd_p1 rfl bk0.1 bk0.2 hd_p0))) hM ?_ ?_
  · intro r σ' hq
    cases r with
    | none => exact hq.elim
    | some v =>
      obtain ⟨p, hp, hM2, ks, hk, hv⟩ := hq
      simp only [List.mem_cons, List.not_mem_nil, or_false] at hp
      rcases hp with rfl
      · obtain ⟨ks0, rfl, hk1⟩ := hd_keyc hk; obtain ⟨ks1, rfl, hk2⟩ := hd_keyc hk1; obtain rfl := hd_keys hk2
        cases v with
        | none => exact hv.elim
        | some w9 =>
          obtain ⟨r, rfl, hP⟩ := hv
          obtain ⟨v0, e0, l0, u0⟩ := hP _ (List.mem_cons_self)
          have g0 : 1 * (σ.2.1 3 8).toInt + (1 * r.toInt + 0) = v0 := Option.some.inj e0
          obtain ⟨v1, e1, l1, u1⟩ := hP _ (List.mem_cons_of_mem _ (List.mem_cons_self))
          have g1 : 1 * (σ'.2.1 1 1).toInt + 0 = v1 := Option.some.inj e1
          obtain ⟨v2, e2, l2, u2⟩ := hP _ (List.mem_cons_of_mem _ (List.mem_cons_of_mem _ (List.mem_cons_self)))
          have g2 : 1 * (σ.2.1 3 7).toInt + ((-1) * (σ'.2.1 0 16).toInt + 0) = v2 := Option.some.inj e2
          exact ret0 r _ ⟨by rw [g0]; exact l0, by rw [g0]; exact u0⟩ ⟨by rw [g1]; exact l1, by rw [g1]; exact u1⟩ ⟨by rw [g2]; exact l2, by rw [g2]; exact u2⟩ hM2
  · intro u hu
    cases hu
theorem sg_cs3b_run (G : sx_G0 g L xs z9 hd_C ex_mt) (hct : ∀ (mi : Nat) (T2 : ex_T) (c' : sx_Ct), ex_mt mi = some T2 → c' ∈ k9 mi → c'.1 < 60 → sx_Holds g z9 hd_C T2 c') {σ : am_S} {lw : List (Nat × Value)} {post : Option (Option Value) → am_S → Prop} (hM : sx_M z9 hd_C σ 0 0 σ) (hl : (0, Value.ref 0) ∈ lw) {n0 : Int32} (bk0 : 1 ≤ n0.toInt ∧ n0.toInt ≤ 1) (cuta : ∀ (lw' : List (Nat × Value))  (σ' : am_S), (0, Value.ref 0) ∈ lw' → (0 ≤ 1 * (σ'.2.1 1 1).toInt + 0 ∧ 1 * (σ'.2.1 1 1).toInt + 0 ≤ 0) → (0 ≤ 1 * (σ.2.1 3 7).toInt + ((-1) * (σ'.2.1 0 16).toInt + 0) ∧ 1 * (σ.2.1 3 7).toInt + ((-1) * (σ'.2.1 0 16).toInt + 0) ≤ 0) → sx_M z9 hd_C σ 327680 0 σ' → am_K g 60 tX11_station.1 0 0 63 lw' [.ref 12, .ref 4] σ' post) : am_K g 60 tX11_station.1 0 0 21 lw [.int n0] σ post := by
  refine sg_seg (sw := [.int n0]) (vs := [(σ.2.1 3 7).toInt]) (ws := [n0.toInt]) G (mi := 65) rfl hct sg_cs3b_ok ⟨rfl, trivial⟩ (hd_refs hl) ⟨⟨n0, rfl, rfl⟩, trivial⟩ (hd_p1 rfl (hd_kd_3_7 hM).1 (hd_kd_3_7 hM).2 (hd_p1 rfl bk0.1 bk0.2 hd_p0)) hM ?_ ?_
  · intro r σ' hq
    cases r with
    | none => exact hq.elim
    | some v =>
      obtain ⟨p, hp, hM2, ks, hk, hv⟩ := hq
      cases hp
  · intro u hu
    simp only [List.mem_cons, List.not_mem_nil, or_false] at hu
    rcases hu with rfl
    · intro lw' sw' vs' ws' σ' ⟨h1_0, h2, h3_0, h4, h5⟩
      obtain ⟨vs1, rfl, h1_1⟩ := hd_srcs h1_0
      obtain ⟨vs2, rfl, h1_2⟩ := hd_srcs h1_1
      obtain rfl := hd_src0 h1_2
      obtain ⟨sw1, rfl, h3_1⟩ := hd_str h3_0
      obtain ⟨sw2, rfl, h3_2⟩ := hd_str h3_1
      obtain ⟨rfl, rfl⟩ := hd_st0 h3_2
      have hr9 := hd_ref0 h2
      obtain ⟨v0, e0, l0, u0⟩ := h4 _ (List.mem_cons_self)
      have g0 : 1 * (σ'.2.1 1 1).toInt + 0 = v0 := Option.some.inj e0
      obtain ⟨v1, e1, l1, u1⟩ := h4 _ (List.mem_cons_of_mem _ (List.mem_cons_self))
      have g1 : 1 * (σ.2.1 3 7).toInt + ((-1) * (σ'.2.1 0 16).toInt + 0) = v1 := Option.some.inj e1
      exact cuta _  _ hr9  ⟨by rw [g0]; exact l0, by rw [g0]; exact u0⟩ ⟨by rw [g1]; exact l1, by rw [g1]; exact u1⟩ h5
theorem sg_cs4_run (G : sx_G0 g L xs z9 hd_C ex_mt) (hct : ∀ (mi : Nat) (T2 : ex_T) (c' : sx_Ct), ex_mt mi = some T2 → c' ∈ k9 mi → c'.1 < 60 → sx_Holds g z9 hd_C T2 c') {σ : am_S} {lw : List (Nat × Value)} {post : Option (Option Value) → am_S → Prop} (hM : sx_M z9 hd_C σ 0 0 σ) (hl : (0, Value.ref 0) ∈ lw)  (ret0 : ∀ (r : Int32) (σ' : am_S), (0 ≤ 1 * (σ.2.1 4 9).toInt + ((-1) * r.toInt + 0) ∧ 1 * (σ.2.1 4 9).toInt + ((-1) * r.toInt + 0) ≤ 0) → (0 ≤ 1 * (σ'.2.1 68 17).toInt + 0 ∧ 1 * (σ'.2.1 68 17).toInt + 0 ≤ 0) → (0 ≤ 1 * (σ'.2.1 68 18).toInt + 0 ∧ 1 * (σ'.2.1 68 18).toInt + 0 ≤ 0) → (0 ≤ 1 * (σ'.2.1 68 19).toInt + 0 ∧ 1 * (σ'.2.1 68 19).toInt + 0 ≤ 0) → sx_M z9 hd_C σ 1545991186617599960349003439614961249021099984136100238717300346569359360 0 σ' → post (some (some (.int r))) σ') : am_K g 60 tX11_station.1 0 0 66 lw [] σ post := by
  refine sg_seg (sw := []) (vs := [(σ.2.1 4 9).toInt]) (ws := []) G (mi := 65) rfl hct sg_cs4_ok ⟨rfl, trivial⟩ (hd_refs hl) trivial (hd_p1 rfl (hd_kd_4_9 hM).1 (hd_kd_4_9 hM).2 hd_p0) hM ?_ ?_
  · intro r σ' hq
    cases r with
    | none => exact hq.elim
    | some v =>
      obtain ⟨p, hp, hM2, ks, hk, hv⟩ := hq
      simp only [List.mem_cons, List.not_mem_nil, or_false] at hp
      rcases hp with rfl
      · obtain ⟨ks0, rfl, hk1⟩ := hd_keyc hk; obtain ⟨ks1, rfl, hk2⟩ := hd_keyc hk1; obtain ⟨ks2, rfl, hk3⟩ := hd_keyc hk2; obtain rfl := hd_keys hk3
        cases v with
        | none => exact hv.elim
        | some w9 =>
          obtain ⟨r, rfl, hP⟩ := hv
          obtain ⟨v0, e0, l0, u0⟩ := hP _ (List.mem_cons_self)
          have g0 : 1 * (σ.2.1 4 9).toInt + ((-1) * r.toInt + 0) = v0 := Option.some.inj e0
          obtain ⟨v1, e1, l1, u1⟩ := hP _ (List.mem_cons_of_mem _ (List.mem_cons_self))
          have g1 : 1 * (σ'.2.1 68 17).toInt + 0 = v1 := Option.some.inj e1
          obtain ⟨v2, e2, l2, u2⟩ := hP _ (List.mem_cons_of_mem _ (List.mem_cons_of_mem _ (List.mem_cons_self)))
          have g2 : 1 * (σ'.2.1 68 18).toInt + 0 = v2 := Option.some.inj e2
          obtain ⟨v3, e3, l3, u3⟩ := hP _ (List.mem_cons_of_mem _ (List.mem_cons_of_mem _ (List.mem_cons_of_mem _ (List.mem_cons_self))))
          have g3 : 1 * (σ'.2.1 68 19).toInt + 0 = v3 := Option.some.inj e3
          exact ret0 r _ ⟨by rw [g0]; exact l0, by rw [g0]; exact u0⟩ ⟨by rw [g1]; exact l1, by rw [g1]; exact u1⟩ ⟨by rw [g2]; exact l2, by rw [g2]; exact u2⟩ ⟨by rw [g3]; exact l3, by rw [g3]; exact u3⟩ hM2
  · intro u hu
    cases hu
end HR
