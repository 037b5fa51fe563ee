/-! the class's wordOf, other texts: segments (written by a program) -/
def sg_wn1a : sg_Cu := (0, 0, [(0, .inr (some (false, 3))), (1, .inr (some (true, 19078)))], ([.inr 196611], [([(.ofNat 1, 0)], .negSucc 2147483647, .ofNat 1)]), [])
def sg_wn1a_p0 : sx_Po := (0, true, [], [([(.ofNat 1, 1)], .negSucc 0, .negSucc 0)])
theorem sg_wn1a_ok : sg_chk z9 ex_mt k9 60 tX6_wordOf 7 15 sg_wn1a [sg_wn1a_p0] [] = true := by decide +kernel
def sg_wn1b : sg_Cu := (0, 0, [(0, .inr (some (false, 3))), (1, .inr (some (true, 19078)))], ([.inr 196611], [([(.ofNat 1, 0)], .ofNat 3, .ofNat 2147483647)]), [])
def sg_wn1b_p0 : sx_Po := (0, true, [], [([(.ofNat 1, 1)], .negSucc 0, .negSucc 0)])
theorem sg_wn1b_ok : sg_chk z9 ex_mt k9 60 tX6_wordOf 7 15 sg_wn1b [sg_wn1b_p0] [] = true := by decide +kernel
def sg_wn1c : sg_Cu := (0, 0, [(0, .inr (some (false, 3))), (1, .inr (some (true, 19078)))], ([.inr 196611], [([(.ofNat 1, 0)], .ofNat 2, .ofNat 2)]), [])
def sg_wn1c_a : sg_Cu := (23, 0, [(0, .inr (some (false, 3))), (1, .inr (some (true, 19078)))], ([.inl 2, .inl 3, .inl 4, .inl 5], [([(.ofNat 1, 1)], .ofNat 0, .ofNat 0), ([(.ofNat 1, 2)], .ofNat 0, .ofNat 0), ([(.ofNat 1, 3)], .ofNat 1, .ofNat 1), ([(.ofNat 1, 4)], .ofNat 0, .ofNat 0), ([(.ofNat 1, 5)], .ofNat 0, .ofNat 0)]), [some (true, 19078), none])
theorem sg_wn1c_ok : sg_chk z9 ex_mt k9 60 tX6_wordOf 16 15 sg_wn1c [] [sg_wn1c_a] = true := by decide +kernel
def sg_wn2a : sg_Cu := (26, 0, [(0, .inr (some (false, 3))), (1, .inr (some (true, 19078)))], ([.inl 2, .inl 3, .inl 4, .inl 5], [([(.ofNat 1, 0)], .ofNat 0, .ofNat 10), ([(.ofNat 1, 1)], .ofNat 0, .ofNat 45), ([(.ofNat 1, 2)], .ofNat 0, .ofNat 1), ([(.ofNat 1, 3)], .ofNat 0, .ofNat 44), ([(.ofNat 1, 4)], .ofNat 45, .ofNat 45), ([(.ofNat 1, 5)], .ofNat 0, .ofNat 44), ([(.ofNat 1, 3), (.negSucc 0, 5)], .ofNat 0, .ofNat 0)]), [none, none])
def sg_wn2a_a : sg_Cu := (32, 0, [(0, .inr (some (false, 3))), (1, .inr (some (true, 19078)))], ([.inl 2, .inl 3, .inl 4, .inl 5], [([(.ofNat 1, 3), (.negSucc 0, 10)], .ofNat 0, .ofNat 0), ([(.ofNat 1, 3), (.negSucc 0, 9)], .ofNat 0, .ofNat 0), ([(.ofNat 1, 0), (.negSucc 0, 6)], .ofNat 0, .ofNat 0), ([(.ofNat 1, 1), (.negSucc 0, 7)], .ofNat 0, .ofNat 0), ([(.ofNat 1, 2), (.negSucc 0, 8)], .ofNat 0, .ofNat 0)]), [none, some (true, 19078)])
theorem sg_wn2a_ok : sg_chk z9 ex_mt k9 60 tX6_wordOf 5 15 sg_wn2a [] [sg_wn2a_a] = true := by decide +kernel
def sg_wn2b : sg_Cu := (26, 0, [(0, .inr (some (false, 3))), (1, .inr (some (true, 19078)))], ([.inl 2, .inl 3, .inl 4, .inl 5], [([(.ofNat 1, 0)], .ofNat 0, .ofNat 10), ([(.ofNat 1, 1)], .ofNat 0, .ofNat 45), ([(.ofNat 1, 2)], .ofNat 0, .ofNat 0), ([(.ofNat 1, 3)], .ofNat 0, .ofNat 45), ([(.ofNat 1, 4)], .ofNat 45, .ofNat 45), ([(.ofNat 1, 5)], .ofNat 45, .ofNat 45)]), [none, none])
def sg_wn2b_p0 : sx_Po := (0, true, [], [([(.ofNat 1, 6)], .negSucc 0, .negSucc 0)])
theorem sg_wn2b_ok : sg_chk z9 ex_mt k9 60 tX6_wordOf 6 15 sg_wn2b [sg_wn2b_p0] [] = true := by decide +kernel
def sg_wn2c : sg_Cu := (26, 0, [(0, .inr (some (false, 3))), (1, .inr (some (true, 19078)))], ([.inl 2, .inl 3, .inl 4, .inl 5, .inr 196613], [([(.ofNat 1, 0)], .ofNat 0, .ofNat 10), ([(.ofNat 1, 1)], .ofNat 0, .ofNat 45), ([(.ofNat 1, 2)], .ofNat 1, .ofNat 1), ([(.ofNat 1, 3)], .ofNat 0, .ofNat 45), ([(.ofNat 1, 4)], .negSucc 2147483647, .ofNat 2147483647), ([(.ofNat 1, 5)], .ofNat 45, .ofNat 45), ([(.ofNat 1, 6)], .ofNat 45, .ofNat 45), ([(.ofNat 1, 1), (.negSucc 0, 4)], .negSucc 4611686018427387903, .negSucc 0)]), [none, none])
def sg_wn2c_p0 : sx_Po := (0, true, [], [([(.ofNat 1, 7)], .negSucc 0, .negSucc 0)])
theorem sg_wn2c_ok : sg_chk z9 ex_mt k9 60 tX6_wordOf 10 15 sg_wn2c [sg_wn2c_p0] [] = true := by decide +kernel
def sg_wn2d : sg_Cu := (26, 0, [(0, .inr (some (false, 3))), (1, .inr (some (true, 19078)))], ([.inl 2, .inl 3, .inl 4, .inl 5, .inr 196613], [([(.ofNat 1, 0)], .ofNat 0, .ofNat 10), ([(.ofNat 1, 1)], .ofNat 0, .ofNat 45), ([(.ofNat 1, 2)], .ofNat 1, .ofNat 1), ([(.ofNat 1, 3)], .ofNat 0, .ofNat 45), ([(.ofNat 1, 4)], .negSucc 2147483647, .ofNat 2147483647), ([(.ofNat 1, 5)], .ofNat 45, .ofNat 45), ([(.ofNat 1, 6)], .ofNat 45, .ofNat 45), ([(.ofNat 1, 1), (.negSucc 0, 4)], .ofNat 1, .ofNat 4611686018427387904)]), [none, none])
def sg_wn2d_p0 : sx_Po := (0, true, [], [([(.ofNat 1, 7)], .negSucc 0, .negSucc 0)])
theorem sg_wn2d_ok : sg_chk z9 ex_mt k9 60 tX6_wordOf 10 15 sg_wn2d [sg_wn2d_p0] [] = true := by decide +kernel
def sg_wn2e : sg_Cu := (26, 0, [(0, .inr (some (false, 3))), (1, .inr (some (true, 19078)))], ([.inl 2, .inl 3, .inl 4, .inl 5, .inr 196613], [([(.ofNat 1, 0)], .ofNat 0, .ofNat 10), ([(.ofNat 1, 1)], .ofNat 0, .ofNat 45), ([(.ofNat 1, 2)], .ofNat 1, .ofNat 1), ([(.ofNat 1, 3)], .ofNat 0, .ofNat 45), ([(.ofNat 1, 4)], .negSucc 2147483647, .ofNat 2147483647), ([(.ofNat 1, 5)], .ofNat 45, .ofNat 45), ([(.ofNat 1, 6)], .ofNat 45, .ofNat 45), ([(.ofNat 1, 1), (.negSucc 0, 4)], .ofNat 0, .ofNat 0)]), [none, none])
def sg_wn2e_p0 : sx_Po := (0, true, [], [([(.ofNat 1, 0), (.negSucc 0, 7)], .ofNat 0, .ofNat 0)])
theorem sg_wn2e_ok : sg_chk z9 ex_mt k9 60 tX6_wordOf 11 15 sg_wn2e [sg_wn2e_p0] [] = true := by decide +kernel
def sg_wn3a : sg_Cu := (35, 0, [(0, .inr (some (false, 3))), (1, .inr (some (true, 19078)))], ([.inl 2, .inl 3, .inl 4, .inl 5, .inr 196613], [([(.ofNat 1, 0)], .ofNat 0, .ofNat 10), ([(.ofNat 1, 1)], .ofNat 0, .ofNat 45), ([(.ofNat 1, 2)], .ofNat 1, .ofNat 1), ([(.ofNat 1, 3)], .ofNat 0, .ofNat 45), ([(.ofNat 1, 4)], .negSucc 2147483647, .ofNat 2147483647), ([(.ofNat 1, 5)], .ofNat 32, .ofNat 32), ([(.ofNat 1, 1), (.negSucc 0, 4)], .ofNat 0, .ofNat 0)]), [none])
def sg_wn3a_p0 : sx_Po := (0, true, [], [([(.ofNat 1, 0), (.negSucc 0, 6)], .ofNat 0, .ofNat 0)])
theorem sg_wn3a_ok : sg_chk z9 ex_mt k9 60 tX6_wordOf 13 15 sg_wn3a [sg_wn3a_p0] [] = true := by decide +kernel
def sg_wn3b : sg_Cu := (35, 0, [(0, .inr (some (false, 3))), (1, .inr (some (true, 19078)))], ([.inl 2, .inl 3, .inl 4, .inl 5, .inr 196613], [([(.ofNat 1, 0)], .ofNat 0, .ofNat 9), ([(.ofNat 1, 1)], .ofNat 0, .ofNat 45), ([(.ofNat 1, 2)], .ofNat 1, .ofNat 1), ([(.ofNat 1, 3)], .ofNat 0, .ofNat 44), ([(.ofNat 1, 4)], .negSucc 2147483647, .ofNat 2147483647), ([(.ofNat 1, 5)], .ofNat 32, .ofNat 32), ([(.ofNat 1, 1), (.negSucc 0, 4)], .negSucc 4611686018427387903, .negSucc 0)]), [none])
def sg_wn3b_a : sg_Cu := (23, 0, [(0, .inr (some (false, 3))), (1, .inr (some (true, 19078)))], ([.inl 2, .inl 3, .inl 4, .inl 5], [([(.ofNat 1, 3), (.negSucc 0, 9)], .negSucc 0, .negSucc 0), ([(.ofNat 1, 3), (.negSucc 0, 10)], .negSucc 0, .negSucc 0), ([(.ofNat 1, 0), (.negSucc 0, 6)], .negSucc 0, .negSucc 0), ([(.ofNat 1, 7)], .ofNat 0, .ofNat 0), ([(.ofNat 1, 8)], .ofNat 1, .ofNat 1)]), [some (true, 19078), none])
theorem sg_wn3b_ok : sg_chk z9 ex_mt k9 60 tX6_wordOf 21 15 sg_wn3b [] [sg_wn3b_a] = true := by decide +kernel
def sg_wn3c : sg_Cu := (35, 0, [(0, .inr (some (false, 3))), (1, .inr (some (true, 19078)))], ([.inl 2, .inl 3, .inl 4, .inl 5, .inr 196613], [([(.ofNat 1, 0)], .ofNat 0, .ofNat 9), ([(.ofNat 1, 1)], .ofNat 0, .ofNat 45), ([(.ofNat 1, 2)], .ofNat 1, .ofNat 1), ([(.ofNat 1, 3)], .ofNat 0, .ofNat 44), ([(.ofNat 1, 4)], .negSucc 2147483647, .ofNat 2147483647), ([(.ofNat 1, 5)], .ofNat 32, .ofNat 32), ([(.ofNat 1, 1), (.negSucc 0, 4)], .ofNat 1, .ofNat 4611686018427387904)]), [none])
def sg_wn3c_a : sg_Cu := (23, 0, [(0, .inr (some (false, 3))), (1, .inr (some (true, 19078)))], ([.inl 2, .inl 3, .inl 4, .inl 5], [([(.ofNat 1, 3), (.negSucc 0, 9)], .negSucc 0, .negSucc 0), ([(.ofNat 1, 3), (.negSucc 0, 10)], .negSucc 0, .negSucc 0), ([(.ofNat 1, 0), (.negSucc 0, 6)], .negSucc 0, .negSucc 0), ([(.ofNat 1, 7)], .ofNat 0, .ofNat 0), ([(.ofNat 1, 8)], .ofNat 1, .ofNat 1)]), [some (true, 19078), none])
theorem sg_wn3c_ok : sg_chk z9 ex_mt k9 60 tX6_wordOf 21 15 sg_wn3c [] [sg_wn3c_a] = true := by decide +kernel
def sg_wn3d : sg_Cu := (35, 0, [(0, .inr (some (false, 3))), (1, .inr (some (true, 19078)))], ([.inl 2, .inl 3, .inl 4, .inl 5], [([(.ofNat 1, 0)], .ofNat 0, .ofNat 9), ([(.ofNat 1, 1)], .ofNat 0, .ofNat 45), ([(.ofNat 1, 2)], .ofNat 0, .ofNat 0), ([(.ofNat 1, 3)], .ofNat 0, .ofNat 44), ([(.ofNat 1, 4)], .ofNat 32, .ofNat 32)]), [none])
def sg_wn3d_a : sg_Cu := (23, 0, [(0, .inr (some (false, 3))), (1, .inr (some (true, 19078)))], ([.inl 2, .inl 3, .inl 4, .inl 5], [([(.ofNat 1, 3), (.negSucc 0, 8)], .negSucc 0, .negSucc 0), ([(.ofNat 1, 3), (.negSucc 0, 9)], .negSucc 0, .negSucc 0), ([(.ofNat 1, 0), (.negSucc 0, 5)], .negSucc 0, .negSucc 0), ([(.ofNat 1, 6)], .ofNat 0, .ofNat 0), ([(.ofNat 1, 7)], .ofNat 1, .ofNat 1)]), [some (true, 19078), none])
theorem sg_wn3d_ok : sg_chk z9 ex_mt k9 60 tX6_wordOf 17 15 sg_wn3d [] [sg_wn3d_a] = true := by decide +kernel
def sg_wn3e : sg_Cu := (35, 0, [(0, .inr (some (false, 3))), (1, .inr (some (true, 19078)))], ([.inl 2, .inl 3, .inl 4, .inl 5], [([(.ofNat 1, 0)], .ofNat 0, .ofNat 10), ([(.ofNat 1, 1)], .ofNat 0, .ofNat 44), ([(.ofNat 1, 2)], .ofNat 0, .ofNat 0), ([(.ofNat 1, 3)], .ofNat 0, .ofNat 44), ([(.ofNat 1, 4)], .ofNat 97, .ofNat 122)]), [none])
def sg_wn3e_a : sg_Cu := (23, 0, [(0, .inr (some (false, 3))), (1, .inr (some (true, 19078)))], ([.inl 2, .inl 3, .inl 4, .inl 5], [([(.ofNat 1, 3), (.negSucc 0, 8)], .negSucc 0, .negSucc 0), ([(.ofNat 1, 3), (.negSucc 0, 9)], .negSucc 0, .negSucc 0), ([(.ofNat 1, 0), (.negSucc 0, 5)], .ofNat 0, .ofNat 0), ([(.ofNat 1, 1), (.negSucc 0, 6)], .negSucc 0, .negSucc 0), ([(.ofNat 1, 7)], .ofNat 0, .ofNat 0)]), [some (true, 19078), none])
theorem sg_wn3e_ok : sg_chk z9 ex_mt k9 60 tX6_wordOf 16 15 sg_wn3e [] [sg_wn3e_a] = true := by decide +kernel
def sg_wn3f : sg_Cu := (35, 0, [(0, .inr (some (false, 3))), (1, .inr (some (true, 19078)))], ([.inl 2, .inl 3, .inl 4, .inl 5, .inr 196613], [([(.ofNat 1, 0)], .ofNat 0, .ofNat 10), ([(.ofNat 1, 1)], .ofNat 0, .ofNat 44), ([(.ofNat 1, 2)], .ofNat 1, .ofNat 1), ([(.ofNat 1, 3)], .ofNat 0, .ofNat 44), ([(.ofNat 1, 4)], .negSucc 2147483647, .ofNat 2147483647), ([(.ofNat 1, 5)], .ofNat 97, .ofNat 122), ([(.ofNat 1, 1), (.negSucc 0, 4)], .ofNat 0, .ofNat 4611686018427387904)]), [none])
def sg_wn3f_a : sg_Cu := (23, 0, [(0, .inr (some (false, 3))), (1, .inr (some (true, 19078)))], ([.inl 2, .inl 3, .inl 4, .inl 5], [([(.ofNat 1, 3), (.negSucc 0, 9)], .negSucc 0, .negSucc 0), ([(.ofNat 1, 3), (.negSucc 0, 10)], .negSucc 0, .negSucc 0), ([(.ofNat 1, 0), (.negSucc 0, 6)], .ofNat 0, .ofNat 0), ([(.ofNat 1, 1), (.negSucc 0, 7)], .negSucc 0, .negSucc 0), ([(.ofNat 1, 8)], .ofNat 0, .ofNat 0)]), [some (true, 19078), none])
theorem sg_wn3f_ok : sg_chk z9 ex_mt k9 60 tX6_wordOf 20 15 sg_wn3f [] [sg_wn3f_a] = true := by decide +kernel
def sg_wn3g : sg_Cu := (35, 0, [(0, .inr (some (false, 3))), (1, .inr (some (true, 19078)))], ([.inl 2, .inl 3, .inl 4, .inl 5, .inr 196613, .inr 196612], [([(.ofNat 1, 0)], .ofNat 0, .ofNat 10), ([(.ofNat 1, 1)], .ofNat 0, .ofNat 44), ([(.ofNat 1, 2)], .ofNat 1, .ofNat 1), ([(.ofNat 1, 3)], .ofNat 0, .ofNat 44), ([(.ofNat 1, 4)], .negSucc 2147483647, .ofNat 2147483647), ([(.ofNat 1, 5)], .ofNat 0, .ofNat 940), ([(.ofNat 1, 6)], .ofNat 97, .ofNat 122), ([(.ofNat 1, 1), (.negSucc 0, 4)], .negSucc 4611686018427387903, .negSucc 0)]), [none])
def sg_wn3g_a : sg_Cu := (67, 0, [(0, .inr (some (false, 3))), (1, .inr (some (true, 19078)))], ([.inl 2, .inl 3, .inl 4, .inl 5, .inl 6], [([(.ofNat 1, 1), (.ofNat 1, 5), (.negSucc 0, 12)], .ofNat 0, .ofNat 0), ([(.ofNat 1, 3), (.negSucc 0, 10)], .ofNat 0, .ofNat 0), ([(.ofNat 1, 6), (.negSucc 0, 11)], .ofNat 0, .ofNat 0), ([(.ofNat 1, 0), (.negSucc 0, 7)], .ofNat 0, .ofNat 0), ([(.ofNat 1, 1), (.negSucc 0, 8)], .ofNat 0, .ofNat 0), ([(.ofNat 1, 2), (.negSucc 0, 9)], .ofNat 0, .ofNat 0)]), [none, some (false, 1)])
theorem sg_wn3g_ok : sg_chk z9 ex_mt k9 60 tX6_wordOf 18 15 sg_wn3g [] [sg_wn3g_a] = true := by decide +kernel
def sg_wn4a : sg_Cu := (70, 0, [(0, .inr (some (false, 3))), (1, .inr (some (true, 19078)))], ([.inl 2, .inl 3, .inl 4, .inl 5, .inl 6], [([(.ofNat 1, 0)], .ofNat 0, .ofNat 10), ([(.ofNat 1, 1)], .ofNat 0, .ofNat 44), ([(.ofNat 1, 2)], .ofNat 0, .ofNat 1), ([(.ofNat 1, 3)], .ofNat 0, .ofNat 44), ([(.ofNat 1, 4)], .negSucc 2147483647, .ofNat 2147483647), ([(.ofNat 1, 5)], .negSucc 2147483647, .ofNat 2147483647), ([(.ofNat 1, 4), (.negSucc 0, 5)], .ofNat 1, .ofNat 4611686018427387904)]), [none])
def sg_wn4a_a : sg_Cu := (23, 0, [(0, .inr (some (false, 3))), (1, .inr (some (true, 19078)))], ([.inl 2, .inl 3, .inl 4, .inl 5], [([(.ofNat 1, 3), (.negSucc 0, 9)], .negSucc 0, .negSucc 0), ([(.ofNat 1, 3), (.negSucc 0, 10)], .negSucc 0, .negSucc 0), ([(.ofNat 1, 0), (.negSucc 0, 6)], .ofNat 0, .ofNat 0), ([(.ofNat 1, 1), (.negSucc 0, 7)], .negSucc 0, .negSucc 0), ([(.ofNat 1, 8)], .ofNat 0, .ofNat 0)]), [some (true, 19078), none])
theorem sg_wn4a_ok : sg_chk z9 ex_mt k9 60 tX6_wordOf 12 15 sg_wn4a [] [sg_wn4a_a] = true := by decide +kernel
def sg_wn4b : sg_Cu := (70, 0, [(0, .inr (some (false, 3))), (1, .inr (some (true, 19078)))], ([.inl 2, .inl 3, .inl 4, .inl 5, .inl 6], [([(.ofNat 1, 0)], .ofNat 0, .ofNat 10), ([(.ofNat 1, 1)], .ofNat 0, .ofNat 44), ([(.ofNat 1, 2)], .ofNat 0, .ofNat 1), ([(.ofNat 1, 3)], .ofNat 0, .ofNat 44), ([(.ofNat 1, 4)], .negSucc 2147483647, .ofNat 2147483647), ([(.ofNat 1, 5)], .negSucc 2147483647, .ofNat 2147483647), ([(.ofNat 1, 4), (.negSucc 0, 5)], .ofNat 0, .ofNat 0)]), [none])
def sg_wn4b_a : sg_Cu := (23, 0, [(0, .inr (some (false, 3))), (1, .inr (some (true, 19078)))], ([.inl 2, .inl 3, .inl 4, .inl 5], [([(.ofNat 1, 3), (.negSucc 0, 9)], .negSucc 0, .negSucc 0), ([(.ofNat 1, 3), (.negSucc 0, 10)], .negSucc 0, .negSucc 0), ([(.ofNat 1, 0), (.negSucc 0, 6)], .ofNat 0, .ofNat 0), ([(.ofNat 1, 1), (.negSucc 0, 7)], .negSucc 0, .negSucc 0), ([(.ofNat 1, 8)], .ofNat 1, .ofNat 1)]), [some (true, 19078), none])
theorem sg_wn4b_ok : sg_chk z9 ex_mt k9 60 tX6_wordOf 13 15 sg_wn4b [] [sg_wn4b_a] = true := by decide +kernel
def sg_wn4c : sg_Cu := (70, 0, [(0, .inr (some (false, 3))), (1, .inr (some (true, 19078)))], ([.inl 2, .inl 3, .inl 4, .inl 5, .inl 6], [([(.ofNat 1, 0)], .ofNat 0, .ofNat 10), ([(.ofNat 1, 1)], .ofNat 0, .ofNat 44), ([(.ofNat 1, 2)], .ofNat 0, .ofNat 1), ([(.ofNat 1, 3)], .ofNat 0, .ofNat 44), ([(.ofNat 1, 4)], .negSucc 2147483647, .ofNat 2147483647), ([(.ofNat 1, 5)], .negSucc 2147483647, .ofNat 2147483647), ([(.ofNat 1, 4), (.negSucc 0, 5)], .negSucc 4611686018427387903, .negSucc 0)]), [none])
def sg_wn4c_a : sg_Cu := (23, 0, [(0, .inr (some (false, 3))), (1, .inr (some (true, 19078)))], ([.inl 2, .inl 3, .inl 4, .inl 5], [([(.ofNat 1, 3), (.negSucc 0, 9)], .negSucc 0, .negSucc 0), ([(.ofNat 1, 3), (.negSucc 0, 10)], .negSucc 0, .negSucc 0), ([(.ofNat 1, 0), (.negSucc 0, 6)], .ofNat 0, .ofNat 0), ([(.ofNat 1, 1), (.negSucc 0, 7)], .negSucc 0, .negSucc 0), ([(.ofNat 1, 8)], .ofNat 0, .ofNat 0)]), [some (true, 19078), none])
theorem sg_wn4c_ok : sg_chk z9 ex_mt k9 60 tX6_wordOf 12 15 sg_wn4c [] [sg_wn4c_a] = true := by decide +kernel
def sg_wa1a : sg_Cu := (0, 0, [(0, .inr (some (false, 3))), (1, .inr (some (true, 19059)))], ([.inr 196611], [([(.ofNat 1, 0)], .negSucc 2147483647, .ofNat 1)]), [])
def sg_wa1a_p0 : sx_Po := (0, true, [], [([(.ofNat 1, 1)], .negSucc 0, .negSucc 0)])
theorem sg_wa1a_ok : sg_chk z9 ex_mt k9 60 tX6_wordOf 7 15 sg_wa1a [sg_wa1a_p0] [] = true := by decide +kernel
def sg_wa1b : sg_Cu := (0, 0, [(0, .inr (some (false, 3))), (1, .inr (some (true, 19059)))], ([.inr 196611], [([(.ofNat 1, 0)], .ofNat 3, .ofNat 2147483647)]), [])
def sg_wa1b_p0 : sx_Po := (0, true, [], [([(.ofNat 1, 1)], .negSucc 0, .negSucc 0)])
theorem sg_wa1b_ok : sg_chk z9 ex_mt k9 60 tX6_wordOf 7 15 sg_wa1b [sg_wa1b_p0] [] = true := by decide +kernel
def sg_wa1c : sg_Cu := (0, 0, [(0, .inr (some (false, 3))), (1, .inr (some (true, 19059)))], ([.inr 196611], [([(.ofNat 1, 0)], .ofNat 2, .ofNat 2)]), [])
def sg_wa1c_a : sg_Cu := (23, 0, [(0, .inr (some (false, 3))), (1, .inr (some (true, 19059)))], ([.inl 2, .inl 3, .inl 4, .inl 5], [([(.ofNat 1, 1)], .ofNat 0, .ofNat 0), ([(.ofNat 1, 2)], .ofNat 0, .ofNat 0), ([(.ofNat 1, 3)], .ofNat 1, .ofNat 1), ([(.ofNat 1, 4)], .ofNat 0, .ofNat 0), ([(.ofNat 1, 5)], .ofNat 0, .ofNat 0)]), [some (true, 19059), none])
theorem sg_wa1c_ok : sg_chk z9 ex_mt k9 60 tX6_wordOf 16 15 sg_wa1c [] [sg_wa1c_a] = true := by decide +kernel
def sg_wa2a : sg_Cu := (26, 0, [(0, .inr (some (false, 3))), (1, .inr (some (true, 19059)))], ([.inl 2, .inl 3, .inl 4, .inl 5], [([(.ofNat 1, 0)], .ofNat 0, .ofNat 10), ([(.ofNat 1, 1)], .ofNat 0, .ofNat 3), ([(.ofNat 1, 2)], .ofNat 0, .ofNat 1), ([(.ofNat 1, 3)], .ofNat 0, .ofNat 2), ([(.ofNat 1, 4)], .ofNat 3, .ofNat 3), ([(.ofNat 1, 5)], .ofNat 0, .ofNat 2), ([(.ofNat 1, 3), (.negSucc 0, 5)], .ofNat 0, .ofNat 0)]), [none, none])
def sg_wa2a_a : sg_Cu := (32, 0, [(0, .inr (some (false, 3))), (1, .inr (some (true, 19059)))], ([.inl 2, .inl 3, .inl 4, .inl 5], [([(.ofNat 1, 3), (.negSucc 0, 10)], .ofNat 0, .ofNat 0), ([(.ofNat 1, 3), (.negSucc 0, 9)], .ofNat 0, .ofNat 0), ([(.ofNat 1, 0), (.negSucc 0, 6)], .ofNat 0, .ofNat 0), ([(.ofNat 1, 1), (.negSucc 0, 7)], .ofNat 0, .ofNat 0), ([(.ofNat 1, 2), (.negSucc 0, 8)], .ofNat 0, .ofNat 0)]), [none, some (true, 19059)])
theorem sg_wa2a_ok : sg_chk z9 ex_mt k9 60 tX6_wordOf 5 15 sg_wa2a [] [sg_wa2a_a] = true := by decide +kernel
def sg_wa2b : sg_Cu := (26, 0, [(0, .inr (some (false, 3))), (1, .inr (some (true, 19059)))], ([.inl 2, .inl 3, .inl 4, .inl 5], [([(.ofNat 1, 0)], .ofNat 0, .ofNat 10), ([(.ofNat 1, 1)], .ofNat 0, .ofNat 3), ([(.ofNat 1, 2)], .ofNat 0, .ofNat 0), ([(.ofNat 1, 3)], .ofNat 0, .ofNat 3), ([(.ofNat 1, 4)], .ofNat 3, .ofNat 3), ([(.ofNat 1, 5)], .ofNat 3, .ofNat 3)]), [none, none])
def sg_wa2b_p0 : sx_Po := (0, true, [], [([(.ofNat 1, 6)], .negSucc 0, .negSucc 0)])
theorem sg_wa2b_ok : sg_chk z9 ex_mt k9 60 tX6_wordOf 6 15 sg_wa2b [sg_wa2b_p0] [] = true := by decide +kernel
def sg_wa2c : sg_Cu := (26, 0, [(0, .inr (some (false, 3))), (1, .inr (some (true, 19059)))], ([.inl 2, .inl 3, .inl 4, .inl 5, .inr 196613], [([(.ofNat 1, 0)], .ofNat 0, .ofNat 10), ([(.ofNat 1, 1)], .ofNat 0, .ofNat 3), ([(.ofNat 1, 2)], .ofNat 1, .ofNat 1), ([(.ofNat 1, 3)], .ofNat 0, .ofNat 3), ([(.ofNat 1, 4)], .negSucc 2147483647, .ofNat 2147483647), ([(.ofNat 1, 5)], .ofNat 3, .ofNat 3), ([(.ofNat 1, 6)], .ofNat 3, .ofNat 3), ([(.ofNat 1, 1), (.negSucc 0, 4)], .negSucc 4611686018427387903, .negSucc 0)]), [none, none])
def sg_wa2c_p0 : sx_Po := (0, true, [], [([(.ofNat 1, 7)], .negSucc 0, .negSucc 0)])
theorem sg_wa2c_ok : sg_chk z9 ex_mt k9 60 tX6_wordOf 10 15 sg_wa2c [sg_wa2c_p0] [] = true := by decide +kernel
def sg_wa2d : sg_Cu := (26, 0, [(0, .inr (some (false, 3))), (1, .inr (some (true, 19059)))], ([.inl 2, .inl 3, .inl 4, .inl 5, .inr 196613], [([(.ofNat 1, 0)], .ofNat 0, .ofNat 10), ([(.ofNat 1, 1)], .ofNat 0, .ofNat 3), ([(.ofNat 1, 2)], .ofNat 1, .ofNat 1), ([(.ofNat 1, 3)], .ofNat 0, .ofNat 3), ([(.ofNat 1, 4)], .negSucc 2147483647, .ofNat 2147483647), ([(.ofNat 1, 5)], .ofNat 3, .ofNat 3), ([(.ofNat 1, 6)], .ofNat 3, .ofNat 3), ([(.ofNat 1, 1), (.negSucc 0, 4)], .ofNat 1, .ofNat 4611686018427387904)]), [none, none])
def sg_wa2d_p0 : sx_Po := (0, true, [], [([(.ofNat 1, 7)], .negSucc 0, .negSucc 0)])
theorem sg_wa2d_ok : sg_chk z9 ex_mt k9 60 tX6_wordOf 10 15 sg_wa2d [sg_wa2d_p0] [] = true := by decide +kernel
def sg_wa2e : sg_Cu := (26, 0, [(0, .inr (some (false, 3))), (1, .inr (some (true, 19059)))], ([.inl 2, .inl 3, .inl 4, .inl 5, .inr 196613], [([(.ofNat 1, 0)], .ofNat 0, .ofNat 10), ([(.ofNat 1, 1)], .ofNat 0, .ofNat 3), ([(.ofNat 1, 2)], .ofNat 1, .ofNat 1), ([(.ofNat 1, 3)], .ofNat 0, .ofNat 3), ([(.ofNat 1, 4)], .negSucc 2147483647, .ofNat 2147483647), ([(.ofNat 1, 5)], .ofNat 3, .ofNat 3), ([(.ofNat 1, 6)], .ofNat 3, .ofNat 3), ([(.ofNat 1, 1), (.negSucc 0, 4)], .ofNat 0, .ofNat 0)]), [none, none])
def sg_wa2e_p0 : sx_Po := (0, true, [], [([(.ofNat 1, 0), (.negSucc 0, 7)], .ofNat 0, .ofNat 0)])
theorem sg_wa2e_ok : sg_chk z9 ex_mt k9 60 tX6_wordOf 11 15 sg_wa2e [sg_wa2e_p0] [] = true := by decide +kernel
def sg_wa3a : sg_Cu := (35, 0, [(0, .inr (some (false, 3))), (1, .inr (some (true, 19059)))], ([.inl 2, .inl 3, .inl 4, .inl 5, .inr 196613], [([(.ofNat 1, 0)], .ofNat 0, .ofNat 10), ([(.ofNat 1, 1)], .ofNat 0, .ofNat 3), ([(.ofNat 1, 2)], .ofNat 1, .ofNat 1), ([(.ofNat 1, 3)], .ofNat 0, .ofNat 3), ([(.ofNat 1, 4)], .negSucc 2147483647, .ofNat 2147483647), ([(.ofNat 1, 5)], .ofNat 32, .ofNat 32), ([(.ofNat 1, 1), (.negSucc 0, 4)], .ofNat 0, .ofNat 0)]), [none])
def sg_wa3a_p0 : sx_Po := (0, true, [], [([(.ofNat 1, 0), (.negSucc 0, 6)], .ofNat 0, .ofNat 0)])
theorem sg_wa3a_ok : sg_chk z9 ex_mt k9 60 tX6_wordOf 13 15 sg_wa3a [sg_wa3a_p0] [] = true := by decide +kernel
def sg_wa3b : sg_Cu := (35, 0, [(0, .inr (some (false, 3))), (1, .inr (some (true, 19059)))], ([.inl 2, .inl 3, .inl 4, .inl 5, .inr 196613], [([(.ofNat 1, 0)], .ofNat 0, .ofNat 9), ([(.ofNat 1, 1)], .ofNat 0, .ofNat 3), ([(.ofNat 1, 2)], .ofNat 1, .ofNat 1), ([(.ofNat 1, 3)], .ofNat 0, .ofNat 2), ([(.ofNat 1, 4)], .negSucc 2147483647, .ofNat 2147483647), ([(.ofNat 1, 5)], .ofNat 32, .ofNat 32), ([(.ofNat 1, 1), (.negSucc 0, 4)], .negSucc 4611686018427387903, .negSucc 0)]), [none])
def sg_wa3b_a : sg_Cu := (23, 0, [(0, .inr (some (false, 3))), (1, .inr (some (true, 19059)))], ([.inl 2, .inl 3, .inl 4, .inl 5], [([(.ofNat 1, 3), (.negSucc 0, 9)], .negSucc 0, .negSucc 0), ([(.ofNat 1, 3), (.negSucc 0, 10)], .negSucc 0, .negSucc 0), ([(.ofNat 1, 0), (.negSucc 0, 6)], .negSucc 0, .negSucc 0), ([(.ofNat 1, 7)], .ofNat 0, .ofNat 0), ([(.ofNat 1, 8)], .ofNat 1, .ofNat 1)]), [some (true, 19059), none])
theorem sg_wa3b_ok : sg_chk z9 ex_mt k9 60 tX6_wordOf 21 15 sg_wa3b [] [sg_wa3b_a] = true := by decide +kernel
def sg_wa3c : sg_Cu := (35, 0, [(0, .inr (some (false, 3))), (1, .inr (some (true, 19059)))], ([.inl 2, .inl 3, .inl 4, .inl 5, .inr 196613], [([(.ofNat 1, 0)], .ofNat 0, .ofNat 9), ([(.ofNat 1, 1)], .ofNat 0, .ofNat 3), ([(.ofNat 1, 2)], .ofNat 1, .ofNat 1), ([(.ofNat 1, 3)], .ofNat 0, .ofNat 2), ([(.ofNat 1, 4)], .negSucc 2147483647, .ofNat 2147483647), ([(.ofNat 1, 5)], .ofNat 32, .ofNat 32), ([(.ofNat 1, 1), (.negSucc 0, 4)], .ofNat 1, .ofNat 4611686018427387904)]), [none])
def sg_wa3c_a : sg_Cu := (23, 0, [(0, .inr (some (false, 3))), (1, .inr (some (true, 19059)))], ([.inl 2, .inl 3, .inl 4, .inl 5], [([(.ofNat 1, 3), (.negSucc 0, 9)], .negSucc 0, .negSucc 0), ([(.ofNat 1, 3), (.negSucc 0, 10)], .negSucc 0, .negSucc 0), ([(.ofNat 1, 0), (.negSucc 0, 6)], .negSucc 0, .negSucc 0), ([(.ofNat 1, 7)], .ofNat 0, .ofNat 0), ([(.ofNat 1, 8)], .ofNat 1, .ofNat 1)]), [some (true, 19059), none])
theorem sg_wa3c_ok : sg_chk z9 ex_mt k9 60 tX6_wordOf 21 15 sg_wa3c [] [sg_wa3c_a] = true := by decide +kernel
def sg_wa3d : sg_Cu := (35, 0, [(0, .inr (some (false, 3))), (1, .inr (some (true, 19059)))], ([.inl 2, .inl 3, .inl 4, .inl 5], [([(.ofNat 1, 0)], .ofNat 0, .ofNat 9), ([(.ofNat 1, 1)], .ofNat 0, .ofNat 3), ([(.ofNat 1, 2)], .ofNat 0, .ofNat 0), ([(.ofNat 1, 3)], .ofNat 0, .ofNat 2), ([(.ofNat 1, 4)], .ofNat 32, .ofNat 32)]), [none])
def sg_wa3d_a : sg_Cu := (23, 0, [(0, .inr (some (false, 3))), (1, .inr (some (true, 19059)))], ([.inl 2, .inl 3, .inl 4, .inl 5], [([(.ofNat 1, 3), (.negSucc 0, 8)], .negSucc 0, .negSucc 0), ([(.ofNat 1, 3), (.negSucc 0, 9)], .negSucc 0, .negSucc 0), ([(.ofNat 1, 0), (.negSucc 0, 5)], .negSucc 0, .negSucc 0), ([(.ofNat 1, 6)], .ofNat 0, .ofNat 0), ([(.ofNat 1, 7)], .ofNat 1, .ofNat 1)]), [some (true, 19059), none])
theorem sg_wa3d_ok : sg_chk z9 ex_mt k9 60 tX6_wordOf 17 15 sg_wa3d [] [sg_wa3d_a] = true := by decide +kernel
def sg_wa3e : sg_Cu := (35, 0, [(0, .inr (some (false, 3))), (1, .inr (some (true, 19059)))], ([.inl 2, .inl 3, .inl 4, .inl 5], [([(.ofNat 1, 0)], .ofNat 0, .ofNat 10), ([(.ofNat 1, 1)], .ofNat 0, .ofNat 2), ([(.ofNat 1, 2)], .ofNat 0, .ofNat 0), ([(.ofNat 1, 3)], .ofNat 0, .ofNat 2), ([(.ofNat 1, 4)], .ofNat 97, .ofNat 122)]), [none])
def sg_wa3e_a : sg_Cu := (23, 0, [(0, .inr (some (false, 3))), (1, .inr (some (true, 19059)))], ([.inl 2, .inl 3, .inl 4, .inl 5], [([(.ofNat 1, 3), (.negSucc 0, 8)], .negSucc 0, .negSucc 0), ([(.ofNat 1, 3), (.negSucc 0, 9)], .negSucc 0, .negSucc 0), ([(.ofNat 1, 0), (.negSucc 0, 5)], .ofNat 0, .ofNat 0), ([(.ofNat 1, 1), (.negSucc 0, 6)], .negSucc 0, .negSucc 0), ([(.ofNat 1, 7)], .ofNat 0, .ofNat 0)]), [some (true, 19059), none])
theorem sg_wa3e_ok : sg_chk z9 ex_mt k9 60 tX6_wordOf 16 15 sg_wa3e [] [sg_wa3e_a] = true := by decide +kernel
def sg_wa3f : sg_Cu := (35, 0, [(0, .inr (some (false, 3))), (1, .inr (some (true, 19059)))], ([.inl 2, .inl 3, .inl 4, .inl 5, .inr 196613], [([(.ofNat 1, 0)], .ofNat 0, .ofNat 10), ([(.ofNat 1, 1)], .ofNat 0, .ofNat 2), ([(.ofNat 1, 2)], .ofNat 1, .ofNat 1), ([(.ofNat 1, 3)], .ofNat 0, .ofNat 2), ([(.ofNat 1, 4)], .negSucc 2147483647, .ofNat 2147483647), ([(.ofNat 1, 5)], .ofNat 97, .ofNat 122), ([(.ofNat 1, 1), (.negSucc 0, 4)], .ofNat 0, .ofNat 4611686018427387904)]), [none])
def sg_wa3f_a : sg_Cu := (23, 0, [(0, .inr (some (false, 3))), (1, .inr (some (true, 19059)))], ([.inl 2, .inl 3, .inl 4, .inl 5], [([(.ofNat 1, 3), (.negSucc 0, 9)], .negSucc 0, .negSucc 0), ([(.ofNat 1, 3), (.negSucc 0, 10)], .negSucc 0, .negSucc 0), ([(.ofNat 1, 0), (.negSucc 0, 6)], .ofNat 0, .ofNat 0), ([(.ofNat 1, 1), (.negSucc 0, 7)], .negSucc 0, .negSucc 0), ([(.ofNat 1, 8)], .ofNat 0, .ofNat 0)]), [some (true, 19059), none])
theorem sg_wa3f_ok : sg_chk z9 ex_mt k9 60 tX6_wordOf 20 15 sg_wa3f [] [sg_wa3f_a] = true := by decide +kernel
def sg_wa3g : sg_Cu := (35, 0, [(0, .inr (some (false, 3))), (1, .inr (some (true, 19059)))], ([.inl 2, .inl 3, .inl 4, .inl 5, .inr 196613, .inr 196612], [([(.ofNat 1, 0)], .ofNat 0, .ofNat 10), ([(.ofNat 1, 1)], .ofNat 0, .ofNat 2), ([(.ofNat 1, 2)], .ofNat 1, .ofNat 1), ([(.ofNat 1, 3)], .ofNat 0, .ofNat 2), ([(.ofNat 1, 4)], .negSucc 2147483647, .ofNat 2147483647), ([(.ofNat 1, 5)], .ofNat 0, .ofNat 940), ([(.ofNat 1, 6)], .ofNat 97, .ofNat 122), ([(.ofNat 1, 1), (.negSucc 0, 4)], .negSucc 4611686018427387903, .negSucc 0)]), [none])
def sg_wa3g_a : sg_Cu := (67, 0, [(0, .inr (some (false, 3))), (1, .inr (some (true, 19059)))], ([.inl 2, .inl 3, .inl 4, .inl 5, .inl 6], [([(.ofNat 1, 1), (.ofNat 1, 5), (.negSucc 0, 12)], .ofNat 0, .ofNat 0), ([(.ofNat 1, 3), (.negSucc 0, 10)], .ofNat 0, .ofNat 0), ([(.ofNat 1, 6), (.negSucc 0, 11)], .ofNat 0, .ofNat 0), ([(.ofNat 1, 0), (.negSucc 0, 7)], .ofNat 0, .ofNat 0), ([(.ofNat 1, 1), (.negSucc 0, 8)], .ofNat 0, .ofNat 0), ([(.ofNat 1, 2), (.negSucc 0, 9)], .ofNat 0, .ofNat 0)]), [none, some (false, 1)])
theorem sg_wa3g_ok : sg_chk z9 ex_mt k9 60 tX6_wordOf 18 15 sg_wa3g [] [sg_wa3g_a] = true := by decide +kernel
def sg_wa4a : sg_Cu := (70, 0, [(0, .inr (some (false, 3))), (1, .inr (some (true, 19059)))], ([.inl 2, .inl 3, .inl 4, .inl 5, .inl 6], [([(.ofNat 1, 0)], .ofNat 0, .ofNat 10), ([(.ofNat 1, 1)], .ofNat 0, .ofNat 2), ([(.ofNat 1, 2)], .ofNat 0, .ofNat 1), ([(.ofNat 1, 3)], .ofNat 0, .ofNat 2), ([(.ofNat 1, 4)], .negSucc 2147483647, .ofNat 2147483647), ([(.ofNat 1, 5)], .negSucc 2147483647, .ofNat 2147483647), ([(.ofNat 1, 4), (.negSucc 0, 5)], .ofNat 1, .ofNat 4611686018427387904)]), [none])
def sg_wa4a_a : sg_Cu := (23, 0, [(0, .inr (some (false, 3))), (1, .inr (some (true, 19059)))], ([.inl 2, .inl 3, .inl 4, .inl 5], [([(.ofNat 1, 3), (.negSucc 0, 9)], .negSucc 0, .negSucc 0), ([(.ofNat 1, 3), (.negSucc 0, 10)], .negSucc 0, .negSucc 0), ([(.ofNat 1, 0), (.negSucc 0, 6)], .ofNat 0, .ofNat 0), ([(.ofNat 1, 1), (.negSucc 0, 7)], .negSucc 0, .negSucc 0), ([(.ofNat 1, 8)], .ofNat 0, .ofNat 0)]), [some (true, 19059), none])
theorem sg_wa4a_ok : sg_chk z9 ex_mt k9 60 tX6_wordOf 12 15 sg_wa4a [] [sg_wa4a_a] = true := by decide +kernel
def sg_wa4b : sg_Cu := (70, 0, [(0, .inr (some (false, 3))), (1, .inr (some (true, 19059)))], ([.inl 2, .inl 3, .inl 4, .inl 5, .inl 6], [([(.ofNat 1, 0)], .ofNat 0, .ofNat 10), ([(.ofNat 1, 1)], .ofNat 0, .ofNat 2), ([(.ofNat 1, 2)], .ofNat 0, .ofNat 1), ([(.ofNat 1, 3)], .ofNat 0, .ofNat 2), ([(.ofNat 1, 4)], .negSucc 2147483647, .ofNat 2147483647), ([(.ofNat 1, 5)], .negSucc 2147483647, .ofNat 2147483647), ([(.ofNat 1, 4), (.negSucc 0, 5)], .ofNat 0, .ofNat 0)]), [none])
def sg_wa4b_a : sg_Cu := (23, 0, [(0, .inr (some (false, 3))), (1, .inr (some (true, 19059)))], ([.inl 2, .inl 3, .inl 4, .inl 5], [([(.ofNat 1, 3), (.negSucc 0, 9)], .negSucc 0, .negSucc 0), ([(.ofNat 1, 3), (.negSucc 0, 10)], .negSucc 0, .negSucc 0), ([(.ofNat 1, 0), (.negSucc 0, 6)], .ofNat 0, .ofNat 0), ([(.ofNat 1, 1), (.negSucc 0, 7)], .negSucc 0, .negSucc 0), ([(.ofNat 1, 8)], .ofNat 1, .ofNat 1)]), [some (true, 19059), none])
theorem sg_wa4b_ok : sg_chk z9 ex_mt k9 60 tX6_wordOf 13 15 sg_wa4b [] [sg_wa4b_a] = true := by decide +kernel
def sg_wa4c : sg_Cu := (70, 0, [(0, .inr (some (false, 3))), (1, .inr (some (true, 19059)))], ([.inl 2, .inl 3, .inl 4, .inl 5, .inl 6], [([(.ofNat 1, 0)], .ofNat 0, .ofNat 10), ([(.ofNat 1, 1)], .ofNat 0, .ofNat 2), ([(.ofNat 1, 2)], .ofNat 0, .ofNat 1), ([(.ofNat 1, 3)], .ofNat 0, .ofNat 2), ([(.ofNat 1, 4)], .negSucc 2147483647, .ofNat 2147483647), ([(.ofNat 1, 5)], .negSucc 2147483647, .ofNat 2147483647), ([(.ofNat 1, 4), (.negSucc 0, 5)], .negSucc 4611686018427387903, .negSucc 0)]), [none])
def sg_wa4c_a : sg_Cu := (23, 0, [(0, .inr (some (false, 3))), (1, .inr (some (true, 19059)))], ([.inl 2, .inl 3, .inl 4, .inl 5], [([(.ofNat 1, 3), (.negSucc 0, 9)], .negSucc 0, .negSucc 0), ([(.ofNat 1, 3), (.negSucc 0, 10)], .negSucc 0, .negSucc 0), ([(.ofNat 1, 0), (.negSucc 0, 6)], .ofNat 0, .ofNat 0), ([(.ofNat 1, 1), (.negSucc 0, 7)], .negSucc 0, .negSucc 0), ([(.ofNat 1, 8)], .ofNat 0, .ofNat 0)]), [some (true, 19059), none])
theorem sg_wa4c_ok : sg_chk z9 ex_mt k9 60 tX6_wordOf 12 15 sg_wa4c [] [sg_wa4c_a] = true := by decide +kernel
def sg_wr1a : sg_Cu := (0, 0, [(0, .inr (some (false, 3))), (1, .inr (some (true, 19072)))], ([.inr 196611], [([(.ofNat 1, 0)], .negSucc 2147483647, .ofNat 1)]), [])
def sg_wr1a_p0 : sx_Po := (0, true, [], [([(.ofNat 1, 1)], .negSucc 0, .negSucc 0)])
theorem sg_wr1a_ok : sg_chk z9 ex_mt k9 60 tX6_wordOf 7 15 sg_wr1a [sg_wr1a_p0] [] = true := by decide +kernel
def sg_wr1b : sg_Cu := (0, 0, [(0, .inr (some (false, 3))), (1, .inr (some (true, 19072)))], ([.inr 196611], [([(.ofNat 1, 0)], .ofNat 3, .ofNat 2147483647)]), [])
def sg_wr1b_p0 : sx_Po := (0, true, [], [([(.ofNat 1, 1)], .negSucc 0, .negSucc 0)])
theorem sg_wr1b_ok : sg_chk z9 ex_mt k9 60 tX6_wordOf 7 15 sg_wr1b [sg_wr1b_p0] [] = true := by decide +kernel
def sg_wr1c : sg_Cu := (0, 0, [(0, .inr (some (false, 3))), (1, .inr (some (true, 19072)))], ([.inr 196611], [([(.ofNat 1, 0)], .ofNat 2, .ofNat 2)]), [])
def sg_wr1c_a : sg_Cu := (23, 0, [(0, .inr (some (false, 3))), (1, .inr (some (true, 19072)))], ([.inl 2, .inl 3, .inl 4, .inl 5], [([(.ofNat 1, 1)], .ofNat 0, .ofNat 0), ([(.ofNat 1, 2)], .ofNat 0, .ofNat 0), ([(.ofNat 1, 3)], .ofNat 1, .ofNat 1), ([(.ofNat 1, 4)], .ofNat 0, .ofNat 0), ([(.ofNat 1, 5)], .ofNat 0, .ofNat 0)]), [some (true, 19072), none])
theorem sg_wr1c_ok : sg_chk z9 ex_mt k9 60 tX6_wordOf 16 15 sg_wr1c [] [sg_wr1c_a] = true := by decide +kernel
def sg_wr2a : sg_Cu := (26, 0, [(0, .inr (some (false, 3))), (1, .inr (some (true, 19072)))], ([.inl 2, .inl 3, .inl 4, .inl 5], [([(.ofNat 1, 0)], .ofNat 0, .ofNat 10), ([(.ofNat 1, 1)], .ofNat 0, .ofNat 2), ([(.ofNat 1, 2)], .ofNat 0, .ofNat 1), ([(.ofNat 1, 3)], .ofNat 0, .ofNat 1), ([(.ofNat 1, 4)], .ofNat 2, .ofNat 2), ([(.ofNat 1, 5)], .ofNat 0, .ofNat 1), ([(.ofNat 1, 3), (.negSucc 0, 5)], .ofNat 0, .ofNat 0)]), [none, none])
def sg_wr2a_a : sg_Cu := (32, 0, [(0, .inr (some (false, 3))), (1, .inr (some (true, 19072)))], ([.inl 2, .inl 3, .inl 4, .inl 5], [([(.ofNat 1, 3), (.negSucc 0, 10)], .ofNat 0, .ofNat 0), ([(.ofNat 1, 3), (.negSucc 0, 9)], .ofNat 0, .ofNat 0), ([(.ofNat 1, 0), (.negSucc 0, 6)], .ofNat 0, .ofNat 0), ([(.ofNat 1, 1), (.negSucc 0, 7)], .ofNat 0, .ofNat 0), ([(.ofNat 1, 2), (.negSucc 0, 8)], .ofNat 0, .ofNat 0)]), [none, some (true, 19072)])
theorem sg_wr2a_ok : sg_chk z9 ex_mt k9 60 tX6_wordOf 5 15 sg_wr2a [] [sg_wr2a_a] = true := by decide +kernel
def sg_wr2b : sg_Cu := (26, 0, [(0, .inr (some (false, 3))), (1, .inr (some (true, 19072)))], ([.inl 2, .inl 3, .inl 4, .inl 5], [([(.ofNat 1, 0)], .ofNat 0, .ofNat 10), ([(.ofNat 1, 1)], .ofNat 0, .ofNat 2), ([(.ofNat 1, 2)], .ofNat 0, .ofNat 0), ([(.ofNat 1, 3)], .ofNat 0, .ofNat 2), ([(.ofNat 1, 4)], .ofNat 2, .ofNat 2), ([(.ofNat 1, 5)], .ofNat 2, .ofNat 2)]), [none, none])
def sg_wr2b_p0 : sx_Po := (0, true, [], [([(.ofNat 1, 6)], .negSucc 0, .negSucc 0)])
theorem sg_wr2b_ok : sg_chk z9 ex_mt k9 60 tX6_wordOf 6 15 sg_wr2b [sg_wr2b_p0] [] = true := by decide +kernel
def sg_wr2c : sg_Cu := (26, 0, [(0, .inr (some (false, 3))), (1, .inr (some (true, 19072)))], ([.inl 2, .inl 3, .inl 4, .inl 5, .inr 196613], [([(.ofNat 1, 0)], .ofNat 0, .ofNat 10), ([(.ofNat 1, 1)], .ofNat 0, .ofNat 2), ([(.ofNat 1, 2)], .ofNat 1, .ofNat 1), ([(.ofNat 1, 3)], .ofNat 0, .ofNat 2), ([(.ofNat 1, 4)], .negSucc 2147483647, .ofNat 2147483647), ([(.ofNat 1, 5)], .ofNat 2, .ofNat 2), ([(.ofNat 1, 6)], .ofNat 2, .ofNat 2), ([(.ofNat 1, 1), (.negSucc 0, 4)], .negSucc 4611686018427387903, .negSucc 0)]), [none, none])
def sg_wr2c_p0 : sx_Po := (0, true, [], [([(.ofNat 1, 7)], .negSucc 0, .negSucc 0)])
theorem sg_wr2c_ok : sg_chk z9 ex_mt k9 60 tX6_wordOf 10 15 sg_wr2c [sg_wr2c_p0] [] = true := by decide +kernel
def sg_wr2d : sg_Cu := (26, 0, [(0, .inr (some (false, 3))), (1, .inr (some (true, 19072)))], ([.inl 2, .inl 3, .inl 4, .inl 5, .inr 196613], [([(.ofNat 1, 0)], .ofNat 0, .ofNat 10), ([(.ofNat 1, 1)], .ofNat 0, .ofNat 2), ([(.ofNat 1, 2)], .ofNat 1, .ofNat 1), ([(.ofNat 1, 3)], .ofNat 0, .ofNat 2), ([(.ofNat 1, 4)], .negSucc 2147483647, .ofNat 2147483647), ([(.ofNat 1, 5)], .ofNat 2, .ofNat 2), ([(.ofNat 1, 6)], .ofNat 2, .ofNat 2), ([(.ofNat 1, 1), (.negSucc 0, 4)], .ofNat 1, .ofNat 4611686018427387904)]), [none, none])
def sg_wr2d_p0 : sx_Po := (0, true, [], [([(.ofNat 1, 7)], .negSucc 0, .negSucc 0)])
theorem sg_wr2d_ok : sg_chk z9 ex_mt k9 60 tX6_wordOf 10 15 sg_wr2d [sg_wr2d_p0] [] = true := by decide +kernel
def sg_wr2e : sg_Cu := (26, 0, [(0, .inr (some (false, 3))), (1, .inr (some (true, 19072)))], ([.inl 2, .inl 3, .inl 4, .inl 5, .inr 196613], [([(.ofNat 1, 0)], .ofNat 0, .ofNat 10), ([(.ofNat 1, 1)], .ofNat 0, .ofNat 2), ([(.ofNat 1, 2)], .ofNat 1, .ofNat 1), ([(.ofNat 1, 3)], .ofNat 0, .ofNat 2), ([(.ofNat 1, 4)], .negSucc 2147483647, .ofNat 2147483647), ([(.ofNat 1, 5)], .ofNat 2, .ofNat 2), ([(.ofNat 1, 6)], .ofNat 2, .ofNat 2), ([(.ofNat 1, 1), (.negSucc 0, 4)], .ofNat 0, .ofNat 0)]), [none, none])
def sg_wr2e_p0 : sx_Po := (0, true, [], [([(.ofNat 1, 0), (.negSucc 0, 7)], .ofNat 0, .ofNat 0)])
theorem sg_wr2e_ok : sg_chk z9 ex_mt k9 60 tX6_wordOf 11 15 sg_wr2e [sg_wr2e_p0] [] = true := by decide +kernel
def sg_wr3a : sg_Cu := (35, 0, [(0, .inr (some (false, 3))), (1, .inr (some (true, 19072)))], ([.inl 2, .inl 3, .inl 4, .inl 5, .inr 196613], [([(.ofNat 1, 0)], .ofNat 0, .ofNat 10), ([(.ofNat 1, 1)], .ofNat 0, .ofNat 2), ([(.ofNat 1, 2)], .ofNat 1, .ofNat 1), ([(.ofNat 1, 3)], .ofNat 0, .ofNat 2), ([(.ofNat 1, 4)], .negSucc 2147483647, .ofNat 2147483647), ([(.ofNat 1, 5)], .ofNat 32, .ofNat 32), ([(.ofNat 1, 1), (.negSucc 0, 4)], .ofNat 0, .ofNat 0)]), [none])
def sg_wr3a_p0 : sx_Po := (0, true, [], [([(.ofNat 1, 0), (.negSucc 0, 6)], .ofNat 0, .ofNat 0)])
theorem sg_wr3a_ok : sg_chk z9 ex_mt k9 60 tX6_wordOf 13 15 sg_wr3a [sg_wr3a_p0] [] = true := by decide +kernel
def sg_wr3b : sg_Cu := (35, 0, [(0, .inr (some (false, 3))), (1, .inr (some (true, 19072)))], ([.inl 2, .inl 3, .inl 4, .inl 5, .inr 196613], [([(.ofNat 1, 0)], .ofNat 0, .ofNat 9), ([(.ofNat 1, 1)], .ofNat 0, .ofNat 2), ([(.ofNat 1, 2)], .ofNat 1, .ofNat 1), ([(.ofNat 1, 3)], .ofNat 0, .ofNat 1), ([(.ofNat 1, 4)], .negSucc 2147483647, .ofNat 2147483647), ([(.ofNat 1, 5)], .ofNat 32, .ofNat 32), ([(.ofNat 1, 1), (.negSucc 0, 4)], .negSucc 4611686018427387903, .negSucc 0)]), [none])
def sg_wr3b_a : sg_Cu := (23, 0, [(0, .inr (some (false, 3))), (1, .inr (some (true, 19072)))], ([.inl 2, .inl 3, .inl 4, .inl 5], [([(.ofNat 1, 3), (.negSucc 0, 9)], .negSucc 0, .negSucc 0), ([(.ofNat 1, 3), (.negSucc 0, 10)], .negSucc 0, .negSucc 0), ([(.ofNat 1, 0), (.negSucc 0, 6)], .negSucc 0, .negSucc 0), ([(.ofNat 1, 7)], .ofNat 0, .ofNat 0), ([(.ofNat 1, 8)], .ofNat 1, .ofNat 1)]), [some (true, 19072), none])
theorem sg_wr3b_ok : sg_chk z9 ex_mt k9 60 tX6_wordOf 21 15 sg_wr3b [] [sg_wr3b_a] = true := by decide +kernel
def sg_wr3c : sg_Cu := (35, 0, [(0, .inr (some (false, 3))), (1, .inr (some (true, 19072)))], ([.inl 2, .inl 3, .inl 4, .inl 5, .inr 196613], [([(.ofNat 1, 0)], .ofNat 0, .ofNat 9), ([(.ofNat 1, 1)], .ofNat 0, .ofNat 2), ([(.ofNat 1, 2)], .ofNat 1, .ofNat 1), ([(.ofNat 1, 3)], .ofNat 0, .ofNat 1), ([(.ofNat 1, 4)], .negSucc 2147483647, .ofNat 2147483647), ([(.ofNat 1, 5)], .ofNat 32, .ofNat 32), ([(.ofNat 1, 1), (.negSucc 0, 4)], .ofNat 1, .ofNat 4611686018427387904)]), [none])
def sg_wr3c_a : sg_Cu := (23, 0, [(0, .inr (some (false, 3))), (1, .inr (some (true, 19072)))], ([.inl 2, .inl 3, .inl 4, .inl 5], [([(.ofNat 1, 3), (.negSucc 0, 9)], .negSucc 0, .negSucc 0), ([(.ofNat 1, 3), (.negSucc 0, 10)], .negSucc 0, .negSucc 0), ([(.ofNat 1, 0), (.negSucc 0, 6)], .negSucc 0, .negSucc 0), ([(.ofNat 1, 7)], .ofNat 0, .ofNat 0), ([(.ofNat 1, 8)], .ofNat 1, .ofNat 1)]), [some (true, 19072), none])
theorem sg_wr3c_ok : sg_chk z9 ex_mt k9 60 tX6_wordOf 21 15 sg_wr3c [] [sg_wr3c_a] = true := by decide +kernel
def sg_wr3d : sg_Cu := (35, 0, [(0, .inr (some (false, 3))), (1, .inr (some (true, 19072)))], ([.inl 2, .inl 3, .inl 4, .inl 5], [([(.ofNat 1, 0)], .ofNat 0, .ofNat 9), ([(.ofNat 1, 1)], .ofNat 0, .ofNat 2), ([(.ofNat 1, 2)], .ofNat 0, .ofNat 0), ([(.ofNat 1, 3)], .ofNat 0, .ofNat 1), ([(.ofNat 1, 4)], .ofNat 32, .ofNat 32)]), [none])
def sg_wr3d_a : sg_Cu := (23, 0, [(0, .inr (some (false, 3))), (1, .inr (some (true, 19072)))], ([.inl 2, .inl 3, .inl 4, .inl 5], [([(.ofNat 1, 3), (.negSucc 0, 8)], .negSucc 0, .negSucc 0), ([(.ofNat 1, 3), (.negSucc 0, 9)], .negSucc 0, .negSucc 0), ([(.ofNat 1, 0), (.negSucc 0, 5)], .negSucc 0, .negSucc 0), ([(.ofNat 1, 6)], .ofNat 0, .ofNat 0), ([(.ofNat 1, 7)], .ofNat 1, .ofNat 1)]), [some (true, 19072), none])
theorem sg_wr3d_ok : sg_chk z9 ex_mt k9 60 tX6_wordOf 17 15 sg_wr3d [] [sg_wr3d_a] = true := by decide +kernel
def sg_wr3e : sg_Cu := (35, 0, [(0, .inr (some (false, 3))), (1, .inr (some (true, 19072)))], ([.inl 2, .inl 3, .inl 4, .inl 5], [([(.ofNat 1, 0)], .ofNat 0, .ofNat 10), ([(.ofNat 1, 1)], .ofNat 0, .ofNat 1), ([(.ofNat 1, 2)], .ofNat 0, .ofNat 0), ([(.ofNat 1, 3)], .ofNat 0, .ofNat 1), ([(.ofNat 1, 4)], .ofNat 97, .ofNat 122)]), [none])
def sg_wr3e_a : sg_Cu := (23, 0, [(0, .inr (some (false, 3))), (1, .inr (some (true, 19072)))], ([.inl 2, .inl 3, .inl 4, .inl 5], [([(.ofNat 1, 3), (.negSucc 0, 8)], .negSucc 0, .negSucc 0), ([(.ofNat 1, 3), (.negSucc 0, 9)], .negSucc 0, .negSucc 0), ([(.ofNat 1, 0), (.negSucc 0, 5)], .ofNat 0, .ofNat 0), ([(.ofNat 1, 1), (.negSucc 0, 6)], .negSucc 0, .negSucc 0), ([(.ofNat 1, 7)], .ofNat 0, .ofNat 0)]), [some (true, 19072), none])
theorem sg_wr3e_ok : sg_chk z9 ex_mt k9 60 tX6_wordOf 16 15 sg_wr3e [] [sg_wr3e_a] = true := by decide +kernel
def sg_wr3f : sg_Cu := (35, 0, [(0, .inr (some (false, 3))), (1, .inr (some (true, 19072)))], ([.inl 2, .inl 3, .inl 4, .inl 5, .inr 196613], [([(.ofNat 1, 0)], .ofNat 0, .ofNat 10), ([(.ofNat 1, 1)], .ofNat 0, .ofNat 1), ([(.ofNat 1, 2)], .ofNat 1, .ofNat 1), ([(.ofNat 1, 3)], .ofNat 0, .ofNat 1), ([(.ofNat 1, 4)], .negSucc 2147483647, .ofNat 2147483647), ([(.ofNat 1, 5)], .ofNat 97, .ofNat 122), ([(.ofNat 1, 1), (.negSucc 0, 4)], .ofNat 0, .ofNat 4611686018427387904)]), [none])
def sg_wr3f_a : sg_Cu := (23, 0, [(0, .inr (some (false, 3))), (1, .inr (some (true, 19072)))], ([.inl 2, .inl 3, .inl 4, .inl 5], [([(.ofNat 1, 3), (.negSucc 0, 9)], .negSucc 0, .negSucc 0), ([(.ofNat 1, 3), (.negSucc 0, 10)], .negSucc 0, .negSucc 0), ([(.ofNat 1, 0), (.negSucc 0, 6)], .ofNat 0, .ofNat 0), ([(.ofNat 1, 1), (.negSucc 0, 7)], .negSucc 0, .negSucc 0), ([(.ofNat 1, 8)], .ofNat 0, .ofNat 0)]), [some (true, 19072), none])
theorem sg_wr3f_ok : sg_chk z9 ex_mt k9 60 tX6_wordOf 20 15 sg_wr3f [] [sg_wr3f_a] = true := by decide +kernel
def sg_wr3g : sg_Cu := (35, 0, [(0, .inr (some (false, 3))), (1, .inr (some (true, 19072)))], ([.inl 2, .inl 3, .inl 4, .inl 5, .inr 196613, .inr 196612], [([(.ofNat 1, 0)], .ofNat 0, .ofNat 10), ([(.ofNat 1, 1)], .ofNat 0, .ofNat 1), ([(.ofNat 1, 2)], .ofNat 1, .ofNat 1), ([(.ofNat 1, 3)], .ofNat 0, .ofNat 1), ([(.ofNat 1, 4)], .negSucc 2147483647, .ofNat 2147483647), ([(.ofNat 1, 5)], .ofNat 0, .ofNat 940), ([(.ofNat 1, 6)], .ofNat 97, .ofNat 122), ([(.ofNat 1, 1), (.negSucc 0, 4)], .negSucc 4611686018427387903, .negSucc 0)]), [none])
def sg_wr3g_a : sg_Cu := (67, 0, [(0, .inr (some (false, 3))), (1, .inr (some (true, 19072)))], ([.inl 2, .inl 3, .inl 4, .inl 5, .inl 6], [([(.ofNat 1, 1), (.ofNat 1, 5), (.negSucc 0, 12)], .ofNat 0, .ofNat 0), ([(.ofNat 1, 3), (.negSucc 0, 10)], .ofNat 0, .ofNat 0), ([(.ofNat 1, 6), (.negSucc 0, 11)], .ofNat 0, .ofNat 0), ([(.ofNat 1, 0), (.negSucc 0, 7)], .ofNat 0, .ofNat 0), ([(.ofNat 1, 1), (.negSucc 0, 8)], .ofNat 0, .ofNat 0), ([(.ofNat 1, 2), (.negSucc 0, 9)], .ofNat 0, .ofNat 0)]), [none, some (false, 1)])
theorem sg_wr3g_ok : sg_chk z9 ex_mt k9 60 tX6_wordOf 18 15 sg_wr3g [] [sg_wr3g_a] = true := by decide +kernel
def sg_wr4a : sg_Cu := (70, 0, [(0, .inr (some (false, 3))), (1, .inr (some (true, 19072)))], ([.inl 2, .inl 3, .inl 4, .inl 5, .inl 6], [([(.ofNat 1, 0)], .ofNat 0, .ofNat 10), ([(.ofNat 1, 1)], .ofNat 0, .ofNat 1), ([(.ofNat 1, 2)], .ofNat 0, .ofNat 1), ([(.ofNat 1, 3)], .ofNat 0, .ofNat 1), ([(.ofNat 1, 4)], .negSucc 2147483647, .ofNat 2147483647), ([(.ofNat 1, 5)], .negSucc 2147483647, .ofNat 2147483647), ([(.ofNat 1, 4), (.negSucc 0, 5)], .ofNat 1, .ofNat 4611686018427387904)]), [none])
def sg_wr4a_a : sg_Cu := (23, 0, [(0, .inr (some (false, 3))), (1, .inr (some (true, 19072)))], ([.inl 2, .inl 3, .inl 4, .inl 5], [([(.ofNat 1, 3), (.negSucc 0, 9)], .negSucc 0, .negSucc 0), ([(.ofNat 1, 3), (.negSucc 0, 10)], .negSucc 0, .negSucc 0), ([(.ofNat 1, 0), (.negSucc 0, 6)], .ofNat 0, .ofNat 0), ([(.ofNat 1, 1), (.negSucc 0, 7)], .negSucc 0, .negSucc 0), ([(.ofNat 1, 8)], .ofNat 0, .ofNat 0)]), [some (true, 19072), none])
theorem sg_wr4a_ok : sg_chk z9 ex_mt k9 60 tX6_wordOf 12 15 sg_wr4a [] [sg_wr4a_a] = true := by decide +kernel
def sg_wr4b : sg_Cu := (70, 0, [(0, .inr (some (false, 3))), (1, .inr (some (true, 19072)))], ([.inl 2, .inl 3, .inl 4, .inl 5, .inl 6], [([(.ofNat 1, 0)], .ofNat 0, .ofNat 10), ([(.ofNat 1, 1)], .ofNat 0, .ofNat 1), ([(.ofNat 1, 2)], .ofNat 0, .ofNat 1), ([(.ofNat 1, 3)], .ofNat 0, .ofNat 1), ([(.ofNat 1, 4)], .negSucc 2147483647, .ofNat 2147483647), ([(.ofNat 1, 5)], .negSucc 2147483647, .ofNat 2147483647), ([(.ofNat 1, 4), (.negSucc 0, 5)], .ofNat 0, .ofNat 0)]), [none])
def sg_wr4b_a : sg_Cu := (23, 0, [(0, .inr (some (false, 3))), (1, .inr (some (true, 19072)))], ([.inl 2, .inl 3, .inl 4, .inl 5], [([(.ofNat 1, 3), (.negSucc 0, 9)], .negSucc 0, .negSucc 0), ([(.ofNat 1, 3), (.negSucc 0, 10)], .negSucc 0, .negSucc 0), ([(.ofNat 1, 0), (.negSucc 0, 6)], .ofNat 0, .ofNat 0), ([(.ofNat 1, 1), (.negSucc 0, 7)], .negSucc 0, .negSucc 0), ([(.ofNat 1, 8)], .ofNat 1, .ofNat 1)]), [some (true, 19072), none])
theorem sg_wr4b_ok : sg_chk z9 ex_mt k9 60 tX6_wordOf 13 15 sg_wr4b [] [sg_wr4b_a] = true := by decide +kernel
def sg_wr4c : sg_Cu := (70, 0, [(0, .inr (some (false, 3))), (1, .inr (some (true, 19072)))], ([.inl 2, .inl 3, .inl 4, .inl 5, .inl 6], [([(.ofNat 1, 0)], .ofNat 0, .ofNat 10), ([(.ofNat 1, 1)], .ofNat 0, .ofNat 1), ([(.ofNat 1, 2)], .ofNat 0, .ofNat 1), ([(.ofNat 1, 3)], .ofNat 0, .ofNat 1), ([(.ofNat 1, 4)], .negSucc 2147483647, .ofNat 2147483647), ([(.ofNat 1, 5)], .negSucc 2147483647, .ofNat 2147483647), ([(.ofNat 1, 4), (.negSucc 0, 5)], .negSucc 4611686018427387903, .negSucc 0)]), [none])
def sg_wr4c_a : sg_Cu := (23, 0, [(0, .inr (some (false, 3))), (1, .inr (some (true, 19072)))], ([.inl 2, .inl 3, .inl 4, .inl 5], [([(.ofNat 1, 3), (.negSucc 0, 9)], .negSucc 0, .negSucc 0), ([(.ofNat 1, 3), (.negSucc 0, 10)], .negSucc 0, .negSucc 0), ([(.ofNat 1, 0), (.negSucc 0, 6)], .ofNat 0, .ofNat 0), ([(.ofNat 1, 1), (.negSucc 0, 7)], .negSucc 0, .negSucc 0), ([(.ofNat 1, 8)], .ofNat 0, .ofNat 0)]), [some (true, 19072), none])
theorem sg_wr4c_ok : sg_chk z9 ex_mt k9 60 tX6_wordOf 12 15 sg_wr4c [] [sg_wr4c_a] = true := by decide +kernel
section HR
variable {g : am_C} {L : Nat} {xs : Nat → Int32}
theorem sg_wn1a_run (G : sx_G0 g L xs z9 hd_C ex_mt) (hct : ∀ (mi : Nat) (T2 : ex_T) (c' : sx_Ct), ex_mt mi = some T2 → c' ∈ k9 mi → c'.1 < 60 → sx_Holds g z9 hd_C T2 c') {σ : am_S} {lw : List (Nat × Value)} {post : Option (Option Value) → am_S → Prop} (hM : sx_M z9 hd_C σ 0 0 σ) (hl : (0, Value.ref 3) ∈ lw) (hlr1 : (1, Value.retAddr 19078) ∈ lw) (bp3_3 : (-2147483648) ≤ (σ.2.1 3 3).toInt ∧ (σ.2.1 3 3).toInt ≤ 1) (ret0 : ∀ (r : Int32) (σ' : am_S), ((-1) ≤ 1 * r.toInt + 0 ∧ 1 * r.toInt + 0 ≤ (-1)) → sx_M z9 hd_C σ 0 0 σ' → post (some (some (.int r))) σ') : am_K g 15 tX6_wordOf.1 0 0 0 lw [] σ post := by
  refine sg_seg (sw := []) (vs := [(σ.2.1 3 3).toInt]) (ws := []) G (mi := 252) rfl hct sg_wn1a_ok ⟨rfl, trivial⟩ (hd_rfc hl (hd_rfcx hlr1 hd_rfn)) trivial (hd_p1 rfl bp3_3.1 bp3_3.2 hd_p0) hM ?_ ?_
  · intro r σ' hq
    cases r with
    | none => exact hq.elim
    | some v =>
      obtain ⟨p, hp, hM2, ks, hk, hv⟩ := hq
      simp only [List.mem_cons, List.not_mem_nil, or_false] at hp
      rcases hp with rfl
      · obtain rfl := hd_keys hk
        cases v with
        | none => exact hv.elim
        | some w9 =>
          obtain ⟨r, rfl, hP⟩ := hv
          obtain ⟨v0, e0, l0, u0⟩ := hP _ (List.mem_cons_self)
          have g0 : 1 * r.toInt + 0 = v0 := Option.some.inj e0
          exact ret0 r _ ⟨by rw [g0]; exact l0, by rw [g0]; exact u0⟩ hM2
  · intro u hu
    cases hu
theorem sg_wn1b_run (G : sx_G0 g L xs z9 hd_C ex_mt) (hct : ∀ (mi : Nat) (T2 : ex_T) (c' : sx_Ct), ex_mt mi = some T2 → c' ∈ k9 mi → c'.1 < 60 → sx_Holds g z9 hd_C T2 c') {σ : am_S} {lw : List (Nat × Value)} {post : Option (Option Value) → am_S → Prop} (hM : sx_M z9 hd_C σ 0 0 σ) (hl : (0, Value.ref 3) ∈ lw) (hlr1 : (1, Value.retAddr 19078) ∈ lw) (bp3_3 : 3 ≤ (σ.2.1 3 3).toInt ∧ (σ.2.1 3 3).toInt ≤ 2147483647) (ret0 : ∀ (r : Int32) (σ' : am_S), ((-1) ≤ 1 * r.toInt + 0 ∧ 1 * r.toInt + 0 ≤ (-1)) → sx_M z9 hd_C σ 0 0 σ' → post (some (some (.int r))) σ') : am_K g 15 tX6_wordOf.1 0 0 0 lw [] σ post := by
  refine sg_seg (sw := []) (vs := [(σ.2.1 3 3).toInt]) (ws := []) G (mi := 252) rfl hct sg_wn1b_ok ⟨rfl, trivial⟩ (hd_rfc hl (hd_rfcx hlr1 hd_rfn)) trivial (hd_p1 rfl bp3_3.1 bp3_3.2 hd_p0) hM ?_ ?_
  · intro r σ' hq
    cases r with
    | none => exact hq.elim
    | some v =>
      obtain ⟨p, hp, hM2, ks, hk, hv⟩ := hq
      simp only [List.mem_cons, List.not_mem_nil, or_false] at hp
      rcases hp with rfl
      · obtain rfl := hd_keys hk
        cases v with
        | none => exact hv.elim
        | some w9 =>
          obtain ⟨r, rfl, hP⟩ := hv
          obtain ⟨v0, e0, l0, u0⟩ := hP _ (List.mem_cons_self)
          have g0 : 1 * r.toInt + 0 = v0 := Option.some.inj e0
          exact ret0 r _ ⟨by rw [g0]; exact l0, by rw [g0]; exact u0⟩ hM2
  · intro u hu
    cases hu
theorem sg_wn1c_run (G : sx_G0 g L xs z9 hd_C ex_mt) (hct : ∀ (mi : Nat) (T2 : ex_T) (c' : sx_Ct), ex_mt mi = some T2 → c' ∈ k9 mi → c'.1 < 60 → sx_Holds g z9 hd_C T2 c') {σ : am_S} {lw : List (Nat × Value)} {post : Option (Option Value) → am_S → Prop} (hM : sx_M z9 hd_C σ 0 0 σ) (hl : (0, Value.ref 3) ∈ lw) (hlr1 : (1, Value.retAddr 19078) ∈ lw) (bp3_3 : 2 ≤ (σ.2.1 3 3).toInt ∧ (σ.2.1 3 3).toInt ≤ 2) (cuta : ∀ (lw' : List (Nat × Value)) (m2' : Int32) (m3' : Int32) (m4' : Int32) (m5' : Int32) (n0' : Int32) (σ' : am_S), (0, Value.ref 3) ∈ lw' → (1, Value.retAddr 19078) ∈ lw' → (2, Value.int m2') ∈ lw' → (3, Value.int m3') ∈ lw' → (4, Value.int m4') ∈ lw' → (5, Value.int m5') ∈ lw' → (0 ≤ 1 * m2'.toInt + 0 ∧ 1 * m2'.toInt + 0 ≤ 0) → (0 ≤ 1 * m3'.toInt + 0 ∧ 1 * m3'.toInt + 0 ≤ 0) → (1 ≤ 1 * m4'.toInt + 0 ∧ 1 * m4'.toInt + 0 ≤ 1) → (0 ≤ 1 * m5'.toInt + 0 ∧ 1 * m5'.toInt + 0 ≤ 0) → (0 ≤ 1 * n0'.toInt + 0 ∧ 1 * n0'.toInt + 0 ≤ 0) → sx_M z9 hd_C σ 0 0 σ' → am_K g 15 tX6_wordOf.1 0 0 23 lw' [.retAddr 19078, .int n0'] σ' post) : am_K g 15 tX6_wordOf.1 0 0 0 lw [] σ post := by
  refine sg_seg (sw := []) (vs := [(σ.2.1 3 3).toInt]) (ws := []) G (mi := 252) rfl hct sg_wn1c_ok ⟨rfl, trivial⟩ (hd_rfc hl (hd_rfcx hlr1 hd_rfn)) trivial (hd_p1 rfl bp3_3.1 bp3_3.2 hd_p0) hM ?_ ?_
  · intro r σ' hq
    cases r with
    | none => exact hq.elim
    | some v =>
      obtain ⟨p, hp, hM2, ks, hk, hv⟩ := hq
      cases hp
  · intro u hu
    simp only [List.mem_cons, List.not_mem_nil, or_false] at hu
    rcases hu with rfl
    · intro lw' sw' vs' ws' σ' ⟨h1_0, h2, h3_0, h4, h5⟩
      obtain ⟨m2', vs1, rfl, hm2, h1_1⟩ := hd_srcl h1_0
      obtain ⟨m3', vs2, rfl, hm3, h1_2⟩ := hd_srcl h1_1
      obtain ⟨m4', vs3, rfl, hm4, h1_3⟩ := hd_srcl h1_2
      obtain ⟨m5', vs4, rfl, hm5, h1_4⟩ := hd_srcl h1_3
      obtain rfl := hd_src0 h1_4
      obtain ⟨sw1, rfl, h3_1⟩ := hd_strx h3_0
      obtain ⟨n0', sw2, ws2, rfl, rfl, h3_2⟩ := hd_sti h3_1
      obtain ⟨rfl, rfl⟩ := hd_st0 h3_2
      have hr9_0 := hd_rfh h2
      have hr9_1 := hd_rfhx (hd_rfT h2)
      obtain ⟨v0, e0, l0, u0⟩ := h4 _ (List.mem_cons_self)
      have g0 : 1 * m2'.toInt + 0 = v0 := Option.some.inj e0
      obtain ⟨v1, e1, l1, u1⟩ := h4 _ (List.mem_cons_of_mem _ (List.mem_cons_self))
      have g1 : 1 * m3'.toInt + 0 = v1 := Option.some.inj e1
      obtain ⟨v2, e2, l2, u2⟩ := h4 _ (List.mem_cons_of_mem _ (List.mem_cons_of_mem _ (List.mem_cons_self)))
      have g2 : 1 * m4'.toInt + 0 = v2 := Option.some.inj e2
      obtain ⟨v3, e3, l3, u3⟩ := h4 _ (List.mem_cons_of_mem _ (List.mem_cons_of_mem _ (List.mem_cons_of_mem _ (List.mem_cons_self))))
      have g3 : 1 * m5'.toInt + 0 = v3 := Option.some.inj e3
      obtain ⟨v4, e4, l4, u4⟩ := h4 _ (List.mem_cons_of_mem _ (List.mem_cons_of_mem _ (List.mem_cons_of_mem _ (List.mem_cons_of_mem _ (List.mem_cons_self)))))
      have g4 : 1 * n0'.toInt + 0 = v4 := Option.some.inj e4
      exact cuta _ _ _ _ _ _ _ hr9_0 hr9_1 hm2 hm3 hm4 hm5 ⟨by rw [g0]; exact l0, by rw [g0]; exact u0⟩ ⟨by rw [g1]; exact l1, by rw [g1]; exact u1⟩ ⟨by rw [g2]; exact l2, by rw [g2]; exact u2⟩ ⟨by rw [g3]; exact l3, by rw [g3]; exact u3⟩ ⟨by rw [g4]; exact l4, by rw [g4]; exact u4⟩ h5
theorem sg_wn2a_run (G : sx_G0 g L xs z9 hd_C ex_mt) (hct : ∀ (mi : Nat) (T2 : ex_T) (c' : sx_Ct), ex_mt mi = some T2 → c' ∈ k9 mi → c'.1 < 60 → sx_Holds g z9 hd_C T2 c') {σ : am_S} {lw : List (Nat × Value)} {post : Option (Option Value) → am_S → Prop} (hM : sx_M z9 hd_C σ 0 0 σ) (hl : (0, Value.ref 3) ∈ lw) (hlr1 : (1, Value.retAddr 19078) ∈ lw) {m2 : Int32} (hl2 : (2, Value.int m2) ∈ lw) (bl2 : 0 ≤ m2.toInt ∧ m2.toInt ≤ 10) {m3 : Int32} (hl3 : (3, Value.int m3) ∈ lw) (bl3 : 0 ≤ m3.toInt ∧ m3.toInt ≤ 45) {m4 : Int32} (hl4 : (4, Value.int m4) ∈ lw) (bl4 : 0 ≤ m4.toInt ∧ m4.toInt ≤ 1) {m5 : Int32} (hl5 : (5, Value.int m5) ∈ lw) (bl5 : 0 ≤ m5.toInt ∧ m5.toInt ≤ 44) {n0 : Int32} (bk0 : 45 ≤ n0.toInt ∧ n0.toInt ≤ 45) {n1 : Int32} (bk1 : 0 ≤ n1.toInt ∧ n1.toInt ≤ 44) (bf0 : 0 ≤ 1 * m5.toInt + ((-1) * n1.toInt + 0) ∧ 1 * m5.toInt + ((-1) * n1.toInt + 0) ≤ 0) (cuta : ∀ (lw' : List (Nat × Value)) (m2' : Int32) (m3' : Int32) (m4' : Int32) (m5' : Int32) (n0' : Int32) (σ' : am_S), (0, Value.ref 3) ∈ lw' → (1, Value.retAddr 19078) ∈ lw' → (2, Value.int m2') ∈ lw' → (3, Value.int m3') ∈ lw' → (4, Value.int m4') ∈ lw' → (5, Value.int m5') ∈ lw' → (0 ≤ 1 * m5.toInt + ((-1) * n0'.toInt + 0) ∧ 1 * m5.toInt + ((-1) * n0'.toInt + 0) ≤ 0) → (0 ≤ 1 * m5.toInt + ((-1) * m5'.toInt + 0) ∧ 1 * m5.toInt + ((-1) * m5'.toInt + 0) ≤ 0) → (0 ≤ 1 * m2.toInt + ((-1) * m2'.toInt + 0) ∧ 1 * m2.toInt + ((-1) * m2'.toInt + 0) ≤ 0) → (0 ≤ 1 * m3.toInt + ((-1) * m3'.toInt + 0) ∧ 1 * m3.toInt + ((-1) * m3'.toInt + 0) ≤ 0) → (0 ≤ 1 * m4.toInt + ((-1) * m4'.toInt + 0) ∧ 1 * m4.toInt + ((-1) * m4'.toInt + 0) ≤ 0) → sx_M z9 hd_C σ 0 0 σ' → am_K g 15 tX6_wordOf.1 0 0 32 lw' [.int n0', .retAddr 19078] σ' post) : am_K g 15 tX6_wordOf.1 0 0 26 lw [.int n0, .int n1] σ post := by
  refine sg_seg (sw := [.int n0, .int n1]) (vs := [m2.toInt, m3.toInt, m4.toInt, m5.toInt]) (ws := [n0.toInt, n1.toInt]) G (mi := 252) rfl hct sg_wn2a_ok ⟨⟨m2, hl2, rfl⟩, ⟨⟨m3, hl3, rfl⟩, ⟨⟨m4, hl4, rfl⟩, ⟨⟨m5, hl5, rfl⟩, trivial⟩⟩⟩⟩ (hd_rfc hl (hd_rfcx hlr1 hd_rfn)) ⟨⟨n0, rfl, rfl⟩, ⟨⟨n1, rfl, rfl⟩, trivial⟩⟩ (hd_p1 rfl bl2.1 bl2.2 (hd_p1 rfl bl3.1 bl3.2 (hd_p1 rfl bl4.1 bl4.2 (hd_p1 rfl bl5.1 bl5.2 (hd_p1 rfl bk0.1 bk0.2 (hd_p1 rfl bk1.1 bk1.2 (hd_pf rfl bf0.1 bf0.2 hd_p0))))))) hM ?_ ?_
  · intro r σ' hq
    cases r with
    | none => exact hq.elim
    | some v =>
      obtain ⟨p, hp, hM2, ks, hk, hv⟩ := hq
      cases hp
  · intro u hu
    simp only [List.mem_cons, List.not_mem_nil, or_false] at hu
    rcases hu with rfl
    · intro lw' sw' vs' ws' σ' ⟨h1_0, h2, h3_0, h4, h5⟩
      obtain ⟨m2', vs1, rfl, hm2, h1_1⟩ := hd_srcl h1_0
      obtain ⟨m3', vs2, rfl, hm3, h1_2⟩ := hd_srcl h1_1
      obtain ⟨m4', vs3, rfl, hm4, h1_3⟩ := hd_srcl h1_2
      obtain ⟨m5', vs4, rfl, hm5, h1_4⟩ := hd_srcl h1_3
      obtain rfl := hd_src0 h1_4
      obtain ⟨n0', sw1, ws1, rfl, rfl, h3_1⟩ := hd_sti h3_0
      obtain ⟨sw2, rfl, h3_2⟩ := hd_strx h3_1
      obtain ⟨rfl, rfl⟩ := hd_st0 h3_2
      have hr9_0 := hd_rfh h2
      have hr9_1 := hd_rfhx (hd_rfT h2)
      obtain ⟨v0, e0, l0, u0⟩ := h4 _ (List.mem_cons_self)
      have g0 : 1 * m5.toInt + ((-1) * n0'.toInt + 0) = v0 := Option.some.inj e0
      obtain ⟨v1, e1, l1, u1⟩ := h4 _ (List.mem_cons_of_mem _ (List.mem_cons_self))
      have g1 : 1 * m5.toInt + ((-1) * m5'.toInt + 0) = v1 := Option.some.inj e1
      obtain ⟨v2, e2, l2, u2⟩ := h4 _ (List.mem_cons_of_mem _ (List.mem_cons_of_mem _ (List.mem_cons_self)))
      have g2 : 1 * m2.toInt + ((-1) * m2'.toInt + 0) = v2 := Option.some.inj e2
      obtain ⟨v3, e3, l3, u3⟩ := h4 _ (List.mem_cons_of_mem _ (List.mem_cons_of_mem _ (List.mem_cons_of_mem _ (List.mem_cons_self))))
      have g3 : 1 * m3.toInt + ((-1) * m3'.toInt + 0) = v3 := Option.some.inj e3
      obtain ⟨v4, e4, l4, u4⟩ := h4 _ (List.mem_cons_of_mem _ (List.mem_cons_of_mem _ (List.mem_cons_of_mem _ (List.mem_cons_of_mem _ (List.mem_cons_self)))))
      have g4 : 1 * m4.toInt + ((-1) * m4'.toInt + 0) = v4 := Option.some.inj e4
      exact cuta _ _ _ _ _ _ _ hr9_0 hr9_1 hm2 hm3 hm4 hm5 ⟨by rw [g0]; exact l0, by rw [g0]; exact u0⟩ ⟨by rw [g1]; exact l1, by rw [g1]; exact u1⟩ ⟨by rw [g2]; exact l2, by rw [g2]; exact u2⟩ ⟨by rw [g3]; exact l3, by rw [g3]; exact u3⟩ ⟨by rw [g4]; exact l4, by rw [g4]; exact u4⟩ h5
theorem sg_wn2b_run (G : sx_G0 g L xs z9 hd_C ex_mt) (hct : ∀ (mi : Nat) (T2 : ex_T) (c' : sx_Ct), ex_mt mi = some T2 → c' ∈ k9 mi → c'.1 < 60 → sx_Holds g z9 hd_C T2 c') {σ : am_S} {lw : List (Nat × Value)} {post : Option (Option Value) → am_S → Prop} (hM : sx_M z9 hd_C σ 0 0 σ) (hl : (0, Value.ref 3) ∈ lw) (hlr1 : (1, Value.retAddr 19078) ∈ lw) {m2 : Int32} (hl2 : (2, Value.int m2) ∈ lw) (bl2 : 0 ≤ m2.toInt ∧ m2.toInt ≤ 10) {m3 : Int32} (hl3 : (3, Value.int m3) ∈ lw) (bl3 : 0 ≤ m3.toInt ∧ m3.toInt ≤ 45) {m4 : Int32} (hl4 : (4, Value.int m4) ∈ lw) (bl4 : 0 ≤ m4.toInt ∧ m4.toInt ≤ 0) {m5 : Int32} (hl5 : (5, Value.int m5) ∈ lw) (bl5 : 0 ≤ m5.toInt ∧ m5.toInt ≤ 45) {n0 : Int32} (bk0 : 45 ≤ n0.toInt ∧ n0.toInt ≤ 45) {n1 : Int32} (bk1 : 45 ≤ n1.toInt ∧ n1.toInt ≤ 45) (ret0 : ∀ (r : Int32) (σ' : am_S), ((-1) ≤ 1 * r.toInt + 0 ∧ 1 * r.toInt + 0 ≤ (-1)) → sx_M z9 hd_C σ 0 0 σ' → post (some (some (.int r))) σ') : am_K g 15 tX6_wordOf.1 0 0 26 lw [.int n0, .int n1] σ post := by
  refine sg_seg (sw := [.int n0, .int n1]) (vs := [m2.toInt, m3.toInt, m4.toInt, m5.toInt]) (ws := [n0.toInt, n1.toInt]) G (mi := 252) rfl hct sg_wn2b_ok ⟨⟨m2, hl2, rfl⟩, ⟨⟨m3, hl3, rfl⟩, ⟨⟨m4, hl4, rfl⟩, ⟨⟨m5, hl5, rfl⟩, trivial⟩⟩⟩⟩ (hd_rfc hl (hd_rfcx hlr1 hd_rfn)) ⟨⟨n0, rfl, rfl⟩, ⟨⟨n1, rfl, rfl⟩, trivial⟩⟩ (hd_p1 rfl bl2.1 bl2.2 (hd_p1 rfl bl3.1 bl3.2 (hd_p1 rfl bl4.1 bl4.2 (hd_p1 rfl bl5.1 bl5.2 (hd_p1 rfl bk0.1 bk0.2 (hd_p1 rfl bk1.1 bk1.2 hd_p0)))))) hM ?_ ?_
  · intro r σ' hq
    cases r with
    | none => exact hq.elim
    | some v =>
      obtain ⟨p, hp, hM2, ks, hk, hv⟩ := hq
      simp only [List.mem_cons, List.not_mem_nil, or_false] at hp
      rcases hp with rfl
      · obtain rfl := hd_keys hk
        cases v with
        | none => exact hv.elim
        | some w9 =>
          obtain ⟨r, rfl, hP⟩ := hv
          obtain ⟨v0, e0, l0, u0⟩ := hP _ (List.mem_cons_self)
          have g0 : 1 * r.toInt + 0 = v0 := Option.some.inj e0
          exact ret0 r _ ⟨by rw [g0]; exact l0, by rw [g0]; exact u0⟩ hM2
  · intro u hu
    cases hu
theorem sg_wn2c_run (G : sx_G0 g L xs z9 hd_C ex_mt) (hct : ∀ (mi : Nat) (T2 : ex_T) (c' : sx_Ct), ex_mt mi = some T2 → c' ∈ k9 mi → c'.1 < 60 → sx_Holds g z9 hd_C T2 c') {σ : am_S} {lw : List (Nat × Value)} {post : Option (Option Value) → am_S → Prop} (hM : sx_M z9 hd_C σ 0 0 σ) (hl : (0, Value.ref 3) ∈ lw) (hlr1 : (1, Value.retAddr 19078) ∈ lw) {m2 : Int32} (hl2 : (2, Value.int m2) ∈ lw) (bl2 : 0 ≤ m2.toInt ∧ m2.toInt ≤ 10) {m3 : Int32} (hl3 : (3, Value.int m3) ∈ lw) (bl3 : 0 ≤ m3.toInt ∧ m3.toInt ≤ 45) {m4 : Int32} (hl4 : (4, Value.int m4) ∈ lw) (bl4 : 1 ≤ m4.toInt ∧ m4.toInt ≤ 1) {m5 : Int32} (hl5 : (5, Value.int m5) ∈ lw) (bl5 : 0 ≤ m5.toInt ∧ m5.toInt ≤ 45) {n0 : Int32} (bk0 : 45 ≤ n0.toInt ∧ n0.toInt ≤ 45) {n1 : Int32} (bk1 : 45 ≤ n1.toInt ∧ n1.toInt ≤ 45) (bf0 : (-4611686018427387904) ≤ 1 * m3.toInt + ((-1) * (σ.2.1 3 5).toInt + 0) ∧ 1 * m3.toInt + ((-1) * (σ.2.1 3 5).toInt + 0) ≤ (-1)) (ret0 : ∀ (r : Int32) (σ' : am_S), ((-1) ≤ 1 * r.toInt + 0 ∧ 1 * r.toInt + 0 ≤ (-1)) → sx_M z9 hd_C σ 0 0 σ' → post (some (some (.int r))) σ') : am_K g 15 tX6_wordOf.1 0 0 26 lw [.int n0, .int n1] σ post := by
  refine sg_seg (sw := [.int n0, .int n1]) (vs := [m2.toInt, m3.toInt, m4.toInt, m5.toInt, (σ.2.1 3 5).toInt]) (ws := [n0.toInt, n1.toInt]) G (mi := 252) rfl hct sg_wn2c_ok ⟨⟨m2, hl2, rfl⟩, ⟨⟨m3, hl3, rfl⟩, ⟨⟨m4, hl4, rfl⟩, ⟨⟨m5, hl5, rfl⟩, ⟨rfl, trivial⟩⟩⟩⟩⟩ (hd_rfc hl (hd_rfcx hlr1 hd_rfn)) ⟨⟨n0, rfl, rfl⟩, ⟨⟨n1, rfl, rfl⟩, trivial⟩⟩ (hd_p1 rfl bl2.1 bl2.2 (hd_p1 rfl bl3.1 bl3.2 (hd_p1 rfl bl4.1 bl4.2 (hd_p1 rfl bl5.1 bl5.2 (hd_p1 rfl (hd_kd_3_5 hM).1 (hd_kd_3_5 hM).2 (hd_p1 rfl bk0.1 bk0.2 (hd_p1 rfl bk1.1 bk1.2 (hd_pf rfl bf0.1 bf0.2 hd_p0)))))))) hM ?_ ?_
  · intro r σ' hq
    cases r with
    | none => exact hq.elim
    | some v =>
      obtain ⟨p, hp, hM2, ks, hk, hv⟩ := hq
      simp only [List.mem_cons, List.not_mem_nil, or_false] at hp
      rcases hp with rfl
      · obtain rfl := hd_keys hk
        cases v with
        | none => exact hv.elim
        | some w9 =>
          obtain ⟨r, rfl, hP⟩ := hv
          obtain ⟨v0, e0, l0, u0⟩ := hP _ (List.mem_cons_self)
          have g0 : 1 * r.toInt + 0 = v0 := Option.some.inj e0
          exact ret0 r _ ⟨by rw [g0]; exact l0, by rw [g0]; exact u0⟩ hM2
  · intro u hu
    cases hu
theorem sg_wn2d_run (G : sx_G0 g L xs z9 hd_C ex_mt) (hct : ∀ (mi : Nat) (T2 : ex_T) (c' : sx_Ct), ex_mt mi = some T2 → c' ∈ k9 mi → c'.1 < 60 → sx_Holds g z9 hd_C T2 c') {σ : am_S} {lw : List (Nat × Value)} {post : Option (Option Value) → am_S → Prop} (hM : sx_M z9 hd_C σ 0 0 σ) (hl : (0, Value.ref 3) ∈ lw) (hlr1 : (1, Value.retAddr 19078) ∈ lw) {m2 : Int32} (hl2 : (2, Value.int m2) ∈ lw) (bl2 : 0 ≤ m2.toInt ∧ m2.toInt ≤ 10) {m3 : Int32} (hl3 : (3, Value.int m3) ∈ lw) (bl3 : 0 ≤ m3.toInt ∧ m3.toInt ≤ 45) {m4 : Int32} (hl4 : (4, Value.int m4) ∈ lw) (bl4 : 1 ≤ m4.toInt ∧ m4.toInt ≤ 1) {m5 : Int32} (hl5 : (5, Value.int m5) ∈ lw) (bl5 : 0 ≤ m5.toInt ∧ m5.toInt ≤ 45) {n0 : Int32} (bk0 : 45 ≤ n0.toInt ∧ n0.toInt ≤ 45) {n1 : Int32} (bk1 : 45 ≤ n1.toInt ∧ n1.toInt ≤ 45) (bf0 : 1 ≤ 1 * m3.toInt + ((-1) * (σ.2.1 3 5).toInt + 0) ∧ 1 * m3.toInt + ((-1) * (σ.2.1 3 5).toInt + 0) ≤ 4611686018427387904) (ret0 : ∀ (r : Int32) (σ' : am_S), ((-1) ≤ 1 * r.toInt + 0 ∧ 1 * r.toInt + 0 ≤ (-1)) → sx_M z9 hd_C σ 0 0 σ' → post (some (some (.int r))) σ') : am_K g 15 tX6_wordOf.1 0 0 26 lw [.int n0, .int n1] σ post := by
  refine sg_seg (sw := [.int n0, .int n1]) (vs := [m2.toInt, m3.toInt, m4.toInt, m5.toInt, (σ.2.1 3 5).toInt]) (ws := [n0.toInt, n1.toInt]) G (mi := 252) rfl hct sg_wn2d_ok ⟨⟨m2, hl2, rfl⟩, ⟨⟨m3, hl3, rfl⟩, ⟨⟨m4, hl4, rfl⟩, ⟨⟨m5, hl5, rfl⟩, ⟨rfl, trivial⟩⟩⟩⟩⟩ (hd_rfc hl (hd_rfcx hlr1 hd_rfn)) ⟨⟨n0, rfl, rfl⟩, ⟨⟨n1, rfl, rfl⟩, trivial⟩⟩ (hd_p1 rfl bl2.1 bl2.2 (hd_p1 rfl bl3.1 bl3.2 (hd_p1 rfl bl4.1 bl4.2 (hd_p1 rfl bl5.1 bl5.2 (hd_p1 rfl (hd_kd_3_5 hM).1 (hd_kd_3_5 hM).2 (hd_p1 rfl bk0.1 bk0.2 (hd_p1 rfl bk1.1 bk1.2 (hd_pf rfl bf0.1 bf0.2 hd_p0)))))))) hM ?_ ?_
  · intro r σ' hq
    cases r with
    | none => exact hq.elim
    | some v =>
      obtain ⟨p, hp, hM2, ks, hk, hv⟩ := hq
      simp only [List.mem_cons, List.not_mem_nil, or_false] at hp
      rcases hp with rfl
      · obtain rfl := hd_keys hk
        cases v with
        | none => exact hv.elim
        | some w9 =>
          obtain ⟨r, rfl, hP⟩ := hv
          obtain ⟨v0, e0, l0, u0⟩ := hP _ (List.mem_cons_self)
          have g0 : 1 * r.toInt + 0 = v0 := Option.some.inj e0
          exact ret0 r _ ⟨by rw [g0]; exact l0, by rw [g0]; exact u0⟩ hM2
  · intro u hu
    cases hu
theorem sg_wn2e_run (G : sx_G0 g L xs z9 hd_C ex_mt) (hct : ∀ (mi : Nat) (T2 : ex_T) (c' : sx_Ct), ex_mt mi = some T2 → c' ∈ k9 mi → c'.1 < 60 → sx_Holds g z9 hd_C T2 c') {σ : am_S} {lw : List (Nat × Value)} {post : Option (Option Value) → am_S → Prop} (hM : sx_M z9 hd_C σ 0 0 σ) (hl : (0, Value.ref 3) ∈ lw) (hlr1 : (1, Value.retAddr 19078) ∈ lw) {m2 : Int32} (hl2 : (2, Value.int m2) ∈ lw) (bl2 : 0 ≤ m2.toInt ∧ m2.toInt ≤ 10) {m3 : Int32} (hl3 : (3, Value.int m3) ∈ lw) (bl3 : 0 ≤ m3.toInt ∧ m3.toInt ≤ 45) {m4 : Int32} (hl4 : (4, Value.int m4) ∈ lw) (bl4 : 1 ≤ m4.toInt ∧ m4.toInt ≤ 1) {m5 : Int32} (hl5 : (5, Value.int m5) ∈ lw) (bl5 : 0 ≤ m5.toInt ∧ m5.toInt ≤ 45) {n0 : Int32} (bk0 : 45 ≤ n0.toInt ∧ n0.toInt ≤ 45) {n1 : Int32} (bk1 : 45 ≤ n1.toInt ∧ n1.toInt ≤ 45) (bf0 : 0 ≤ 1 * m3.toInt + ((-1) * (σ.2.1 3 5).toInt + 0) ∧ 1 * m3.toInt + ((-1) * (σ.2.1 3 5).toInt + 0) ≤ 0) (ret0 : ∀ (r : Int32) (σ' : am_S), (0 ≤ 1 * m2.toInt + ((-1) * r.toInt + 0) ∧ 1 * m2.toInt + ((-1) * r.toInt + 0) ≤ 0) → sx_M z9 hd_C σ 0 0 σ' → post (some (some (.int r))) σ') : am_K g 15 tX6_wordOf.1 0 0 26 lw [.int n0, .int n1] σ post := by
  refine sg_seg (sw := [.int n0, .int n1]) (vs := [m2.toInt, m3.toInt, m4.toInt, m5.toInt, (σ.2.1 3 5).toInt]) (ws := [n0.toInt, n1.toInt]) G (mi := 252) rfl hct sg_wn2e_ok ⟨⟨m2, hl2, rfl⟩, ⟨⟨m3, hl3, rfl⟩, ⟨⟨m4, hl4, rfl⟩, ⟨⟨m5, hl5, rfl⟩, ⟨rfl, trivial⟩⟩⟩⟩⟩ (hd_rfc hl (hd_rfcx hlr1 hd_rfn)) ⟨⟨n0, rfl, rfl⟩, ⟨⟨n1, rfl, rfl⟩, trivial⟩⟩ (hd_p1 rfl bl2.1 bl2.2 (hd_p1 rfl bl3.1 bl3.2 (hd_p1 rfl bl4.1 bl4.2 (hd_p1 rfl bl5.1 bl5.2 (hd_p1 rfl (hd_kd_3_5 hM).1 (hd_kd_3_5 hM).2 (hd_p1 rfl bk0.1 bk0.2 (hd_p1 rfl bk1.1 bk1.2 (hd_pf rfl bf0.1 bf0.2 hd_p0)))))))) hM ?_ ?_
  · intro r σ' hq
    cases r with
    | none => exact hq.elim
    | some v =>
      obtain ⟨p, hp, hM2, ks, hk, hv⟩ := hq
      simp only [List.mem_cons, List.not_mem_nil, or_false] at hp
      rcases hp with rfl
      · obtain rfl := hd_keys hk
        cases v with
        | none => exact hv.elim
        | some w9 =>
          obtain ⟨r, rfl, hP⟩ := hv
          obtain ⟨v0, e0, l0, u0⟩ := hP _ (List.mem_cons_self)
          have g0 : 1 * m2.toInt + ((-1) * r.toInt + 0) = v0 := Option.some.inj e0
          exact ret0 r _ ⟨by rw [g0]; exact l0, by rw [g0]; exact u0⟩ hM2
  · intro u hu
    cases hu
theorem sg_wn3a_run (G : sx_G0 g L xs z9 hd_C ex_mt) (hct : ∀ (mi : Nat) (T2 : ex_T) (c' : sx_Ct), ex_mt mi = some T2 → c' ∈ k9 mi → c'.1 < 60 → sx_Holds g z9 hd_C T2 c') {σ : am_S} {lw : List (Nat × Value)} {post : Option (Option Value) → am_S → Prop} (hM : sx_M z9 hd_C σ 0 0 σ) (hl : (0, Value.ref 3) ∈ lw) (hlr1 : (1, Value.retAddr 19078) ∈ lw) {m2 : Int32} (hl2 : (2, Value.int m2) ∈ lw) (bl2 : 0 ≤ m2.toInt ∧ m2.toInt ≤ 10) {m3 : Int32} (hl3 : (3, Value.int m3) ∈ lw) (bl3 : 0 ≤ m3.toInt ∧ m3.toInt ≤ 45) {m4 : Int32} (hl4 : (4, Value.int m4) ∈ lw) (bl4 : 1 ≤ m4.toInt ∧ m4.toInt ≤ 1) {m5 : Int32} (hl5 : (5, Value.int m5) ∈ lw) (bl5 : 0 ≤ m5.toInt ∧ m5.toInt ≤ 45) {n0 : Int32} (bk0 : 32 ≤ n0.toInt ∧ n0.toInt ≤ 32) (bf0 : 0 ≤ 1 * m3.toInt + ((-1) * (σ.2.1 3 5).toInt + 0) ∧ 1 * m3.toInt + ((-1) * (σ.2.1 3 5).toInt + 0) ≤ 0) (ret0 : ∀ (r : Int32) (σ' : am_S), (0 ≤ 1 * m2.toInt + ((-1) * r.toInt + 0) ∧ 1 * m2.toInt + ((-1) * r.toInt + 0) ≤ 0) → sx_M z9 hd_C σ 0 0 σ' → post (some (some (.int r))) σ') : am_K g 15 tX6_wordOf.1 0 0 35 lw [.int n0] σ post := by
  refine sg_seg (sw := [.int n0]) (vs := [m2.toInt, m3.toInt, m4.toInt, m5.toInt, (σ.2.1 3 5).toInt]) (ws := [n0.toInt]) G (mi := 252) rfl hct sg_wn3a_ok ⟨⟨m2, hl2, rfl⟩, ⟨⟨m3, hl3, rfl⟩, ⟨⟨m4, hl4, rfl⟩, ⟨⟨m5, hl5, rfl⟩, ⟨rfl, trivial⟩⟩⟩⟩⟩ (hd_rfc hl (hd_rfcx hlr1 hd_rfn)) ⟨⟨n0, rfl, rfl⟩, trivial⟩ (hd_p1 rfl bl2.1 bl2.2 (hd_p1 rfl bl3.1 bl3.2 (hd_p1 rfl bl4.1 bl4.2 (hd_p1 rfl bl5.1 bl5.2 (hd_p1 rfl (hd_kd_3_5 hM).1 (hd_kd_3_5 hM).2 (hd_p1 rfl bk0.1 bk0.2 (hd_pf rfl bf0.1 bf0.2 hd_p0))))))) hM ?_ ?_
  · intro r σ' hq
    cases r with
    | none => exact hq.elim
    | some v =>
      obtain ⟨p, hp, hM2, ks, hk, hv⟩ := hq
      simp only [List.mem_cons, List.not_mem_nil, or_false] at hp
      rcases hp with rfl
      · obtain rfl := hd_keys hk
        cases v with
        | none => exact hv.elim
        | some w9 =>
          obtain ⟨r, rfl, hP⟩ := hv
          obtain ⟨v0, e0, l0, u0⟩ := hP _ (List.mem_cons_self)
          have g0 : 1 * m2.toInt + ((-1) * r.toInt + 0) = v0 := Option.some.inj e0
          exact ret0 r _ ⟨by rw [g0]; exact l0, by rw [g0]; exact u0⟩ hM2
  · intro u hu
    cases hu
theorem sg_wn3b_run (G : sx_G0 g L xs z9 hd_C ex_mt) (hct : ∀ (mi : Nat) (T2 : ex_T) (c' : sx_Ct), ex_mt mi = some T2 → c' ∈ k9 mi → c'.1 < 60 → sx_Holds g z9 hd_C T2 c') {σ : am_S} {lw : List (Nat × Value)} {post : Option (Option Value) → am_S → Prop} (hM : sx_M z9 hd_C σ 0 0 σ) (hl : (0, Value.ref 3) ∈ lw) (hlr1 : (1, Value.retAddr 19078) ∈ lw) {m2 : Int32} (hl2 : (2, Value.int m2) ∈ lw) (bl2 : 0 ≤ m2.toInt ∧ m2.toInt ≤ 9) {m3 : Int32} (hl3 : (3, Value.int m3) ∈ lw) (bl3 : 0 ≤ m3.toInt ∧ m3.toInt ≤ 45) {m4 : Int32} (hl4 : (4, Value.int m4) ∈ lw) (bl4 : 1 ≤ m4.toInt ∧ m4.toInt ≤ 1) {m5 : Int32} (hl5 : (5, Value.int m5) ∈ lw) (bl5 : 0 ≤ m5.toInt ∧ m5.toInt ≤ 44) {n0 : Int32} (bk0 : 32 ≤ n0.toInt ∧ n0.toInt ≤ 32) (bf0 : (-4611686018427387904) ≤ 1 * m3.toInt + ((-1) * (σ.2.1 3 5).toInt + 0) ∧ 1 * m3.toInt + ((-1) * (σ.2.1 3 5).toInt + 0) ≤ (-1)) (cuta : ∀ (lw' : List (Nat × Value)) (m2' : Int32) (m3' : Int32) (m4' : Int32) (m5' : Int32) (n0' : Int32) (σ' : am_S), (0, Value.ref 3) ∈ lw' → (1, Value.retAddr 19078) ∈ lw' → (2, Value.int m2') ∈ lw' → (3, Value.int m3') ∈ lw' → (4, Value.int m4') ∈ lw' → (5, Value.int m5') ∈ lw' → ((-1) ≤ 1 * m5.toInt + ((-1) * m5'.toInt + 0) ∧ 1 * m5.toInt + ((-1) * m5'.toInt + 0) ≤ (-1)) → ((-1) ≤ 1 * m5.toInt + ((-1) * n0'.toInt + 0) ∧ 1 * m5.toInt + ((-1) * n0'.toInt + 0) ≤ (-1)) → ((-1) ≤ 1 * m2.toInt + ((-1) * m2'.toInt + 0) ∧ 1 * m2.toInt + ((-1) * m2'.toInt + 0) ≤ (-1)) → (0 ≤ 1 * m3'.toInt + 0 ∧ 1 * m3'.toInt + 0 ≤ 0) → (1 ≤ 1 * m4'.toInt + 0 ∧ 1 * m4'.toInt + 0 ≤ 1) → sx_M z9 hd_C σ 0 0 σ' → am_K g 15 tX6_wordOf.1 0 0 23 lw' [.retAddr 19078, .int n0'] σ' post) : am_K g 15 tX6_wordOf.1 0 0 35 lw [.int n0] σ post := by
  refine sg_seg (sw := [.int n0]) (vs := [m2.toInt, m3.toInt, m4.toInt, m5.toInt, (σ.2.1 3 5).toInt]) (ws := [n0.toInt]) G (mi := 252) rfl hct sg_wn3b_ok ⟨⟨m2, hl2, rfl⟩, ⟨⟨m3, hl3, rfl⟩, ⟨⟨m4, hl4, rfl⟩, ⟨⟨m5, hl5, rfl⟩, ⟨rfl, trivial⟩⟩⟩⟩⟩ (hd_rfc hl (hd_rfcx hlr1 hd_rfn)) ⟨⟨n0, rfl, rfl⟩, trivial⟩ (hd_p1 rfl bl2.1 bl2.2 (hd_p1 rfl bl3.1 bl3.2 (hd_p1 rfl bl4.1 bl4.2 (hd_p1 rfl bl5.1 bl5.2 (hd_p1 rfl (hd_kd_3_5 hM).1 (hd_kd_3_5 hM).2 (hd_p1 rfl bk0.1 bk0.2 (hd_pf rfl bf0.1 bf0.2 hd_p0))))))) hM ?_ ?_
  · intro r σ' hq
    cases r with
    | none => exact hq.elim
    | some v =>
      obtain ⟨p, hp, hM2, ks, hk, hv⟩ := hq
      cases hp
  · intro u hu
    simp only [List.mem_cons, List.not_mem_nil, or_false] at hu
    rcases hu with rfl
    · intro lw' sw' vs' ws' σ' ⟨h1_0, h2, h3_0, h4, h5⟩
      obtain ⟨m2', vs1, rfl, hm2, h1_1⟩ := hd_srcl h1_0
      obtain ⟨m3', vs2, rfl, hm3, h1_2⟩ := hd_srcl h1_1
      obtain ⟨m4', vs3, rfl, hm4, h1_3⟩ := hd_srcl h1_2
      obtain ⟨m5', vs4, rfl, hm5, h1_4⟩ := hd_srcl h1_3
      obtain rfl := hd_src0 h1_4
      obtain ⟨sw1, rfl, h3_1⟩ := hd_strx h3_0
      obtain ⟨n0', sw2, ws2, rfl, rfl, h3_2⟩ := hd_sti h3_1
      obtain ⟨rfl, rfl⟩ := hd_st0 h3_2
      have hr9_0 := hd_rfh h2
      have hr9_1 := hd_rfhx (hd_rfT h2)
      obtain ⟨v0, e0, l0, u0⟩ := h4 _ (List.mem_cons_self)
      have g0 : 1 * m5.toInt + ((-1) * m5'.toInt + 0) = v0 := Option.some.inj e0
      obtain ⟨v1, e1, l1, u1⟩ := h4 _ (List.mem_cons_of_mem _ (List.mem_cons_self))
      have g1 : 1 * m5.toInt + ((-1) * n0'.toInt + 0) = v1 := Option.some.inj e1
      obtain ⟨v2, e2, l2, u2⟩ := h4 _ (List.mem_cons_of_mem _ (List.mem_cons_of_mem _ (List.mem_cons_self)))
      have g2 : 1 * m2.toInt + ((-1) * m2'.toInt + 0) = v2 := Option.some.inj e2
      obtain ⟨v3, e3, l3, u3⟩ := h4 _ (List.mem_cons_of_mem _ (List.mem_cons_of_mem _ (List.mem_cons_of_mem _ (List.mem_cons_self))))
      have g3 : 1 * m3'.toInt + 0 = v3 := Option.some.inj e3
      obtain ⟨v4, e4, l4, u4⟩ := h4 _ (List.mem_cons_of_mem _ (List.mem_cons_of_mem _ (List.mem_cons_of_mem _ (List.mem_cons_of_mem _ (List.mem_cons_self)))))
      have g4 : 1 * m4'.toInt + 0 = v4 := Option.some.inj e4
      exact cuta _ _ _ _ _ _ _ hr9_0 hr9_1 hm2 hm3 hm4 hm5 ⟨by rw [g0]; exact l0, by rw [g0]; exact u0⟩ ⟨by rw [g1]; exact l1, by rw [g1]; exact u1⟩ ⟨by rw [g2]; exact l2, by rw [g2]; exact u2⟩ ⟨by rw [g3]; exact l3, by rw [g3]; exact u3⟩ ⟨by rw [g4]; exact l4, by rw [g4]; exact u4⟩ h5
theorem sg_wn3c_run (G : sx_G0 g L xs z9 hd_C ex_mt) (hct : ∀ (mi : Nat) (T2 : ex_T) (c' : sx_Ct), ex_mt mi = some T2 → c' ∈ k9 mi → c'.1 < 60 → sx_Holds g z9 hd_C T2 c') {σ : am_S} {lw : List (Nat × Value)} {post : Option (Option Value) → am_S → Prop} (hM : sx_M z9 hd_C σ 0 0 σ) (hl : (0, Value.ref 3) ∈ lw) (hlr1 : (1, Value.retAddr 19078) ∈ lw) {m2 : Int32} (hl2 : (2, Value.int m2) ∈ lw) (bl2 : 0 ≤ m2.toInt ∧ m2.toInt ≤ 9) {m3 : Int32} (hl3 : (3, Value.int m3) ∈ lw) (bl3 : 0 ≤ m3.toInt ∧ m3.toInt ≤ 45) {m4 : Int32} (hl4 : (4, Value.int m4) ∈ lw) (bl4 : 1 ≤ m4.toInt ∧ m4.toInt ≤ 1) {m5 : Int32} (hl5 : (5, Value.int m5) ∈ lw) (bl5 : 0 ≤ m5.toInt ∧ m5.toInt ≤ 44) {n0 : Int32} (bk0 : 32 ≤ n0.toInt ∧ n0.toInt ≤ 32) (bf0 : 1 ≤ 1 * m3.toInt + ((-1) * (σ.2.1 3 5).toInt + 0) ∧ 1 * m3.toInt + ((-1) * (σ.2.1 3 5).toInt + 0) ≤ 4611686018427387904) (cuta : ∀ (lw' : List (Nat × Value)) (m2' : Int32) (m3' : Int32) (m4' : Int32) (m5' : Int32) (n0' : Int32) (σ' : am_S), (0, Value.ref 3) ∈ lw' → (1, Value.retAddr 19078) ∈ lw' → (2, Value.int m2') ∈ lw' → (3, Value.int m3') ∈ lw' → (4, Value.int m4') ∈ lw' → (5, Value.int m5') ∈ lw' → ((-1) ≤ 1 * m5.toInt + ((-1) * m5'.toInt + 0) ∧ 1 * m5.toInt + ((-1) * m5'.toInt + 0) ≤ (-1)) → ((-1) ≤ 1 * m5.toInt + ((-1) * n0'.toInt + 0) ∧ 1 * m5.toInt + ((-1) * n0'.toInt + 0) ≤ (-1)) → ((-1) ≤ 1 * m2.toInt + ((-1) * m2'.toInt + 0) ∧ 1 * m2.toInt + ((-1) * m2'.toInt + 0) ≤ (-1)) → (0 ≤ 1 * m3'.toInt + 0 ∧ 1 * m3'.toInt + 0 ≤ 0) → (1 ≤ 1 * m4'.toInt + 0 ∧ 1 * m4'.toInt + 0 ≤ 1) → sx_M z9 hd_C σ 0 0 σ' → am_K g 15 tX6_wordOf.1 0 0 23 lw' [.retAddr 19078, .int n0'] σ' post) : am_K g 15 tX6_wordOf.1 0 0 35 lw [.int n0] σ post := by
  refine sg_seg (sw := [.int n0]) (vs := [m2.toInt, m3.toInt, m4.toInt, m5.toInt, (σ.2.1 3 5).toInt]) (ws := [n0.toInt]) G (mi := 252) rfl hct sg_wn3c_ok ⟨⟨m2, hl2, rfl⟩, ⟨⟨m3, hl3, rfl⟩, ⟨⟨m4, hl4, rfl⟩, ⟨⟨m5, hl5, rfl⟩, ⟨rfl, trivial⟩⟩⟩⟩⟩ (hd_rfc hl (hd_rfcx hlr1 hd_rfn)) ⟨⟨n0, rfl, rfl⟩, trivial⟩ (hd_p1 rfl bl2.1 bl2.2 (hd_p1 rfl bl3.1 bl3.2 (hd_p1 rfl bl4.1 bl4.2 (hd_p1 rfl bl5.1 bl5.2 (hd_p1 rfl (hd_kd_3_5 hM).1 (hd_kd_3_5 hM).2 (hd_p1 rfl bk0.1 bk0.2 (hd_pf rfl bf0.1 bf0.2 hd_p0))))))) hM ?_ ?_
  · intro r σ' hq
    cases r with
    | none => exact hq.elim
    | some v =>
      obtain ⟨p, hp, hM2, ks, hk, hv⟩ := hq
      cases hp
  · intro u hu
    simp only [List.mem_cons, List.not_mem_nil, or_false] at hu
    rcases hu with rfl
    · intro lw' sw' vs' ws' σ' ⟨h1_0, h2, h3_0, h4, h5⟩
      obtain ⟨m2', vs1, rfl, hm2, h1_1⟩ := hd_srcl h1_0
      obtain ⟨m3', vs2, rfl, hm3, h1_2⟩ := hd_srcl h1_1
      obtain ⟨m4', vs3, rfl, hm4, h1_3⟩ := hd_srcl h1_2
      obtain ⟨m5', vs4, rfl, hm5, h1_4⟩ := hd_srcl h1_3
      obtain rfl := hd_src0 h1_4
      obtain ⟨sw1, rfl, h3_1⟩ := hd_strx h3_0
      obtain ⟨n0', sw2, ws2, rfl, rfl, h3_2⟩ := hd_sti h3_1
      obtain ⟨rfl, rfl⟩ := hd_st0 h3_2
      have hr9_0 := hd_rfh h2
      have hr9_1 := hd_rfhx (hd_rfT h2)
      obtain ⟨v0, e0, l0, u0⟩ := h4 _ (List.mem_cons_self)
      have g0 : 1 * m5.toInt + ((-1) * m5'.toInt + 0) = v0 := Option.some.inj e0
      obtain ⟨v1, e1, l1, u1⟩ := h4 _ (List.mem_cons_of_mem _ (List.mem_cons_self))
      have g1 : 1 * m5.toInt + ((-1) * n0'.toInt + 0) = v1 := Option.some.inj e1
      obtain ⟨v2, e2, l2, u2⟩ := h4 _ (List.mem_cons_of_mem _ (List.mem_cons_of_mem _ (List.mem_cons_self)))
      have g2 : 1 * m2.toInt + ((-1) * m2'.toInt + 0) = v2 := Option.some.inj e2
      obtain ⟨v3, e3, l3, u3⟩ := h4 _ (List.mem_cons_of_mem _ (List.mem_cons_of_mem _ (List.mem_cons_of_mem _ (List.mem_cons_self))))
      have g3 : 1 * m3'.toInt + 0 = v3 := Option.some.inj e3
      obtain ⟨v4, e4, l4, u4⟩ := h4 _ (List.mem_cons_of_mem _ (List.mem_cons_of_mem _ (List.mem_cons_of_mem _ (List.mem_cons_of_mem _ (List.mem_cons_self)))))
      have g4 : 1 * m4'.toInt + 0 = v4 := Option.some.inj e4
      exact cuta _ _ _ _ _ _ _ hr9_0 hr9_1 hm2 hm3 hm4 hm5 ⟨by rw [g0]; exact l0, by rw [g0]; exact u0⟩ ⟨by rw [g1]; exact l1, by rw [g1]; exact u1⟩ ⟨by rw [g2]; exact l2, by rw [g2]; exact u2⟩ ⟨by rw [g3]; exact l3, by rw [g3]; exact u3⟩ ⟨by rw [g4]; exact l4, by rw [g4]; exact u4⟩ h5
theorem sg_wn3d_run (G : sx_G0 g L xs z9 hd_C ex_mt) (hct : ∀ (mi : Nat) (T2 : ex_T) (c' : sx_Ct), ex_mt mi = some T2 → c' ∈ k9 mi → c'.1 < 60 → sx_Holds g z9 hd_C T2 c') {σ : am_S} {lw : List (Nat × Value)} {post : Option (Option Value) → am_S → Prop} (hM : sx_M z9 hd_C σ 0 0 σ) (hl : (0, Value.ref 3) ∈ lw) (hlr1 : (1, Value.retAddr 19078) ∈ lw) {m2 : Int32} (hl2 : (2, Value.int m2) ∈ lw) (bl2 : 0 ≤ m2.toInt ∧ m2.toInt ≤ 9) {m3 : Int32} (hl3 : (3, Value.int m3) ∈ lw) (bl3 : 0 ≤ m3.toInt ∧ m3.toInt ≤ 45) {m4 : Int32} (hl4 : (4, Value.int m4) ∈ lw) (bl4 : 0 ≤ m4.toInt ∧ m4.toInt ≤ 0) {m5 : Int32} (hl5 : (5, Value.int m5) ∈ lw) (bl5 : 0 ≤ m5.toInt ∧ m5.toInt ≤ 44) {n0 : Int32} (bk0 : 32 ≤ n0.toInt ∧ n0.toInt ≤ 32) (cuta : ∀ (lw' : List (Nat × Value)) (m2' : Int32) (m3' : Int32) (m4' : Int32) (m5' : Int32) (n0' : Int32) (σ' : am_S), (0, Value.ref 3) ∈ lw' → (1, Value.retAddr 19078) ∈ lw' → (2, Value.int m2') ∈ lw' → (3, Value.int m3') ∈ lw' → (4, Value.int m4') ∈ lw' → (5, Value.int m5') ∈ lw' → ((-1) ≤ 1 * m5.toInt + ((-1) * m5'.toInt + 0) ∧ 1 * m5.toInt + ((-1) * m5'.toInt + 0) ≤ (-1)) → ((-1) ≤ 1 * m5.toInt + ((-1) * n0'.toInt + 0) ∧ 1 * m5.toInt + ((-1) * n0'.toInt + 0) ≤ (-1)) → ((-1) ≤ 1 * m2.toInt + ((-1) * m2'.toInt + 0) ∧ 1 * m2.toInt + ((-1) * m2'.toInt + 0) ≤ (-1)) → (0 ≤ 1 * m3'.toInt + 0 ∧ 1 * m3'.toInt + 0 ≤ 0) → (1 ≤ 1 * m4'.toInt + 0 ∧ 1 * m4'.toInt + 0 ≤ 1) → sx_M z9 hd_C σ 0 0 σ' → am_K g 15 tX6_wordOf.1 0 0 23 lw' [.retAddr 19078, .int n0'] σ' post) : am_K g 15 tX6_wordOf.1 0 0 35 lw [.int n0] σ post := by
  refine sg_seg (sw := [.int n0]) (vs := [m2.toInt, m3.toInt, m4.toInt, m5.toInt]) (ws := [n0.toInt]) G (mi := 252) rfl hct sg_wn3d_ok ⟨⟨m2, hl2, rfl⟩, ⟨⟨m3, hl3, rfl⟩, ⟨⟨m4, hl4, rfl⟩, ⟨⟨m5, hl5, rfl⟩, trivial⟩⟩⟩⟩ (hd_rfc hl (hd_rfcx hlr1 hd_rfn)) ⟨⟨n0, rfl, rfl⟩, trivial⟩ (hd_p1 rfl bl2.1 bl2.2 (hd_p1 rfl bl3.1 bl3.2 (hd_p1 rfl bl4.1 bl4.2 (hd_p1 rfl bl5.1 bl5.2 (hd_p1 rfl bk0.1 bk0.2 hd_p0))))) hM ?_ ?_
  · intro r σ' hq
    cases r with
    | none => exact hq.elim
    | some v =>
      obtain ⟨p, hp, hM2, ks, hk, hv⟩ := hq
      cases hp
  · intro u hu
    simp only [List.mem_cons, List.not_mem_nil, or_false] at hu
    rcases hu with rfl
    · intro lw' sw' vs' ws' σ' ⟨h1_0, h2, h3_0, h4, h5⟩
      obtain ⟨m2', vs1, rfl, hm2, h1_1⟩ := hd_srcl h1_0
      obtain ⟨m3', vs2, rfl, hm3, h1_2⟩ := hd_srcl h1_1
      obtain ⟨m4', vs3, rfl, hm4, h1_3⟩ := hd_srcl h1_2
      obtain ⟨m5', vs4, rfl, hm5, h1_4⟩ := hd_srcl h1_3
      obtain rfl := hd_src0 h1_4
      obtain ⟨sw1, rfl, h3_1⟩ := hd_strx h3_0
      obtain ⟨n0', sw2, ws2, rfl, rfl, h3_2⟩ := hd_sti h3_1
      obtain ⟨rfl, rfl⟩ := hd_st0 h3_2
      have hr9_0 := hd_rfh h2
      have hr9_1 := hd_rfhx (hd_rfT h2)
      obtain ⟨v0, e0, l0, u0⟩ := h4 _ (List.mem_cons_self)
      have g0 : 1 * m5.toInt + ((-1) * m5'.toInt + 0) = v0 := Option.some.inj e0
      obtain ⟨v1, e1, l1, u1⟩ := h4 _ (List.mem_cons_of_mem _ (List.mem_cons_self))
      have g1 : 1 * m5.toInt + ((-1) * n0'.toInt + 0) = v1 := Option.some.inj e1
      obtain ⟨v2, e2, l2, u2⟩ := h4 _ (List.mem_cons_of_mem _ (List.mem_cons_of_mem _ (List.mem_cons_self)))
      have g2 : 1 * m2.toInt + ((-1) * m2'.toInt + 0) = v2 := Option.some.inj e2
      obtain ⟨v3, e3, l3, u3⟩ := h4 _ (List.mem_cons_of_mem _ (List.mem_cons_of_mem _ (List.mem_cons_of_mem _ (List.mem_cons_self))))
      have g3 : 1 * m3'.toInt + 0 = v3 := Option.some.inj e3
      obtain ⟨v4, e4, l4, u4⟩ := h4 _ (List.mem_cons_of_mem _ (List.mem_cons_of_mem _ (List.mem_cons_of_mem _ (List.mem_cons_of_mem _ (List.mem_cons_self)))))
      have g4 : 1 * m4'.toInt + 0 = v4 := Option.some.inj e4
      exact cuta _ _ _ _ _ _ _ hr9_0 hr9_1 hm2 hm3 hm4 hm5 ⟨by rw [g0]; exact l0, by rw [g0]; exact u0⟩ ⟨by rw [g1]; exact l1, by rw [g1]; exact u1⟩ ⟨by rw [g2]; exact l2, by rw [g2]; exact u2⟩ ⟨by rw [g3]; exact l3, by rw [g3]; exact u3⟩ ⟨by rw [g4]; exact l4, by rw [g4]; exact u4⟩ h5
theorem sg_wn3e_run (G : sx_G0 g L xs z9 hd_C ex_mt) (hct : ∀ (mi : Nat) (T2 : ex_T) (c' : sx_Ct), ex_mt mi = some T2 → c' ∈ k9 mi → c'.1 < 60 → sx_Holds g z9 hd_C T2 c') {σ : am_S} {lw : List (Nat × Value)} {post : Option (Option Value) → am_S → Prop} (hM : sx_M z9 hd_C σ 0 0 σ) (hl : (0, Value.ref 3) ∈ lw) (hlr1 : (1, Value.retAddr 19078) ∈ lw) {m2 : Int32} (hl2 : (2, Value.int m2) ∈ lw) (bl2 : 0 ≤ m2.toInt ∧ m2.toInt ≤ 10) {m3 : Int32} (hl3 : (3, Value.int m3) ∈ lw) (bl3 : 0 ≤ m3.toInt ∧ m3.toInt ≤ 44) {m4 : Int32} (hl4 : (4, Value.int m4) ∈ lw) (bl4 : 0 ≤ m4.toInt ∧ m4.toInt ≤ 0) {m5 : Int32} (hl5 : (5, Value.int m5) ∈ lw) (bl5 : 0 ≤ m5.toInt ∧ m5.toInt ≤ 44) {n0 : Int32} (bk0 : 97 ≤ n0.toInt ∧ n0.toInt ≤ 122) (cuta : ∀ (lw' : List (Nat × Value)) (m2' : Int32) (m3' : Int32) (m4' : Int32) (m5' : Int32) (n0' : Int32) (σ' : am_S), (0, Value.ref 3) ∈ lw' → (1, Value.retAddr 19078) ∈ lw' → (2, Value.int m2') ∈ lw' → (3, Value.int m3') ∈ lw' → (4, Value.int m4') ∈ lw' → (5, Value.int m5') ∈ lw' → ((-1) ≤ 1 * m5.toInt + ((-1) * m5'.toInt + 0) ∧ 1 * m5.toInt + ((-1) * m5'.toInt + 0) ≤ (-1)) → ((-1) ≤ 1 * m5.toInt + ((-1) * n0'.toInt + 0) ∧ 1 * m5.toInt + ((-1) * n0'.toInt + 0) ≤ (-1)) → (0 ≤ 1 * m2.toInt + ((-1) * m2'.toInt + 0) ∧ 1 * m2.toInt + ((-1) * m2'.toInt + 0) ≤ 0) → ((-1) ≤ 1 * m3.toInt + ((-1) * m3'.toInt + 0) ∧ 1 * m3.toInt + ((-1) * m3'.toInt + 0) ≤ (-1)) → (0 ≤ 1 * m4'.toInt + 0 ∧ 1 * m4'.toInt + 0 ≤ 0) → sx_M z9 hd_C σ 0 0 σ' → am_K g 15 tX6_wordOf.1 0 0 23 lw' [.retAddr 19078, .int n0'] σ' post) : am_K g 15 tX6_wordOf.1 0 0 35 lw [.int n0] σ post := by
  refine sg_seg (sw := [.int n0]) (vs := [m2.toInt, m3.toInt, m4.toInt, m5.toInt]) (ws := [n0.toInt]) G (mi := 252) rfl hct sg_wn3e_ok ⟨⟨m2, hl2, rfl⟩, ⟨⟨m3, hl3, rfl⟩, ⟨⟨m4, hl4, rfl⟩, ⟨⟨m5, hl5, rfl⟩, trivial⟩⟩⟩⟩ (hd_rfc hl (hd_rfcx hlr1 hd_rfn)) ⟨⟨n0, rfl, rfl⟩, trivial⟩ (hd_p1 rfl bl2.1 bl2.2 (hd_p1 rfl bl3.1 bl3.2 (hd_p1 rfl bl4.1 bl4.2 (hd_p1 rfl bl5.1 bl5.2 (hd_p1 rfl bk0.1 bk0.2 hd_p0))))) hM ?_ ?_
  · intro r σ' hq
    cases r with
    | none => exact hq.elim
    | some v =>
      obtain ⟨p, hp, hM2, ks, hk, hv⟩ := hq
      cases hp
  · intro u hu
    simp only [List.mem_cons, List.not_mem_nil, or_false] at hu
    rcases hu with rfl
    · intro lw' sw' vs' ws' σ' ⟨h1_0, h2, h3_0, h4, h5⟩
      obtain ⟨m2', vs1, rfl, hm2, h1_1⟩ := hd_srcl h1_0
      obtain ⟨m3', vs2, rfl, hm3, h1_2⟩ := hd_srcl h1_1
      obtain ⟨m4', vs3, rfl, hm4, h1_3⟩ := hd_srcl h1_2
      obtain ⟨m5', vs4, rfl, hm5, h1_4⟩ := hd_srcl h1_3
      obtain rfl := hd_src0 h1_4
      obtain ⟨sw1, rfl, h3_1⟩ := hd_strx h3_0
      obtain ⟨n0', sw2, ws2, rfl, rfl, h3_2⟩ := hd_sti h3_1
      obtain ⟨rfl, rfl⟩ := hd_st0 h3_2
      have hr9_0 := hd_rfh h2
      have hr9_1 := hd_rfhx (hd_rfT h2)
      obtain ⟨v0, e0, l0, u0⟩ := h4 _ (List.mem_cons_self)
      have g0 : 1 * m5.toInt + ((-1) * m5'.toInt + 0) = v0 := Option.some.inj e0
      obtain ⟨v1, e1, l1, u1⟩ := h4 _ (List.mem_cons_of_mem _ (List.mem_cons_self))
      have g1 : 1 * m5.toInt + ((-1) * n0'.toInt + 0) = v1 := Option.some.inj e1
      obtain ⟨v2, e2, l2, u2⟩ := h4 _ (List.mem_cons_of_mem _ (List.mem_cons_of_mem _ (List.mem_cons_self)))
      have g2 : 1 * m2.toInt + ((-1) * m2'.toInt + 0) = v2 := Option.some.inj e2
      obtain ⟨v3, e3, l3, u3⟩ := h4 _ (List.mem_cons_of_mem _ (List.mem_cons_of_mem _ (List.mem_cons_of_mem _ (List.mem_cons_self))))
      have g3 : 1 * m3.toInt + ((-1) * m3'.toInt + 0) = v3 := Option.some.inj e3
      obtain ⟨v4, e4, l4, u4⟩ := h4 _ (List.mem_cons_of_mem _ (List.mem_cons_of_mem _ (List.mem_cons_of_mem _ (List.mem_cons_of_mem _ (List.mem_cons_self)))))
      have g4 : 1 * m4'.toInt + 0 = v4 := Option.some.inj e4
      exact cuta _ _ _ _ _ _ _ hr9_0 hr9_1 hm2 hm3 hm4 hm5 ⟨by rw [g0]; exact l0, by rw [g0]; exact u0⟩ ⟨by rw [g1]; exact l1, by rw [g1]; exact u1⟩ ⟨by rw [g2]; exact l2, by rw [g2]; exact u2⟩ ⟨by rw [g3]; exact l3, by rw [g3]; exact u3⟩ ⟨by rw [g4]; exact l4, by rw [g4]; exact u4⟩ h5
theorem sg_wn3f_run (G : sx_G0 g L xs z9 hd_C ex_mt) (hct : ∀ (mi : Nat) (T2 : ex_T) (c' : sx_Ct), ex_mt mi = some T2 → c' ∈ k9 mi → c'.1 < 60 → sx_Holds g z9 hd_C T2 c') {σ : am_S} {lw : List (Nat × Value)} {post : Option (Option Value) → am_S → Prop} (hM : sx_M z9 hd_C σ 0 0 σ) (hl : (0, Value.ref 3) ∈ lw) (hlr1 : (1, Value.retAddr 19078) ∈ lw) {m2 : Int32} (hl2 : (2, Value.int m2) ∈ lw) (bl2 : 0 ≤ m2.toInt ∧ m2.toInt ≤ 10) {m3 : Int32} (hl3 : (3, Value.int m3) ∈ lw) (bl3 : 0 ≤ m3.toInt ∧ m3.toInt ≤ 44) {m4 : Int32} (hl4 : (4, Value.int m4) ∈ lw) (bl4 : 1 ≤ m4.toInt ∧ m4.toInt ≤ 1) {m5 : Int32} (hl5 : (5, Value.int m5) ∈ lw) (bl5 : 0 ≤ m5.toInt ∧ m5.toInt ≤ 44) {n0 : Int32} (bk0 : 97 ≤ n0.toInt ∧ n0.toInt ≤ 122) (bf0 : 0 ≤ 1 * m3.toInt + ((-1) * (σ.2.1 3 5).toInt + 0) ∧ 1 * m3.toInt + ((-1) * (σ.2.1 3 5).toInt + 0) ≤ 4611686018427387904) (cuta : ∀ (lw' : List (Nat × Value)) (m2' : Int32) (m3' : Int32) (m4' : Int32) (m5' : Int32) (n0' : Int32) (σ' : am_S), (0, Value.ref 3) ∈ lw' → (1, Value.retAddr 19078) ∈ lw' → (2, Value.int m2') ∈ lw' → (3, Value.int m3') ∈ lw' → (4, Value.int m4') ∈ lw' → (5, Value.int m5') ∈ lw' → ((-1) ≤ 1 * m5.toInt + ((-1) * m5'.toInt + 0) ∧ 1 * m5.toInt + ((-1) * m5'.toInt + 0) ≤ (-1)) → ((-1) ≤ 1 * m5.toInt + ((-1) * n0'.toInt + 0) ∧ 1 * m5.toInt + ((-1) * n0'.toInt + 0) ≤ (-1)) → (0 ≤ 1 * m2.toInt + ((-1) * m2'.toInt + 0) ∧ 1 * m2.toInt + ((-1) * m2'.toInt + 0) ≤ 0) → ((-1) ≤ 1 * m3.toInt + ((-1) * m3'.toInt + 0) ∧ 1 * m3.toInt + ((-1) * m3'.toInt + 0) ≤ (-1)) → (0 ≤ 1 * m4'.toInt + 0 ∧ 1 * m4'.toInt + 0 ≤ 0) → sx_M z9 hd_C σ 0 0 σ' → am_K g 15 tX6_wordOf.1 0 0 23 lw' [.retAddr 19078, .int n0'] σ' post) : am_K g 15 tX6_wordOf.1 0 0 35 lw [.int n0] σ post := by
  refine sg_seg (sw := [.int n0]) (vs := [m2.toInt, m3.toInt, m4.toInt, m5.toInt, (σ.2.1 3 5).toInt]) (ws := [n0.toInt]) G (mi := 252) rfl hct sg_wn3f_ok ⟨⟨m2, hl2, rfl⟩, ⟨⟨m3, hl3, rfl⟩, ⟨⟨m4, hl4, rfl⟩, ⟨⟨m5, hl5, rfl⟩, ⟨rfl, trivial⟩⟩⟩⟩⟩ (hd_rfc hl (hd_rfcx hlr1 hd_rfn)) ⟨⟨n0, rfl, rfl⟩, trivial⟩ (hd_p1 rfl bl2.1 bl2.2 (hd_p1 rfl bl3.1 bl3.2 (hd_p1 rfl bl4.1 bl4.2 (hd_p1 rfl bl5.1 bl5.2 (hd_p1 rfl (hd_kd_3_5 hM).1 (hd_kd_3_5 hM).2 (hd_p1 rfl bk0.1 bk0.2 (hd_pf rfl bf0.1 bf0.2 hd_p0))))))) hM ?_ ?_
  · intro r σ' hq
    cases r with
    | none => exact hq.elim
    | some v =>
      obtain ⟨p, hp, hM2, ks, hk, hv⟩ := hq
      cases hp
  · intro u hu
    simp only [List.mem_cons, List.not_mem_nil, or_false] at hu
    rcases hu with rfl
    · intro lw' sw' vs' ws' σ' ⟨h1_0, h2, h3_0, h4, h5⟩
      obtain ⟨m2', vs1, rfl, hm2, h1_1⟩ := hd_srcl h1_0
      obtain ⟨m3', vs2, rfl, hm3, h1_2⟩ := hd_srcl h1_1
      obtain ⟨m4', vs3, rfl, hm4, h1_3⟩ := hd_srcl h1_2
      obtain ⟨m5', vs4, rfl, hm5, h1_4⟩ := hd_srcl h1_3
      obtain rfl := hd_src0 h1_4
      obtain ⟨sw1, rfl, h3_1⟩ := hd_strx h3_0
      obtain ⟨n0', sw2, ws2, rfl, rfl, h3_2⟩ := hd_sti h3_1
      obtain ⟨rfl, rfl⟩ := hd_st0 h3_2
      have hr9_0 := hd_rfh h2
      have hr9_1 := hd_rfhx (hd_rfT h2)
      obtain ⟨v0, e0, l0, u0⟩ := h4 _ (List.mem_cons_self)
      have g0 : 1 * m5.toInt + ((-1) * m5'.toInt + 0) = v0 := Option.some.inj e0
      obtain ⟨v1, e1, l1, u1⟩ := h4 _ (List.mem_cons_of_mem _ (List.mem_cons_self))
      have g1 : 1 * m5.toInt + ((-1) * n0'.toInt + 0) = v1 := Option.some.inj e1
      obtain ⟨v2, e2, l2, u2⟩ := h4 _ (List.mem_cons_of_mem _ (List.mem_cons_of_mem _ (List.mem_cons_self)))
      have g2 : 1 * m2.toInt + ((-1) * m2'.toInt + 0) = v2 := Option.some.inj e2
      obtain ⟨v3, e3, l3, u3⟩ := h4 _ (List.mem_cons_of_mem _ (List.mem_cons_of_mem _ (List.mem_cons_of_mem _ (List.mem_cons_self))))
      have g3 : 1 * m3.toInt + ((-1) * m3'.toInt + 0) = v3 := Option.some.inj e3
      obtain ⟨v4, e4, l4, u4⟩ := h4 _ (List.mem_cons_of_mem _ (List.mem_cons_of_mem _ (List.mem_cons_of_mem _ (List.mem_cons_of_mem _ (List.mem_cons_self)))))
      have g4 : 1 * m4'.toInt + 0 = v4 := Option.some.inj e4
      exact cuta _ _ _ _ _ _ _ hr9_0 hr9_1 hm2 hm3 hm4 hm5 ⟨by rw [g0]; exact l0, by rw [g0]; exact u0⟩ ⟨by rw [g1]; exact l1, by rw [g1]; exact u1⟩ ⟨by rw [g2]; exact l2, by rw [g2]; exact u2⟩ ⟨by rw [g3]; exact l3, by rw [g3]; exact u3⟩ ⟨by rw [g4]; exact l4, by rw [g4]; exact u4⟩ h5
theorem sg_wn3g_run (G : sx_G0 g L xs z9 hd_C ex_mt) (hct : ∀ (mi : Nat) (T2 : ex_T) (c' : sx_Ct), ex_mt mi = some T2 → c' ∈ k9 mi → c'.1 < 60 → sx_Holds g z9 hd_C T2 c') {σ : am_S} {lw : List (Nat × Value)} {post : Option (Option Value) → am_S → Prop} (hM : sx_M z9 hd_C σ 0 0 σ) (hl : (0, Value.ref 3) ∈ lw) (hlr1 : (1, Value.retAddr 19078) ∈ lw) {m2 : Int32} (hl2 : (2, Value.int m2) ∈ lw) (bl2 : 0 ≤ m2.toInt ∧ m2.toInt ≤ 10) {m3 : Int32} (hl3 : (3, Value.int m3) ∈ lw) (bl3 : 0 ≤ m3.toInt ∧ m3.toInt ≤ 44) {m4 : Int32} (hl4 : (4, Value.int m4) ∈ lw) (bl4 : 1 ≤ m4.toInt ∧ m4.toInt ≤ 1) {m5 : Int32} (hl5 : (5, Value.int m5) ∈ lw) (bl5 : 0 ≤ m5.toInt ∧ m5.toInt ≤ 44) (bp3_4 : 0 ≤ (σ.2.1 3 4).toInt ∧ (σ.2.1 3 4).toInt ≤ 940) {n0 : Int32} (bk0 : 97 ≤ n0.toInt ∧ n0.toInt ≤ 122) (bf0 : (-4611686018427387904) ≤ 1 * m3.toInt + ((-1) * (σ.2.1 3 5).toInt + 0) ∧ 1 * m3.toInt + ((-1) * (σ.2.1 3 5).toInt + 0) ≤ (-1)) (cuta : ∀ (lw' : List (Nat × Value)) (m2' : Int32) (m3' : Int32) (m4' : Int32) (m5' : Int32) (m6' : Int32) (n0' : Int32) (σ' : am_S), (0, Value.ref 3) ∈ lw' → (1, Value.retAddr 19078) ∈ lw' → (2, Value.int m2') ∈ lw' → (3, Value.int m3') ∈ lw' → (4, Value.int m4') ∈ lw' → (5, Value.int m5') ∈ lw' → (6, Value.int m6') ∈ lw' → (0 ≤ 1 * m3.toInt + (1 * (σ.2.1 3 4).toInt + ((-1) * n0'.toInt + 0)) ∧ 1 * m3.toInt + (1 * (σ.2.1 3 4).toInt + ((-1) * n0'.toInt + 0)) ≤ 0) → (0 ≤ 1 * m5.toInt + ((-1) * m5'.toInt + 0) ∧ 1 * m5.toInt + ((-1) * m5'.toInt + 0) ≤ 0) → (0 ≤ 1 * n0.toInt + ((-1) * m6'.toInt + 0) ∧ 1 * n0.toInt + ((-1) * m6'.toInt + 0) ≤ 0) → (0 ≤ 1 * m2.toInt + ((-1) * m2'.toInt + 0) ∧ 1 * m2.toInt + ((-1) * m2'.toInt + 0) ≤ 0) → (0 ≤ 1 * m3.toInt + ((-1) * m3'.toInt + 0) ∧ 1 * m3.toInt + ((-1) * m3'.toInt + 0) ≤ 0) → (0 ≤ 1 * m4.toInt + ((-1) * m4'.toInt + 0) ∧ 1 * m4.toInt + ((-1) * m4'.toInt + 0) ≤ 0) → sx_M z9 hd_C σ 0 0 σ' → am_K g 15 tX6_wordOf.1 0 0 67 lw' [.int n0', .ref 1] σ' post) : am_K g 15 tX6_wordOf.1 0 0 35 lw [.int n0] σ post := by
  refine sg_seg (sw := [.int n0]) (vs := [m2.toInt, m3.toInt, m4.toInt, m5.toInt, (σ.2.1 3 5).toInt, (σ.2.1 3 4).toInt]) (ws := [n0.toInt]) G (mi := 252) rfl hct sg_wn3g_ok ⟨⟨m2, hl2, rfl⟩, ⟨⟨m3, hl3, rfl⟩, ⟨⟨m4, hl4, rfl⟩, ⟨⟨m5, hl5, rfl⟩, ⟨rfl, ⟨rfl, trivial⟩⟩⟩⟩⟩⟩ (hd_rfc hl (hd_rfcx hlr1 hd_rfn)) ⟨⟨n0, rfl, rfl⟩, trivial⟩ (hd_p1 rfl bl2.1 bl2.2 (hd_p1 rfl bl3.1 bl3.2 (hd_p1 rfl bl4.1 bl4.2 (hd_p1 rfl bl5.1 bl5.2 (hd_p1 rfl (hd_kd_3_5 hM).1 (hd_kd_3_5 hM).2 (hd_p1 rfl bp3_4.1 bp3_4.2 (hd_p1 rfl bk0.1 bk0.2 (hd_pf rfl bf0.1 bf0.2 hd_p0)))))))) hM ?_ ?_
  · intro r σ' hq
    cases r with
    | none => exact hq.elim
    | some v =>
      obtain ⟨p, hp, hM2, ks, hk, hv⟩ := hq
      cases hp
  · intro u hu
    simp only [List.mem_cons, List.not_mem_nil, or_false] at hu
    rcases hu with rfl
    · intro lw' sw' vs' ws' σ' ⟨h1_0, h2, h3_0, h4, h5⟩
      obtain ⟨m2', vs1, rfl, hm2, h1_1⟩ := hd_srcl h1_0
      obtain ⟨m3', vs2, rfl, hm3, h1_2⟩ := hd_srcl h1_1
      obtain ⟨m4', vs3, rfl, hm4, h1_3⟩ := hd_srcl h1_2
      obtain ⟨m5', vs4, rfl, hm5, h1_4⟩ := hd_srcl h1_3
      obtain ⟨m6', vs5, rfl, hm6, h1_5⟩ := hd_srcl h1_4
      obtain rfl := hd_src0 h1_5
      obtain ⟨n0', sw1, ws1, rfl, rfl, h3_1⟩ := hd_sti h3_0
      obtain ⟨sw2, rfl, h3_2⟩ := hd_str h3_1
      obtain ⟨rfl, rfl⟩ := hd_st0 h3_2
      have hr9_0 := hd_rfh h2
      have hr9_1 := hd_rfhx (hd_rfT h2)
      obtain ⟨v0, e0, l0, u0⟩ := h4 _ (List.mem_cons_self)
      have g0 : 1 * m3.toInt + (1 * (σ.2.1 3 4).toInt + ((-1) * n0'.toInt + 0)) = v0 := Option.some.inj e0
      obtain ⟨v1, e1, l1, u1⟩ := h4 _ (List.mem_cons_of_mem _ (List.mem_cons_self))
      have g1 : 1 * m5.toInt + ((-1) * m5'.toInt + 0) = v1 := Option.some.inj e1
      obtain ⟨v2, e2, l2, u2⟩ := h4 _ (List.mem_cons_of_mem _ (List.mem_cons_of_mem _ (List.mem_cons_self)))
      have g2 : 1 * n0.toInt + ((-1) * m6'.toInt + 0) = v2 := Option.some.inj e2
      obtain ⟨v3, e3, l3, u3⟩ := h4 _ (List.mem_cons_of_mem _ (List.mem_cons_of_mem _ (List.mem_cons_of_mem _ (List.mem_cons_self))))
      have g3 : 1 * m2.toInt + ((-1) * m2'.toInt + 0) = v3 := Option.some.inj e3
      obtain ⟨v4, e4, l4, u4⟩ := h4 _ (List.mem_cons_of_mem _ (List.mem_cons_of_mem _ (List.mem_cons_of_mem _ (List.mem_cons_of_mem _ (List.mem_cons_self)))))
      have g4 : 1 * m3.toInt + ((-1) * m3'.toInt + 0) = v4 := Option.some.inj e4
      obtain ⟨v5, e5, l5, u5⟩ := h4 _ (List.mem_cons_of_mem _ (List.mem_cons_of_mem _ (List.mem_cons_of_mem _ (List.mem_cons_of_mem _ (List.mem_cons_of_mem _ (List.mem_cons_self))))))
      have g5 : 1 * m4.toInt + ((-1) * m4'.toInt + 0) = v5 := Option.some.inj e5
      exact cuta _ _ _ _ _ _ _ _ hr9_0 hr9_1 hm2 hm3 hm4 hm5 hm6 ⟨by rw [g0]; exact l0, by rw [g0]; exact u0⟩ ⟨by rw [g1]; exact l1, by rw [g1]; exact u1⟩ ⟨by rw [g2]; exact l2, by rw [g2]; exact u2⟩ ⟨by rw [g3]; exact l3, by rw [g3]; exact u3⟩ ⟨by rw [g4]; exact l4, by rw [g4]; exact u4⟩ ⟨by rw [g5]; exact l5, by rw [g5]; exact u5⟩ h5
theorem sg_wn4a_run (G : sx_G0 g L xs z9 hd_C ex_mt) (hct : ∀ (mi : Nat) (T2 : ex_T) (c' : sx_Ct), ex_mt mi = some T2 → c' ∈ k9 mi → c'.1 < 60 → sx_Holds g z9 hd_C T2 c') {σ : am_S} {lw : List (Nat × Value)} {post : Option (Option Value) → am_S → Prop} (hM : sx_M z9 hd_C σ 0 0 σ) (hl : (0, Value.ref 3) ∈ lw) (hlr1 : (1, Value.retAddr 19078) ∈ lw) {m2 : Int32} (hl2 : (2, Value.int m2) ∈ lw) (bl2 : 0 ≤ m2.toInt ∧ m2.toInt ≤ 10) {m3 : Int32} (hl3 : (3, Value.int m3) ∈ lw) (bl3 : 0 ≤ m3.toInt ∧ m3.toInt ≤ 44) {m4 : Int32} (hl4 : (4, Value.int m4) ∈ lw) (bl4 : 0 ≤ m4.toInt ∧ m4.toInt ≤ 1) {m5 : Int32} (hl5 : (5, Value.int m5) ∈ lw) (bl5 : 0 ≤ m5.toInt ∧ m5.toInt ≤ 44) {m6 : Int32} (hl6 : (6, Value.int m6) ∈ lw) {n0 : Int32} (bf0 : 1 ≤ 1 * m6.toInt + ((-1) * n0.toInt + 0) ∧ 1 * m6.toInt + ((-1) * n0.toInt + 0) ≤ 4611686018427387904) (cuta : ∀ (lw' : List (Nat × Value)) (m2' : Int32) (m3' : Int32) (m4' : Int32) (m5' : Int32) (n0' : Int32) (σ' : am_S), (0, Value.ref 3) ∈ lw' → (1, Value.retAddr 19078) ∈ lw' → (2, Value.int m2') ∈ lw' → (3, Value.int m3') ∈ lw' → (4, Value.int m4') ∈ lw' → (5, Value.int m5') ∈ lw' → ((-1) ≤ 1 * m5.toInt + ((-1) * m5'.toInt + 0) ∧ 1 * m5.toInt + ((-1) * m5'.toInt + 0) ≤ (-1)) → ((-1) ≤ 1 * m5.toInt + ((-1) * n0'.toInt + 0) ∧ 1 * m5.toInt + ((-1) * n0'.toInt + 0) ≤ (-1)) → (0 ≤ 1 * m2.toInt + ((-1) * m2'.toInt + 0) ∧ 1 * m2.toInt + ((-1) * m2'.toInt + 0) ≤ 0) → ((-1) ≤ 1 * m3.toInt + ((-1) * m3'.toInt + 0) ∧ 1 * m3.toInt + ((-1) * m3'.toInt + 0) ≤ (-1)) → (0 ≤ 1 * m4'.toInt + 0 ∧ 1 * m4'.toInt + 0 ≤ 0) → sx_M z9 hd_C σ 0 0 σ' → am_K g 15 tX6_wordOf.1 0 0 23 lw' [.retAddr 19078, .int n0'] σ' post) : am_K g 15 tX6_wordOf.1 0 0 70 lw [.int n0] σ post := by
  refine sg_seg (sw := [.int n0]) (vs := [m2.toInt, m3.toInt, m4.toInt, m5.toInt, m6.toInt]) (ws := [n0.toInt]) G (mi := 252) rfl hct sg_wn4a_ok ⟨⟨m2, hl2, rfl⟩, ⟨⟨m3, hl3, rfl⟩, ⟨⟨m4, hl4, rfl⟩, ⟨⟨m5, hl5, rfl⟩, ⟨⟨m6, hl6, rfl⟩, trivial⟩⟩⟩⟩⟩ (hd_rfc hl (hd_rfcx hlr1 hd_rfn)) ⟨⟨n0, rfl, rfl⟩, trivial⟩ (hd_p1 rfl bl2.1 bl2.2 (hd_p1 rfl bl3.1 bl3.2 (hd_p1 rfl bl4.1 bl4.2 (hd_p1 rfl bl5.1 bl5.2 (hd_p1 rfl (Int32.le_toInt _) (Int32.toInt_le _) (hd_p1 rfl (Int32.le_toInt _) (Int32.toInt_le _) (hd_pf rfl bf0.1 bf0.2 hd_p0))))))) hM ?_ ?_
  · intro r σ' hq
    cases r with
    | none => exact hq.elim
    | some v =>
      obtain ⟨p, hp, hM2, ks, hk, hv⟩ := hq
      cases hp
  · intro u hu
    simp only [List.mem_cons, List.not_mem_nil, or_false] at hu
    rcases hu with rfl
    · intro lw' sw' vs' ws' σ' ⟨h1_0, h2, h3_0, h4, h5⟩
      obtain ⟨m2', vs1, rfl, hm2, h1_1⟩ := hd_srcl h1_0
      obtain ⟨m3', vs2, rfl, hm3, h1_2⟩ := hd_srcl h1_1
      obtain ⟨m4', vs3, rfl, hm4, h1_3⟩ := hd_srcl h1_2
      obtain ⟨m5', vs4, rfl, hm5, h1_4⟩ := hd_srcl h1_3
      obtain rfl := hd_src0 h1_4
      obtain ⟨sw1, rfl, h3_1⟩ := hd_strx h3_0
      obtain ⟨n0', sw2, ws2, rfl, rfl, h3_2⟩ := hd_sti h3_1
      obtain ⟨rfl, rfl⟩ := hd_st0 h3_2
      have hr9_0 := hd_rfh h2
      have hr9_1 := hd_rfhx (hd_rfT h2)
      obtain ⟨v0, e0, l0, u0⟩ := h4 _ (List.mem_cons_self)
      have g0 : 1 * m5.toInt + ((-1) * m5'.toInt + 0) = v0 := Option.some.inj e0
      obtain ⟨v1, e1, l1, u1⟩ := h4 _ (List.mem_cons_of_mem _ (List.mem_cons_self))
      have g1 : 1 * m5.toInt + ((-1) * n0'.toInt + 0) = v1 := Option.some.inj e1
      obtain ⟨v2, e2, l2, u2⟩ := h4 _ (List.mem_cons_of_mem _ (List.mem_cons_of_mem _ (List.mem_cons_self)))
      have g2 : 1 * m2.toInt + ((-1) * m2'.toInt + 0) = v2 := Option.some.inj e2
      obtain ⟨v3, e3, l3, u3⟩ := h4 _ (List.mem_cons_of_mem _ (List.mem_cons_of_mem _ (List.mem_cons_of_mem _ (List.mem_cons_self))))
      have g3 : 1 * m3.toInt + ((-1) * m3'.toInt + 0) = v3 := Option.some.inj e3
      obtain ⟨v4, e4, l4, u4⟩ := h4 _ (List.mem_cons_of_mem _ (List.mem_cons_of_mem _ (List.mem_cons_of_mem _ (List.mem_cons_of_mem _ (List.mem_cons_self)))))
      have g4 : 1 * m4'.toInt + 0 = v4 := Option.some.inj e4
      exact cuta _ _ _ _ _ _ _ hr9_0 hr9_1 hm2 hm3 hm4 hm5 ⟨by rw [g0]; exact l0, by rw [g0]; exact u0⟩ ⟨by rw [g1]; exact l1, by rw [g1]; exact u1⟩ ⟨by rw [g2]; exact l2, by rw [g2]; exact u2⟩ ⟨by rw [g3]; exact l3, by rw [g3]; exact u3⟩ ⟨by rw [g4]; exact l4, by rw [g4]; exact u4⟩ h5
theorem sg_wn4b_run (G : sx_G0 g L xs z9 hd_C ex_mt) (hct : ∀ (mi : Nat) (T2 : ex_T) (c' : sx_Ct), ex_mt mi = some T2 → c' ∈ k9 mi → c'.1 < 60 → sx_Holds g z9 hd_C T2 c') {σ : am_S} {lw : List (Nat × Value)} {post : Option (Option Value) → am_S → Prop} (hM : sx_M z9 hd_C σ 0 0 σ) (hl : (0, Value.ref 3) ∈ lw) (hlr1 : (1, Value.retAddr 19078) ∈ lw) {m2 : Int32} (hl2 : (2, Value.int m2) ∈ lw) (bl2 : 0 ≤ m2.toInt ∧ m2.toInt ≤ 10) {m3 : Int32} (hl3 : (3, Value.int m3) ∈ lw) (bl3 : 0 ≤ m3.toInt ∧ m3.toInt ≤ 44) {m4 : Int32} (hl4 : (4, Value.int m4) ∈ lw) (bl4 : 0 ≤ m4.toInt ∧ m4.toInt ≤ 1) {m5 : Int32} (hl5 : (5, Value.int m5) ∈ lw) (bl5 : 0 ≤ m5.toInt ∧ m5.toInt ≤ 44) {m6 : Int32} (hl6 : (6, Value.int m6) ∈ lw) {n0 : Int32} (bf0 : 0 ≤ 1 * m6.toInt + ((-1) * n0.toInt + 0) ∧ 1 * m6.toInt + ((-1) * n0.toInt + 0) ≤ 0) (cuta : ∀ (lw' : List (Nat × Value)) (m2' : Int32) (m3' : Int32) (m4' : Int32) (m5' : Int32) (n0' : Int32) (σ' : am_S), (0, Value.ref 3) ∈ lw' → (1, Value.retAddr 19078) ∈ lw' → (2, Value.int m2') ∈ lw' → (3, Value.int m3') ∈ lw' → (4, Value.int m4') ∈ lw' → (5, Value.int m5') ∈ lw' → ((-1) ≤ 1 * m5.toInt + ((-1) * m5'.toInt + 0) ∧ 1 * m5.toInt + ((-1) * m5'.toInt + 0) ≤ (-1)) → ((-1) ≤ 1 * m5.toInt + ((-1) * n0'.toInt + 0) ∧ 1 * m5.toInt + ((-1) * n0'.toInt + 0) ≤ (-1)) → (0 ≤ 1 * m2.toInt + ((-1) * m2'.toInt + 0) ∧ 1 * m2.toInt + ((-1) * m2'.toInt + 0) ≤ 0) → ((-1) ≤ 1 * m3.toInt + ((-1) * m3'.toInt + 0) ∧ 1 * m3.toInt + ((-1) * m3'.toInt + 0) ≤ (-1)) → (1 ≤ 1 * m4'.toInt + 0 ∧ 1 * m4'.toInt + 0 ≤ 1) → sx_M z9 hd_C σ 0 0 σ' → am_K g 15 tX6_wordOf.1 0 0 23 lw' [.retAddr 19078, .int n0'] σ' post) : am_K g 15 tX6_wordOf.1 0 0 70 lw [.int n0] σ post := by
  refine sg_seg (sw := [.int n0]) (vs := [m2.toInt, m3.toInt, m4.toInt, m5.toInt, m6.toInt]) (ws := [n0.toInt]) G (mi := 252) rfl hct sg_wn4b_ok ⟨⟨m2, hl2, rfl⟩, ⟨⟨m3, hl3, rfl⟩, ⟨⟨m4, hl4, rfl⟩, ⟨⟨m5, hl5, rfl⟩, ⟨⟨m6, hl6, rfl⟩, trivial⟩⟩⟩⟩⟩ (hd_rfc hl (hd_rfcx hlr1 hd_rfn)) ⟨⟨n0, rfl, rfl⟩, trivial⟩ (hd_p1 rfl bl2.1 bl2.2 (hd_p1 rfl bl3.1 bl3.2 (hd_p1 rfl bl4.1 bl4.2 (hd_p1 rfl bl5.1 bl5.2 (hd_p1 rfl (Int32.le_toInt _) (Int32.toInt_le _) (hd_p1 rfl (Int32.le_toInt _) (Int32.toInt_le _) (hd_pf rfl bf0.1 bf0.2 hd_p0))))))) hM ?_ ?_
  · intro r σ' hq
    cases r with
    | none => exact hq.elim
    | some v =>
      obtain ⟨p, hp, hM2, ks, hk, hv⟩ := hq
      cases hp
  · intro u hu
    simp only [List.mem_cons, List.not_mem_nil, or_false] at hu
    rcases hu with rfl
    · intro lw' sw' vs' ws' σ' ⟨h1_0, h2, h3_0, h4, h5⟩
      obtain ⟨m2', vs1, rfl, hm2, h1_1⟩ := hd_srcl h1_0
      obtain ⟨m3', vs2, rfl, hm3, h1_2⟩ := hd_srcl h1_1
      obtain ⟨m4', vs3, rfl, hm4, h1_3⟩ := hd_srcl h1_2
      obtain ⟨m5', vs4, rfl, hm5, h1_4⟩ := hd_srcl h1_3
      obtain rfl := hd_src0 h1_4
      obtain ⟨sw1, rfl, h3_1⟩ := hd_strx h3_0
      obtain ⟨n0', sw2, ws2, rfl, rfl, h3_2⟩ := hd_sti h3_1
      obtain ⟨rfl, rfl⟩ := hd_st0 h3_2
      have hr9_0 := hd_rfh h2
      have hr9_1 := hd_rfhx (hd_rfT h2)
      obtain ⟨v0, e0, l0, u0⟩ := h4 _ (List.mem_cons_self)
      have g0 : 1 * m5.toInt + ((-1) * m5'.toInt + 0) = v0 := Option.some.inj e0
      obtain ⟨v1, e1, l1, u1⟩ := h4 _ (List.mem_cons_of_mem _ (List.mem_cons_self))
      have g1 : 1 * m5.toInt + ((-1) * n0'.toInt + 0) = v1 := Option.some.inj e1
      obtain ⟨v2, e2, l2, u2⟩ := h4 _ (List.mem_cons_of_mem _ (List.mem_cons_of_mem _ (List.mem_cons_self)))
      have g2 : 1 * m2.toInt + ((-1) * m2'.toInt + 0) = v2 := Option.some.inj e2
      obtain ⟨v3, e3, l3, u3⟩ := h4 _ (List.mem_cons_of_mem _ (List.mem_cons_of_mem _ (List.mem_cons_of_mem _ (List.mem_cons_self))))
      have g3 : 1 * m3.toInt + ((-1) * m3'.toInt + 0) = v3 := Option.some.inj e3
      obtain ⟨v4, e4, l4, u4⟩ := h4 _ (List.mem_cons_of_mem _ (List.mem_cons_of_mem _ (List.mem_cons_of_mem _ (List.mem_cons_of_mem _ (List.mem_cons_self)))))
      have g4 : 1 * m4'.toInt + 0 = v4 := Option.some.inj e4
      exact cuta _ _ _ _ _ _ _ hr9_0 hr9_1 hm2 hm3 hm4 hm5 ⟨by rw [g0]; exact l0, by rw [g0]; exact u0⟩ ⟨by rw [g1]; exact l1, by rw [g1]; exact u1⟩ ⟨by rw [g2]; exact l2, by rw [g2]; exact u2⟩ ⟨by rw [g3]; exact l3, by rw [g3]; exact u3⟩ ⟨by rw [g4]; exact l4, by rw [g4]; exact u4⟩ h5
theorem sg_wn4c_run (G : sx_G0 g L xs z9 hd_C ex_mt) (hct : ∀ (mi : Nat) (T2 : ex_T) (c' : sx_Ct), ex_mt mi = some T2 → c' ∈ k9 mi → c'.1 < 60 → sx_Holds g z9 hd_C T2 c') {σ : am_S} {lw : List (Nat × Value)} {post : Option (Option Value) → am_S → Prop} (hM : sx_M z9 hd_C σ 0 0 σ) (hl : (0, Value.ref 3) ∈ lw) (hlr1 : (1, Value.retAddr 19078) ∈ lw) {m2 : Int32} (hl2 : (2, Value.int m2) ∈ lw) (bl2 : 0 ≤ m2.toInt ∧ m2.toInt ≤ 10) {m3 : Int32} (hl3 : (3, Value.int m3) ∈ lw) (bl3 : 0 ≤ m3.toInt ∧ m3.toInt ≤ 44) {m4 : Int32} (hl4 : (4, Value.int m4) ∈ lw) (bl4 : 0 ≤ m4.toInt ∧ m4.toInt ≤ 1) {m5 : Int32} (hl5 : (5, Value.int m5) ∈ lw) (bl5 : 0 ≤ m5.toInt ∧ m5.toInt ≤ 44) {m6 : Int32} (hl6 : (6, Value.int m6) ∈ lw) {n0 : Int32} (bf0 : (-4611686018427387904) ≤ 1 * m6.toInt + ((-1) * n0.toInt + 0) ∧ 1 * m6.toInt + ((-1) * n0.toInt + 0) ≤ (-1)) (cuta : ∀ (lw' : List (Nat × Value)) (m2' : Int32) (m3' : Int32) (m4' : Int32) (m5' : Int32) (n0' : Int32) (σ' : am_S), (0, Value.ref 3) ∈ lw' → (1, Value.retAddr 19078) ∈ lw' → (2, Value.int m2') ∈ lw' → (3, Value.int m3') ∈ lw' → (4, Value.int m4') ∈ lw' → (5, Value.int m5') ∈ lw' → ((-1) ≤ 1 * m5.toInt + ((-1) * m5'.toInt + 0) ∧ 1 * m5.toInt + ((-1) * m5'.toInt + 0) ≤ (-1)) → ((-1) ≤ 1 * m5.toInt + ((-1) * n0'.toInt + 0) ∧ 1 * m5.toInt + ((-1) * n0'.toInt + 0) ≤ (-1)) → (0 ≤ 1 * m2.toInt + ((-1) * m2'.toInt + 0) ∧ 1 * m2.toInt + ((-1) * m2'.toInt + 0) ≤ 0) → ((-1) ≤ 1 * m3.toInt + ((-1) * m3'.toInt + 0) ∧ 1 * m3.toInt + ((-1) * m3'.toInt + 0) ≤ (-1)) → (0 ≤ 1 * m4'.toInt + 0 ∧ 1 * m4'.toInt + 0 ≤ 0) → sx_M z9 hd_C σ 0 0 σ' → am_K g 15 tX6_wordOf.1 0 0 23 lw' [.retAddr 19078, .int n0'] σ' post) : am_K g 15 tX6_wordOf.1 0 0 70 lw [.int n0] σ post := by
  refine sg_seg (sw := [.int n0]) (vs := [m2.toInt, m3.toInt, m4.toInt, m5.toInt, m6.toInt]) (ws := [n0.toInt]) G (mi := 252) rfl hct sg_wn4c_ok ⟨⟨m2, hl2, rfl⟩, ⟨⟨m3, hl3, rfl⟩, ⟨⟨m4, hl4, rfl⟩, ⟨⟨m5, hl5, rfl⟩, ⟨⟨m6, hl6, rfl⟩, trivial⟩⟩⟩⟩⟩ (hd_rfc hl (hd_rfcx hlr1 hd_rfn)) ⟨⟨n0, rfl, rfl⟩, trivial⟩ (hd_p1 rfl bl2.1 bl2.2 (hd_p1 rfl bl3.1 bl3.2 (hd_p1 rfl bl4.1 bl4.2 (hd_p1 rfl bl5.1 bl5.2 (hd_p1 rfl (Int32.le_toInt _) (Int32.toInt_le _) (hd_p1 rfl (Int32.le_toInt _) (Int32.toInt_le _) (hd_pf rfl bf0.1 bf0.2 hd_p0))))))) hM ?_ ?_
  · intro r σ' hq
    cases r with
    | none => exact hq.elim
    | some v =>
      obtain ⟨p, hp, hM2, ks, hk, hv⟩ := hq
      cases hp
  · intro u hu
    simp only [List.mem_cons, List.not_mem_nil, or_false] at hu
    rcases hu with rfl
    · intro lw' sw' vs' ws' σ' ⟨h1_0, h2, h3_0, h4, h5⟩
      obtain ⟨m2', vs1, rfl, hm2, h1_1⟩ := hd_srcl h1_0
      obtain ⟨m3', vs2, rfl, hm3, h1_2⟩ := hd_srcl h1_1
      obtain ⟨m4', vs3, rfl, hm4, h1_3⟩ := hd_srcl h1_2
      obtain ⟨m5', vs4, rfl, hm5, h1_4⟩ := hd_srcl h1_3
      obtain rfl := hd_src0 h1_4
      obtain ⟨sw1, rfl, h3_1⟩ := hd_strx h3_0
      obtain ⟨n0', sw2, ws2, rfl, rfl, h3_2⟩ := hd_sti h3_1
      obtain ⟨rfl, rfl⟩ := hd_st0 h3_2
      have hr9_0 := hd_rfh h2
      have hr9_1 := hd_rfhx (hd_rfT h2)
      obtain ⟨v0, e0, l0, u0⟩ := h4 _ (List.mem_cons_self)
      have g0 : 1 * m5.toInt + ((-1) * m5'.toInt + 0) = v0 := Option.some.inj e0
      obtain ⟨v1, e1, l1, u1⟩ := h4 _ (List.mem_cons_of_mem _ (List.mem_cons_self))
      have g1 : 1 * m5.toInt + ((-1) * n0'.toInt + 0) = v1 := Option.some.inj e1
      obtain ⟨v2, e2, l2, u2⟩ := h4 _ (List.mem_cons_of_mem _ (List.mem_cons_of_mem _ (List.mem_cons_self)))
      have g2 : 1 * m2.toInt + ((-1) * m2'.toInt + 0) = v2 := Option.some.inj e2
      obtain ⟨v3, e3, l3, u3⟩ := h4 _ (List.mem_cons_of_mem _ (List.mem_cons_of_mem _ (List.mem_cons_of_mem _ (List.mem_cons_self))))
      have g3 : 1 * m3.toInt + ((-1) * m3'.toInt + 0) = v3 := Option.some.inj e3
      obtain ⟨v4, e4, l4, u4⟩ := h4 _ (List.mem_cons_of_mem _ (List.mem_cons_of_mem _ (List.mem_cons_of_mem _ (List.mem_cons_of_mem _ (List.mem_cons_self)))))
      have g4 : 1 * m4'.toInt + 0 = v4 := Option.some.inj e4
      exact cuta _ _ _ _ _ _ _ hr9_0 hr9_1 hm2 hm3 hm4 hm5 ⟨by rw [g0]; exact l0, by rw [g0]; exact u0⟩ ⟨by rw [g1]; exact l1, by rw [g1]; exact u1⟩ ⟨by rw [g2]; exact l2, by rw [g2]; exact u2⟩ ⟨by rw [g3]; exact l3, by rw [g3]; exact u3⟩ ⟨by rw [g4]; exact l4, by rw [g4]; exact u4⟩ h5
theorem sg_wa1a_run (G : sx_G0 g L xs z9 hd_C ex_mt) (hct : ∀ (mi : Nat) (T2 : ex_T) (c' : sx_Ct), ex_mt mi = some T2 → c' ∈ k9 mi → c'.1 < 60 → sx_Holds g z9 hd_C T2 c') {σ : am_S} {lw : List (Nat × Value)} {post : Option (Option Value) → am_S → Prop} (hM : sx_M z9 hd_C σ 0 0 σ) (hl : (0, Value.ref 3) ∈ lw) (hlr1 : (1, Value.retAddr 19059) ∈ lw) (bp3_3 : (-2147483648) ≤ (σ.2.1 3 3).toInt ∧ (σ.2.1 3 3).toInt ≤ 1) (ret0 : ∀ (r : Int32) (σ' : am_S), ((-1) ≤ 1 * r.toInt + 0 ∧ 1 * r.toInt + 0 ≤ (-1)) → sx_M z9 hd_C σ 0 0 σ' → post (some (some (.int r))) σ') : am_K g 15 tX6_wordOf.1 0 0 0 lw [] σ post := by
  refine sg_seg (sw := []) (vs := [(σ.2.1 3 3).toInt]) (ws := []) G (mi := 252) rfl hct sg_wa1a_ok ⟨rfl, trivial⟩ (hd_rfc hl (hd_rfcx hlr1 hd_rfn)) trivial (hd_p1 rfl bp3_3.1 bp3_3.2 hd_p0) hM ?_ ?_
  · intro r σ' hq
    cases r with
    | none => exact hq.elim
    | some v =>
      obtain ⟨p, hp, hM2, ks, hk, hv⟩ := hq
      simp only [List.mem_cons, List.not_mem_nil, or_false] at hp
      rcases hp with rfl
      · obtain rfl := hd_keys hk
        cases v with
        | none => exact hv.elim
        | some w9 =>
          obtain ⟨r, rfl, hP⟩ := hv
          obtain ⟨v0, e0, l0, u0⟩ := hP _ (List.mem_cons_self)
          have g0 : 1 * r.toInt + 0 = v0 := Option.some.inj e0
          exact ret0 r _ ⟨by rw [g0]; exact l0, by rw [g0]; exact u0⟩ hM2
  · intro u hu
    cases hu
theorem sg_wa1b_run (G : sx_G0 g L xs z9 hd_C ex_mt) (hct : ∀ (mi : Nat) (T2 : ex_T) (c' : sx_Ct), ex_mt mi = some T2 → c' ∈ k9 mi → c'.1 < 60 → sx_Holds g z9 hd_C T2 c') {σ : am_S} {lw : List (Nat × Value)} {post : Option (Option Value) → am_S → Prop} (hM : sx_M z9 hd_C σ 0 0 σ) (hl : (0, Value.ref 3) ∈ lw) (hlr1 : (1, Value.retAddr 19059) ∈ lw) (bp3_3 : 3 ≤ (σ.2.1 3 3).toInt ∧ (σ.2.1 3 3).toInt ≤ 2147483647) (ret0 : ∀ (r : Int32) (σ' : am_S), ((-1) ≤ 1 * r.toInt + 0 ∧ 1 * r.toInt + 0 ≤ (-1)) → sx_M z9 hd_C σ 0 0 σ' → post (some (some (.int r))) σ') : am_K g 15 tX6_wordOf.1 0 0 0 lw [] σ post := by
  refine sg_seg (sw := []) (vs := [(σ.2.1 3 3).toInt]) (ws := []) G (mi := 252) rfl hct sg_wa1b_ok ⟨rfl, trivial⟩ (hd_rfc hl (hd_rfcx hlr1 hd_rfn)) trivial (hd_p1 rfl bp3_3.1 bp3_3.2 hd_p0) hM ?_ ?_
  · intro r σ' hq
    cases r with
    | none => exact hq.elim
    | some v =>
      obtain ⟨p, hp, hM2, ks, hk, hv⟩ := hq
      simp only [List.mem_cons, List.not_mem_nil, or_false] at hp
      rcases hp with rfl
      · obtain rfl := hd_keys hk
        cases v with
        | none => exact hv.elim
        | some w9 =>
          obtain ⟨r, rfl, hP⟩ := hv
          obtain ⟨v0, e0, l0, u0⟩ := hP _ (List.mem_cons_self)
          have g0 : 1 * r.toInt + 0 = v0 := Option.some.inj e0
          exact ret0 r _ ⟨by rw [g0]; exact l0, by rw [g0]; exact u0⟩ hM2
  · intro u hu
    cases hu
theorem sg_wa1c_run (G : sx_G0 g L xs z9 hd_C ex_mt) (hct : ∀ (mi : Nat) (T2 : ex_T) (c' : sx_Ct), ex_mt mi = some T2 → c' ∈ k9 mi → c'.1 < 60 → sx_Holds g z9 hd_C T2 c') {σ : am_S} {lw : List (Nat × Value)} {post : Option (Option Value) → am_S → Prop} (hM : sx_M z9 hd_C σ 0 0 σ) (hl : (0, Value.ref 3) ∈ lw) (hlr1 : (1, Value.retAddr 19059) ∈ lw) (bp3_3 : 2 ≤ (σ.2.1 3 3).toInt ∧ (σ.2.1 3 3).toInt ≤ 2) (cuta : ∀ (lw' : List (Nat × Value)) (m2' : Int32) (m3' : Int32) (m4' : Int32) (m5' : Int32) (n0' : Int32) (σ' : am_S), (0, Value.ref 3) ∈ lw' → (1, Value.retAddr 19059) ∈ lw' → (2, Value.int m2') ∈ lw' → (3, Value.int m3') ∈ lw' → (4, Value.int m4') ∈ lw' → (5, Value.int m5') ∈ lw' → (0 ≤ 1 * m2'.toInt + 0 ∧ 1 * m2'.toInt + 0 ≤ 0) → (0 ≤ 1 * m3'.toInt + 0 ∧ 1 * m3'.toInt + 0 ≤ 0) → (1 ≤ 1 * m4'.toInt + 0 ∧ 1 * m4'.toInt + 0 ≤ 1) → (0 ≤ 1 * m5'.toInt + 0 ∧ 1 * m5'.toInt + 0 ≤ 0) → (0 ≤ 1 * n0'.toInt + 0 ∧ 1 * n0'.toInt + 0 ≤ 0) → sx_M z9 hd_C σ 0 0 σ' → am_K g 15 tX6_wordOf.1 0 0 23 lw' [.retAddr 19059, .int n0'] σ' post) : am_K g 15 tX6_wordOf.1 0 0 0 lw [] σ post := by
  refine sg_seg (sw := []) (vs := [(σ.2.1 3 3).toInt]) (ws := []) G (mi := 252) rfl hct sg_wa1c_ok ⟨rfl, trivial⟩ (hd_rfc hl (hd_rfcx hlr1 hd_rfn)) trivial (hd_p1 rfl bp3_3.1 bp3_3.2 hd_p0) hM ?_ ?_
  · intro r σ' hq
    cases r with
    | none => exact hq.elim
    | some v =>
      obtain ⟨p, hp, hM2, ks, hk, hv⟩ := hq
      cases hp
  · intro u hu
    simp only [List.mem_cons, List.not_mem_nil, or_false] at hu
    rcases hu with rfl
    · intro lw' sw' vs' ws' σ' ⟨h1_0, h2, h3_0, h4, h5⟩
      obtain ⟨m2', vs1, rfl, hm2, h1_1⟩ := hd_srcl h1_0
      obtain ⟨m3', vs2, rfl, hm3, h1_2⟩ := hd_srcl h1_1
      obtain ⟨m4', vs3, rfl, hm4, h1_3⟩ := hd_srcl h1_2
      obtain ⟨m5', vs4, rfl, hm5, h1_4⟩ := hd_srcl h1_3
      obtain rfl := hd_src0 h1_4
      obtain ⟨sw1, rfl, h3_1⟩ := hd_strx h3_0
      obtain ⟨n0', sw2, ws2, rfl, rfl, h3_2⟩ := hd_sti h3_1
      obtain ⟨rfl, rfl⟩ := hd_st0 h3_2
      have hr9_0 := hd_rfh h2
      have hr9_1 := hd_rfhx (hd_rfT h2)
      obtain ⟨v0, e0, l0, u0⟩ := h4 _ (List.mem_cons_self)
      have g0 : 1 * m2'.toInt + 0 = v0 := Option.some.inj e0
      obtain ⟨v1, e1, l1, u1⟩ := h4 _ (List.mem_cons_of_mem _ (List.mem_cons_self))
      have g1 : 1 * m3'.toInt + 0 = v1 := Option.some.inj e1
      obtain ⟨v2, e2, l2, u2⟩ := h4 _ (List.mem_cons_of_mem _ (List.mem_cons_of_mem _ (List.mem_cons_self)))
      have g2 : 1 * m4'.toInt + 0 = v2 := Option.some.inj e2
      obtain ⟨v3, e3, l3, u3⟩ := h4 _ (List.mem_cons_of_mem _ (List.mem_cons_of_mem _ (List.mem_cons_of_mem _ (List.mem_cons_self))))
      have g3 : 1 * m5'.toInt + 0 = v3 := Option.some.inj e3
      obtain ⟨v4, e4, l4, u4⟩ := h4 _ (List.mem_cons_of_mem _ (List.mem_cons_of_mem _ (List.mem_cons_of_mem _ (List.mem_cons_of_mem _ (List.mem_cons_self)))))
      have g4 : 1 * n0'.toInt + 0 = v4 := Option.some.inj e4
      exact cuta _ _ _ _ _ _ _ hr9_0 hr9_1 hm2 hm3 hm4 hm5 ⟨by rw [g0]; exact l0, by rw [g0]; exact u0⟩ ⟨by rw [g1]; exact l1, by rw [g1]; exact u1⟩ ⟨by rw [g2]; exact l2, by rw [g2]; exact u2⟩ ⟨by rw [g3]; exact l3, by rw [g3]; exact u3⟩ ⟨by rw [g4]; exact l4, by rw [g4]; exact u4⟩ h5
theorem sg_wa2a_run (G : sx_G0 g L xs z9 hd_C ex_mt) (hct : ∀ (mi : Nat) (T2 : ex_T) (c' : sx_Ct), ex_mt mi = some T2 → c' ∈ k9 mi → c'.1 < 60 → sx_Holds g z9 hd_C T2 c') {σ : am_S} {lw : List (Nat × Value)} {post : Option (Option Value) → am_S → Prop} (hM : sx_M z9 hd_C σ 0 0 σ) (hl : (0, Value.ref 3) ∈ lw) (hlr1 : (1, Value.retAddr 19059) ∈ lw) {m2 : Int32} (hl2 : (2, Value.int m2) ∈ lw) (bl2 : 0 ≤ m2.toInt ∧ m2.toInt ≤ 10) {m3 : Int32} (hl3 : (3, Value.int m3) ∈ lw) (bl3 : 0 ≤ m3.toInt ∧ m3.toInt ≤ 3) {m4 : Int32} (hl4 : (4, Value.int m4) ∈ lw) (bl4 : 0 ≤ m4.toInt ∧ m4.toInt ≤ 1) {m5 : Int32} (hl5 : (5, Value.int m5) ∈ lw) (bl5 : 0 ≤ m5.toInt ∧ m5.toInt ≤ 2) {n0 : Int32} (bk0 : 3 ≤ n0.toInt ∧ n0.toInt ≤ 3) {n1 : Int32} (bk1 : 0 ≤ n1.toInt ∧ n1.toInt ≤ 2) (bf0 : 0 ≤ 1 * m5.toInt + ((-1) * n1.toInt + 0) ∧ 1 * m5.toInt + ((-1) * n1.toInt + 0) ≤ 0) (cuta : ∀ (lw' : List (Nat × Value)) (m2' : Int32) (m3' : Int32) (m4' : Int32) (m5' : Int32) (n0' : Int32) (σ' : am_S), (0, Value.ref 3) ∈ lw' → (1, Value.retAddr 19059) ∈ lw' → (2, Value.int m2') ∈ lw' → (3, Value.int m3') ∈ lw' → (4, Value.int m4') ∈ lw' → (5, Value.int m5') ∈ lw' → (0 ≤ 1 * m5.toInt + ((-1) * n0'.toInt + 0) ∧ 1 * m5.toInt + ((-1) * n0'.toInt + 0) ≤ 0) → (0 ≤ 1 * m5.toInt + ((-1) * m5'.toInt + 0) ∧ 1 * m5.toInt + ((-1) * m5'.toInt + 0) ≤ 0) → (0 ≤ 1 * m2.toInt + ((-1) * m2'.toInt + 0) ∧ 1 * m2.toInt + ((-1) * m2'.toInt + 0) ≤ 0) → (0 ≤ 1 * m3.toInt + ((-1) * m3'.toInt + 0) ∧ 1 * m3.toInt + ((-1) * m3'.toInt + 0) ≤ 0) → (0 ≤ 1 * m4.toInt + ((-1) * m4'.toInt + 0) ∧ 1 * m4.toInt + ((-1) * m4'.toInt + 0) ≤ 0) → sx_M z9 hd_C σ 0 0 σ' → am_K g 15 tX6_wordOf.1 0 0 32 lw' [.int n0', .retAddr 19059] σ' post) : am_K g 15 tX6_wordOf.1 0 0 26 lw [.int n0, .int n1] σ post := by
  refine sg_seg (sw := [.int n0, .int n1]) (vs := [m2.toInt, m3.toInt, m4.toInt, m5.toInt]) (ws := [n0.toInt, n1.toInt]) G (mi := 252) rfl hct sg_wa2a_ok ⟨⟨m2, hl2, rfl⟩, ⟨⟨m3, hl3, rfl⟩, ⟨⟨m4, hl4, rfl⟩, ⟨⟨m5, hl5, rfl⟩, trivial⟩⟩⟩⟩ (hd_rfc hl (hd_rfcx hlr1 hd_rfn)) ⟨⟨n0, rfl, rfl⟩, ⟨⟨n1, rfl, rfl⟩, trivial⟩⟩ (hd_p1 rfl bl2.1 bl2.2 (hd_p1 rfl bl3.1 bl3.2 (hd_p1 rfl bl4.1 bl4.2 (hd_p1 rfl bl5.1 bl5.2 (hd_p1 rfl bk0.1 bk0.2 (hd_p1 rfl bk1.1 bk1.2 (hd_pf rfl bf0.1 bf0.2 hd_p0))))))) hM ?_ ?_
  · intro r σ' hq
    cases r with
    | none => exact hq.elim
    | some v =>
      obtain ⟨p, hp, hM2, ks, hk, hv⟩ := hq
      cases hp
  · intro u hu
    simp only [List.mem_cons, List.not_mem_nil, or_false] at hu
    rcases hu with rfl
    · intro lw' sw' vs' ws' σ' ⟨h1_0, h2, h3_0, h4, h5⟩
      obtain ⟨m2', vs1, rfl, hm2, h1_1⟩ := hd_srcl h1_0
      obtain ⟨m3', vs2, rfl, hm3, h1_2⟩ := hd_srcl h1_1
      obtain ⟨m4', vs3, rfl, hm4, h1_3⟩ := hd_srcl h1_2
      obtain ⟨m5', vs4, rfl, hm5, h1_4⟩ := hd_srcl h1_3
      obtain rfl := hd_src0 h1_4
      obtain ⟨n0', sw1, ws1, rfl, rfl, h3_1⟩ := hd_sti h3_0
      obtain ⟨sw2, rfl, h3_2⟩ := hd_strx h3_1
      obtain ⟨rfl, rfl⟩ := hd_st0 h3_2
      have hr9_0 := hd_rfh h2
      have hr9_1 := hd_rfhx (hd_rfT h2)
      obtain ⟨v0, e0, l0, u0⟩ := h4 _ (List.mem_cons_self)
      have g0 : 1 * m5.toInt + ((-1) * n0'.toInt + 0) = v0 := Option.some.inj e0
      obtain ⟨v1, e1, l1, u1⟩ := h4 _ (List.mem_cons_of_mem _ (List.mem_cons_self))
      have g1 : 1 * m5.toInt + ((-1) * m5'.toInt + 0) = v1 := Option.some.inj e1
      obtain ⟨v2, e2, l2, u2⟩ := h4 _ (List.mem_cons_of_mem _ (List.mem_cons_of_mem _ (List.mem_cons_self)))
      have g2 : 1 * m2.toInt + ((-1) * m2'.toInt + 0) = v2 := Option.some.inj e2
      obtain ⟨v3, e3, l3, u3⟩ := h4 _ (List.mem_cons_of_mem _ (List.mem_cons_of_mem _ (List.mem_cons_of_mem _ (List.mem_cons_self))))
      have g3 : 1 * m3.toInt + ((-1) * m3'.toInt + 0) = v3 := Option.some.inj e3
      obtain ⟨v4, e4, l4, u4⟩ := h4 _ (List.mem_cons_of_mem _ (List.mem_cons_of_mem _ (List.mem_cons_of_mem _ (List.mem_cons_of_mem _ (List.mem_cons_self)))))
      have g4 : 1 * m4.toInt + ((-1) * m4'.toInt + 0) = v4 := Option.some.inj e4
      exact cuta _ _ _ _ _ _ _ hr9_0 hr9_1 hm2 hm3 hm4 hm5 ⟨by rw [g0]; exact l0, by rw [g0]; exact u0⟩ ⟨by rw [g1]; exact l1, by rw [g1]; exact u1⟩ ⟨by rw [g2]; exact l2, by rw [g2]; exact u2⟩ ⟨by rw [g3]; exact l3, by rw [g3]; exact u3⟩ ⟨by rw [g4]; exact l4, by rw [g4]; exact u4⟩ h5
theorem sg_wa2b_run (G : sx_G0 g L xs z9 hd_C ex_mt) (hct : ∀ (mi : Nat) (T2 : ex_T) (c' : sx_Ct), ex_mt mi = some T2 → c' ∈ k9 mi → c'.1 < 60 → sx_Holds g z9 hd_C T2 c') {σ : am_S} {lw : List (Nat × Value)} {post : Option (Option Value) → am_S → Prop} (hM : sx_M z9 hd_C σ 0 0 σ) (hl : (0, Value.ref 3) ∈ lw) (hlr1 : (1, Value.retAddr 19059) ∈ lw) {m2 : Int32} (hl2 : (2, Value.int m2) ∈ lw) (bl2 : 0 ≤ m2.toInt ∧ m2.toInt ≤ 10) {m3 : Int32} (hl3 : (3, Value.int m3) ∈ lw) (bl3 : 0 ≤ m3.toInt ∧ m3.toInt ≤ 3) {m4 : Int32} (hl4 : (4, Value.int m4) ∈ lw) (bl4 : 0 ≤ m4.toInt ∧ m4.toInt ≤ 0) {m5 : Int32} (hl5 : (5, Value.int m5) ∈ lw) (bl5 : 0 ≤ m5.toInt ∧ m5.toInt ≤ 3) {n0 : Int32} (bk0 : 3 ≤ n0.toInt ∧ n0.toInt ≤ 3) {n1 : Int32} (bk1 : 3 ≤ n1.toInt ∧ n1.toInt ≤ 3) (ret0 : ∀ (r : Int32) (σ' : am_S), ((-1) ≤ 1 * r.toInt + 0 ∧ 1 * r.toInt + 0 ≤ (-1)) → sx_M z9 hd_C σ 0 0 σ' → post (some (some (.int r))) σ') : am_K g 15 tX6_wordOf.1 0 0 26 lw [.int n0, .int n1] σ post := by
  refine sg_seg (sw := [.int n0, .int n1]) (vs := [m2.toInt, m3.toInt, m4.toInt, m5.toInt]) (ws := [n0.toInt, n1.toInt]) G (mi := 252) rfl hct sg_wa2b_ok ⟨⟨m2, hl2, rfl⟩, ⟨⟨m3, hl3, rfl⟩, ⟨⟨m4, hl4, rfl⟩, ⟨⟨m5, hl5, rfl⟩, trivial⟩⟩⟩⟩ (hd_rfc hl (hd_rfcx hlr1 hd_rfn)) ⟨⟨n0, rfl, rfl⟩, ⟨⟨n1, rfl, rfl⟩, trivial⟩⟩ (hd_p1 rfl bl2.1 bl2.2 (hd_p1 rfl bl3.1 bl3.2 (hd_p1 rfl bl4.1 bl4.2 (hd_p1 rfl bl5.1 bl5.2 (hd_p1 rfl bk0.1 bk0.2 (hd_p1 rfl bk1.1 bk1.2 hd_p0)))))) hM ?_ ?_
  · intro r σ' hq
    cases r with
    | none => exact hq.elim
    | some v =>
      obtain ⟨p, hp, hM2, ks, hk, hv⟩ := hq
      simp only [List.mem_cons, List.not_mem_nil, or_false] at hp
      rcases hp with rfl
      · obtain rfl := hd_keys hk
        cases v with
        | none => exact hv.elim
        | some w9 =>
          obtain ⟨r, rfl, hP⟩ := hv
          obtain ⟨v0, e0, l0, u0⟩ := hP _ (List.mem_cons_self)
          have g0 : 1 * r.toInt + 0 = v0 := Option.some.inj e0
          exact ret0 r _ ⟨by rw [g0]; exact l0, by rw [g0]; exact u0⟩ hM2
  · intro u hu
    cases hu
theorem sg_wa2c_run (G : sx_G0 g L xs z9 hd_C ex_mt) (hct : ∀ (mi : Nat) (T2 : ex_T) (c' : sx_Ct), ex_mt mi = some T2 → c' ∈ k9 mi → c'.1 < 60 → sx_Holds g z9 hd_C T2 c') {σ : am_S} {lw : List (Nat × Value)} {post : Option (Option Value) → am_S → Prop} (hM : sx_M z9 hd_C σ 0 0 σ) (hl : (0, Value.ref 3) ∈ lw) (hlr1 : (1, Value.retAddr 19059) ∈ lw) {m2 : Int32} (hl2 : (2, Value.int m2) ∈ lw) (bl2 : 0 ≤ m2.toInt ∧ m2.toInt ≤ 10) {m3 : Int32} (hl3 : (3, Value.int m3) ∈ lw) (bl3 : 0 ≤ m3.toInt ∧ m3.toInt ≤ 3) {m4 : Int32} (hl4 : (4, Value.int m4) ∈ lw) (bl4 : 1 ≤ m4.toInt ∧ m4.toInt ≤ 1) {m5 : Int32} (hl5 : (5, Value.int m5) ∈ lw) (bl5 : 0 ≤ m5.toInt ∧ m5.toInt ≤ 3) {n0 : Int32} (bk0 : 3 ≤ n0.toInt ∧ n0.toInt ≤ 3) {n1 : Int32} (bk1 : 3 ≤ n1.toInt ∧ n1.toInt ≤ 3) (bf0 : (-4611686018427387904) ≤ 1 * m3.toInt + ((-1) * (σ.2.1 3 5).toInt + 0) ∧ 1 * m3.toInt + ((-1) * (σ.2.1 3 5).toInt + 0) ≤ (-1)) (ret0 : ∀ (r : Int32) (σ' : am_S), ((-1) ≤ 1 * r.toInt + 0 ∧ 1 * r.toInt + 0 ≤ (-1)) → sx_M z9 hd_C σ 0 0 σ' → post (some (some (.int r))) σ') : am_K g 15 tX6_wordOf.1 0 0 26 lw [.int n0, .int n1] σ post := by
  refine sg_seg (sw := [.int n0, .int n1]) (vs := [m2.toInt, m3.toInt, m4.toInt, m5.toInt, (σ.2.1 3 5).toInt]) (ws := [n0.toInt, n1.toInt]) G (mi := 252) rfl hct sg_wa2c_ok ⟨⟨m2, hl2, rfl⟩, ⟨⟨m3, hl3, rfl⟩, ⟨⟨m4, hl4, rfl⟩, ⟨⟨m5, hl5, rfl⟩, ⟨rfl, trivial⟩⟩⟩⟩⟩ (hd_rfc hl (hd_rfcx hlr1 hd_rfn)) ⟨⟨n0, rfl, rfl⟩, ⟨⟨n1, rfl, rfl⟩, trivial⟩⟩ (hd_p1 rfl bl2.1 bl2.2 (hd_p1 rfl bl3.1 bl3.2 (hd_p1 rfl bl4.1 bl4.2 (hd_p1 rfl bl5.1 bl5.2 (hd_p1 rfl (hd_kd_3_5 hM).1 (hd_kd_3_5 hM).2 (hd_p1 rfl bk0.1 bk0.2 (hd_p1 rfl bk1.1 bk1.2 (hd_pf rfl bf0.1 bf0.2 hd_p0)))))))) hM ?_ ?_
  · intro r σ' hq
    cases r with
    | none => exact hq.elim
    | some v =>
      obtain ⟨p, hp, hM2, ks, hk, hv⟩ := hq
      simp only [List.mem_cons, List.not_mem_nil, or_false] at hp
      rcases hp with rfl
      · obtain rfl := hd_keys hk
        cases v with
        | none => exact hv.elim
        | some w9 =>
          obtain ⟨r, rfl, hP⟩ := hv
          obtain ⟨v0, e0, l0, u0⟩ := hP _ (List.mem_cons_self)
          have g0 : 1 * r.toInt + 0 = v0 := Option.some.inj e0
          exact ret0 r _ ⟨by rw [g0]; exact l0, by rw [g0]; exact u0⟩ hM2
  · intro u hu
    cases hu
theorem sg_wa2d_run (G : sx_G0 g L xs z9 hd_C ex_mt) (hct : ∀ (mi : Nat) (T2 : ex_T) (c' : sx_Ct), ex_mt mi = some T2 → c' ∈ k9 mi → c'.1 < 60 → sx_Holds g z9 hd_C T2 c') {σ : am_S} {lw : List (Nat × Value)} {post : Option (Option Value) → am_S → Prop} (hM : sx_M z9 hd_C σ 0 0 σ) (hl : (0, Value.ref 3) ∈ lw) (hlr1 : (1, Value.retAddr 19059) ∈ lw) {m2 : Int32} (hl2 : (2, Value.int m2) ∈ lw) (bl2 : 0 ≤ m2.toInt ∧ m2.toInt ≤ 10) {m3 : Int32} (hl3 : (3, Value.int m3) ∈ lw) (bl3 : 0 ≤ m3.toInt ∧ m3.toInt ≤ 3) {m4 : Int32} (hl4 : (4, Value.int m4) ∈ lw) (bl4 : 1 ≤ m4.toInt ∧ m4.toInt ≤ 1) {m5 : Int32} (hl5 : (5, Value.int m5) ∈ lw) (bl5 : 0 ≤ m5.toInt ∧ m5.toInt ≤ 3) {n0 : Int32} (bk0 : 3 ≤ n0.toInt ∧ n0.toInt ≤ 3) {n1 : Int32} (bk1 : 3 ≤ n1.toInt ∧ n1.toInt ≤ 3) (bf0 : 1 ≤ 1 * m3.toInt + ((-1) * (σ.2.1 3 5).toInt + 0) ∧ 1 * m3.toInt + ((-1) * (σ.2.1 3 5).toInt + 0) ≤ 4611686018427387904) (ret0 : ∀ (r : Int32) (σ' : am_S), ((-1) ≤ 1 * r.toInt + 0 ∧ 1 * r.toInt + 0 ≤ (-1)) → sx_M z9 hd_C σ 0 0 σ' → post (some (some (.int r))) σ') : am_K g 15 tX6_wordOf.1 0 0 26 lw [.int n0, .int n1] σ post := by
  refine sg_seg (sw := [.int n0, .int n1]) (vs := [m2.toInt, m3.toInt, m4.toInt, m5.toInt, (σ.2.1 3 5).toInt]) (ws := [n0.toInt, n1.toInt]) G (mi := 252) rfl hct sg_wa2d_ok ⟨⟨m2, hl2, rfl⟩, ⟨⟨m3, hl3, rfl⟩, ⟨⟨m4, hl4, rfl⟩, ⟨⟨m5, hl5, rfl⟩, ⟨rfl, trivial⟩⟩⟩⟩⟩ (hd_rfc hl (hd_rfcx hlr1 hd_rfn)) ⟨⟨n0, rfl, rfl⟩, ⟨⟨n1, rfl, rfl⟩, trivial⟩⟩ (hd_p1 rfl bl2.1 bl2.2 (hd_p1 rfl bl3.1 bl3.2 (hd_p1 rfl bl4.1 bl4.2 (hd_p1 rfl bl5.1 bl5.2 (hd_p1 rfl (hd_kd_3_5 hM).1 (hd_kd_3_5 hM).2 (hd_p1 rfl bk0.1 bk0.2 (hd_p1 rfl bk1.1 bk1.2 (hd_pf rfl bf0.1 bf0.2 hd_p0)))))))) hM ?_ ?_
  · intro r σ' hq
    cases r with
    | none => exact hq.elim
    | some v =>
      obtain ⟨p, hp, hM2, ks, hk, hv⟩ := hq
      simp only [List.mem_cons, List.not_mem_nil, or_false] at hp
      rcases hp with rfl
      · obtain rfl := hd_keys hk
        cases v with
        | none => exact hv.elim
        | some w9 =>
          obtain ⟨r, rfl, hP⟩ := hv
          obtain ⟨v0, e0, l0, u0⟩ := hP _ (List.mem_cons_self)
          have g0 : 1 * r.toInt + 0 = v0 := Option.some.inj e0
          exact ret0 r _ ⟨by rw [g0]; exact l0, by rw [g0]; exact u0⟩ hM2
  · intro u hu
    cases hu
theorem sg_wa2e_run (G : sx_G0 g L xs z9 hd_C ex_mt) (hct : ∀ (mi : Nat) (T2 : ex_T) (c' : sx_Ct), ex_mt mi = some T2 → c' ∈ k9 mi → c'.1 < 60 → sx_Holds g z9 hd_C T2 c') {σ : am_S} {lw : List (Nat × Value)} {post : Option (Option Value) → am_S → Prop} (hM : sx_M z9 hd_C σ 0 0 σ) (hl : (0, Value.ref 3) ∈ lw) (hlr1 : (1, Value.retAddr 19059) ∈ lw) {m2 : Int32} (hl2 : (2, Value.int m2) ∈ lw) (bl2 : 0 ≤ m2.toInt ∧ m2.toInt ≤ 10) {m3 : Int32} (hl3 : (3, Value.int m3) ∈ lw) (bl3 : 0 ≤ m3.toInt ∧ m3.toInt ≤ 3) {m4 : Int32} (hl4 : (4, Value.int m4) ∈ lw) (bl4 : 1 ≤ m4.toInt ∧ m4.toInt ≤ 1) {m5 : Int32} (hl5 : (5, Value.int m5) ∈ lw) (bl5 : 0 ≤ m5.toInt ∧ m5.toInt ≤ 3) {n0 : Int32} (bk0 : 3 ≤ n0.toInt ∧ n0.toInt ≤ 3) {n1 : Int32} (bk1 : 3 ≤ n1.toInt ∧ n1.toInt ≤ 3) (bf0 : 0 ≤ 1 * m3.toInt + ((-1) * (σ.2.1 3 5).toInt + 0) ∧ 1 * m3.toInt + ((-1) * (σ.2.1 3 5).toInt + 0) ≤ 0) (ret0 : ∀ (r : Int32) (σ' : am_S), (0 ≤ 1 * m2.toInt + ((-1) * r.toInt + 0) ∧ 1 * m2.toInt + ((-1) * r.toInt + 0) ≤ 0) → sx_M z9 hd_C σ 0 0 σ' → post (some (some (.int r))) σ') : am_K g 15 tX6_wordOf.1 0 0 26 lw [.int n0, .int n1] σ post := by
  refine sg_seg (sw := [.int n0, .int n1]) (vs := [m2.toInt, m3.toInt, m4.toInt, m5.toInt, (σ.2.1 3 5).toInt]) (ws := [n0.toInt, n1.toInt]) G (mi := 252) rfl hct sg_wa2e_ok ⟨⟨m2, hl2, rfl⟩, ⟨⟨m3, hl3, rfl⟩, ⟨⟨m4, hl4, rfl⟩, ⟨⟨m5, hl5, rfl⟩, ⟨rfl, trivial⟩⟩⟩⟩⟩ (hd_rfc hl (hd_rfcx hlr1 hd_rfn)) ⟨⟨n0, rfl, rfl⟩, ⟨⟨n1, rfl, rfl⟩, trivial⟩⟩ (hd_p1 rfl bl2.1 bl2.2 (hd_p1 rfl bl3.1 bl3.2 (hd_p1 rfl bl4.1 bl4.2 (hd_p1 rfl bl5.1 bl5.2 (hd_p1 rfl (hd_kd_3_5 hM).1 (hd_kd_3_5 hM).2 (hd_p1 rfl bk0.1 bk0.2 (hd_p1 rfl bk1.1 bk1.2 (hd_pf rfl bf0.1 bf0.2 hd_p0)))))))) hM ?_ ?_
  · intro r σ' hq
    cases r with
    | none => exact hq.elim
    | some v =>
      obtain ⟨p, hp, hM2, ks, hk, hv⟩ := hq
      simp only [List.mem_cons, List.not_mem_nil, or_false] at hp
      rcases hp with rfl
      · obtain rfl := hd_keys hk
        cases v with
        | none => exact hv.elim
        | some w9 =>
          obtain ⟨r, rfl, hP⟩ := hv
          obtain ⟨v0, e0, l0, u0⟩ := hP _ (List.mem_cons_self)
          have g0 : 1 * m2.toInt + ((-1) * r.toInt + 0) = v0 := Option.some.inj e0
          exact ret0 r _ ⟨by rw [g0]; exact l0, by rw [g0]; exact u0⟩ hM2
  · intro u hu
    cases hu
theorem sg_wa3a_run (G : sx_G0 g L xs z9 hd_C ex_mt) (hct : ∀ (mi : Nat) (T2 : ex_T) (c' : sx_Ct), ex_mt mi = some T2 → c' ∈ k9 mi → c'.1 < 60 → sx_Holds g z9 hd_C T2 c') {σ : am_S} {lw : List (Nat × Value)} {post : Option (Option Value) → am_S → Prop} (hM : sx_M z9 hd_C σ 0 0 σ) (hl : (0, Value.ref 3) ∈ lw) (hlr1 : (1, Value.retAddr 19059) ∈ lw) {m2 : Int32} (hl2 : (2, Value.int m2) ∈ lw) (bl2 : 0 ≤ m2.toInt ∧ m2.toInt ≤ 10) {m3 : Int32} (hl3 : (3, Value.int m3) ∈ lw) (bl3 : 0 ≤ m3.toInt ∧ m3.toInt ≤ 3) {m4 : Int32} (hl4 : (4, Value.int m4) ∈ lw) (bl4 : 1 ≤ m4.toInt ∧ m4.toInt ≤ 1) {m5 : Int32} (hl5 : (5, Value.int m5) ∈ lw) (bl5 : 0 ≤ m5.toInt ∧ m5.toInt ≤ 3) {n0 : Int32} (bk0 : 32 ≤ n0.toInt ∧ n0.toInt ≤ 32) (bf0 : 0 ≤ 1 * m3.toInt + ((-1) * (σ.2.1 3 5).toInt + 0) ∧ 1 * m3.toInt + ((-1) * (σ.2.1 3 5).toInt + 0) ≤ 0) (ret0 : ∀ (r : Int32) (σ' : am_S), (0 ≤ 1 * m2.toInt + ((-1) * r.toInt + 0) ∧ 1 * m2.toInt + ((-1) * r.toInt + 0) ≤ 0) → sx_M z9 hd_C σ 0 0 σ' → post (some (some (.int r))) σ') : am_K g 15 tX6_wordOf.1 0 0 35 lw [.int n0] σ post := by
  refine sg_seg (sw := [.int n0]) (vs := [m2.toInt, m3.toInt, m4.toInt, m5.toInt, (σ.2.1 3 5).toInt]) (ws := [n0.toInt]) G (mi := 252) rfl hct sg_wa3a_ok ⟨⟨m2, hl2, rfl⟩, ⟨⟨m3, hl3, rfl⟩, ⟨⟨m4, hl4, rfl⟩, ⟨⟨m5, hl5, rfl⟩, ⟨rfl, trivial⟩⟩⟩⟩⟩ (hd_rfc hl (hd_rfcx hlr1 hd_rfn)) ⟨⟨n0, rfl, rfl⟩, trivial⟩ (hd_p1 rfl bl2.1 bl2.2 (hd_p1 rfl bl3.1 bl3.2 (hd_p1 rfl bl4.1 bl4.2 (hd_p1 rfl bl5.1 bl5.2 (hd_p1 rfl (hd_kd_3_5 hM).1 (hd_kd_3_5 hM).2 (hd_p1 rfl bk0.1 bk0.2 (hd_pf rfl bf0.1 bf0.2 hd_p0))))))) hM ?_ ?_
  · intro r σ' hq
    cases r with
    | none => exact hq.elim
    | some v =>
      obtain ⟨p, hp, hM2, ks, hk, hv⟩ := hq
      simp only [List.mem_cons, List.not_mem_nil, or_false] at hp
      rcases hp with rfl
      · obtain rfl := hd_keys hk
        cases v with
        | none => exact hv.elim
        | some w9 =>
          obtain ⟨r, rfl, hP⟩ := hv
          obtain ⟨v0, e0, l0, u0⟩ := hP _ (List.mem_cons_self)
          have g0 : 1 * m2.toInt + ((-1) * r.toInt + 0) = v0 := Option.some.inj e0
          exact ret0 r _ ⟨by rw [g0]; exact l0, by rw [g0]; exact u0⟩ hM2
  · intro u hu
    cases hu
theorem sg_wa3b_run (G : sx_G0 g L xs z9 hd_C ex_mt) (hct : ∀ (mi : Nat) (T2 : ex_T) (c' : sx_Ct), ex_mt mi = some T2 → c' ∈ k9 mi → c'.1 < 60 → sx_Holds g z9 hd_C T2 c') {σ : am_S} {lw : List (Nat × Value)} {post : Option (Option Value) → am_S → Prop} (hM : sx_M z9 hd_C σ 0 0 σ) (hl : (0, Value.ref 3) ∈ lw) (hlr1 : (1, Value.retAddr 19059) ∈ lw) {m2 : Int32} (hl2 : (2, Value.int m2) ∈ lw) (bl2 : 0 ≤ m2.toInt ∧ m2.toInt ≤ 9) {m3 : Int32} (hl3 : (3, Value.int m3) ∈ lw) (bl3 : 0 ≤ m3.toInt ∧ m3.toInt ≤ 3) {m4 : Int32} (hl4 : (4, Value.int m4) ∈ lw) (bl4 : 1 ≤ m4.toInt ∧ m4.toInt ≤ 1) {m5 : Int32} (hl5 : (5, Value.int m5) ∈ lw) (bl5 : 0 ≤ m5.toInt ∧ m5.toInt ≤ 2) {n0 : Int32} (bk0 : 32 ≤ n0.toInt ∧ n0.toInt ≤ 32) (bf0 : (-4611686018427387904) ≤ 1 * m3.toInt + ((-1) * (σ.2.1 3 5).toInt + 0) ∧ 1 * m3.toInt + ((-1) * (σ.2.1 3 5).toInt + 0) ≤ (-1)) (cuta : ∀ (lw' : List (Nat × Value)) (m2' : Int32) (m3' : Int32) (m4' : Int32) (m5' : Int32) (n0' : Int32) (σ' : am_S), (0, Value.ref 3) ∈ lw' → (1, Value.retAddr 19059) ∈ lw' → (2, Value.int m2') ∈ lw' → (3, Value.int m3') ∈ lw' → (4, Value.int m4') ∈ lw' → (5, Value.int m5') ∈ lw' → ((-1) ≤ 1 * m5.toInt + ((-1) * m5'.toInt + 0) ∧ 1 * m5.toInt + ((-1) * m5'.toInt + 0) ≤ (-1)) → ((-1) ≤ 1 * m5.toInt + ((-1) * n0'.toInt + 0) ∧ 1 * m5.toInt + ((-1) * n0'.toInt + 0) ≤ (-1)) → ((-1) ≤ 1 * m2.toInt + ((-1) * m2'.toInt + 0) ∧ 1 * m2.toInt + ((-1) * m2'.toInt + 0) ≤ (-1)) → (0 ≤ 1 * m3'.toInt + 0 ∧ 1 * m3'.toInt + 0 ≤ 0) → (1 ≤ 1 * m4'.toInt + 0 ∧ 1 * m4'.toInt + 0 ≤ 1) → sx_M z9 hd_C σ 0 0 σ' → am_K g 15 tX6_wordOf.1 0 0 23 lw' [.retAddr 19059, .int n0'] σ' post) : am_K g 15 tX6_wordOf.1 0 0 35 lw [.int n0] σ post := by
  refine sg_seg (sw := [.int n0]) (vs := [m2.toInt, m3.toInt, m4.toInt, m5.toInt, (σ.2.1 3 5).toInt]) (ws := [n0.toInt]) G (mi := 252) rfl hct sg_wa3b_ok ⟨⟨m2, hl2, rfl⟩, ⟨⟨m3, hl3, rfl⟩, ⟨⟨m4, hl4, rfl⟩, ⟨⟨m5, hl5, rfl⟩, ⟨rfl, trivial⟩⟩⟩⟩⟩ (hd_rfc hl (hd_rfcx hlr1 hd_rfn)) ⟨⟨n0, rfl, rfl⟩, trivial⟩ (hd_p1 rfl bl2.1 bl2.2 (hd_p1 rfl bl3.1 bl3.2 (hd_p1 rfl bl4.1 bl4.2 (hd_p1 rfl bl5.1 bl5.2 (hd_p1 rfl (hd_kd_3_5 hM).1 (hd_kd_3_5 hM).2 (hd_p1 rfl bk0.1 bk0.2 (hd_pf rfl bf0.1 bf0.2 hd_p0))))))) hM ?_ ?_
  · intro r σ' hq
    cases r with
    | none => exact hq.elim
    | some v =>
      obtain ⟨p, hp, hM2, ks, hk, hv⟩ := hq
      cases hp
  · intro u hu
    simp only [List.mem_cons, List.not_mem_nil, or_false] at hu
    rcases hu with rfl
    · intro lw' sw' vs' ws' σ' ⟨h1_0, h2, h3_0, h4, h5⟩
      obtain ⟨m2', vs1, rfl, hm2, h1_1⟩ := hd_srcl h1_0
      obtain ⟨m3', vs2, rfl, hm3, h1_2⟩ := hd_srcl h1_1
      obtain ⟨m4', vs3, rfl, hm4, h1_3⟩ := hd_srcl h1_2
      obtain ⟨m5', vs4, rfl, hm5, h1_4⟩ := hd_srcl h1_3
      obtain rfl := hd_src0 h1_4
      obtain ⟨sw1, rfl, h3_1⟩ := hd_strx h3_0
      obtain ⟨n0', sw2, ws2, rfl, rfl, h3_2⟩ := hd_sti h3_1
      obtain ⟨rfl, rfl⟩ := hd_st0 h3_2
      have hr9_0 := hd_rfh h2
      have hr9_1 := hd_rfhx (hd_rfT h2)
      obtain ⟨v0, e0, l0, u0⟩ := h4 _ (List.mem_cons_self)
      have g0 : 1 * m5.toInt + ((-1) * m5'.toInt + 0) = v0 := Option.some.inj e0
      obtain ⟨v1, e1, l1, u1⟩ := h4 _ (List.mem_cons_of_mem _ (List.mem_cons_self))
      have g1 : 1 * m5.toInt + ((-1) * n0'.toInt + 0) = v1 := Option.some.inj e1
      obtain ⟨v2, e2, l2, u2⟩ := h4 _ (List.mem_cons_of_mem _ (List.mem_cons_of_mem _ (List.mem_cons_self)))
      have g2 : 1 * m2.toInt + ((-1) * m2'.toInt + 0) = v2 := Option.some.inj e2
      obtain ⟨v3, e3, l3, u3⟩ := h4 _ (List.mem_cons_of_mem _ (List.mem_cons_of_mem _ (List.mem_cons_of_mem _ (List.mem_cons_self))))
      have g3 : 1 * m3'.toInt + 0 = v3 := Option.some.inj e3
      obtain ⟨v4, e4, l4, u4⟩ := h4 _ (List.mem_cons_of_mem _ (List.mem_cons_of_mem _ (List.mem_cons_of_mem _ (List.mem_cons_of_mem _ (List.mem_cons_self)))))
      have g4 : 1 * m4'.toInt + 0 = v4 := Option.some.inj e4
      exact cuta _ _ _ _ _ _ _ hr9_0 hr9_1 hm2 hm3 hm4 hm5 ⟨by rw [g0]; exact l0, by rw [g0]; exact u0⟩ ⟨by rw [g1]; exact l1, by rw [g1]; exact u1⟩ ⟨by rw [g2]; exact l2, by rw [g2]; exact u2⟩ ⟨by rw [g3]; exact l3, by rw [g3]; exact u3⟩ ⟨by rw [g4]; exact l4, by rw [g4]; exact u4⟩ h5
theorem sg_wa3c_run (G : sx_G0 g L xs z9 hd_C ex_mt) (hct : ∀ (mi : Nat) (T2 : ex_T) (c' : sx_Ct), ex_mt mi = some T2 → c' ∈ k9 mi → c'.1 < 60 → sx_Holds g z9 hd_C T2 c') {σ : am_S} {lw : List (Nat × Value)} {post : Option (Option Value) → am_S → Prop} (hM : sx_M z9 hd_C σ 0 0 σ) (hl : (0, Value.ref 3) ∈ lw) (hlr1 : (1, Value.retAddr 19059) ∈ lw) {m2 : Int32} (hl2 : (2, Value.int m2) ∈ lw) (bl2 : 0 ≤ m2.toInt ∧ m2.toInt ≤ 9) {m3 : Int32} (hl3 : (3, Value.int m3) ∈ lw) (bl3 : 0 ≤ m3.toInt ∧ m3.toInt ≤ 3) {m4 : Int32} (hl4 : (4, Value.int m4) ∈ lw) (bl4 : 1 ≤ m4.toInt ∧ m4.toInt ≤ 1) {m5 : Int32} (hl5 : (5, Value.int m5) ∈ lw) (bl5 : 0 ≤ m5.toInt ∧ m5.toInt ≤ 2) {n0 : Int32} (bk0 : 32 ≤ n0.toInt ∧ n0.toInt ≤ 32) (bf0 : 1 ≤ 1 * m3.toInt + ((-1) * (σ.2.1 3 5).toInt + 0) ∧ 1 * m3.toInt + ((-1) * (σ.2.1 3 5).toInt + 0) ≤ 4611686018427387904) (cuta : ∀ (lw' : List (Nat × Value)) (m2' : Int32) (m3' : Int32) (m4' : Int32) (m5' : Int32) (n0' : Int32) (σ' : am_S), (0, Value.ref 3) ∈ lw' → (1, Value.retAddr 19059) ∈ lw' → (2, Value.int m2') ∈ lw' → (3, Value.int m3') ∈ lw' → (4, Value.int m4') ∈ lw' → (5, Value.int m5') ∈ lw' → ((-1) ≤ 1 * m5.toInt + ((-1) * m5'.toInt + 0) ∧ 1 * m5.toInt + ((-1) * m5'.toInt + 0) ≤ (-1)) → ((-1) ≤ 1 * m5.toInt + ((-1) * n0'.toInt + 0) ∧ 1 * m5.toInt + ((-1) * n0'.toInt + 0) ≤ (-1)) → ((-1) ≤ 1 * m2.toInt + ((-1) * m2'.toInt + 0) ∧ 1 * m2.toInt + ((-1) * m2'.toInt + 0) ≤ (-1)) → (0 ≤ 1 * m3'.toInt + 0 ∧ 1 * m3'.toInt + 0 ≤ 0) → (1 ≤ 1 * m4'.toInt + 0 ∧ 1 * m4'.toInt + 0 ≤ 1) → sx_M z9 hd_C σ 0 0 σ' → am_K g 15 tX6_wordOf.1 0 0 23 lw' [.retAddr 19059, .int n0'] σ' post) : am_K g 15 tX6_wordOf.1 0 0 35 lw [.int n0] σ post := by
  refine sg_seg (sw := [.int n0]) (vs := [m2.toInt, m3.toInt, m4.toInt, m5.toInt, (σ.2.1 3 5).toInt]) (ws := [n0.toInt]) G (mi := 252) rfl hct sg_wa3c_ok ⟨⟨m2, hl2, rfl⟩, ⟨⟨m3, hl3, rfl⟩, ⟨⟨m4, hl4, rfl⟩, ⟨⟨m5, hl5, rfl⟩, ⟨rfl, trivial⟩⟩⟩⟩⟩ (hd_rfc hl (hd_rfcx hlr1 hd_rfn)) ⟨⟨n0, rfl, rfl⟩, trivial⟩ (hd_p1 rfl bl2.1 bl2.2 (hd_p1 rfl bl3.1 bl3.2 (hd_p1 rfl bl4.1 bl4.2 (hd_p1 rfl bl5.1 bl5.2 (hd_p1 rfl (hd_kd_3_5 hM).1 (hd_kd_3_5 hM).2 (hd_p1 rfl bk0.1 bk0.2 (hd_pf rfl bf0.1 bf0.2 hd_p0))))))) hM ?_ ?_
  · intro r σ' hq
    cases r with
    | none => exact hq.elim
    | some v =>
      obtain ⟨p, hp, hM2, ks, hk, hv⟩ := hq
      cases hp
  · intro u hu
    simp only [List.mem_cons, List.not_mem_nil, or_false] at hu
    rcases hu with rfl
    · intro lw' sw' vs' ws' σ' ⟨h1_0, h2, h3_0, h4, h5⟩
      obtain ⟨m2', vs1, rfl, hm2, h1_1⟩ := hd_srcl h1_0
      obtain ⟨m3', vs2, rfl, hm3, h1_2⟩ := hd_srcl h1_1
      obtain ⟨m4', vs3, rfl, hm4, h1_3⟩ := hd_srcl h1_2
      obtain ⟨m5', vs4, rfl, hm5, h1_4⟩ := hd_srcl h1_3
      obtain rfl := hd_src0 h1_4
      obtain ⟨sw1, rfl, h3_1⟩ := hd_strx h3_0
      obtain ⟨n0', sw2, ws2, rfl, rfl, h3_2⟩ := hd_sti h3_1
      obtain ⟨rfl, rfl⟩ := hd_st0 h3_2
      have hr9_0 := hd_rfh h2
      have hr9_1 := hd_rfhx (hd_rfT h2)
      obtain ⟨v0, e0, l0, u0⟩ := h4 _ (List.mem_cons_self)
      have g0 : 1 * m5.toInt + ((-1) * m5'.toInt + 0) = v0 := Option.some.inj e0
      obtain ⟨v1, e1, l1, u1⟩ := h4 _ (List.mem_cons_of_mem _ (List.mem_cons_self))
      have g1 : 1 * m5.toInt + ((-1) * n0'.toInt + 0) = v1 := Option.some.inj e1
      obtain ⟨v2, e2, l2, u2⟩ := h4 _ (List.mem_cons_of_mem _ (List.mem_cons_of_mem _ (List.mem_cons_self)))
      have g2 : 1 * m2.toInt + ((-1) * m2'.toInt + 0) = v2 := Option.some.inj e2
      obtain ⟨v3, e3, l3, u3⟩ := h4 _ (List.mem_cons_of_mem _ (List.mem_cons_of_mem _ (List.mem_cons_of_mem _ (List.mem_cons_self))))
      have g3 : 1 * m3'.toInt + 0 = v3 := Option.some.inj e3
      obtain ⟨v4, e4, l4, u4⟩ := h4 _ (List.mem_cons_of_mem _ (List.mem_cons_of_mem _ (List.mem_cons_of_mem _ (List.mem_cons_of_mem _ (List.mem_cons_self)))))
      have g4 : 1 * m4'.toInt + 0 = v4 := Option.some.inj e4
      exact cuta _ _ _ _ _ _ _ hr9_0 hr9_1 hm2 hm3 hm4 hm5 ⟨by rw [g0]; exact l0, by rw [g0]; exact u0⟩ ⟨by rw [g1]; exact l1, by rw [g1]; exact u1⟩ ⟨by rw [g2]; exact l2, by rw [g2]; exact u2⟩ ⟨by rw [g3]; exact l3, by rw [g3]; exact u3⟩ ⟨by rw [g4]; exact l4, by rw [g4]; exact u4⟩ h5
theorem sg_wa3d_run (G : sx_G0 g L xs z9 hd_C ex_mt) (hct : ∀ (mi : Nat) (T2 : ex_T) (c' : sx_Ct), ex_mt mi = some T2 → c' ∈ k9 mi → c'.1 < 60 → sx_Holds g z9 hd_C T2 c') {σ : am_S} {lw : List (Nat × Value)} {post : Option (Option Value) → am_S → Prop} (hM : sx_M z9 hd_C σ 0 0 σ) (hl : (0, Value.ref 3) ∈ lw) (hlr1 : (1, Value.retAddr 19059) ∈ lw) {m2 : Int32} (hl2 : (2, Value.int m2) ∈ lw) (bl2 : 0 ≤ m2.toInt ∧ m2.toInt ≤ 9) {m3 : Int32} (hl3 : (3, Value.int m3) ∈ lw) (bl3 : 0 ≤ m3.toInt ∧ m3.toInt ≤ 3) {m4 : Int32} (hl4 : (4, Value.int m4) ∈ lw) (bl4 : 0 ≤ m4.toInt ∧ m4.toInt ≤ 0) {m5 : Int32} (hl5 : (5, Value.int m5) ∈ lw) (bl5 : 0 ≤ m5.toInt ∧ m5.toInt ≤ 2) {n0 : Int32} (bk0 : 32 ≤ n0.toInt ∧ n0.toInt ≤ 32) (cuta : ∀ (lw' : List (Nat × Value)) (m2' : Int32) (m3' : Int32) (m4' : Int32) (m5' : Int32) (n0' : Int32) (σ' : am_S), (0, Value.ref 3) ∈ lw' → (1, Value.retAddr 19059) ∈ lw' → (2, Value.int m2') ∈ lw' → (3, Value.int m3') ∈ lw' → (4, Value.int m4') ∈ lw' → (5, Value.int m5') ∈ lw' → ((-1) ≤ 1 * m5.toInt + ((-1) * m5'.toInt + 0) ∧ 1 * m5.toInt + ((-1) * m5'.toInt + 0) ≤ (-1)) → ((-1) ≤ 1 * m5.toInt + ((-1) * n0'.toInt + 0) ∧ 1 * m5.toInt + ((-1) * n0'.toInt + 0) ≤ (-1)) → ((-1) ≤ 1 * m2.toInt + ((-1) * m2'.toInt + 0) ∧ 1 * m2.toInt + ((-1) * m2'.toInt + 0) ≤ (-1)) → (0 ≤ 1 * m3'.toInt + 0 ∧ 1 * m3'.toInt + 0 ≤ 0) → (1 ≤ 1 * m4'.toInt + 0 ∧ 1 * m4'.toInt + 0 ≤ 1) → sx_M z9 hd_C σ 0 0 σ' → am_K g 15 tX6_wordOf.1 0 0 23 lw' [.retAddr 19059, .int n0'] σ' post) : am_K g 15 tX6_wordOf.1 0 0 35 lw [.int n0] σ post := by
  refine sg_seg (sw := [.int n0]) (vs := [m2.toInt, m3.toInt, m4.toInt, m5.toInt]) (ws := [n0.toInt]) G (mi := 252) rfl hct sg_wa3d_ok ⟨⟨m2, hl2, rfl⟩, ⟨⟨m3, hl3, rfl⟩, ⟨⟨m4, hl4, rfl⟩, ⟨⟨m5, hl5, rfl⟩, trivial⟩⟩⟩⟩ (hd_rfc hl (hd_rfcx hlr1 hd_rfn)) ⟨⟨n0, rfl, rfl⟩, trivial⟩ (hd_p1 rfl bl2.1 bl2.2 (hd_p1 rfl bl3.1 bl3.2 (hd_p1 rfl bl4.1 bl4.2 (hd_p1 rfl bl5.1 bl5.2 (hd_p1 rfl bk0.1 bk0.2 hd_p0))))) hM ?_ ?_
  · intro r σ' hq
    cases r with
    | none => exact hq.elim
    | some v =>
      obtain ⟨p, hp, hM2, ks, hk, hv⟩ := hq
      cases hp
  · intro u hu
    simp only [List.mem_cons, List.not_mem_nil, or_false] at hu
    rcases hu with rfl
    · intro lw' sw' vs' ws' σ' ⟨h1_0, h2, h3_0, h4, h5⟩
      obtain ⟨m2', vs1, rfl, hm2, h1_1⟩ := hd_srcl h1_0
      obtain ⟨m3', vs2, rfl, hm3, h1_2⟩ := hd_srcl h1_1
      obtain ⟨m4', vs3, rfl, hm4, h1_3⟩ := hd_srcl h1_2
      obtain ⟨m5', vs4, rfl, hm5, h1_4⟩ := hd_srcl h1_3
      obtain rfl := hd_src0 h1_4
      obtain ⟨sw1, rfl, h3_1⟩ := hd_strx h3_0
      obtain ⟨n0', sw2, ws2, rfl, rfl, h3_2⟩ := hd_sti h3_1
      obtain ⟨rfl, rfl⟩ := hd_st0 h3_2
      have hr9_0 := hd_rfh h2
      have hr9_1 := hd_rfhx (hd_rfT h2)
      obtain ⟨v0, e0, l0, u0⟩ := h4 _ (List.mem_cons_self)
      have g0 : 1 * m5.toInt + ((-1) * m5'.toInt + 0) = v0 := Option.some.inj e0
      obtain ⟨v1, e1, l1, u1⟩ := h4 _ (List.mem_cons_of_mem _ (List.mem_cons_self))
      have g1 : 1 * m5.toInt + ((-1) * n0'.toInt + 0) = v1 := Option.some.inj e1
      obtain ⟨v2, e2, l2, u2⟩ := h4 _ (List.mem_cons_of_mem _ (List.mem_cons_of_mem _ (List.mem_cons_self)))
      have g2 : 1 * m2.toInt + ((-1) * m2'.toInt + 0) = v2 := Option.some.inj e2
      obtain ⟨v3, e3, l3, u3⟩ := h4 _ (List.mem_cons_of_mem _ (List.mem_cons_of_mem _ (List.mem_cons_of_mem _ (List.mem_cons_self))))
      have g3 : 1 * m3'.toInt + 0 = v3 := Option.some.inj e3
      obtain ⟨v4, e4, l4, u4⟩ := h4 _ (List.mem_cons_of_mem _ (List.mem_cons_of_mem _ (List.mem_cons_of_mem _ (List.mem_cons_of_mem _ (List.mem_cons_self)))))
      have g4 : 1 * m4'.toInt + 0 = v4 := Option.some.inj e4
      exact cuta _ _ _ _ _ _ _ hr9_0 hr9_1 hm2 hm3 hm4 hm5 ⟨by rw [g0]; exact l0, by rw [g0]; exact u0⟩ ⟨by rw [g1]; exact l1, by rw [g1]; exact u1⟩ ⟨by rw [g2]; exact l2, by rw [g2]; exact u2⟩ ⟨by rw [g3]; exact l3, by rw [g3]; exact u3⟩ ⟨by rw [g4]; exact l4, by rw [g4]; exact u4⟩ h5
theorem sg_wa3e_run (G : sx_G0 g L xs z9 hd_C ex_mt) (hct : ∀ (mi : Nat) (T2 : ex_T) (c' : sx_Ct), ex_mt mi = some T2 → c' ∈ k9 mi → c'.1 < 60 → sx_Holds g z9 hd_C T2 c') {σ : am_S} {lw : List (Nat × Value)} {post : Option (Option Value) → am_S → Prop} (hM : sx_M z9 hd_C σ 0 0 σ) (hl : (0, Value.ref 3) ∈ lw) (hlr1 : (1, Value.retAddr 19059) ∈ lw) {m2 : Int32} (hl2 : (2, Value.int m2) ∈ lw) (bl2 : 0 ≤ m2.toInt ∧ m2.toInt ≤ 10) {m3 : Int32} (hl3 : (3, Value.int m3) ∈ lw) (bl3 : 0 ≤ m3.toInt ∧ m3.toInt ≤ 2) {m4 : Int32} (hl4 : (4, Value.int m4) ∈ lw) (bl4 : 0 ≤ m4.toInt ∧ m4.toInt ≤ 0) {m5 : Int32} (hl5 : (5, Value.int m5) ∈ lw) (bl5 : 0 ≤ m5.toInt ∧ m5.toInt ≤ 2) {n0 : Int32} (bk0 : 97 ≤ n0.toInt ∧ n0.toInt ≤ 122) (cuta : ∀ (lw' : List (Nat × Value)) (m2' : Int32) (m3' : Int32) (m4' : Int32) (m5' : Int32) (n0' : Int32) (σ' : am_S), (0, Value.ref 3) ∈ lw' → (1, Value.retAddr 19059) ∈ lw' → (2, Value.int m2') ∈ lw' → (3, Value.int m3') ∈ lw' → (4, Value.int m4') ∈ lw' → (5, Value.int m5') ∈ lw' → ((-1) ≤ 1 * m5.toInt + ((-1) * m5'.toInt + 0) ∧ 1 * m5.toInt + ((-1) * m5'.toInt + 0) ≤ (-1)) → ((-1) ≤ 1 * m5.toInt + ((-1) * n0'.toInt + 0) ∧ 1 * m5.toInt + ((-1) * n0'.toInt + 0) ≤ (-1)) → (0 ≤ 1 * m2.toInt + ((-1) * m2'.toInt + 0) ∧ 1 * m2.toInt + ((-1) * m2'.toInt + 0) ≤ 0) → ((-1) ≤ 1 * m3.toInt + ((-1) * m3'.toInt + 0) ∧ 1 * m3.toInt + ((-1) * m3'.toInt + 0) ≤ (-1)) → (0 ≤ 1 * m4'.toInt + 0 ∧ 1 * m4'.toInt + 0 ≤ 0) → sx_M z9 hd_C σ 0 0 σ' → am_K g 15 tX6_wordOf.1 0 0 23 lw' [.retAddr 19059, .int n0'] σ' post) : am_K g 15 tX6_wordOf.1 0 0 35 lw [.int n0] σ post := by
  refine sg_seg (sw := [.int n0]) (vs := [m2.toInt, m3.toInt, m4.toInt, m5.toInt]) (ws := [n0.toInt]) G (mi := 252) rfl hct sg_wa3e_ok ⟨⟨m2, hl2, rfl⟩, ⟨⟨m3, hl3, rfl⟩, ⟨⟨m4, hl4, rfl⟩, ⟨⟨m5, hl5, rfl⟩, trivial⟩⟩⟩⟩ (hd_rfc hl (hd_rfcx hlr1 hd_rfn)) ⟨⟨n0, rfl, rfl⟩, trivial⟩ (hd_p1 rfl bl2.1 bl2.2 (hd_p1 rfl bl3.1 bl3.2 (hd_p1 rfl bl4.1 bl4.2 (hd_p1 rfl bl5.1 bl5.2 (hd_p1 rfl bk0.1 bk0.2 hd_p0))))) hM ?_ ?_
  · intro r σ' hq
    cases r with
    | none => exact hq.elim
    | some v =>
      obtain ⟨p, hp, hM2, ks, hk, hv⟩ := hq
      cases hp
  · intro u hu
    simp only [List.mem_cons, List.not_mem_nil, or_false] at hu
    rcases hu with rfl
    · intro lw' sw' vs' ws' σ' ⟨h1_0, h2, h3_0, h4, h5⟩
      obtain ⟨m2', vs1, rfl, hm2, h1_1⟩ := hd_srcl h1_0
      obtain ⟨m3', vs2, rfl, hm3, h1_2⟩ := hd_srcl h1_1
      obtain ⟨m4', vs3, rfl, hm4, h1_3⟩ := hd_srcl h1_2
      obtain ⟨m5', vs4, rfl, hm5, h1_4⟩ := hd_srcl h1_3
      obtain rfl := hd_src0 h1_4
      obtain ⟨sw1, rfl, h3_1⟩ := hd_strx h3_0
      obtain ⟨n0', sw2, ws2, rfl, rfl, h3_2⟩ := hd_sti h3_1
      obtain ⟨rfl, rfl⟩ := hd_st0 h3_2
      have hr9_0 := hd_rfh h2
      have hr9_1 := hd_rfhx (hd_rfT h2)
      obtain ⟨v0, e0, l0, u0⟩ := h4 _ (List.mem_cons_self)
      have g0 : 1 * m5.toInt + ((-1) * m5'.toInt + 0) = v0 := Option.some.inj e0
      obtain ⟨v1, e1, l1, u1⟩ := h4 _ (List.mem_cons_of_mem _ (List.mem_cons_self))
      have g1 : 1 * m5.toInt + ((-1) * n0'.toInt + 0) = v1 := Option.some.inj e1
      obtain ⟨v2, e2, l2, u2⟩ := h4 _ (List.mem_cons_of_mem _ (List.mem_cons_of_mem _ (List.mem_cons_self)))
      have g2 : 1 * m2.toInt + ((-1) * m2'.toInt + 0) = v2 := Option.some.inj e2
      obtain ⟨v3, e3, l3, u3⟩ := h4 _ (List.mem_cons_of_mem _ (List.mem_cons_of_mem _ (List.mem_cons_of_mem _ (List.mem_cons_self))))
      have g3 : 1 * m3.toInt + ((-1) * m3'.toInt + 0) = v3 := Option.some.inj e3
      obtain ⟨v4, e4, l4, u4⟩ := h4 _ (List.mem_cons_of_mem _ (List.mem_cons_of_mem _ (List.mem_cons_of_mem _ (List.mem_cons_of_mem _ (List.mem_cons_self)))))
      have g4 : 1 * m4'.toInt + 0 = v4 := Option.some.inj e4
      exact cuta _ _ _ _ _ _ _ hr9_0 hr9_1 hm2 hm3 hm4 hm5 ⟨by rw [g0]; exact l0, by rw [g0]; exact u0⟩ ⟨by rw [g1]; exact l1, by rw [g1]; exact u1⟩ ⟨by rw [g2]; exact l2, by rw [g2]; exact u2⟩ ⟨by rw [g3]; exact l3, by rw [g3]; exact u3⟩ ⟨by rw [g4]; exact l4, by rw [g4]; exact u4⟩ h5
theorem sg_wa3f_run (G : sx_G0 g L xs z9 hd_C ex_mt) (hct : ∀ (mi : Nat) (T2 : ex_T) (c' : sx_Ct), ex_mt mi = some T2 → c' ∈ k9 mi → c'.1 < 60 → sx_Holds g z9 hd_C T2 c') {σ : am_S} {lw : List (Nat × Value)} {post : Option (Option Value) → am_S → Prop} (hM : sx_M z9 hd_C σ 0 0 σ) (hl : (0, Value.ref 3) ∈ lw) (hlr1 : (1, Value.retAddr 19059) ∈ lw) {m2 : Int32} (hl2 : (2, Value.int m2) ∈ lw) (bl2 : 0 ≤ m2.toInt ∧ m2.toInt ≤ 10) {m3 : Int32} (hl3 : (3, Value.int m3) ∈ lw) (bl3 : 0 ≤ m3.toInt ∧ m3.toInt ≤ 2) {m4 : Int32} (hl4 : (4, Value.int m4) ∈ lw) (bl4 : 1 ≤ m4.toInt ∧ m4.toInt ≤ 1) {m5 : Int32} (hl5 : (5, Value.int m5) ∈ lw) (bl5 : 0 ≤ m5.toInt ∧ m5.toInt ≤ 2) {n0 : Int32} (bk0 : 97 ≤ n0.toInt ∧ n0.toInt ≤ 122) (bf0 : 0 ≤ 1 * m3.toInt + ((-1) * (σ.2.1 3 5).toInt + 0) ∧ 1 * m3.toInt + ((-1) * (σ.2.1 3 5).toInt + 0) ≤ 4611686018427387904) (cuta : ∀ (lw' : List (Nat × Value)) (m2' : Int32) (m3' : Int32) (m4' : Int32) (m5' : Int32) (n0' : Int32) (σ' : am_S), (0, Value.ref 3) ∈ lw' → (1, Value.retAddr 19059) ∈ lw' → (2, Value.int m2') ∈ lw' → (3, Value.int m3') ∈ lw' → (4, Value.int m4') ∈ lw' → (5, Value.int m5') ∈ lw' → ((-1) ≤ 1 * m5.toInt + ((-1) * m5'.toInt + 0) ∧ 1 * m5.toInt + ((-1) * m5'.toInt + 0) ≤ (-1)) → ((-1) ≤ 1 * m5.toInt + ((-1) * n0'.toInt + 0) ∧ 1 * m5.toInt + ((-1) * n0'.toInt + 0) ≤ (-1)) → (0 ≤ 1 * m2.toInt + ((-1) * m2'.toInt + 0) ∧ 1 * m2.toInt + ((-1) * m2'.toInt + 0) ≤ 0) → ((-1) ≤ 1 * m3.toInt + ((-1) * m3'.toInt + 0) ∧ 1 * m3.toInt + ((-1) * m3'.toInt + 0) ≤ (-1)) → (0 ≤ 1 * m4'.toInt + 0 ∧ 1 * m4'.toInt + 0 ≤ 0) → sx_M z9 hd_C σ 0 0 σ' → am_K g 15 tX6_wordOf.1 0 0 23 lw' [.retAddr 19059, .int n0'] σ' post) : am_K g 15 tX6_wordOf.1 0 0 35 lw [.int n0] σ post := by
  refine sg_seg (sw := [.int n0]) (vs := [m2.toInt, m3.toInt, m4.toInt, m5.toInt, (σ.2.1 3 5).toInt]) (ws := [n0.toInt]) G (mi := 252) rfl hct sg_wa3f_ok ⟨⟨m2, hl2, rfl⟩, ⟨⟨m3, hl3, rfl⟩, ⟨⟨m4, hl4, rfl⟩, ⟨⟨m5, hl5, rfl⟩, ⟨rfl, trivial⟩⟩⟩⟩⟩ (hd_rfc hl (hd_rfcx hlr1 hd_rfn)) ⟨⟨n0, rfl, rfl⟩, trivial⟩ (hd_p1 rfl bl2.1 bl2.2 (hd_p1 rfl bl3.1 bl3.2 (hd_p1 rfl bl4.1 bl4.2 (hd_p1 rfl bl5.1 bl5.2 (hd_p1 rfl (hd_kd_3_5 hM).1 (hd_kd_3_5 hM).2 (hd_p1 rfl bk0.1 bk0.2 (hd_pf rfl bf0.1 bf0.2 hd_p0))))))) hM ?_ ?_
  · intro r σ' hq
    cases r with
    | none => exact hq.elim
    | some v =>
      obtain ⟨p, hp, hM2, ks, hk, hv⟩ := hq
      cases hp
  · intro u hu
    simp only [List.mem_cons, List.not_mem_nil, or_false] at hu
    rcases hu with rfl
    · intro lw' sw' vs' ws' σ' ⟨h1_0, h2, h3_0, h4, h5⟩
      obtain ⟨m2', vs1, rfl, hm2, h1_1⟩ := hd_srcl h1_0
      obtain ⟨m3', vs2, rfl, hm3, h1_2⟩ := hd_srcl h1_1
      obtain ⟨m4', vs3, rfl, hm4, h1_3⟩ := hd_srcl h1_2
      obtain ⟨m5', vs4, rfl, hm5, h1_4⟩ := hd_srcl h1_3
      obtain rfl := hd_src0 h1_4
      obtain ⟨sw1, rfl, h3_1⟩ := hd_strx h3_0
      obtain ⟨n0', sw2, ws2, rfl, rfl, h3_2⟩ := hd_sti h3_1
      obtain ⟨rfl, rfl⟩ := hd_st0 h3_2
      have hr9_0 := hd_rfh h2
      have hr9_1 := hd_rfhx (hd_rfT h2)
      obtain ⟨v0, e0, l0, u0⟩ := h4 _ (List.mem_cons_self)
      have g0 : 1 * m5.toInt + ((-1) * m5'.toInt + 0) = v0 := Option.some.inj e0
      obtain ⟨v1, e1, l1, u1⟩ := h4 _ (List.mem_cons_of_mem _ (List.mem_cons_self))
      have g1 : 1 * m5.toInt + ((-1) * n0'.toInt + 0) = v1 := Option.some.inj e1
      obtain ⟨v2, e2, l2, u2⟩ := h4 _ (List.mem_cons_of_mem _ (List.mem_cons_of_mem _ (List.mem_cons_self)))
      have g2 : 1 * m2.toInt + ((-1) * m2'.toInt + 0) = v2 := Option.some.inj e2
      obtain ⟨v3, e3, l3, u3⟩ := h4 _ (List.mem_cons_of_mem _ (List.mem_cons_of_mem _ (List.mem_cons_of_mem _ (List.mem_cons_self))))
      have g3 : 1 * m3.toInt + ((-1) * m3'.toInt + 0) = v3 := Option.some.inj e3
      obtain ⟨v4, e4, l4, u4⟩ := h4 _ (List.mem_cons_of_mem _ (List.mem_cons_of_mem _ (List.mem_cons_of_mem _ (List.mem_cons_of_mem _ (List.mem_cons_self)))))
      have g4 : 1 * m4'.toInt + 0 = v4 := Option.some.inj e4
      exact cuta _ _ _ _ _ _ _ hr9_0 hr9_1 hm2 hm3 hm4 hm5 ⟨by rw [g0]; exact l0, by rw [g0]; exact u0⟩ ⟨by rw [g1]; exact l1, by rw [g1]; exact u1⟩ ⟨by rw [g2]; exact l2, by rw [g2]; exact u2⟩ ⟨by rw [g3]; exact l3, by rw [g3]; exact u3⟩ ⟨by rw [g4]; exact l4, by rw [g4]; exact u4⟩ h5
theorem sg_wa3g_run (G : sx_G0 g L xs z9 hd_C ex_mt) (hct : ∀ (mi : Nat) (T2 : ex_T) (c' : sx_Ct), ex_mt mi = some T2 → c' ∈ k9 mi → c'.1 < 60 → sx_Holds g z9 hd_C T2 c') {σ : am_S} {lw : List (Nat × Value)} {post : Option (Option Value) → am_S → Prop} (hM : sx_M z9 hd_C σ 0 0 σ) (hl : (0, Value.ref 3) ∈ lw) (hlr1 : (1, Value.retAddr 19059) ∈ lw) {m2 : Int32} (hl2 : (2, Value.int m2) ∈ lw) (bl2 : 0 ≤ m2.toInt ∧ m2.toInt ≤ 10) {m3 : Int32} (hl3 : (3, Value.int m3) ∈ lw) (bl3 : 0 ≤ m3.toInt ∧ m3.toInt ≤ 2) {m4 : Int32} (hl4 : (4, Value.int m4) ∈ lw) (bl4 : 1 ≤ m4.toInt ∧ m4.toInt ≤ 1) {m5 : Int32} (hl5 : (5, Value.int m5) ∈ lw) (bl5 : 0 ≤ m5.toInt ∧ m5.toInt ≤ 2) (bp3_4 : 0 ≤ (σ.2.1 3 4).toInt ∧ (σ.2.1 3 4).toInt ≤ 940) {n0 : Int32} (bk0 : 97 ≤ n0.toInt ∧ n0.toInt ≤ 122) (bf0 : (-4611686018427387904) ≤ 1 * m3.toInt + ((-1) * (σ.2.1 3 5).toInt + 0) ∧ 1 * m3.toInt + ((-1) * (σ.2.1 3 5).toInt + 0) ≤ (-1)) (cuta : ∀ (lw' : List (Nat × Value)) (m2' : Int32) (m3' : Int32) (m4' : Int32) (m5' : Int32) (m6' : Int32) (n0' : Int32) (σ' : am_S), (0, Value.ref 3) ∈ lw' → (1, Value.retAddr 19059) ∈ lw' → (2, Value.int m2') ∈ lw' → (3, Value.int m3') ∈ lw' → (4, Value.int m4') ∈ lw' → (5, Value.int m5') ∈ lw' → (6, Value.int m6') ∈ lw' → (0 ≤ 1 * m3.toInt + (1 * (σ.2.1 3 4).toInt + ((-1) * n0'.toInt + 0)) ∧ 1 * m3.toInt + (1 * (σ.2.1 3 4).toInt + ((-1) * n0'.toInt + 0)) ≤ 0) → (0 ≤ 1 * m5.toInt + ((-1) * m5'.toInt + 0) ∧ 1 * m5.toInt + ((-1) * m5'.toInt + 0) ≤ 0) → (0 ≤ 1 * n0.toInt + ((-1) * m6'.toInt + 0) ∧ 1 * n0.toInt + ((-1) * m6'.toInt + 0) ≤ 0) → (0 ≤ 1 * m2.toInt + ((-1) * m2'.toInt + 0) ∧ 1 * m2.toInt + ((-1) * m2'.toInt + 0) ≤ 0) → (0 ≤ 1 * m3.toInt + ((-1) * m3'.toInt + 0) ∧ 1 * m3.toInt + ((-1) * m3'.toInt + 0) ≤ 0) → (0 ≤ 1 * m4.toInt + ((-1) * m4'.toInt + 0) ∧ 1 * m4.toInt + ((-1) * m4'.toInt + 0) ≤ 0) → sx_M z9 hd_C σ 0 0 σ' → am_K g 15 tX6_wordOf.1 0 0 67 lw' [.int n0', .ref 1] σ' post) : am_K g 15 tX6_wordOf.1 0 0 35 lw [.int n0] σ post := by
  refine sg_seg (sw := [.int n0]) (vs := [m2.toInt, m3.toInt, m4.toInt, m5.toInt, (σ.2.1 3 5).toInt, (σ.2.1 3 4).toInt]) (ws := [n0.toInt]) G (mi := 252) rfl hct sg_wa3g_ok ⟨⟨m2, hl2, rfl⟩, ⟨⟨m3, hl3, rfl⟩, ⟨⟨m4, hl4, rfl⟩, ⟨⟨m5, hl5, rfl⟩, ⟨rfl, ⟨rfl, trivial⟩⟩⟩⟩⟩⟩ (hd_rfc hl (hd_rfcx hlr1 hd_rfn)) ⟨⟨n0, rfl, rfl⟩, trivial⟩ (hd_p1 rfl bl2.1 bl2.2 (hd_p1 rfl bl3.1 bl3.2 (hd_p1 rfl bl4.1 bl4.2 (hd_p1 rfl bl5.1 bl5.2 (hd_p1 rfl (hd_kd_3_5 hM).1 (hd_kd_3_5 hM).2 (hd_p1 rfl bp3_4.1 bp3_4.2 (hd_p1 rfl bk0.1 bk0.2 (hd_pf rfl bf0.1 bf0.2 hd_p0)))))))) hM ?_ ?_
  · intro r σ' hq
    cases r with
    | none => exact hq.elim
    | some v =>
      obtain ⟨p, hp, hM2, ks, hk, hv⟩ := hq
      cases hp
  · intro u hu
    simp only [List.mem_cons, List.not_mem_nil, or_false] at hu
    rcases hu with rfl
    · intro lw' sw' vs' ws' σ' ⟨h1_0, h2, h3_0, h4, h5⟩
      obtain ⟨m2', vs1, rfl, hm2, h1_1⟩ := hd_srcl h1_0
      obtain ⟨m3', vs2, rfl, hm3, h1_2⟩ := hd_srcl h1_1
      obtain ⟨m4', vs3, rfl, hm4, h1_3⟩ := hd_srcl h1_2
      obtain ⟨m5', vs4, rfl, hm5, h1_4⟩ := hd_srcl h1_3
      obtain ⟨m6', vs5, rfl, hm6, h1_5⟩ := hd_srcl h1_4
      obtain rfl := hd_src0 h1_5
      obtain ⟨n0', sw1, ws1, rfl, rfl, h3_1⟩ := hd_sti h3_0
      obtain ⟨sw2, rfl, h3_2⟩ := hd_str h3_1
      obtain ⟨rfl, rfl⟩ := hd_st0 h3_2
      have hr9_0 := hd_rfh h2
      have hr9_1 := hd_rfhx (hd_rfT h2)
      obtain ⟨v0, e0, l0, u0⟩ := h4 _ (List.mem_cons_self)
      have g0 : 1 * m3.toInt + (1 * (σ.2.1 3 4).toInt + ((-1) * n0'.toInt + 0)) = v0 := Option.some.inj e0
      obtain ⟨v1, e1, l1, u1⟩ := h4 _ (List.mem_cons_of_mem _ (List.mem_cons_self))
      have g1 : 1 * m5.toInt + ((-1) * m5'.toInt + 0) = v1 := Option.some.inj e1
      obtain ⟨v2, e2, l2, u2⟩ := h4 _ (List.mem_cons_of_mem _ (List.mem_cons_of_mem _ (List.mem_cons_self)))
      have g2 : 1 * n0.toInt + ((-1) * m6'.toInt + 0) = v2 := Option.some.inj e2
      obtain ⟨v3, e3, l3, u3⟩ := h4 _ (List.mem_cons_of_mem _ (List.mem_cons_of_mem _ (List.mem_cons_of_mem _ (List.mem_cons_self))))
      have g3 : 1 * m2.toInt + ((-1) * m2'.toInt + 0) = v3 := Option.some.inj e3
      obtain ⟨v4, e4, l4, u4⟩ := h4 _ (List.mem_cons_of_mem _ (List.mem_cons_of_mem _ (List.mem_cons_of_mem _ (List.mem_cons_of_mem _ (List.mem_cons_self)))))
      have g4 : 1 * m3.toInt + ((-1) * m3'.toInt + 0) = v4 := Option.some.inj e4
      obtain ⟨v5, e5, l5, u5⟩ := h4 _ (List.mem_cons_of_mem _ (List.mem_cons_of_mem _ (List.mem_cons_of_mem _ (List.mem_cons_of_mem _ (List.mem_cons_of_mem _ (List.mem_cons_self))))))
      have g5 : 1 * m4.toInt + ((-1) * m4'.toInt + 0) = v5 := Option.some.inj e5
      exact cuta _ _ _ _ _ _ _ _ hr9_0 hr9_1 hm2 hm3 hm4 hm5 hm6 ⟨by rw [g0]; exact l0, by rw [g0]; exact u0⟩ ⟨by rw [g1]; exact l1, by rw [g1]; exact u1⟩ ⟨by rw [g2]; exact l2, by rw [g2]; exact u2⟩ ⟨by rw [g3]; exact l3, by rw [g3]; exact u3⟩ ⟨by rw [g4]; exact l4, by rw [g4]; exact u4⟩ ⟨by rw [g5]; exact l5, by rw [g5]; exact u5⟩ h5
theorem sg_wa4a_run (G : sx_G0 g L xs z9 hd_C ex_mt) (hct : ∀ (mi : Nat) (T2 : ex_T) (c' : sx_Ct), ex_mt mi = some T2 → c' ∈ k9 mi → c'.1 < 60 → sx_Holds g z9 hd_C T2 c') {σ : am_S} {lw : List (Nat × Value)} {post : Option (Option Value) → am_S → Prop} (hM : sx_M z9 hd_C σ 0 0 σ) (hl : (0, Value.ref 3) ∈ lw) (hlr1 : (1, Value.retAddr 19059) ∈ lw) {m2 : Int32} (hl2 : (2, Value.int m2) ∈ lw) (bl2 : 0 ≤ m2.toInt ∧ m2.toInt ≤ 10) {m3 : Int32} (hl3 : (3, Value.int m3) ∈ lw) (bl3 : 0 ≤ m3.toInt ∧ m3.toInt ≤ 2) {m4 : Int32} (hl4 : (4, Value.int m4) ∈ lw) (bl4 : 0 ≤ m4.toInt ∧ m4.toInt ≤ 1) {m5 : Int32} (hl5 : (5, Value.int m5) ∈ lw) (bl5 : 0 ≤ m5.toInt ∧ m5.toInt ≤ 2) {m6 : Int32} (hl6 : (6, Value.int m6) ∈ lw) {n0 : Int32} (bf0 : 1 ≤ 1 * m6.toInt + ((-1) * n0.toInt + 0) ∧ 1 * m6.toInt + ((-1) * n0.toInt + 0) ≤ 4611686018427387904) (cuta : ∀ (lw' : List (Nat × Value)) (m2' : Int32) (m3' : Int32) (m4' : Int32) (m5' : Int32) (n0' : Int32) (σ' : am_S), (0, Value.ref 3) ∈ lw' → (1, Value.retAddr 19059) ∈ lw' → (2, Value.int m2') ∈ lw' → (3, Value.int m3') ∈ lw' → (4, Value.int m4') ∈ lw' → (5, Value.int m5') ∈ lw' → ((-1) ≤ 1 * m5.toInt + ((-1) * m5'.toInt + 0) ∧ 1 * m5.toInt + ((-1) * m5'.toInt + 0) ≤ (-1)) → ((-1) ≤ 1 * m5.toInt + ((-1) * n0'.toInt + 0) ∧ 1 * m5.toInt + ((-1) * n0'.toInt + 0) ≤ (-1)) → (0 ≤ 1 * m2.toInt + ((-1) * m2'.toInt + 0) ∧ 1 * m2.toInt + ((-1) * m2'.toInt + 0) ≤ 0) → ((-1) ≤ 1 * m3.toInt + ((-1) * m3'.toInt + 0) ∧ 1 * m3.toInt + ((-1) * m3'.toInt + 0) ≤ (-1)) → (0 ≤ 1 * m4'.toInt + 0 ∧ 1 * m4'.toInt + 0 ≤ 0) → sx_M z9 hd_C σ 0 0 σ' → am_K g 15 tX6_wordOf.1 0 0 23 lw' [.retAddr 19059, .int n0'] σ' post) : am_K g 15 tX6_wordOf.1 0 0 70 lw [.int n0] σ post := by
  refine sg_seg (sw := [.int n0]) (vs := [m2.toInt, m3.toInt, m4.toInt, m5.toInt, m6.toInt]) (ws := [n0.toInt]) G (mi := 252) rfl hct sg_wa4a_ok ⟨⟨m2, hl2, rfl⟩, ⟨⟨m3, hl3, rfl⟩, ⟨⟨m4, hl4, rfl⟩, ⟨⟨m5, hl5, rfl⟩, ⟨⟨m6, hl6, rfl⟩, trivial⟩⟩⟩⟩⟩ (hd_rfc hl (hd_rfcx hlr1 hd_rfn)) ⟨⟨n0, rfl, rfl⟩, trivial⟩ (hd_p1 rfl bl2.1 bl2.2 (hd_p1 rfl bl3.1 bl3.2 (hd_p1 rfl bl4.1 bl4.2 (hd_p1 rfl bl5.1 bl5.2 (hd_p1 rfl (Int32.le_toInt _) (Int32.toInt_le _) (hd_p1 rfl (Int32.le_toInt _) (Int32.toInt_le _) (hd_pf rfl bf0.1 bf0.2 hd_p0))))))) hM ?_ ?_
  · intro r σ' hq
    cases r with
    | none => exact hq.elim
    | some v =>
      obtain ⟨p, hp, hM2, ks, hk, hv⟩ := hq
      cases hp
  · intro u hu
    simp only [List.mem_cons, List.not_mem_nil, or_false] at hu
    rcases hu with rfl
    · intro lw' sw' vs' ws' σ' ⟨h1_0, h2, h3_0, h4, h5⟩
      obtain ⟨m2', vs1, rfl, hm2, h1_1⟩ := hd_srcl h1_0
      obtain ⟨m3', vs2, rfl, hm3, h1_2⟩ := hd_srcl h1_1
      obtain ⟨m4', vs3, rfl, hm4, h1_3⟩ := hd_srcl h1_2
      obtain ⟨m5', vs4, rfl, hm5, h1_4⟩ := hd_srcl h1_3
      obtain rfl := hd_src0 h1_4
      obtain ⟨sw1, rfl, h3_1⟩ := hd_strx h3_0
      obtain ⟨n0', sw2, ws2, rfl, rfl, h3_2⟩ := hd_sti h3_1
      obtain ⟨rfl, rfl⟩ := hd_st0 h3_2
      have hr9_0 := hd_rfh h2
      have hr9_1 := hd_rfhx (hd_rfT h2)
      obtain ⟨v0, e0, l0, u0⟩ := h4 _ (List.mem_cons_self)
      have g0 : 1 * m5.toInt + ((-1) * m5'.toInt + 0) = v0 := Option.some.inj e0
      obtain ⟨v1, e1, l1, u1⟩ := h4 _ (List.mem_cons_of_mem _ (List.mem_cons_self))
      have g1 : 1 * m5.toInt + ((-1) * n0'.toInt + 0) = v1 := Option.some.inj e1
      obtain ⟨v2, e2, l2, u2⟩ := h4 _ (List.mem_cons_of_mem _ (List.mem_cons_of_mem _ (List.mem_cons_self)))
      have g2 : 1 * m2.toInt + ((-1) * m2'.toInt + 0) = v2 := Option.some.inj e2
      obtain ⟨v3, e3, l3, u3⟩ := h4 _ (List.mem_cons_of_mem _ (List.mem_cons_of_mem _ (List.mem_cons_of_mem _ (List.mem_cons_self))))
      have g3 : 1 * m3.toInt + ((-1) * m3'.toInt + 0) = v3 := Option.some.inj e3
      obtain ⟨v4, e4, l4, u4⟩ := h4 _ (List.mem_cons_of_mem _ (List.mem_cons_of_mem _ (List.mem_cons_of_mem _ (List.mem_cons_of_mem _ (List.mem_cons_self)))))
      have g4 : 1 * m4'.toInt + 0 = v4 := Option.some.inj e4
      exact cuta _ _ _ _ _ _ _ hr9_0 hr9_1 hm2 hm3 hm4 hm5 ⟨by rw [g0]; exact l0, by rw [g0]; exact u0⟩ ⟨by rw [g1]; exact l1, by rw [g1]; exact u1⟩ ⟨by rw [g2]; exact l2, by rw [g2]; exact u2⟩ ⟨by rw [g3]; exact l3, by rw [g3]; exact u3⟩ ⟨by rw [g4]; exact l4, by rw [g4]; exact u4⟩ h5
theorem sg_wa4b_run (G : sx_G0 g L xs z9 hd_C ex_mt) (hct : ∀ (mi : Nat) (T2 : ex_T) (c' : sx_Ct), ex_mt mi = some T2 → c' ∈ k9 mi → c'.1 < 60 → sx_Holds g z9 hd_C T2 c') {σ : am_S} {lw : List (Nat × Value)} {post : Option (Option Value) → am_S → Prop} (hM : sx_M z9 hd_C σ 0 0 σ) (hl : (0, Value.ref 3) ∈ lw) (hlr1 : (1, Value.retAddr 19059) ∈ lw) {m2 : Int32} (hl2 : (2, Value.int m2) ∈ lw) (bl2 : 0 ≤ m2.toInt ∧ m2.toInt ≤ 10) {m3 : Int32} (hl3 : (3, Value.int m3) ∈ lw) (bl3 : 0 ≤ m3.toInt ∧ m3.toInt ≤ 2) {m4 : Int32} (hl4 : (4, Value.int m4) ∈ lw) (bl4 : 0 ≤ m4.toInt ∧ m4.toInt ≤ 1) {m5 : Int32} (hl5 : (5, Value.int m5) ∈ lw) (bl5 : 0 ≤ m5.toInt ∧ m5.toInt ≤ 2) {m6 : Int32} (hl6 : (6, Value.int m6) ∈ lw) {n0 : Int32} (bf0 : 0 ≤ 1 * m6.toInt + ((-1) * n0.toInt + 0) ∧ 1 * m6.toInt + ((-1) * n0.toInt + 0) ≤ 0) (cuta : ∀ (lw' : List (Nat × Value)) (m2' : Int32) (m3' : Int32) (m4' : Int32) (m5' : Int32) (n0' : Int32) (σ' : am_S), (0, Value.ref 3) ∈ lw' → (1, Value.retAddr 19059) ∈ lw' → (2, Value.int m2') ∈ lw' → (3, Value.int m3') ∈ lw' → (4, Value.int m4') ∈ lw' → (5, Value.int m5') ∈ lw' → ((-1) ≤ 1 * m5.toInt + ((-1) * m5'.toInt + 0) ∧ 1 * m5.toInt + ((-1) * m5'.toInt + 0) ≤ (-1)) → ((-1) ≤ 1 * m5.toInt + ((-1) * n0'.toInt + 0) ∧ 1 * m5.toInt + ((-1) * n0'.toInt + 0) ≤ (-1)) → (0 ≤ 1 * m2.toInt + ((-1) * m2'.toInt + 0) ∧ 1 * m2.toInt + ((-1) * m2'.toInt + 0) ≤ 0) → ((-1) ≤ 1 * m3.toInt + ((-1) * m3'.toInt + 0) ∧ 1 * m3.toInt + ((-1) * m3'.toInt + 0) ≤ (-1)) → (1 ≤ 1 * m4'.toInt + 0 ∧ 1 * m4'.toInt + 0 ≤ 1) → sx_M z9 hd_C σ 0 0 σ' → am_K g 15 tX6_wordOf.1 0 0 23 lw' [.retAddr 19059, .int n0'] σ' post) : am_K g 15 tX6_wordOf.1 0 0 70 lw [.int n0] σ post := by
  refine sg_seg (sw := [.int n0]) (vs := [m2.toInt, m3.toInt, m4.toInt, m5.toInt, m6.toInt]) (ws := [n0.toInt]) G (mi := 252) rfl hct sg_wa4b_ok ⟨⟨m2, hl2, rfl⟩, ⟨⟨m3, hl3, rfl⟩, ⟨⟨m4, hl4, rfl⟩, ⟨⟨m5, hl5, rfl⟩, ⟨⟨m6, hl6, rfl⟩, trivial⟩⟩⟩⟩⟩ (hd_rfc hl (hd_rfcx hlr1 hd_rfn)) ⟨⟨n0, rfl, rfl⟩, trivial⟩ (hd_p1 rfl bl2.1 bl2.2 (hd_p1 rfl bl3.1 bl3.2 (hd_p1 rfl bl4.1 bl4.2 (hd_p1 rfl bl5.1 bl5.2 (hd_p1 rfl (Int32.le_toInt _) (Int32.toInt_le _) (hd_p1 rfl (Int32.le_toInt _) (Int32.toInt_le _) (hd_pf rfl bf0.1 bf0.2 hd_p0))))))) hM ?_ ?_
  · intro r σ' hq
    cases r with
    | none => exact hq.elim
    | some v =>
      obtain ⟨p, hp, hM2, ks, hk, hv⟩ := hq
      cases hp
  · intro u hu
    simp only [List.mem_cons, List.not_mem_nil, or_false] at hu
    rcases hu with rfl
    · intro lw' sw' vs' ws' σ' ⟨h1_0, h2, h3_0, h4, h5⟩
      obtain ⟨m2', vs1, rfl, hm2, h1_1⟩ := hd_srcl h1_0
      obtain ⟨m3', vs2, rfl, hm3, h1_2⟩ := hd_srcl h1_1
      obtain ⟨m4', vs3, rfl, hm4, h1_3⟩ := hd_srcl h1_2
      obtain ⟨m5', vs4, rfl, hm5, h1_4⟩ := hd_srcl h1_3
      obtain rfl := hd_src0 h1_4
      obtain ⟨sw1, rfl, h3_1⟩ := hd_strx h3_0
      obtain ⟨n0', sw2, ws2, rfl, rfl, h3_2⟩ := hd_sti h3_1
      obtain ⟨rfl, rfl⟩ := hd_st0 h3_2
      have hr9_0 := hd_rfh h2
      have hr9_1 := hd_rfhx (hd_rfT h2)
      obtain ⟨v0, e0, l0, u0⟩ := h4 _ (List.mem_cons_self)
      have g0 : 1 * m5.toInt + ((-1) * m5'.toInt + 0) = v0 := Option.some.inj e0
      obtain ⟨v1, e1, l1, u1⟩ := h4 _ (List.mem_cons_of_mem _ (List.mem_cons_self))
      have g1 : 1 * m5.toInt + ((-1) * n0'.toInt + 0) = v1 := Option.some.inj e1
      obtain ⟨v2, e2, l2, u2⟩ := h4 _ (List.mem_cons_of_mem _ (List.mem_cons_of_mem _ (List.mem_cons_self)))
      have g2 : 1 * m2.toInt + ((-1) * m2'.toInt + 0) = v2 := Option.some.inj e2
      obtain ⟨v3, e3, l3, u3⟩ := h4 _ (List.mem_cons_of_mem _ (List.mem_cons_of_mem _ (List.mem_cons_of_mem _ (List.mem_cons_self))))
      have g3 : 1 * m3.toInt + ((-1) * m3'.toInt + 0) = v3 := Option.some.inj e3
      obtain ⟨v4, e4, l4, u4⟩ := h4 _ (List.mem_cons_of_mem _ (List.mem_cons_of_mem _ (List.mem_cons_of_mem _ (List.mem_cons_of_mem _ (List.mem_cons_self)))))
      have g4 : 1 * m4'.toInt + 0 = v4 := Option.some.inj e4
      exact cuta _ _ _ _ _ _ _ hr9_0 hr9_1 hm2 hm3 hm4 hm5 ⟨by rw [g0]; exact l0, by rw [g0]; exact u0⟩ ⟨by rw [g1]; exact l1, by rw [g1]; exact u1⟩ ⟨by rw [g2]; exact l2, by rw [g2]; exact u2⟩ ⟨by rw [g3]; exact l3, by rw [g3]; exact u3⟩ ⟨by rw [g4]; exact l4, by rw [g4]; exact u4⟩ h5
theorem sg_wa4c_run (G : sx_G0 g L xs z9 hd_C ex_mt) (hct : ∀ (mi : Nat) (T2 : ex_T) (c' : sx_Ct), ex_mt mi = some T2 → c' ∈ k9 mi → c'.1 < 60 → sx_Holds g z9 hd_C T2 c') {σ : am_S} {lw : List (Nat × Value)} {post : Option (Option Value) → am_S → Prop} (hM : sx_M z9 hd_C σ 0 0 σ) (hl : (0, Value.ref 3) ∈ lw) (hlr1 : (1, Value.retAddr 19059) ∈ lw) {m2 : Int32} (hl2 : (2, Value.int m2) ∈ lw) (bl2 : 0 ≤ m2.toInt ∧ m2.toInt ≤ 10) {m3 : Int32} (hl3 : (3, Value.int m3) ∈ lw) (bl3 : 0 ≤ m3.toInt ∧ m3.toInt ≤ 2) {m4 : Int32} (hl4 : (4, Value.int m4) ∈ lw) (bl4 : 0 ≤ m4.toInt ∧ m4.toInt ≤ 1) {m5 : Int32} (hl5 : (5, Value.int m5) ∈ lw) (bl5 : 0 ≤ m5.toInt ∧ m5.toInt ≤ 2) {m6 : Int32} (hl6 : (6, Value.int m6) ∈ lw) {n0 : Int32} (bf0 : (-4611686018427387904) ≤ 1 * m6.toInt + ((-1) * n0.toInt + 0) ∧ 1 * m6.toInt + ((-1) * n0.toInt + 0) ≤ (-1)) (cuta : ∀ (lw' : List (Nat × Value)) (m2' : Int32) (m3' : Int32) (m4' : Int32) (m5' : Int32) (n0' : Int32) (σ' : am_S), (0, Value.ref 3) ∈ lw' → (1, Value.retAddr 19059) ∈ lw' → (2, Value.int m2') ∈ lw' → (3, Value.int m3') ∈ lw' → (4, Value.int m4') ∈ lw' → (5, Value.int m5') ∈ lw' → ((-1) ≤ 1 * m5.toInt + ((-1) * m5'.toInt + 0) ∧ 1 * m5.toInt + ((-1) * m5'.toInt + 0) ≤ (-1)) → ((-1) ≤ 1 * m5.toInt + ((-1) * n0'.toInt + 0) ∧ 1 * m5.toInt + ((-1) * n0'.toInt + 0) ≤ (-1)) → (0 ≤ 1 * m2.toInt + ((-1) * m2'.toInt + 0) ∧ 1 * m2.toInt + ((-1) * m2'.toInt + 0) ≤ 0) → ((-1) ≤ 1 * m3.toInt + ((-1) * m3'.toInt + 0) ∧ 1 * m3.toInt + ((-1) * m3'.toInt + 0) ≤ (-1)) → (0 ≤ 1 * m4'.toInt + 0 ∧ 1 * m4'.toInt + 0 ≤ 0) → sx_M z9 hd_C σ 0 0 σ' → am_K g 15 tX6_wordOf.1 0 0 23 lw' [.retAddr 19059, .int n0'] σ' post) : am_K g 15 tX6_wordOf.1 0 0 70 lw [.int n0] σ post := by
  refine sg_seg (sw := [.int n0]) (vs := [m2.toInt, m3.toInt, m4.toInt, m5.toInt, m6.toInt]) (ws := [n0.toInt]) G (mi := 252) rfl hct sg_wa4c_ok ⟨⟨m2, hl2, rfl⟩, ⟨⟨m3, hl3, rfl⟩, ⟨⟨m4, hl4, rfl⟩, ⟨⟨m5, hl5, rfl⟩, ⟨⟨m6, hl6, rfl⟩, trivial⟩⟩⟩⟩⟩ (hd_rfc hl (hd_rfcx hlr1 hd_rfn)) ⟨⟨n0, rfl, rfl⟩, trivial⟩ (hd_p1 rfl bl2.1 bl2.2 (hd_p1 rfl bl3.1 bl3.2 (hd_p1 rfl bl4.1 bl4.2 (hd_p1 rfl bl5.1 bl5.2 (hd_p1 rfl (Int32.le_toInt _) (Int32.toInt_le _) (hd_p1 rfl (Int32.le_toInt _) (Int32.toInt_le _) (hd_pf rfl bf0.1 bf0.2 hd_p0))))))) hM ?_ ?_
  · intro r σ' hq
    cases r with
    | none => exact hq.elim
    | some v =>
      obtain ⟨p, hp, hM2, ks, hk, hv⟩ := hq
      cases hp
  · intro u hu
    simp only [List.mem_cons, List.not_mem_nil, or_false] at hu
    rcases hu with rfl
    · intro lw' sw' vs' ws' σ' ⟨h1_0, h2, h3_0, h4, h5⟩
      obtain ⟨m2', vs1, rfl, hm2, h1_1⟩ := hd_srcl h1_0
      obtain ⟨m3', vs2, rfl, hm3, h1_2⟩ := hd_srcl h1_1
      obtain ⟨m4', vs3, rfl, hm4, h1_3⟩ := hd_srcl h1_2
      obtain ⟨m5', vs4, rfl, hm5, h1_4⟩ := hd_srcl h1_3
      obtain rfl := hd_src0 h1_4
      obtain ⟨sw1, rfl, h3_1⟩ := hd_strx h3_0
      obtain ⟨n0', sw2, ws2, rfl, rfl, h3_2⟩ := hd_sti h3_1
      obtain ⟨rfl, rfl⟩ := hd_st0 h3_2
      have hr9_0 := hd_rfh h2
      have hr9_1 := hd_rfhx (hd_rfT h2)
      obtain ⟨v0, e0, l0, u0⟩ := h4 _ (List.mem_cons_self)
      have g0 : 1 * m5.toInt + ((-1) * m5'.toInt + 0) = v0 := Option.some.inj e0
      obtain ⟨v1, e1, l1, u1⟩ := h4 _ (List.mem_cons_of_mem _ (List.mem_cons_self))
      have g1 : 1 * m5.toInt + ((-1) * n0'.toInt + 0) = v1 := Option.some.inj e1
      obtain ⟨v2, e2, l2, u2⟩ := h4 _ (List.mem_cons_of_mem _ (List.mem_cons_of_mem _ (List.mem_cons_self)))
      have g2 : 1 * m2.toInt + ((-1) * m2'.toInt + 0) = v2 := Option.some.inj e2
      obtain ⟨v3, e3, l3, u3⟩ := h4 _ (List.mem_cons_of_mem _ (List.mem_cons_of_mem _ (List.mem_cons_of_mem _ (List.mem_cons_self))))
      have g3 : 1 * m3.toInt + ((-1) * m3'.toInt + 0) = v3 := Option.some.inj e3
      obtain ⟨v4, e4, l4, u4⟩ := h4 _ (List.mem_cons_of_mem _ (List.mem_cons_of_mem _ (List.mem_cons_of_mem _ (List.mem_cons_of_mem _ (List.mem_cons_self)))))
      have g4 : 1 * m4'.toInt + 0 = v4 := Option.some.inj e4
      exact cuta _ _ _ _ _ _ _ hr9_0 hr9_1 hm2 hm3 hm4 hm5 ⟨by rw [g0]; exact l0, by rw [g0]; exact u0⟩ ⟨by rw [g1]; exact l1, by rw [g1]; exact u1⟩ ⟨by rw [g2]; exact l2, by rw [g2]; exact u2⟩ ⟨by rw [g3]; exact l3, by rw [g3]; exact u3⟩ ⟨by rw [g4]; exact l4, by rw [g4]; exact u4⟩ h5
theorem sg_wr1a_run (G : sx_G0 g L xs z9 hd_C ex_mt) (hct : ∀ (mi : Nat) (T2 : ex_T) (c' : sx_Ct), ex_mt mi = some T2 → c' ∈ k9 mi → c'.1 < 60 → sx_Holds g z9 hd_C T2 c') {σ : am_S} {lw : List (Nat × Value)} {post : Option (Option Value) → am_S → Prop} (hM : sx_M z9 hd_C σ 0 0 σ) (hl : (0, Value.ref 3) ∈ lw) (hlr1 : (1, Value.retAddr 19072) ∈ lw) (bp3_3 : (-2147483648) ≤ (σ.2.1 3 3).toInt ∧ (σ.2.1 3 3).toInt ≤ 1) (ret0 : ∀ (r : Int32) (σ' : am_S), ((-1) ≤ 1 * r.toInt + 0 ∧ 1 * r.toInt + 0 ≤ (-1)) → sx_M z9 hd_C σ 0 0 σ' → post (some (some (.int r))) σ') : am_K g 15 tX6_wordOf.1 0 0 0 lw [] σ post := by
  refine sg_seg (sw := []) (vs := [(σ.2.1 3 3).toInt]) (ws := []) G (mi := 252) rfl hct sg_wr1a_ok ⟨rfl, trivial⟩ (hd_rfc hl (hd_rfcx hlr1 hd_rfn)) trivial (hd_p1 rfl bp3_3.1 bp3_3.2 hd_p0) hM ?_ ?_
  · intro r σ' hq
    cases r with
    | none => exact hq.elim
    | some v =>
      obtain ⟨p, hp, hM2, ks, hk, hv⟩ := hq
      simp only [List.mem_cons, List.not_mem_nil, or_false] at hp
      rcases hp with rfl
      · obtain rfl := hd_keys hk
        cases v with
        | none => exact hv.elim
        | some w9 =>
          obtain ⟨r, rfl, hP⟩ := hv
          obtain ⟨v0, e0, l0, u0⟩ := hP _ (List.mem_cons_self)
          have g0 : 1 * r.toInt + 0 = v0 := Option.some.inj e0
          exact ret0 r _ ⟨by rw [g0]; exact l0, by rw [g0]; exact u0⟩ hM2
  · intro u hu
    cases hu
theorem sg_wr1b_run (G : sx_G0 g L xs z9 hd_C ex_mt) (hct : ∀ (mi : Nat) (T2 : ex_T) (c' : sx_Ct), ex_mt mi = some T2 → c' ∈ k9 mi → c'.1 < 60 → sx_Holds g z9 hd_C T2 c') {σ : am_S} {lw : List (Nat × Value)} {post : Option (Option Value) → am_S → Prop} (hM : sx_M z9 hd_C σ 0 0 σ) (hl : (0, Value.ref 3) ∈ lw) (hlr1 : (1, Value.retAddr 19072) ∈ lw) (bp3_3 : 3 ≤ (σ.2.1 3 3).toInt ∧ (σ.2.1 3 3).toInt ≤ 2147483647) (ret0 : ∀ (r : Int32) (σ' : am_S), ((-1) ≤ 1 * r.toInt + 0 ∧ 1 * r.toInt + 0 ≤ (-1)) → sx_M z9 hd_C σ 0 0 σ' → post (some (some (.int r))) σ') : am_K g 15 tX6_wordOf.1 0 0 0 lw [] σ post := by
  refine sg_seg (sw := []) (vs := [(σ.2.1 3 3).toInt]) (ws := []) G (mi := 252) rfl hct sg_wr1b_ok ⟨rfl, trivial⟩ (hd_rfc hl (hd_rfcx hlr1 hd_rfn)) trivial (hd_p1 rfl bp3_3.1 bp3_3.2 hd_p0) hM ?_ ?_
  · intro r σ' hq
    cases r with
    | none => exact hq.elim
    | some v =>
      obtain ⟨p, hp, hM2, ks, hk, hv⟩ := hq
      simp only [List.mem_cons, List.not_mem_nil, or_false] at hp
      rcases hp with rfl
      · obtain rfl := hd_keys hk
        cases v with
        | none => exact hv.elim
        | some w9 =>
          obtain ⟨r, rfl, hP⟩ := hv
          obtain ⟨v0, e0, l0, u0⟩ := hP _ (List.mem_cons_self)
          have g0 : 1 * r.toInt + 0 = v0 := Option.some.inj e0
          exact ret0 r _ ⟨by rw [g0]; exact l0, by rw [g0]; exact u0⟩ hM2
  · intro u hu
    cases hu
theorem sg_wr1c_run (G : sx_G0 g L xs z9 hd_C ex_mt) (hct : ∀ (mi : Nat) (T2 : ex_T) (c' : sx_Ct), ex_mt mi = some T2 → c' ∈ k9 mi → c'.1 < 60 → sx_Holds g z9 hd_C T2 c') {σ : am_S} {lw : List (Nat × Value)} {post : Option (Option Value) → am_S → Prop} (hM : sx_M z9 hd_C σ 0 0 σ) (hl : (0, Value.ref 3) ∈ lw) (hlr1 : (1, Value.retAddr 19072) ∈ lw) (bp3_3 : 2 ≤ (σ.2.1 3 3).toInt ∧ (σ.2.1 3 3).toInt ≤ 2) (cuta : ∀ (lw' : List (Nat × Value)) (m2' : Int32) (m3' : Int32) (m4' : Int32) (m5' : Int32) (n0' : Int32) (σ' : am_S), (0, Value.ref 3) ∈ lw' → (1, Value.retAddr 19072) ∈ lw' → (2, Value.int m2') ∈ lw' → (3, Value.int m3') ∈ lw' → (4, Value.int m4') ∈ lw' → (5, Value.int m5') ∈ lw' → (0 ≤ 1 * m2'.toInt + 0 ∧ 1 * m2'.toInt + 0 ≤ 0) → (0 ≤ 1 * m3'.toInt + 0 ∧ 1 * m3'.toInt + 0 ≤ 0) → (1 ≤ 1 * m4'.toInt + 0 ∧ 1 * m4'.toInt + 0 ≤ 1) → (0 ≤ 1 * m5'.toInt + 0 ∧ 1 * m5'.toInt + 0 ≤ 0) → (0 ≤ 1 * n0'.toInt + 0 ∧ 1 * n0'.toInt + 0 ≤ 0) → sx_M z9 hd_C σ 0 0 σ' → am_K g 15 tX6_wordOf.1 0 0 23 lw' [.retAddr 19072, .int n0'] σ' post) : am_K g 15 tX6_wordOf.1 0 0 0 lw [] σ post := by
  refine sg_seg (sw := []) (vs := [(σ.2.1 3 3).toInt]) (ws := []) G (mi := 252) rfl hct sg_wr1c_ok ⟨rfl, trivial⟩ (hd_rfc hl (hd_rfcx hlr1 hd_rfn)) trivial (hd_p1 rfl bp3_3.1 bp3_3.2 hd_p0) hM ?_ ?_
  · intro r σ' hq
    cases r with
    | none => exact hq.elim
    | some v =>
      obtain ⟨p, hp, hM2, ks, hk, hv⟩ := hq
      cases hp
  · intro u hu
    simp only [List.mem_cons, List.not_mem_nil, or_false] at hu
    rcases hu with rfl
    · intro lw' sw' vs' ws' σ' ⟨h1_0, h2, h3_0, h4, h5⟩
      obtain ⟨m2', vs1, rfl, hm2, h1_1⟩ := hd_srcl h1_0
      obtain ⟨m3', vs2, rfl, hm3, h1_2⟩ := hd_srcl h1_1
      obtain ⟨m4', vs3, rfl, hm4, h1_3⟩ := hd_srcl h1_2
      obtain ⟨m5', vs4, rfl, hm5, h1_4⟩ := hd_srcl h1_3
      obtain rfl := hd_src0 h1_4
      obtain ⟨sw1, rfl, h3_1⟩ := hd_strx h3_0
      obtain ⟨n0', sw2, ws2, rfl, rfl, h3_2⟩ := hd_sti h3_1
      obtain ⟨rfl, rfl⟩ := hd_st0 h3_2
      have hr9_0 := hd_rfh h2
      have hr9_1 := hd_rfhx (hd_rfT h2)
      obtain ⟨v0, e0, l0, u0⟩ := h4 _ (List.mem_cons_self)
      have g0 : 1 * m2'.toInt + 0 = v0 := Option.some.inj e0
      obtain ⟨v1, e1, l1, u1⟩ := h4 _ (List.mem_cons_of_mem _ (List.mem_cons_self))
      have g1 : 1 * m3'.toInt + 0 = v1 := Option.some.inj e1
      obtain ⟨v2, e2, l2, u2⟩ := h4 _ (List.mem_cons_of_mem _ (List.mem_cons_of_mem _ (List.mem_cons_self)))
      have g2 : 1 * m4'.toInt + 0 = v2 := Option.some.inj e2
      obtain ⟨v3, e3, l3, u3⟩ := h4 _ (List.mem_cons_of_mem _ (List.mem_cons_of_mem _ (List.mem_cons_of_mem _ (List.mem_cons_self))))
      have g3 : 1 * m5'.toInt + 0 = v3 := Option.some.inj e3
      obtain ⟨v4, e4, l4, u4⟩ := h4 _ (List.mem_cons_of_mem _ (List.mem_cons_of_mem _ (List.mem_cons_of_mem _ (List.mem_cons_of_mem _ (List.mem_cons_self)))))
      have g4 : 1 * n0'.toInt + 0 = v4 := Option.some.inj e4
      exact cuta _ _ _ _ _ _ _ hr9_0 hr9_1 hm2 hm3 hm4 hm5 ⟨by rw [g0]; exact l0, by rw [g0]; exact u0⟩ ⟨by rw [g1]; exact l1, by rw [g1]; exact u1⟩ ⟨by rw [g2]; exact l2, by rw [g2]; exact u2⟩ ⟨by rw [g3]; exact l3, by rw [g3]; exact u3⟩ ⟨by rw [g4]; exact l4, by rw [g4]; exact u4⟩ h5
theorem sg_wr2a_run (G : sx_G0 g L xs z9 hd_C ex_mt) (hct : ∀ (mi : Nat) (T2 : ex_T) (c' : sx_Ct), ex_mt mi = some T2 → c' ∈ k9 mi → c'.1 < 60 → sx_Holds g z9 hd_C T2 c') {σ : am_S} {lw : List (Nat × Value)} {post : Option (Option Value) → am_S → Prop} (hM : sx_M z9 hd_C σ 0 0 σ) (hl : (0, Value.ref 3) ∈ lw) (hlr1 : (1, Value.retAddr 19072) ∈ lw) {m2 : Int32} (hl2 : (2, Value.int m2) ∈ lw) (bl2 : 0 ≤ m2.toInt ∧ m2.toInt ≤ 10) {m3 : Int32} (hl3 : (3, Value.int m3) ∈ lw) (bl3 : 0 ≤ m3.toInt ∧ m3.toInt ≤ 2) {m4 : Int32} (hl4 : (4, Value.int m4) ∈ lw) (bl4 : 0 ≤ m4.toInt ∧ m4.toInt ≤ 1) {m5 : Int32} (hl5 : (5, Value.int m5) ∈ lw) (bl5 : 0 ≤ m5.toInt ∧ m5.toInt ≤ 1) {n0 : Int32} (bk0 : 2 ≤ n0.toInt ∧ n0.toInt ≤ 2) {n1 : Int32} (bk1 : 0 ≤ n1.toInt ∧ n1.toInt ≤ 1) (bf0 : 0 ≤ 1 * m5.toInt + ((-1) * n1.toInt + 0) ∧ 1 * m5.toInt + ((-1) * n1.toInt + 0) ≤ 0) (cuta : ∀ (lw' : List (Nat × Value)) (m2' : Int32) (m3' : Int32) (m4' : Int32) (m5' : Int32) (n0' : Int32) (σ' : am_S), (0, Value.ref 3) ∈ lw' → (1, Value.retAddr 19072) ∈ lw' → (2, Value.int m2') ∈ lw' → (3, Value.int m3') ∈ lw' → (4, Value.int m4') ∈ lw' → (5, Value.int m5') ∈ lw' → (0 ≤ 1 * m5.toInt + ((-1) * n0'.toInt + 0) ∧ 1 * m5.toInt + ((-1) * n0'.toInt + 0) ≤ 0) → (0 ≤ 1 * m5.toInt + ((-1) * m5'.toInt + 0) ∧ 1 * m5.toInt + ((-1) * m5'.toInt + 0) ≤ 0) → (0 ≤ 1 * m2.toInt + ((-1) * m2'.toInt + 0) ∧ 1 * m2.toInt + ((-1) * m2'.toInt + 0) ≤ 0) → (0 ≤ 1 * m3.toInt + ((-1) * m3'.toInt + 0) ∧ 1 * m3.toInt + ((-1) * m3'.toInt + 0) ≤ 0) → (0 ≤ 1 * m4.toInt + ((-1) * m4'.toInt + 0) ∧ 1 * m4.toInt + ((-1) * m4'.toInt + 0) ≤ 0) → sx_M z9 hd_C σ 0 0 σ' → am_K g 15 tX6_wordOf.1 0 0 32 lw' [.int n0', .retAddr 19072] σ' post) : am_K g 15 tX6_wordOf.1 0 0 26 lw [.int n0, .int n1] σ post := by
  refine sg_seg (sw := [.int n0, .int n1]) (vs := [m2.toInt, m3.toInt, m4.toInt, m5.toInt]) (ws := [n0.toInt, n1.toInt]) G (mi := 252) rfl hct sg_wr2a_ok ⟨⟨m2, hl2, rfl⟩, ⟨⟨m3, hl3, rfl⟩, ⟨⟨m4, hl4, rfl⟩, ⟨⟨m5, hl5, rfl⟩, trivial⟩⟩⟩⟩ (hd_rfc hl (hd_rfcx hlr1 hd_rfn)) ⟨⟨n0, rfl, rfl⟩, ⟨⟨n1, rfl, rfl⟩, trivial⟩⟩ (hd_p1 rfl bl2.1 bl2.2 (hd_p1 rfl bl3.1 bl3.2 (hd_p1 rfl bl4.1 bl4.2 (hd_p1 rfl bl5.1 bl5.2 (hd_p1 rfl bk0.1 bk0.2 (hd_p1 rfl bk1.1 bk1.2 (hd_pf rfl bf0.1 bf0.2 hd_p0))))))) hM ?_ ?_
  · intro r σ' hq
    cases r with
    | none => exact hq.elim
    | some v =>
      obtain ⟨p, hp, hM2, ks, hk, hv⟩ := hq
      cases hp
  · intro u hu
    simp only [List.mem_cons, List.not_mem_nil, or_false] at hu
    rcases hu with rfl
    · intro lw' sw' vs' ws' σ' ⟨h1_0, h2, h3_0, h4, h5⟩
      obtain ⟨m2', vs1, rfl, hm2, h1_1⟩ := hd_srcl h1_0
      obtain ⟨m3', vs2, rfl, hm3, h1_2⟩ := hd_srcl h1_1
      obtain ⟨m4', vs3, rfl, hm4, h1_3⟩ := hd_srcl h1_2
      obtain ⟨m5', vs4, rfl, hm5, h1_4⟩ := hd_srcl h1_3
      obtain rfl := hd_src0 h1_4
      obtain ⟨n0', sw1, ws1, rfl, rfl, h3_1⟩ := hd_sti h3_0
      obtain ⟨sw2, rfl, h3_2⟩ := hd_strx h3_1
      obtain ⟨rfl, rfl⟩ := hd_st0 h3_2
      have hr9_0 := hd_rfh h2
      have hr9_1 := hd_rfhx (hd_rfT h2)
      obtain ⟨v0, e0, l0, u0⟩ := h4 _ (List.mem_cons_self)
      have g0 : 1 * m5.toInt + ((-1) * n0'.toInt + 0) = v0 := Option.some.inj e0
      obtain ⟨v1, e1, l1, u1⟩ := h4 _ (List.mem_cons_of_mem _ (List.mem_cons_self))
      have g1 : 1 * m5.toInt + ((-1) * m5'.toInt + 0) = v1 := Option.some.inj e1
      obtain ⟨v2, e2, l2, u2⟩ := h4 _ (List.mem_cons_of_mem _ (List.mem_cons_of_mem _ (List.mem_cons_self)))
      have g2 : 1 * m2.toInt + ((-1) * m2'.toInt + 0) = v2 := Option.some.inj e2
      obtain ⟨v3, e3, l3, u3⟩ := h4 _ (List.mem_cons_of_mem _ (List.mem_cons_of_mem _ (List.mem_cons_of_mem _ (List.mem_cons_self))))
      have g3 : 1 * m3.toInt + ((-1) * m3'.toInt + 0) = v3 := Option.some.inj e3
      obtain ⟨v4, e4, l4, u4⟩ := h4 _ (List.mem_cons_of_mem _ (List.mem_cons_of_mem _ (List.mem_cons_of_mem _ (List.mem_cons_of_mem _ (List.mem_cons_self)))))
      have g4 : 1 * m4.toInt + ((-1) * m4'.toInt + 0) = v4 := Option.some.inj e4
      exact cuta _ _ _ _ _ _ _ hr9_0 hr9_1 hm2 hm3 hm4 hm5 ⟨by rw [g0]; exact l0, by rw [g0]; exact u0⟩ ⟨by rw [g1]; exact l1, by rw [g1]; exact u1⟩ ⟨by rw [g2]; exact l2, by rw [g2]; exact u2⟩ ⟨by rw [g3]; exact l3, by rw [g3]; exact u3⟩ ⟨by rw [g4]; exact l4, by rw [g4]; exact u4⟩ h5
theorem sg_wr2b_run (G : sx_G0 g L xs z9 hd_C ex_mt) (hct : ∀ (mi : Nat) (T2 : ex_T) (c' : sx_Ct), ex_mt mi = some T2 → c' ∈ k9 mi → c'.1 < 60 → sx_Holds g z9 hd_C T2 c') {σ : am_S} {lw : List (Nat × Value)} {post : Option (Option Value) → am_S → Prop} (hM : sx_M z9 hd_C σ 0 0 σ) (hl : (0, Value.ref 3) ∈ lw) (hlr1 : (1, Value.retAddr 19072) ∈ lw) {m2 : Int32} (hl2 : (2, Value.int m2) ∈ lw) (bl2 : 0 ≤ m2.toInt ∧ m2.toInt ≤ 10) {m3 : Int32} (hl3 : (3, Value.int m3) ∈ lw) (bl3 : 0 ≤ m3.toInt ∧ m3.toInt ≤ 2) {m4 : Int32} (hl4 : (4, Value.int m4) ∈ lw) (bl4 : 0 ≤ m4.toInt ∧ m4.toInt ≤ 0) {m5 : Int32} (hl5 : (5, Value.int m5) ∈ lw) (bl5 : 0 ≤ m5.toInt ∧ m5.toInt ≤ 2) {n0 : Int32} (bk0 : 2 ≤ n0.toInt ∧ n0.toInt ≤ 2) {n1 : Int32} (bk1 : 2 ≤ n1.toInt ∧ n1.toInt ≤ 2) (ret0 : ∀ (r : Int32) (σ' : am_S), ((-1) ≤ 1 * r.toInt + 0 ∧ 1 * r.toInt + 0 ≤ (-1)) → sx_M z9 hd_C σ 0 0 σ' → post (some (some (.int r))) σ') : am_K g 15 tX6_wordOf.1 0 0 26 lw [.int n0, .int n1] σ post := by
  refine sg_seg (sw := [.int n0, .int n1]) (vs := [m2.toInt, m3.toInt, m4.toInt, m5.toInt]) (ws := [n0.toInt, n1.toInt]) G (mi := 252) rfl hct sg_wr2b_ok ⟨⟨m2, hl2, rfl⟩, ⟨⟨m3, hl3, rfl⟩, ⟨⟨m4, hl4, rfl⟩, ⟨⟨m5, hl5, rfl⟩, trivial⟩⟩⟩⟩ (hd_rfc hl (hd_rfcx hlr1 hd_rfn)) ⟨⟨n0, rfl, rfl⟩, ⟨⟨n1, rfl, rfl⟩, trivial⟩⟩ (hd_p1 rfl bl2.1 bl2.2 (hd_p1 rfl bl3.1 bl3.2 (hd_p1 rfl bl4.1 bl4.2 (hd_p1 rfl bl5.1 bl5.2 (hd_p1 rfl bk0.1 bk0.2 (hd_p1 rfl bk1.1 bk1.2 hd_p0)))))) hM ?_ ?_
  · intro r σ' hq
    cases r with
    | none => exact hq.elim
    | some v =>
      obtain ⟨p, hp, hM2, ks, hk, hv⟩ := hq
      simp only [List.mem_cons, List.not_mem_nil, or_false] at hp
      rcases hp with rfl
      · obtain rfl := hd_keys hk
        cases v with
        | none => exact hv.elim
        | some w9 =>
          obtain ⟨r, rfl, hP⟩ := hv
          obtain ⟨v0, e0, l0, u0⟩ := hP _ (List.mem_cons_self)
          have g0 : 1 * r.toInt + 0 = v0 := Option.some.inj e0
          exact ret0 r _ ⟨by rw [g0]; exact l0, by rw [g0]; exact u0⟩ hM2
  · intro u hu
    cases hu
theorem sg_wr2c_run (G : sx_G0 g L xs z9 hd_C ex_mt) (hct : ∀ (mi : Nat) (T2 : ex_T) (c' : sx_Ct), ex_mt mi = some T2 → c' ∈ k9 mi → c'.1 < 60 → sx_Holds g z9 hd_C T2 c') {σ : am_S} {lw : List (Nat × Value)} {post : Option (Option Value) → am_S → Prop} (hM : sx_M z9 hd_C σ 0 0 σ) (hl : (0, Value.ref 3) ∈ lw) (hlr1 : (1, Value.retAddr 19072) ∈ lw) {m2 : Int32} (hl2 : (2, Value.int m2) ∈ lw) (bl2 : 0 ≤ m2.toInt ∧ m2.toInt ≤ 10) {m3 : Int32} (hl3 : (3, Value.int m3) ∈ lw) (bl3 : 0 ≤ m3.toInt ∧ m3.toInt ≤ 2) {m4 : Int32} (hl4 : (4, Value.int m4) ∈ lw) (bl4 : 1 ≤ m4.toInt ∧ m4.toInt ≤ 1) {m5 : Int32} (hl5 : (5, Value.int m5) ∈ lw) (bl5 : 0 ≤ m5.toInt ∧ m5.toInt ≤ 2) {n0 : Int32} (bk0 : 2 ≤ n0.toInt ∧ n0.toInt ≤ 2) {n1 : Int32} (bk1 : 2 ≤ n1.toInt ∧ n1.toInt ≤ 2) (bf0 : (-4611686018427387904) ≤ 1 * m3.toInt + ((-1) * (σ.2.1 3 5).toInt + 0) ∧ 1 * m3.toInt + ((-1) * (σ.2.1 3 5).toInt + 0) ≤ (-1)) (ret0 : ∀ (r : Int32) (σ' : am_S), ((-1) ≤ 1 * r.toInt + 0 ∧ 1 * r.toInt + 0 ≤ (-1)) → sx_M z9 hd_C σ 0 0 σ' → post (some (some (.int r))) σ') : am_K g 15 tX6_wordOf.1 0 0 26 lw [.int n0, .int n1] σ post := by
  refine sg_seg (sw := [.int n0, .int n1]) (vs := [m2.toInt, m3.toInt, m4.toInt, m5.toInt, (σ.2.1 3 5).toInt]) (ws := [n0.toInt, n1.toInt]) G (mi := 252) rfl hct sg_wr2c_ok ⟨⟨m2, hl2, rfl⟩, ⟨⟨m3, hl3, rfl⟩, ⟨⟨m4, hl4, rfl⟩, ⟨⟨m5, hl5, rfl⟩, ⟨rfl, trivial⟩⟩⟩⟩⟩ (hd_rfc hl (hd_rfcx hlr1 hd_rfn)) ⟨⟨n0, rfl, rfl⟩, ⟨⟨n1, rfl, rfl⟩, trivial⟩⟩ (hd_p1 rfl bl2.1 bl2.2 (hd_p1 rfl bl3.1 bl3.2 (hd_p1 rfl bl4.1 bl4.2 (hd_p1 rfl bl5.1 bl5.2 (hd_p1 rfl (hd_kd_3_5 hM).1 (hd_kd_3_5 hM).2 (hd_p1 rfl bk0.1 bk0.2 (hd_p1 rfl bk1.1 bk1.2 (hd_pf rfl bf0.1 bf0.2 hd_p0)))))))) hM ?_ ?_
  · intro r σ' hq
    cases r with
    | none => exact hq.elim
    | some v =>
      obtain ⟨p, hp, hM2, ks, hk, hv⟩ := hq
      simp only [List.mem_cons, List.not_mem_nil, or_false] at hp
      rcases hp with rfl
      · obtain rfl := hd_keys hk
        cases v with
        | none => exact hv.elim
        | some w9 =>
          obtain ⟨r, rfl, hP⟩ := hv
          obtain ⟨v0, e0, l0, u0⟩ := hP _ (List.mem_cons_self)
          have g0 : 1 * r.toInt + 0 = v0 := Option.some.inj e0
          exact ret0 r _ ⟨by rw [g0]; exact l0, by rw [g0]; exact u0⟩ hM2
  · intro u hu
    cases hu
theorem sg_wr2d_run (G : sx_G0 g L xs z9 hd_C ex_mt) (hct : ∀ (mi : Nat) (T2 : ex_T) (c' : sx_Ct), ex_mt mi = some T2 → c' ∈ k9 mi → c'.1 < 60 → sx_Holds g z9 hd_C T2 c') {σ : am_S} {lw : List (Nat × Value)} {post : Option (Option Value) → am_S → Prop} (hM : sx_M z9 hd_C σ 0 0 σ) (hl : (0, Value.ref 3) ∈ lw) (hlr1 : (1, Value.retAddr 19072) ∈ lw) {m2 : Int32} (hl2 : (2, Value.int m2) ∈ lw) (bl2 : 0 ≤ m2.toInt ∧ m2.toInt ≤ 10) {m3 : Int32} (hl3 : (3, Value.int m3) ∈ lw) (bl3 : 0 ≤ m3.toInt ∧ m3.toInt ≤ 2) {m4 : Int32} (hl4 : (4, Value.int m4) ∈ lw) (bl4 : 1 ≤ m4.toInt ∧ m4.toInt ≤ 1) {m5 : Int32} (hl5 : (5, Value.int m5) ∈ lw) (bl5 : 0 ≤ m5.toInt ∧ m5.toInt ≤ 2) {n0 : Int32} (bk0 : 2 ≤ n0.toInt ∧ n0.toInt ≤ 2) {n1 : Int32} (bk1 : 2 ≤ n1.toInt ∧ n1.toInt ≤ 2) (bf0 : 1 ≤ 1 * m3.toInt + ((-1) * (σ.2.1 3 5).toInt + 0) ∧ 1 * m3.toInt + ((-1) * (σ.2.1 3 5).toInt + 0) ≤ 4611686018427387904) (ret0 : ∀ (r : Int32) (σ' : am_S), ((-1) ≤ 1 * r.toInt + 0 ∧ 1 * r.toInt + 0 ≤ (-1)) → sx_M z9 hd_C σ 0 0 σ' → post (some (some (.int r))) σ') : am_K g 15 tX6_wordOf.1 0 0 26 lw [.int n0, .int n1] σ post := by
  refine sg_seg (sw := [.int n0, .int n1]) (vs := [m2.toInt, m3.toInt, m4.toInt, m5.toInt, (σ.2.1 3 5).toInt]) (ws := [n0.toInt, n1.toInt]) G (mi := 252) rfl hct sg_wr2d_ok ⟨⟨m2, hl2, rfl⟩, ⟨⟨m3, hl3, rfl⟩, ⟨⟨m4, hl4, rfl⟩, ⟨⟨m5, hl5, rfl⟩, ⟨rfl, trivial⟩⟩⟩⟩⟩ (hd_rfc hl (hd_rfcx hlr1 hd_rfn)) ⟨⟨n0, rfl, rfl⟩, ⟨⟨n1, rfl, rfl⟩, trivial⟩⟩ (hd_p1 rfl bl2.1 bl2.2 (hd_p1 rfl bl3.1 bl3.2 (hd_p1 rfl bl4.1 bl4.2 (hd_p1 rfl bl5.1 bl5.2 (hd_p1 rfl (hd_kd_3_5 hM).1 (hd_kd_3_5 hM).2 (hd_p1 rfl bk0.1 bk0.2 (hd_p1 rfl bk1.1 bk1.2 (hd_pf rfl bf0.1 bf0.2 hd_p0)))))))) hM ?_ ?_
  · intro r σ' hq
    cases r with
    | none => exact hq.elim
    | some v =>
      obtain ⟨p, hp, hM2, ks, hk, hv⟩ := hq
      simp only [List.mem_cons, List.not_mem_nil, or_false] at hp
      rcases hp with rfl
      · obtain rfl := hd_keys hk
        cases v with
        | none => exact hv.elim
        | some w9 =>
          obtain ⟨r, rfl, hP⟩ := hv
          obtain ⟨v0, e0, l0, u0⟩ := hP _ (List.mem_cons_self)
          have g0 : 1 * r.toInt + 0 = v0 := Option.some.inj e0
          exact ret0 r _ ⟨by rw [g0]; exact l0, by rw [g0]; exact u0⟩ hM2
  · intro u hu
    cases hu
theorem sg_wr2e_run (G : sx_G0 g L xs z9 hd_C ex_mt) (hct : ∀ (mi : Nat) (T2 : ex_T) (c' : sx_Ct), ex_mt mi = some T2 → c' ∈ k9 mi → c'.1 < 60 → sx_Holds g z9 hd_C T2 c') {σ : am_S} {lw : List (Nat × Value)} {post : Option (Option Value) → am_S → Prop} (hM : sx_M z9 hd_C σ 0 0 σ) (hl : (0, Value.ref 3) ∈ lw) (hlr1 : (1, Value.retAddr 19072) ∈ lw) {m2 : Int32} (hl2 : (2, Value.int m2) ∈ lw) (bl2 : 0 ≤ m2.toInt ∧ m2.toInt ≤ 10) {m3 : Int32} (hl3 : (3, Value.int m3) ∈ lw) (bl3 : 0 ≤ m3.toInt ∧ m3.toInt ≤ 2) {m4 : Int32} (hl4 : (4, Value.int m4) ∈ lw) (bl4 : 1 ≤ m4.toInt ∧ m4.toInt ≤ 1) {m5 : Int32} (hl5 : (5, Value.int m5) ∈ lw) (bl5 : 0 ≤ m5.toInt ∧ m5.toInt ≤ 2) {n0 : Int32} (bk0 : 2 ≤ n0.toInt ∧ n0.toInt ≤ 2) {n1 : Int32} (bk1 : 2 ≤ n1.toInt ∧ n1.toInt ≤ 2) (bf0 : 0 ≤ 1 * m3.toInt + ((-1) * (σ.2.1 3 5).toInt + 0) ∧ 1 * m3.toInt + ((-1) * (σ.2.1 3 5).toInt + 0) ≤ 0) (ret0 : ∀ (r : Int32) (σ' : am_S), (0 ≤ 1 * m2.toInt + ((-1) * r.toInt + 0) ∧ 1 * m2.toInt + ((-1) * r.toInt + 0) ≤ 0) → sx_M z9 hd_C σ 0 0 σ' → post (some (some (.int r))) σ') : am_K g 15 tX6_wordOf.1 0 0 26 lw [.int n0, .int n1] σ post := by
  refine sg_seg (sw := [.int n0, .int n1]) (vs := [m2.toInt, m3.toInt, m4.toInt, m5.toInt, (σ.2.1 3 5).toInt]) (ws := [n0.toInt, n1.toInt]) G (mi := 252) rfl hct sg_wr2e_ok ⟨⟨m2, hl2, rfl⟩, ⟨⟨m3, hl3, rfl⟩, ⟨⟨m4, hl4, rfl⟩, ⟨⟨m5, hl5, rfl⟩, ⟨rfl, trivial⟩⟩⟩⟩⟩ (hd_rfc hl (hd_rfcx hlr1 hd_rfn)) ⟨⟨n0, rfl, rfl⟩, ⟨⟨n1, rfl, rfl⟩, trivial⟩⟩ (hd_p1 rfl bl2.1 bl2.2 (hd_p1 rfl bl3.1 bl3.2 (hd_p1 rfl bl4.1 bl4.2 (hd_p1 rfl bl5.1 bl5.2 (hd_p1 rfl (hd_kd_3_5 hM).1 (hd_kd_3_5 hM).2 (hd_p1 rfl bk0.1 bk0.2 (hd_p1 rfl bk1.1 bk1.2 (hd_pf rfl bf0.1 bf0.2 hd_p0)))))))) hM ?_ ?_
  · intro r σ' hq
    cases r with
    | none => exact hq.elim
    | some v =>
      obtain ⟨p, hp, hM2, ks, hk, hv⟩ := hq
      simp only [List.mem_cons, List.not_mem_nil, or_false] at hp
      rcases hp with rfl
      · obtain rfl := hd_keys hk
        cases v with
        | none => exact hv.elim
        | some w9 =>
          obtain ⟨r, rfl, hP⟩ := hv
          obtain ⟨v0, e0, l0, u0⟩ := hP _ (List.mem_cons_self)
          have g0 : 1 * m2.toInt + ((-1) * r.toInt + 0) = v0 := Option.some.inj e0
          exact ret0 r _ ⟨by rw [g0]; exact l0, by rw [g0]; exact u0⟩ hM2
  · intro u hu
    cases hu
theorem sg_wr3a_run (G : sx_G0 g L xs z9 hd_C ex_mt) (hct : ∀ (mi : Nat) (T2 : ex_T) (c' : sx_Ct), ex_mt mi = some T2 → c' ∈ k9 mi → c'.1 < 60 → sx_Holds g z9 hd_C T2 c') {σ : am_S} {lw : List (Nat × Value)} {post : Option (Option Value) → am_S → Prop} (hM : sx_M z9 hd_C σ 0 0 σ) (hl : (0, Value.ref 3) ∈ lw) (hlr1 : (1, Value.retAddr 19072) ∈ lw) {m2 : Int32} (hl2 : (2, Value.int m2) ∈ lw) (bl2 : 0 ≤ m2.toInt ∧ m2.toInt ≤ 10) {m3 : Int32} (hl3 : (3, Value.int m3) ∈ lw) (bl3 : 0 ≤ m3.toInt ∧ m3.toInt ≤ 2) {m4 : Int32} (hl4 : (4, Value.int m4) ∈ lw) (bl4 : 1 ≤ m4.toInt ∧ m4.toInt ≤ 1) {m5 : Int32} (hl5 : (5, Value.int m5) ∈ lw) (bl5 : 0 ≤ m5.toInt ∧ m5.toInt ≤ 2) {n0 : Int32} (bk0 : 32 ≤ n0.toInt ∧ n0.toInt ≤ 32) (bf0 : 0 ≤ 1 * m3.toInt + ((-1) * (σ.2.1 3 5).toInt + 0) ∧ 1 * m3.toInt + ((-1) * (σ.2.1 3 5).toInt + 0) ≤ 0) (ret0 : ∀ (r : Int32) (σ' : am_S), (0 ≤ 1 * m2.toInt + ((-1) * r.toInt + 0) ∧ 1 * m2.toInt + ((-1) * r.toInt + 0) ≤ 0) → sx_M z9 hd_C σ 0 0 σ' → post (some (some (.int r))) σ') : am_K g 15 tX6_wordOf.1 0 0 35 lw [.int n0] σ post := by
  refine sg_seg (sw := [.int n0]) (vs := [m2.toInt, m3.toInt, m4.toInt, m5.toInt, (σ.2.1 3 5).toInt]) (ws := [n0.toInt]) G (mi := 252) rfl hct sg_wr3a_ok ⟨⟨m2, hl2, rfl⟩, ⟨⟨m3, hl3, rfl⟩, ⟨⟨m4, hl4, rfl⟩, ⟨⟨m5, hl5, rfl⟩, ⟨rfl, trivial⟩⟩⟩⟩⟩ (hd_rfc hl (hd_rfcx hlr1 hd_rfn)) ⟨⟨n0, rfl, rfl⟩, trivial⟩ (hd_p1 rfl bl2.1 bl2.2 (hd_p1 rfl bl3.1 bl3.2 (hd_p1 rfl bl4.1 bl4.2 (hd_p1 rfl bl5.1 bl5.2 (hd_p1 rfl (hd_kd_3_5 hM).1 (hd_kd_3_5 hM).2 (hd_p1 rfl bk0.1 bk0.2 (hd_pf rfl bf0.1 bf0.2 hd_p0))))))) hM ?_ ?_
  · intro r σ' hq
    cases r with
    | none => exact hq.elim
    | some v =>
      obtain ⟨p, hp, hM2, ks, hk, hv⟩ := hq
      simp only [List.mem_cons, List.not_mem_nil, or_false] at hp
      rcases hp with rfl
      · obtain rfl := hd_keys hk
        cases v with
        | none => exact hv.elim
        | some w9 =>
          obtain ⟨r, rfl, hP⟩ := hv
          obtain ⟨v0, e0, l0, u0⟩ := hP _ (List.mem_cons_self)
          have g0 : 1 * m2.toInt + ((-1) * r.toInt + 0) = v0 := Option.some.inj e0
          exact ret0 r _ ⟨by rw [g0]; exact l0, by rw [g0]; exact u0⟩ hM2
  · intro u hu
    cases hu
theorem sg_wr3b_run (G : sx_G0 g L xs z9 hd_C ex_mt) (hct : ∀ (mi : Nat) (T2 : ex_T) (c' : sx_Ct), ex_mt mi = some T2 → c' ∈ k9 mi → c'.1 < 60 → sx_Holds g z9 hd_C T2 c') {σ : am_S} {lw : List (Nat × Value)} {post : Option (Option Value) → am_S → Prop} (hM : sx_M z9 hd_C σ 0 0 σ) (hl : (0, Value.ref 3) ∈ lw) (hlr1 : (1, Value.retAddr 19072) ∈ lw) {m2 : Int32} (hl2 : (2, Value.int m2) ∈ lw) (bl2 : 0 ≤ m2.toInt ∧ m2.toInt ≤ 9) {m3 : Int32} (hl3 : (3, Value.int m3) ∈ lw) (bl3 : 0 ≤ m3.toInt ∧ m3.toInt ≤ 2) {m4 : Int32} (hl4 : (4, Value.int m4) ∈ lw) (bl4 : 1 ≤ m4.toInt ∧ m4.toInt ≤ 1) {m5 : Int32} (hl5 : (5, Value.int m5) ∈ lw) (bl5 : 0 ≤ m5.toInt ∧ m5.toInt ≤ 1) {n0 : Int32} (bk0 : 32 ≤ n0.toInt ∧ n0.toInt ≤ 32) (bf0 : (-4611686018427387904) ≤ 1 * m3.toInt + ((-1) * (σ.2.1 3 5).toInt + 0) ∧ 1 * m3.toInt + ((-1) * (σ.2.1 3 5).toInt + 0) ≤ (-1)) (cuta : ∀ (lw' : List (Nat × Value)) (m2' : Int32) (m3' : Int32) (m4' : Int32) (m5' : Int32) (n0' : Int32) (σ' : am_S), (0, Value.ref 3) ∈ lw' → (1, Value.retAddr 19072) ∈ lw' → (2, Value.int m2') ∈ lw' → (3, Value.int m3') ∈ lw' → (4, Value.int m4') ∈ lw' → (5, Value.int m5') ∈ lw' → ((-1) ≤ 1 * m5.toInt + ((-1) * m5'.toInt + 0) ∧ 1 * m5.toInt + ((-1) * m5'.toInt + 0) ≤ (-1)) → ((-1) ≤ 1 * m5.toInt + ((-1) * n0'.toInt + 0) ∧ 1 * m5.toInt + ((-1) * n0'.toInt + 0) ≤ (-1)) → ((-1) ≤ 1 * m2.toInt + ((-1) * m2'.toInt + 0) ∧ 1 * m2.toInt + ((-1) * m2'.toInt + 0) ≤ (-1)) → (0 ≤ 1 * m3'.toInt + 0 ∧ 1 * m3'.toInt + 0 ≤ 0) → (1 ≤ 1 * m4'.toInt + 0 ∧ 1 * m4'.toInt + 0 ≤ 1) → sx_M z9 hd_C σ 0 0 σ' → am_K g 15 tX6_wordOf.1 0 0 23 lw' [.retAddr 19072, .int n0'] σ' post) : am_K g 15 tX6_wordOf.1 0 0 35 lw [.int n0] σ post := by
  refine sg_seg (sw := [.int n0]) (vs := [m2.toInt, m3.toInt, m4.toInt, m5.toInt, (σ.2.1 3 5).toInt]) (ws := [n0.toInt]) G (mi := 252) rfl hct sg_wr3b_ok ⟨⟨m2, hl2, rfl⟩, ⟨⟨m3, hl3, rfl⟩, ⟨⟨m4, hl4, rfl⟩, ⟨⟨m5, hl5, rfl⟩, ⟨rfl, trivial⟩⟩⟩⟩⟩ (hd_rfc hl (hd_rfcx hlr1 hd_rfn)) ⟨⟨n0, rfl, rfl⟩, trivial⟩ (hd_p1 rfl bl2.1 bl2.2 (hd_p1 rfl bl3.1 bl3.2 (hd_p1 rfl bl4.1 bl4.2 (hd_p1 rfl bl5.1 bl5.2 (hd_p1 rfl (hd_kd_3_5 hM).1 (hd_kd_3_5 hM).2 (hd_p1 rfl bk0.1 bk0.2 (hd_pf rfl bf0.1 bf0.2 hd_p0))))))) hM ?_ ?_
  · intro r σ' hq
    cases r with
    | none => exact hq.elim
    | some v =>
      obtain ⟨p, hp, hM2, ks, hk, hv⟩ := hq
      cases hp
  · intro u hu
    simp only [List.mem_cons, List.not_mem_nil, or_false] at hu
    rcases hu with rfl
    · intro lw' sw' vs' ws' σ' ⟨h1_0, h2, h3_0, h4, h5⟩
      obtain ⟨m2', vs1, rfl, hm2, h1_1⟩ := hd_srcl h1_0
      obtain ⟨m3', vs2, rfl, hm3, h1_2⟩ := hd_srcl h1_1
      obtain ⟨m4', vs3, rfl, hm4, h1_3⟩ := hd_srcl h1_2
      obtain ⟨m5', vs4, rfl, hm5, h1_4⟩ := hd_srcl h1_3
      obtain rfl := hd_src0 h1_4
      obtain ⟨sw1, rfl, h3_1⟩ := hd_strx h3_0
      obtain ⟨n0', sw2, ws2, rfl, rfl, h3_2⟩ := hd_sti h3_1
      obtain ⟨rfl, rfl⟩ := hd_st0 h3_2
      have hr9_0 := hd_rfh h2
      have hr9_1 := hd_rfhx (hd_rfT h2)
      obtain ⟨v0, e0, l0, u0⟩ := h4 _ (List.mem_cons_self)
      have g0 : 1 * m5.toInt + ((-1) * m5'.toInt + 0) = v0 := Option.some.inj e0
      obtain ⟨v1, e1, l1, u1⟩ := h4 _ (List.mem_cons_of_mem _ (List.mem_cons_self))
      have g1 : 1 * m5.toInt + ((-1) * n0'.toInt + 0) = v1 := Option.some.inj e1
      obtain ⟨v2, e2, l2, u2⟩ := h4 _ (List.mem_cons_of_mem _ (List.mem_cons_of_mem _ (List.mem_cons_self)))
      have g2 : 1 * m2.toInt + ((-1) * m2'.toInt + 0) = v2 := Option.some.inj e2
      obtain ⟨v3, e3, l3, u3⟩ := h4 _ (List.mem_cons_of_mem _ (List.mem_cons_of_mem _ (List.mem_cons_of_mem _ (List.mem_cons_self))))
      have g3 : 1 * m3'.toInt + 0 = v3 := Option.some.inj e3
      obtain ⟨v4, e4, l4, u4⟩ := h4 _ (List.mem_cons_of_mem _ (List.mem_cons_of_mem _ (List.mem_cons_of_mem _ (List.mem_cons_of_mem _ (List.mem_cons_self)))))
      have g4 : 1 * m4'.toInt + 0 = v4 := Option.some.inj e4
      exact cuta _ _ _ _ _ _ _ hr9_0 hr9_1 hm2 hm3 hm4 hm5 ⟨by rw [g0]; exact l0, by rw [g0]; exact u0⟩ ⟨by rw [g1]; exact l1, by rw [g1]; exact u1⟩ ⟨by rw [g2]; exact l2, by rw [g2]; exact u2⟩ ⟨by rw [g3]; exact l3, by rw [g3]; exact u3⟩ ⟨by rw [g4]; exact l4, by rw [g4]; exact u4⟩ h5
theorem sg_wr3c_run (G : sx_G0 g L xs z9 hd_C ex_mt) (hct : ∀ (mi : Nat) (T2 : ex_T) (c' : sx_Ct), ex_mt mi = some T2 → c' ∈ k9 mi → c'.1 < 60 → sx_Holds g z9 hd_C T2 c') {σ : am_S} {lw : List (Nat × Value)} {post : Option (Option Value) → am_S → Prop} (hM : sx_M z9 hd_C σ 0 0 σ) (hl : (0, Value.ref 3) ∈ lw) (hlr1 : (1, Value.retAddr 19072) ∈ lw) {m2 : Int32} (hl2 : (2, Value.int m2) ∈ lw) (bl2 : 0 ≤ m2.toInt ∧ m2.toInt ≤ 9) {m3 : Int32} (hl3 : (3, Value.int m3) ∈ lw) (bl3 : 0 ≤ m3.toInt ∧ m3.toInt ≤ 2) {m4 : Int32} (hl4 : (4, Value.int m4) ∈ lw) (bl4 : 1 ≤ m4.toInt ∧ m4.toInt ≤ 1) {m5 : Int32} (hl5 : (5, Value.int m5) ∈ lw) (bl5 : 0 ≤ m5.toInt ∧ m5.toInt ≤ 1) {n0 : Int32} (bk0 : 32 ≤ n0.toInt ∧ n0.toInt ≤ 32) (bf0 : 1 ≤ 1 * m3.toInt + ((-1) * (σ.2.1 3 5).toInt + 0) ∧ 1 * m3.toInt + ((-1) * (σ.2.1 3 5).toInt + 0) ≤ 4611686018427387904) (cuta : ∀ (lw' : List (Nat × Value)) (m2' : Int32) (m3' : Int32) (m4' : Int32) (m5' : Int32) (n0' : Int32) (σ' : am_S), (0, Value.ref 3) ∈ lw' → (1, Value.retAddr 19072) ∈ lw' → (2, Value.int m2') ∈ lw' → (3, Value.int m3') ∈ lw' → (4, Value.int m4') ∈ lw' → (5, Value.int m5') ∈ lw' → ((-1) ≤ 1 * m5.toInt + ((-1) * m5'.toInt + 0) ∧ 1 * m5.toInt + ((-1) * m5'.toInt + 0) ≤ (-1)) → ((-1) ≤ 1 * m5.toInt + ((-1) * n0'.toInt + 0) ∧ 1 * m5.toInt + ((-1) * n0'.toInt + 0) ≤ (-1)) → ((-1) ≤ 1 * m2.toInt + ((-1) * m2'.toInt + 0) ∧ 1 * m2.toInt + ((-1) * m2'.toInt + 0) ≤ (-1)) → (0 ≤ 1 * m3'.toInt + 0 ∧ 1 * m3'.toInt + 0 ≤ 0) → (1 ≤ 1 * m4'.toInt + 0 ∧ 1 * m4'.toInt + 0 ≤ 1) → sx_M z9 hd_C σ 0 0 σ' → am_K g 15 tX6_wordOf.1 0 0 23 lw' [.retAddr 19072, .int n0'] σ' post) : am_K g 15 tX6_wordOf.1 0 0 35 lw [.int n0] σ post := by
  refine sg_seg (sw := [.int n0]) (vs := [m2.toInt, m3.toInt, m4.toInt, m5.toInt, (σ.2.1 3 5).toInt]) (ws := [n0.toInt]) G (mi := 252) rfl hct sg_wr3c_ok ⟨⟨m2, hl2, rfl⟩, ⟨⟨m3, hl3, rfl⟩, ⟨⟨m4, hl4, rfl⟩, ⟨⟨m5, hl5, rfl⟩, ⟨rfl, trivial⟩⟩⟩⟩⟩ (hd_rfc hl (hd_rfcx hlr1 hd_rfn)) ⟨⟨n0, rfl, rfl⟩, trivial⟩ (hd_p1 rfl bl2.1 bl2.2 (hd_p1 rfl bl3.1 bl3.2 (hd_p1 rfl bl4.1 bl4.2 (hd_p1 rfl bl5.1 bl5.2 (hd_p1 rfl (hd_kd_3_5 hM).1 (hd_kd_3_5 hM).2 (hd_p1 rfl bk0.1 bk0.2 (hd_pf rfl bf0.1 bf0.2 hd_p0))))))) hM ?_ ?_
  · intro r σ' hq
    cases r with
    | none => exact hq.elim
    | some v =>
      obtain ⟨p, hp, hM2, ks, hk, hv⟩ := hq
      cases hp
  · intro u hu
    simp only [List.mem_cons, List.not_mem_nil, or_false] at hu
    rcases hu with rfl
    · intro lw' sw' vs' ws' σ' ⟨h1_0, h2, h3_0, h4, h5⟩
      obtain ⟨m2', vs1, rfl, hm2, h1_1⟩ := hd_srcl h1_0
      obtain ⟨m3', vs2, rfl, hm3, h1_2⟩ := hd_srcl h1_1
      obtain ⟨m4', vs3, rfl, hm4, h1_3⟩ := hd_srcl h1_2
      obtain ⟨m5', vs4, rfl, hm5, h1_4⟩ := hd_srcl h1_3
      obtain rfl := hd_src0 h1_4
      obtain ⟨sw1, rfl, h3_1⟩ := hd_strx h3_0
      obtain ⟨n0', sw2, ws2, rfl, rfl, h3_2⟩ := hd_sti h3_1
      obtain ⟨rfl, rfl⟩ := hd_st0 h3_2
      have hr9_0 := hd_rfh h2
      have hr9_1 := hd_rfhx (hd_rfT h2)
      obtain ⟨v0, e0, l0, u0⟩ := h4 _ (List.mem_cons_self)
      have g0 : 1 * m5.toInt + ((-1) * m5'.toInt + 0) = v0 := Option.some.inj e0
      obtain ⟨v1, e1, l1, u1⟩ := h4 _ (List.mem_cons_of_mem _ (List.mem_cons_self))
      have g1 : 1 * m5.toInt + ((-1) * n0'.toInt + 0) = v1 := Option.some.inj e1
      obtain ⟨v2, e2, l2, u2⟩ := h4 _ (List.mem_cons_of_mem _ (List.mem_cons_of_mem _ (List.mem_cons_self)))
      have g2 : 1 * m2.toInt + ((-1) * m2'.toInt + 0) = v2 := Option.some.inj e2
      obtain ⟨v3, e3, l3, u3⟩ := h4 _ (List.mem_cons_of_mem _ (List.mem_cons_of_mem _ (List.mem_cons_of_mem _ (List.mem_cons_self))))
      have g3 : 1 * m3'.toInt + 0 = v3 := Option.some.inj e3
      obtain ⟨v4, e4, l4, u4⟩ := h4 _ (List.mem_cons_of_mem _ (List.mem_cons_of_mem _ (List.mem_cons_of_mem _ (List.mem_cons_of_mem _ (List.mem_cons_self)))))
      have g4 : 1 * m4'.toInt + 0 = v4 := Option.some.inj e4
      exact cuta _ _ _ _ _ _ _ hr9_0 hr9_1 hm2 hm3 hm4 hm5 ⟨by rw [g0]; exact l0, by rw [g0]; exact u0⟩ ⟨by rw [g1]; exact l1, by rw [g1]; exact u1⟩ ⟨by rw [g2]; exact l2, by rw [g2]; exact u2⟩ ⟨by rw [g3]; exact l3, by rw [g3]; exact u3⟩ ⟨by rw [g4]; exact l4, by rw [g4]; exact u4⟩ h5
theorem sg_wr3d_run (G : sx_G0 g L xs z9 hd_C ex_mt) (hct : ∀ (mi : Nat) (T2 : ex_T) (c' : sx_Ct), ex_mt mi = some T2 → c' ∈ k9 mi → c'.1 < 60 → sx_Holds g z9 hd_C T2 c') {σ : am_S} {lw : List (Nat × Value)} {post : Option (Option Value) → am_S → Prop} (hM : sx_M z9 hd_C σ 0 0 σ) (hl : (0, Value.ref 3) ∈ lw) (hlr1 : (1, Value.retAddr 19072) ∈ lw) {m2 : Int32} (hl2 : (2, Value.int m2) ∈ lw) (bl2 : 0 ≤ m2.toInt ∧ m2.toInt ≤ 9) {m3 : Int32} (hl3 : (3, Value.int m3) ∈ lw) (bl3 : 0 ≤ m3.toInt ∧ m3.toInt ≤ 2) {m4 : Int32} (hl4 : (4, Value.int m4) ∈ lw) (bl4 : 0 ≤ m4.toInt ∧ m4.toInt ≤ 0) {m5 : Int32} (hl5 : (5, Value.int m5) ∈ lw) (bl5 : 0 ≤ m5.toInt ∧ m5.toInt ≤ 1) {n0 : Int32} (bk0 : 32 ≤ n0.toInt ∧ n0.toInt ≤ 32) (cuta : ∀ (lw' : List (Nat × Value)) (m2' : Int32) (m3' : Int32) (m4' : Int32) (m5' : Int32) (n0' : Int32) (σ' : am_S), (0, Value.ref 3) ∈ lw' → (1, Value.retAddr 19072) ∈ lw' → (2, Value.int m2') ∈ lw' → (3, Value.int m3') ∈ lw' → (4, Value.int m4') ∈ lw' → (5, Value.int m5') ∈ lw' → ((-1) ≤ 1 * m5.toInt + ((-1) * m5'.toInt + 0) ∧ 1 * m5.toInt + ((-1) * m5'.toInt + 0) ≤ (-1)) → ((-1) ≤ 1 * m5.toInt + ((-1) * n0'.toInt + 0) ∧ 1 * m5.toInt + ((-1) * n0'.toInt + 0) ≤ (-1)) → ((-1) ≤ 1 * m2.toInt + ((-1) * m2'.toInt + 0) ∧ 1 * m2.toInt + ((-1) * m2'.toInt + 0) ≤ (-1)) → (0 ≤ 1 * m3'.toInt + 0 ∧ 1 * m3'.toInt + 0 ≤ 0) → (1 ≤ 1 * m4'.toInt + 0 ∧ 1 * m4'.toInt + 0 ≤ 1) → sx_M z9 hd_C σ 0 0 σ' → am_K g 15 tX6_wordOf.1 0 0 23 lw' [.retAddr 19072, .int n0'] σ' post) : am_K g 15 tX6_wordOf.1 0 0 35 lw [.int n0] σ post := by
  refine sg_seg (sw := [.int n0]) (vs := [m2.toInt, m3.toInt, m4.toInt, m5.toInt]) (ws := [n0.toInt]) G (mi := 252) rfl hct sg_wr3d_ok ⟨⟨m2, hl2, rfl⟩, ⟨⟨m3, hl3, rfl⟩, ⟨⟨m4, hl4, rfl⟩, ⟨⟨m5, hl5, rfl⟩, trivial⟩⟩⟩⟩ (hd_rfc hl (hd_rfcx hlr1 hd_rfn)) ⟨⟨n0, rfl, rfl⟩, trivial⟩ (hd_p1 rfl bl2.1 bl2.2 (hd_p1 rfl bl3.1 bl3.2 (hd_p1 rfl bl4.1 bl4.2 (hd_p1 rfl bl5.1 bl5.2 (hd_p1 rfl bk0.1 bk0.2 hd_p0))))) hM ?_ ?_
  · intro r σ' hq
    cases r with
    | none => exact hq.elim
    | some v =>
      obtain ⟨p, hp, hM2, ks, hk, hv⟩ := hq
      cases hp
  · intro u hu
    simp only [List.mem_cons, List.not_mem_nil, or_false] at hu
    rcases hu with rfl
    · intro lw' sw' vs' ws' σ' ⟨h1_0, h2, h3_0, h4, h5⟩
      obtain ⟨m2', vs1, rfl, hm2, h1_1⟩ := hd_srcl h1_0
      obtain ⟨m3', vs2, rfl, hm3, h1_2⟩ := hd_srcl h1_1
      obtain ⟨m4', vs3, rfl, hm4, h1_3⟩ := hd_srcl h1_2
      obtain ⟨m5', vs4, rfl, hm5, h1_4⟩ := hd_srcl h1_3
      obtain rfl := hd_src0 h1_4
      obtain ⟨sw1, rfl, h3_1⟩ := hd_strx h3_0
      obtain ⟨n0', sw2, ws2, rfl, rfl, h3_2⟩ := hd_sti h3_1
      obtain ⟨rfl, rfl⟩ := hd_st0 h3_2
      have hr9_0 := hd_rfh h2
      have hr9_1 := hd_rfhx (hd_rfT h2)
      obtain ⟨v0, e0, l0, u0⟩ := h4 _ (List.mem_cons_self)
      have g0 : 1 * m5.toInt + ((-1) * m5'.toInt + 0) = v0 := Option.some.inj e0
      obtain ⟨v1, e1, l1, u1⟩ := h4 _ (List.mem_cons_of_mem _ (List.mem_cons_self))
      have g1 : 1 * m5.toInt + ((-1) * n0'.toInt + 0) = v1 := Option.some.inj e1
      obtain ⟨v2, e2, l2, u2⟩ := h4 _ (List.mem_cons_of_mem _ (List.mem_cons_of_mem _ (List.mem_cons_self)))
      have g2 : 1 * m2.toInt + ((-1) * m2'.toInt + 0) = v2 := Option.some.inj e2
      obtain ⟨v3, e3, l3, u3⟩ := h4 _ (List.mem_cons_of_mem _ (List.mem_cons_of_mem _ (List.mem_cons_of_mem _ (List.mem_cons_self))))
      have g3 : 1 * m3'.toInt + 0 = v3 := Option.some.inj e3
      obtain ⟨v4, e4, l4, u4⟩ := h4 _ (List.mem_cons_of_mem _ (List.mem_cons_of_mem _ (List.mem_cons_of_mem _ (List.mem_cons_of_mem _ (List.mem_cons_self)))))
      have g4 : 1 * m4'.toInt + 0 = v4 := Option.some.inj e4
      exact cuta _ _ _ _ _ _ _ hr9_0 hr9_1 hm2 hm3 hm4 hm5 ⟨by rw [g0]; exact l0, by rw [g0]; exact u0⟩ ⟨by rw [g1]; exact l1, by rw [g1]; exact u1⟩ ⟨by rw [g2]; exact l2, by rw [g2]; exact u2⟩ ⟨by rw [g3]; exact l3, by rw [g3]; exact u3⟩ ⟨by rw [g4]; exact l4, by rw [g4]; exact u4⟩ h5
theorem sg_wr3e_run (G : sx_G0 g L xs z9 hd_C ex_mt) (hct : ∀ (mi : Nat) (T2 : ex_T) (c' : sx_Ct), ex_mt mi = some T2 → c' ∈ k9 mi → c'.1 < 60 → sx_Holds g z9 hd_C T2 c') {σ : am_S} {lw : List (Nat × Value)} {post : Option (Option Value) → am_S → Prop} (hM : sx_M z9 hd_C σ 0 0 σ) (hl : (0, Value.ref 3) ∈ lw) (hlr1 : (1, Value.retAddr 19072) ∈ lw) {m2 : Int32} (hl2 : (2, Value.int m2) ∈ lw) (bl2 : 0 ≤ m2.toInt ∧ m2.toInt ≤ 10) {m3 : Int32} (hl3 : (3, Value.int m3) ∈ lw) (bl3 : 0 ≤ m3.toInt ∧ m3.toInt ≤ 1) {m4 : Int32} (hl4 : (4, Value.int m4) ∈ lw) (bl4 : 0 ≤ m4.toInt ∧ m4.toInt ≤ 0) {m5 : Int32} (hl5 : (5, Value.int m5) ∈ lw) (bl5 : 0 ≤ m5.toInt ∧ m5.toInt ≤ 1) {n0 : Int32} (bk0 : 97 ≤ n0.toInt ∧ n0.toInt ≤ 122) (cuta : ∀ (lw' : List (Nat × Value)) (m2' : Int32) (m3' : Int32) (m4' : Int32) (m5' : Int32) (n0' : Int32) (σ' : am_S), (0, Value.ref 3) ∈ lw' → (1, Value.retAddr 19072) ∈ lw' → (2, Value.int m2') ∈ lw' → (3, Value.int m3') ∈ lw' → (4, Value.int m4') ∈ lw' → (5, Value.int m5') ∈ lw' → ((-1) ≤ 1 * m5.toInt + ((-1) * m5'.toInt + 0) ∧ 1 * m5.toInt + ((-1) * m5'.toInt + 0) ≤ (-1)) → ((-1) ≤ 1 * m5.toInt + ((-1) * n0'.toInt + 0) ∧ 1 * m5.toInt + ((-1) * n0'.toInt + 0) ≤ (-1)) → (0 ≤ 1 * m2.toInt + ((-1) * m2'.toInt + 0) ∧ 1 * m2.toInt + ((-1) * m2'.toInt + 0) ≤ 0) → ((-1) ≤ 1 * m3.toInt + ((-1) * m3'.toInt + 0) ∧ 1 * m3.toInt + ((-1) * m3'.toInt + 0) ≤ (-1)) → (0 ≤ 1 * m4'.toInt + 0 ∧ 1 * m4'.toInt + 0 ≤ 0) → sx_M z9 hd_C σ 0 0 σ' → am_K g 15 tX6_wordOf.1 0 0 23 lw' [.retAddr 19072, .int n0'] σ' post) : am_K g 15 tX6_wordOf.1 0 0 35 lw [.int n0] σ post := by
  refine sg_seg (sw := [.int n0]) (vs := [m2.toInt, m3.toInt, m4.toInt, m5.toInt]) (ws := [n0.toInt]) G (mi := 252) rfl hct sg_wr3e_ok ⟨⟨m2, hl2, rfl⟩, ⟨⟨m3, hl3, rfl⟩, ⟨⟨m4, hl4, rfl⟩, ⟨⟨m5, hl5, rfl⟩, trivial⟩⟩⟩⟩ (hd_rfc hl (hd_rfcx hlr1 hd_rfn)) ⟨⟨n0, rfl, rfl⟩, trivial⟩ (hd_p1 rfl bl2.1 bl2.2 (hd_p1 rfl bl3.1 bl3.2 (hd_p1 rfl bl4.1 bl4.2 (hd_p1 rfl bl5.1 bl5.2 (hd_p1 rfl bk0.1 bk0.2 hd_p0))))) hM ?_ ?_
  · intro r σ' hq
    cases r with
    | none => exact hq.elim
    | some v =>
      obtain ⟨p, hp, hM2, ks, hk, hv⟩ := hq
      cases hp
  · intro u hu
    simp only [List.mem_cons, List.not_mem_nil, or_false] at hu
    rcases hu with rfl
    · intro lw' sw' vs' ws' σ' ⟨h1_0, h2, h3_0, h4, h5⟩
      obtain ⟨m2', vs1, rfl, hm2, h1_1⟩ := hd_srcl h1_0
      obtain ⟨m3', vs2, rfl, hm3, h1_2⟩ := hd_srcl h1_1
      obtain ⟨m4', vs3, rfl, hm4, h1_3⟩ := hd_srcl h1_2
      obtain ⟨m5', vs4, rfl, hm5, h1_4⟩ := hd_srcl h1_3
      obtain rfl := hd_src0 h1_4
      obtain ⟨sw1, rfl, h3_1⟩ := hd_strx h3_0
      obtain ⟨n0', sw2, ws2, rfl, rfl, h3_2⟩ := hd_sti h3_1
      obtain ⟨rfl, rfl⟩ := hd_st0 h3_2
      have hr9_0 := hd_rfh h2
      have hr9_1 := hd_rfhx (hd_rfT h2)
      obtain ⟨v0, e0, l0, u0⟩ := h4 _ (List.mem_cons_self)
      have g0 : 1 * m5.toInt + ((-1) * m5'.toInt + 0) = v0 := Option.some.inj e0
      obtain ⟨v1, e1, l1, u1⟩ := h4 _ (List.mem_cons_of_mem _ (List.mem_cons_self))
      have g1 : 1 * m5.toInt + ((-1) * n0'.toInt + 0) = v1 := Option.some.inj e1
      obtain ⟨v2, e2, l2, u2⟩ := h4 _ (List.mem_cons_of_mem _ (List.mem_cons_of_mem _ (List.mem_cons_self)))
      have g2 : 1 * m2.toInt + ((-1) * m2'.toInt + 0) = v2 := Option.some.inj e2
      obtain ⟨v3, e3, l3, u3⟩ := h4 _ (List.mem_cons_of_mem _ (List.mem_cons_of_mem _ (List.mem_cons_of_mem _ (List.mem_cons_self))))
      have g3 : 1 * m3.toInt + ((-1) * m3'.toInt + 0) = v3 := Option.some.inj e3
      obtain ⟨v4, e4, l4, u4⟩ := h4 _ (List.mem_cons_of_mem _ (List.mem_cons_of_mem _ (List.mem_cons_of_mem _ (List.mem_cons_of_mem _ (List.mem_cons_self)))))
      have g4 : 1 * m4'.toInt + 0 = v4 := Option.some.inj e4
      exact cuta _ _ _ _ _ _ _ hr9_0 hr9_1 hm2 hm3 hm4 hm5 ⟨by rw [g0]; exact l0, by rw [g0]; exact u0⟩ ⟨by rw [g1]; exact l1, by rw [g1]; exact u1⟩ ⟨by rw [g2]; exact l2, by rw [g2]; exact u2⟩ ⟨by rw [g3]; exact l3, by rw [g3]; exact u3⟩ ⟨by rw [g4]; exact l4, by rw [g4]; exact u4⟩ h5
theorem sg_wr3f_run (G : sx_G0 g L xs z9 hd_C ex_mt) (hct : ∀ (mi : Nat) (T2 : ex_T) (c' : sx_Ct), ex_mt mi = some T2 → c' ∈ k9 mi → c'.1 < 60 → sx_Holds g z9 hd_C T2 c') {σ : am_S} {lw : List (Nat × Value)} {post : Option (Option Value) → am_S → Prop} (hM : sx_M z9 hd_C σ 0 0 σ) (hl : (0, Value.ref 3) ∈ lw) (hlr1 : (1, Value.retAddr 19072) ∈ lw) {m2 : Int32} (hl2 : (2, Value.int m2) ∈ lw) (bl2 : 0 ≤ m2.toInt ∧ m2.toInt ≤ 10) {m3 : Int32} (hl3 : (3, Value.int m3) ∈ lw) (bl3 : 0 ≤ m3.toInt ∧ m3.toInt ≤ 1) {m4 : Int32} (hl4 : (4, Value.int m4) ∈ lw) (bl4 : 1 ≤ m4.toInt ∧ m4.toInt ≤ 1) {m5 : Int32} (hl5 : (5, Value.int m5) ∈ lw) (bl5 : 0 ≤ m5.toInt ∧ m5.toInt ≤ 1) {n0 : Int32} (bk0 : 97 ≤ n0.toInt ∧ n0.toInt ≤ 122) (bf0 : 0 ≤ 1 * m3.toInt + ((-1) * (σ.2.1 3 5).toInt + 0) ∧ 1 * m3.toInt + ((-1) * (σ.2.1 3 5).toInt + 0) ≤ 4611686018427387904) (cuta : ∀ (lw' : List (Nat × Value)) (m2' : Int32) (m3' : Int32) (m4' : Int32) (m5' : Int32) (n0' : Int32) (σ' : am_S), (0, Value.ref 3) ∈ lw' → (1, Value.retAddr 19072) ∈ lw' → (2, Value.int m2') ∈ lw' → (3, Value.int m3') ∈ lw' → (4, Value.int m4') ∈ lw' → (5, Value.int m5') ∈ lw' → ((-1) ≤ 1 * m5.toInt + ((-1) * m5'.toInt + 0) ∧ 1 * m5.toInt + ((-1) * m5'.toInt + 0) ≤ (-1)) → ((-1) ≤ 1 * m5.toInt + ((-1) * n0'.toInt + 0) ∧ 1 * m5.toInt + ((-1) * n0'.toInt + 0) ≤ (-1)) → (0 ≤ 1 * m2.toInt + ((-1) * m2'.toInt + 0) ∧ 1 * m2.toInt + ((-1) * m2'.toInt + 0) ≤ 0) → ((-1) ≤ 1 * m3.toInt + ((-1) * m3'.toInt + 0) ∧ 1 * m3.toInt + ((-1) * m3'.toInt + 0) ≤ (-1)) → (0 ≤ 1 * m4'.toInt + 0 ∧ 1 * m4'.toInt + 0 ≤ 0) → sx_M z9 hd_C σ 0 0 σ' → am_K g 15 tX6_wordOf.1 0 0 23 lw' [.retAddr 19072, .int n0'] σ' post) : am_K g 15 tX6_wordOf.1 0 0 35 lw [.int n0] σ post := by
  refine sg_seg (sw := [.int n0]) (vs := [m2.toInt, m3.toInt, m4.toInt, m5.toInt, (σ.2.1 3 5).toInt]) (ws := [n0.toInt]) G (mi := 252) rfl hct sg_wr3f_ok ⟨⟨m2, hl2, rfl⟩, ⟨⟨m3, hl3, rfl⟩, ⟨⟨m4, hl4, rfl⟩, ⟨⟨m5, hl5, rfl⟩, ⟨rfl, trivial⟩⟩⟩⟩⟩ (hd_rfc hl (hd_rfcx hlr1 hd_rfn)) ⟨⟨n0, rfl, rfl⟩, trivial⟩ (hd_p1 rfl bl2.1 bl2.2 (hd_p1 rfl bl3.1 bl3.2 (hd_p1 rfl bl4.1 bl4.2 (hd_p1 rfl bl5.1 bl5.2 (hd_p1 rfl (hd_kd_3_5 hM).1 (hd_kd_3_5 hM).2 (hd_p1 rfl bk0.1 bk0.2 (hd_pf rfl bf0.1 bf0.2 hd_p0))))))) hM ?_ ?_
  · intro r σ' hq
    cases r with
    | none => exact hq.elim
    | some v =>
      obtain ⟨p, hp, hM2, ks, hk, hv⟩ := hq
      cases hp
  · intro u hu
    simp only [List.mem_cons, List.not_mem_nil, or_false] at hu
    rcases hu with rfl
    · intro lw' sw' vs' ws' σ' ⟨h1_0, h2, h3_0, h4, h5⟩
      obtain ⟨m2', vs1, rfl, hm2, h1_1⟩ := hd_srcl h1_0
      obtain ⟨m3', vs2, rfl, hm3, h1_2⟩ := hd_srcl h1_1
      obtain ⟨m4', vs3, rfl, hm4, h1_3⟩ := hd_srcl h1_2
      obtain ⟨m5', vs4, rfl, hm5, h1_4⟩ := hd_srcl h1_3
      obtain rfl := hd_src0 h1_4
      obtain ⟨sw1, rfl, h3_1⟩ := hd_strx h3_0
      obtain ⟨n0', sw2, ws2, rfl, rfl, h3_2⟩ := hd_sti h3_1
      obtain ⟨rfl, rfl⟩ := hd_st0 h3_2
      have hr9_0 := hd_rfh h2
      have hr9_1 := hd_rfhx (hd_rfT h2)
      obtain ⟨v0, e0, l0, u0⟩ := h4 _ (List.mem_cons_self)
      have g0 : 1 * m5.toInt + ((-1) * m5'.toInt + 0) = v0 := Option.some.inj e0
      obtain ⟨v1, e1, l1, u1⟩ := h4 _ (List.mem_cons_of_mem _ (List.mem_cons_self))
      have g1 : 1 * m5.toInt + ((-1) * n0'.toInt + 0) = v1 := Option.some.inj e1
      obtain ⟨v2, e2, l2, u2⟩ := h4 _ (List.mem_cons_of_mem _ (List.mem_cons_of_mem _ (List.mem_cons_self)))
      have g2 : 1 * m2.toInt + ((-1) * m2'.toInt + 0) = v2 := Option.some.inj e2
      obtain ⟨v3, e3, l3, u3⟩ := h4 _ (List.mem_cons_of_mem _ (List.mem_cons_of_mem _ (List.mem_cons_of_mem _ (List.mem_cons_self))))
      have g3 : 1 * m3.toInt + ((-1) * m3'.toInt + 0) = v3 := Option.some.inj e3
      obtain ⟨v4, e4, l4, u4⟩ := h4 _ (List.mem_cons_of_mem _ (List.mem_cons_of_mem _ (List.mem_cons_of_mem _ (List.mem_cons_of_mem _ (List.mem_cons_self)))))
      have g4 : 1 * m4'.toInt + 0 = v4 := Option.some.inj e4
      exact cuta _ _ _ _ _ _ _ hr9_0 hr9_1 hm2 hm3 hm4 hm5 ⟨by rw [g0]; exact l0, by rw [g0]; exact u0⟩ ⟨by rw [g1]; exact l1, by rw [g1]; exact u1⟩ ⟨by rw [g2]; exact l2, by rw [g2]; exact u2⟩ ⟨by rw [g3]; exact l3, by rw [g3]; exact u3⟩ ⟨by rw [g4]; exact l4, by rw [g4]; exact u4⟩ h5
theorem sg_wr3g_run (G : sx_G0 g L xs z9 hd_C ex_mt) (hct : ∀ (mi : Nat) (T2 : ex_T) (c' : sx_Ct), ex_mt mi = some T2 → c' ∈ k9 mi → c'.1 < 60 → sx_Holds g z9 hd_C T2 c') {σ : am_S} {lw : List (Nat × Value)} {post : Option (Option Value) → am_S → Prop} (hM : sx_M z9 hd_C σ 0 0 σ) (hl : (0, Value.ref 3) ∈ lw) (hlr1 : (1, Value.retAddr 19072) ∈ lw) {m2 : Int32} (hl2 : (2, Value.int m2) ∈ lw) (bl2 : 0 ≤ m2.toInt ∧ m2.toInt ≤ 10) {m3 : Int32} (hl3 : (3, Value.int m3) ∈ lw) (bl3 : 0 ≤ m3.toInt ∧ m3.toInt ≤ 1) {m4 : Int32} (hl4 : (4, Value.int m4) ∈ lw) (bl4 : 1 ≤ m4.toInt ∧ m4.toInt ≤ 1) {m5 : Int32} (hl5 : (5, Value.int m5) ∈ lw) (bl5 : 0 ≤ m5.toInt ∧ m5.toInt ≤ 1) (bp3_4 : 0 ≤ (σ.2.1 3 4).toInt ∧ (σ.2.1 3 4).toInt ≤ 940) {n0 : Int32} (bk0 : 97 ≤ n0.toInt ∧ n0.toInt ≤ 122) (bf0 : (-4611686018427387904) ≤ 1 * m3.toInt + ((-1) * (σ.2.1 3 5).toInt + 0) ∧ 1 * m3.toInt + ((-1) * (σ.2.1 3 5).toInt + 0) ≤ (-1)) (cuta : ∀ (lw' : List (Nat × Value)) (m2' : Int32) (m3' : Int32) (m4' : Int32) (m5' : Int32) (m6' : Int32) (n0' : Int32) (σ' : am_S), (0, Value.ref 3) ∈ lw' → (1, Value.retAddr 19072) ∈ lw' → (2, Value.int m2') ∈ lw' → (3, Value.int m3') ∈ lw' → (4, Value.int m4') ∈ lw' → (5, Value.int m5') ∈ lw' → (6, Value.int m6') ∈ lw' → (0 ≤ 1 * m3.toInt + (1 * (σ.2.1 3 4).toInt + ((-1) * n0'.toInt + 0)) ∧ 1 * m3.toInt + (1 * (σ.2.1 3 4).toInt + ((-1) * n0'.toInt + 0)) ≤ 0) → (0 ≤ 1 * m5.toInt + ((-1) * m5'.toInt + 0) ∧ 1 * m5.toInt + ((-1) * m5'.toInt + 0) ≤ 0) → (0 ≤ 1 * n0.toInt + ((-1) * m6'.toInt + 0) ∧ 1 * n0.toInt + ((-1) * m6'.toInt + 0) ≤ 0) → (0 ≤ 1 * m2.toInt + ((-1) * m2'.toInt + 0) ∧ 1 * m2.toInt + ((-1) * m2'.toInt + 0) ≤ 0) → (0 ≤ 1 * m3.toInt + ((-1) * m3'.toInt + 0) ∧ 1 * m3.toInt + ((-1) * m3'.toInt + 0) ≤ 0) → (0 ≤ 1 * m4.toInt + ((-1) * m4'.toInt + 0) ∧ 1 * m4.toInt + ((-1) * m4'.toInt + 0) ≤ 0) → sx_M z9 hd_C σ 0 0 σ' → am_K g 15 tX6_wordOf.1 0 0 67 lw' [.int n0', .ref 1] σ' post) : am_K g 15 tX6_wordOf.1 0 0 35 lw [.int n0] σ post := by
  refine sg_seg (sw := [.int n0]) (vs := [m2.toInt, m3.toInt, m4.toInt, m5.toInt, (σ.2.1 3 5).toInt, (σ.2.1 3 4).toInt]) (ws := [n0.toInt]) G (mi := 252) rfl hct sg_wr3g_ok ⟨⟨m2, hl2, rfl⟩, ⟨⟨m3, hl3, rfl⟩, ⟨⟨m4, hl4, rfl⟩, ⟨⟨m5, hl5, rfl⟩, ⟨rfl, ⟨rfl, trivial⟩⟩⟩⟩⟩⟩ (hd_rfc hl (hd_rfcx hlr1 hd_rfn)) ⟨⟨n0, rfl, rfl⟩, trivial⟩ (hd_p1 rfl bl2.1 bl2.2 (hd_p1 rfl bl3.1 bl3.2 (hd_p1 rfl bl4.1 bl4.2 (hd_p1 rfl bl5.1 bl5.2 (hd_p1 rfl (hd_kd_3_5 hM).1 (hd_kd_3_5 hM).2 (hd_p1 rfl bp3_4.1 bp3_4.2 (hd_p1 rfl bk0.1 bk0.2 (hd_pf rfl bf0.1 bf0.2 hd_p0)))))))) hM ?_ ?_
  · intro r σ' hq
    cases r with
    | none => exact hq.elim
    | some v =>
      obtain ⟨p, hp, hM2, ks, hk, hv⟩ := hq
      cases hp
  · intro u hu
    simp only [List.mem_cons, List.not_mem_nil, or_false] at hu
    rcases hu with rfl
    · intro lw' sw' vs' ws' σ' ⟨h1_0, h2, h3_0, h4, h5⟩
      obtain ⟨m2', vs1, rfl, hm2, h1_1⟩ := hd_srcl h1_0
      obtain ⟨m3', vs2, rfl, hm3, h1_2⟩ := hd_srcl h1_1
      obtain ⟨m4', vs3, rfl, hm4, h1_3⟩ := hd_srcl h1_2
      obtain ⟨m5', vs4, rfl, hm5, h1_4⟩ := hd_srcl h1_3
      obtain ⟨m6', vs5, rfl, hm6, h1_5⟩ := hd_srcl h1_4
      obtain rfl := hd_src0 h1_5
      obtain ⟨n0', sw1, ws1, rfl, rfl, h3_1⟩ := hd_sti h3_0
      obtain ⟨sw2, rfl, h3_2⟩ := hd_str h3_1
      obtain ⟨rfl, rfl⟩ := hd_st0 h3_2
      have hr9_0 := hd_rfh h2
      have hr9_1 := hd_rfhx (hd_rfT h2)
      obtain ⟨v0, e0, l0, u0⟩ := h4 _ (List.mem_cons_self)
      have g0 : 1 * m3.toInt + (1 * (σ.2.1 3 4).toInt + ((-1) * n0'.toInt + 0)) = v0 := Option.some.inj e0
      obtain ⟨v1, e1, l1, u1⟩ := h4 _ (List.mem_cons_of_mem _ (List.mem_cons_self))
      have g1 : 1 * m5.toInt + ((-1) * m5'.toInt + 0) = v1 := Option.some.inj e1
      obtain ⟨v2, e2, l2, u2⟩ := h4 _ (List.mem_cons_of_mem _ (List.mem_cons_of_mem _ (List.mem_cons_self)))
      have g2 : 1 * n0.toInt + ((-1) * m6'.toInt + 0) = v2 := Option.some.inj e2
      obtain ⟨v3, e3, l3, u3⟩ := h4 _ (List.mem_cons_of_mem _ (List.mem_cons_of_mem _ (List.mem_cons_of_mem _ (List.mem_cons_self))))
      have g3 : 1 * m2.toInt + ((-1) * m2'.toInt + 0) = v3 := Option.some.inj e3
      obtain ⟨v4, e4, l4, u4⟩ := h4 _ (List.mem_cons_of_mem _ (List.mem_cons_of_mem _ (List.mem_cons_of_mem _ (List.mem_cons_of_mem _ (List.mem_cons_self)))))
      have g4 : 1 * m3.toInt + ((-1) * m3'.toInt + 0) = v4 := Option.some.inj e4
      obtain ⟨v5, e5, l5, u5⟩ := h4 _ (List.mem_cons_of_mem _ (List.mem_cons_of_mem _ (List.mem_cons_of_mem _ (List.mem_cons_of_mem _ (List.mem_cons_of_mem _ (List.mem_cons_self))))))
      have g5 : 1 * m4.toInt + ((-1) * m4'.toInt + 0) = v5 := Option.some.inj e5
      exact cuta _ _ _ _ _ _ _ _ hr9_0 hr9_1 hm2 hm3 hm4 hm5 hm6 ⟨by rw [g0]; exact l0, by rw [g0]; exact u0⟩ ⟨by rw [g1]; exact l1, by rw [g1]; exact u1⟩ ⟨by rw [g2]; exact l2, by rw [g2]; exact u2⟩ ⟨by rw [g3]; exact l3, by rw [g3]; exact u3⟩ ⟨by rw [g4]; exact l4, by rw [g4]; exact u4⟩ ⟨by rw [g5]; exact l5, by rw [g5]; exact u5⟩ h5
theorem sg_wr4a_run (G : sx_G0 g L xs z9 hd_C ex_mt) (hct : ∀ (mi : Nat) (T2 : ex_T) (c' : sx_Ct), ex_mt mi = some T2 → c' ∈ k9 mi → c'.1 < 60 → sx_Holds g z9 hd_C T2 c') {σ : am_S} {lw : List (Nat × Value)} {post : Option (Option Value) → am_S → Prop} (hM : sx_M z9 hd_C σ 0 0 σ) (hl : (0, Value.ref 3) ∈ lw) (hlr1 : (1, Value.retAddr 19072) ∈ lw) {m2 : Int32} (hl2 : (2, Value.int m2) ∈ lw) (bl2 : 0 ≤ m2.toInt ∧ m2.toInt ≤ 10) {m3 : Int32} (hl3 : (3, Value.int m3) ∈ lw) (bl3 : 0 ≤ m3.toInt ∧ m3.toInt ≤ 1) {m4 : Int32} (hl4 : (4, Value.int m4) ∈ lw) (bl4 : 0 ≤ m4.toInt ∧ m4.toInt ≤ 1) {m5 : Int32} (hl5 : (5, Value.int m5) ∈ lw) (bl5 : 0 ≤ m5.toInt ∧ m5.toInt ≤ 1) {m6 : Int32} (hl6 : (6, Value.int m6) ∈ lw) {n0 : Int32} (bf0 : 1 ≤ 1 * m6.toInt + ((-1) * n0.toInt + 0) ∧ 1 * m6.toInt + ((-1) * n0.toInt + 0) ≤ 4611686018427387904) (cuta : ∀ (lw' : List (Nat × Value)) (m2' : Int32) (m3' : Int32) (m4' : Int32) (m5' : Int32) (n0' : Int32) (σ' : am_S), (0, Value.ref 3) ∈ lw' → (1, Value.retAddr 19072) ∈ lw' → (2, Value.int m2') ∈ lw' → (3, Value.int m3') ∈ lw' → (4, Value.int m4') ∈ lw' → (5, Value.int m5') ∈ lw' → ((-1) ≤ 1 * m5.toInt + ((-1) * m5'.toInt + 0) ∧ 1 * m5.toInt + ((-1) * m5'.toInt + 0) ≤ (-1)) → ((-1) ≤ 1 * m5.toInt + ((-1) * n0'.toInt + 0) ∧ 1 * m5.toInt + ((-1) * n0'.toInt + 0) ≤ (-1)) → (0 ≤ 1 * m2.toInt + ((-1) * m2'.toInt + 0) ∧ 1 * m2.toInt + ((-1) * m2'.toInt + 0) ≤ 0) → ((-1) ≤ 1 * m3.toInt + ((-1) * m3'.toInt + 0) ∧ 1 * m3.toInt + ((-1) * m3'.toInt + 0) ≤ (-1)) → (0 ≤ 1 * m4'.toInt + 0 ∧ 1 * m4'.toInt + 0 ≤ 0) → sx_M z9 hd_C σ 0 0 σ' → am_K g 15 tX6_wordOf.1 0 0 23 lw' [.retAddr 19072, .int n0'] σ' post) : am_K g 15 tX6_wordOf.1 0 0 70 lw [.int n0] σ post := by
  refine sg_seg (sw := [.int n0]) (vs := [m2.toInt, m3.toInt, m4.toInt, m5.toInt, m6.toInt]) (ws := [n0.toInt]) G (mi := 252) rfl hct sg_wr4a_ok ⟨⟨m2, hl2, rfl⟩, ⟨⟨m3, hl3, rfl⟩, ⟨⟨m4, hl4, rfl⟩, ⟨⟨m5, hl5, rfl⟩, ⟨⟨m6, hl6, rfl⟩, trivial⟩⟩⟩⟩⟩ (hd_rfc hl (hd_rfcx hlr1 hd_rfn)) ⟨⟨n0, rfl, rfl⟩, trivial⟩ (hd_p1 rfl bl2.1 bl2.2 (hd_p1 rfl bl3.1 bl3.2 (hd_p1 rfl bl4.1 bl4.2 (hd_p1 rfl bl5.1 bl5.2 (hd_p1 rfl (Int32.le_toInt _) (Int32.toInt_le _) (hd_p1 rfl (Int32.le_toInt _) (Int32.toInt_le _) (hd_pf rfl bf0.1 bf0.2 hd_p0))))))) hM ?_ ?_
  · intro r σ' hq
    cases r with
    | none => exact hq.elim
    | some v =>
      obtain ⟨p, hp, hM2, ks, hk, hv⟩ := hq
      cases hp
  · intro u hu
    simp only [List.mem_cons, List.not_mem_nil, or_false] at hu
    rcases hu with rfl
    · intro lw' sw' vs' ws' σ' ⟨h1_0, h2, h3_0, h4, h5⟩
      obtain ⟨m2', vs1, rfl, hm2, h1_1⟩ := hd_srcl h1_0
      obtain ⟨m3', vs2, rfl, hm3, h1_2⟩ := hd_srcl h1_1
      obtain ⟨m4', vs3, rfl, hm4, h1_3⟩ := hd_srcl h1_2
      obtain ⟨m5', vs4, rfl, hm5, h1_4⟩ := hd_srcl h1_3
      obtain rfl := hd_src0 h1_4
      obtain ⟨sw1, rfl, h3_1⟩ := hd_strx h3_0
      obtain ⟨n0', sw2, ws2, rfl, rfl, h3_2⟩ := hd_sti h3_1
      obtain ⟨rfl, rfl⟩ := hd_st0 h3_2
      have hr9_0 := hd_rfh h2
      have hr9_1 := hd_rfhx (hd_rfT h2)
      obtain ⟨v0, e0, l0, u0⟩ := h4 _ (List.mem_cons_self)
      have g0 : 1 * m5.toInt + ((-1) * m5'.toInt + 0) = v0 := Option.some.inj e0
      obtain ⟨v1, e1, l1, u1⟩ := h4 _ (List.mem_cons_of_mem _ (List.mem_cons_self))
      have g1 : 1 * m5.toInt + ((-1) * n0'.toInt + 0) = v1 := Option.some.inj e1
      obtain ⟨v2, e2, l2, u2⟩ := h4 _ (List.mem_cons_of_mem _ (List.mem_cons_of_mem _ (List.mem_cons_self)))
      have g2 : 1 * m2.toInt + ((-1) * m2'.toInt + 0) = v2 := Option.some.inj e2
      obtain ⟨v3, e3, l3, u3⟩ := h4 _ (List.mem_cons_of_mem _ (List.mem_cons_of_mem _ (List.mem_cons_of_mem _ (List.mem_cons_self))))
      have g3 : 1 * m3.toInt + ((-1) * m3'.toInt + 0) = v3 := Option.some.inj e3
      obtain ⟨v4, e4, l4, u4⟩ := h4 _ (List.mem_cons_of_mem _ (List.mem_cons_of_mem _ (List.mem_cons_of_mem _ (List.mem_cons_of_mem _ (List.mem_cons_self)))))
      have g4 : 1 * m4'.toInt + 0 = v4 := Option.some.inj e4
      exact cuta _ _ _ _ _ _ _ hr9_0 hr9_1 hm2 hm3 hm4 hm5 ⟨by rw [g0]; exact l0, by rw [g0]; exact u0⟩ ⟨by rw [g1]; exact l1, by rw [g1]; exact u1⟩ ⟨by rw [g2]; exact l2, by rw [g2]; exact u2⟩ ⟨by rw [g3]; exact l3, by rw [g3]; exact u3⟩ ⟨by rw [g4]; exact l4, by rw [g4]; exact u4⟩ h5
theorem sg_wr4b_run (G : sx_G0 g L xs z9 hd_C ex_mt) (hct : ∀ (mi : Nat) (T2 : ex_T) (c' : sx_Ct), ex_mt mi = some T2 → c' ∈ k9 mi → c'.1 < 60 → sx_Holds g z9 hd_C T2 c') {σ : am_S} {lw : List (Nat × Value)} {post : Option (Option Value) → am_S → Prop} (hM : sx_M z9 hd_C σ 0 0 σ) (hl : (0, Value.ref 3) ∈ lw) (hlr1 : (1, Value.retAddr 19072) ∈ lw) {m2 : Int32} (hl2 : (2, Value.int m2) ∈ lw) (bl2 : 0 ≤ m2.toInt ∧ m2.toInt ≤ 10) {m3 : Int32} (hl3 : (3, Value.int m3) ∈ lw) (bl3 : 0 ≤ m3.toInt ∧ m3.toInt ≤ 1) {m4 : Int32} (hl4 : (4, Value.int m4) ∈ lw) (bl4 : 0 ≤ m4.toInt ∧ m4.toInt ≤ 1) {m5 : Int32} (hl5 : (5, Value.int m5) ∈ lw) (bl5 : 0 ≤ m5.toInt ∧ m5.toInt ≤ 1) {m6 : Int32} (hl6 : (6, Value.int m6) ∈ lw) {n0 : Int32} (bf0 : 0 ≤ 1 * m6.toInt + ((-1) * n0.toInt + 0) ∧ 1 * m6.toInt + ((-1) * n0.toInt + 0) ≤ 0) (cuta : ∀ (lw' : List (Nat × Value)) (m2' : Int32) (m3' : Int32) (m4' : Int32) (m5' : Int32) (n0' : Int32) (σ' : am_S), (0, Value.ref 3) ∈ lw' → (1, Value.retAddr 19072) ∈ lw' → (2, Value.int m2') ∈ lw' → (3, Value.int m3') ∈ lw' → (4, Value.int m4') ∈ lw' → (5, Value.int m5') ∈ lw' → ((-1) ≤ 1 * m5.toInt + ((-1) * m5'.toInt + 0) ∧ 1 * m5.toInt + ((-1) * m5'.toInt + 0) ≤ (-1)) → ((-1) ≤ 1 * m5.toInt + ((-1) * n0'.toInt + 0) ∧ 1 * m5.toInt + ((-1) * n0'.toInt + 0) ≤ (-1)) → (0 ≤ 1 * m2.toInt + ((-1) * m2'.toInt + 0) ∧ 1 * m2.toInt + ((-1) * m2'.toInt + 0) ≤ 0) → ((-1) ≤ 1 * m3.toInt + ((-1) * m3'.toInt + 0) ∧ 1 * m3.toInt + ((-1) * m3'.toInt + 0) ≤ (-1)) → (1 ≤ 1 * m4'.toInt + 0 ∧ 1 * m4'.toInt + 0 ≤ 1) → sx_M z9 hd_C σ 0 0 σ' → am_K g 15 tX6_wordOf.1 0 0 23 lw' [.retAddr 19072, .int n0'] σ' post) : am_K g 15 tX6_wordOf.1 0 0 70 lw [.int n0] σ post := by
  refine sg_seg (sw := [.int n0]) (vs := [m2.toInt, m3.toInt, m4.toInt, m5.toInt, m6.toInt]) (ws := [n0.toInt]) G (mi := 252) rfl hct sg_wr4b_ok ⟨⟨m2, hl2, rfl⟩, ⟨⟨m3, hl3, rfl⟩, ⟨⟨m4, hl4, rfl⟩, ⟨⟨m5, hl5, rfl⟩, ⟨⟨m6, hl6, rfl⟩, trivial⟩⟩⟩⟩⟩ (hd_rfc hl (hd_rfcx hlr1 hd_rfn)) ⟨⟨n0, rfl, rfl⟩, trivial⟩ (hd_p1 rfl bl2.1 bl2.2 (hd_p1 rfl bl3.1 bl3.2 (hd_p1 rfl bl4.1 bl4.2 (hd_p1 rfl bl5.1 bl5.2 (hd_p1 rfl (Int32.le_toInt _) (Int32.toInt_le _) (hd_p1 rfl (Int32.le_toInt _) (Int32.toInt_le _) (hd_pf rfl bf0.1 bf0.2 hd_p0))))))) hM ?_ ?_
  · intro r σ' hq
    cases r with
    | none => exact hq.elim
    | some v =>
      obtain ⟨p, hp, hM2, ks, hk, hv⟩ := hq
      cases hp
  · intro u hu
    simp only [List.mem_cons, List.not_mem_nil, or_false] at hu
    rcases hu with rfl
    · intro lw' sw' vs' ws' σ' ⟨h1_0, h2, h3_0, h4, h5⟩
      obtain ⟨m2', vs1, rfl, hm2, h1_1⟩ := hd_srcl h1_0
      obtain ⟨m3', vs2, rfl, hm3, h1_2⟩ := hd_srcl h1_1
      obtain ⟨m4', vs3, rfl, hm4, h1_3⟩ := hd_srcl h1_2
      obtain ⟨m5', vs4, rfl, hm5, h1_4⟩ := hd_srcl h1_3
      obtain rfl := hd_src0 h1_4
      obtain ⟨sw1, rfl, h3_1⟩ := hd_strx h3_0
      obtain ⟨n0', sw2, ws2, rfl, rfl, h3_2⟩ := hd_sti h3_1
      obtain ⟨rfl, rfl⟩ := hd_st0 h3_2
      have hr9_0 := hd_rfh h2
      have hr9_1 := hd_rfhx (hd_rfT h2)
      obtain ⟨v0, e0, l0, u0⟩ := h4 _ (List.mem_cons_self)
      have g0 : 1 * m5.toInt + ((-1) * m5'.toInt + 0) = v0 := Option.some.inj e0
      obtain ⟨v1, e1, l1, u1⟩ := h4 _ (List.mem_cons_of_mem _ (List.mem_cons_self))
      have g1 : 1 * m5.toInt + ((-1) * n0'.toInt + 0) = v1 := Option.some.inj e1
      obtain ⟨v2, e2, l2, u2⟩ := h4 _ (List.mem_cons_of_mem _ (List.mem_cons_of_mem _ (List.mem_cons_self)))
      have g2 : 1 * m2.toInt + ((-1) * m2'.toInt + 0) = v2 := Option.some.inj e2
      obtain ⟨v3, e3, l3, u3⟩ := h4 _ (List.mem_cons_of_mem _ (List.mem_cons_of_mem _ (List.mem_cons_of_mem _ (List.mem_cons_self))))
      have g3 : 1 * m3.toInt + ((-1) * m3'.toInt + 0) = v3 := Option.some.inj e3
      obtain ⟨v4, e4, l4, u4⟩ := h4 _ (List.mem_cons_of_mem _ (List.mem_cons_of_mem _ (List.mem_cons_of_mem _ (List.mem_cons_of_mem _ (List.mem_cons_self)))))
      have g4 : 1 * m4'.toInt + 0 = v4 := Option.some.inj e4
      exact cuta _ _ _ _ _ _ _ hr9_0 hr9_1 hm2 hm3 hm4 hm5 ⟨by rw [g0]; exact l0, by rw [g0]; exact u0⟩ ⟨by rw [g1]; exact l1, by rw [g1]; exact u1⟩ ⟨by rw [g2]; exact l2, by rw [g2]; exact u2⟩ ⟨by rw [g3]; exact l3, by rw [g3]; exact u3⟩ ⟨by rw [g4]; exact l4, by rw [g4]; exact u4⟩ h5
theorem sg_wr4c_run (G : sx_G0 g L xs z9 hd_C ex_mt) (hct : ∀ (mi : Nat) (T2 : ex_T) (c' : sx_Ct), ex_mt mi = some T2 → c' ∈ k9 mi → c'.1 < 60 → sx_Holds g z9 hd_C T2 c') {σ : am_S} {lw : List (Nat × Value)} {post : Option (Option Value) → am_S → Prop} (hM : sx_M z9 hd_C σ 0 0 σ) (hl : (0, Value.ref 3) ∈ lw) (hlr1 : (1, Value.retAddr 19072) ∈ lw) {m2 : Int32} (hl2 : (2, Value.int m2) ∈ lw) (bl2 : 0 ≤ m2.toInt ∧ m2.toInt ≤ 10) {m3 : Int32} (hl3 : (3, Value.int m3) ∈ lw) (bl3 : 0 ≤ m3.toInt ∧ m3.toInt ≤ 1) {m4 : Int32} (hl4 : (4, Value.int m4) ∈ lw) (bl4 : 0 ≤ m4.toInt ∧ m4.toInt ≤ 1) {m5 : Int32} (hl5 : (5, Value.int m5) ∈ lw) (bl5 : 0 ≤ m5.toInt ∧ m5.toInt ≤ 1) {m6 : Int32} (hl6 : (6, Value.int m6) ∈ lw) {n0 : Int32} (bf0 : (-4611686018427387904) ≤ 1 * m6.toInt + ((-1) * n0.toInt + 0) ∧ 1 * m6.toInt + ((-1) * n0.toInt + 0) ≤ (-1)) (cuta : ∀ (lw' : List (Nat × Value)) (m2' : Int32) (m3' : Int32) (m4' : Int32) (m5' : Int32) (n0' : Int32) (σ' : am_S), (0, Value.ref 3) ∈ lw' → (1, Value.retAddr 19072) ∈ lw' → (2, Value.int m2') ∈ lw' → (3, Value.int m3') ∈ lw' → (4, Value.int m4') ∈ lw' → (5, Value.int m5') ∈ lw' → ((-1) ≤ 1 * m5.toInt + ((-1) * m5'.toInt + 0) ∧ 1 * m5.toInt + ((-1) * m5'.toInt + 0) ≤ (-1)) → ((-1) ≤ 1 * m5.toInt + ((-1) * n0'.toInt + 0) ∧ 1 * m5.toInt + ((-1) * n0'.toInt + 0) ≤ (-1)) → (0 ≤ 1 * m2.toInt + ((-1) * m2'.toInt + 0) ∧ 1 * m2.toInt + ((-1) * m2'.toInt + 0) ≤ 0) → ((-1) ≤ 1 * m3.toInt + ((-1) * m3'.toInt + 0) ∧ 1 * m3.toInt + ((-1) * m3'.toInt + 0) ≤ (-1)) → (0 ≤ 1 * m4'.toInt + 0 ∧ 1 * m4'.toInt + 0 ≤ 0) → sx_M z9 hd_C σ 0 0 σ' → am_K g 15 tX6_wordOf.1 0 0 23 lw' [.retAddr 19072, .int n0'] σ' post) : am_K g 15 tX6_wordOf.1 0 0 70 lw [.int n0] σ post := by
  refine sg_seg (sw := [.int n0]) (vs := [m2.toInt, m3.toInt, m4.toInt, m5.toInt, m6.toInt]) (ws := [n0.toInt]) G (mi := 252) rfl hct sg_wr4c_ok ⟨⟨m2, hl2, rfl⟩, ⟨⟨m3, hl3, rfl⟩, ⟨⟨m4, hl4, rfl⟩, ⟨⟨m5, hl5, rfl⟩, ⟨⟨m6, hl6, rfl⟩, trivial⟩⟩⟩⟩⟩ (hd_rfc hl (hd_rfcx hlr1 hd_rfn)) ⟨⟨n0, rfl, rfl⟩, trivial⟩ (hd_p1 rfl bl2.1 bl2.2 (hd_p1 rfl bl3.1 bl3.2 (hd_p1 rfl bl4.1 bl4.2 (hd_p1 rfl bl5.1 bl5.2 (hd_p1 rfl (Int32.le_toInt _) (Int32.toInt_le _) (hd_p1 rfl (Int32.le_toInt _) (Int32.toInt_le _) (hd_pf rfl bf0.1 bf0.2 hd_p0))))))) hM ?_ ?_
  · intro r σ' hq
    cases r with
    | none => exact hq.elim
    | some v =>
      obtain ⟨p, hp, hM2, ks, hk, hv⟩ := hq
      cases hp
  · intro u hu
    simp only [List.mem_cons, List.not_mem_nil, or_false] at hu
    rcases hu with rfl
    · intro lw' sw' vs' ws' σ' ⟨h1_0, h2, h3_0, h4, h5⟩
      obtain ⟨m2', vs1, rfl, hm2, h1_1⟩ := hd_srcl h1_0
      obtain ⟨m3', vs2, rfl, hm3, h1_2⟩ := hd_srcl h1_1
      obtain ⟨m4', vs3, rfl, hm4, h1_3⟩ := hd_srcl h1_2
      obtain ⟨m5', vs4, rfl, hm5, h1_4⟩ := hd_srcl h1_3
      obtain rfl := hd_src0 h1_4
      obtain ⟨sw1, rfl, h3_1⟩ := hd_strx h3_0
      obtain ⟨n0', sw2, ws2, rfl, rfl, h3_2⟩ := hd_sti h3_1
      obtain ⟨rfl, rfl⟩ := hd_st0 h3_2
      have hr9_0 := hd_rfh h2
      have hr9_1 := hd_rfhx (hd_rfT h2)
      obtain ⟨v0, e0, l0, u0⟩ := h4 _ (List.mem_cons_self)
      have g0 : 1 * m5.toInt + ((-1) * m5'.toInt + 0) = v0 := Option.some.inj e0
      obtain ⟨v1, e1, l1, u1⟩ := h4 _ (List.mem_cons_of_mem _ (List.mem_cons_self))
      have g1 : 1 * m5.toInt + ((-1) * n0'.toInt + 0) = v1 := Option.some.inj e1
      obtain ⟨v2, e2, l2, u2⟩ := h4 _ (List.mem_cons_of_mem _ (List.mem_cons_of_mem _ (List.mem_cons_self)))
      have g2 : 1 * m2.toInt + ((-1) * m2'.toInt + 0) = v2 := Option.some.inj e2
      obtain ⟨v3, e3, l3, u3⟩ := h4 _ (List.mem_cons_of_mem _ (List.mem_cons_of_mem _ (List.mem_cons_of_mem _ (List.mem_cons_self))))
      have g3 : 1 * m3.toInt + ((-1) * m3'.toInt + 0) = v3 := Option.some.inj e3
      obtain ⟨v4, e4, l4, u4⟩ := h4 _ (List.mem_cons_of_mem _ (List.mem_cons_of_mem _ (List.mem_cons_of_mem _ (List.mem_cons_of_mem _ (List.mem_cons_self)))))
      have g4 : 1 * m4'.toInt + 0 = v4 := Option.some.inj e4
      exact cuta _ _ _ _ _ _ _ hr9_0 hr9_1 hm2 hm3 hm4 hm5 ⟨by rw [g0]; exact l0, by rw [g0]; exact u0⟩ ⟨by rw [g1]; exact l1, by rw [g1]; exact u1⟩ ⟨by rw [g2]; exact l2, by rw [g2]; exact u2⟩ ⟨by rw [g3]; exact l3, by rw [g3]; exact u3⟩ ⟨by rw [g4]; exact l4, by rw [g4]; exact u4⟩ h5
end HR
