/-! segments of the readers (written by a program) -/
def sg_st7k : sg_Cu := (173, 0, [(0, .inr (some (false, 3)))], ([.inr 196612], [([(.ofNat 1, 0)], .ofNat 0, .ofNat 939), ([(.ofNat 1, 1)], .ofNat 63, .ofNat 96)]), [none, some (false, 3)])
def sg_st7k_p0 : sx_Po := (12582912, false, [196611, 196610], [([(.ofNat 1, 2)], .ofNat 1, .ofNat 1), ([(.ofNat 1, 0), (.negSucc 0, 3)], .negSucc 0, .negSucc 0)])
theorem sg_st7k_ok : sg_chk z9 ex_mt k9 60 tX6_step 32 10 sg_st7k [sg_st7k_p0] [] = true := by decide +kernel
def sg_st7l : sg_Cu := (173, 0, [(0, .inr (some (false, 3)))], ([.inr 196612], [([(.ofNat 1, 0)], .ofNat 0, .ofNat 939), ([(.ofNat 1, 1)], .ofNat 123, .ofNat 255)]), [none, some (false, 3)])
def sg_st7l_p0 : sx_Po := (12582912, false, [196611, 196610], [([(.ofNat 1, 2)], .ofNat 1, .ofNat 1), ([(.ofNat 1, 0), (.negSucc 0, 3)], .negSucc 0, .negSucc 0)])
theorem sg_st7l_ok : sg_chk z9 ex_mt k9 60 tX6_step 32 10 sg_st7l [sg_st7l_p0] [] = true := by decide +kernel
def sg_st8 : sg_Cu := (158, 0, [(0, .inr (some (false, 3)))], ([], []), [])
def sg_st8_p0 : sx_Po := (0, false, [], [])
theorem sg_st8_ok : sg_chk z9 ex_mt k9 60 tX6_step 3 10 sg_st8 [sg_st8_p0] [] = true := by decide +kernel
def sg_rr1 : sg_Cu := (0, 0, [(0, .inr (some (false, 3)))], ([.inr 196612], [([(.ofNat 1, 0)], .negSucc 2147483647, .ofNat 2147483647)]), [])
def sg_rr1_a : sg_Cu := (17, 71303168, [(0, .inr (some (false, 3)))], ([.inl 1, .inl 2, .inr 196610, .inr 196614], [([(.ofNat 1, 1)], .ofNat 0, .ofNat 0), ([(.ofNat 1, 2)], .ofNat 0, .ofNat 0), ([(.ofNat 1, 4)], .ofNat 0, .ofNat 0), ([(.ofNat 1, 0), (.negSucc 0, 3)], .ofNat 0, .ofNat 0)]), [])
theorem sg_rr1_ok : sg_chk z9 ex_mt k9 60 tX6_readRun 13 8 sg_rr1 [] [sg_rr1_a] = true := by decide +kernel
def sg_rr2 : sg_Cu := (17, 0, [(0, .inr (some (false, 3)))], ([.inl 1, .inl 2, .inr 196610, .inr 65537], [([(.ofNat 1, 0)], .negSucc 2147483647, .ofNat 2147483647), ([(.ofNat 1, 1)], .negSucc 2147483647, .ofNat 2147483647), ([(.ofNat 1, 2)], .negSucc 2147483647, .ofNat 2147483647), ([(.ofNat 1, 3)], .ofNat 0, .ofNat 940)]), [])
def sg_rr2_a : sg_Cu := (39, 0, [(0, .inr (some (false, 3)))], ([.inl 1, .inl 2], [([(.ofNat 1, 2), (.negSucc 0, 6)], .ofNat 0, .ofNat 0), ([(.ofNat 1, 2), (.negSucc 0, 3)], .negSucc 4611686018427387903, .negSucc 0), ([(.ofNat 1, 0), (.negSucc 0, 4)], .ofNat 0, .ofNat 0), ([(.ofNat 1, 1), (.negSucc 0, 5)], .ofNat 0, .ofNat 0)]), [none, some (false, 1)])
def sg_rr2_b : sg_Cu := (107, 0, [(0, .inr (some (false, 3)))], ([.inl 1, .inl 2], [([(.ofNat 1, 2), (.negSucc 0, 3)], .ofNat 0, .ofNat 4611686018427387904), ([(.ofNat 1, 0), (.negSucc 0, 4)], .ofNat 0, .ofNat 0), ([(.ofNat 1, 1), (.negSucc 0, 5)], .ofNat 0, .ofNat 0)]), [])
theorem sg_rr2_ok : sg_chk z9 ex_mt k9 60 tX6_readRun 12 8 sg_rr2 [] [sg_rr2_a, sg_rr2_b] = true := by decide +kernel
def sg_rr3a : sg_Cu := (42, 0, [(0, .inr (some (false, 3)))], ([.inl 1, .inl 2, .inr 196610, .inr 196614], [([(.ofNat 1, 0)], .ofNat 0, .ofNat 940), ([(.ofNat 1, 1)], .ofNat 0, .ofNat 940), ([(.ofNat 1, 2)], .ofNat 0, .ofNat 939), ([(.ofNat 1, 3)], .ofNat 0, .ofNat 999), ([(.ofNat 1, 4)], .ofNat 97, .ofNat 122)]), [none])
def sg_rr3a_a : sg_Cu := (17, 4194304, [(0, .inr (some (false, 3)))], ([.inl 1, .inl 2, .inr 196610, .inr 196614], [([(.ofNat 1, 2), (.negSucc 0, 7)], .negSucc 0, .negSucc 0), ([(.ofNat 1, 0), (.negSucc 0, 5)], .negSucc 0, .negSucc 0), ([(.ofNat 1, 1), (.negSucc 0, 6)], .ofNat 0, .ofNat 0), ([(.ofNat 1, 3), (.negSucc 0, 8)], .ofNat 0, .ofNat 0)]), [])
theorem sg_rr3a_ok : sg_chk z9 ex_mt k9 60 tX6_readRun 24 8 sg_rr3a [] [sg_rr3a_a] = true := by decide +kernel
def sg_rr3b : sg_Cu := (42, 0, [(0, .inr (some (false, 3)))], ([.inl 1, .inl 2, .inr 196610, .inr 196614], [([(.ofNat 1, 0)], .ofNat 0, .ofNat 940), ([(.ofNat 1, 1)], .ofNat 0, .ofNat 2), ([(.ofNat 1, 2)], .ofNat 0, .ofNat 939), ([(.ofNat 1, 3)], .ofNat 0, .ofNat 999), ([(.ofNat 1, 4)], .ofNat 48, .ofNat 57)]), [none])
def sg_rr3b_a : sg_Cu := (17, 71303168, [(0, .inr (some (false, 3)))], ([.inl 1, .inl 2, .inr 196610, .inr 196614], [([(.ofNat 1, 2), (.negSucc 0, 7)], .negSucc 0, .negSucc 0), ([(.ofNat 1, 0), (.negSucc 0, 5)], .ofNat 0, .ofNat 0), ([(.ofNat 1, 1), (.negSucc 0, 6)], .negSucc 0, .negSucc 0), ([(.ofNat 10, 3), (.ofNat 1, 4), (.negSucc 0, 8)], .ofNat 48, .ofNat 48)]), [])
theorem sg_rr3b_ok : sg_chk z9 ex_mt k9 60 tX6_readRun 45 8 sg_rr3b [] [sg_rr3b_a] = true := by decide +kernel
def sg_rr3c : sg_Cu := (42, 0, [(0, .inr (some (false, 3)))], ([.inl 1, .inl 2, .inr 196610, .inr 196614], [([(.ofNat 1, 0)], .ofNat 0, .ofNat 940), ([(.ofNat 1, 1)], .ofNat 3, .ofNat 940), ([(.ofNat 1, 2)], .ofNat 0, .ofNat 939), ([(.ofNat 1, 3)], .ofNat 0, .ofNat 999), ([(.ofNat 1, 4)], .ofNat 48, .ofNat 57)]), [none])
def sg_rr3c_a : sg_Cu := (17, 71303168, [(0, .inr (some (false, 3)))], ([.inl 1, .inl 2, .inr 196610, .inr 196614], [([(.ofNat 1, 2), (.negSucc 0, 7)], .negSucc 0, .negSucc 0), ([(.ofNat 1, 0), (.negSucc 0, 5)], .ofNat 0, .ofNat 0), ([(.ofNat 1, 1), (.negSucc 0, 6)], .negSucc 0, .negSucc 0), ([(.ofNat 1, 3), (.negSucc 0, 8)], .ofNat 0, .ofNat 0)]), [])
theorem sg_rr3c_ok : sg_chk z9 ex_mt k9 60 tX6_readRun 38 8 sg_rr3c [] [sg_rr3c_a] = true := by decide +kernel
def sg_rr3d : sg_Cu := (42, 0, [(0, .inr (some (false, 3)))], ([.inl 1, .inl 2], [([(.ofNat 1, 0)], .ofNat 0, .ofNat 940), ([(.ofNat 1, 1)], .ofNat 0, .ofNat 940), ([(.ofNat 1, 2)], .ofNat 0, .ofNat 47)]), [none])
def sg_rr3d_a : sg_Cu := (107, 0, [(0, .inr (some (false, 3)))], ([.inl 1, .inl 2], [([(.ofNat 1, 0), (.negSucc 0, 3)], .ofNat 0, .ofNat 0), ([(.ofNat 1, 1), (.negSucc 0, 4)], .ofNat 0, .ofNat 0)]), [])
theorem sg_rr3d_ok : sg_chk z9 ex_mt k9 60 tX6_readRun 19 8 sg_rr3d [] [sg_rr3d_a] = true := by decide +kernel
def sg_rr3e : sg_Cu := (42, 0, [(0, .inr (some (false, 3)))], ([.inl 1, .inl 2], [([(.ofNat 1, 0)], .ofNat 0, .ofNat 940), ([(.ofNat 1, 1)], .ofNat 0, .ofNat 940), ([(.ofNat 1, 2)], .ofNat 58, .ofNat 96)]), [none])
def sg_rr3e_a : sg_Cu := (107, 0, [(0, .inr (some (false, 3)))], ([.inl 1, .inl 2], [([(.ofNat 1, 0), (.negSucc 0, 3)], .ofNat 0, .ofNat 0), ([(.ofNat 1, 1), (.negSucc 0, 4)], .ofNat 0, .ofNat 0)]), [])
theorem sg_rr3e_ok : sg_chk z9 ex_mt k9 60 tX6_readRun 22 8 sg_rr3e [] [sg_rr3e_a] = true := by decide +kernel
def sg_rr3f : sg_Cu := (42, 0, [(0, .inr (some (false, 3)))], ([.inl 1, .inl 2], [([(.ofNat 1, 0)], .ofNat 0, .ofNat 940), ([(.ofNat 1, 1)], .ofNat 0, .ofNat 940), ([(.ofNat 1, 2)], .ofNat 123, .ofNat 255)]), [none])
def sg_rr3f_a : sg_Cu := (107, 0, [(0, .inr (some (false, 3)))], ([.inl 1, .inl 2], [([(.ofNat 1, 0), (.negSucc 0, 3)], .ofNat 0, .ofNat 0), ([(.ofNat 1, 1), (.negSucc 0, 4)], .ofNat 0, .ofNat 0)]), [])
theorem sg_rr3f_ok : sg_chk z9 ex_mt k9 60 tX6_readRun 25 8 sg_rr3f [] [sg_rr3f_a] = true := by decide +kernel
def sg_rr4 : sg_Cu := (107, 0, [(0, .inr (some (false, 3)))], ([.inl 1, .inl 2, .inr 196610, .inr 196612], [([(.ofNat 1, 0)], .ofNat 0, .ofNat 940), ([(.ofNat 1, 1)], .ofNat 0, .ofNat 940), ([(.ofNat 1, 2)], .negSucc 2147483647, .ofNat 2147483647), ([(.ofNat 1, 3)], .negSucc 2147483647, .ofNat 2147483647), ([(.ofNat 1, 2), (.negSucc 0, 3)], .ofNat 0, .ofNat 940)]), [])
def sg_rr4_p0 : sx_Po := (41943040, false, [196611, 196613], [([(.ofNat 1, 1)], .ofNat 0, .ofNat 0), ([(.ofNat 1, 0)], .negSucc 2147483647, .ofNat 7), ([(.ofNat 1, 4)], .ofNat 2, .ofNat 2), ([(.ofNat 1, 2), (.negSucc 0, 3), (.negSucc 0, 5)], .ofNat 0, .ofNat 0)])
def sg_rr4_p1 : sx_Po := (41943040, false, [196611, 196613], [([(.ofNat 1, 0)], .ofNat 0, .ofNat 0), ([(.ofNat 1, 1)], .ofNat 1, .ofNat 3), ([(.ofNat 1, 4)], .ofNat 3, .ofNat 3), ([(.ofNat 1, 2), (.negSucc 0, 3), (.negSucc 0, 5)], .ofNat 0, .ofNat 0)])
def sg_rr4_p2 : sx_Po := (41943040, false, [196611, 196613], [([(.ofNat 1, 0)], .ofNat 8, .ofNat 2147483647), ([(.ofNat 1, 1)], .ofNat 0, .ofNat 2147483647), ([(.ofNat 1, 4)], .ofNat 1, .ofNat 1), ([(.ofNat 1, 2), (.negSucc 0, 3), (.negSucc 0, 5)], .ofNat 0, .ofNat 0)])
def sg_rr4_p3 : sx_Po := (41943040, false, [196611, 196613], [([(.ofNat 1, 0)], .ofNat 1, .ofNat 2147483647), ([(.ofNat 1, 1)], .ofNat 1, .ofNat 2147483647), ([(.ofNat 1, 4)], .ofNat 1, .ofNat 1), ([(.ofNat 1, 2), (.negSucc 0, 3), (.negSucc 0, 5)], .ofNat 0, .ofNat 0)])
def sg_rr4_p4 : sx_Po := (41943040, false, [196611, 196613], [([(.ofNat 1, 0)], .ofNat 0, .ofNat 0), ([(.ofNat 1, 1)], .ofNat 4, .ofNat 2147483647), ([(.ofNat 1, 4)], .ofNat 1, .ofNat 1), ([(.ofNat 1, 2), (.negSucc 0, 3), (.negSucc 0, 5)], .ofNat 0, .ofNat 0)])
theorem sg_rr4_ok : sg_chk z9 ex_mt k9 60 tX6_readRun 20 8 sg_rr4 [sg_rr4_p0, sg_rr4_p1, sg_rr4_p2, sg_rr4_p3, sg_rr4_p4] [] = true := by decide +kernel
def sg_ia1a : sg_Cu := (0, 0, [(0, .inr (some (false, 3)))], ([.inl 1, .inr 196611], [([(.ofNat 1, 0)], .negSucc 2147483647, .ofNat 2147483647), ([(.ofNat 1, 1)], .negSucc 2147483647, .ofNat 3)]), [])
def sg_ia1a_p0 : sx_Po := (0, true, [], [([(.ofNat 1, 2)], .ofNat 0, .ofNat 0)])
theorem sg_ia1a_ok : sg_chk z9 ex_mt k9 60 tX6_isAt 7 6 sg_ia1a [sg_ia1a_p0] [] = true := by decide +kernel
def sg_ia1b : sg_Cu := (0, 0, [(0, .inr (some (false, 3)))], ([.inl 1, .inr 196611], [([(.ofNat 1, 0)], .negSucc 2147483647, .ofNat 2147483647), ([(.ofNat 1, 1)], .ofNat 5, .ofNat 2147483647)]), [])
def sg_ia1b_p0 : sx_Po := (0, true, [], [([(.ofNat 1, 2)], .ofNat 0, .ofNat 0)])
theorem sg_ia1b_ok : sg_chk z9 ex_mt k9 60 tX6_isAt 7 6 sg_ia1b [sg_ia1b_p0] [] = true := by decide +kernel
def sg_ia1c : sg_Cu := (0, 0, [(0, .inr (some (false, 3)))], ([.inl 1, .inr 196611, .inr 196612], [([(.ofNat 1, 0)], .negSucc 2147483647, .ofNat 2147483647), ([(.ofNat 1, 1)], .ofNat 4, .ofNat 4), ([(.ofNat 1, 2)], .negSucc 2147483647, .ofNat 2147483647)]), [])
def sg_ia1c_a : sg_Cu := (16, 0, [(0, .inr (some (false, 3)))], ([.inl 1], [([(.ofNat 1, 2), (.negSucc 0, 4)], .ofNat 0, .ofNat 0), ([(.ofNat 1, 0), (.negSucc 0, 3)], .ofNat 0, .ofNat 0)]), [none, some (false, 1)])
theorem sg_ia1c_ok : sg_chk z9 ex_mt k9 60 tX6_isAt 10 6 sg_ia1c [] [sg_ia1c_a] = true := by decide +kernel
def sg_ia2a : sg_Cu := (19, 0, [(0, .inr (some (false, 3)))], ([.inl 1], [([(.ofNat 1, 0)], .negSucc 2147483647, .ofNat 2147483647), ([(.ofNat 1, 1)], .negSucc 2147483647, .ofNat 2147483647), ([(.ofNat 1, 0), (.negSucc 0, 1)], .ofNat 1, .ofNat 4611686018427387904)]), [none])
def sg_ia2a_p0 : sx_Po := (0, true, [], [([(.ofNat 1, 2)], .ofNat 0, .ofNat 0)])
theorem sg_ia2a_ok : sg_chk z9 ex_mt k9 60 tX6_isAt 5 6 sg_ia2a [sg_ia2a_p0] [] = true := by decide +kernel
def sg_ia2b : sg_Cu := (19, 0, [(0, .inr (some (false, 3)))], ([.inl 1], [([(.ofNat 1, 0)], .negSucc 2147483647, .ofNat 2147483647), ([(.ofNat 1, 1)], .negSucc 2147483647, .ofNat 2147483647), ([(.ofNat 1, 0), (.negSucc 0, 1)], .ofNat 0, .ofNat 0)]), [none])
def sg_ia2b_p0 : sx_Po := (0, true, [], [([(.ofNat 1, 2)], .ofNat 1, .ofNat 1)])
theorem sg_ia2b_ok : sg_chk z9 ex_mt k9 60 tX6_isAt 6 6 sg_ia2b [sg_ia2b_p0] [] = true := by decide +kernel
def sg_ia2c : sg_Cu := (19, 0, [(0, .inr (some (false, 3)))], ([.inl 1], [([(.ofNat 1, 0)], .negSucc 2147483647, .ofNat 2147483647), ([(.ofNat 1, 1)], .negSucc 2147483647, .ofNat 2147483647), ([(.ofNat 1, 0), (.negSucc 0, 1)], .negSucc 4611686018427387903, .negSucc 0)]), [none])
def sg_ia2c_p0 : sx_Po := (0, true, [], [([(.ofNat 1, 2)], .ofNat 0, .ofNat 0)])
theorem sg_ia2c_ok : sg_chk z9 ex_mt k9 60 tX6_isAt 5 6 sg_ia2c [sg_ia2c_p0] [] = true := by decide +kernel
def sg_ts1 : sg_Cu := (0, 0, [(0, .inr (some (false, 3)))], ([.inl 1], [([(.ofNat 1, 0)], .negSucc 2147483647, .ofNat 2147483647)]), [])
def sg_ts1_a : sg_Cu := (2, 0, [(0, .inr (some (false, 3)))], ([], [([(.ofNat 1, 0), (.negSucc 0, 1)], .ofNat 0, .ofNat 0)]), [none, some (false, 3)])
theorem sg_ts1_ok : sg_chk z9 ex_mt k9 60 tX6_takesSign 4 20 sg_ts1 [] [sg_ts1_a] = true := by decide +kernel
def sg_ts2a : sg_Cu := (5, 0, [(0, .inr (some (false, 3)))], ([.inr 196612], [([(.ofNat 1, 0)], .negSucc 2147483647, .ofNat 2147483647), ([(.ofNat 1, 1)], .ofNat 0, .ofNat 0)]), [none])
def sg_ts2a_p0 : sx_Po := (402653184, true, [196615, 196616], [([(.ofNat 1, 2)], .ofNat 0, .ofNat 0), ([(.ofNat 1, 3)], .ofNat 1, .ofNat 1), ([(.ofNat 1, 0), (.negSucc 0, 4)], .ofNat 0, .ofNat 0)])
theorem sg_ts2a_ok : sg_chk z9 ex_mt k9 60 tX6_takesSign 15 20 sg_ts2a [sg_ts2a_p0] [] = true := by decide +kernel
def sg_ts2b : sg_Cu := (5, 0, [(0, .inr (some (false, 3)))], ([], [([(.ofNat 1, 0)], .ofNat 1, .ofNat 1)]), [none])
def sg_ts2b_a : sg_Cu := (15, 0, [(0, .inr (some (false, 3)))], ([], []), [some (false, 3)])
theorem sg_ts2b_ok : sg_chk z9 ex_mt k9 60 tX6_takesSign 4 20 sg_ts2b [] [sg_ts2b_a] = true := by decide +kernel
def sg_ts3 : sg_Cu := (18, 0, [(0, .inr (some (false, 3)))], ([], []), [])
def sg_ts3_p0 : sx_Po := (0, true, [], [([(.ofNat 1, 0)], .ofNat 1, .ofNat 1)])
theorem sg_ts3_ok : sg_chk z9 ex_mt k9 60 tX6_takesSign 3 20 sg_ts3 [sg_ts3_p0] [] = true := by decide +kernel
def sg_se1a : sg_Cu := (0, 0, [(0, .inr (some (false, 3)))], ([.inl 1, .inl 2, .inr 196611, .inr 196612], [([(.ofNat 1, 0)], .negSucc 2147483647, .ofNat 2147483647), ([(.ofNat 1, 1)], .negSucc 2147483647, .ofNat 2147483647), ([(.ofNat 1, 2)], .negSucc 2147483647, .ofNat 2), ([(.ofNat 1, 3)], .negSucc 2147483647, .ofNat 2147483647)]), [])
def sg_se1a_p0 : sx_Po := (402653184, true, [196615, 196616], [([(.ofNat 1, 4)], .ofNat 0, .ofNat 0), ([(.ofNat 1, 5)], .ofNat 1, .ofNat 1), ([(.ofNat 1, 3), (.negSucc 0, 6)], .ofNat 0, .ofNat 0)])
theorem sg_se1a_ok : sg_chk z9 ex_mt k9 60 tX6_seesNumber 18 6 sg_se1a [sg_se1a_p0] [] = true := by decide +kernel
def sg_se1b : sg_Cu := (0, 0, [(0, .inr (some (false, 3)))], ([.inl 1, .inl 2, .inr 196611, .inr 196612], [([(.ofNat 1, 0)], .negSucc 2147483647, .ofNat 2147483647), ([(.ofNat 1, 1)], .negSucc 2147483647, .ofNat 2147483647), ([(.ofNat 1, 2)], .ofNat 4, .ofNat 2147483647), ([(.ofNat 1, 3)], .negSucc 2147483647, .ofNat 2147483647)]), [])
def sg_se1b_p0 : sx_Po := (402653184, true, [196615, 196616], [([(.ofNat 1, 4)], .ofNat 0, .ofNat 0), ([(.ofNat 1, 5)], .ofNat 1, .ofNat 1), ([(.ofNat 1, 3), (.negSucc 0, 6)], .ofNat 0, .ofNat 0)])
theorem sg_se1b_ok : sg_chk z9 ex_mt k9 60 tX6_seesNumber 18 6 sg_se1b [sg_se1b_p0] [] = true := by decide +kernel
def sg_se1c : sg_Cu := (0, 0, [(0, .inr (some (false, 3)))], ([.inl 1, .inl 2, .inr 196611, .inr 196614, .inr 196612], [([(.ofNat 1, 0)], .negSucc 2147483647, .ofNat 2147483647), ([(.ofNat 1, 1)], .negSucc 2147483647, .ofNat 2147483647), ([(.ofNat 1, 2)], .ofNat 3, .ofNat 3), ([(.ofNat 1, 3)], .negSucc 2147483647, .ofNat 2147483647), ([(.ofNat 1, 4)], .negSucc 2147483647, .ofNat 2147483647)]), [])
def sg_se1c_p0 : sx_Po := (0, true, [], [([(.ofNat 1, 5)], .ofNat 1, .ofNat 1), ([(.ofNat 1, 0), (.negSucc 0, 3)], .negSucc 4611686018427387903, .ofNat 0), ([(.ofNat 1, 1), (.negSucc 0, 3)], .ofNat 0, .ofNat 4611686018427387904)])
def sg_se1c_p1 : sx_Po := (402653184, true, [196615, 196616], [([(.ofNat 1, 5)], .ofNat 0, .ofNat 0), ([(.ofNat 1, 6)], .ofNat 2, .ofNat 2), ([(.ofNat 1, 4), (.negSucc 0, 7)], .ofNat 0, .ofNat 0), ([(.ofNat 1, 0), (.negSucc 0, 3)], .ofNat 1, .ofNat 4611686018427387904)])
def sg_se1c_p2 : sx_Po := (402653184, true, [196615, 196616], [([(.ofNat 1, 5)], .ofNat 0, .ofNat 0), ([(.ofNat 1, 6)], .ofNat 2, .ofNat 2), ([(.ofNat 1, 4), (.negSucc 0, 7)], .ofNat 0, .ofNat 0), ([(.ofNat 1, 1), (.negSucc 0, 3)], .negSucc 4611686018427387903, .negSucc 0)])
theorem sg_se1c_ok : sg_chk z9 ex_mt k9 60 tX6_seesNumber 28 6 sg_se1c [sg_se1c_p0, sg_se1c_p1, sg_se1c_p2] [] = true := by decide +kernel
def sg_ri1_13 : sg_Cu := (0, 0, [(0, .inr (some (false, 13))), (2, .inr (some (false, 3)))], ([.inl 1, .inl 3, .inl 4], [([(.ofNat 1, 0)], .negSucc 2147483647, .ofNat 2147483647), ([(.ofNat 1, 1)], .negSucc 2147483647, .ofNat 2147483647), ([(.ofNat 1, 2)], .negSucc 2147483647, .ofNat 2147483647)]), [])
def sg_ri1_13_a : sg_Cu := (4, 0, [(0, .inr (some (false, 13))), (2, .inr (some (false, 3)))], ([.inl 1], [([(.ofNat 1, 2), (.negSucc 0, 4)], .ofNat 0, .ofNat 0), ([(.ofNat 1, 1), (.negSucc 0, 5)], .ofNat 0, .ofNat 0), ([(.ofNat 1, 0), (.negSucc 0, 3)], .ofNat 0, .ofNat 0)]), [none, none, some (false, 3)])
theorem sg_ri1_13_ok : sg_chk z9 ex_mt k9 60 tX9_readInto 5 25 sg_ri1_13 [] [sg_ri1_13_a] = true := by decide +kernel
def sg_ri2a_13 : sg_Cu := (7, 0, [(0, .inr (some (false, 13))), (2, .inr (some (false, 3)))], ([], [([(.ofNat 1, 0)], .ofNat 0, .ofNat 0)]), [none])
def sg_ri2a_13_p0 : sx_Po := (0, true, [], [([(.ofNat 1, 1)], .ofNat 0, .ofNat 0)])
theorem sg_ri2a_13_ok : sg_chk z9 ex_mt k9 60 tX9_readInto 4 25 sg_ri2a_13 [sg_ri2a_13_p0] [] = true := by decide +kernel
def sg_ri2b_13 : sg_Cu := (7, 0, [(0, .inr (some (false, 13))), (2, .inr (some (false, 3)))], ([.inl 1, .inr 196614], [([(.ofNat 1, 0)], .negSucc 2147483647, .ofNat 2147483647), ([(.ofNat 1, 1)], .negSucc 2147483647, .ofNat 2147483647), ([(.ofNat 1, 2)], .ofNat 1, .ofNat 1)]), [none])
def sg_ri2b_13_a : sg_Cu := (18, 0, [(0, .inr (some (false, 13))), (2, .inr (some (false, 3)))], ([], [([(.ofNat 1, 1), (.negSucc 0, 3)], .ofNat 0, .ofNat 0), ([(.ofNat 1, 0), (.negSucc 0, 4)], .ofNat 0, .ofNat 0)]), [none, none, some (false, 13)])
theorem sg_ri2b_13_ok : sg_chk z9 ex_mt k9 60 tX9_readInto 7 25 sg_ri2b_13 [] [sg_ri2b_13_a] = true := by decide +kernel
def sg_ri3_13 : sg_Cu := (21, 0, [(0, .inr (some (false, 13))), (2, .inr (some (false, 3)))], ([], []), [])
def sg_ri3_13_a : sg_Cu := (22, 0, [(0, .inr (some (false, 13))), (2, .inr (some (false, 3)))], ([], []), [some (false, 3)])
theorem sg_ri3_13_ok : sg_chk z9 ex_mt k9 60 tX9_readInto 3 25 sg_ri3_13 [] [sg_ri3_13_a] = true := by decide +kernel
def sg_ri4_13 : sg_Cu := (25, 0, [(0, .inr (some (false, 13))), (2, .inr (some (false, 3)))], ([], []), [])
def sg_ri4_13_p0 : sx_Po := (0, true, [], [([(.ofNat 1, 0)], .ofNat 1, .ofNat 1)])
theorem sg_ri4_13_ok : sg_chk z9 ex_mt k9 60 tX9_readInto 3 25 sg_ri4_13 [sg_ri4_13_p0] [] = true := by decide +kernel
def sg_ri1_14 : sg_Cu := (0, 0, [(0, .inr (some (false, 14))), (2, .inr (some (false, 3)))], ([.inl 1, .inl 3, .inl 4], [([(.ofNat 1, 0)], .negSucc 2147483647, .ofNat 2147483647), ([(.ofNat 1, 1)], .negSucc 2147483647, .ofNat 2147483647), ([(.ofNat 1, 2)], .negSucc 2147483647, .ofNat 2147483647)]), [])
def sg_ri1_14_a : sg_Cu := (4, 0, [(0, .inr (some (false, 14))), (2, .inr (some (false, 3)))], ([.inl 1], [([(.ofNat 1, 2), (.negSucc 0, 4)], .ofNat 0, .ofNat 0), ([(.ofNat 1, 1), (.negSucc 0, 5)], .ofNat 0, .ofNat 0), ([(.ofNat 1, 0), (.negSucc 0, 3)], .ofNat 0, .ofNat 0)]), [none, none, some (false, 3)])
theorem sg_ri1_14_ok : sg_chk z9 ex_mt k9 60 tX9_readInto 5 25 sg_ri1_14 [] [sg_ri1_14_a] = true := by decide +kernel
def sg_ri2a_14 : sg_Cu := (7, 0, [(0, .inr (some (false, 14))), (2, .inr (some (false, 3)))], ([], [([(.ofNat 1, 0)], .ofNat 0, .ofNat 0)]), [none])
def sg_ri2a_14_p0 : sx_Po := (0, true, [], [([(.ofNat 1, 1)], .ofNat 0, .ofNat 0)])
theorem sg_ri2a_14_ok : sg_chk z9 ex_mt k9 60 tX9_readInto 4 25 sg_ri2a_14 [sg_ri2a_14_p0] [] = true := by decide +kernel
def sg_ri2b_14 : sg_Cu := (7, 0, [(0, .inr (some (false, 14))), (2, .inr (some (false, 3)))], ([.inl 1, .inr 196614], [([(.ofNat 1, 0)], .negSucc 2147483647, .ofNat 2147483647), ([(.ofNat 1, 1)], .negSucc 2147483647, .ofNat 2147483647), ([(.ofNat 1, 2)], .ofNat 1, .ofNat 1)]), [none])
def sg_ri2b_14_a : sg_Cu := (18, 0, [(0, .inr (some (false, 14))), (2, .inr (some (false, 3)))], ([], [([(.ofNat 1, 1), (.negSucc 0, 3)], .ofNat 0, .ofNat 0), ([(.ofNat 1, 0), (.negSucc 0, 4)], .ofNat 0, .ofNat 0)]), [none, none, some (false, 14)])
theorem sg_ri2b_14_ok : sg_chk z9 ex_mt k9 60 tX9_readInto 7 25 sg_ri2b_14 [] [sg_ri2b_14_a] = true := by decide +kernel
def sg_ri3_14 : sg_Cu := (21, 0, [(0, .inr (some (false, 14))), (2, .inr (some (false, 3)))], ([], []), [])
def sg_ri3_14_a : sg_Cu := (22, 0, [(0, .inr (some (false, 14))), (2, .inr (some (false, 3)))], ([], []), [some (false, 3)])
theorem sg_ri3_14_ok : sg_chk z9 ex_mt k9 60 tX9_readInto 3 25 sg_ri3_14 [] [sg_ri3_14_a] = true := by decide +kernel
def sg_ri4_14 : sg_Cu := (25, 0, [(0, .inr (some (false, 14))), (2, .inr (some (false, 3)))], ([], []), [])
def sg_ri4_14_p0 : sx_Po := (0, true, [], [([(.ofNat 1, 0)], .ofNat 1, .ofNat 1)])
theorem sg_ri4_14_ok : sg_chk z9 ex_mt k9 60 tX9_readInto 3 25 sg_ri4_14 [sg_ri4_14_p0] [] = true := by decide +kernel
def sg_ri1_15 : sg_Cu := (0, 0, [(0, .inr (some (false, 15))), (2, .inr (some (false, 3)))], ([.inl 1, .inl 3, .inl 4], [([(.ofNat 1, 0)], .negSucc 2147483647, .ofNat 2147483647), ([(.ofNat 1, 1)], .negSucc 2147483647, .ofNat 2147483647), ([(.ofNat 1, 2)], .negSucc 2147483647, .ofNat 2147483647)]), [])
def sg_ri1_15_a : sg_Cu := (4, 0, [(0, .inr (some (false, 15))), (2, .inr (some (false, 3)))], ([.inl 1], [([(.ofNat 1, 2), (.negSucc 0, 4)], .ofNat 0, .ofNat 0), ([(.ofNat 1, 1), (.negSucc 0, 5)], .ofNat 0, .ofNat 0), ([(.ofNat 1, 0), (.negSucc 0, 3)], .ofNat 0, .ofNat 0)]), [none, none, some (false, 3)])
theorem sg_ri1_15_ok : sg_chk z9 ex_mt k9 60 tX9_readInto 5 25 sg_ri1_15 [] [sg_ri1_15_a] = true := by decide +kernel
def sg_ri2a_15 : sg_Cu := (7, 0, [(0, .inr (some (false, 15))), (2, .inr (some (false, 3)))], ([], [([(.ofNat 1, 0)], .ofNat 0, .ofNat 0)]), [none])
def sg_ri2a_15_p0 : sx_Po := (0, true, [], [([(.ofNat 1, 1)], .ofNat 0, .ofNat 0)])
theorem sg_ri2a_15_ok : sg_chk z9 ex_mt k9 60 tX9_readInto 4 25 sg_ri2a_15 [sg_ri2a_15_p0] [] = true := by decide +kernel
def sg_ri2b_15 : sg_Cu := (7, 0, [(0, .inr (some (false, 15))), (2, .inr (some (false, 3)))], ([.inl 1, .inr 196614], [([(.ofNat 1, 0)], .negSucc 2147483647, .ofNat 2147483647), ([(.ofNat 1, 1)], .negSucc 2147483647, .ofNat 2147483647), ([(.ofNat 1, 2)], .ofNat 1, .ofNat 1)]), [none])
def sg_ri2b_15_a : sg_Cu := (18, 0, [(0, .inr (some (false, 15))), (2, .inr (some (false, 3)))], ([], [([(.ofNat 1, 1), (.negSucc 0, 3)], .ofNat 0, .ofNat 0), ([(.ofNat 1, 0), (.negSucc 0, 4)], .ofNat 0, .ofNat 0)]), [none, none, some (false, 15)])
theorem sg_ri2b_15_ok : sg_chk z9 ex_mt k9 60 tX9_readInto 7 25 sg_ri2b_15 [] [sg_ri2b_15_a] = true := by decide +kernel
def sg_ri3_15 : sg_Cu := (21, 0, [(0, .inr (some (false, 15))), (2, .inr (some (false, 3)))], ([], []), [])
def sg_ri3_15_a : sg_Cu := (22, 0, [(0, .inr (some (false, 15))), (2, .inr (some (false, 3)))], ([], []), [some (false, 3)])
theorem sg_ri3_15_ok : sg_chk z9 ex_mt k9 60 tX9_readInto 3 25 sg_ri3_15 [] [sg_ri3_15_a] = true := by decide +kernel
def sg_ri4_15 : sg_Cu := (25, 0, [(0, .inr (some (false, 15))), (2, .inr (some (false, 3)))], ([], []), [])
def sg_ri4_15_p0 : sx_Po := (0, true, [], [([(.ofNat 1, 0)], .ofNat 1, .ofNat 1)])
theorem sg_ri4_15_ok : sg_chk z9 ex_mt k9 60 tX9_readInto 3 25 sg_ri4_15 [sg_ri4_15_p0] [] = true := by decide +kernel
def sg_ri1_16 : sg_Cu := (0, 0, [(0, .inr (some (false, 16))), (2, .inr (some (false, 3)))], ([.inl 1, .inl 3, .inl 4], [([(.ofNat 1, 0)], .negSucc 2147483647, .ofNat 2147483647), ([(.ofNat 1, 1)], .negSucc 2147483647, .ofNat 2147483647), ([(.ofNat 1, 2)], .negSucc 2147483647, .ofNat 2147483647)]), [])
def sg_ri1_16_a : sg_Cu := (4, 0, [(0, .inr (some (false, 16))), (2, .inr (some (false, 3)))], ([.inl 1], [([(.ofNat 1, 2), (.negSucc 0, 4)], .ofNat 0, .ofNat 0), ([(.ofNat 1, 1), (.negSucc 0, 5)], .ofNat 0, .ofNat 0), ([(.ofNat 1, 0), (.negSucc 0, 3)], .ofNat 0, .ofNat 0)]), [none, none, some (false, 3)])
theorem sg_ri1_16_ok : sg_chk z9 ex_mt k9 60 tX9_readInto 5 25 sg_ri1_16 [] [sg_ri1_16_a] = true := by decide +kernel
def sg_ri2a_16 : sg_Cu := (7, 0, [(0, .inr (some (false, 16))), (2, .inr (some (false, 3)))], ([], [([(.ofNat 1, 0)], .ofNat 0, .ofNat 0)]), [none])
def sg_ri2a_16_p0 : sx_Po := (0, true, [], [([(.ofNat 1, 1)], .ofNat 0, .ofNat 0)])
theorem sg_ri2a_16_ok : sg_chk z9 ex_mt k9 60 tX9_readInto 4 25 sg_ri2a_16 [sg_ri2a_16_p0] [] = true := by decide +kernel
def sg_ri2b_16 : sg_Cu := (7, 0, [(0, .inr (some (false, 16))), (2, .inr (some (false, 3)))], ([.inl 1, .inr 196614], [([(.ofNat 1, 0)], .negSucc 2147483647, .ofNat 2147483647), ([(.ofNat 1, 1)], .negSucc 2147483647, .ofNat 2147483647), ([(.ofNat 1, 2)], .ofNat 1, .ofNat 1)]), [none])
def sg_ri2b_16_a : sg_Cu := (18, 0, [(0, .inr (some (false, 16))), (2, .inr (some (false, 3)))], ([], [([(.ofNat 1, 1), (.negSucc 0, 3)], .ofNat 0, .ofNat 0), ([(.ofNat 1, 0), (.negSucc 0, 4)], .ofNat 0, .ofNat 0)]), [none, none, some (false, 16)])
theorem sg_ri2b_16_ok : sg_chk z9 ex_mt k9 60 tX9_readInto 7 25 sg_ri2b_16 [] [sg_ri2b_16_a] = true := by decide +kernel
def sg_ri3_16 : sg_Cu := (21, 0, [(0, .inr (some (false, 16))), (2, .inr (some (false, 3)))], ([], []), [])
def sg_ri3_16_a : sg_Cu := (22, 0, [(0, .inr (some (false, 16))), (2, .inr (some (false, 3)))], ([], []), [some (false, 3)])
theorem sg_ri3_16_ok : sg_chk z9 ex_mt k9 60 tX9_readInto 3 25 sg_ri3_16 [] [sg_ri3_16_a] = true := by decide +kernel
def sg_ri4_16 : sg_Cu := (25, 0, [(0, .inr (some (false, 16))), (2, .inr (some (false, 3)))], ([], []), [])
def sg_ri4_16_p0 : sx_Po := (0, true, [], [([(.ofNat 1, 0)], .ofNat 1, .ofNat 1)])
theorem sg_ri4_16_ok : sg_chk z9 ex_mt k9 60 tX9_readInto 3 25 sg_ri4_16 [sg_ri4_16_p0] [] = true := by decide +kernel
def sg_ri1_17 : sg_Cu := (0, 0, [(0, .inr (some (false, 17))), (2, .inr (some (false, 3)))], ([.inl 1, .inl 3, .inl 4], [([(.ofNat 1, 0)], .negSucc 2147483647, .ofNat 2147483647), ([(.ofNat 1, 1)], .negSucc 2147483647, .ofNat 2147483647), ([(.ofNat 1, 2)], .negSucc 2147483647, .ofNat 2147483647)]), [])
def sg_ri1_17_a : sg_Cu := (4, 0, [(0, .inr (some (false, 17))), (2, .inr (some (false, 3)))], ([.inl 1], [([(.ofNat 1, 2), (.negSucc 0, 4)], .ofNat 0, .ofNat 0), ([(.ofNat 1, 1), (.negSucc 0, 5)], .ofNat 0, .ofNat 0), ([(.ofNat 1, 0), (.negSucc 0, 3)], .ofNat 0, .ofNat 0)]), [none, none, some (false, 3)])
theorem sg_ri1_17_ok : sg_chk z9 ex_mt k9 60 tX9_readInto 5 25 sg_ri1_17 [] [sg_ri1_17_a] = true := by decide +kernel
def sg_ri2a_17 : sg_Cu := (7, 0, [(0, .inr (some (false, 17))), (2, .inr (some (false, 3)))], ([], [([(.ofNat 1, 0)], .ofNat 0, .ofNat 0)]), [none])
def sg_ri2a_17_p0 : sx_Po := (0, true, [], [([(.ofNat 1, 1)], .ofNat 0, .ofNat 0)])
theorem sg_ri2a_17_ok : sg_chk z9 ex_mt k9 60 tX9_readInto 4 25 sg_ri2a_17 [sg_ri2a_17_p0] [] = true := by decide +kernel
def sg_ri2b_17 : sg_Cu := (7, 0, [(0, .inr (some (false, 17))), (2, .inr (some (false, 3)))], ([.inl 1, .inr 196614], [([(.ofNat 1, 0)], .negSucc 2147483647, .ofNat 2147483647), ([(.ofNat 1, 1)], .negSucc 2147483647, .ofNat 2147483647), ([(.ofNat 1, 2)], .ofNat 1, .ofNat 1)]), [none])
def sg_ri2b_17_a : sg_Cu := (18, 0, [(0, .inr (some (false, 17))), (2, .inr (some (false, 3)))], ([], [([(.ofNat 1, 1), (.negSucc 0, 3)], .ofNat 0, .ofNat 0), ([(.ofNat 1, 0), (.negSucc 0, 4)], .ofNat 0, .ofNat 0)]), [none, none, some (false, 17)])
theorem sg_ri2b_17_ok : sg_chk z9 ex_mt k9 60 tX9_readInto 7 25 sg_ri2b_17 [] [sg_ri2b_17_a] = true := by decide +kernel
def sg_ri3_17 : sg_Cu := (21, 0, [(0, .inr (some (false, 17))), (2, .inr (some (false, 3)))], ([], []), [])
def sg_ri3_17_a : sg_Cu := (22, 0, [(0, .inr (some (false, 17))), (2, .inr (some (false, 3)))], ([], []), [some (false, 3)])
theorem sg_ri3_17_ok : sg_chk z9 ex_mt k9 60 tX9_readInto 3 25 sg_ri3_17 [] [sg_ri3_17_a] = true := by decide +kernel
def sg_ri4_17 : sg_Cu := (25, 0, [(0, .inr (some (false, 17))), (2, .inr (some (false, 3)))], ([], []), [])
def sg_ri4_17_p0 : sx_Po := (0, true, [], [([(.ofNat 1, 0)], .ofNat 1, .ofNat 1)])
theorem sg_ri4_17_ok : sg_chk z9 ex_mt k9 60 tX9_readInto 3 25 sg_ri4_17 [sg_ri4_17_p0] [] = true := by decide +kernel
def sg_ri1_18 : sg_Cu := (0, 0, [(0, .inr (some (false, 18))), (2, .inr (some (false, 3)))], ([.inl 1, .inl 3, .inl 4], [([(.ofNat 1, 0)], .negSucc 2147483647, .ofNat 2147483647), ([(.ofNat 1, 1)], .negSucc 2147483647, .ofNat 2147483647), ([(.ofNat 1, 2)], .negSucc 2147483647, .ofNat 2147483647)]), [])
def sg_ri1_18_a : sg_Cu := (4, 0, [(0, .inr (some (false, 18))), (2, .inr (some (false, 3)))], ([.inl 1], [([(.ofNat 1, 2), (.negSucc 0, 4)], .ofNat 0, .ofNat 0), ([(.ofNat 1, 1), (.negSucc 0, 5)], .ofNat 0, .ofNat 0), ([(.ofNat 1, 0), (.negSucc 0, 3)], .ofNat 0, .ofNat 0)]), [none, none, some (false, 3)])
theorem sg_ri1_18_ok : sg_chk z9 ex_mt k9 60 tX9_readInto 5 25 sg_ri1_18 [] [sg_ri1_18_a] = true := by decide +kernel
def sg_ri2a_18 : sg_Cu := (7, 0, [(0, .inr (some (false, 18))), (2, .inr (some (false, 3)))], ([], [([(.ofNat 1, 0)], .ofNat 0, .ofNat 0)]), [none])
def sg_ri2a_18_p0 : sx_Po := (0, true, [], [([(.ofNat 1, 1)], .ofNat 0, .ofNat 0)])
theorem sg_ri2a_18_ok : sg_chk z9 ex_mt k9 60 tX9_readInto 4 25 sg_ri2a_18 [sg_ri2a_18_p0] [] = true := by decide +kernel
def sg_ri2b_18 : sg_Cu := (7, 0, [(0, .inr (some (false, 18))), (2, .inr (some (false, 3)))], ([.inl 1, .inr 196614], [([(.ofNat 1, 0)], .negSucc 2147483647, .ofNat 2147483647), ([(.ofNat 1, 1)], .negSucc 2147483647, .ofNat 2147483647), ([(.ofNat 1, 2)], .ofNat 1, .ofNat 1)]), [none])
def sg_ri2b_18_a : sg_Cu := (18, 0, [(0, .inr (some (false, 18))), (2, .inr (some (false, 3)))], ([], [([(.ofNat 1, 1), (.negSucc 0, 3)], .ofNat 0, .ofNat 0), ([(.ofNat 1, 0), (.negSucc 0, 4)], .ofNat 0, .ofNat 0)]), [none, none, some (false, 18)])
theorem sg_ri2b_18_ok : sg_chk z9 ex_mt k9 60 tX9_readInto 7 25 sg_ri2b_18 [] [sg_ri2b_18_a] = true := by decide +kernel
def sg_ri3_18 : sg_Cu := (21, 0, [(0, .inr (some (false, 18))), (2, .inr (some (false, 3)))], ([], []), [])
def sg_ri3_18_a : sg_Cu := (22, 0, [(0, .inr (some (false, 18))), (2, .inr (some (false, 3)))], ([], []), [some (false, 3)])
theorem sg_ri3_18_ok : sg_chk z9 ex_mt k9 60 tX9_readInto 3 25 sg_ri3_18 [] [sg_ri3_18_a] = true := by decide +kernel
def sg_ri4_18 : sg_Cu := (25, 0, [(0, .inr (some (false, 18))), (2, .inr (some (false, 3)))], ([], []), [])
def sg_ri4_18_p0 : sx_Po := (0, true, [], [([(.ofNat 1, 0)], .ofNat 1, .ofNat 1)])
theorem sg_ri4_18_ok : sg_chk z9 ex_mt k9 60 tX9_readInto 3 25 sg_ri4_18 [sg_ri4_18_p0] [] = true := by decide +kernel
def sg_ri1_19 : sg_Cu := (0, 0, [(0, .inr (some (false, 19))), (2, .inr (some (false, 3)))], ([.inl 1, .inl 3, .inl 4], [([(.ofNat 1, 0)], .negSucc 2147483647, .ofNat 2147483647), ([(.ofNat 1, 1)], .negSucc 2147483647, .ofNat 2147483647), ([(.ofNat 1, 2)], .negSucc 2147483647, .ofNat 2147483647)]), [])
def sg_ri1_19_a : sg_Cu := (4, 0, [(0, .inr (some (false, 19))), (2, .inr (some (false, 3)))], ([.inl 1], [([(.ofNat 1, 2), (.negSucc 0, 4)], .ofNat 0, .ofNat 0), ([(.ofNat 1, 1), (.negSucc 0, 5)], .ofNat 0, .ofNat 0), ([(.ofNat 1, 0), (.negSucc 0, 3)], .ofNat 0, .ofNat 0)]), [none, none, some (false, 3)])
theorem sg_ri1_19_ok : sg_chk z9 ex_mt k9 60 tX9_readInto 5 25 sg_ri1_19 [] [sg_ri1_19_a] = true := by decide +kernel
def sg_ri2a_19 : sg_Cu := (7, 0, [(0, .inr (some (false, 19))), (2, .inr (some (false, 3)))], ([], [([(.ofNat 1, 0)], .ofNat 0, .ofNat 0)]), [none])
def sg_ri2a_19_p0 : sx_Po := (0, true, [], [([(.ofNat 1, 1)], .ofNat 0, .ofNat 0)])
theorem sg_ri2a_19_ok : sg_chk z9 ex_mt k9 60 tX9_readInto 4 25 sg_ri2a_19 [sg_ri2a_19_p0] [] = true := by decide +kernel
def sg_ri2b_19 : sg_Cu := (7, 0, [(0, .inr (some (false, 19))), (2, .inr (some (false, 3)))], ([.inl 1, .inr 196614], [([(.ofNat 1, 0)], .negSucc 2147483647, .ofNat 2147483647), ([(.ofNat 1, 1)], .negSucc 2147483647, .ofNat 2147483647), ([(.ofNat 1, 2)], .ofNat 1, .ofNat 1)]), [none])
def sg_ri2b_19_a : sg_Cu := (18, 0, [(0, .inr (some (false, 19))), (2, .inr (some (false, 3)))], ([], [([(.ofNat 1, 1), (.negSucc 0, 3)], .ofNat 0, .ofNat 0), ([(.ofNat 1, 0), (.negSucc 0, 4)], .ofNat 0, .ofNat 0)]), [none, none, some (false, 19)])
theorem sg_ri2b_19_ok : sg_chk z9 ex_mt k9 60 tX9_readInto 7 25 sg_ri2b_19 [] [sg_ri2b_19_a] = true := by decide +kernel
def sg_ri3_19 : sg_Cu := (21, 0, [(0, .inr (some (false, 19))), (2, .inr (some (false, 3)))], ([], []), [])
def sg_ri3_19_a : sg_Cu := (22, 0, [(0, .inr (some (false, 19))), (2, .inr (some (false, 3)))], ([], []), [some (false, 3)])
theorem sg_ri3_19_ok : sg_chk z9 ex_mt k9 60 tX9_readInto 3 25 sg_ri3_19 [] [sg_ri3_19_a] = true := by decide +kernel
def sg_ri4_19 : sg_Cu := (25, 0, [(0, .inr (some (false, 19))), (2, .inr (some (false, 3)))], ([], []), [])
def sg_ri4_19_p0 : sx_Po := (0, true, [], [([(.ofNat 1, 0)], .ofNat 1, .ofNat 1)])
theorem sg_ri4_19_ok : sg_chk z9 ex_mt k9 60 tX9_readInto 3 25 sg_ri4_19 [sg_ri4_19_p0] [] = true := by decide +kernel
section HR
variable {g : am_C} {L : Nat} {xs : Nat → Int32}
theorem sg_st7k_run (G : sx_G0 g L xs z9 hd_C ex_mt) (hct : ∀ (mi : Nat) (T2 : ex_T) (c' : sx_Ct), ex_mt mi = some T2 → c' ∈ k9 mi → c'.1 < 60 → sx_Holds g z9 hd_C T2 c') {σ : am_S} {lw : List (Nat × Value)} {post : Option (Option Value) → am_S → Prop} (hM : sx_M z9 hd_C σ 0 0 σ) (hl : (0, Value.ref 3) ∈ lw) (bp3_4 : 0 ≤ (σ.2.1 3 4).toInt ∧ (σ.2.1 3 4).toInt ≤ 939) {n0 : Int32} (bk0 : 63 ≤ n0.toInt ∧ n0.toInt ≤ 96) (ret0 : ∀ (σ' : am_S), (1 ≤ 1 * (σ'.2.1 3 3).toInt + 0 ∧ 1 * (σ'.2.1 3 3).toInt + 0 ≤ 1) → ((-1) ≤ 1 * (σ.2.1 3 4).toInt + ((-1) * (σ'.2.1 3 2).toInt + 0) ∧ 1 * (σ.2.1 3 4).toInt + ((-1) * (σ'.2.1 3 2).toInt + 0) ≤ (-1)) → sx_M z9 hd_C σ 12582912 0 σ' → post (some none) σ') : am_K g 10 tX6_step.1 0 0 173 lw [.int n0, .ref 3] σ post := by
  refine sg_seg (sw := [.int n0, .ref 3]) (vs := [(σ.2.1 3 4).toInt]) (ws := [n0.toInt]) G (mi := 250) rfl hct sg_st7k_ok ⟨rfl, trivial⟩ (hd_refs hl) ⟨⟨n0, rfl, rfl⟩, ⟨rfl, trivial⟩⟩ (hd_p1 rfl bp3_4.1 bp3_4.2 (hd_p1 rfl bk0.1 bk0.2 hd_p0)) hM ?_ ?_
  · intro r σ' hq
    cases r with
    | none => exact hq.elim
    | some v =>
      obtain ⟨p, hp, hM2, ks, hk, hv⟩ := hq
      simp only [List.mem_cons, List.not_mem_nil, or_false] at hp
      rcases hp with rfl
      · obtain ⟨ks0, rfl, hk1⟩ := hd_keyc hk; obtain ⟨ks1, rfl, hk2⟩ := hd_keyc hk1; obtain rfl := hd_keys hk2
        cases v with
        | some w9 => exact hv.elim
        | none =>
          have hP := hv
          obtain ⟨v0, e0, l0, u0⟩ := hP _ (List.mem_cons_self)
          have g0 : 1 * (σ'.2.1 3 3).toInt + 0 = v0 := Option.some.inj e0
          obtain ⟨v1, e1, l1, u1⟩ := hP _ (List.mem_cons_of_mem _ (List.mem_cons_self))
          have g1 : 1 * (σ.2.1 3 4).toInt + ((-1) * (σ'.2.1 3 2).toInt + 0) = v1 := Option.some.inj e1
          exact ret0 _ ⟨by rw [g0]; exact l0, by rw [g0]; exact u0⟩ ⟨by rw [g1]; exact l1, by rw [g1]; exact u1⟩ hM2
  · intro u hu
    cases hu
theorem sg_st7l_run (G : sx_G0 g L xs z9 hd_C ex_mt) (hct : ∀ (mi : Nat) (T2 : ex_T) (c' : sx_Ct), ex_mt mi = some T2 → c' ∈ k9 mi → c'.1 < 60 → sx_Holds g z9 hd_C T2 c') {σ : am_S} {lw : List (Nat × Value)} {post : Option (Option Value) → am_S → Prop} (hM : sx_M z9 hd_C σ 0 0 σ) (hl : (0, Value.ref 3) ∈ lw) (bp3_4 : 0 ≤ (σ.2.1 3 4).toInt ∧ (σ.2.1 3 4).toInt ≤ 939) {n0 : Int32} (bk0 : 123 ≤ n0.toInt ∧ n0.toInt ≤ 255) (ret0 : ∀ (σ' : am_S), (1 ≤ 1 * (σ'.2.1 3 3).toInt + 0 ∧ 1 * (σ'.2.1 3 3).toInt + 0 ≤ 1) → ((-1) ≤ 1 * (σ.2.1 3 4).toInt + ((-1) * (σ'.2.1 3 2).toInt + 0) ∧ 1 * (σ.2.1 3 4).toInt + ((-1) * (σ'.2.1 3 2).toInt + 0) ≤ (-1)) → sx_M z9 hd_C σ 12582912 0 σ' → post (some none) σ') : am_K g 10 tX6_step.1 0 0 173 lw [.int n0, .ref 3] σ post := by
  refine sg_seg (sw := [.int n0, .ref 3]) (vs := [(σ.2.1 3 4).toInt]) (ws := [n0.toInt]) G (mi := 250) rfl hct sg_st7l_ok ⟨rfl, trivial⟩ (hd_refs hl) ⟨⟨n0, rfl, rfl⟩, ⟨rfl, trivial⟩⟩ (hd_p1 rfl bp3_4.1 bp3_4.2 (hd_p1 rfl bk0.1 bk0.2 hd_p0)) hM ?_ ?_
  · intro r σ' hq
    cases r with
    | none => exact hq.elim
    | some v =>
      obtain ⟨p, hp, hM2, ks, hk, hv⟩ := hq
      simp only [List.mem_cons, List.not_mem_nil, or_false] at hp
      rcases hp with rfl
      · obtain ⟨ks0, rfl, hk1⟩ := hd_keyc hk; obtain ⟨ks1, rfl, hk2⟩ := hd_keyc hk1; obtain rfl := hd_keys hk2
        cases v with
        | some w9 => exact hv.elim
        | none =>
          have hP := hv
          obtain ⟨v0, e0, l0, u0⟩ := hP _ (List.mem_cons_self)
          have g0 : 1 * (σ'.2.1 3 3).toInt + 0 = v0 := Option.some.inj e0
          obtain ⟨v1, e1, l1, u1⟩ := hP _ (List.mem_cons_of_mem _ (List.mem_cons_self))
          have g1 : 1 * (σ.2.1 3 4).toInt + ((-1) * (σ'.2.1 3 2).toInt + 0) = v1 := Option.some.inj e1
          exact ret0 _ ⟨by rw [g0]; exact l0, by rw [g0]; exact u0⟩ ⟨by rw [g1]; exact l1, by rw [g1]; exact u1⟩ hM2
  · intro u hu
    cases hu
theorem sg_st8_run (G : sx_G0 g L xs z9 hd_C ex_mt) (hct : ∀ (mi : Nat) (T2 : ex_T) (c' : sx_Ct), ex_mt mi = some T2 → c' ∈ k9 mi → c'.1 < 60 → sx_Holds g z9 hd_C T2 c') {σ : am_S} {lw : List (Nat × Value)} {post : Option (Option Value) → am_S → Prop} (hM : sx_M z9 hd_C σ 0 0 σ) (hl : (0, Value.ref 3) ∈ lw)  (ret0 : ∀ (σ' : am_S), sx_M z9 hd_C σ 0 0 σ' → post (some none) σ') : am_K g 10 tX6_step.1 0 0 158 lw [] σ post := by
  refine sg_seg (sw := []) (vs := []) (ws := []) G (mi := 250) rfl hct sg_st8_ok trivial (hd_refs hl) trivial hd_p0 hM ?_ ?_
  · intro r σ' hq
    cases r with
    | none => exact hq.elim
    | some v =>
      obtain ⟨p, hp, hM2, ks, hk, hv⟩ := hq
      simp only [List.mem_cons, List.not_mem_nil, or_false] at hp
      rcases hp with rfl
      · obtain rfl := hd_keys hk
        cases v with
        | some w9 => exact hv.elim
        | none =>
          have hP := hv
          exact ret0 _  hM2
  · intro u hu
    cases hu
theorem sg_rr1_run (G : sx_G0 g L xs z9 hd_C ex_mt) (hct : ∀ (mi : Nat) (T2 : ex_T) (c' : sx_Ct), ex_mt mi = some T2 → c' ∈ k9 mi → c'.1 < 60 → sx_Holds g z9 hd_C T2 c') {σ : am_S} {lw : List (Nat × Value)} {post : Option (Option Value) → am_S → Prop} (hM : sx_M z9 hd_C σ 0 0 σ) (hl : (0, Value.ref 3) ∈ lw)  (cuta : ∀ (lw' : List (Nat × Value)) (m1' : Int32) (m2' : Int32) (σ' : am_S), (0, Value.ref 3) ∈ lw' → (1, Value.int m1') ∈ lw' → (2, Value.int m2') ∈ lw' → (0 ≤ 1 * m1'.toInt + 0 ∧ 1 * m1'.toInt + 0 ≤ 0) → (0 ≤ 1 * m2'.toInt + 0 ∧ 1 * m2'.toInt + 0 ≤ 0) → (0 ≤ 1 * (σ'.2.1 3 6).toInt + 0 ∧ 1 * (σ'.2.1 3 6).toInt + 0 ≤ 0) → (0 ≤ 1 * (σ.2.1 3 4).toInt + ((-1) * (σ'.2.1 3 2).toInt + 0) ∧ 1 * (σ.2.1 3 4).toInt + ((-1) * (σ'.2.1 3 2).toInt + 0) ≤ 0) → sx_M z9 hd_C σ 71303168 0 σ' → am_K g 8 tX6_readRun.1 0 0 17 lw' [] σ' post) : am_K g 8 tX6_readRun.1 0 0 0 lw [] σ post := by
  refine sg_seg (sw := []) (vs := [(σ.2.1 3 4).toInt]) (ws := []) G (mi := 247) rfl hct sg_rr1_ok ⟨rfl, trivial⟩ (hd_refs hl) trivial (hd_p1 rfl (hd_kd_3_4 hM).1 (hd_kd_3_4 hM).2 hd_p0) hM ?_ ?_
  · intro r σ' hq
    cases r with
    | none => exact hq.elim
    | some v =>
      obtain ⟨p, hp, hM2, ks, hk, hv⟩ := hq
      cases hp
  · intro u hu
    simp only [List.mem_cons, List.not_mem_nil, or_false] at hu
    rcases hu with rfl
    · intro lw' sw' vs' ws' σ' ⟨h1_0, h2, h3_0, h4, h5⟩
      obtain ⟨m1', vs1, rfl, hm1, h1_1⟩ := hd_srcl h1_0
      obtain ⟨m2', vs2, rfl, hm2, h1_2⟩ := hd_srcl h1_1
      obtain ⟨vs3, rfl, h1_3⟩ := hd_srcs h1_2
      obtain ⟨vs4, rfl, h1_4⟩ := hd_srcs h1_3
      obtain rfl := hd_src0 h1_4
      obtain ⟨rfl, rfl⟩ := hd_st0 h3_0
      have hr9 := hd_ref0 h2
      obtain ⟨v0, e0, l0, u0⟩ := h4 _ (List.mem_cons_self)
      have g0 : 1 * m1'.toInt + 0 = v0 := Option.some.inj e0
      obtain ⟨v1, e1, l1, u1⟩ := h4 _ (List.mem_cons_of_mem _ (List.mem_cons_self))
      have g1 : 1 * m2'.toInt + 0 = v1 := Option.some.inj e1
      obtain ⟨v2, e2, l2, u2⟩ := h4 _ (List.mem_cons_of_mem _ (List.mem_cons_of_mem _ (List.mem_cons_self)))
      have g2 : 1 * (σ'.2.1 3 6).toInt + 0 = v2 := Option.some.inj e2
      obtain ⟨v3, e3, l3, u3⟩ := h4 _ (List.mem_cons_of_mem _ (List.mem_cons_of_mem _ (List.mem_cons_of_mem _ (List.mem_cons_self))))
      have g3 : 1 * (σ.2.1 3 4).toInt + ((-1) * (σ'.2.1 3 2).toInt + 0) = v3 := Option.some.inj e3
      exact cuta _ _ _ _ hr9 hm1 hm2 ⟨by rw [g0]; exact l0, by rw [g0]; exact u0⟩ ⟨by rw [g1]; exact l1, by rw [g1]; exact u1⟩ ⟨by rw [g2]; exact l2, by rw [g2]; exact u2⟩ ⟨by rw [g3]; exact l3, by rw [g3]; exact u3⟩ h5
theorem sg_rr2_run (G : sx_G0 g L xs z9 hd_C ex_mt) (hct : ∀ (mi : Nat) (T2 : ex_T) (c' : sx_Ct), ex_mt mi = some T2 → c' ∈ k9 mi → c'.1 < 60 → sx_Holds g z9 hd_C T2 c') {σ : am_S} {lw : List (Nat × Value)} {post : Option (Option Value) → am_S → Prop} (hM : sx_M z9 hd_C σ 0 0 σ) (hl : (0, Value.ref 3) ∈ lw) {m1 : Int32} (hl1 : (1, Value.int m1) ∈ lw) {m2 : Int32} (hl2 : (2, Value.int m2) ∈ lw) (cuta : ∀ (lw' : List (Nat × Value)) (m1' : Int32) (m2' : Int32) (n0' : Int32) (σ' : am_S), (0, Value.ref 3) ∈ lw' → (1, Value.int m1') ∈ lw' → (2, Value.int m2') ∈ lw' → (0 ≤ 1 * (σ.2.1 3 2).toInt + ((-1) * n0'.toInt + 0) ∧ 1 * (σ.2.1 3 2).toInt + ((-1) * n0'.toInt + 0) ≤ 0) → ((-4611686018427387904) ≤ 1 * (σ.2.1 3 2).toInt + ((-1) * (σ.2.1 1 1).toInt + 0) ∧ 1 * (σ.2.1 3 2).toInt + ((-1) * (σ.2.1 1 1).toInt + 0) ≤ (-1)) → (0 ≤ 1 * m1.toInt + ((-1) * m1'.toInt + 0) ∧ 1 * m1.toInt + ((-1) * m1'.toInt + 0) ≤ 0) → (0 ≤ 1 * m2.toInt + ((-1) * m2'.toInt + 0) ∧ 1 * m2.toInt + ((-1) * m2'.toInt + 0) ≤ 0) → sx_M z9 hd_C σ 0 0 σ' → am_K g 8 tX6_readRun.1 0 0 39 lw' [.int n0', .ref 1] σ' post) (cutb : ∀ (lw' : List (Nat × Value)) (m1' : Int32) (m2' : Int32) (σ' : am_S), (0, Value.ref 3) ∈ lw' → (1, Value.int m1') ∈ lw' → (2, Value.int m2') ∈ lw' → (0 ≤ 1 * (σ.2.1 3 2).toInt + ((-1) * (σ.2.1 1 1).toInt + 0) ∧ 1 * (σ.2.1 3 2).toInt + ((-1) * (σ.2.1 1 1).toInt + 0) ≤ 4611686018427387904) → (0 ≤ 1 * m1.toInt + ((-1) * m1'.toInt + 0) ∧ 1 * m1.toInt + ((-1) * m1'.toInt + 0) ≤ 0) → (0 ≤ 1 * m2.toInt + ((-1) * m2'.toInt + 0) ∧ 1 * m2.toInt + ((-1) * m2'.toInt + 0) ≤ 0) → sx_M z9 hd_C σ 0 0 σ' → am_K g 8 tX6_readRun.1 0 0 107 lw' [] σ' post) : am_K g 8 tX6_readRun.1 0 0 17 lw [] σ post := by
  refine sg_seg (sw := []) (vs := [m1.toInt, m2.toInt, (σ.2.1 3 2).toInt, (σ.2.1 1 1).toInt]) (ws := []) G (mi := 247) rfl hct sg_rr2_ok ⟨⟨m1, hl1, rfl⟩, ⟨⟨m2, hl2, rfl⟩, ⟨rfl, ⟨rfl, trivial⟩⟩⟩⟩ (hd_refs hl) trivial (hd_p1 rfl (Int32.le_toInt _) (Int32.toInt_le _) (hd_p1 rfl (Int32.le_toInt _) (Int32.toInt_le _) (hd_p1 rfl (hd_kd_3_2 hM).1 (hd_kd_3_2 hM).2 (hd_p1 rfl (hd_kd_1_1 hM).1 (hd_kd_1_1 hM).2 hd_p0)))) hM ?_ ?_
  · intro r σ' hq
    cases r with
    | none => exact hq.elim
    | some v =>
      obtain ⟨p, hp, hM2, ks, hk, hv⟩ := hq
      cases hp
  · intro u hu
    simp only [List.mem_cons, List.not_mem_nil, or_false] at hu
    rcases hu with rfl | rfl
    · intro lw' sw' vs' ws' σ' ⟨h1_0, h2, h3_0, h4, h5⟩
      obtain ⟨m1', vs1, rfl, hm1, h1_1⟩ := hd_srcl h1_0
      obtain ⟨m2', vs2, rfl, hm2, h1_2⟩ := hd_srcl h1_1
      obtain rfl := hd_src0 h1_2
      obtain ⟨n0', sw1, ws1, rfl, rfl, h3_1⟩ := hd_sti h3_0
      obtain ⟨sw2, rfl, h3_2⟩ := hd_str h3_1
      obtain ⟨rfl, rfl⟩ := hd_st0 h3_2
      have hr9 := hd_ref0 h2
      obtain ⟨v0, e0, l0, u0⟩ := h4 _ (List.mem_cons_self)
      have g0 : 1 * (σ.2.1 3 2).toInt + ((-1) * n0'.toInt + 0) = v0 := Option.some.inj e0
      obtain ⟨v1, e1, l1, u1⟩ := h4 _ (List.mem_cons_of_mem _ (List.mem_cons_self))
      have g1 : 1 * (σ.2.1 3 2).toInt + ((-1) * (σ.2.1 1 1).toInt + 0) = v1 := Option.some.inj e1
      obtain ⟨v2, e2, l2, u2⟩ := h4 _ (List.mem_cons_of_mem _ (List.mem_cons_of_mem _ (List.mem_cons_self)))
      have g2 : 1 * m1.toInt + ((-1) * m1'.toInt + 0) = v2 := Option.some.inj e2
      obtain ⟨v3, e3, l3, u3⟩ := h4 _ (List.mem_cons_of_mem _ (List.mem_cons_of_mem _ (List.mem_cons_of_mem _ (List.mem_cons_self))))
      have g3 : 1 * m2.toInt + ((-1) * m2'.toInt + 0) = v3 := Option.some.inj e3
      exact cuta _ _ _ _ _ hr9 hm1 hm2 ⟨by rw [g0]; exact l0, by rw [g0]; exact u0⟩ ⟨by rw [g1]; exact l1, by rw [g1]; exact u1⟩ ⟨by rw [g2]; exact l2, by rw [g2]; exact u2⟩ ⟨by rw [g3]; exact l3, by rw [g3]; exact u3⟩ h5
    · intro lw' sw' vs' ws' σ' ⟨h1_0, h2, h3_0, h4, h5⟩
      obtain ⟨m1', vs1, rfl, hm1, h1_1⟩ := hd_srcl h1_0
      obtain ⟨m2', vs2, rfl, hm2, h1_2⟩ := hd_srcl h1_1
      obtain rfl := hd_src0 h1_2
      obtain ⟨rfl, rfl⟩ := hd_st0 h3_0
      have hr9 := hd_ref0 h2
      obtain ⟨v0, e0, l0, u0⟩ := h4 _ (List.mem_cons_self)
      have g0 : 1 * (σ.2.1 3 2).toInt + ((-1) * (σ.2.1 1 1).toInt + 0) = v0 := Option.some.inj e0
      obtain ⟨v1, e1, l1, u1⟩ := h4 _ (List.mem_cons_of_mem _ (List.mem_cons_self))
      have g1 : 1 * m1.toInt + ((-1) * m1'.toInt + 0) = v1 := Option.some.inj e1
      obtain ⟨v2, e2, l2, u2⟩ := h4 _ (List.mem_cons_of_mem _ (List.mem_cons_of_mem _ (List.mem_cons_self)))
      have g2 : 1 * m2.toInt + ((-1) * m2'.toInt + 0) = v2 := Option.some.inj e2
      exact cutb _ _ _ _ hr9 hm1 hm2 ⟨by rw [g0]; exact l0, by rw [g0]; exact u0⟩ ⟨by rw [g1]; exact l1, by rw [g1]; exact u1⟩ ⟨by rw [g2]; exact l2, by rw [g2]; exact u2⟩ h5
theorem sg_rr3a_run (G : sx_G0 g L xs z9 hd_C ex_mt) (hct : ∀ (mi : Nat) (T2 : ex_T) (c' : sx_Ct), ex_mt mi = some T2 → c' ∈ k9 mi → c'.1 < 60 → sx_Holds g z9 hd_C T2 c') {σ : am_S} {lw : List (Nat × Value)} {post : Option (Option Value) → am_S → Prop} (hM : sx_M z9 hd_C σ 0 0 σ) (hl : (0, Value.ref 3) ∈ lw) {m1 : Int32} (hl1 : (1, Value.int m1) ∈ lw) (bl1 : 0 ≤ m1.toInt ∧ m1.toInt ≤ 940) {m2 : Int32} (hl2 : (2, Value.int m2) ∈ lw) (bl2 : 0 ≤ m2.toInt ∧ m2.toInt ≤ 940) (bp3_2 : 0 ≤ (σ.2.1 3 2).toInt ∧ (σ.2.1 3 2).toInt ≤ 939) (bp3_6 : 0 ≤ (σ.2.1 3 6).toInt ∧ (σ.2.1 3 6).toInt ≤ 999) {n0 : Int32} (bk0 : 97 ≤ n0.toInt ∧ n0.toInt ≤ 122) (cuta : ∀ (lw' : List (Nat × Value)) (m1' : Int32) (m2' : Int32) (σ' : am_S), (0, Value.ref 3) ∈ lw' → (1, Value.int m1') ∈ lw' → (2, Value.int m2') ∈ lw' → ((-1) ≤ 1 * (σ.2.1 3 2).toInt + ((-1) * (σ'.2.1 3 2).toInt + 0) ∧ 1 * (σ.2.1 3 2).toInt + ((-1) * (σ'.2.1 3 2).toInt + 0) ≤ (-1)) → ((-1) ≤ 1 * m1.toInt + ((-1) * m1'.toInt + 0) ∧ 1 * m1.toInt + ((-1) * m1'.toInt + 0) ≤ (-1)) → (0 ≤ 1 * m2.toInt + ((-1) * m2'.toInt + 0) ∧ 1 * m2.toInt + ((-1) * m2'.toInt + 0) ≤ 0) → (0 ≤ 1 * (σ.2.1 3 6).toInt + ((-1) * (σ'.2.1 3 6).toInt + 0) ∧ 1 * (σ.2.1 3 6).toInt + ((-1) * (σ'.2.1 3 6).toInt + 0) ≤ 0) → sx_M z9 hd_C σ 4194304 0 σ' → am_K g 8 tX6_readRun.1 0 0 17 lw' [] σ' post) : am_K g 8 tX6_readRun.1 0 0 42 lw [.int n0] σ post := by
  refine sg_seg (sw := [.int n0]) (vs := [m1.toInt, m2.toInt, (σ.2.1 3 2).toInt, (σ.2.1 3 6).toInt]) (ws := [n0.toInt]) G (mi := 247) rfl hct sg_rr3a_ok ⟨⟨m1, hl1, rfl⟩, ⟨⟨m2, hl2, rfl⟩, ⟨rfl, ⟨rfl, trivial⟩⟩⟩⟩ (hd_refs hl) ⟨⟨n0, rfl, rfl⟩, trivial⟩ (hd_p1 rfl bl1.1 bl1.2 (hd_p1 rfl bl2.1 bl2.2 (hd_p1 rfl bp3_2.1 bp3_2.2 (hd_p1 rfl bp3_6.1 bp3_6.2 (hd_p1 rfl bk0.1 bk0.2 hd_p0))))) hM ?_ ?_
  · intro r σ' hq
    cases r with
    | none => exact hq.elim
    | some v =>
      obtain ⟨p, hp, hM2, ks, hk, hv⟩ := hq
      cases hp
  · intro u hu
    simp only [List.mem_cons, List.not_mem_nil, or_false] at hu
    rcases hu with rfl
    · intro lw' sw' vs' ws' σ' ⟨h1_0, h2, h3_0, h4, h5⟩
      obtain ⟨m1', vs1, rfl, hm1, h1_1⟩ := hd_srcl h1_0
      obtain ⟨m2', vs2, rfl, hm2, h1_2⟩ := hd_srcl h1_1
      obtain ⟨vs3, rfl, h1_3⟩ := hd_srcs h1_2
      obtain ⟨vs4, rfl, h1_4⟩ := hd_srcs h1_3
      obtain rfl := hd_src0 h1_4
      obtain ⟨rfl, rfl⟩ := hd_st0 h3_0
      have hr9 := hd_ref0 h2
      obtain ⟨v0, e0, l0, u0⟩ := h4 _ (List.mem_cons_self)
      have g0 : 1 * (σ.2.1 3 2).toInt + ((-1) * (σ'.2.1 3 2).toInt + 0) = v0 := Option.some.inj e0
      obtain ⟨v1, e1, l1, u1⟩ := h4 _ (List.mem_cons_of_mem _ (List.mem_cons_self))
      have g1 : 1 * m1.toInt + ((-1) * m1'.toInt + 0) = v1 := Option.some.inj e1
      obtain ⟨v2, e2, l2, u2⟩ := h4 _ (List.mem_cons_of_mem _ (List.mem_cons_of_mem _ (List.mem_cons_self)))
      have g2 : 1 * m2.toInt + ((-1) * m2'.toInt + 0) = v2 := Option.some.inj e2
      obtain ⟨v3, e3, l3, u3⟩ := h4 _ (List.mem_cons_of_mem _ (List.mem_cons_of_mem _ (List.mem_cons_of_mem _ (List.mem_cons_self))))
      have g3 : 1 * (σ.2.1 3 6).toInt + ((-1) * (σ'.2.1 3 6).toInt + 0) = v3 := Option.some.inj e3
      exact cuta _ _ _ _ hr9 hm1 hm2 ⟨by rw [g0]; exact l0, by rw [g0]; exact u0⟩ ⟨by rw [g1]; exact l1, by rw [g1]; exact u1⟩ ⟨by rw [g2]; exact l2, by rw [g2]; exact u2⟩ ⟨by rw [g3]; exact l3, by rw [g3]; exact u3⟩ h5
theorem sg_rr3b_run (G : sx_G0 g L xs z9 hd_C ex_mt) (hct : ∀ (mi : Nat) (T2 : ex_T) (c' : sx_Ct), ex_mt mi = some T2 → c' ∈ k9 mi → c'.1 < 60 → sx_Holds g z9 hd_C T2 c') {σ : am_S} {lw : List (Nat × Value)} {post : Option (Option Value) → am_S → Prop} (hM : sx_M z9 hd_C σ 0 0 σ) (hl : (0, Value.ref 3) ∈ lw) {m1 : Int32} (hl1 : (1, Value.int m1) ∈ lw) (bl1 : 0 ≤ m1.toInt ∧ m1.toInt ≤ 940) {m2 : Int32} (hl2 : (2, Value.int m2) ∈ lw) (bl2 : 0 ≤ m2.toInt ∧ m2.toInt ≤ 2) (bp3_2 : 0 ≤ (σ.2.1 3 2).toInt ∧ (σ.2.1 3 2).toInt ≤ 939) (bp3_6 : 0 ≤ (σ.2.1 3 6).toInt ∧ (σ.2.1 3 6).toInt ≤ 999) {n0 : Int32} (bk0 : 48 ≤ n0.toInt ∧ n0.toInt ≤ 57) (cuta : ∀ (lw' : List (Nat × Value)) (m1' : Int32) (m2' : Int32) (σ' : am_S), (0, Value.ref 3) ∈ lw' → (1, Value.int m1') ∈ lw' → (2, Value.int m2') ∈ lw' → ((-1) ≤ 1 * (σ.2.1 3 2).toInt + ((-1) * (σ'.2.1 3 2).toInt + 0) ∧ 1 * (σ.2.1 3 2).toInt + ((-1) * (σ'.2.1 3 2).toInt + 0) ≤ (-1)) → (0 ≤ 1 * m1.toInt + ((-1) * m1'.toInt + 0) ∧ 1 * m1.toInt + ((-1) * m1'.toInt + 0) ≤ 0) → ((-1) ≤ 1 * m2.toInt + ((-1) * m2'.toInt + 0) ∧ 1 * m2.toInt + ((-1) * m2'.toInt + 0) ≤ (-1)) → (48 ≤ 10 * (σ.2.1 3 6).toInt + (1 * n0.toInt + ((-1) * (σ'.2.1 3 6).toInt + 0)) ∧ 10 * (σ.2.1 3 6).toInt + (1 * n0.toInt + ((-1) * (σ'.2.1 3 6).toInt + 0)) ≤ 48) → sx_M z9 hd_C σ 71303168 0 σ' → am_K g 8 tX6_readRun.1 0 0 17 lw' [] σ' post) : am_K g 8 tX6_readRun.1 0 0 42 lw [.int n0] σ post := by
  refine sg_seg (sw := [.int n0]) (vs := [m1.toInt, m2.toInt, (σ.2.1 3 2).toInt, (σ.2.1 3 6).toInt]) (ws := [n0.toInt]) G (mi := 247) rfl hct sg_rr3b_ok ⟨⟨m1, hl1, rfl⟩, ⟨⟨m2, hl2, rfl⟩, ⟨rfl, ⟨rfl, trivial⟩⟩⟩⟩ (hd_refs hl) ⟨⟨n0, rfl, rfl⟩, trivial⟩ (hd_p1 rfl bl1.1 bl1.2 (hd_p1 rfl bl2.1 bl2.2 (hd_p1 rfl bp3_2.1 bp3_2.2 (hd_p1 rfl bp3_6.1 bp3_6.2 (hd_p1 rfl bk0.1 bk0.2 hd_p0))))) hM ?_ ?_
  · intro r σ' hq
    cases r with
    | none => exact hq.elim
    | some v =>
      obtain ⟨p, hp, hM2, ks, hk, hv⟩ := hq
      cases hp
  · intro u hu
    simp only [List.mem_cons, List.not_mem_nil, or_false] at hu
    rcases hu with rfl
    · intro lw' sw' vs' ws' σ' ⟨h1_0, h2, h3_0, h4, h5⟩
      obtain ⟨m1', vs1, rfl, hm1, h1_1⟩ := hd_srcl h1_0
      obtain ⟨m2', vs2, rfl, hm2, h1_2⟩ := hd_srcl h1_1
      obtain ⟨vs3, rfl, h1_3⟩ := hd_srcs h1_2
      obtain ⟨vs4, rfl, h1_4⟩ := hd_srcs h1_3
      obtain rfl := hd_src0 h1_4
      obtain ⟨rfl, rfl⟩ := hd_st0 h3_0
      have hr9 := hd_ref0 h2
      obtain ⟨v0, e0, l0, u0⟩ := h4 _ (List.mem_cons_self)
      have g0 : 1 * (σ.2.1 3 2).toInt + ((-1) * (σ'.2.1 3 2).toInt + 0) = v0 := Option.some.inj e0
      obtain ⟨v1, e1, l1, u1⟩ := h4 _ (List.mem_cons_of_mem _ (List.mem_cons_self))
      have g1 : 1 * m1.toInt + ((-1) * m1'.toInt + 0) = v1 := Option.some.inj e1
      obtain ⟨v2, e2, l2, u2⟩ := h4 _ (List.mem_cons_of_mem _ (List.mem_cons_of_mem _ (List.mem_cons_self)))
      have g2 : 1 * m2.toInt + ((-1) * m2'.toInt + 0) = v2 := Option.some.inj e2
      obtain ⟨v3, e3, l3, u3⟩ := h4 _ (List.mem_cons_of_mem _ (List.mem_cons_of_mem _ (List.mem_cons_of_mem _ (List.mem_cons_self))))
      have g3 : 10 * (σ.2.1 3 6).toInt + (1 * n0.toInt + ((-1) * (σ'.2.1 3 6).toInt + 0)) = v3 := Option.some.inj e3
      exact cuta _ _ _ _ hr9 hm1 hm2 ⟨by rw [g0]; exact l0, by rw [g0]; exact u0⟩ ⟨by rw [g1]; exact l1, by rw [g1]; exact u1⟩ ⟨by rw [g2]; exact l2, by rw [g2]; exact u2⟩ ⟨by rw [g3]; exact l3, by rw [g3]; exact u3⟩ h5
theorem sg_rr3c_run (G : sx_G0 g L xs z9 hd_C ex_mt) (hct : ∀ (mi : Nat) (T2 : ex_T) (c' : sx_Ct), ex_mt mi = some T2 → c' ∈ k9 mi → c'.1 < 60 → sx_Holds g z9 hd_C T2 c') {σ : am_S} {lw : List (Nat × Value)} {post : Option (Option Value) → am_S → Prop} (hM : sx_M z9 hd_C σ 0 0 σ) (hl : (0, Value.ref 3) ∈ lw) {m1 : Int32} (hl1 : (1, Value.int m1) ∈ lw) (bl1 : 0 ≤ m1.toInt ∧ m1.toInt ≤ 940) {m2 : Int32} (hl2 : (2, Value.int m2) ∈ lw) (bl2 : 3 ≤ m2.toInt ∧ m2.toInt ≤ 940) (bp3_2 : 0 ≤ (σ.2.1 3 2).toInt ∧ (σ.2.1 3 2).toInt ≤ 939) (bp3_6 : 0 ≤ (σ.2.1 3 6).toInt ∧ (σ.2.1 3 6).toInt ≤ 999) {n0 : Int32} (bk0 : 48 ≤ n0.toInt ∧ n0.toInt ≤ 57) (cuta : ∀ (lw' : List (Nat × Value)) (m1' : Int32) (m2' : Int32) (σ' : am_S), (0, Value.ref 3) ∈ lw' → (1, Value.int m1') ∈ lw' → (2, Value.int m2') ∈ lw' → ((-1) ≤ 1 * (σ.2.1 3 2).toInt + ((-1) * (σ'.2.1 3 2).toInt + 0) ∧ 1 * (σ.2.1 3 2).toInt + ((-1) * (σ'.2.1 3 2).toInt + 0) ≤ (-1)) → (0 ≤ 1 * m1.toInt + ((-1) * m1'.toInt + 0) ∧ 1 * m1.toInt + ((-1) * m1'.toInt + 0) ≤ 0) → ((-1) ≤ 1 * m2.toInt + ((-1) * m2'.toInt + 0) ∧ 1 * m2.toInt + ((-1) * m2'.toInt + 0) ≤ (-1)) → (0 ≤ 1 * (σ.2.1 3 6).toInt + ((-1) * (σ'.2.1 3 6).toInt + 0) ∧ 1 * (σ.2.1 3 6).toInt + ((-1) * (σ'.2.1 3 6).toInt + 0) ≤ 0) → sx_M z9 hd_C σ 71303168 0 σ' → am_K g 8 tX6_readRun.1 0 0 17 lw' [] σ' post) : am_K g 8 tX6_readRun.1 0 0 42 lw [.int n0] σ post := by
  refine sg_seg (sw := [.int n0]) (vs := [m1.toInt, m2.toInt, (σ.2.1 3 2).toInt, (σ.2.1 3 6).toInt]) (ws := [n0.toInt]) G (mi := 247) rfl hct sg_rr3c_ok ⟨⟨m1, hl1, rfl⟩, ⟨⟨m2, hl2, rfl⟩, ⟨rfl, ⟨rfl, trivial⟩⟩⟩⟩ (hd_refs hl) ⟨⟨n0, rfl, rfl⟩, trivial⟩ (hd_p1 rfl bl1.1 bl1.2 (hd_p1 rfl bl2.1 bl2.2 (hd_p1 rfl bp3_2.1 bp3_2.2 (hd_p1 rfl bp3_6.1 bp3_6.2 (hd_p1 rfl bk0.1 bk0.2 hd_p0))))) hM ?_ ?_
  · intro r σ' hq
    cases r with
    | none => exact hq.elim
    | some v =>
      obtain ⟨p, hp, hM2, ks, hk, hv⟩ := hq
      cases hp
  · intro u hu
    simp only [List.mem_cons, List.not_mem_nil, or_false] at hu
    rcases hu with rfl
    · intro lw' sw' vs' ws' σ' ⟨h1_0, h2, h3_0, h4, h5⟩
      obtain ⟨m1', vs1, rfl, hm1, h1_1⟩ := hd_srcl h1_0
      obtain ⟨m2', vs2, rfl, hm2, h1_2⟩ := hd_srcl h1_1
      obtain ⟨vs3, rfl, h1_3⟩ := hd_srcs h1_2
      obtain ⟨vs4, rfl, h1_4⟩ := hd_srcs h1_3
      obtain rfl := hd_src0 h1_4
      obtain ⟨rfl, rfl⟩ := hd_st0 h3_0
      have hr9 := hd_ref0 h2
      obtain ⟨v0, e0, l0, u0⟩ := h4 _ (List.mem_cons_self)
      have g0 : 1 * (σ.2.1 3 2).toInt + ((-1) * (σ'.2.1 3 2).toInt + 0) = v0 := Option.some.inj e0
      obtain ⟨v1, e1, l1, u1⟩ := h4 _ (List.mem_cons_of_mem _ (List.mem_cons_self))
      have g1 : 1 * m1.toInt + ((-1) * m1'.toInt + 0) = v1 := Option.some.inj e1
      obtain ⟨v2, e2, l2, u2⟩ := h4 _ (List.mem_cons_of_mem _ (List.mem_cons_of_mem _ (List.mem_cons_self)))
      have g2 : 1 * m2.toInt + ((-1) * m2'.toInt + 0) = v2 := Option.some.inj e2
      obtain ⟨v3, e3, l3, u3⟩ := h4 _ (List.mem_cons_of_mem _ (List.mem_cons_of_mem _ (List.mem_cons_of_mem _ (List.mem_cons_self))))
      have g3 : 1 * (σ.2.1 3 6).toInt + ((-1) * (σ'.2.1 3 6).toInt + 0) = v3 := Option.some.inj e3
      exact cuta _ _ _ _ hr9 hm1 hm2 ⟨by rw [g0]; exact l0, by rw [g0]; exact u0⟩ ⟨by rw [g1]; exact l1, by rw [g1]; exact u1⟩ ⟨by rw [g2]; exact l2, by rw [g2]; exact u2⟩ ⟨by rw [g3]; exact l3, by rw [g3]; exact u3⟩ h5
theorem sg_rr3d_run (G : sx_G0 g L xs z9 hd_C ex_mt) (hct : ∀ (mi : Nat) (T2 : ex_T) (c' : sx_Ct), ex_mt mi = some T2 → c' ∈ k9 mi → c'.1 < 60 → sx_Holds g z9 hd_C T2 c') {σ : am_S} {lw : List (Nat × Value)} {post : Option (Option Value) → am_S → Prop} (hM : sx_M z9 hd_C σ 0 0 σ) (hl : (0, Value.ref 3) ∈ lw) {m1 : Int32} (hl1 : (1, Value.int m1) ∈ lw) (bl1 : 0 ≤ m1.toInt ∧ m1.toInt ≤ 940) {m2 : Int32} (hl2 : (2, Value.int m2) ∈ lw) (bl2 : 0 ≤ m2.toInt ∧ m2.toInt ≤ 940) {n0 : Int32} (bk0 : 0 ≤ n0.toInt ∧ n0.toInt ≤ 47) (cuta : ∀ (lw' : List (Nat × Value)) (m1' : Int32) (m2' : Int32) (σ' : am_S), (0, Value.ref 3) ∈ lw' → (1, Value.int m1') ∈ lw' → (2, Value.int m2') ∈ lw' → (0 ≤ 1 * m1.toInt + ((-1) * m1'.toInt + 0) ∧ 1 * m1.toInt + ((-1) * m1'.toInt + 0) ≤ 0) → (0 ≤ 1 * m2.toInt + ((-1) * m2'.toInt + 0) ∧ 1 * m2.toInt + ((-1) * m2'.toInt + 0) ≤ 0) → sx_M z9 hd_C σ 0 0 σ' → am_K g 8 tX6_readRun.1 0 0 107 lw' [] σ' post) : am_K g 8 tX6_readRun.1 0 0 42 lw [.int n0] σ post := by
  refine sg_seg (sw := [.int n0]) (vs := [m1.toInt, m2.toInt]) (ws := [n0.toInt]) G (mi := 247) rfl hct sg_rr3d_ok ⟨⟨m1, hl1, rfl⟩, ⟨⟨m2, hl2, rfl⟩, trivial⟩⟩ (hd_refs hl) ⟨⟨n0, rfl, rfl⟩, trivial⟩ (hd_p1 rfl bl1.1 bl1.2 (hd_p1 rfl bl2.1 bl2.2 (hd_p1 rfl bk0.1 bk0.2 hd_p0))) hM ?_ ?_
  · intro r σ' hq
    cases r with
    | none => exact hq.elim
    | some v =>
      obtain ⟨p, hp, hM2, ks, hk, hv⟩ := hq
      cases hp
  · intro u hu
    simp only [List.mem_cons, List.not_mem_nil, or_false] at hu
    rcases hu with rfl
    · intro lw' sw' vs' ws' σ' ⟨h1_0, h2, h3_0, h4, h5⟩
      obtain ⟨m1', vs1, rfl, hm1, h1_1⟩ := hd_srcl h1_0
      obtain ⟨m2', vs2, rfl, hm2, h1_2⟩ := hd_srcl h1_1
      obtain rfl := hd_src0 h1_2
      obtain ⟨rfl, rfl⟩ := hd_st0 h3_0
      have hr9 := hd_ref0 h2
      obtain ⟨v0, e0, l0, u0⟩ := h4 _ (List.mem_cons_self)
      have g0 : 1 * m1.toInt + ((-1) * m1'.toInt + 0) = v0 := Option.some.inj e0
      obtain ⟨v1, e1, l1, u1⟩ := h4 _ (List.mem_cons_of_mem _ (List.mem_cons_self))
      have g1 : 1 * m2.toInt + ((-1) * m2'.toInt + 0) = v1 := Option.some.inj e1
      exact cuta _ _ _ _ hr9 hm1 hm2 ⟨by rw [g0]; exact l0, by rw [g0]; exact u0⟩ ⟨by rw [g1]; exact l1, by rw [g1]; exact u1⟩ h5
theorem sg_rr3e_run (G : sx_G0 g L xs z9 hd_C ex_mt) (hct : ∀ (mi : Nat) (T2 : ex_T) (c' : sx_Ct), ex_mt mi = some T2 → c' ∈ k9 mi → c'.1 < 60 → sx_Holds g z9 hd_C T2 c') {σ : am_S} {lw : List (Nat × Value)} {post : Option (Option Value) → am_S → Prop} (hM : sx_M z9 hd_C σ 0 0 σ) (hl : (0, Value.ref 3) ∈ lw) {m1 : Int32} (hl1 : (1, Value.int m1) ∈ lw) (bl1 : 0 ≤ m1.toInt ∧ m1.toInt ≤ 940) {m2 : Int32} (hl2 : (2, Value.int m2) ∈ lw) (bl2 : 0 ≤ m2.toInt ∧ m2.toInt ≤ 940) {n0 : Int32} (bk0 : 58 ≤ n0.toInt ∧ n0.toInt ≤ 96) (cuta : ∀ (lw' : List (Nat × Value)) (m1' : Int32) (m2' : Int32) (σ' : am_S), (0, Value.ref 3) ∈ lw' → (1, Value.int m1') ∈ lw' → (2, Value.int m2') ∈ lw' → (0 ≤ 1 * m1.toInt + ((-1) * m1'.toInt + 0) ∧ 1 * m1.toInt + ((-1) * m1'.toInt + 0) ≤ 0) → (0 ≤ 1 * m2.toInt + ((-1) * m2'.toInt + 0) ∧ 1 * m2.toInt + ((-1) * m2'.toInt + 0) ≤ 0) → sx_M z9 hd_C σ 0 0 σ' → am_K g 8 tX6_readRun.1 0 0 107 lw' [] σ' post) : am_K g 8 tX6_readRun.1 0 0 42 lw [.int n0] σ post := by
  refine sg_seg (sw := [.int n0]) (vs := [m1.toInt, m2.toInt]) (ws := [n0.toInt]) G (mi := 247) rfl hct sg_rr3e_ok ⟨⟨m1, hl1, rfl⟩, ⟨⟨m2, hl2, rfl⟩, trivial⟩⟩ (hd_refs hl) ⟨⟨n0, rfl, rfl⟩, trivial⟩ (hd_p1 rfl bl1.1 bl1.2 (hd_p1 rfl bl2.1 bl2.2 (hd_p1 rfl bk0.1 bk0.2 hd_p0))) hM ?_ ?_
  · intro r σ' hq
    cases r with
    | none => exact hq.elim
    | some v =>
      obtain ⟨p, hp, hM2, ks, hk, hv⟩ := hq
      cases hp
  · intro u hu
    simp only [List.mem_cons, List.not_mem_nil, or_false] at hu
    rcases hu with rfl
    · intro lw' sw' vs' ws' σ' ⟨h1_0, h2, h3_0, h4, h5⟩
      obtain ⟨m1', vs1, rfl, hm1, h1_1⟩ := hd_srcl h1_0
      obtain ⟨m2', vs2, rfl, hm2, h1_2⟩ := hd_srcl h1_1
      obtain rfl := hd_src0 h1_2
      obtain ⟨rfl, rfl⟩ := hd_st0 h3_0
      have hr9 := hd_ref0 h2
      obtain ⟨v0, e0, l0, u0⟩ := h4 _ (List.mem_cons_self)
      have g0 : 1 * m1.toInt + ((-1) * m1'.toInt + 0) = v0 := Option.some.inj e0
      obtain ⟨v1, e1, l1, u1⟩ := h4 _ (List.mem_cons_of_mem _ (List.mem_cons_self))
      have g1 : 1 * m2.toInt + ((-1) * m2'.toInt + 0) = v1 := Option.some.inj e1
      exact cuta _ _ _ _ hr9 hm1 hm2 ⟨by rw [g0]; exact l0, by rw [g0]; exact u0⟩ ⟨by rw [g1]; exact l1, by rw [g1]; exact u1⟩ h5
theorem sg_rr3f_run (G : sx_G0 g L xs z9 hd_C ex_mt) (hct : ∀ (mi : Nat) (T2 : ex_T) (c' : sx_Ct), ex_mt mi = some T2 → c' ∈ k9 mi → c'.1 < 60 → sx_Holds g z9 hd_C T2 c') {σ : am_S} {lw : List (Nat × Value)} {post : Option (Option Value) → am_S → Prop} (hM : sx_M z9 hd_C σ 0 0 σ) (hl : (0, Value.ref 3) ∈ lw) {m1 : Int32} (hl1 : (1, Value.int m1) ∈ lw) (bl1 : 0 ≤ m1.toInt ∧ m1.toInt ≤ 940) {m2 : Int32} (hl2 : (2, Value.int m2) ∈ lw) (bl2 : 0 ≤ m2.toInt ∧ m2.toInt ≤ 940) {n0 : Int32} (bk0 : 123 ≤ n0.toInt ∧ n0.toInt ≤ 255) (cuta : ∀ (lw' : List (Nat × Value)) (m1' : Int32) (m2' : Int32) (σ' : am_S), (0, Value.ref 3) ∈ lw' → (1, Value.int m1') ∈ lw' → (2, Value.int m2') ∈ lw' → (0 ≤ 1 * m1.toInt + ((-1) * m1'.toInt + 0) ∧ 1 * m1.toInt + ((-1) * m1'.toInt + 0) ≤ 0) → (0 ≤ 1 * m2.toInt + ((-1) * m2'.toInt + 0) ∧ 1 * m2.toInt + ((-1) * m2'.toInt + 0) ≤ 0) → sx_M z9 hd_C σ 0 0 σ' → am_K g 8 tX6_readRun.1 0 0 107 lw' [] σ' post) : am_K g 8 tX6_readRun.1 0 0 42 lw [.int n0] σ post := by
  refine sg_seg (sw := [.int n0]) (vs := [m1.toInt, m2.toInt]) (ws := [n0.toInt]) G (mi := 247) rfl hct sg_rr3f_ok ⟨⟨m1, hl1, rfl⟩, ⟨⟨m2, hl2, rfl⟩, trivial⟩⟩ (hd_refs hl) ⟨⟨n0, rfl, rfl⟩, trivial⟩ (hd_p1 rfl bl1.1 bl1.2 (hd_p1 rfl bl2.1 bl2.2 (hd_p1 rfl bk0.1 bk0.2 hd_p0))) hM ?_ ?_
  · intro r σ' hq
    cases r with
    | none => exact hq.elim
    | some v =>
      obtain ⟨p, hp, hM2, ks, hk, hv⟩ := hq
      cases hp
  · intro u hu
    simp only [List.mem_cons, List.not_mem_nil, or_false] at hu
    rcases hu with rfl
    · intro lw' sw' vs' ws' σ' ⟨h1_0, h2, h3_0, h4, h5⟩
      obtain ⟨m1', vs1, rfl, hm1, h1_1⟩ := hd_srcl h1_0
      obtain ⟨m2', vs2, rfl, hm2, h1_2⟩ := hd_srcl h1_1
      obtain rfl := hd_src0 h1_2
      obtain ⟨rfl, rfl⟩ := hd_st0 h3_0
      have hr9 := hd_ref0 h2
      obtain ⟨v0, e0, l0, u0⟩ := h4 _ (List.mem_cons_self)
      have g0 : 1 * m1.toInt + ((-1) * m1'.toInt + 0) = v0 := Option.some.inj e0
      obtain ⟨v1, e1, l1, u1⟩ := h4 _ (List.mem_cons_of_mem _ (List.mem_cons_self))
      have g1 : 1 * m2.toInt + ((-1) * m2'.toInt + 0) = v1 := Option.some.inj e1
      exact cuta _ _ _ _ hr9 hm1 hm2 ⟨by rw [g0]; exact l0, by rw [g0]; exact u0⟩ ⟨by rw [g1]; exact l1, by rw [g1]; exact u1⟩ h5
theorem sg_rr4_run (G : sx_G0 g L xs z9 hd_C ex_mt) (hct : ∀ (mi : Nat) (T2 : ex_T) (c' : sx_Ct), ex_mt mi = some T2 → c' ∈ k9 mi → c'.1 < 60 → sx_Holds g z9 hd_C T2 c') {σ : am_S} {lw : List (Nat × Value)} {post : Option (Option Value) → am_S → Prop} (hM : sx_M z9 hd_C σ 0 0 σ) (hl : (0, Value.ref 3) ∈ lw) {m1 : Int32} (hl1 : (1, Value.int m1) ∈ lw) (bl1 : 0 ≤ m1.toInt ∧ m1.toInt ≤ 940) {m2 : Int32} (hl2 : (2, Value.int m2) ∈ lw) (bl2 : 0 ≤ m2.toInt ∧ m2.toInt ≤ 940) (bf0 : 0 ≤ 1 * (σ.2.1 3 2).toInt + ((-1) * (σ.2.1 3 4).toInt + 0) ∧ 1 * (σ.2.1 3 2).toInt + ((-1) * (σ.2.1 3 4).toInt + 0) ≤ 940) (ret0 : ∀ (σ' : am_S), (0 ≤ 1 * m2.toInt + 0 ∧ 1 * m2.toInt + 0 ≤ 0) → ((-2147483648) ≤ 1 * m1.toInt + 0 ∧ 1 * m1.toInt + 0 ≤ 7) → (2 ≤ 1 * (σ'.2.1 3 3).toInt + 0 ∧ 1 * (σ'.2.1 3 3).toInt + 0 ≤ 2) → (0 ≤ 1 * (σ.2.1 3 2).toInt + ((-1) * (σ.2.1 3 4).toInt + ((-1) * (σ'.2.1 3 5).toInt + 0)) ∧ 1 * (σ.2.1 3 2).toInt + ((-1) * (σ.2.1 3 4).toInt + ((-1) * (σ'.2.1 3 5).toInt + 0)) ≤ 0) → sx_M z9 hd_C σ 41943040 0 σ' → post (some none) σ') (ret1 : ∀ (σ' : am_S), (0 ≤ 1 * m1.toInt + 0 ∧ 1 * m1.toInt + 0 ≤ 0) → (1 ≤ 1 * m2.toInt + 0 ∧ 1 * m2.toInt + 0 ≤ 3) → (3 ≤ 1 * (σ'.2.1 3 3).toInt + 0 ∧ 1 * (σ'.2.1 3 3).toInt + 0 ≤ 3) → (0 ≤ 1 * (σ.2.1 3 2).toInt + ((-1) * (σ.2.1 3 4).toInt + ((-1) * (σ'.2.1 3 5).toInt + 0)) ∧ 1 * (σ.2.1 3 2).toInt + ((-1) * (σ.2.1 3 4).toInt + ((-1) * (σ'.2.1 3 5).toInt + 0)) ≤ 0) → sx_M z9 hd_C σ 41943040 0 σ' → post (some none) σ') (ret2 : ∀ (σ' : am_S), (8 ≤ 1 * m1.toInt + 0 ∧ 1 * m1.toInt + 0 ≤ 2147483647) → (0 ≤ 1 * m2.toInt + 0 ∧ 1 * m2.toInt + 0 ≤ 2147483647) → (1 ≤ 1 * (σ'.2.1 3 3).toInt + 0 ∧ 1 * (σ'.2.1 3 3).toInt + 0 ≤ 1) → (0 ≤ 1 * (σ.2.1 3 2).toInt + ((-1) * (σ.2.1 3 4).toInt + ((-1) * (σ'.2.1 3 5).toInt + 0)) ∧ 1 * (σ.2.1 3 2).toInt + ((-1) * (σ.2.1 3 4).toInt + ((-1) * (σ'.2.1 3 5).toInt + 0)) ≤ 0) → sx_M z9 hd_C σ 41943040 0 σ' → post (some none) σ') (ret3 : ∀ (σ' : am_S), (1 ≤ 1 * m1.toInt + 0 ∧ 1 * m1.toInt + 0 ≤ 2147483647) → (1 ≤ 1 * m2.toInt + 0 ∧ 1 * m2.toInt + 0 ≤ 2147483647) → (1 ≤ 1 * (σ'.2.1 3 3).toInt + 0 ∧ 1 * (σ'.2.1 3 3).toInt + 0 ≤ 1) → (0 ≤ 1 * (σ.2.1 3 2).toInt + ((-1) * (σ.2.1 3 4).toInt + ((-1) * (σ'.2.1 3 5).toInt + 0)) ∧ 1 * (σ.2.1 3 2).toInt + ((-1) * (σ.2.1 3 4).toInt + ((-1) * (σ'.2.1 3 5).toInt + 0)) ≤ 0) → sx_M z9 hd_C σ 41943040 0 σ' → post (some none) σ') (ret4 : ∀ (σ' : am_S), (0 ≤ 1 * m1.toInt + 0 ∧ 1 * m1.toInt + 0 ≤ 0) → (4 ≤ 1 * m2.toInt + 0 ∧ 1 * m2.toInt + 0 ≤ 2147483647) → (1 ≤ 1 * (σ'.2.1 3 3).toInt + 0 ∧ 1 * (σ'.2.1 3 3).toInt + 0 ≤ 1) → (0 ≤ 1 * (σ.2.1 3 2).toInt + ((-1) * (σ.2.1 3 4).toInt + ((-1) * (σ'.2.1 3 5).toInt + 0)) ∧ 1 * (σ.2.1 3 2).toInt + ((-1) * (σ.2.1 3 4).toInt + ((-1) * (σ'.2.1 3 5).toInt + 0)) ≤ 0) → sx_M z9 hd_C σ 41943040 0 σ' → post (some none) σ') : am_K g 8 tX6_readRun.1 0 0 107 lw [] σ post := by
  refine sg_seg (sw := []) (vs := [m1.toInt, m2.toInt, (σ.2.1 3 2).toInt, (σ.2.1 3 4).toInt]) (ws := []) G (mi := 247) rfl hct sg_rr4_ok ⟨⟨m1, hl1, rfl⟩, ⟨⟨m2, hl2, rfl⟩, ⟨rfl, ⟨rfl, trivial⟩⟩⟩⟩ (hd_refs hl) trivial (hd_p1 rfl bl1.1 bl1.2 (hd_p1 rfl bl2.1 bl2.2 (hd_p1 rfl (hd_kd_3_2 hM).1 (hd_kd_3_2 hM).2 (hd_p1 rfl (hd_kd_3_4 hM).1 (hd_kd_3_4 hM).2 (hd_pf rfl bf0.1 bf0.2 hd_p0))))) hM ?_ ?_
  · intro r σ' hq
    cases r with
    | none => exact hq.elim
    | some v =>
      obtain ⟨p, hp, hM2, ks, hk, hv⟩ := hq
      simp only [List.mem_cons, List.not_mem_nil, or_false] at hp
      rcases hp with rfl | rfl | rfl | rfl | rfl
      · obtain ⟨ks0, rfl, hk1⟩ := hd_keyc hk; obtain ⟨ks1, rfl, hk2⟩ := hd_keyc hk1; obtain rfl := hd_keys hk2
        cases v with
        | some w9 => exact hv.elim
        | none =>
          have hP := hv
          obtain ⟨v0, e0, l0, u0⟩ := hP _ (List.mem_cons_self)
          have g0 : 1 * m2.toInt + 0 = v0 := Option.some.inj e0
          obtain ⟨v1, e1, l1, u1⟩ := hP _ (List.mem_cons_of_mem _ (List.mem_cons_self))
          have g1 : 1 * m1.toInt + 0 = v1 := Option.some.inj e1
          obtain ⟨v2, e2, l2, u2⟩ := hP _ (List.mem_cons_of_mem _ (List.mem_cons_of_mem _ (List.mem_cons_self)))
          have g2 : 1 * (σ'.2.1 3 3).toInt + 0 = v2 := Option.some.inj e2
          obtain ⟨v3, e3, l3, u3⟩ := hP _ (List.mem_cons_of_mem _ (List.mem_cons_of_mem _ (List.mem_cons_of_mem _ (List.mem_cons_self))))
          have g3 : 1 * (σ.2.1 3 2).toInt + ((-1) * (σ.2.1 3 4).toInt + ((-1) * (σ'.2.1 3 5).toInt + 0)) = v3 := Option.some.inj e3
          exact ret0 _ ⟨by rw [g0]; exact l0, by rw [g0]; exact u0⟩ ⟨by rw [g1]; exact l1, by rw [g1]; exact u1⟩ ⟨by rw [g2]; exact l2, by rw [g2]; exact u2⟩ ⟨by rw [g3]; exact l3, by rw [g3]; exact u3⟩ hM2
      · obtain ⟨ks0, rfl, hk1⟩ := hd_keyc hk; obtain ⟨ks1, rfl, hk2⟩ := hd_keyc hk1; obtain rfl := hd_keys hk2
        cases v with
        | some w9 => exact hv.elim
        | none =>
          have hP := hv
          obtain ⟨v0, e0, l0, u0⟩ := hP _ (List.mem_cons_self)
          have g0 : 1 * m1.toInt + 0 = v0 := Option.some.inj e0
          obtain ⟨v1, e1, l1, u1⟩ := hP _ (List.mem_cons_of_mem _ (List.mem_cons_self))
          have g1 : 1 * m2.toInt + 0 = v1 := Option.some.inj e1
          obtain ⟨v2, e2, l2, u2⟩ := hP _ (List.mem_cons_of_mem _ (List.mem_cons_of_mem _ (List.mem_cons_self)))
          have g2 : 1 * (σ'.2.1 3 3).toInt + 0 = v2 := Option.some.inj e2
          obtain ⟨v3, e3, l3, u3⟩ := hP _ (List.mem_cons_of_mem _ (List.mem_cons_of_mem _ (List.mem_cons_of_mem _ (List.mem_cons_self))))
          have g3 : 1 * (σ.2.1 3 2).toInt + ((-1) * (σ.2.1 3 4).toInt + ((-1) * (σ'.2.1 3 5).toInt + 0)) = v3 := Option.some.inj e3
          exact ret1 _ ⟨by rw [g0]; exact l0, by rw [g0]; exact u0⟩ ⟨by rw [g1]; exact l1, by rw [g1]; exact u1⟩ ⟨by rw [g2]; exact l2, by rw [g2]; exact u2⟩ ⟨by rw [g3]; exact l3, by rw [g3]; exact u3⟩ hM2
      · obtain ⟨ks0, rfl, hk1⟩ := hd_keyc hk; obtain ⟨ks1, rfl, hk2⟩ := hd_keyc hk1; obtain rfl := hd_keys hk2
        cases v with
        | some w9 => exact hv.elim
        | none =>
          have hP := hv
          obtain ⟨v0, e0, l0, u0⟩ := hP _ (List.mem_cons_self)
          have g0 : 1 * m1.toInt + 0 = v0 := Option.some.inj e0
          obtain ⟨v1, e1, l1, u1⟩ := hP _ (List.mem_cons_of_mem _ (List.mem_cons_self))
          have g1 : 1 * m2.toInt + 0 = v1 := Option.some.inj e1
          obtain ⟨v2, e2, l2, u2⟩ := hP _ (List.mem_cons_of_mem _ (List.mem_cons_of_mem _ (List.mem_cons_self)))
          have g2 : 1 * (σ'.2.1 3 3).toInt + 0 = v2 := Option.some.inj e2
          obtain ⟨v3, e3, l3, u3⟩ := hP _ (List.mem_cons_of_mem _ (List.mem_cons_of_mem _ (List.mem_cons_of_mem _ (List.mem_cons_self))))
          have g3 : 1 * (σ.2.1 3 2).toInt + ((-1) * (σ.2.1 3 4).toInt + ((-1) * (σ'.2.1 3 5).toInt + 0)) = v3 := Option.some.inj e3
          exact ret2 _ ⟨by rw [g0]; exact l0, by rw [g0]; exact u0⟩ ⟨by rw [g1]; exact l1, by rw [g1]; exact u1⟩ ⟨by rw [g2]; exact l2, by rw [g2]; exact u2⟩ ⟨by rw [g3]; exact l3, by rw [g3]; exact u3⟩ hM2
      · obtain ⟨ks0, rfl, hk1⟩ := hd_keyc hk; obtain ⟨ks1, rfl, hk2⟩ := hd_keyc hk1; obtain rfl := hd_keys hk2
        cases v with
        | some w9 => exact hv.elim
        | none =>
          have hP := hv
          obtain ⟨v0, e0, l0, u0⟩ := hP _ (List.mem_cons_self)
          have g0 : 1 * m1.toInt + 0 = v0 := Option.some.inj e0
          obtain ⟨v1, e1, l1, u1⟩ := hP _ (List.mem_cons_of_mem _ (List.mem_cons_self))
          have g1 : 1 * m2.toInt + 0 = v1 := Option.some.inj e1
          obtain ⟨v2, e2, l2, u2⟩ := hP _ (List.mem_cons_of_mem _ (List.mem_cons_of_mem _ (List.mem_cons_self)))
          have g2 : 1 * (σ'.2.1 3 3).toInt + 0 = v2 := Option.some.inj e2
          obtain ⟨v3, e3, l3, u3⟩ := hP _ (List.mem_cons_of_mem _ (List.mem_cons_of_mem _ (List.mem_cons_of_mem _ (List.mem_cons_self))))
          have g3 : 1 * (σ.2.1 3 2).toInt + ((-1) * (σ.2.1 3 4).toInt + ((-1) * (σ'.2.1 3 5).toInt + 0)) = v3 := Option.some.inj e3
          exact ret3 _ ⟨by rw [g0]; exact l0, by rw [g0]; exact u0⟩ ⟨by rw [g1]; exact l1, by rw [g1]; exact u1⟩ ⟨by rw [g2]; exact l2, by rw [g2]; exact u2⟩ ⟨by rw [g3]; exact l3, by rw [g3]; exact u3⟩ hM2
      · obtain ⟨ks0, rfl, hk1⟩ := hd_keyc hk; obtain ⟨ks1, rfl, hk2⟩ := hd_keyc hk1; obtain rfl := hd_keys hk2
        cases v with
        | some w9 => exact hv.elim
        | none =>
          have hP := hv
          obtain ⟨v0, e0, l0, u0⟩ := hP _ (List.mem_cons_self)
          have g0 : 1 * m1.toInt + 0 = v0 := Option.some.inj e0
          obtain ⟨v1, e1, l1, u1⟩ := hP _ (List.mem_cons_of_mem _ (List.mem_cons_self))
          have g1 : 1 * m2.toInt + 0 = v1 := Option.some.inj e1
          obtain ⟨v2, e2, l2, u2⟩ := hP _ (List.mem_cons_of_mem _ (List.mem_cons_of_mem _ (List.mem_cons_self)))
          have g2 : 1 * (σ'.2.1 3 3).toInt + 0 = v2 := Option.some.inj e2
          obtain ⟨v3, e3, l3, u3⟩ := hP _ (List.mem_cons_of_mem _ (List.mem_cons_of_mem _ (List.mem_cons_of_mem _ (List.mem_cons_self))))
          have g3 : 1 * (σ.2.1 3 2).toInt + ((-1) * (σ.2.1 3 4).toInt + ((-1) * (σ'.2.1 3 5).toInt + 0)) = v3 := Option.some.inj e3
          exact ret4 _ ⟨by rw [g0]; exact l0, by rw [g0]; exact u0⟩ ⟨by rw [g1]; exact l1, by rw [g1]; exact u1⟩ ⟨by rw [g2]; exact l2, by rw [g2]; exact u2⟩ ⟨by rw [g3]; exact l3, by rw [g3]; exact u3⟩ hM2
  · intro u hu
    cases hu
theorem sg_ia1a_run (G : sx_G0 g L xs z9 hd_C ex_mt) (hct : ∀ (mi : Nat) (T2 : ex_T) (c' : sx_Ct), ex_mt mi = some T2 → c' ∈ k9 mi → c'.1 < 60 → sx_Holds g z9 hd_C T2 c') {σ : am_S} {lw : List (Nat × Value)} {post : Option (Option Value) → am_S → Prop} (hM : sx_M z9 hd_C σ 0 0 σ) (hl : (0, Value.ref 3) ∈ lw) {m1 : Int32} (hl1 : (1, Value.int m1) ∈ lw) (bp3_3 : (-2147483648) ≤ (σ.2.1 3 3).toInt ∧ (σ.2.1 3 3).toInt ≤ 3) (ret0 : ∀ (r : Int32) (σ' : am_S), (0 ≤ 1 * r.toInt + 0 ∧ 1 * r.toInt + 0 ≤ 0) → sx_M z9 hd_C σ 0 0 σ' → post (some (some (.int r))) σ') : am_K g 6 tX6_isAt.1 0 0 0 lw [] σ post := by
  refine sg_seg (sw := []) (vs := [m1.toInt, (σ.2.1 3 3).toInt]) (ws := []) G (mi := 241) rfl hct sg_ia1a_ok ⟨⟨m1, hl1, rfl⟩, ⟨rfl, trivial⟩⟩ (hd_refs hl) trivial (hd_p1 rfl (Int32.le_toInt _) (Int32.toInt_le _) (hd_p1 rfl bp3_3.1 bp3_3.2 hd_p0)) hM ?_ ?_
  · intro r σ' hq
    cases r with
    | none => exact hq.elim
    | some v =>
      obtain ⟨p, hp, hM2, ks, hk, hv⟩ := hq
      simp only [List.mem_cons, List.not_mem_nil, or_false] at hp
      rcases hp with rfl
      · obtain rfl := hd_keys hk
        cases v with
        | none => exact hv.elim
        | some w9 =>
          obtain ⟨r, rfl, hP⟩ := hv
          obtain ⟨v0, e0, l0, u0⟩ := hP _ (List.mem_cons_self)
          have g0 : 1 * r.toInt + 0 = v0 := Option.some.inj e0
          exact ret0 r _ ⟨by rw [g0]; exact l0, by rw [g0]; exact u0⟩ hM2
  · intro u hu
    cases hu
theorem sg_ia1b_run (G : sx_G0 g L xs z9 hd_C ex_mt) (hct : ∀ (mi : Nat) (T2 : ex_T) (c' : sx_Ct), ex_mt mi = some T2 → c' ∈ k9 mi → c'.1 < 60 → sx_Holds g z9 hd_C T2 c') {σ : am_S} {lw : List (Nat × Value)} {post : Option (Option Value) → am_S → Prop} (hM : sx_M z9 hd_C σ 0 0 σ) (hl : (0, Value.ref 3) ∈ lw) {m1 : Int32} (hl1 : (1, Value.int m1) ∈ lw) (bp3_3 : 5 ≤ (σ.2.1 3 3).toInt ∧ (σ.2.1 3 3).toInt ≤ 2147483647) (ret0 : ∀ (r : Int32) (σ' : am_S), (0 ≤ 1 * r.toInt + 0 ∧ 1 * r.toInt + 0 ≤ 0) → sx_M z9 hd_C σ 0 0 σ' → post (some (some (.int r))) σ') : am_K g 6 tX6_isAt.1 0 0 0 lw [] σ post := by
  refine sg_seg (sw := []) (vs := [m1.toInt, (σ.2.1 3 3).toInt]) (ws := []) G (mi := 241) rfl hct sg_ia1b_ok ⟨⟨m1, hl1, rfl⟩, ⟨rfl, trivial⟩⟩ (hd_refs hl) trivial (hd_p1 rfl (Int32.le_toInt _) (Int32.toInt_le _) (hd_p1 rfl bp3_3.1 bp3_3.2 hd_p0)) hM ?_ ?_
  · intro r σ' hq
    cases r with
    | none => exact hq.elim
    | some v =>
      obtain ⟨p, hp, hM2, ks, hk, hv⟩ := hq
      simp only [List.mem_cons, List.not_mem_nil, or_false] at hp
      rcases hp with rfl
      · obtain rfl := hd_keys hk
        cases v with
        | none => exact hv.elim
        | some w9 =>
          obtain ⟨r, rfl, hP⟩ := hv
          obtain ⟨v0, e0, l0, u0⟩ := hP _ (List.mem_cons_self)
          have g0 : 1 * r.toInt + 0 = v0 := Option.some.inj e0
          exact ret0 r _ ⟨by rw [g0]; exact l0, by rw [g0]; exact u0⟩ hM2
  · intro u hu
    cases hu
theorem sg_ia1c_run (G : sx_G0 g L xs z9 hd_C ex_mt) (hct : ∀ (mi : Nat) (T2 : ex_T) (c' : sx_Ct), ex_mt mi = some T2 → c' ∈ k9 mi → c'.1 < 60 → sx_Holds g z9 hd_C T2 c') {σ : am_S} {lw : List (Nat × Value)} {post : Option (Option Value) → am_S → Prop} (hM : sx_M z9 hd_C σ 0 0 σ) (hl : (0, Value.ref 3) ∈ lw) {m1 : Int32} (hl1 : (1, Value.int m1) ∈ lw) (bp3_3 : 4 ≤ (σ.2.1 3 3).toInt ∧ (σ.2.1 3 3).toInt ≤ 4) (cuta : ∀ (lw' : List (Nat × Value)) (m1' : Int32) (n0' : Int32) (σ' : am_S), (0, Value.ref 3) ∈ lw' → (1, Value.int m1') ∈ lw' → (0 ≤ 1 * (σ.2.1 3 4).toInt + ((-1) * n0'.toInt + 0) ∧ 1 * (σ.2.1 3 4).toInt + ((-1) * n0'.toInt + 0) ≤ 0) → (0 ≤ 1 * m1.toInt + ((-1) * m1'.toInt + 0) ∧ 1 * m1.toInt + ((-1) * m1'.toInt + 0) ≤ 0) → sx_M z9 hd_C σ 0 0 σ' → am_K g 6 tX6_isAt.1 0 0 16 lw' [.int n0', .ref 1] σ' post) : am_K g 6 tX6_isAt.1 0 0 0 lw [] σ post := by
  refine sg_seg (sw := []) (vs := [m1.toInt, (σ.2.1 3 3).toInt, (σ.2.1 3 4).toInt]) (ws := []) G (mi := 241) rfl hct sg_ia1c_ok ⟨⟨m1, hl1, rfl⟩, ⟨rfl, ⟨rfl, trivial⟩⟩⟩ (hd_refs hl) trivial (hd_p1 rfl (Int32.le_toInt _) (Int32.toInt_le _) (hd_p1 rfl bp3_3.1 bp3_3.2 (hd_p1 rfl (hd_kd_3_4 hM).1 (hd_kd_3_4 hM).2 hd_p0))) hM ?_ ?_
  · intro r σ' hq
    cases r with
    | none => exact hq.elim
    | some v =>
      obtain ⟨p, hp, hM2, ks, hk, hv⟩ := hq
      cases hp
  · intro u hu
    simp only [List.mem_cons, List.not_mem_nil, or_false] at hu
    rcases hu with rfl
    · intro lw' sw' vs' ws' σ' ⟨h1_0, h2, h3_0, h4, h5⟩
      obtain ⟨m1', vs1, rfl, hm1, h1_1⟩ := hd_srcl h1_0
      obtain rfl := hd_src0 h1_1
      obtain ⟨n0', sw1, ws1, rfl, rfl, h3_1⟩ := hd_sti h3_0
      obtain ⟨sw2, rfl, h3_2⟩ := hd_str h3_1
      obtain ⟨rfl, rfl⟩ := hd_st0 h3_2
      have hr9 := hd_ref0 h2
      obtain ⟨v0, e0, l0, u0⟩ := h4 _ (List.mem_cons_self)
      have g0 : 1 * (σ.2.1 3 4).toInt + ((-1) * n0'.toInt + 0) = v0 := Option.some.inj e0
      obtain ⟨v1, e1, l1, u1⟩ := h4 _ (List.mem_cons_of_mem _ (List.mem_cons_self))
      have g1 : 1 * m1.toInt + ((-1) * m1'.toInt + 0) = v1 := Option.some.inj e1
      exact cuta _ _ _ _ hr9 hm1 ⟨by rw [g0]; exact l0, by rw [g0]; exact u0⟩ ⟨by rw [g1]; exact l1, by rw [g1]; exact u1⟩ h5
theorem sg_ia2a_run (G : sx_G0 g L xs z9 hd_C ex_mt) (hct : ∀ (mi : Nat) (T2 : ex_T) (c' : sx_Ct), ex_mt mi = some T2 → c' ∈ k9 mi → c'.1 < 60 → sx_Holds g z9 hd_C T2 c') {σ : am_S} {lw : List (Nat × Value)} {post : Option (Option Value) → am_S → Prop} (hM : sx_M z9 hd_C σ 0 0 σ) (hl : (0, Value.ref 3) ∈ lw) {m1 : Int32} (hl1 : (1, Value.int m1) ∈ lw) {n0 : Int32} (bf0 : 1 ≤ 1 * m1.toInt + ((-1) * n0.toInt + 0) ∧ 1 * m1.toInt + ((-1) * n0.toInt + 0) ≤ 4611686018427387904) (ret0 : ∀ (r : Int32) (σ' : am_S), (0 ≤ 1 * r.toInt + 0 ∧ 1 * r.toInt + 0 ≤ 0) → sx_M z9 hd_C σ 0 0 σ' → post (some (some (.int r))) σ') : am_K g 6 tX6_isAt.1 0 0 19 lw [.int n0] σ post := by
  refine sg_seg (sw := [.int n0]) (vs := [m1.toInt]) (ws := [n0.toInt]) G (mi := 241) rfl hct sg_ia2a_ok ⟨⟨m1, hl1, rfl⟩, trivial⟩ (hd_refs hl) ⟨⟨n0, rfl, rfl⟩, trivial⟩ (hd_p1 rfl (Int32.le_toInt _) (Int32.toInt_le _) (hd_p1 rfl (Int32.le_toInt _) (Int32.toInt_le _) (hd_pf rfl bf0.1 bf0.2 hd_p0))) hM ?_ ?_
  · intro r σ' hq
    cases r with
    | none => exact hq.elim
    | some v =>
      obtain ⟨p, hp, hM2, ks, hk, hv⟩ := hq
      simp only [List.mem_cons, List.not_mem_nil, or_false] at hp
      rcases hp with rfl
      · obtain rfl := hd_keys hk
        cases v with
        | none => exact hv.elim
        | some w9 =>
          obtain ⟨r, rfl, hP⟩ := hv
          obtain ⟨v0, e0, l0, u0⟩ := hP _ (List.mem_cons_self)
          have g0 : 1 * r.toInt + 0 = v0 := Option.some.inj e0
          exact ret0 r _ ⟨by rw [g0]; exact l0, by rw [g0]; exact u0⟩ hM2
  · intro u hu
    cases hu
theorem sg_ia2b_run (G : sx_G0 g L xs z9 hd_C ex_mt) (hct : ∀ (mi : Nat) (T2 : ex_T) (c' : sx_Ct), ex_mt mi = some T2 → c' ∈ k9 mi → c'.1 < 60 → sx_Holds g z9 hd_C T2 c') {σ : am_S} {lw : List (Nat × Value)} {post : Option (Option Value) → am_S → Prop} (hM : sx_M z9 hd_C σ 0 0 σ) (hl : (0, Value.ref 3) ∈ lw) {m1 : Int32} (hl1 : (1, Value.int m1) ∈ lw) {n0 : Int32} (bf0 : 0 ≤ 1 * m1.toInt + ((-1) * n0.toInt + 0) ∧ 1 * m1.toInt + ((-1) * n0.toInt + 0) ≤ 0) (ret0 : ∀ (r : Int32) (σ' : am_S), (1 ≤ 1 * r.toInt + 0 ∧ 1 * r.toInt + 0 ≤ 1) → sx_M z9 hd_C σ 0 0 σ' → post (some (some (.int r))) σ') : am_K g 6 tX6_isAt.1 0 0 19 lw [.int n0] σ post := by
  refine sg_seg (sw := [.int n0]) (vs := [m1.toInt]) (ws := [n0.toInt]) G (mi := 241) rfl hct sg_ia2b_ok ⟨⟨m1, hl1, rfl⟩, trivial⟩ (hd_refs hl) ⟨⟨n0, rfl, rfl⟩, trivial⟩ (hd_p1 rfl (Int32.le_toInt _) (Int32.toInt_le _) (hd_p1 rfl (Int32.le_toInt _) (Int32.toInt_le _) (hd_pf rfl bf0.1 bf0.2 hd_p0))) hM ?_ ?_
  · intro r σ' hq
    cases r with
    | none => exact hq.elim
    | some v =>
      obtain ⟨p, hp, hM2, ks, hk, hv⟩ := hq
      simp only [List.mem_cons, List.not_mem_nil, or_false] at hp
      rcases hp with rfl
      · obtain rfl := hd_keys hk
        cases v with
        | none => exact hv.elim
        | some w9 =>
          obtain ⟨r, rfl, hP⟩ := hv
          obtain ⟨v0, e0, l0, u0⟩ := hP _ (List.mem_cons_self)
          have g0 : 1 * r.toInt + 0 = v0 := Option.some.inj e0
          exact ret0 r _ ⟨by rw [g0]; exact l0, by rw [g0]; exact u0⟩ hM2
  · intro u hu
    cases hu
theorem sg_ia2c_run (G : sx_G0 g L xs z9 hd_C ex_mt) (hct : ∀ (mi : Nat) (T2 : ex_T) (c' : sx_Ct), ex_mt mi = some T2 → c' ∈ k9 mi → c'.1 < 60 → sx_Holds g z9 hd_C T2 c') {σ : am_S} {lw : List (Nat × Value)} {post : Option (Option Value) → am_S → Prop} (hM : sx_M z9 hd_C σ 0 0 σ) (hl : (0, Value.ref 3) ∈ lw) {m1 : Int32} (hl1 : (1, Value.int m1) ∈ lw) {n0 : Int32} (bf0 : (-4611686018427387904) ≤ 1 * m1.toInt + ((-1) * n0.toInt + 0) ∧ 1 * m1.toInt + ((-1) * n0.toInt + 0) ≤ (-1)) (ret0 : ∀ (r : Int32) (σ' : am_S), (0 ≤ 1 * r.toInt + 0 ∧ 1 * r.toInt + 0 ≤ 0) → sx_M z9 hd_C σ 0 0 σ' → post (some (some (.int r))) σ') : am_K g 6 tX6_isAt.1 0 0 19 lw [.int n0] σ post := by
  refine sg_seg (sw := [.int n0]) (vs := [m1.toInt]) (ws := [n0.toInt]) G (mi := 241) rfl hct sg_ia2c_ok ⟨⟨m1, hl1, rfl⟩, trivial⟩ (hd_refs hl) ⟨⟨n0, rfl, rfl⟩, trivial⟩ (hd_p1 rfl (Int32.le_toInt _) (Int32.toInt_le _) (hd_p1 rfl (Int32.le_toInt _) (Int32.toInt_le _) (hd_pf rfl bf0.1 bf0.2 hd_p0))) hM ?_ ?_
  · intro r σ' hq
    cases r with
    | none => exact hq.elim
    | some v =>
      obtain ⟨p, hp, hM2, ks, hk, hv⟩ := hq
      simp only [List.mem_cons, List.not_mem_nil, or_false] at hp
      rcases hp with rfl
      · obtain rfl := hd_keys hk
        cases v with
        | none => exact hv.elim
        | some w9 =>
          obtain ⟨r, rfl, hP⟩ := hv
          obtain ⟨v0, e0, l0, u0⟩ := hP _ (List.mem_cons_self)
          have g0 : 1 * r.toInt + 0 = v0 := Option.some.inj e0
          exact ret0 r _ ⟨by rw [g0]; exact l0, by rw [g0]; exact u0⟩ hM2
  · intro u hu
    cases hu
theorem sg_ts1_run (G : sx_G0 g L xs z9 hd_C ex_mt) (hct : ∀ (mi : Nat) (T2 : ex_T) (c' : sx_Ct), ex_mt mi = some T2 → c' ∈ k9 mi → c'.1 < 60 → sx_Holds g z9 hd_C T2 c') {σ : am_S} {lw : List (Nat × Value)} {post : Option (Option Value) → am_S → Prop} (hM : sx_M z9 hd_C σ 0 0 σ) (hl : (0, Value.ref 3) ∈ lw) {m1 : Int32} (hl1 : (1, Value.int m1) ∈ lw) (cuta : ∀ (lw' : List (Nat × Value)) (n0' : Int32) (σ' : am_S), (0, Value.ref 3) ∈ lw' → (0 ≤ 1 * m1.toInt + ((-1) * n0'.toInt + 0) ∧ 1 * m1.toInt + ((-1) * n0'.toInt + 0) ≤ 0) → sx_M z9 hd_C σ 0 0 σ' → am_K g 20 tX6_takesSign.1 0 0 2 lw' [.int n0', .ref 3] σ' post) : am_K g 20 tX6_takesSign.1 0 0 0 lw [] σ post := by
  refine sg_seg (sw := []) (vs := [m1.toInt]) (ws := []) G (mi := 251) rfl hct sg_ts1_ok ⟨⟨m1, hl1, rfl⟩, trivial⟩ (hd_refs hl) trivial (hd_p1 rfl (Int32.le_toInt _) (Int32.toInt_le _) hd_p0) hM ?_ ?_
  · intro r σ' hq
    cases r with
    | none => exact hq.elim
    | some v =>
      obtain ⟨p, hp, hM2, ks, hk, hv⟩ := hq
      cases hp
  · intro u hu
    simp only [List.mem_cons, List.not_mem_nil, or_false] at hu
    rcases hu with rfl
    · intro lw' sw' vs' ws' σ' ⟨h1_0, h2, h3_0, h4, h5⟩
      obtain rfl := hd_src0 h1_0
      obtain ⟨n0', sw1, ws1, rfl, rfl, h3_1⟩ := hd_sti h3_0
      obtain ⟨sw2, rfl, h3_2⟩ := hd_str h3_1
      obtain ⟨rfl, rfl⟩ := hd_st0 h3_2
      have hr9 := hd_ref0 h2
      obtain ⟨v0, e0, l0, u0⟩ := h4 _ (List.mem_cons_self)
      have g0 : 1 * m1.toInt + ((-1) * n0'.toInt + 0) = v0 := Option.some.inj e0
      exact cuta _ _ _ hr9  ⟨by rw [g0]; exact l0, by rw [g0]; exact u0⟩ h5
theorem sg_ts2a_run (G : sx_G0 g L xs z9 hd_C ex_mt) (hct : ∀ (mi : Nat) (T2 : ex_T) (c' : sx_Ct), ex_mt mi = some T2 → c' ∈ k9 mi → c'.1 < 60 → sx_Holds g z9 hd_C T2 c') {σ : am_S} {lw : List (Nat × Value)} {post : Option (Option Value) → am_S → Prop} (hM : sx_M z9 hd_C σ 0 0 σ) (hl : (0, Value.ref 3) ∈ lw) {n0 : Int32} (bk0 : 0 ≤ n0.toInt ∧ n0.toInt ≤ 0) (ret0 : ∀ (r : Int32) (σ' : am_S), (0 ≤ 1 * r.toInt + 0 ∧ 1 * r.toInt + 0 ≤ 0) → (1 ≤ 1 * (σ'.2.1 3 7).toInt + 0 ∧ 1 * (σ'.2.1 3 7).toInt + 0 ≤ 1) → (0 ≤ 1 * (σ.2.1 3 4).toInt + ((-1) * (σ'.2.1 3 8).toInt + 0) ∧ 1 * (σ.2.1 3 4).toInt + ((-1) * (σ'.2.1 3 8).toInt + 0) ≤ 0) → sx_M z9 hd_C σ 402653184 0 σ' → post (some (some (.int r))) σ') : am_K g 20 tX6_takesSign.1 0 0 5 lw [.int n0] σ post := by
  refine sg_seg (sw := [.int n0]) (vs := [(σ.2.1 3 4).toInt]) (ws := [n0.toInt]) G (mi := 251) rfl hct sg_ts2a_ok ⟨rfl, trivial⟩ (hd_refs hl) ⟨⟨n0, rfl, rfl⟩, trivial⟩ (hd_p1 rfl (hd_kd_3_4 hM).1 (hd_kd_3_4 hM).2 (hd_p1 rfl bk0.1 bk0.2 hd_p0)) hM ?_ ?_
  · intro r σ' hq
    cases r with
    | none => exact hq.elim
    | some v =>
      obtain ⟨p, hp, hM2, ks, hk, hv⟩ := hq
      simp only [List.mem_cons, List.not_mem_nil, or_false] at hp
      rcases hp with rfl
      · obtain ⟨ks0, rfl, hk1⟩ := hd_keyc hk; obtain ⟨ks1, rfl, hk2⟩ := hd_keyc hk1; obtain rfl := hd_keys hk2
        cases v with
        | none => exact hv.elim
        | some w9 =>
          obtain ⟨r, rfl, hP⟩ := hv
          obtain ⟨v0, e0, l0, u0⟩ := hP _ (List.mem_cons_self)
          have g0 : 1 * r.toInt + 0 = v0 := Option.some.inj e0
          obtain ⟨v1, e1, l1, u1⟩ := hP _ (List.mem_cons_of_mem _ (List.mem_cons_self))
          have g1 : 1 * (σ'.2.1 3 7).toInt + 0 = v1 := Option.some.inj e1
          obtain ⟨v2, e2, l2, u2⟩ := hP _ (List.mem_cons_of_mem _ (List.mem_cons_of_mem _ (List.mem_cons_self)))
          have g2 : 1 * (σ.2.1 3 4).toInt + ((-1) * (σ'.2.1 3 8).toInt + 0) = v2 := Option.some.inj e2
          exact ret0 r _ ⟨by rw [g0]; exact l0, by rw [g0]; exact u0⟩ ⟨by rw [g1]; exact l1, by rw [g1]; exact u1⟩ ⟨by rw [g2]; exact l2, by rw [g2]; exact u2⟩ hM2
  · intro u hu
    cases hu
theorem sg_ts2b_run (G : sx_G0 g L xs z9 hd_C ex_mt) (hct : ∀ (mi : Nat) (T2 : ex_T) (c' : sx_Ct), ex_mt mi = some T2 → c' ∈ k9 mi → c'.1 < 60 → sx_Holds g z9 hd_C T2 c') {σ : am_S} {lw : List (Nat × Value)} {post : Option (Option Value) → am_S → Prop} (hM : sx_M z9 hd_C σ 0 0 σ) (hl : (0, Value.ref 3) ∈ lw) {n0 : Int32} (bk0 : 1 ≤ n0.toInt ∧ n0.toInt ≤ 1) (cuta : ∀ (lw' : List (Nat × Value))  (σ' : am_S), (0, Value.ref 3) ∈ lw' → sx_M z9 hd_C σ 0 0 σ' → am_K g 20 tX6_takesSign.1 0 0 15 lw' [.ref 3] σ' post) : am_K g 20 tX6_takesSign.1 0 0 5 lw [.int n0] σ post := by
  refine sg_seg (sw := [.int n0]) (vs := []) (ws := [n0.toInt]) G (mi := 251) rfl hct sg_ts2b_ok trivial (hd_refs hl) ⟨⟨n0, rfl, rfl⟩, trivial⟩ (hd_p1 rfl bk0.1 bk0.2 hd_p0) hM ?_ ?_
  · intro r σ' hq
    cases r with
    | none => exact hq.elim
    | some v =>
      obtain ⟨p, hp, hM2, ks, hk, hv⟩ := hq
      cases hp
  · intro u hu
    simp only [List.mem_cons, List.not_mem_nil, or_false] at hu
    rcases hu with rfl
    · intro lw' sw' vs' ws' σ' ⟨h1_0, h2, h3_0, h4, h5⟩
      obtain rfl := hd_src0 h1_0
      obtain ⟨sw1, rfl, h3_1⟩ := hd_str h3_0
      obtain ⟨rfl, rfl⟩ := hd_st0 h3_1
      have hr9 := hd_ref0 h2
      exact cuta _  _ hr9   h5
theorem sg_ts3_run (G : sx_G0 g L xs z9 hd_C ex_mt) (hct : ∀ (mi : Nat) (T2 : ex_T) (c' : sx_Ct), ex_mt mi = some T2 → c' ∈ k9 mi → c'.1 < 60 → sx_Holds g z9 hd_C T2 c') {σ : am_S} {lw : List (Nat × Value)} {post : Option (Option Value) → am_S → Prop} (hM : sx_M z9 hd_C σ 0 0 σ) (hl : (0, Value.ref 3) ∈ lw)  (ret0 : ∀ (r : Int32) (σ' : am_S), (1 ≤ 1 * r.toInt + 0 ∧ 1 * r.toInt + 0 ≤ 1) → sx_M z9 hd_C σ 0 0 σ' → post (some (some (.int r))) σ') : am_K g 20 tX6_takesSign.1 0 0 18 lw [] σ post := by
  refine sg_seg (sw := []) (vs := []) (ws := []) G (mi := 251) rfl hct sg_ts3_ok trivial (hd_refs hl) trivial hd_p0 hM ?_ ?_
  · intro r σ' hq
    cases r with
    | none => exact hq.elim
    | some v =>
      obtain ⟨p, hp, hM2, ks, hk, hv⟩ := hq
      simp only [List.mem_cons, List.not_mem_nil, or_false] at hp
      rcases hp with rfl
      · obtain rfl := hd_keys hk
        cases v with
        | none => exact hv.elim
        | some w9 =>
          obtain ⟨r, rfl, hP⟩ := hv
          obtain ⟨v0, e0, l0, u0⟩ := hP _ (List.mem_cons_self)
          have g0 : 1 * r.toInt + 0 = v0 := Option.some.inj e0
          exact ret0 r _ ⟨by rw [g0]; exact l0, by rw [g0]; exact u0⟩ hM2
  · intro u hu
    cases hu
theorem sg_se1a_run (G : sx_G0 g L xs z9 hd_C ex_mt) (hct : ∀ (mi : Nat) (T2 : ex_T) (c' : sx_Ct), ex_mt mi = some T2 → c' ∈ k9 mi → c'.1 < 60 → sx_Holds g z9 hd_C T2 c') {σ : am_S} {lw : List (Nat × Value)} {post : Option (Option Value) → am_S → Prop} (hM : sx_M z9 hd_C σ 0 0 σ) (hl : (0, Value.ref 3) ∈ lw) {m1 : Int32} (hl1 : (1, Value.int m1) ∈ lw) {m2 : Int32} (hl2 : (2, Value.int m2) ∈ lw) (bp3_3 : (-2147483648) ≤ (σ.2.1 3 3).toInt ∧ (σ.2.1 3 3).toInt ≤ 2) (ret0 : ∀ (r : Int32) (σ' : am_S), (0 ≤ 1 * r.toInt + 0 ∧ 1 * r.toInt + 0 ≤ 0) → (1 ≤ 1 * (σ'.2.1 3 7).toInt + 0 ∧ 1 * (σ'.2.1 3 7).toInt + 0 ≤ 1) → (0 ≤ 1 * (σ.2.1 3 4).toInt + ((-1) * (σ'.2.1 3 8).toInt + 0) ∧ 1 * (σ.2.1 3 4).toInt + ((-1) * (σ'.2.1 3 8).toInt + 0) ≤ 0) → sx_M z9 hd_C σ 402653184 0 σ' → post (some (some (.int r))) σ') : am_K g 6 tX6_seesNumber.1 0 0 0 lw [] σ post := by
  refine sg_seg (sw := []) (vs := [m1.toInt, m2.toInt, (σ.2.1 3 3).toInt, (σ.2.1 3 4).toInt]) (ws := []) G (mi := 249) rfl hct sg_se1a_ok ⟨⟨m1, hl1, rfl⟩, ⟨⟨m2, hl2, rfl⟩, ⟨rfl, ⟨rfl, trivial⟩⟩⟩⟩ (hd_refs hl) trivial (hd_p1 rfl (Int32.le_toInt _) (Int32.toInt_le _) (hd_p1 rfl (Int32.le_toInt _) (Int32.toInt_le _) (hd_p1 rfl bp3_3.1 bp3_3.2 (hd_p1 rfl (hd_kd_3_4 hM).1 (hd_kd_3_4 hM).2 hd_p0)))) hM ?_ ?_
  · intro r σ' hq
    cases r with
    | none => exact hq.elim
    | some v =>
      obtain ⟨p, hp, hM2, ks, hk, hv⟩ := hq
      simp only [List.mem_cons, List.not_mem_nil, or_false] at hp
      rcases hp with rfl
      · obtain ⟨ks0, rfl, hk1⟩ := hd_keyc hk; obtain ⟨ks1, rfl, hk2⟩ := hd_keyc hk1; obtain rfl := hd_keys hk2
        cases v with
        | none => exact hv.elim
        | some w9 =>
          obtain ⟨r, rfl, hP⟩ := hv
          obtain ⟨v0, e0, l0, u0⟩ := hP _ (List.mem_cons_self)
          have g0 : 1 * r.toInt + 0 = v0 := Option.some.inj e0
          obtain ⟨v1, e1, l1, u1⟩ := hP _ (List.mem_cons_of_mem _ (List.mem_cons_self))
          have g1 : 1 * (σ'.2.1 3 7).toInt + 0 = v1 := Option.some.inj e1
          obtain ⟨v2, e2, l2, u2⟩ := hP _ (List.mem_cons_of_mem _ (List.mem_cons_of_mem _ (List.mem_cons_self)))
          have g2 : 1 * (σ.2.1 3 4).toInt + ((-1) * (σ'.2.1 3 8).toInt + 0) = v2 := Option.some.inj e2
          exact ret0 r _ ⟨by rw [g0]; exact l0, by rw [g0]; exact u0⟩ ⟨by rw [g1]; exact l1, by rw [g1]; exact u1⟩ ⟨by rw [g2]; exact l2, by rw [g2]; exact u2⟩ hM2
  · intro u hu
    cases hu
theorem sg_se1b_run (G : sx_G0 g L xs z9 hd_C ex_mt) (hct : ∀ (mi : Nat) (T2 : ex_T) (c' : sx_Ct), ex_mt mi = some T2 → c' ∈ k9 mi → c'.1 < 60 → sx_Holds g z9 hd_C T2 c') {σ : am_S} {lw : List (Nat × Value)} {post : Option (Option Value) → am_S → Prop} (hM : sx_M z9 hd_C σ 0 0 σ) (hl : (0, Value.ref 3) ∈ lw) {m1 : Int32} (hl1 : (1, Value.int m1) ∈ lw) {m2 : Int32} (hl2 : (2, Value.int m2) ∈ lw) (bp3_3 : 4 ≤ (σ.2.1 3 3).toInt ∧ (σ.2.1 3 3).toInt ≤ 2147483647) (ret0 : ∀ (r : Int32) (σ' : am_S), (0 ≤ 1 * r.toInt + 0 ∧ 1 * r.toInt + 0 ≤ 0) → (1 ≤ 1 * (σ'.2.1 3 7).toInt + 0 ∧ 1 * (σ'.2.1 3 7).toInt + 0 ≤ 1) → (0 ≤ 1 * (σ.2.1 3 4).toInt + ((-1) * (σ'.2.1 3 8).toInt + 0) ∧ 1 * (σ.2.1 3 4).toInt + ((-1) * (σ'.2.1 3 8).toInt + 0) ≤ 0) → sx_M z9 hd_C σ 402653184 0 σ' → post (some (some (.int r))) σ') : am_K g 6 tX6_seesNumber.1 0 0 0 lw [] σ post := by
  refine sg_seg (sw := []) (vs := [m1.toInt, m2.toInt, (σ.2.1 3 3).toInt, (σ.2.1 3 4).toInt]) (ws := []) G (mi := 249) rfl hct sg_se1b_ok ⟨⟨m1, hl1, rfl⟩, ⟨⟨m2, hl2, rfl⟩, ⟨rfl, ⟨rfl, trivial⟩⟩⟩⟩ (hd_refs hl) trivial (hd_p1 rfl (Int32.le_toInt _) (Int32.toInt_le _) (hd_p1 rfl (Int32.le_toInt _) (Int32.toInt_le _) (hd_p1 rfl bp3_3.1 bp3_3.2 (hd_p1 rfl (hd_kd_3_4 hM).1 (hd_kd_3_4 hM).2 hd_p0)))) hM ?_ ?_
  · intro r σ' hq
    cases r with
    | none => exact hq.elim
    | some v =>
      obtain ⟨p, hp, hM2, ks, hk, hv⟩ := hq
      simp only [List.mem_cons, List.not_mem_nil, or_false] at hp
      rcases hp with rfl
      · obtain ⟨ks0, rfl, hk1⟩ := hd_keyc hk; obtain ⟨ks1, rfl, hk2⟩ := hd_keyc hk1; obtain rfl := hd_keys hk2
        cases v with
        | none => exact hv.elim
        | some w9 =>
          obtain ⟨r, rfl, hP⟩ := hv
          obtain ⟨v0, e0, l0, u0⟩ := hP _ (List.mem_cons_self)
          have g0 : 1 * r.toInt + 0 = v0 := Option.some.inj e0
          obtain ⟨v1, e1, l1, u1⟩ := hP _ (List.mem_cons_of_mem _ (List.mem_cons_self))
          have g1 : 1 * (σ'.2.1 3 7).toInt + 0 = v1 := Option.some.inj e1
          obtain ⟨v2, e2, l2, u2⟩ := hP _ (List.mem_cons_of_mem _ (List.mem_cons_of_mem _ (List.mem_cons_self)))
          have g2 : 1 * (σ.2.1 3 4).toInt + ((-1) * (σ'.2.1 3 8).toInt + 0) = v2 := Option.some.inj e2
          exact ret0 r _ ⟨by rw [g0]; exact l0, by rw [g0]; exact u0⟩ ⟨by rw [g1]; exact l1, by rw [g1]; exact u1⟩ ⟨by rw [g2]; exact l2, by rw [g2]; exact u2⟩ hM2
  · intro u hu
    cases hu
theorem sg_se1c_run (G : sx_G0 g L xs z9 hd_C ex_mt) (hct : ∀ (mi : Nat) (T2 : ex_T) (c' : sx_Ct), ex_mt mi = some T2 → c' ∈ k9 mi → c'.1 < 60 → sx_Holds g z9 hd_C T2 c') {σ : am_S} {lw : List (Nat × Value)} {post : Option (Option Value) → am_S → Prop} (hM : sx_M z9 hd_C σ 0 0 σ) (hl : (0, Value.ref 3) ∈ lw) {m1 : Int32} (hl1 : (1, Value.int m1) ∈ lw) {m2 : Int32} (hl2 : (2, Value.int m2) ∈ lw) (bp3_3 : 3 ≤ (σ.2.1 3 3).toInt ∧ (σ.2.1 3 3).toInt ≤ 3) (ret0 : ∀ (r : Int32) (σ' : am_S), (1 ≤ 1 * r.toInt + 0 ∧ 1 * r.toInt + 0 ≤ 1) → ((-4611686018427387904) ≤ 1 * m1.toInt + ((-1) * (σ.2.1 3 6).toInt + 0) ∧ 1 * m1.toInt + ((-1) * (σ.2.1 3 6).toInt + 0) ≤ 0) → (0 ≤ 1 * m2.toInt + ((-1) * (σ.2.1 3 6).toInt + 0) ∧ 1 * m2.toInt + ((-1) * (σ.2.1 3 6).toInt + 0) ≤ 4611686018427387904) → sx_M z9 hd_C σ 0 0 σ' → post (some (some (.int r))) σ') (ret1 : ∀ (r : Int32) (σ' : am_S), (0 ≤ 1 * r.toInt + 0 ∧ 1 * r.toInt + 0 ≤ 0) → (2 ≤ 1 * (σ'.2.1 3 7).toInt + 0 ∧ 1 * (σ'.2.1 3 7).toInt + 0 ≤ 2) → (0 ≤ 1 * (σ.2.1 3 4).toInt + ((-1) * (σ'.2.1 3 8).toInt + 0) ∧ 1 * (σ.2.1 3 4).toInt + ((-1) * (σ'.2.1 3 8).toInt + 0) ≤ 0) → (1 ≤ 1 * m1.toInt + ((-1) * (σ.2.1 3 6).toInt + 0) ∧ 1 * m1.toInt + ((-1) * (σ.2.1 3 6).toInt + 0) ≤ 4611686018427387904) → sx_M z9 hd_C σ 402653184 0 σ' → post (some (some (.int r))) σ') (ret2 : ∀ (r : Int32) (σ' : am_S), (0 ≤ 1 * r.toInt + 0 ∧ 1 * r.toInt + 0 ≤ 0) → (2 ≤ 1 * (σ'.2.1 3 7).toInt + 0 ∧ 1 * (σ'.2.1 3 7).toInt + 0 ≤ 2) → (0 ≤ 1 * (σ.2.1 3 4).toInt + ((-1) * (σ'.2.1 3 8).toInt + 0) ∧ 1 * (σ.2.1 3 4).toInt + ((-1) * (σ'.2.1 3 8).toInt + 0) ≤ 0) → ((-4611686018427387904) ≤ 1 * m2.toInt + ((-1) * (σ.2.1 3 6).toInt + 0) ∧ 1 * m2.toInt + ((-1) * (σ.2.1 3 6).toInt + 0) ≤ (-1)) → sx_M z9 hd_C σ 402653184 0 σ' → post (some (some (.int r))) σ') : am_K g 6 tX6_seesNumber.1 0 0 0 lw [] σ post := by
  refine sg_seg (sw := []) (vs := [m1.toInt, m2.toInt, (σ.2.1 3 3).toInt, (σ.2.1 3 6).toInt, (σ.2.1 3 4).toInt]) (ws := []) G (mi := 249) rfl hct sg_se1c_ok ⟨⟨m1, hl1, rfl⟩, ⟨⟨m2, hl2, rfl⟩, ⟨rfl, ⟨rfl, ⟨rfl, trivial⟩⟩⟩⟩⟩ (hd_refs hl) trivial (hd_p1 rfl (Int32.le_toInt _) (Int32.toInt_le _) (hd_p1 rfl (Int32.le_toInt _) (Int32.toInt_le _) (hd_p1 rfl bp3_3.1 bp3_3.2 (hd_p1 rfl (hd_kd_3_6 hM).1 (hd_kd_3_6 hM).2 (hd_p1 rfl (hd_kd_3_4 hM).1 (hd_kd_3_4 hM).2 hd_p0))))) hM ?_ ?_
  · intro r σ' hq
    cases r with
    | none => exact hq.elim
    | some v =>
      obtain ⟨p, hp, hM2, ks, hk, hv⟩ := hq
      simp only [List.mem_cons, List.not_mem_nil, or_false] at hp
      rcases hp with rfl | rfl | rfl
      · obtain rfl := hd_keys hk
        cases v with
        | none => exact hv.elim
        | some w9 =>
          obtain ⟨r, rfl, hP⟩ := hv
          obtain ⟨v0, e0, l0, u0⟩ := hP _ (List.mem_cons_self)
          have g0 : 1 * r.toInt + 0 = v0 := Option.some.inj e0
          obtain ⟨v1, e1, l1, u1⟩ := hP _ (List.mem_cons_of_mem _ (List.mem_cons_self))
          have g1 : 1 * m1.toInt + ((-1) * (σ.2.1 3 6).toInt + 0) = v1 := Option.some.inj e1
          obtain ⟨v2, e2, l2, u2⟩ := hP _ (List.mem_cons_of_mem _ (List.mem_cons_of_mem _ (List.mem_cons_self)))
          have g2 : 1 * m2.toInt + ((-1) * (σ.2.1 3 6).toInt + 0) = v2 := Option.some.inj e2
          exact ret0 r _ ⟨by rw [g0]; exact l0, by rw [g0]; exact u0⟩ ⟨by rw [g1]; exact l1, by rw [g1]; exact u1⟩ ⟨by rw [g2]; exact l2, by rw [g2]; exact u2⟩ hM2
      · obtain ⟨ks0, rfl, hk1⟩ := hd_keyc hk; obtain ⟨ks1, rfl, hk2⟩ := hd_keyc hk1; obtain rfl := hd_keys hk2
        cases v with
        | none => exact hv.elim
        | some w9 =>
          obtain ⟨r, rfl, hP⟩ := hv
          obtain ⟨v0, e0, l0, u0⟩ := hP _ (List.mem_cons_self)
          have g0 : 1 * r.toInt + 0 = v0 := Option.some.inj e0
          obtain ⟨v1, e1, l1, u1⟩ := hP _ (List.mem_cons_of_mem _ (List.mem_cons_self))
          have g1 : 1 * (σ'.2.1 3 7).toInt + 0 = v1 := Option.some.inj e1
          obtain ⟨v2, e2, l2, u2⟩ := hP _ (List.mem_cons_of_mem _ (List.mem_cons_of_mem _ (List.mem_cons_self)))
          have g2 : 1 * (σ.2.1 3 4).toInt + ((-1) * (σ'.2.1 3 8).toInt + 0) = v2 := Option.some.inj e2
          obtain ⟨v3, e3, l3, u3⟩ := hP _ (List.mem_cons_of_mem _ (List.mem_cons_of_mem _ (List.mem_cons_of_mem _ (List.mem_cons_self))))
          have g3 : 1 * m1.toInt + ((-1) * (σ.2.1 3 6).toInt + 0) = v3 := Option.some.inj e3
          exact ret1 r _ ⟨by rw [g0]; exact l0, by rw [g0]; exact u0⟩ ⟨by rw [g1]; exact l1, by rw [g1]; exact u1⟩ ⟨by rw [g2]; exact l2, by rw [g2]; exact u2⟩ ⟨by rw [g3]; exact l3, by rw [g3]; exact u3⟩ hM2
      · obtain ⟨ks0, rfl, hk1⟩ := hd_keyc hk; obtain ⟨ks1, rfl, hk2⟩ := hd_keyc hk1; obtain rfl := hd_keys hk2
        cases v with
        | none => exact hv.elim
        | some w9 =>
          obtain ⟨r, rfl, hP⟩ := hv
          obtain ⟨v0, e0, l0, u0⟩ := hP _ (List.mem_cons_self)
          have g0 : 1 * r.toInt + 0 = v0 := Option.some.inj e0
          obtain ⟨v1, e1, l1, u1⟩ := hP _ (List.mem_cons_of_mem _ (List.mem_cons_self))
          have g1 : 1 * (σ'.2.1 3 7).toInt + 0 = v1 := Option.some.inj e1
          obtain ⟨v2, e2, l2, u2⟩ := hP _ (List.mem_cons_of_mem _ (List.mem_cons_of_mem _ (List.mem_cons_self)))
          have g2 : 1 * (σ.2.1 3 4).toInt + ((-1) * (σ'.2.1 3 8).toInt + 0) = v2 := Option.some.inj e2
          obtain ⟨v3, e3, l3, u3⟩ := hP _ (List.mem_cons_of_mem _ (List.mem_cons_of_mem _ (List.mem_cons_of_mem _ (List.mem_cons_self))))
          have g3 : 1 * m2.toInt + ((-1) * (σ.2.1 3 6).toInt + 0) = v3 := Option.some.inj e3
          exact ret2 r _ ⟨by rw [g0]; exact l0, by rw [g0]; exact u0⟩ ⟨by rw [g1]; exact l1, by rw [g1]; exact u1⟩ ⟨by rw [g2]; exact l2, by rw [g2]; exact u2⟩ ⟨by rw [g3]; exact l3, by rw [g3]; exact u3⟩ hM2
  · intro u hu
    cases hu
theorem sg_ri1_13_run (G : sx_G0 g L xs z9 hd_C ex_mt) (hct : ∀ (mi : Nat) (T2 : ex_T) (c' : sx_Ct), ex_mt mi = some T2 → c' ∈ k9 mi → c'.1 < 60 → sx_Holds g z9 hd_C T2 c') {σ : am_S} {lw : List (Nat × Value)} {post : Option (Option Value) → am_S → Prop} (hM : sx_M z9 hd_C σ 0 0 σ) (hl : (0, Value.ref 13) ∈ lw) (hlr2 : (2, Value.ref 3) ∈ lw) {m1 : Int32} (hl1 : (1, Value.int m1) ∈ lw) {m3 : Int32} (hl3 : (3, Value.int m3) ∈ lw) {m4 : Int32} (hl4 : (4, Value.int m4) ∈ lw) (cuta : ∀ (lw' : List (Nat × Value)) (m1' : Int32) (n0' : Int32) (n1' : Int32) (σ' : am_S), (0, Value.ref 13) ∈ lw' → (2, Value.ref 3) ∈ lw' → (1, Value.int m1') ∈ lw' → (0 ≤ 1 * m4.toInt + ((-1) * n0'.toInt + 0) ∧ 1 * m4.toInt + ((-1) * n0'.toInt + 0) ≤ 0) → (0 ≤ 1 * m3.toInt + ((-1) * n1'.toInt + 0) ∧ 1 * m3.toInt + ((-1) * n1'.toInt + 0) ≤ 0) → (0 ≤ 1 * m1.toInt + ((-1) * m1'.toInt + 0) ∧ 1 * m1.toInt + ((-1) * m1'.toInt + 0) ≤ 0) → sx_M z9 hd_C σ 0 0 σ' → am_K g 25 tX9_readInto.1 0 0 4 lw' [.int n0', .int n1', .ref 3] σ' post) : am_K g 25 tX9_readInto.1 0 0 0 lw [] σ post := by
  refine sg_seg (sw := []) (vs := [m1.toInt, m3.toInt, m4.toInt]) (ws := []) G (mi := 301) rfl hct sg_ri1_13_ok ⟨⟨m1, hl1, rfl⟩, ⟨⟨m3, hl3, rfl⟩, ⟨⟨m4, hl4, rfl⟩, trivial⟩⟩⟩ (hd_rfc hl (hd_rfc hlr2 hd_rfn)) trivial (hd_p1 rfl (Int32.le_toInt _) (Int32.toInt_le _) (hd_p1 rfl (Int32.le_toInt _) (Int32.toInt_le _) (hd_p1 rfl (Int32.le_toInt _) (Int32.toInt_le _) hd_p0))) hM ?_ ?_
  · intro r σ' hq
    cases r with
    | none => exact hq.elim
    | some v =>
      obtain ⟨p, hp, hM2, ks, hk, hv⟩ := hq
      cases hp
  · intro u hu
    simp only [List.mem_cons, List.not_mem_nil, or_false] at hu
    rcases hu with rfl
    · intro lw' sw' vs' ws' σ' ⟨h1_0, h2, h3_0, h4, h5⟩
      obtain ⟨m1', vs1, rfl, hm1, h1_1⟩ := hd_srcl h1_0
      obtain rfl := hd_src0 h1_1
      obtain ⟨n0', sw1, ws1, rfl, rfl, h3_1⟩ := hd_sti h3_0
      obtain ⟨n1', sw2, ws2, rfl, rfl, h3_2⟩ := hd_sti h3_1
      obtain ⟨sw3, rfl, h3_3⟩ := hd_str h3_2
      obtain ⟨rfl, rfl⟩ := hd_st0 h3_3
      have hr9_0 := hd_rfh h2
      have hr9_2 := hd_rfh (hd_rfT h2)
      obtain ⟨v0, e0, l0, u0⟩ := h4 _ (List.mem_cons_self)
      have g0 : 1 * m4.toInt + ((-1) * n0'.toInt + 0) = v0 := Option.some.inj e0
      obtain ⟨v1, e1, l1, u1⟩ := h4 _ (List.mem_cons_of_mem _ (List.mem_cons_self))
      have g1 : 1 * m3.toInt + ((-1) * n1'.toInt + 0) = v1 := Option.some.inj e1
      obtain ⟨v2, e2, l2, u2⟩ := h4 _ (List.mem_cons_of_mem _ (List.mem_cons_of_mem _ (List.mem_cons_self)))
      have g2 : 1 * m1.toInt + ((-1) * m1'.toInt + 0) = v2 := Option.some.inj e2
      exact cuta _ _ _ _ _ hr9_0 hr9_2 hm1 ⟨by rw [g0]; exact l0, by rw [g0]; exact u0⟩ ⟨by rw [g1]; exact l1, by rw [g1]; exact u1⟩ ⟨by rw [g2]; exact l2, by rw [g2]; exact u2⟩ h5
theorem sg_ri2a_13_run (G : sx_G0 g L xs z9 hd_C ex_mt) (hct : ∀ (mi : Nat) (T2 : ex_T) (c' : sx_Ct), ex_mt mi = some T2 → c' ∈ k9 mi → c'.1 < 60 → sx_Holds g z9 hd_C T2 c') {σ : am_S} {lw : List (Nat × Value)} {post : Option (Option Value) → am_S → Prop} (hM : sx_M z9 hd_C σ 0 0 σ) (hl : (0, Value.ref 13) ∈ lw) (hlr2 : (2, Value.ref 3) ∈ lw) {n0 : Int32} (bk0 : 0 ≤ n0.toInt ∧ n0.toInt ≤ 0) (ret0 : ∀ (r : Int32) (σ' : am_S), (0 ≤ 1 * r.toInt + 0 ∧ 1 * r.toInt + 0 ≤ 0) → sx_M z9 hd_C σ 0 0 σ' → post (some (some (.int r))) σ') : am_K g 25 tX9_readInto.1 0 0 7 lw [.int n0] σ post := by
  refine sg_seg (sw := [.int n0]) (vs := []) (ws := [n0.toInt]) G (mi := 301) rfl hct sg_ri2a_13_ok trivial (hd_rfc hl (hd_rfc hlr2 hd_rfn)) ⟨⟨n0, rfl, rfl⟩, trivial⟩ (hd_p1 rfl bk0.1 bk0.2 hd_p0) hM ?_ ?_
  · intro r σ' hq
    cases r with
    | none => exact hq.elim
    | some v =>
      obtain ⟨p, hp, hM2, ks, hk, hv⟩ := hq
      simp only [List.mem_cons, List.not_mem_nil, or_false] at hp
      rcases hp with rfl
      · obtain rfl := hd_keys hk
        cases v with
        | none => exact hv.elim
        | some w9 =>
          obtain ⟨r, rfl, hP⟩ := hv
          obtain ⟨v0, e0, l0, u0⟩ := hP _ (List.mem_cons_self)
          have g0 : 1 * r.toInt + 0 = v0 := Option.some.inj e0
          exact ret0 r _ ⟨by rw [g0]; exact l0, by rw [g0]; exact u0⟩ hM2
  · intro u hu
    cases hu
theorem sg_ri2b_13_run (G : sx_G0 g L xs z9 hd_C ex_mt) (hct : ∀ (mi : Nat) (T2 : ex_T) (c' : sx_Ct), ex_mt mi = some T2 → c' ∈ k9 mi → c'.1 < 60 → sx_Holds g z9 hd_C T2 c') {σ : am_S} {lw : List (Nat × Value)} {post : Option (Option Value) → am_S → Prop} (hM : sx_M z9 hd_C σ 0 0 σ) (hl : (0, Value.ref 13) ∈ lw) (hlr2 : (2, Value.ref 3) ∈ lw) {m1 : Int32} (hl1 : (1, Value.int m1) ∈ lw) {n0 : Int32} (bk0 : 1 ≤ n0.toInt ∧ n0.toInt ≤ 1) (cuta : ∀ (lw' : List (Nat × Value)) (n0' : Int32) (n1' : Int32) (σ' : am_S), (0, Value.ref 13) ∈ lw' → (2, Value.ref 3) ∈ lw' → (0 ≤ 1 * (σ.2.1 3 6).toInt + ((-1) * n0'.toInt + 0) ∧ 1 * (σ.2.1 3 6).toInt + ((-1) * n0'.toInt + 0) ≤ 0) → (0 ≤ 1 * m1.toInt + ((-1) * n1'.toInt + 0) ∧ 1 * m1.toInt + ((-1) * n1'.toInt + 0) ≤ 0) → sx_M z9 hd_C σ 0 0 σ' → am_K g 25 tX9_readInto.1 0 0 18 lw' [.int n0', .int n1', .ref 13] σ' post) : am_K g 25 tX9_readInto.1 0 0 7 lw [.int n0] σ post := by
  refine sg_seg (sw := [.int n0]) (vs := [m1.toInt, (σ.2.1 3 6).toInt]) (ws := [n0.toInt]) G (mi := 301) rfl hct sg_ri2b_13_ok ⟨⟨m1, hl1, rfl⟩, ⟨rfl, trivial⟩⟩ (hd_rfc hl (hd_rfc hlr2 hd_rfn)) ⟨⟨n0, rfl, rfl⟩, trivial⟩ (hd_p1 rfl (Int32.le_toInt _) (Int32.toInt_le _) (hd_p1 rfl (hd_kd_3_6 hM).1 (hd_kd_3_6 hM).2 (hd_p1 rfl bk0.1 bk0.2 hd_p0))) hM ?_ ?_
  · intro r σ' hq
    cases r with
    | none => exact hq.elim
    | some v =>
      obtain ⟨p, hp, hM2, ks, hk, hv⟩ := hq
      cases hp
  · intro u hu
    simp only [List.mem_cons, List.not_mem_nil, or_false] at hu
    rcases hu with rfl
    · intro lw' sw' vs' ws' σ' ⟨h1_0, h2, h3_0, h4, h5⟩
      obtain rfl := hd_src0 h1_0
      obtain ⟨n0', sw1, ws1, rfl, rfl, h3_1⟩ := hd_sti h3_0
      obtain ⟨n1', sw2, ws2, rfl, rfl, h3_2⟩ := hd_sti h3_1
      obtain ⟨sw3, rfl, h3_3⟩ := hd_str h3_2
      obtain ⟨rfl, rfl⟩ := hd_st0 h3_3
      have hr9_0 := hd_rfh h2
      have hr9_2 := hd_rfh (hd_rfT h2)
      obtain ⟨v0, e0, l0, u0⟩ := h4 _ (List.mem_cons_self)
      have g0 : 1 * (σ.2.1 3 6).toInt + ((-1) * n0'.toInt + 0) = v0 := Option.some.inj e0
      obtain ⟨v1, e1, l1, u1⟩ := h4 _ (List.mem_cons_of_mem _ (List.mem_cons_self))
      have g1 : 1 * m1.toInt + ((-1) * n1'.toInt + 0) = v1 := Option.some.inj e1
      exact cuta _ _ _ _ hr9_0 hr9_2  ⟨by rw [g0]; exact l0, by rw [g0]; exact u0⟩ ⟨by rw [g1]; exact l1, by rw [g1]; exact u1⟩ h5
theorem sg_ri3_13_run (G : sx_G0 g L xs z9 hd_C ex_mt) (hct : ∀ (mi : Nat) (T2 : ex_T) (c' : sx_Ct), ex_mt mi = some T2 → c' ∈ k9 mi → c'.1 < 60 → sx_Holds g z9 hd_C T2 c') {σ : am_S} {lw : List (Nat × Value)} {post : Option (Option Value) → am_S → Prop} (hM : sx_M z9 hd_C σ 0 0 σ) (hl : (0, Value.ref 13) ∈ lw) (hlr2 : (2, Value.ref 3) ∈ lw)  (cuta : ∀ (lw' : List (Nat × Value))  (σ' : am_S), (0, Value.ref 13) ∈ lw' → (2, Value.ref 3) ∈ lw' → sx_M z9 hd_C σ 0 0 σ' → am_K g 25 tX9_readInto.1 0 0 22 lw' [.ref 3] σ' post) : am_K g 25 tX9_readInto.1 0 0 21 lw [] σ post := by
  refine sg_seg (sw := []) (vs := []) (ws := []) G (mi := 301) rfl hct sg_ri3_13_ok trivial (hd_rfc hl (hd_rfc hlr2 hd_rfn)) trivial hd_p0 hM ?_ ?_
  · intro r σ' hq
    cases r with
    | none => exact hq.elim
    | some v =>
      obtain ⟨p, hp, hM2, ks, hk, hv⟩ := hq
      cases hp
  · intro u hu
    simp only [List.mem_cons, List.not_mem_nil, or_false] at hu
    rcases hu with rfl
    · intro lw' sw' vs' ws' σ' ⟨h1_0, h2, h3_0, h4, h5⟩
      obtain rfl := hd_src0 h1_0
      obtain ⟨sw1, rfl, h3_1⟩ := hd_str h3_0
      obtain ⟨rfl, rfl⟩ := hd_st0 h3_1
      have hr9_0 := hd_rfh h2
      have hr9_2 := hd_rfh (hd_rfT h2)
      exact cuta _  _ hr9_0 hr9_2   h5
theorem sg_ri4_13_run (G : sx_G0 g L xs z9 hd_C ex_mt) (hct : ∀ (mi : Nat) (T2 : ex_T) (c' : sx_Ct), ex_mt mi = some T2 → c' ∈ k9 mi → c'.1 < 60 → sx_Holds g z9 hd_C T2 c') {σ : am_S} {lw : List (Nat × Value)} {post : Option (Option Value) → am_S → Prop} (hM : sx_M z9 hd_C σ 0 0 σ) (hl : (0, Value.ref 13) ∈ lw) (hlr2 : (2, Value.ref 3) ∈ lw)  (ret0 : ∀ (r : Int32) (σ' : am_S), (1 ≤ 1 * r.toInt + 0 ∧ 1 * r.toInt + 0 ≤ 1) → sx_M z9 hd_C σ 0 0 σ' → post (some (some (.int r))) σ') : am_K g 25 tX9_readInto.1 0 0 25 lw [] σ post := by
  refine sg_seg (sw := []) (vs := []) (ws := []) G (mi := 301) rfl hct sg_ri4_13_ok trivial (hd_rfc hl (hd_rfc hlr2 hd_rfn)) trivial hd_p0 hM ?_ ?_
  · intro r σ' hq
    cases r with
    | none => exact hq.elim
    | some v =>
      obtain ⟨p, hp, hM2, ks, hk, hv⟩ := hq
      simp only [List.mem_cons, List.not_mem_nil, or_false] at hp
      rcases hp with rfl
      · obtain rfl := hd_keys hk
        cases v with
        | none => exact hv.elim
        | some w9 =>
          obtain ⟨r, rfl, hP⟩ := hv
          obtain ⟨v0, e0, l0, u0⟩ := hP _ (List.mem_cons_self)
          have g0 : 1 * r.toInt + 0 = v0 := Option.some.inj e0
          exact ret0 r _ ⟨by rw [g0]; exact l0, by rw [g0]; exact u0⟩ hM2
  · intro u hu
    cases hu
theorem sg_ri1_14_run (G : sx_G0 g L xs z9 hd_C ex_mt) (hct : ∀ (mi : Nat) (T2 : ex_T) (c' : sx_Ct), ex_mt mi = some T2 → c' ∈ k9 mi → c'.1 < 60 → sx_Holds g z9 hd_C T2 c') {σ : am_S} {lw : List (Nat × Value)} {post : Option (Option Value) → am_S → Prop} (hM : sx_M z9 hd_C σ 0 0 σ) (hl : (0, Value.ref 14) ∈ lw) (hlr2 : (2, Value.ref 3) ∈ lw) {m1 : Int32} (hl1 : (1, Value.int m1) ∈ lw) {m3 : Int32} (hl3 : (3, Value.int m3) ∈ lw) {m4 : Int32} (hl4 : (4, Value.int m4) ∈ lw) (cuta : ∀ (lw' : List (Nat × Value)) (m1' : Int32) (n0' : Int32) (n1' : Int32) (σ' : am_S), (0, Value.ref 14) ∈ lw' → (2, Value.ref 3) ∈ lw' → (1, Value.int m1') ∈ lw' → (0 ≤ 1 * m4.toInt + ((-1) * n0'.toInt + 0) ∧ 1 * m4.toInt + ((-1) * n0'.toInt + 0) ≤ 0) → (0 ≤ 1 * m3.toInt + ((-1) * n1'.toInt + 0) ∧ 1 * m3.toInt + ((-1) * n1'.toInt + 0) ≤ 0) → (0 ≤ 1 * m1.toInt + ((-1) * m1'.toInt + 0) ∧ 1 * m1.toInt + ((-1) * m1'.toInt + 0) ≤ 0) → sx_M z9 hd_C σ 0 0 σ' → am_K g 25 tX9_readInto.1 0 0 4 lw' [.int n0', .int n1', .ref 3] σ' post) : am_K g 25 tX9_readInto.1 0 0 0 lw [] σ post := by
  refine sg_seg (sw := []) (vs := [m1.toInt, m3.toInt, m4.toInt]) (ws := []) G (mi := 301) rfl hct sg_ri1_14_ok ⟨⟨m1, hl1, rfl⟩, ⟨⟨m3, hl3, rfl⟩, ⟨⟨m4, hl4, rfl⟩, trivial⟩⟩⟩ (hd_rfc hl (hd_rfc hlr2 hd_rfn)) trivial (hd_p1 rfl (Int32.le_toInt _) (Int32.toInt_le _) (hd_p1 rfl (Int32.le_toInt _) (Int32.toInt_le _) (hd_p1 rfl (Int32.le_toInt _) (Int32.toInt_le _) hd_p0))) hM ?_ ?_
  · intro r σ' hq
    cases r with
    | none => exact hq.elim
    | some v =>
      obtain ⟨p, hp, hM2, ks, hk, hv⟩ := hq
      cases hp
  · intro u hu
    simp only [List.mem_cons, List.not_mem_nil, or_false] at hu
    rcases hu with rfl
    · intro lw' sw' vs' ws' σ' ⟨h1_0, h2, h3_0, h4, h5⟩
      obtain ⟨m1', vs1, rfl, hm1, h1_1⟩ := hd_srcl h1_0
      obtain rfl := hd_src0 h1_1
      obtain ⟨n0', sw1, ws1, rfl, rfl, h3_1⟩ := hd_sti h3_0
      obtain ⟨n1', sw2, ws2, rfl, rfl, h3_2⟩ := hd_sti h3_1
      obtain ⟨sw3, rfl, h3_3⟩ := hd_str h3_2
      obtain ⟨rfl, rfl⟩ := hd_st0 h3_3
      have hr9_0 := hd_rfh h2
      have hr9_2 := hd_rfh (hd_rfT h2)
      obtain ⟨v0, e0, l0, u0⟩ := h4 _ (List.mem_cons_self)
      have g0 : 1 * m4.toInt + ((-1) * n0'.toInt + 0) = v0 := Option.some.inj e0
      obtain ⟨v1, e1, l1, u1⟩ := h4 _ (List.mem_cons_of_mem _ (List.mem_cons_self))
      have g1 : 1 * m3.toInt + ((-1) * n1'.toInt + 0) = v1 := Option.some.inj e1
      obtain ⟨v2, e2, l2, u2⟩ := h4 _ (List.mem_cons_of_mem _ (List.mem_cons_of_mem _ (List.mem_cons_self)))
      have g2 : 1 * m1.toInt + ((-1) * m1'.toInt + 0) = v2 := Option.some.inj e2
      exact cuta _ _ _ _ _ hr9_0 hr9_2 hm1 ⟨by rw [g0]; exact l0, by rw [g0]; exact u0⟩ ⟨by rw [g1]; exact l1, by rw [g1]; exact u1⟩ ⟨by rw [g2]; exact l2, by rw [g2]; exact u2⟩ h5
theorem sg_ri2a_14_run (G : sx_G0 g L xs z9 hd_C ex_mt) (hct : ∀ (mi : Nat) (T2 : ex_T) (c' : sx_Ct), ex_mt mi = some T2 → c' ∈ k9 mi → c'.1 < 60 → sx_Holds g z9 hd_C T2 c') {σ : am_S} {lw : List (Nat × Value)} {post : Option (Option Value) → am_S → Prop} (hM : sx_M z9 hd_C σ 0 0 σ) (hl : (0, Value.ref 14) ∈ lw) (hlr2 : (2, Value.ref 3) ∈ lw) {n0 : Int32} (bk0 : 0 ≤ n0.toInt ∧ n0.toInt ≤ 0) (ret0 : ∀ (r : Int32) (σ' : am_S), (0 ≤ 1 * r.toInt + 0 ∧ 1 * r.toInt + 0 ≤ 0) → sx_M z9 hd_C σ 0 0 σ' → post (some (some (.int r))) σ') : am_K g 25 tX9_readInto.1 0 0 7 lw [.int n0] σ post := by
  refine sg_seg (sw := [.int n0]) (vs := []) (ws := [n0.toInt]) G (mi := 301) rfl hct sg_ri2a_14_ok trivial (hd_rfc hl (hd_rfc hlr2 hd_rfn)) ⟨⟨n0, rfl, rfl⟩, trivial⟩ (hd_p1 rfl bk0.1 bk0.2 hd_p0) hM ?_ ?_
  · intro r σ' hq
    cases r with
    | none => exact hq.elim
    | some v =>
      obtain ⟨p, hp, hM2, ks, hk, hv⟩ := hq
      simp only [List.mem_cons, List.not_mem_nil, or_false] at hp
      rcases hp with rfl
      · obtain rfl := hd_keys hk
        cases v with
        | none => exact hv.elim
        | some w9 =>
          obtain ⟨r, rfl, hP⟩ := hv
          obtain ⟨v0, e0, l0, u0⟩ := hP _ (List.mem_cons_self)
          have g0 : 1 * r.toInt + 0 = v0 := Option.some.inj e0
          exact ret0 r _ ⟨by rw [g0]; exact l0, by rw [g0]; exact u0⟩ hM2
  · intro u hu
    cases hu
theorem sg_ri2b_14_run (G : sx_G0 g L xs z9 hd_C ex_mt) (hct : ∀ (mi : Nat) (T2 : ex_T) (c' : sx_Ct), ex_mt mi = some T2 → c' ∈ k9 mi → c'.1 < 60 → sx_Holds g z9 hd_C T2 c') {σ : am_S} {lw : List (Nat × Value)} {post : Option (Option Value) → am_S → Prop} (hM : sx_M z9 hd_C σ 0 0 σ) (hl : (0, Value.ref 14) ∈ lw) (hlr2 : (2, Value.ref 3) ∈ lw) {m1 : Int32} (hl1 : (1, Value.int m1) ∈ lw) {n0 : Int32} (bk0 : 1 ≤ n0.toInt ∧ n0.toInt ≤ 1) (cuta : ∀ (lw' : List (Nat × Value)) (n0' : Int32) (n1' : Int32) (σ' : am_S), (0, Value.ref 14) ∈ lw' → (2, Value.ref 3) ∈ lw' → (0 ≤ 1 * (σ.2.1 3 6).toInt + ((-1) * n0'.toInt + 0) ∧ 1 * (σ.2.1 3 6).toInt + ((-1) * n0'.toInt + 0) ≤ 0) → (0 ≤ 1 * m1.toInt + ((-1) * n1'.toInt + 0) ∧ 1 * m1.toInt + ((-1) * n1'.toInt + 0) ≤ 0) → sx_M z9 hd_C σ 0 0 σ' → am_K g 25 tX9_readInto.1 0 0 18 lw' [.int n0', .int n1', .ref 14] σ' post) : am_K g 25 tX9_readInto.1 0 0 7 lw [.int n0] σ post := by
  refine sg_seg (sw := [.int n0]) (vs := [m1.toInt, (σ.2.1 3 6).toInt]) (ws := [n0.toInt]) G (mi := 301) rfl hct sg_ri2b_14_ok ⟨⟨m1, hl1, rfl⟩, ⟨rfl, trivial⟩⟩ (hd_rfc hl (hd_rfc hlr2 hd_rfn)) ⟨⟨n0, rfl, rfl⟩, trivial⟩ (hd_p1 rfl (Int32.le_toInt _) (Int32.toInt_le _) (hd_p1 rfl (hd_kd_3_6 hM).1 (hd_kd_3_6 hM).2 (hd_p1 rfl bk0.1 bk0.2 hd_p0))) hM ?_ ?_
  · intro r σ' hq
    cases r with
    | none => exact hq.elim
    | some v =>
      obtain ⟨p, hp, hM2, ks, hk, hv⟩ := hq
      cases hp
  · intro u hu
    simp only [List.mem_cons, List.not_mem_nil, or_false] at hu
    rcases hu with rfl
    · intro lw' sw' vs' ws' σ' ⟨h1_0, h2, h3_0, h4, h5⟩
      obtain rfl := hd_src0 h1_0
      obtain ⟨n0', sw1, ws1, rfl, rfl, h3_1⟩ := hd_sti h3_0
      obtain ⟨n1', sw2, ws2, rfl, rfl, h3_2⟩ := hd_sti h3_1
      obtain ⟨sw3, rfl, h3_3⟩ := hd_str h3_2
      obtain ⟨rfl, rfl⟩ := hd_st0 h3_3
      have hr9_0 := hd_rfh h2
      have hr9_2 := hd_rfh (hd_rfT h2)
      obtain ⟨v0, e0, l0, u0⟩ := h4 _ (List.mem_cons_self)
      have g0 : 1 * (σ.2.1 3 6).toInt + ((-1) * n0'.toInt + 0) = v0 := Option.some.inj e0
      obtain ⟨v1, e1, l1, u1⟩ := h4 _ (List.mem_cons_of_mem _ (List.mem_cons_self))
      have g1 : 1 * m1.toInt + ((-1) * n1'.toInt + 0) = v1 := Option.some.inj e1
      exact cuta _ _ _ _ hr9_0 hr9_2  ⟨by rw [g0]; exact l0, by rw [g0]; exact u0⟩ ⟨by rw [g1]; exact l1, by rw [g1]; exact u1⟩ h5
theorem sg_ri3_14_run (G : sx_G0 g L xs z9 hd_C ex_mt) (hct : ∀ (mi : Nat) (T2 : ex_T) (c' : sx_Ct), ex_mt mi = some T2 → c' ∈ k9 mi → c'.1 < 60 → sx_Holds g z9 hd_C T2 c') {σ : am_S} {lw : List (Nat × Value)} {post : Option (Option Value) → am_S → Prop} (hM : sx_M z9 hd_C σ 0 0 σ) (hl : (0, Value.ref 14) ∈ lw) (hlr2 : (2, Value.ref 3) ∈ lw)  (cuta : ∀ (lw' : List (Nat × Value))  (σ' : am_S), (0, Value.ref 14) ∈ lw' → (2, Value.ref 3) ∈ lw' → sx_M z9 hd_C σ 0 0 σ' → am_K g 25 tX9_readInto.1 0 0 22 lw' [.ref 3] σ' post) : am_K g 25 tX9_readInto.1 0 0 21 lw [] σ post := by
  refine sg_seg (sw := []) (vs := []) (ws := []) G (mi := 301) rfl hct sg_ri3_14_ok trivial (hd_rfc hl (hd_rfc hlr2 hd_rfn)) trivial hd_p0 hM ?_ ?_
  · intro r σ' hq
    cases r with
    | none => exact hq.elim
    | some v =>
      obtain ⟨p, hp, hM2, ks, hk, hv⟩ := hq
      cases hp
  · intro u hu
    simp only [List.mem_cons, List.not_mem_nil, or_false] at hu
    rcases hu with rfl
    · intro lw' sw' vs' ws' σ' ⟨h1_0, h2, h3_0, h4, h5⟩
      obtain rfl := hd_src0 h1_0
      obtain ⟨sw1, rfl, h3_1⟩ := hd_str h3_0
      obtain ⟨rfl, rfl⟩ := hd_st0 h3_1
      have hr9_0 := hd_rfh h2
      have hr9_2 := hd_rfh (hd_rfT h2)
      exact cuta _  _ hr9_0 hr9_2   h5
theorem sg_ri4_14_run (G : sx_G0 g L xs z9 hd_C ex_mt) (hct : ∀ (mi : Nat) (T2 : ex_T) (c' : sx_Ct), ex_mt mi = some T2 → c' ∈ k9 mi → c'.1 < 60 → sx_Holds g z9 hd_C T2 c') {σ : am_S} {lw : List (Nat × Value)} {post : Option (Option Value) → am_S → Prop} (hM : sx_M z9 hd_C σ 0 0 σ) (hl : (0, Value.ref 14) ∈ lw) (hlr2 : (2, Value.ref 3) ∈ lw)  (ret0 : ∀ (r : Int32) (σ' : am_S), (1 ≤ 1 * r.toInt + 0 ∧ 1 * r.toInt + 0 ≤ 1) → sx_M z9 hd_C σ 0 0 σ' → post (some (some (.int r))) σ') : am_K g 25 tX9_readInto.1 0 0 25 lw [] σ post := by
  refine sg_seg (sw := []) (vs := []) (ws := []) G (mi := 301) rfl hct sg_ri4_14_ok trivial (hd_rfc hl (hd_rfc hlr2 hd_rfn)) trivial hd_p0 hM ?_ ?_
  · intro r σ' hq
    cases r with
    | none => exact hq.elim
    | some v =>
      obtain ⟨p, hp, hM2, ks, hk, hv⟩ := hq
      simp only [List.mem_cons, List.not_mem_nil, or_false] at hp
      rcases hp with rfl
      · obtain rfl := hd_keys hk
        cases v with
        | none => exact hv.elim
        | some w9 =>
          obtain ⟨r, rfl, hP⟩ := hv
          obtain ⟨v0, e0, l0, u0⟩ := hP _ (List.mem_cons_self)
          have g0 : 1 * r.toInt + 0 = v0 := Option.some.inj e0
          exact ret0 r _ ⟨by rw [g0]; exact l0, by rw [g0]; exact u0⟩ hM2
  · intro u hu
    cases hu
theorem sg_ri1_15_run (G : sx_G0 g L xs z9 hd_C ex_mt) (hct : ∀ (mi : Nat) (T2 : ex_T) (c' : sx_Ct), ex_mt mi = some T2 → c' ∈ k9 mi → c'.1 < 60 → sx_Holds g z9 hd_C T2 c') {σ : am_S} {lw : List (Nat × Value)} {post : Option (Option Value) → am_S → Prop} (hM : sx_M z9 hd_C σ 0 0 σ) (hl : (0, Value.ref 15) ∈ lw) (hlr2 : (2, Value.ref 3) ∈ lw) {m1 : Int32} (hl1 : (1, Value.int m1) ∈ lw) {m3 : Int32} (hl3 : (3, Value.int m3) ∈ lw) {m4 : Int32} (hl4 : (4, Value.int m4) ∈ lw) (cuta : ∀ (lw' : List (Nat × Value)) (m1' : Int32) (n0' : Int32) (n1' : Int32) (σ' : am_S), (0, Value.ref 15) ∈ lw' → (2, Value.ref 3) ∈ lw' → (1, Value.int m1') ∈ lw' → (0 ≤ 1 * m4.toInt + ((-1) * n0'.toInt + 0) ∧ 1 * m4.toInt + ((-1) * n0'.toInt + 0) ≤ 0) → (0 ≤ 1 * m3.toInt + ((-1) * n1'.toInt + 0) ∧ 1 * m3.toInt + ((-1) * n1'.toInt + 0) ≤ 0) → (0 ≤ 1 * m1.toInt + ((-1) * m1'.toInt + 0) ∧ 1 * m1.toInt + ((-1) * m1'.toInt + 0) ≤ 0) → sx_M z9 hd_C σ 0 0 σ' → am_K g 25 tX9_readInto.1 0 0 4 lw' [.int n0', .int n1', .ref 3] σ' post) : am_K g 25 tX9_readInto.1 0 0 0 lw [] σ post := by
  refine sg_seg (sw := []) (vs := [m1.toInt, m3.toInt, m4.toInt]) (ws := []) G (mi := 301) rfl hct sg_ri1_15_ok ⟨⟨m1, hl1, rfl⟩, ⟨⟨m3, hl3, rfl⟩, ⟨⟨m4, hl4, rfl⟩, trivial⟩⟩⟩ (hd_rfc hl (hd_rfc hlr2 hd_rfn)) trivial (hd_p1 rfl (Int32.le_toInt _) (Int32.toInt_le _) (hd_p1 rfl (Int32.le_toInt _) (Int32.toInt_le _) (hd_p1 rfl (Int32.le_toInt _) (Int32.toInt_le _) hd_p0))) hM ?_ ?_
  · intro r σ' hq
    cases r with
    | none => exact hq.elim
    | some v =>
      obtain ⟨p, hp, hM2, ks, hk, hv⟩ := hq
      cases hp
  · intro u hu
    simp only [List.mem_cons, List.not_mem_nil, or_false] at hu
    rcases hu with rfl
    · intro lw' sw' vs' ws' σ' ⟨h1_0, h2, h3_0, h4, h5⟩
      obtain ⟨m1', vs1, rfl, hm1, h1_1⟩ := hd_srcl h1_0
      obtain rfl := hd_src0 h1_1
      obtain ⟨n0', sw1, ws1, rfl, rfl, h3_1⟩ := hd_sti h3_0
      obtain ⟨n1', sw2, ws2, rfl, rfl, h3_2⟩ := hd_sti h3_1
      obtain ⟨sw3, rfl, h3_3⟩ := hd_str h3_2
      obtain ⟨rfl, rfl⟩ := hd_st0 h3_3
      have hr9_0 := hd_rfh h2
      have hr9_2 := hd_rfh (hd_rfT h2)
      obtain ⟨v0, e0, l0, u0⟩ := h4 _ (List.mem_cons_self)
      have g0 : 1 * m4.toInt + ((-1) * n0'.toInt + 0) = v0 := Option.some.inj e0
      obtain ⟨v1, e1, l1, u1⟩ := h4 _ (List.mem_cons_of_mem _ (List.mem_cons_self))
      have g1 : 1 * m3.toInt + ((-1) * n1'.toInt + 0) = v1 := Option.some.inj e1
      obtain ⟨v2, e2, l2, u2⟩ := h4 _ (List.mem_cons_of_mem _ (List.mem_cons_of_mem _ (List.mem_cons_self)))
      have g2 : 1 * m1.toInt + ((-1) * m1'.toInt + 0) = v2 := Option.some.inj e2
      exact cuta _ _ _ _ _ hr9_0 hr9_2 hm1 ⟨by rw [g0]; exact l0, by rw [g0]; exact u0⟩ ⟨by rw [g1]; exact l1, by rw [g1]; exact u1⟩ ⟨by rw [g2]; exact l2, by rw [g2]; exact u2⟩ h5
theorem sg_ri2a_15_run (G : sx_G0 g L xs z9 hd_C ex_mt) (hct : ∀ (mi : Nat) (T2 : ex_T) (c' : sx_Ct), ex_mt mi = some T2 → c' ∈ k9 mi → c'.1 < 60 → sx_Holds g z9 hd_C T2 c') {σ : am_S} {lw : List (Nat × Value)} {post : Option (Option Value) → am_S → Prop} (hM : sx_M z9 hd_C σ 0 0 σ) (hl : (0, Value.ref 15) ∈ lw) (hlr2 : (2, Value.ref 3) ∈ lw) {n0 : Int32} (bk0 : 0 ≤ n0.toInt ∧ n0.toInt ≤ 0) (ret0 : ∀ (r : Int32) (σ' : am_S), (0 ≤ 1 * r.toInt + 0 ∧ 1 * r.toInt + 0 ≤ 0) → sx_M z9 hd_C σ 0 0 σ' → post (some (some (.int r))) σ') : am_K g 25 tX9_readInto.1 0 0 7 lw [.int n0] σ post := by
  refine sg_seg (sw := [.int n0]) (vs := []) (ws := [n0.toInt]) G (mi := 301) rfl hct sg_ri2a_15_ok trivial (hd_rfc hl (hd_rfc hlr2 hd_rfn)) ⟨⟨n0, rfl, rfl⟩, trivial⟩ (hd_p1 rfl bk0.1 bk0.2 hd_p0) hM ?_ ?_
  · intro r σ' hq
    cases r with
    | none => exact hq.elim
    | some v =>
      obtain ⟨p, hp, hM2, ks, hk, hv⟩ := hq
      simp only [List.mem_cons, List.not_mem_nil, or_false] at hp
      rcases hp with rfl
      · obtain rfl := hd_keys hk
        cases v with
        | none => exact hv.elim
        | some w9 =>
          obtain ⟨r, rfl, hP⟩ := hv
          obtain ⟨v0, e0, l0, u0⟩ := hP _ (List.mem_cons_self)
          have g0 : 1 * r.toInt + 0 = v0 := Option.some.inj e0
          exact ret0 r _ ⟨by rw [g0]; exact l0, by rw [g0]; exact u0⟩ hM2
  · intro u hu
    cases hu
theorem sg_ri2b_15_run (G : sx_G0 g L xs z9 hd_C ex_mt) (hct : ∀ (mi : Nat) (T2 : ex_T) (c' : sx_Ct), ex_mt mi = some T2 → c' ∈ k9 mi → c'.1 < 60 → sx_Holds g z9 hd_C T2 c') {σ : am_S} {lw : List (Nat × Value)} {post : Option (Option Value) → am_S → Prop} (hM : sx_M z9 hd_C σ 0 0 σ) (hl : (0, Value.ref 15) ∈ lw) (hlr2 : (2, Value.ref 3) ∈ lw) {m1 : Int32} (hl1 : (1, Value.int m1) ∈ lw) {n0 : Int32} (bk0 : 1 ≤ n0.toInt ∧ n0.toInt ≤ 1) (cuta : ∀ (lw' : List (Nat × Value)) (n0' : Int32) (n1' : Int32) (σ' : am_S), (0, Value.ref 15) ∈ lw' → (2, Value.ref 3) ∈ lw' → (0 ≤ 1 * (σ.2.1 3 6).toInt + ((-1) * n0'.toInt + 0) ∧ 1 * (σ.2.1 3 6).toInt + ((-1) * n0'.toInt + 0) ≤ 0) → (0 ≤ 1 * m1.toInt + ((-1) * n1'.toInt + 0) ∧ 1 * m1.toInt + ((-1) * n1'.toInt + 0) ≤ 0) → sx_M z9 hd_C σ 0 0 σ' → am_K g 25 tX9_readInto.1 0 0 18 lw' [.int n0', .int n1', .ref 15] σ' post) : am_K g 25 tX9_readInto.1 0 0 7 lw [.int n0] σ post := by
  refine sg_seg (sw := [.int n0]) (vs := [m1.toInt, (σ.2.1 3 6).toInt]) (ws := [n0.toInt]) G (mi := 301) rfl hct sg_ri2b_15_ok ⟨⟨m1, hl1, rfl⟩, ⟨rfl, trivial⟩⟩ (hd_rfc hl (hd_rfc hlr2 hd_rfn)) ⟨⟨n0, rfl, rfl⟩, trivial⟩ (hd_p1 rfl (Int32.le_toInt _) (Int32.toInt_le _) (hd_p1 rfl (hd_kd_3_6 hM).1 (hd_kd_3_6 hM).2 (hd_p1 rfl bk0.1 bk0.2 hd_p0))) hM ?_ ?_
  · intro r σ' hq
    cases r with
    | none => exact hq.elim
    | some v =>
      obtain ⟨p, hp, hM2, ks, hk, hv⟩ := hq
      cases hp
  · intro u hu
    simp only [List.mem_cons, List.not_mem_nil, or_false] at hu
    rcases hu with rfl
    · intro lw' sw' vs' ws' σ' ⟨h1_0, h2, h3_0, h4, h5⟩
      obtain rfl := hd_src0 h1_0
      obtain ⟨n0', sw1, ws1, rfl, rfl, h3_1⟩ := hd_sti h3_0
      obtain ⟨n1', sw2, ws2, rfl, rfl, h3_2⟩ := hd_sti h3_1
      obtain ⟨sw3, rfl, h3_3⟩ := hd_str h3_2
      obtain ⟨rfl, rfl⟩ := hd_st0 h3_3
      have hr9_0 := hd_rfh h2
      have hr9_2 := hd_rfh (hd_rfT h2)
      obtain ⟨v0, e0, l0, u0⟩ := h4 _ (List.mem_cons_self)
      have g0 : 1 * (σ.2.1 3 6).toInt + ((-1) * n0'.toInt + 0) = v0 := Option.some.inj e0
      obtain ⟨v1, e1, l1, u1⟩ := h4 _ (List.mem_cons_of_mem _ (List.mem_cons_self))
      have g1 : 1 * m1.toInt + ((-1) * n1'.toInt + 0) = v1 := Option.some.inj e1
      exact cuta _ _ _ _ hr9_0 hr9_2  ⟨by rw [g0]; exact l0, by rw [g0]; exact u0⟩ ⟨by rw [g1]; exact l1, by rw [g1]; exact u1⟩ h5
theorem sg_ri3_15_run (G : sx_G0 g L xs z9 hd_C ex_mt) (hct : ∀ (mi : Nat) (T2 : ex_T) (c' : sx_Ct), ex_mt mi = some T2 → c' ∈ k9 mi → c'.1 < 60 → sx_Holds g z9 hd_C T2 c') {σ : am_S} {lw : List (Nat × Value)} {post : Option (Option Value) → am_S → Prop} (hM : sx_M z9 hd_C σ 0 0 σ) (hl : (0, Value.ref 15) ∈ lw) (hlr2 : (2, Value.ref 3) ∈ lw)  (cuta : ∀ (lw' : List (Nat × Value))  (σ' : am_S), (0, Value.ref 15) ∈ lw' → (2, Value.ref 3) ∈ lw' → sx_M z9 hd_C σ 0 0 σ' → am_K g 25 tX9_readInto.1 0 0 22 lw' [.ref 3] σ' post) : am_K g 25 tX9_readInto.1 0 0 21 lw [] σ post := by
  refine sg_seg (sw := []) (vs := []) (ws := []) G (mi := 301) rfl hct sg_ri3_15_ok trivial (hd_rfc hl (hd_rfc hlr2 hd_rfn)) trivial hd_p0 hM ?_ ?_
  · intro r σ' hq
    cases r with
    | none => exact hq.elim
    | some v =>
      obtain ⟨p, hp, hM2, ks, hk, hv⟩ := hq
      cases hp
  · intro u hu
    simp only [List.mem_cons, List.not_mem_nil, or_false] at hu
    rcases hu with rfl
    · intro lw' sw' vs' ws' σ' ⟨h1_0, h2, h3_0, h4, h5⟩
      obtain rfl := hd_src0 h1_0
      obtain ⟨sw1, rfl, h3_1⟩ := hd_str h3_0
      obtain ⟨rfl, rfl⟩ := hd_st0 h3_1
      have hr9_0 := hd_rfh h2
      have hr9_2 := hd_rfh (hd_rfT h2)
      exact cuta _  _ hr9_0 hr9_2   h5
theorem sg_ri4_15_run (G : sx_G0 g L xs z9 hd_C ex_mt) (hct : ∀ (mi : Nat) (T2 : ex_T) (c' : sx_Ct), ex_mt mi = some T2 → c' ∈ k9 mi → c'.1 < 60 → sx_Holds g z9 hd_C T2 c') {σ : am_S} {lw : List (Nat × Value)} {post : Option (Option Value) → am_S → Prop} (hM : sx_M z9 hd_C σ 0 0 σ) (hl : (0, Value.ref 15) ∈ lw) (hlr2 : (2, Value.ref 3) ∈ lw)  (ret0 : ∀ (r : Int32) (σ' : am_S), (1 ≤ 1 * r.toInt + 0 ∧ 1 * r.toInt + 0 ≤ 1) → sx_M z9 hd_C σ 0 0 σ' → post (some (some (.int r))) σ') : am_K g 25 tX9_readInto.1 0 0 25 lw [] σ post := by
  refine sg_seg (sw := []) (vs := []) (ws := []) G (mi := 301) rfl hct sg_ri4_15_ok trivial (hd_rfc hl (hd_rfc hlr2 hd_rfn)) trivial hd_p0 hM ?_ ?_
  · intro r σ' hq
    cases r with
    | none => exact hq.elim
    | some v =>
      obtain ⟨p, hp, hM2, ks, hk, hv⟩ := hq
      simp only [List.mem_cons, List.not_mem_nil, or_false] at hp
      rcases hp with rfl
      · obtain rfl := hd_keys hk
        cases v with
        | none => exact hv.elim
        | some w9 =>
          obtain ⟨r, rfl, hP⟩ := hv
          obtain ⟨v0, e0, l0, u0⟩ := hP _ (List.mem_cons_self)
          have g0 : 1 * r.toInt + 0 = v0 := Option.some.inj e0
          exact ret0 r _ ⟨by rw [g0]; exact l0, by rw [g0]; exact u0⟩ hM2
  · intro u hu
    cases hu
theorem sg_ri1_16_run (G : sx_G0 g L xs z9 hd_C ex_mt) (hct : ∀ (mi : Nat) (T2 : ex_T) (c' : sx_Ct), ex_mt mi = some T2 → c' ∈ k9 mi → c'.1 < 60 → sx_Holds g z9 hd_C T2 c') {σ : am_S} {lw : List (Nat × Value)} {post : Option (Option Value) → am_S → Prop} (hM : sx_M z9 hd_C σ 0 0 σ) (hl : (0, Value.ref 16) ∈ lw) (hlr2 : (2, Value.ref 3) ∈ lw) {m1 : Int32} (hl1 : (1, Value.int m1) ∈ lw) {m3 : Int32} (hl3 : (3, Value.int m3) ∈ lw) {m4 : Int32} (hl4 : (4, Value.int m4) ∈ lw) (cuta : ∀ (lw' : List (Nat × Value)) (m1' : Int32) (n0' : Int32) (n1' : Int32) (σ' : am_S), (0, Value.ref 16) ∈ lw' → (2, Value.ref 3) ∈ lw' → (1, Value.int m1') ∈ lw' → (0 ≤ 1 * m4.toInt + ((-1) * n0'.toInt + 0) ∧ 1 * m4.toInt + ((-1) * n0'.toInt + 0) ≤ 0) → (0 ≤ 1 * m3.toInt + ((-1) * n1'.toInt + 0) ∧ 1 * m3.toInt + ((-1) * n1'.toInt + 0) ≤ 0) → (0 ≤ 1 * m1.toInt + ((-1) * m1'.toInt + 0) ∧ 1 * m1.toInt + ((-1) * m1'.toInt + 0) ≤ 0) → sx_M z9 hd_C σ 0 0 σ' → am_K g 25 tX9_readInto.1 0 0 4 lw' [.int n0', .int n1', .ref 3] σ' post) : am_K g 25 tX9_readInto.1 0 0 0 lw [] σ post := by
  refine sg_seg (sw := []) (vs := [m1.toInt, m3.toInt, m4.toInt]) (ws := []) G (mi := 301) rfl hct sg_ri1_16_ok ⟨⟨m1, hl1, rfl⟩, ⟨⟨m3, hl3, rfl⟩, ⟨⟨m4, hl4, rfl⟩, trivial⟩⟩⟩ (hd_rfc hl (hd_rfc hlr2 hd_rfn)) trivial (hd_p1 rfl (Int32.le_toInt _) (Int32.toInt_le _) (hd_p1 rfl (Int32.le_toInt _) (Int32.toInt_le _) (hd_p1 rfl (Int32.le_toInt _) (Int32.toInt_le _) hd_p0))) hM ?_ ?_
  · intro r σ' hq
    cases r with
    | none => exact hq.elim
    | some v =>
      obtain ⟨p, hp, hM2, ks, hk, hv⟩ := hq
      cases hp
  · intro u hu
    simp only [List.mem_cons, List.not_mem_nil, or_false] at hu
    rcases hu with rfl
    · intro lw' sw' vs' ws' σ' ⟨h1_0, h2, h3_0, h4, h5⟩
      obtain ⟨m1', vs1, rfl, hm1, h1_1⟩ := hd_srcl h1_0
      obtain rfl := hd_src0 h1_1
      obtain ⟨n0', sw1, ws1, rfl, rfl, h3_1⟩ := hd_sti h3_0
      obtain ⟨n1', sw2, ws2, rfl, rfl, h3_2⟩ := hd_sti h3_1
      obtain ⟨sw3, rfl, h3_3⟩ := hd_str h3_2
      obtain ⟨rfl, rfl⟩ := hd_st0 h3_3
      have hr9_0 := hd_rfh h2
      have hr9_2 := hd_rfh (hd_rfT h2)
      obtain ⟨v0, e0, l0, u0⟩ := h4 _ (List.mem_cons_self)
      have g0 : 1 * m4.toInt + ((-1) * n0'.toInt + 0) = v0 := Option.some.inj e0
      obtain ⟨v1, e1, l1, u1⟩ := h4 _ (List.mem_cons_of_mem _ (List.mem_cons_self))
      have g1 : 1 * m3.toInt + ((-1) * n1'.toInt + 0) = v1 := Option.some.inj e1
      obtain ⟨v2, e2, l2, u2⟩ := h4 _ (List.mem_cons_of_mem _ (List.mem_cons_of_mem _ (List.mem_cons_self)))
      have g2 : 1 * m1.toInt + ((-1) * m1'.toInt + 0) = v2 := Option.some.inj e2
      exact cuta _ _ _ _ _ hr9_0 hr9_2 hm1 ⟨by rw [g0]; exact l0, by rw [g0]; exact u0⟩ ⟨by rw [g1]; exact l1, by rw [g1]; exact u1⟩ ⟨by rw [g2]; exact l2, by rw [g2]; exact u2⟩ h5
theorem sg_ri2a_16_run (G : sx_G0 g L xs z9 hd_C ex_mt) (hct : ∀ (mi : Nat) (T2 : ex_T) (c' : sx_Ct), ex_mt mi = some T2 → c' ∈ k9 mi → c'.1 < 60 → sx_Holds g z9 hd_C T2 c') {σ : am_S} {lw : List (Nat × Value)} {post : Option (Option Value) → am_S → Prop} (hM : sx_M z9 hd_C σ 0 0 σ) (hl : (0, Value.ref 16) ∈ lw) (hlr2 : (2, Value.ref 3) ∈ lw) {n0 : Int32} (bk0 : 0 ≤ n0.toInt ∧ n0.toInt ≤ 0) (ret0 : ∀ (r : Int32) (σ' : am_S), (0 ≤ 1 * r.toInt + 0 ∧ 1 * r.toInt + 0 ≤ 0) → sx_M z9 hd_C σ 0 0 σ' → post (some (some (.int r))) σ') : am_K g 25 tX9_readInto.1 0 0 7 lw [.int n0] σ post := by
  refine sg_seg (sw := [.int n0]) (vs := []) (ws := [n0.toInt]) G (mi := 301) rfl hct sg_ri2a_16_ok trivial (hd_rfc hl (hd_rfc hlr2 hd_rfn)) ⟨⟨n0, rfl, rfl⟩, trivial⟩ (hd_p1 rfl bk0.1 bk0.2 hd_p0) hM ?_ ?_
  · intro r σ' hq
    cases r with
    | none => exact hq.elim
    | some v =>
      obtain ⟨p, hp, hM2, ks, hk, hv⟩ := hq
      simp only [List.mem_cons, List.not_mem_nil, or_false] at hp
      rcases hp with rfl
      · obtain rfl := hd_keys hk
        cases v with
        | none => exact hv.elim
        | some w9 =>
          obtain ⟨r, rfl, hP⟩ := hv
          obtain ⟨v0, e0, l0, u0⟩ := hP _ (List.mem_cons_self)
          have g0 : 1 * r.toInt + 0 = v0 := Option.some.inj e0
          exact ret0 r _ ⟨by rw [g0]; exact l0, by rw [g0]; exact u0⟩ hM2
  · intro u hu
    cases hu
theorem sg_ri2b_16_run (G : sx_G0 g L xs z9 hd_C ex_mt) (hct : ∀ (mi : Nat) (T2 : ex_T) (c' : sx_Ct), ex_mt mi = some T2 → c' ∈ k9 mi → c'.1 < 60 → sx_Holds g z9 hd_C T2 c') {σ : am_S} {lw : List (Nat × Value)} {post : Option (Option Value) → am_S → Prop} (hM : sx_M z9 hd_C σ 0 0 σ) (hl : (0, Value.ref 16) ∈ lw) (hlr2 : (2, Value.ref 3) ∈ lw) {m1 : Int32} (hl1 : (1, Value.int m1) ∈ lw) {n0 : Int32} (bk0 : 1 ≤ n0.toInt ∧ n0.toInt ≤ 1) (cuta : ∀ (lw' : List (Nat × Value)) (n0' : Int32) (n1' : Int32) (σ' : am_S), (0, Value.ref 16) ∈ lw' → (2, Value.ref 3) ∈ lw' → (0 ≤ 1 * (σ.2.1 3 6).toInt + ((-1) * n0'.toInt + 0) ∧ 1 * (σ.2.1 3 6).toInt + ((-1) * n0'.toInt + 0) ≤ 0) → (0 ≤ 1 * m1.toInt + ((-1) * n1'.toInt + 0) ∧ 1 * m1.toInt + ((-1) * n1'.toInt + 0) ≤ 0) → sx_M z9 hd_C σ 0 0 σ' → am_K g 25 tX9_readInto.1 0 0 18 lw' [.int n0', .int n1', .ref 16] σ' post) : am_K g 25 tX9_readInto.1 0 0 7 lw [.int n0] σ post := by
  refine sg_seg (sw := [.int n0]) (vs := [m1.toInt, (σ.2.1 3 6).toInt]) (ws := [n0.toInt]) G (mi := 301) rfl hct sg_ri2b_16_ok ⟨⟨m1, hl1, rfl⟩, ⟨rfl, trivial⟩⟩ (hd_rfc hl (hd_rfc hlr2 hd_rfn)) ⟨⟨n0, rfl, rfl⟩, trivial⟩ (hd_p1 rfl (Int32.le_toInt _) (Int32.toInt_le _) (hd_p1 rfl (hd_kd_3_6 hM).1 (hd_kd_3_6 hM).2 (hd_p1 rfl bk0.1 bk0.2 hd_p0))) hM ?_ ?_
  · intro r σ' hq
    cases r with
    | none => exact hq.elim
    | some v =>
      obtain ⟨p, hp, hM2, ks, hk, hv⟩ := hq
      cases hp
  · intro u hu
    simp only [List.mem_cons, List.not_mem_nil, or_false] at hu
    rcases hu with rfl
    · intro lw' sw' vs' ws' σ' ⟨h1_0, h2, h3_0, h4, h5⟩
      obtain rfl := hd_src0 h1_0
      obtain ⟨n0', sw1, ws1, rfl, rfl, h3_1⟩ := hd_sti h3_0
      obtain ⟨n1', sw2, ws2, rfl, rfl, h3_2⟩ := hd_sti h3_1
      obtain ⟨sw3, rfl, h3_3⟩ := hd_str h3_2
      obtain ⟨rfl, rfl⟩ := hd_st0 h3_3
      have hr9_0 := hd_rfh h2
      have hr9_2 := hd_rfh (hd_rfT h2)
      obtain ⟨v0, e0, l0, u0⟩ := h4 _ (List.mem_cons_self)
      have g0 : 1 * (σ.2.1 3 6).toInt + ((-1) * n0'.toInt + 0) = v0 := Option.some.inj e0
      obtain ⟨v1, e1, l1, u1⟩ := h4 _ (List.mem_cons_of_mem _ (List.mem_cons_self))
      have g1 : 1 * m1.toInt + ((-1) * n1'.toInt + 0) = v1 := Option.some.inj e1
      exact cuta _ _ _ _ hr9_0 hr9_2  ⟨by rw [g0]; exact l0, by rw [g0]; exact u0⟩ ⟨by rw [g1]; exact l1, by rw [g1]; exact u1⟩ h5
theorem sg_ri3_16_run (G : sx_G0 g L xs z9 hd_C ex_mt) (hct : ∀ (mi : Nat) (T2 : ex_T) (c' : sx_Ct), ex_mt mi = some T2 → c' ∈ k9 mi → c'.1 < 60 → sx_Holds g z9 hd_C T2 c') {σ : am_S} {lw : List (Nat × Value)} {post : Option (Option Value) → am_S → Prop} (hM : sx_M z9 hd_C σ 0 0 σ) (hl : (0, Value.ref 16) ∈ lw) (hlr2 : (2, Value.ref 3) ∈ lw)  (cuta : ∀ (lw' : List (Nat × Value))  (σ' : am_S), (0, Value.ref 16) ∈ lw' → (2, Value.ref 3) ∈ lw' → sx_M z9 hd_C σ 0 0 σ' → am_K g 25 tX9_readInto.1 0 0 22 lw' [.ref 3] σ' post) : am_K g 25 tX9_readInto.1 0 0 21 lw [] σ post := by
  refine sg_seg (sw := []) (vs := []) (ws := []) G (mi := 301) rfl hct sg_ri3_16_ok trivial (hd_rfc hl (hd_rfc hlr2 hd_rfn)) trivial hd_p0 hM ?_ ?_
  · intro r σ' hq
    cases r with
    | none => exact hq.elim
    | some v =>
      obtain ⟨p, hp, hM2, ks, hk, hv⟩ := hq
      cases hp
  · intro u hu
    simp only [List.mem_cons, List.not_mem_nil, or_false] at hu
    rcases hu with rfl
    · intro lw' sw' vs' ws' σ' ⟨h1_0, h2, h3_0, h4, h5⟩
      obtain rfl := hd_src0 h1_0
      obtain ⟨sw1, rfl, h3_1⟩ := hd_str h3_0
      obtain ⟨rfl, rfl⟩ := hd_st0 h3_1
      have hr9_0 := hd_rfh h2
      have hr9_2 := hd_rfh (hd_rfT h2)
      exact cuta _  _ hr9_0 hr9_2   h5
theorem sg_ri4_16_run (G : sx_G0 g L xs z9 hd_C ex_mt) (hct : ∀ (mi : Nat) (T2 : ex_T) (c' : sx_Ct), ex_mt mi = some T2 → c' ∈ k9 mi → c'.1 < 60 → sx_Holds g z9 hd_C T2 c') {σ : am_S} {lw : List (Nat × Value)} {post : Option (Option Value) → am_S → Prop} (hM : sx_M z9 hd_C σ 0 0 σ) (hl : (0, Value.ref 16) ∈ lw) (hlr2 : (2, Value.ref 3) ∈ lw)  (ret0 : ∀ (r : Int32) (σ' : am_S), (1 ≤ 1 * r.toInt + 0 ∧ 1 * r.toInt + 0 ≤ 1) → sx_M z9 hd_C σ 0 0 σ' → post (some (some (.int r))) σ') : am_K g 25 tX9_readInto.1 0 0 25 lw [] σ post := by
  refine sg_seg (sw := []) (vs := []) (ws := []) G (mi := 301) rfl hct sg_ri4_16_ok trivial (hd_rfc hl (hd_rfc hlr2 hd_rfn)) trivial hd_p0 hM ?_ ?_
  · intro r σ' hq
    cases r with
    | none => exact hq.elim
    | some v =>
      obtain ⟨p, hp, hM2, ks, hk, hv⟩ := hq
      simp only [List.mem_cons, List.not_mem_nil, or_false] at hp
      rcases hp with rfl
      · obtain rfl := hd_keys hk
        cases v with
        | none => exact hv.elim
        | some w9 =>
          obtain ⟨r, rfl, hP⟩ := hv
          obtain ⟨v0, e0, l0, u0⟩ := hP _ (List.mem_cons_self)
          have g0 : 1 * r.toInt + 0 = v0 := Option.some.inj e0
          exact ret0 r _ ⟨by rw [g0]; exact l0, by rw [g0]; exact u0⟩ hM2
  · intro u hu
    cases hu
theorem sg_ri1_17_run (G : sx_G0 g L xs z9 hd_C ex_mt) (hct : ∀ (mi : Nat) (T2 : ex_T) (c' : sx_Ct), ex_mt mi = some T2 → c' ∈ k9 mi → c'.1 < 60 → sx_Holds g z9 hd_C T2 c') {σ : am_S} {lw : List (Nat × Value)} {post : Option (Option Value) → am_S → Prop} (hM : sx_M z9 hd_C σ 0 0 σ) (hl : (0, Value.ref 17) ∈ lw) (hlr2 : (2, Value.ref 3) ∈ lw) {m1 : Int32} (hl1 : (1, Value.int m1) ∈ lw) {m3 : Int32} (hl3 : (3, Value.int m3) ∈ lw) {m4 : Int32} (hl4 : (4, Value.int m4) ∈ lw) (cuta : ∀ (lw' : List (Nat × Value)) (m1' : Int32) (n0' : Int32) (n1' : Int32) (σ' : am_S), (0, Value.ref 17) ∈ lw' → (2, Value.ref 3) ∈ lw' → (1, Value.int m1') ∈ lw' → (0 ≤ 1 * m4.toInt + ((-1) * n0'.toInt + 0) ∧ 1 * m4.toInt + ((-1) * n0'.toInt + 0) ≤ 0) → (0 ≤ 1 * m3.toInt + ((-1) * n1'.toInt + 0) ∧ 1 * m3.toInt + ((-1) * n1'.toInt + 0) ≤ 0) → (0 ≤ 1 * m1.toInt + ((-1) * m1'.toInt + 0) ∧ 1 * m1.toInt + ((-1) * m1'.toInt + 0) ≤ 0) → sx_M z9 hd_C σ 0 0 σ' → am_K g 25 tX9_readInto.1 0 0 4 lw' [.int n0', .int n1', .ref 3] σ' post) : am_K g 25 tX9_readInto.1 0 0 0 lw [] σ post := by
  refine sg_seg (sw := []) (vs := [m1.toInt, m3.toInt, m4.toInt]) (ws := []) G (mi := 301) rfl hct sg_ri1_17_ok ⟨⟨m1, hl1, rfl⟩, ⟨⟨m3, hl3, rfl⟩, ⟨⟨m4, hl4, rfl⟩, trivial⟩⟩⟩ (hd_rfc hl (hd_rfc hlr2 hd_rfn)) trivial (hd_p1 rfl (Int32.le_toInt _) (Int32.toInt_le _) (hd_p1 rfl (Int32.le_toInt _) (Int32.toInt_le _) (hd_p1 rfl (Int32.le_toInt _) (Int32.toInt_le _) hd_p0))) hM ?_ ?_
  · intro r σ' hq
    cases r with
    | none => exact hq.elim
    | some v =>
      obtain ⟨p, hp, hM2, ks, hk, hv⟩ := hq
      cases hp
  · intro u hu
    simp only [List.mem_cons, List.not_mem_nil, or_false] at hu
    rcases hu with rfl
    · intro lw' sw' vs' ws' σ' ⟨h1_0, h2, h3_0, h4, h5⟩
      obtain ⟨m1', vs1, rfl, hm1, h1_1⟩ := hd_srcl h1_0
      obtain rfl := hd_src0 h1_1
      obtain ⟨n0', sw1, ws1, rfl, rfl, h3_1⟩ := hd_sti h3_0
      obtain ⟨n1', sw2, ws2, rfl, rfl, h3_2⟩ := hd_sti h3_1
      obtain ⟨sw3, rfl, h3_3⟩ := hd_str h3_2
      obtain ⟨rfl, rfl⟩ := hd_st0 h3_3
      have hr9_0 := hd_rfh h2
      have hr9_2 := hd_rfh (hd_rfT h2)
      obtain ⟨v0, e0, l0, u0⟩ := h4 _ (List.mem_cons_self)
      have g0 : 1 * m4.toInt + ((-1) * n0'.toInt + 0) = v0 := Option.some.inj e0
      obtain ⟨v1, e1, l1, u1⟩ := h4 _ (List.mem_cons_of_mem _ (List.mem_cons_self))
      have g1 : 1 * m3.toInt + ((-1) * n1'.toInt + 0) = v1 := Option.some.inj e1
      obtain ⟨v2, e2, l2, u2⟩ := h4 _ (List.mem_cons_of_mem _ (List.mem_cons_of_mem _ (List.mem_cons_self)))
      have g2 : 1 * m1.toInt + ((-1) * m1'.toInt + 0) = v2 := Option.some.inj e2
      exact cuta _ _ _ _ _ hr9_0 hr9_2 hm1 ⟨by rw [g0]; exact l0, by rw [g0]; exact u0⟩ ⟨by rw [g1]; exact l1, by rw [g1]; exact u1⟩ ⟨by rw [g2]; exact l2, by rw [g2]; exact u2⟩ h5
theorem sg_ri2a_17_run (G : sx_G0 g L xs z9 hd_C ex_mt) (hct : ∀ (mi : Nat) (T2 : ex_T) (c' : sx_Ct), ex_mt mi = some T2 → c' ∈ k9 mi → c'.1 < 60 → sx_Holds g z9 hd_C T2 c') {σ : am_S} {lw : List (Nat × Value)} {post : Option (Option Value) → am_S → Prop} (hM : sx_M z9 hd_C σ 0 0 σ) (hl : (0, Value.ref 17) ∈ lw) (hlr2 : (2, Value.ref 3) ∈ lw) {n0 : Int32} (bk0 : 0 ≤ n0.toInt ∧ n0.toInt ≤ 0) (ret0 : ∀ (r : Int32) (σ' : am_S), (0 ≤ 1 * r.toInt + 0 ∧ 1 * r.toInt + 0 ≤ 0) → sx_M z9 hd_C σ 0 0 σ' → post (some (some (.int r))) σ') : am_K g 25 tX9_readInto.1 0 0 7 lw [.int n0] σ post := by
  refine sg_seg (sw := [.int n0]) (vs := []) (ws := [n0.toInt]) G (mi := 301) rfl hct sg_ri2a_17_ok trivial (hd_rfc hl (hd_rfc hlr2 hd_rfn)) ⟨⟨n0, rfl, rfl⟩, trivial⟩ (hd_p1 rfl bk0.1 bk0.2 hd_p0) hM ?_ ?_
  · intro r σ' hq
    cases r with
    | none => exact hq.elim
    | some v =>
      obtain ⟨p, hp, hM2, ks, hk, hv⟩ := hq
      simp only [List.mem_cons, List.not_mem_nil, or_false] at hp
      rcases hp with rfl
      · obtain rfl := hd_keys hk
        cases v with
        | none => exact hv.elim
        | some w9 =>
          obtain ⟨r, rfl, hP⟩ := hv
          obtain ⟨v0, e0, l0, u0⟩ := hP _ (List.mem_cons_self)
          have g0 : 1 * r.toInt + 0 = v0 := Option.some.inj e0
          exact ret0 r _ ⟨by rw [g0]; exact l0, by rw [g0]; exact u0⟩ hM2
  · intro u hu
    cases hu
theorem sg_ri2b_17_run (G : sx_G0 g L xs z9 hd_C ex_mt) (hct : ∀ (mi : Nat) (T2 : ex_T) (c' : sx_Ct), ex_mt mi = some T2 → c' ∈ k9 mi → c'.1 < 60 → sx_Holds g z9 hd_C T2 c') {σ : am_S} {lw : List (Nat × Value)} {post : Option (Option Value) → am_S → Prop} (hM : sx_M z9 hd_C σ 0 0 σ) (hl : (0, Value.ref 17) ∈ lw) (hlr2 : (2, Value.ref 3) ∈ lw) {m1 : Int32} (hl1 : (1, Value.int m1) ∈ lw) {n0 : Int32} (bk0 : 1 ≤ n0.toInt ∧ n0.toInt ≤ 1) (cuta : ∀ (lw' : List (Nat × Value)) (n0' : Int32) (n1' : Int32) (σ' : am_S), (0, Value.ref 17) ∈ lw' → (2, Value.ref 3) ∈ lw' → (0 ≤ 1 * (σ.2.1 3 6).toInt + ((-1) * n0'.toInt + 0) ∧ 1 * (σ.2.1 3 6).toInt + ((-1) * n0'.toInt + 0) ≤ 0) → (0 ≤ 1 * m1.toInt + ((-1) * n1'.toInt + 0) ∧ 1 * m1.toInt + ((-1) * n1'.toInt + 0) ≤ 0) → sx_M z9 hd_C σ 0 0 σ' → am_K g 25 tX9_readInto.1 0 0 18 lw' [.int n0', .int n1', .ref 17] σ' post) : am_K g 25 tX9_readInto.1 0 0 7 lw [.int n0] σ post := by
  refine sg_seg (sw := [.int n0]) (vs := [m1.toInt, (σ.2.1 3 6).toInt]) (ws := [n0.toInt]) G (mi := 301) rfl hct sg_ri2b_17_ok ⟨⟨m1, hl1, rfl⟩, ⟨rfl, trivial⟩⟩ (hd_rfc hl (hd_rfc hlr2 hd_rfn)) ⟨⟨n0, rfl, rfl⟩, trivial⟩ (hd_p1 rfl (Int32.le_toInt _) (Int32.toInt_le _) (hd_p1 rfl (hd_kd_3_6 hM).1 (hd_kd_3_6 hM).2 (hd_p1 rfl bk0.1 bk0.2 hd_p0))) hM ?_ ?_
  · intro r σ' hq
    cases r with
    | none => exact hq.elim
    | some v =>
      obtain ⟨p, hp, hM2, ks, hk, hv⟩ := hq
      cases hp
  · intro u hu
    simp only [List.mem_cons, List.not_mem_nil, or_false] at hu
    rcases hu with rfl
    · intro lw' sw' vs' ws' σ' ⟨h1_0, h2, h3_0, h4, h5⟩
      obtain rfl := hd_src0 h1_0
      obtain ⟨n0', sw1, ws1, rfl, rfl, h3_1⟩ := hd_sti h3_0
      obtain ⟨n1', sw2, ws2, rfl, rfl, h3_2⟩ := hd_sti h3_1
      obtain ⟨sw3, rfl, h3_3⟩ := hd_str h3_2
      obtain ⟨rfl, rfl⟩ := hd_st0 h3_3
      have hr9_0 := hd_rfh h2
      have hr9_2 := hd_rfh (hd_rfT h2)
      obtain ⟨v0, e0, l0, u0⟩ := h4 _ (List.mem_cons_self)
      have g0 : 1 * (σ.2.1 3 6).toInt + ((-1) * n0'.toInt + 0) = v0 := Option.some.inj e0
      obtain ⟨v1, e1, l1, u1⟩ := h4 _ (List.mem_cons_of_mem _ (List.mem_cons_self))
      have g1 : 1 * m1.toInt + ((-1) * n1'.toInt + 0) = v1 := Option.some.inj e1
      exact cuta _ _ _ _ hr9_0 hr9_2  ⟨by rw [g0]; exact l0, by rw [g0]; exact u0⟩ ⟨by rw [g1]; exact l1, by rw [g1]; exact u1⟩ h5
theorem sg_ri3_17_run (G : sx_G0 g L xs z9 hd_C ex_mt) (hct : ∀ (mi : Nat) (T2 : ex_T) (c' : sx_Ct), ex_mt mi = some T2 → c' ∈ k9 mi → c'.1 < 60 → sx_Holds g z9 hd_C T2 c') {σ : am_S} {lw : List (Nat × Value)} {post : Option (Option Value) → am_S → Prop} (hM : sx_M z9 hd_C σ 0 0 σ) (hl : (0, Value.ref 17) ∈ lw) (hlr2 : (2, Value.ref 3) ∈ lw)  (cuta : ∀ (lw' : List (Nat × Value))  (σ' : am_S), (0, Value.ref 17) ∈ lw' → (2, Value.ref 3) ∈ lw' → sx_M z9 hd_C σ 0 0 σ' → am_K g 25 tX9_readInto.1 0 0 22 lw' [.ref 3] σ' post) : am_K g 25 tX9_readInto.1 0 0 21 lw [] σ post := by
  refine sg_seg (sw := []) (vs := []) (ws := []) G (mi := 301) rfl hct sg_ri3_17_ok trivial (hd_rfc hl (hd_rfc hlr2 hd_rfn)) trivial hd_p0 hM ?_ ?_
  · intro r σ' hq
    cases r with
    | none => exact hq.elim
    | some v =>
      obtain ⟨p, hp, hM2, ks, hk, hv⟩ := hq
      cases hp
  · intro u hu
    simp only [List.mem_cons, List.not_mem_nil, or_false] at hu
    rcases hu with rfl
    · intro lw' sw' vs' ws' σ' ⟨h1_0, h2, h3_0, h4, h5⟩
      obtain rfl := hd_src0 h1_0
      obtain ⟨sw1, rfl, h3_1⟩ := hd_str h3_0
      obtain ⟨rfl, rfl⟩ := hd_st0 h3_1
      have hr9_0 := hd_rfh h2
      have hr9_2 := hd_rfh (hd_rfT h2)
      exact cuta _  _ hr9_0 hr9_2   h5
theorem sg_ri4_17_run (G : sx_G0 g L xs z9 hd_C ex_mt) (hct : ∀ (mi : Nat) (T2 : ex_T) (c' : sx_Ct), ex_mt mi = some T2 → c' ∈ k9 mi → c'.1 < 60 → sx_Holds g z9 hd_C T2 c') {σ : am_S} {lw : List (Nat × Value)} {post : Option (Option Value) → am_S → Prop} (hM : sx_M z9 hd_C σ 0 0 σ) (hl : (0, Value.ref 17) ∈ lw) (hlr2 : (2, Value.ref 3) ∈ lw)  (ret0 : ∀ (r : Int32) (σ' : am_S), (1 ≤ 1 * r.toInt + 0 ∧ 1 * r.toInt + 0 ≤ 1) → sx_M z9 hd_C σ 0 0 σ' → post (some (some (.int r))) σ') : am_K g 25 tX9_readInto.1 0 0 25 lw [] σ post := by
  refine sg_seg (sw := []) (vs := []) (ws := []) G (mi := 301) rfl hct sg_ri4_17_ok trivial (hd_rfc hl (hd_rfc hlr2 hd_rfn)) trivial hd_p0 hM ?_ ?_
  · intro r σ' hq
    cases r with
    | none => exact hq.elim
    | some v =>
      obtain ⟨p, hp, hM2, ks, hk, hv⟩ := hq
      simp only [List.mem_cons, List.not_mem_nil, or_false] at hp
      rcases hp with rfl
      · obtain rfl := hd_keys hk
        cases v with
        | none => exact hv.elim
        | some w9 =>
          obtain ⟨r, rfl, hP⟩ := hv
          obtain ⟨v0, e0, l0, u0⟩ := hP _ (List.mem_cons_self)
          have g0 : 1 * r.toInt + 0 = v0 := Option.some.inj e0
          exact ret0 r _ ⟨by rw [g0]; exact l0, by rw [g0]; exact u0⟩ hM2
  · intro u hu
    cases hu
theorem sg_ri1_18_run (G : sx_G0 g L xs z9 hd_C ex_mt) (hct : ∀ (mi : Nat) (T2 : ex_T) (c' : sx_Ct), ex_mt mi = some T2 → c' ∈ k9 mi → c'.1 < 60 → sx_Holds g z9 hd_C T2 c') {σ : am_S} {lw : List (Nat × Value)} {post : Option (Option Value) → am_S → Prop} (hM : sx_M z9 hd_C σ 0 0 σ) (hl : (0, Value.ref 18) ∈ lw) (hlr2 : (2, Value.ref 3) ∈ lw) {m1 : Int32} (hl1 : (1, Value.int m1) ∈ lw) {m3 : Int32} (hl3 : (3, Value.int m3) ∈ lw) {m4 : Int32} (hl4 : (4, Value.int m4) ∈ lw) (cuta : ∀ (lw' : List (Nat × Value)) (m1' : Int32) (n0' : Int32) (n1' : Int32) (σ' : am_S), (0, Value.ref 18) ∈ lw' → (2, Value.ref 3) ∈ lw' → (1, Value.int m1') ∈ lw' → (0 ≤ 1 * m4.toInt + ((-1) * n0'.toInt + 0) ∧ 1 * m4.toInt + ((-1) * n0'.toInt + 0) ≤ 0) → (0 ≤ 1 * m3.toInt + ((-1) * n1'.toInt + 0) ∧ 1 * m3.toInt + ((-1) * n1'.toInt + 0) ≤ 0) → (0 ≤ 1 * m1.toInt + ((-1) * m1'.toInt + 0) ∧ 1 * m1.toInt + ((-1) * m1'.toInt + 0) ≤ 0) → sx_M z9 hd_C σ 0 0 σ' → am_K g 25 tX9_readInto.1 0 0 4 lw' [.int n0', .int n1', .ref 3] σ' post) : am_K g 25 tX9_readInto.1 0 0 0 lw [] σ post := by
  refine sg_seg (sw := []) (vs := [m1.toInt, m3.toInt, m4.toInt]) (ws := []) G (mi := 301) rfl hct sg_ri1_18_ok ⟨⟨m1, hl1, rfl⟩, ⟨⟨m3, hl3, rfl⟩, ⟨⟨m4, hl4, rfl⟩, trivial⟩⟩⟩ (hd_rfc hl (hd_rfc hlr2 hd_rfn)) trivial (hd_p1 rfl (Int32.le_toInt _) (Int32.toInt_le _) (hd_p1 rfl (Int32.le_toInt _) (Int32.toInt_le _) (hd_p1 rfl (Int32.le_toInt _) (Int32.toInt_le _) hd_p0))) hM ?_ ?_
  · intro r σ' hq
    cases r with
    | none => exact hq.elim
    | some v =>
      obtain ⟨p, hp, hM2, ks, hk, hv⟩ := hq
      cases hp
  · intro u hu
    simp only [List.mem_cons, List.not_mem_nil, or_false] at hu
    rcases hu with rfl
    · intro lw' sw' vs' ws' σ' ⟨h1_0, h2, h3_0, h4, h5⟩
      obtain ⟨m1', vs1, rfl, hm1, h1_1⟩ := hd_srcl h1_0
      obtain rfl := hd_src0 h1_1
      obtain ⟨n0', sw1, ws1, rfl, rfl, h3_1⟩ := hd_sti h3_0
      obtain ⟨n1', sw2, ws2, rfl, rfl, h3_2⟩ := hd_sti h3_1
      obtain ⟨sw3, rfl, h3_3⟩ := hd_str h3_2
      obtain ⟨rfl, rfl⟩ := hd_st0 h3_3
      have hr9_0 := hd_rfh h2
      have hr9_2 := hd_rfh (hd_rfT h2)
      obtain ⟨v0, e0, l0, u0⟩ := h4 _ (List.mem_cons_self)
      have g0 : 1 * m4.toInt + ((-1) * n0'.toInt + 0) = v0 := Option.some.inj e0
      obtain ⟨v1, e1, l1, u1⟩ := h4 _ (List.mem_cons_of_mem _ (List.mem_cons_self))
      have g1 : 1 * m3.toInt + ((-1) * n1'.toInt + 0) = v1 := Option.some.inj e1
      obtain ⟨v2, e2, l2, u2⟩ := h4 _ (List.mem_cons_of_mem _ (List.mem_cons_of_mem _ (List.mem_cons_self)))
      have g2 : 1 * m1.toInt + ((-1) * m1'.toInt + 0) = v2 := Option.some.inj e2
      exact cuta _ _ _ _ _ hr9_0 hr9_2 hm1 ⟨by rw [g0]; exact l0, by rw [g0]; exact u0⟩ ⟨by rw [g1]; exact l1, by rw [g1]; exact u1⟩ ⟨by rw [g2]; exact l2, by rw [g2]; exact u2⟩ h5
theorem sg_ri2a_18_run (G : sx_G0 g L xs z9 hd_C ex_mt) (hct : ∀ (mi : Nat) (T2 : ex_T) (c' : sx_Ct), ex_mt mi = some T2 → c' ∈ k9 mi → c'.1 < 60 → sx_Holds g z9 hd_C T2 c') {σ : am_S} {lw : List (Nat × Value)} {post : Option (Option Value) → am_S → Prop} (hM : sx_M z9 hd_C σ 0 0 σ) (hl : (0, Value.ref 18) ∈ lw) (hlr2 : (2, Value.ref 3) ∈ lw) {n0 : Int32} (bk0 : 0 ≤ n0.toInt ∧ n0.toInt ≤ 0) (ret0 : ∀ (r : Int32) (σ' : am_S), (0 ≤ 1 * r.toInt + 0 ∧ 1 * r.toInt + 0 ≤ 0) → sx_M z9 hd_C σ 0 0 σ' → post (some (some (.int r))) σ') : am_K g 25 tX9_readInto.1 0 0 7 lw [.int n0] σ post := by
  refine sg_seg (sw := [.int n0]) (vs := []) (ws := [n0.toInt]) G (mi := 301) rfl hct sg_ri2a_18_ok trivial (hd_rfc hl (hd_rfc hlr2 hd_rfn)) ⟨⟨n0, rfl, rfl⟩, trivial⟩ (hd_p1 rfl bk0.1 bk0.2 hd_p0) hM ?_ ?_
  · intro r σ' hq
    cases r with
    | none => exact hq.elim
    | some v =>
      obtain ⟨p, hp, hM2, ks, hk, hv⟩ := hq
      simp only [List.mem_cons, List.not_mem_nil, or_false] at hp
      rcases hp with rfl
      · obtain rfl := hd_keys hk
        cases v with
        | none => exact hv.elim
        | some w9 =>
          obtain ⟨r, rfl, hP⟩ := hv
          obtain ⟨v0, e0, l0, u0⟩ := hP _ (List.mem_cons_self)
          have g0 : 1 * r.toInt + 0 = v0 := Option.some.inj e0
          exact ret0 r _ ⟨by rw [g0]; exact l0, by rw [g0]; exact u0⟩ hM2
  · intro u hu
    cases hu
theorem sg_ri2b_18_run (G : sx_G0 g L xs z9 hd_C ex_mt) (hct : ∀ (mi : Nat) (T2 : ex_T) (c' : sx_Ct), ex_mt mi = some T2 → c' ∈ k9 mi → c'.1 < 60 → sx_Holds g z9 hd_C T2 c') {σ : am_S} {lw : List (Nat × Value)} {post : Option (Option Value) → am_S → Prop} (hM : sx_M z9 hd_C σ 0 0 σ) (hl : (0, Value.ref 18) ∈ lw) (hlr2 : (2, Value.ref 3) ∈ lw) {m1 : Int32} (hl1 : (1, Value.int m1) ∈ lw) {n0 : Int32} (bk0 : 1 ≤ n0.toInt ∧ n0.toInt ≤ 1) (cuta : ∀ (lw' : List (Nat × Value)) (n0' : Int32) (n1' : Int32) (σ' : am_S), (0, Value.ref 18) ∈ lw' → (2, Value.ref 3) ∈ lw' → (0 ≤ 1 * (σ.2.1 3 6).toInt + ((-1) * n0'.toInt + 0) ∧ 1 * (σ.2.1 3 6).toInt + ((-1) * n0'.toInt + 0) ≤ 0) → (0 ≤ 1 * m1.toInt + ((-1) * n1'.toInt + 0) ∧ 1 * m1.toInt + ((-1) * n1'.toInt + 0) ≤ 0) → sx_M z9 hd_C σ 0 0 σ' → am_K g 25 tX9_readInto.1 0 0 18 lw' [.int n0', .int n1', .ref 18] σ' post) : am_K g 25 tX9_readInto.1 0 0 7 lw [.int n0] σ post := by
  refine sg_seg (sw := [.int n0]) (vs := [m1.toInt, (σ.2.1 3 6).toInt]) (ws := [n0.toInt]) G (mi := 301) rfl hct sg_ri2b_18_ok ⟨⟨m1, hl1, rfl⟩, ⟨rfl, trivial⟩⟩ (hd_rfc hl (hd_rfc hlr2 hd_rfn)) ⟨⟨n0, rfl, rfl⟩, trivial⟩ (hd_p1 rfl (Int32.le_toInt _) (Int32.toInt_le _) (hd_p1 rfl (hd_kd_3_6 hM).1 (hd_kd_3_6 hM).2 (hd_p1 rfl bk0.1 bk0.2 hd_p0))) hM ?_ ?_
  · intro r σ' hq
    cases r with
    | none => exact hq.elim
    | some v =>
      obtain ⟨p, hp, hM2, ks, hk, hv⟩ := hq
      cases hp
  · intro u hu
    simp only [List.mem_cons, List.not_mem_nil, or_false] at hu
    rcases hu with rfl
    · intro lw' sw' vs' ws' σ' ⟨h1_0, h2, h3_0, h4, h5⟩
      obtain rfl := hd_src0 h1_0
      obtain ⟨n0', sw1, ws1, rfl, rfl, h3_1⟩ := hd_sti h3_0
      obtain ⟨n1', sw2, ws2, rfl, rfl, h3_2⟩ := hd_sti h3_1
      obtain ⟨sw3, rfl, h3_3⟩ := hd_str h3_2
      obtain ⟨rfl, rfl⟩ := hd_st0 h3_3
      have hr9_0 := hd_rfh h2
      have hr9_2 := hd_rfh (hd_rfT h2)
      obtain ⟨v0, e0, l0, u0⟩ := h4 _ (List.mem_cons_self)
      have g0 : 1 * (σ.2.1 3 6).toInt + ((-1) * n0'.toInt + 0) = v0 := Option.some.inj e0
      obtain ⟨v1, e1, l1, u1⟩ := h4 _ (List.mem_cons_of_mem _ (List.mem_cons_self))
      have g1 : 1 * m1.toInt + ((-1) * n1'.toInt + 0) = v1 := Option.some.inj e1
      exact cuta _ _ _ _ hr9_0 hr9_2  ⟨by rw [g0]; exact l0, by rw [g0]; exact u0⟩ ⟨by rw [g1]; exact l1, by rw [g1]; exact u1⟩ h5
theorem sg_ri3_18_run (G : sx_G0 g L xs z9 hd_C ex_mt) (hct : ∀ (mi : Nat) (T2 : ex_T) (c' : sx_Ct), ex_mt mi = some T2 → c' ∈ k9 mi → c'.1 < 60 → sx_Holds g z9 hd_C T2 c') {σ : am_S} {lw : List (Nat × Value)} {post : Option (Option Value) → am_S → Prop} (hM : sx_M z9 hd_C σ 0 0 σ) (hl : (0, Value.ref 18) ∈ lw) (hlr2 : (2, Value.ref 3) ∈ lw)  (cuta : ∀ (lw' : List (Nat × Value))  (σ' : am_S), (0, Value.ref 18) ∈ lw' → (2, Value.ref 3) ∈ lw' → sx_M z9 hd_C σ 0 0 σ' → am_K g 25 tX9_readInto.1 0 0 22 lw' [.ref 3] σ' post) : am_K g 25 tX9_readInto.1 0 0 21 lw [] σ post := by
  refine sg_seg (sw := []) (vs := []) (ws := []) G (mi := 301) rfl hct sg_ri3_18_ok trivial (hd_rfc hl (hd_rfc hlr2 hd_rfn)) trivial hd_p0 hM ?_ ?_
  · intro r σ' hq
    cases r with
    | none => exact hq.elim
    | some v =>
      obtain ⟨p, hp, hM2, ks, hk, hv⟩ := hq
      cases hp
  · intro u hu
    simp only [List.mem_cons, List.not_mem_nil, or_false] at hu
    rcases hu with rfl
    · intro lw' sw' vs' ws' σ' ⟨h1_0, h2, h3_0, h4, h5⟩
      obtain rfl := hd_src0 h1_0
      obtain ⟨sw1, rfl, h3_1⟩ := hd_str h3_0
      obtain ⟨rfl, rfl⟩ := hd_st0 h3_1
      have hr9_0 := hd_rfh h2
      have hr9_2 := hd_rfh (hd_rfT h2)
      exact cuta _  _ hr9_0 hr9_2   h5
theorem sg_ri4_18_run (G : sx_G0 g L xs z9 hd_C ex_mt) (hct : ∀ (mi : Nat) (T2 : ex_T) (c' : sx_Ct), ex_mt mi = some T2 → c' ∈ k9 mi → c'.1 < 60 → sx_Holds g z9 hd_C T2 c') {σ : am_S} {lw : List (Nat × Value)} {post : Option (Option Value) → am_S → Prop} (hM : sx_M z9 hd_C σ 0 0 σ) (hl : (0, Value.ref 18) ∈ lw) (hlr2 : (2, Value.ref 3) ∈ lw)  (ret0 : ∀ (r : Int32) (σ' : am_S), (1 ≤ 1 * r.toInt + 0 ∧ 1 * r.toInt + 0 ≤ 1) → sx_M z9 hd_C σ 0 0 σ' → post (some (some (.int r))) σ') : am_K g 25 tX9_readInto.1 0 0 25 lw [] σ post := by
  refine sg_seg (sw := []) (vs := []) (ws := []) G (mi := 301) rfl hct sg_ri4_18_ok trivial (hd_rfc hl (hd_rfc hlr2 hd_rfn)) trivial hd_p0 hM ?_ ?_
  · intro r σ' hq
    cases r with
    | none => exact hq.elim
    | some v =>
      obtain ⟨p, hp, hM2, ks, hk, hv⟩ := hq
      simp only [List.mem_cons, List.not_mem_nil, or_false] at hp
      rcases hp with rfl
      · obtain rfl := hd_keys hk
        cases v with
        | none => exact hv.elim
        | some w9 =>
          obtain ⟨r, rfl, hP⟩ := hv
          obtain ⟨v0, e0, l0, u0⟩ := hP _ (List.mem_cons_self)
          have g0 : 1 * r.toInt + 0 = v0 := Option.some.inj e0
          exact ret0 r _ ⟨by rw [g0]; exact l0, by rw [g0]; exact u0⟩ hM2
  · intro u hu
    cases hu
theorem sg_ri1_19_run (G : sx_G0 g L xs z9 hd_C ex_mt) (hct : ∀ (mi : Nat) (T2 : ex_T) (c' : sx_Ct), ex_mt mi = some T2 → c' ∈ k9 mi → c'.1 < 60 → sx_Holds g z9 hd_C T2 c') {σ : am_S} {lw : List (Nat × Value)} {post : Option (Option Value) → am_S → Prop} (hM : sx_M z9 hd_C σ 0 0 σ) (hl : (0, Value.ref 19) ∈ lw) (hlr2 : (2, Value.ref 3) ∈ lw) {m1 : Int32} (hl1 : (1, Value.int m1) ∈ lw) {m3 : Int32} (hl3 : (3, Value.int m3) ∈ lw) {m4 : Int32} (hl4 : (4, Value.int m4) ∈ lw) (cuta : ∀ (lw' : List (Nat × Value)) (m1' : Int32) (n0' : Int32) (n1' : Int32) (σ' : am_S), (0, Value.ref 19) ∈ lw' → (2, Value.ref 3) ∈ lw' → (1, Value.int m1') ∈ lw' → (0 ≤ 1 * m4.toInt + ((-1) * n0'.toInt + 0) ∧ 1 * m4.toInt + ((-1) * n0'.toInt + 0) ≤ 0) → (0 ≤ 1 * m3.toInt + ((-1) * n1'.toInt + 0) ∧ 1 * m3.toInt + ((-1) * n1'.toInt + 0) ≤ 0) → (0 ≤ 1 * m1.toInt + ((-1) * m1'.toInt + 0) ∧ 1 * m1.toInt + ((-1) * m1'.toInt + 0) ≤ 0) → sx_M z9 hd_C σ 0 0 σ' → am_K g 25 tX9_readInto.1 0 0 4 lw' [.int n0', .int n1', .ref 3] σ' post) : am_K g 25 tX9_readInto.1 0 0 0 lw [] σ post := by
  refine sg_seg (sw := []) (vs := [m1.toInt, m3.toInt, m4.toInt]) (ws := []) G (mi := 301) rfl hct sg_ri1_19_ok ⟨⟨m1, hl1, rfl⟩, ⟨⟨m3, hl3, rfl⟩, ⟨⟨m4, hl4, rfl⟩, trivial⟩⟩⟩ (hd_rfc hl (hd_rfc hlr2 hd_rfn)) trivial (hd_p1 rfl (Int32.le_toInt _) (Int32.toInt_le _) (hd_p1 rfl (Int32.le_toInt _) (Int32.toInt_le _) (hd_p1 rfl (Int32.le_toInt _) (Int32.toInt_le _) hd_p0))) hM ?_ ?_
  · intro r σ' hq
    cases r with
    | none => exact hq.elim
    | some v =>
      obtain ⟨p, hp, hM2, ks, hk, hv⟩ := hq
      cases hp
  · intro u hu
    simp only [List.mem_cons, List.not_mem_nil, or_false] at hu
    rcases hu with rfl
    · intro lw' sw' vs' ws' σ' ⟨h1_0, h2, h3_0, h4, h5⟩
      obtain ⟨m1', vs1, rfl, hm1, h1_1⟩ := hd_srcl h1_0
      obtain rfl := hd_src0 h1_1
      obtain ⟨n0', sw1, ws1, rfl, rfl, h3_1⟩ := hd_sti h3_0
      obtain ⟨n1', sw2, ws2, rfl, rfl, h3_2⟩ := hd_sti h3_1
      obtain ⟨sw3, rfl, h3_3⟩ := hd_str h3_2
      obtain ⟨rfl, rfl⟩ := hd_st0 h3_3
      have hr9_0 := hd_rfh h2
      have hr9_2 := hd_rfh (hd_rfT h2)
      obtain ⟨v0, e0, l0, u0⟩ := h4 _ (List.mem_cons_self)
      have g0 : 1 * m4.toInt + ((-1) * n0'.toInt + 0) = v0 := Option.some.inj e0
      obtain ⟨v1, e1, l1, u1⟩ := h4 _ (List.mem_cons_of_mem _ (List.mem_cons_self))
      have g1 : 1 * m3.toInt + ((-1) * n1'.toInt + 0) = v1 := Option.some.inj e1
      obtain ⟨v2, e2, l2, u2⟩ := h4 _ (List.mem_cons_of_mem _ (List.mem_cons_of_mem _ (List.mem_cons_self)))
      have g2 : 1 * m1.toInt + ((-1) * m1'.toInt + 0) = v2 := Option.some.inj e2
      exact cuta _ _ _ _ _ hr9_0 hr9_2 hm1 ⟨by rw [g0]; exact l0, by rw [g0]; exact u0⟩ ⟨by rw [g1]; exact l1, by rw [g1]; exact u1⟩ ⟨by rw [g2]; exact l2, by rw [g2]; exact u2⟩ h5
theorem sg_ri2a_19_run (G : sx_G0 g L xs z9 hd_C ex_mt) (hct : ∀ (mi : Nat) (T2 : ex_T) (c' : sx_Ct), ex_mt mi = some T2 → c' ∈ k9 mi → c'.1 < 60 → sx_Holds g z9 hd_C T2 c') {σ : am_S} {lw : List (Nat × Value)} {post : Option (Option Value) → am_S → Prop} (hM : sx_M z9 hd_C σ 0 0 σ) (hl : (0, Value.ref 19) ∈ lw) (hlr2 : (2, Value.ref 3) ∈ lw) {n0 : Int32} (bk0 : 0 ≤ n0.toInt ∧ n0.toInt ≤ 0) (ret0 : ∀ (r : Int32) (σ' : am_S), (0 ≤ 1 * r.toInt + 0 ∧ 1 * r.toInt + 0 ≤ 0) → sx_M z9 hd_C σ 0 0 σ' → post (some (some (.int r))) σ') : am_K g 25 tX9_readInto.1 0 0 7 lw [.int n0] σ post := by
  refine sg_seg (sw := [.int n0]) (vs := []) (ws := [n0.toInt]) G (mi := 301) rfl hct sg_ri2a_19_ok trivial (hd_rfc hl (hd_rfc hlr2 hd_rfn)) ⟨⟨n0, rfl, rfl⟩, trivial⟩ (hd_p1 rfl bk0.1 bk0.2 hd_p0) hM ?_ ?_
  · intro r σ' hq
    cases r with
    | none => exact hq.elim
    | some v =>
      obtain ⟨p, hp, hM2, ks, hk, hv⟩ := hq
      simp only [List.mem_cons, List.not_mem_nil, or_false] at hp
      rcases hp with rfl
      · obtain rfl := hd_keys hk
        cases v with
        | none => exact hv.elim
        | some w9 =>
          obtain ⟨r, rfl, hP⟩ := hv
          obtain ⟨v0, e0, l0, u0⟩ := hP _ (List.mem_cons_self)
          have g0 : 1 * r.toInt + 0 = v0 := Option.some.inj e0
          exact ret0 r _ ⟨by rw [g0]; exact l0, by rw [g0]; exact u0⟩ hM2
  · intro u hu
    cases hu
theorem sg_ri2b_19_run (G : sx_G0 g L xs z9 hd_C ex_mt) (hct : ∀ (mi : Nat) (T2 : ex_T) (c' : sx_Ct), ex_mt mi = some T2 → c' ∈ k9 mi → c'.1 < 60 → sx_Holds g z9 hd_C T2 c') {σ : am_S} {lw : List (Nat × Value)} {post : Option (Option Value) → am_S → Prop} (hM : sx_M z9 hd_C σ 0 0 σ) (hl : (0, Value.ref 19) ∈ lw) (hlr2 : (2, Value.ref 3) ∈ lw) {m1 : Int32} (hl1 : (1, Value.int m1) ∈ lw) {n0 : Int32} (bk0 : 1 ≤ n0.toInt ∧ n0.toInt ≤ 1) (cuta : ∀ (lw' : List (Nat × Value)) (n0' : Int32) (n1' : Int32) (σ' : am_S), (0, Value.ref 19) ∈ lw' → (2, Value.ref 3) ∈ lw' → (0 ≤ 1 * (σ.2.1 3 6).toInt + ((-1) * n0'.toInt + 0) ∧ 1 * (σ.2.1 3 6).toInt + ((-1) * n0'.toInt + 0) ≤ 0) → (0 ≤ 1 * m1.toInt + ((-1) * n1'.toInt + 0) ∧ 1 * m1.toInt + ((-1) * n1'.toInt + 0) ≤ 0) → sx_M z9 hd_C σ 0 0 σ' → am_K g 25 tX9_readInto.1 0 0 18 lw' [.int n0', .int n1', .ref 19] σ' post) : am_K g 25 tX9_readInto.1 0 0 7 lw [.int n0] σ post := by
  refine sg_seg (sw := [.int n0]) (vs := [m1.toInt, (σ.2.1 3 6).toInt]) (ws := [n0.toInt]) G (mi := 301) rfl hct sg_ri2b_19_ok ⟨⟨m1, hl1, rfl⟩, ⟨rfl, trivial⟩⟩ (hd_rfc hl (hd_rfc hlr2 hd_rfn)) ⟨⟨n0, rfl, rfl⟩, trivial⟩ (hd_p1 rfl (Int32.le_toInt _) (Int32.toInt_le _) (hd_p1 rfl (hd_kd_3_6 hM).1 (hd_kd_3_6 hM).2 (hd_p1 rfl bk0.1 bk0.2 hd_p0))) hM ?_ ?_
  · intro r σ' hq
    cases r with
    | none => exact hq.elim
    | some v =>
      obtain ⟨p, hp, hM2, ks, hk, hv⟩ := hq
      cases hp
  · intro u hu
    simp only [List.mem_cons, List.not_mem_nil, or_false] at hu
    rcases hu with rfl
    · intro lw' sw' vs' ws' σ' ⟨h1_0, h2, h3_0, h4, h5⟩
      obtain rfl := hd_src0 h1_0
      obtain ⟨n0', sw1, ws1, rfl, rfl, h3_1⟩ := hd_sti h3_0
      obtain ⟨n1', sw2, ws2, rfl, rfl, h3_2⟩ := hd_sti h3_1
      obtain ⟨sw3, rfl, h3_3⟩ := hd_str h3_2
      obtain ⟨rfl, rfl⟩ := hd_st0 h3_3
      have hr9_0 := hd_rfh h2
      have hr9_2 := hd_rfh (hd_rfT h2)
      obtain ⟨v0, e0, l0, u0⟩ := h4 _ (List.mem_cons_self)
      have g0 : 1 * (σ.2.1 3 6).toInt + ((-1) * n0'.toInt + 0) = v0 := Option.some.inj e0
      obtain ⟨v1, e1, l1, u1⟩ := h4 _ (List.mem_cons_of_mem _ (List.mem_cons_self))
      have g1 : 1 * m1.toInt + ((-1) * n1'.toInt + 0) = v1 := Option.some.inj e1
      exact cuta _ _ _ _ hr9_0 hr9_2  ⟨by rw [g0]; exact l0, by rw [g0]; exact u0⟩ ⟨by rw [g1]; exact l1, by rw [g1]; exact u1⟩ h5
theorem sg_ri3_19_run (G : sx_G0 g L xs z9 hd_C ex_mt) (hct : ∀ (mi : Nat) (T2 : ex_T) (c' : sx_Ct), ex_mt mi = some T2 → c' ∈ k9 mi → c'.1 < 60 → sx_Holds g z9 hd_C T2 c') {σ : am_S} {lw : List (Nat × Value)} {post : Option (Option Value) → am_S → Prop} (hM : sx_M z9 hd_C σ 0 0 σ) (hl : (0, Value.ref 19) ∈ lw) (hlr2 : (2, Value.ref 3) ∈ lw)  (cuta : ∀ (lw' : List (Nat × Value))  (σ' : am_S), (0, Value.ref 19) ∈ lw' → (2, Value.ref 3) ∈ lw' → sx_M z9 hd_C σ 0 0 σ' → am_K g 25 tX9_readInto.1 0 0 22 lw' [.ref 3] σ' post) : am_K g 25 tX9_readInto.1 0 0 21 lw [] σ post := by
  refine sg_seg (sw := []) (vs := []) (ws := []) G (mi := 301) rfl hct sg_ri3_19_ok trivial (hd_rfc hl (hd_rfc hlr2 hd_rfn)) trivial hd_p0 hM ?_ ?_
  · intro r σ' hq
    cases r with
    | none => exact hq.elim
    | some v =>
      obtain ⟨p, hp, hM2, ks, hk, hv⟩ := hq
      cases hp
  · intro u hu
    simp only [List.mem_cons, List.not_mem_nil, or_false] at hu
    rcases hu with rfl
    · intro lw' sw' vs' ws' σ' ⟨h1_0, h2, h3_0, h4, h5⟩
      obtain rfl := hd_src0 h1_0
      obtain ⟨sw1, rfl, h3_1⟩ := hd_str h3_0
      obtain ⟨rfl, rfl⟩ := hd_st0 h3_1
      have hr9_0 := hd_rfh h2
      have hr9_2 := hd_rfh (hd_rfT h2)
      exact cuta _  _ hr9_0 hr9_2   h5
theorem sg_ri4_19_run (G : sx_G0 g L xs z9 hd_C ex_mt) (hct : ∀ (mi : Nat) (T2 : ex_T) (c' : sx_Ct), ex_mt mi = some T2 → c' ∈ k9 mi → c'.1 < 60 → sx_Holds g z9 hd_C T2 c') {σ : am_S} {lw : List (Nat × Value)} {post : Option (Option Value) → am_S → Prop} (hM : sx_M z9 hd_C σ 0 0 σ) (hl : (0, Value.ref 19) ∈ lw) (hlr2 : (2, Value.ref 3) ∈ lw)  (ret0 : ∀ (r : Int32) (σ' : am_S), (1 ≤ 1 * r.toInt + 0 ∧ 1 * r.toInt + 0 ≤ 1) → sx_M z9 hd_C σ 0 0 σ' → post (some (some (.int r))) σ') : am_K g 25 tX9_readInto.1 0 0 25 lw [] σ post := by
  refine sg_seg (sw := []) (vs := []) (ws := []) G (mi := 301) rfl hct sg_ri4_19_ok trivial (hd_rfc hl (hd_rfc hlr2 hd_rfn)) trivial hd_p0 hM ?_ ?_
  · intro r σ' hq
    cases r with
    | none => exact hq.elim
    | some v =>
      obtain ⟨p, hp, hM2, ks, hk, hv⟩ := hq
      simp only [List.mem_cons, List.not_mem_nil, or_false] at hp
      rcases hp with rfl
      · obtain rfl := hd_keys hk
        cases v with
        | none => exact hv.elim
        | some w9 =>
          obtain ⟨r, rfl, hP⟩ := hv
          obtain ⟨v0, e0, l0, u0⟩ := hP _ (List.mem_cons_self)
          have g0 : 1 * r.toInt + 0 = v0 := Option.some.inj e0
          exact ret0 r _ ⟨by rw [g0]; exact l0, by rw [g0]; exact u0⟩ hM2
  · intro u hu
    cases hu
end HR
