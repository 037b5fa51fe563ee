/-! segments of the readers (written by a program) -/
def sg_ln8c : sg_Cu := (108, 0, [(0, .inr (some (false, 118)))], ([], [([(.ofNat 1, 0)], .ofNat 0, .ofNat 0)]), [none])
def sg_ln8c_a : sg_Cu := (248, 0, [(0, .inr (some (false, 118)))], ([], []), [some (false, 118)])
theorem sg_ln8c_ok : sg_chk zK ex_mt k9 0 tX12_line 4 20 sg_ln8c [] [sg_ln8c_a] = true := by decide +kernel
def sg_ln9a : sg_Cu := (134, 0, [(0, .inr (some (false, 118)))], ([.inr 7733257, .inr 7733258], [([(.ofNat 1, 0)], .ofNat 0, .ofNat 1), ([(.ofNat 1, 1)], .negSucc 2147483647, .ofNat 2147483647)]), [])
def sg_ln9a_p0 : sx_Po := (28858891257124862704305937573347373392392387160985434571251191458187784500608308553281933292152037822856416985088, true, [7733261, 7733262], [([(.ofNat 1, 2)], .ofNat 0, .ofNat 0), ([(.ofNat 1, 3)], .ofNat 1, .ofNat 1), ([(.ofNat 1, 1), (.negSucc 0, 4)], .ofNat 0, .ofNat 0)])
theorem sg_ln9a_ok : sg_chk zK ex_mt k9 0 tX12_line 18 20 sg_ln9a [sg_ln9a_p0] [] = true := by decide +kernel
def sg_ln9b : sg_Cu := (134, 0, [(0, .inr (some (false, 118)))], ([.inr 7733257, .inr 7733258], [([(.ofNat 1, 0)], .ofNat 3, .ofNat 4), ([(.ofNat 1, 1)], .negSucc 2147483647, .ofNat 2147483647)]), [])
def sg_ln9b_p0 : sx_Po := (28858891257124862704305937573347373392392387160985434571251191458187784500608308553281933292152037822856416985088, true, [7733261, 7733262], [([(.ofNat 1, 2)], .ofNat 0, .ofNat 0), ([(.ofNat 1, 3)], .ofNat 1, .ofNat 1), ([(.ofNat 1, 1), (.negSucc 0, 4)], .ofNat 0, .ofNat 0)])
theorem sg_ln9b_ok : sg_chk zK ex_mt k9 0 tX12_line 18 20 sg_ln9b [sg_ln9b_p0] [] = true := by decide +kernel
def sg_ln9c : sg_Cu := (134, 0, [(0, .inr (some (false, 118)))], ([.inl 1, .inr 7733257, .inr 7733260, .inr 7733258], [([(.ofNat 1, 0)], .negSucc 2147483647, .ofNat 2147483647), ([(.ofNat 1, 1)], .ofNat 2, .ofNat 2), ([(.ofNat 1, 2)], .negSucc 2147483647, .ofNat 2147483647), ([(.ofNat 1, 3)], .negSucc 2147483647, .ofNat 2147483647)]), [])
def sg_ln9c_a : sg_Cu := (169, 0, [(0, .inr (some (false, 118)))], ([.inl 1, .inl 2], [([(.ofNat 1, 0), (.negSucc 0, 4)], .ofNat 0, .ofNat 0), ([(.ofNat 1, 5)], .ofNat 0, .ofNat 0), ([(.ofNat 1, 2)], .ofNat 1, .ofNat 60)]), [])
def sg_ln9c_p0 : sx_Po := (28858891257124862704305937573347373392392387160985434571251191458187784500608308553281933292152037822856416985088, true, [7733261, 7733262], [([(.ofNat 1, 4)], .ofNat 0, .ofNat 0), ([(.ofNat 1, 5)], .ofNat 2, .ofNat 2), ([(.ofNat 1, 3), (.negSucc 0, 6)], .ofNat 0, .ofNat 0), ([(.ofNat 1, 2)], .negSucc 2147483647, .ofNat 0)])
def sg_ln9c_p1 : sx_Po := (28858891257124862704305937573347373392392387160985434571251191458187784500608308553281933292152037822856416985088, true, [7733261, 7733262], [([(.ofNat 1, 4)], .ofNat 0, .ofNat 0), ([(.ofNat 1, 5)], .ofNat 2, .ofNat 2), ([(.ofNat 1, 3), (.negSucc 0, 6)], .ofNat 0, .ofNat 0), ([(.ofNat 1, 2)], .ofNat 61, .ofNat 2147483647)])
theorem sg_ln9c_ok : sg_chk zK ex_mt k9 0 tX12_line 32 20 sg_ln9c [sg_ln9c_p0, sg_ln9c_p1] [sg_ln9c_a] = true := by decide +kernel
def sg_lna : sg_Cu := (169, 0, [(0, .inr (some (false, 118)))], ([.inl 1, .inl 2, .inr 7733260], [([(.ofNat 1, 0)], .ofNat 0, .ofNat 5), ([(.ofNat 1, 1)], .ofNat 0, .ofNat 5), ([(.ofNat 1, 2)], .negSucc 2147483647, .ofNat 2147483647)]), [])
def sg_lna_a : sg_Cu := (182, 0, [(0, .inr (some (false, 118)))], ([.inl 1, .inl 2], [([(.ofNat 1, 1), (.negSucc 0, 5)], .negSucc 41, .negSucc 41), ([(.ofNat 1, 0), (.negSucc 0, 3)], .ofNat 0, .ofNat 0), ([(.ofNat 1, 1), (.negSucc 0, 4)], .ofNat 0, .ofNat 0), ([(.ofNat 1, 0), (.negSucc 0, 1)], .ofNat 1, .ofNat 4611686018427387904)]), [none, some (false, 121)])
def sg_lna_b : sg_Cu := (214, 0, [(0, .inr (some (false, 118)))], ([.inl 1], [([(.ofNat 1, 2), (.negSucc 0, 4)], .ofNat 0, .ofNat 0), ([(.ofNat 1, 0), (.negSucc 0, 5)], .negSucc 41, .negSucc 41), ([(.ofNat 1, 0), (.negSucc 0, 3)], .ofNat 0, .ofNat 0), ([(.ofNat 1, 0), (.negSucc 0, 1)], .negSucc 4611686018427387903, .ofNat 0)]), [none, none, some (false, 121)])
theorem sg_lna_ok : sg_chk zK ex_mt k9 0 tX12_line 12 20 sg_lna [] [sg_lna_a, sg_lna_b] = true := by decide +kernel
def sg_lnb : sg_Cu := (183, 0, [(0, .inr (some (false, 118)))], ([.inl 1, .inl 2, .inr 7733260], [([(.ofNat 1, 0)], .ofNat 0, .ofNat 5), ([(.ofNat 1, 1)], .ofNat 0, .ofNat 5), ([(.ofNat 1, 2)], .negSucc 2147483647, .ofNat 2147483647), ([(.ofNat 1, 3)], .negSucc 2147483647, .ofNat 2147483647), ([(.ofNat 1, 2), (.negSucc 0, 3)], .ofNat 1, .ofNat 4611686018427387904)]), [none])
def sg_lnb_a : sg_Cu := (169, 0, [(0, .inr (some (false, 118)))], ([.inl 1, .inl 2], [([(.ofNat 1, 0), (.negSucc 0, 4)], .ofNat 0, .ofNat 0), ([(.ofNat 1, 1), (.negSucc 0, 5)], .negSucc 0, .negSucc 0)]), [])
theorem sg_lnb_ok : sg_chk zK ex_mt k9 0 tX12_line 7 20 sg_lnb [] [sg_lnb_a] = true := by decide +kernel
def sg_lnc : sg_Cu := (183, 0, [(0, .inr (some (false, 118)))], ([.inl 1, .inl 2, .inr 7733260], [([(.ofNat 1, 0)], .ofNat 0, .ofNat 5), ([(.ofNat 1, 1)], .ofNat 0, .ofNat 5), ([(.ofNat 1, 2)], .negSucc 2147483647, .ofNat 2147483647), ([(.ofNat 1, 3)], .negSucc 2147483647, .ofNat 2147483647), ([(.ofNat 1, 2), (.negSucc 0, 3)], .negSucc 4611686018427387903, .negSucc 0)]), [none])
def sg_lnc_a : sg_Cu := (169, 0, [(0, .inr (some (false, 118)))], ([.inl 1, .inl 2], [([(.ofNat 1, 0), (.negSucc 0, 4)], .ofNat 0, .ofNat 0), ([(.ofNat 1, 1), (.negSucc 0, 5)], .negSucc 0, .negSucc 0)]), [])
theorem sg_lnc_ok : sg_chk zK ex_mt k9 0 tX12_line 7 20 sg_lnc [] [sg_lnc_a] = true := by decide +kernel
def sg_lnd : sg_Cu := (183, 0, [(0, .inr (some (false, 118)))], ([.inr 7733260, .inr 7733258], [([(.ofNat 1, 0)], .negSucc 2147483647, .ofNat 2147483647), ([(.ofNat 1, 1)], .negSucc 2147483647, .ofNat 2147483647), ([(.ofNat 1, 2)], .negSucc 2147483647, .ofNat 2147483647), ([(.ofNat 1, 0), (.negSucc 0, 2)], .ofNat 0, .ofNat 0)]), [none])
def sg_lnd_p0 : sx_Po := (28858891257124862704305937573347373392392387160985434571251191458187784500608308553281933292152037822856416985088, true, [7733261, 7733262], [([(.ofNat 1, 3)], .ofNat 0, .ofNat 0), ([(.ofNat 1, 4)], .ofNat 3, .ofNat 3), ([(.ofNat 1, 1), (.negSucc 0, 5)], .ofNat 0, .ofNat 0)])
theorem sg_lnd_ok : sg_chk zK ex_mt k9 0 tX12_line 17 20 sg_lnd [sg_lnd_p0] [] = true := by decide +kernel
def sg_lne : sg_Cu := (215, 0, [(0, .inr (some (false, 118)))], ([.inl 1], [([(.ofNat 1, 0)], .negSucc 2147483647, .ofNat 2147483647)]), [])
def sg_lne_a : sg_Cu := (216, 0, [(0, .inr (some (false, 118)))], ([.inl 1], [([(.ofNat 1, 0), (.negSucc 0, 1)], .ofNat 0, .ofNat 0)]), [some (false, 118)])
theorem sg_lne_ok : sg_chk zK ex_mt k9 0 tX12_line 3 20 sg_lne [] [sg_lne_a] = true := by decide +kernel
def sg_lnf : sg_Cu := (219, 0, [(0, .inr (some (false, 118)))], ([.inl 1], [([(.ofNat 1, 0)], .ofNat 0, .ofNat 9)]), [])
def sg_lnf_a : sg_Cu := (227, 0, [(0, .inr (some (false, 118)))], ([.inl 1], [([(.ofNat 1, 2)], .ofNat 9, .ofNat 9), ([(.ofNat 1, 3)], .ofNat 1, .ofNat 1), ([(.ofNat 1, 0), (.negSucc 0, 4)], .negSucc 47, .negSucc 47), ([(.ofNat 1, 0), (.negSucc 0, 1)], .ofNat 0, .ofNat 0)]), [none, none, none, some (false, 118)])
theorem sg_lnf_ok : sg_chk zK ex_mt k9 0 tX12_line 8 20 sg_lnf [] [sg_lnf_a] = true := by decide +kernel
def sg_lngz : sg_Cu := (230, 0, [(0, .inr (some (false, 118)))], ([], [([(.ofNat 1, 0)], .ofNat 0, .ofNat 0)]), [none])
def sg_lngz_p0 : sx_Po := (0, true, [], [([(.ofNat 1, 1)], .ofNat 0, .ofNat 0)])
theorem sg_lngz_ok : sg_chk zK ex_mt k9 0 tX12_line 4 20 sg_lngz [sg_lngz_p0] [] = true := by decide +kernel
def sg_lng : sg_Cu := (230, 0, [(0, .inr (some (false, 118)))], ([.inr 7929857], [([(.ofNat 1, 0)], .ofNat 0, .ofNat 5), ([(.ofNat 1, 1)], .ofNat 1, .ofNat 1)]), [none])
def sg_lng_p0 : sx_Po := (5545339388241629719156828368286167406872874150751633150340959161229242615611251246079948812208279156194782421922807143657948315648, true, [7929857], [([(.ofNat 1, 2)], .ofNat 1, .ofNat 1), ([(.ofNat 1, 0), (.negSucc 0, 3)], .negSucc 0, .negSucc 0)])
theorem sg_lng_ok : sg_chk zK ex_mt k9 0 tX12_line 12 20 sg_lng [sg_lng_p0] [] = true := by decide +kernel
def sg_lnh : sg_Cu := (251, 0, [(0, .inr (some (false, 118)))], ([.inr 7733258], [([(.ofNat 1, 0)], .negSucc 2147483647, .ofNat 2147483647), ([(.ofNat 1, 1)], .negSucc 0, .negSucc 0)]), [none])
def sg_lnh_p0 : sx_Po := (28858891257124862704305937573347373392392387160985434571251191458187784500608308553281933292152037822856416985088, true, [7733261, 7733262], [([(.ofNat 1, 2)], .ofNat 0, .ofNat 0), ([(.ofNat 1, 3)], .ofNat 1, .ofNat 1), ([(.ofNat 1, 0), (.negSucc 0, 4)], .ofNat 0, .ofNat 0)])
theorem sg_lnh_ok : sg_chk zK ex_mt k9 0 tX12_line 17 20 sg_lnh [sg_lnh_p0] [] = true := by decide +kernel
def sg_lni : sg_Cu := (251, 0, [(0, .inr (some (false, 118)))], ([.inr 7733266], [([(.ofNat 1, 0)], .negSucc 2147483647, .ofNat 2147483647), ([(.ofNat 1, 1)], .ofNat 0, .ofNat 7)]), [none])
def sg_lni_a : sg_Cu := (267, 0, [(0, .inr (some (false, 118)))], ([.inl 1], [([(.ofNat 1, 1), (.negSucc 0, 3)], .ofNat 0, .ofNat 0), ([(.ofNat 1, 0), (.negSucc 0, 4)], .ofNat 0, .ofNat 0), ([(.ofNat 1, 1), (.negSucc 0, 2)], .ofNat 0, .ofNat 0)]), [none, none])
theorem sg_lni_ok : sg_chk zK ex_mt k9 0 tX12_line 8 20 sg_lni [] [sg_lni_a] = true := by decide +kernel
def sg_lnj : sg_Cu := (270, 0, [(0, .inr (some (false, 118)))], ([.inr 7733258], [([(.ofNat 1, 0)], .negSucc 2147483647, .ofNat 2147483647), ([(.ofNat 1, 1)], .ofNat 1, .ofNat 1)]), [none])
def sg_lnj_p0 : sx_Po := (28858891257124862704305937573347373392392387160985434571251191458187784500608308553281933292152037822856416985088, true, [7733261, 7733262], [([(.ofNat 1, 2)], .ofNat 0, .ofNat 0), ([(.ofNat 1, 3)], .ofNat 3, .ofNat 3), ([(.ofNat 1, 0), (.negSucc 0, 4)], .ofNat 0, .ofNat 0)])
theorem sg_lnj_ok : sg_chk zK ex_mt k9 0 tX12_line 15 20 sg_lnj [sg_lnj_p0] [] = true := by decide +kernel
def sg_lnk : sg_Cu := (270, 0, [(0, .inr (some (false, 118)))], ([.inl 1, .inr 7733266], [([(.ofNat 1, 0)], .negSucc 2147483647, .ofNat 2147483647), ([(.ofNat 1, 1)], .negSucc 2147483647, .ofNat 2147483647), ([(.ofNat 1, 2)], .ofNat 0, .ofNat 0)]), [none])
def sg_lnk_a : sg_Cu := (286, 0, [(0, .inr (some (false, 118)))], ([.inl 1], [([(.ofNat 1, 0), (.negSucc 0, 4)], .ofNat 0, .ofNat 0), ([(.ofNat 1, 5)], .ofNat 1, .ofNat 1), ([(.ofNat 1, 1), (.negSucc 0, 6)], .ofNat 0, .ofNat 0), ([(.ofNat 1, 0), (.negSucc 0, 3)], .ofNat 0, .ofNat 0)]), [none, none, none, some (false, 118)])
theorem sg_lnk_ok : sg_chk zK ex_mt k9 0 tX12_line 8 20 sg_lnk [] [sg_lnk_a] = true := by decide +kernel
def sg_lnl : sg_Cu := (291, 0, [(0, .inr (some (false, 118)))], ([.inl 1], [([(.ofNat 1, 0)], .negSucc 2147483647, .ofNat 2147483647)]), [])
def sg_lnl_a : sg_Cu := (292, 0, [(0, .inr (some (false, 118)))], ([.inl 1], [([(.ofNat 1, 0), (.negSucc 0, 1)], .ofNat 0, .ofNat 0)]), [some (false, 118)])
theorem sg_lnl_ok : sg_chk zK ex_mt k9 0 tX12_line 3 20 sg_lnl [] [sg_lnl_a] = true := by decide +kernel
def sg_lnm0 : sg_Cu := (295, 0, [(0, .inr (some (false, 118)))], ([.inl 1], [([(.ofNat 1, 0)], .ofNat 0, .ofNat 0)]), [])
def sg_lnm0_a : sg_Cu := (313, 0, [(0, .inr (some (false, 118)))], ([], [([(.ofNat 1, 1)], .ofNat 5, .ofNat 5), ([(.ofNat 1, 2)], .ofNat 1, .ofNat 1), ([(.ofNat 1, 3)], .ofNat 54, .ofNat 54)]), [none, none, none, some (false, 118)])
theorem sg_lnm0_ok : sg_chk zK ex_mt k9 0 tX12_line 16 20 sg_lnm0 [] [sg_lnm0_a] = true := by decide +kernel
def sg_lnm1 : sg_Cu := (295, 0, [(0, .inr (some (false, 118)))], ([.inl 1], [([(.ofNat 1, 0)], .ofNat 1, .ofNat 1)]), [])
def sg_lnm1_a : sg_Cu := (313, 0, [(0, .inr (some (false, 118)))], ([], [([(.ofNat 1, 1)], .ofNat 24, .ofNat 24), ([(.ofNat 1, 2)], .ofNat 0, .ofNat 0), ([(.ofNat 1, 3)], .ofNat 55, .ofNat 55)]), [none, none, none, some (false, 118)])
theorem sg_lnm1_ok : sg_chk zK ex_mt k9 0 tX12_line 15 20 sg_lnm1 [] [sg_lnm1_a] = true := by decide +kernel
def sg_lnm2 : sg_Cu := (295, 0, [(0, .inr (some (false, 118)))], ([.inl 1], [([(.ofNat 1, 0)], .ofNat 2, .ofNat 2)]), [])
def sg_lnm2_a : sg_Cu := (313, 0, [(0, .inr (some (false, 118)))], ([], [([(.ofNat 1, 1)], .ofNat 12, .ofNat 12), ([(.ofNat 1, 2)], .ofNat 0, .ofNat 0), ([(.ofNat 1, 3)], .ofNat 56, .ofNat 56)]), [none, none, none, some (false, 118)])
theorem sg_lnm2_ok : sg_chk zK ex_mt k9 0 tX12_line 15 20 sg_lnm2 [] [sg_lnm2_a] = true := by decide +kernel
def sg_lnm3 : sg_Cu := (295, 0, [(0, .inr (some (false, 118)))], ([.inl 1], [([(.ofNat 1, 0)], .ofNat 3, .ofNat 3)]), [])
def sg_lnm3_a : sg_Cu := (313, 0, [(0, .inr (some (false, 118)))], ([], [([(.ofNat 1, 1)], .ofNat 12, .ofNat 12), ([(.ofNat 1, 2)], .ofNat 0, .ofNat 0), ([(.ofNat 1, 3)], .ofNat 57, .ofNat 57)]), [none, none, none, some (false, 118)])
theorem sg_lnm3_ok : sg_chk zK ex_mt k9 0 tX12_line 15 20 sg_lnm3 [] [sg_lnm3_a] = true := by decide +kernel
def sg_lnm4 : sg_Cu := (295, 0, [(0, .inr (some (false, 118)))], ([.inl 1], [([(.ofNat 1, 0)], .ofNat 4, .ofNat 4)]), [])
def sg_lnm4_a : sg_Cu := (313, 0, [(0, .inr (some (false, 118)))], ([], [([(.ofNat 1, 1)], .ofNat 30, .ofNat 30), ([(.ofNat 1, 2)], .ofNat 0, .ofNat 0), ([(.ofNat 1, 3)], .ofNat 58, .ofNat 58)]), [none, none, none, some (false, 118)])
theorem sg_lnm4_ok : sg_chk zK ex_mt k9 0 tX12_line 15 20 sg_lnm4 [] [sg_lnm4_a] = true := by decide +kernel
def sg_lnm5 : sg_Cu := (295, 0, [(0, .inr (some (false, 118)))], ([.inl 1], [([(.ofNat 1, 0)], .ofNat 5, .ofNat 5)]), [])
def sg_lnm5_a : sg_Cu := (313, 0, [(0, .inr (some (false, 118)))], ([], [([(.ofNat 1, 1)], .ofNat 11, .ofNat 11), ([(.ofNat 1, 2)], .ofNat 0, .ofNat 0), ([(.ofNat 1, 3)], .ofNat 59, .ofNat 59)]), [none, none, none, some (false, 118)])
theorem sg_lnm5_ok : sg_chk zK ex_mt k9 0 tX12_line 15 20 sg_lnm5 [] [sg_lnm5_a] = true := by decide +kernel
def sg_lnm6 : sg_Cu := (295, 0, [(0, .inr (some (false, 118)))], ([.inl 1], [([(.ofNat 1, 0)], .ofNat 6, .ofNat 6)]), [])
def sg_lnm6_a : sg_Cu := (313, 0, [(0, .inr (some (false, 118)))], ([], [([(.ofNat 1, 1)], .ofNat 12, .ofNat 12), ([(.ofNat 1, 2)], .ofNat 0, .ofNat 0), ([(.ofNat 1, 3)], .ofNat 60, .ofNat 60)]), [none, none, none, some (false, 118)])
theorem sg_lnm6_ok : sg_chk zK ex_mt k9 0 tX12_line 15 20 sg_lnm6 [] [sg_lnm6_a] = true := by decide +kernel
def sg_lnm7 : sg_Cu := (295, 0, [(0, .inr (some (false, 118)))], ([.inl 1], [([(.ofNat 1, 0)], .ofNat 7, .ofNat 7)]), [])
def sg_lnm7_a : sg_Cu := (313, 0, [(0, .inr (some (false, 118)))], ([], [([(.ofNat 1, 1)], .ofNat 99, .ofNat 99), ([(.ofNat 1, 2)], .ofNat 0, .ofNat 0), ([(.ofNat 1, 3)], .ofNat 61, .ofNat 61)]), [none, none, none, some (false, 118)])
theorem sg_lnm7_ok : sg_chk zK ex_mt k9 0 tX12_line 15 20 sg_lnm7 [] [sg_lnm7_a] = true := by decide +kernel
def sg_lnn : sg_Cu := (316, 0, [(0, .inr (some (false, 118)))], ([], [([(.ofNat 1, 0)], .ofNat 0, .ofNat 1)]), [none])
def sg_lnn_p0 : sx_Po := (0, true, [], [([(.ofNat 1, 0), (.negSucc 0, 1)], .ofNat 0, .ofNat 0)])
theorem sg_lnn_ok : sg_chk zK ex_mt k9 0 tX12_line 2 20 sg_lnn [sg_lnn_p0] [] = true := by decide +kernel
def sg_so1 : sg_Cu := (0, 0, [(0, .inr (some (false, 118)))], ([.inr 7733250], [([(.ofNat 1, 0)], .ofNat 0, .ofNat 940)]), [])
def sg_so1_a : sg_Cu := (32, 181706908404207601822942807078898804530790684677610348427319123264193044542128167905449754916586655619206996896946850433030585384435712, [(0, .inr (some (false, 118)))], ([.inr 7733250, .inr 7733251, .inr 7733252, .inr 7733253, .inr 7733265, .inr 7733266, .inr 7733261, .inr 7929856, .inr 7929857, .inr 7929858, .inr 7929859, .inr 7929860, .inr 7929861, .inr 7929862, .inr 7929863, .inr 7929864, .inr 7929865, .inr 7929866, .inr 7929867, .inr 7929868, .inr 7929869, .inr 7929870, .inr 7929871, .inr 7929872, .inr 7929873, .inr 7929874, .inr 7929875, .inr 7929876, .inr 7929877, .inr 7929878, .inr 7929879, .inr 7929880, .inr 7929881, .inr 7929882, .inr 7929883, .inr 7929884, .inr 7929885, .inr 7929886, .inr 7929887, .inr 7929888, .inr 7929889, .inr 7929890, .inr 7929891, .inr 7929892, .inr 7929893, .inr 7929894, .inr 7929895, .inr 7929896, .inr 7929897, .inr 7929898, .inr 7929899, .inr 7929900, .inr 7929901, .inr 7929902, .inr 7929903, .inr 7929904, .inr 7929905, .inr 7929906, .inr 7929907, .inr 7929908, .inr 7929909, .inr 7929910, .inr 7929911, .inr 7929912, .inr 7929913, .inr 7929914, .inr 7929915, .inr 7929916, .inr 7929917], [([(.ofNat 1, 1)], .ofNat 0, .ofNat 0), ([(.ofNat 1, 0), (.negSucc 0, 2)], .ofNat 0, .ofNat 0), ([(.ofNat 1, 3)], .ofNat 0, .ofNat 0), ([(.ofNat 1, 4)], .ofNat 900, .ofNat 900), ([(.ofNat 1, 5)], .ofNat 0, .ofNat 0), ([(.ofNat 1, 6)], .ofNat 0, .ofNat 0), ([(.ofNat 1, 7)], .ofNat 0, .ofNat 0), ([(.ofNat 1, 8)], .ofNat 0, .ofNat 0), ([(.ofNat 1, 9)], .ofNat 0, .ofNat 0), ([(.ofNat 1, 10)], .ofNat 0, .ofNat 0), ([(.ofNat 1, 11)], .ofNat 0, .ofNat 0), ([(.ofNat 1, 12)], .ofNat 0, .ofNat 0), ([(.ofNat 1, 13)], .ofNat 0, .ofNat 0), ([(.ofNat 1, 14)], .ofNat 0, .ofNat 0), ([(.ofNat 1, 15)], .ofNat 0, .ofNat 0), ([(.ofNat 1, 16)], .ofNat 0, .ofNat 0), ([(.ofNat 1, 17)], .ofNat 0, .ofNat 0), ([(.ofNat 1, 18)], .ofNat 0, .ofNat 0), ([(.ofNat 1, 19)], .ofNat 0, .ofNat 0), ([(.ofNat 1, 20)], .ofNat 0, .ofNat 0), ([(.ofNat 1, 21)], .ofNat 0, .ofNat 0), ([(.ofNat 1, 22)], .ofNat 0, .ofNat 0), ([(.ofNat 1, 23)], .ofNat 0, .ofNat 0), ([(.ofNat 1, 24)], .ofNat 0, .ofNat 0), ([(.ofNat 1, 25)], .ofNat 0, .ofNat 0), ([(.ofNat 1, 26)], .ofNat 0, .ofNat 0), ([(.ofNat 1, 27)], .ofNat 0, .ofNat 0), ([(.ofNat 1, 28)], .ofNat 0, .ofNat 0), ([(.ofNat 1, 29)], .ofNat 0, .ofNat 0), ([(.ofNat 1, 30)], .ofNat 0, .ofNat 0), ([(.ofNat 1, 31)], .ofNat 0, .ofNat 0), ([(.ofNat 1, 32)], .ofNat 0, .ofNat 0), ([(.ofNat 1, 33)], .ofNat 0, .ofNat 0), ([(.ofNat 1, 34)], .ofNat 0, .ofNat 0), ([(.ofNat 1, 35)], .ofNat 0, .ofNat 0), ([(.ofNat 1, 36)], .ofNat 0, .ofNat 0), ([(.ofNat 1, 37)], .ofNat 0, .ofNat 0), ([(.ofNat 1, 38)], .ofNat 0, .ofNat 0), ([(.ofNat 1, 39)], .ofNat 0, .ofNat 0), ([(.ofNat 1, 40)], .ofNat 0, .ofNat 0), ([(.ofNat 1, 41)], .ofNat 0, .ofNat 0), ([(.ofNat 1, 42)], .ofNat 0, .ofNat 0), ([(.ofNat 1, 43)], .ofNat 0, .ofNat 0), ([(.ofNat 1, 44)], .ofNat 0, .ofNat 0), ([(.ofNat 1, 45)], .ofNat 0, .ofNat 0), ([(.ofNat 1, 46)], .ofNat 0, .ofNat 0), ([(.ofNat 1, 47)], .ofNat 0, .ofNat 0), ([(.ofNat 1, 48)], .ofNat 0, .ofNat 0), ([(.ofNat 1, 49)], .ofNat 0, .ofNat 0), ([(.ofNat 1, 50)], .ofNat 0, .ofNat 0), ([(.ofNat 1, 51)], .ofNat 0, .ofNat 0), ([(.ofNat 1, 52)], .ofNat 0, .ofNat 0), ([(.ofNat 1, 53)], .ofNat 0, .ofNat 0), ([(.ofNat 1, 54)], .ofNat 0, .ofNat 0), ([(.ofNat 1, 55)], .ofNat 0, .ofNat 0), ([(.ofNat 1, 56)], .ofNat 0, .ofNat 0), ([(.ofNat 1, 57)], .ofNat 0, .ofNat 0), ([(.ofNat 1, 58)], .ofNat 0, .ofNat 0), ([(.ofNat 1, 59)], .ofNat 0, .ofNat 0), ([(.ofNat 1, 60)], .ofNat 0, .ofNat 0), ([(.ofNat 1, 61)], .ofNat 0, .ofNat 0), ([(.ofNat 1, 62)], .ofNat 1, .ofNat 1), ([(.ofNat 1, 63)], .ofNat 12, .ofNat 12), ([(.ofNat 1, 64)], .ofNat 6, .ofNat 6), ([(.ofNat 1, 65)], .ofNat 6, .ofNat 6), ([(.ofNat 1, 66)], .ofNat 0, .ofNat 0), ([(.ofNat 1, 67)], .ofNat 6, .ofNat 6), ([(.ofNat 1, 68)], .ofNat 3, .ofNat 3), ([(.ofNat 1, 69)], .ofNat 1, .ofNat 1)]), [some (false, 118)])
theorem sg_so1_ok : sg_chk zK ex_mt k9 0 tX12_station 695 30 sg_so1 [] [sg_so1_a] = true := by decide +kernel
def sg_so2a : sg_Cu := (35, 0, [(0, .inr (some (false, 118)))], ([.inr 7733257], [([(.ofNat 1, 0)], .ofNat 0, .ofNat 0)]), [])
def sg_so2a_a : sg_Cu := (80, 0, [(0, .inr (some (false, 118)))], ([.inl 1], [([(.ofNat 1, 1)], .ofNat 0, .ofNat 0)]), [])
theorem sg_so2a_ok : sg_chk zK ex_mt k9 0 tX12_station 7 30 sg_so2a [] [sg_so2a_a] = true := by decide +kernel
def sg_so2b : sg_Cu := (35, 0, [(0, .inr (some (false, 118)))], ([.inr 7733257], [([(.ofNat 1, 0)], .ofNat 1, .ofNat 4)]), [])
def sg_so2b_a : sg_Cu := (43, 0, [(0, .inr (some (false, 118)))], ([], []), [some (false, 118)])
theorem sg_so2b_ok : sg_chk zK ex_mt k9 0 tX12_station 6 30 sg_so2b [] [sg_so2b_a] = true := by decide +kernel
def sg_so3a : sg_Cu := (46, 0, [(0, .inr (some (false, 118)))], ([.inr 7733262], [([(.ofNat 1, 0)], .ofNat 0, .ofNat 940), ([(.ofNat 1, 1)], .ofNat 0, .ofNat 0)]), [none])
def sg_so3a_p0 : sx_Po := (0, true, [], [([(.ofNat 1, 0), (.ofNat 1, 2)], .negSucc 0, .negSucc 0)])
theorem sg_so3a_ok : sg_chk zK ex_mt k9 0 tX12_station 7 30 sg_so3a [sg_so3a_p0] [] = true := by decide +kernel
def sg_so3b : sg_Cu := (46, 0, [(0, .inr (some (false, 118)))], ([], [([(.ofNat 1, 0)], .ofNat 1, .ofNat 1)]), [none])
def sg_so3b_a : sg_Cu := (52, 0, [(0, .inr (some (false, 118)))], ([], [([(.ofNat 1, 1)], .ofNat 59, .ofNat 59)]), [none, some (false, 118)])
theorem sg_so3b_ok : sg_chk zK ex_mt k9 0 tX12_station 5 30 sg_so3b [] [sg_so3b_a] = true := by decide +kernel
def sg_so4a : sg_Cu := (55, 0, [(0, .inr (some (false, 118)))], ([.inr 7733262], [([(.ofNat 1, 0)], .ofNat 0, .ofNat 940), ([(.ofNat 1, 1)], .ofNat 0, .ofNat 0)]), [none])
def sg_so4a_p0 : sx_Po := (0, true, [], [([(.ofNat 1, 0), (.ofNat 1, 2)], .negSucc 0, .negSucc 0)])
theorem sg_so4a_ok : sg_chk zK ex_mt k9 0 tX12_station 7 30 sg_so4a [sg_so4a_p0] [] = true := by decide +kernel
def sg_so4b : sg_Cu := (55, 0, [(0, .inr (some (false, 118)))], ([.inr 7733265], [([(.ofNat 1, 0)], .ofNat 0, .ofNat 940), ([(.ofNat 1, 1)], .ofNat 1, .ofNat 1)]), [none])
def sg_so4b_a : sg_Cu := (35, 153914086704665934422965000391185991426092731525255651046673021110334850669910978950836977558144201721900890587136, [(0, .inr (some (false, 118)))], ([.inr 7733265], [([(.ofNat 1, 0), (.negSucc 0, 2)], .negSucc 0, .negSucc 0)]), [])
theorem sg_so4b_ok : sg_chk zK ex_mt k9 0 tX12_station 10 30 sg_so4b [] [sg_so4b_a] = true := by decide +kernel
def sg_so5a : sg_Cu := (80, 0, [(0, .inr (some (false, 118)))], ([.inl 1], [([(.ofNat 1, 0)], .ofNat 0, .ofNat 61)]), [])
def sg_so5a_a : sg_Cu := (103, 0, [(0, .inr (some (false, 118)))], ([.inl 1], [([(.ofNat 1, 0), (.negSucc 0, 2)], .ofNat 0, .ofNat 0), ([(.ofNat 1, 0), (.negSucc 0, 3)], .ofNat 0, .ofNat 0), ([(.ofNat 1, 0), (.negSucc 0, 1)], .ofNat 0, .ofNat 0)]), [none, some (false, 121), none, some (false, 120)])
theorem sg_so5a_ok : sg_chk zK ex_mt k9 0 tX12_station 14 30 sg_so5a [] [sg_so5a_a] = true := by decide +kernel
def sg_so5b : sg_Cu := (104, 0, [(0, .inr (some (false, 118)))], ([.inl 1], [([(.ofNat 1, 0)], .negSucc 2147483647, .ofNat 2147483647), ([(.ofNat 1, 1)], .negSucc 2147483647, .ofNat 2147483647), ([(.ofNat 1, 2)], .negSucc 2147483647, .ofNat 2147483647)]), [none, none, some (false, 120)])
def sg_so5b_a : sg_Cu := (108, 0, [(0, .inr (some (false, 118)))], ([.inl 1], [([(.ofNat 1, 1), (.negSucc 0, 4)], .ofNat 0, .ofNat 0), ([(.ofNat 1, 2), (.negSucc 0, 5)], .ofNat 0, .ofNat 0), ([(.ofNat 1, 0), (.negSucc 0, 3)], .ofNat 0, .ofNat 0)]), [none, none, some (false, 120)])
theorem sg_so5b_ok : sg_chk zK ex_mt k9 0 tX12_station 3 30 sg_so5b [] [sg_so5b_a] = true := by decide +kernel
def sg_so5c : sg_Cu := (109, 0, [(0, .inr (some (false, 118)))], ([.inl 1], [([(.ofNat 1, 0)], .ofNat 0, .ofNat 276)]), [])
def sg_so5c_a : sg_Cu := (80, 0, [(0, .inr (some (false, 118)))], ([.inl 1], [([(.ofNat 1, 0), (.negSucc 0, 1)], .negSucc 0, .negSucc 0)]), [])
theorem sg_so5c_ok : sg_chk zK ex_mt k9 0 tX12_station 4 30 sg_so5c [] [sg_so5c_a] = true := by decide +kernel
def sg_so6 : sg_Cu := (80, 0, [(0, .inr (some (false, 118)))], ([.inl 1], [([(.ofNat 1, 0)], .ofNat 62, .ofNat 276)]), [])
def sg_so6_a : sg_Cu := (108, 0, [(0, .inr (some (false, 118)))], ([.inl 1], [([(.ofNat 1, 2)], .ofNat 0, .ofNat 0), ([(.ofNat 1, 0), (.negSucc 0, 3)], .ofNat 0, .ofNat 0), ([(.ofNat 1, 0), (.negSucc 0, 1)], .ofNat 0, .ofNat 0)]), [none, none, some (false, 120)])
theorem sg_so6_ok : sg_chk zK ex_mt k9 0 tX12_station 12 30 sg_so6 [] [sg_so6_a] = true := by decide +kernel
def sg_so7 : sg_Cu := (80, 0, [(0, .inr (some (false, 118)))], ([.inl 1, .inr 7733265], [([(.ofNat 1, 0)], .ofNat 277, .ofNat 277), ([(.ofNat 1, 1)], .negSucc 2147483647, .ofNat 2147483647)]), [])
def sg_so7_p0 : sx_Po := (2462625387274654950767440006258975862817483704404090416746768337765357610718575663213391640930307227550414249394176, true, [7733269], [([(.ofNat 1, 1), (.negSucc 0, 2)], .ofNat 0, .ofNat 0), ([(.ofNat 1, 3)], .ofNat 0, .ofNat 0)])
theorem sg_so7_ok : sg_chk zK ex_mt k9 0 tX12_station 10 30 sg_so7 [sg_so7_p0] [] = true := by decide +kernel
def sg_ba1 : sg_Cu := (0, 0, [(0, .inr (some (false, 1)))], ([.inl 1, .inr 65537], [([(.ofNat 1, 0)], .negSucc 2147483647, .ofNat 2147483647), ([(.ofNat 1, 1)], .ofNat 0, .ofNat 940)]), [])
def sg_ba1_a : sg_Cu := (26, 0, [(0, .inr (some (false, 1)))], ([], [([(.ofNat 1, 0), (.negSucc 0, 2)], .ofNat 0, .ofNat 0), ([(.ofNat 1, 0)], .ofNat 0, .ofNat 2147483647), ([(.ofNat 1, 0), (.negSucc 0, 1)], .negSucc 4611686018427387903, .negSucc 0)]), [none, some (false, 2)])
def sg_ba1_p0 : sx_Po := (0, true, [], [([(.ofNat 1, 2)], .ofNat 0, .ofNat 0), ([(.ofNat 1, 0)], .negSucc 2147483647, .negSucc 0)])
def sg_ba1_p1 : sx_Po := (0, true, [], [([(.ofNat 1, 2)], .ofNat 0, .ofNat 0), ([(.ofNat 1, 0), (.negSucc 0, 1)], .ofNat 0, .ofNat 4611686018427387904)])
theorem sg_ba1_ok : sg_chk z9 ex_mt k9 60 tX10_byteAt 16 3 sg_ba1 [sg_ba1_p0, sg_ba1_p1] [sg_ba1_a] = true := by decide +kernel
def sg_ba2 : sg_Cu := (27, 0, [(0, .inr (some (false, 1)))], ([], [([(.ofNat 1, 0)], .negSucc 2147483647, .ofNat 2147483647)]), [none])
def sg_ba2_a : sg_Cu := (30, 0, [(0, .inr (some (false, 1)))], ([], [([(.ofNat 1, 1)], .ofNat 255, .ofNat 255), ([(.ofNat 1, 0), (.negSucc 0, 2)], .ofNat 0, .ofNat 0)]), [none, none])
theorem sg_ba2_ok : sg_chk z9 ex_mt k9 60 tX10_byteAt 3 3 sg_ba2 [] [sg_ba2_a] = true := by decide +kernel
def sg_ba3 : sg_Cu := (31, 0, [(0, .inr (some (false, 1)))], ([], [([(.ofNat 1, 0)], .negSucc 2147483647, .ofNat 2147483647)]), [none])
def sg_ba3_p0 : sx_Po := (0, true, [], [([(.ofNat 1, 0), (.negSucc 0, 1)], .ofNat 0, .ofNat 0)])
theorem sg_ba3_ok : sg_chk z9 ex_mt k9 60 tX10_byteAt 3 3 sg_ba3 [sg_ba3_p0] [] = true := by decide +kernel
def sg_st1 : sg_Cu := (0, 0, [(0, .inr (some (false, 3)))], ([.inr 196610], [([(.ofNat 1, 0)], .negSucc 2147483647, .ofNat 2147483647)]), [])
def sg_st1_a : sg_Cu := (8, 16777216, [(0, .inr (some (false, 3)))], ([.inr 196612], [([(.ofNat 1, 0), (.negSucc 0, 1)], .ofNat 0, .ofNat 0)]), [])
theorem sg_st1_ok : sg_chk z9 ex_mt k9 60 tX6_step 6 10 sg_st1 [] [sg_st1_a] = true := by decide +kernel
def sg_st2 : sg_Cu := (8, 0, [(0, .inr (some (false, 3)))], ([.inr 196612, .inr 65537], [([(.ofNat 1, 0)], .negSucc 2147483647, .ofNat 2147483647), ([(.ofNat 1, 1)], .ofNat 0, .ofNat 940)]), [])
def sg_st2_a : sg_Cu := (30, 0, [(0, .inr (some (false, 3)))], ([], [([(.ofNat 1, 0), (.negSucc 0, 2)], .ofNat 0, .ofNat 0), ([(.ofNat 1, 0), (.negSucc 0, 1)], .negSucc 4611686018427387903, .negSucc 0)]), [none, some (false, 1)])
def sg_st2_b : sg_Cu := (52, 0, [(0, .inr (some (false, 3)))], ([], [([(.ofNat 1, 0), (.negSucc 0, 1)], .ofNat 0, .ofNat 4611686018427387904)]), [])
theorem sg_st2_ok : sg_chk z9 ex_mt k9 60 tX6_step 12 10 sg_st2 [] [sg_st2_a, sg_st2_b] = true := by decide +kernel
def sg_st3a : sg_Cu := (33, 0, [(0, .inr (some (false, 3)))], ([.inr 196612], [([(.ofNat 1, 0)], .ofNat 0, .ofNat 939), ([(.ofNat 1, 1)], .ofNat 32, .ofNat 32)]), [none])
def sg_st3a_a : sg_Cu := (8, 16777216, [(0, .inr (some (false, 3)))], ([.inr 196612], [([(.ofNat 1, 0), (.negSucc 0, 2)], .negSucc 0, .negSucc 0)]), [])
theorem sg_st3a_ok : sg_chk z9 ex_mt k9 60 tX6_step 17 10 sg_st3a [] [sg_st3a_a] = true := by decide +kernel
def sg_st3b : sg_Cu := (33, 0, [(0, .inr (some (false, 3)))], ([.inr 196612], [([(.ofNat 1, 0)], .ofNat 0, .ofNat 939), ([(.ofNat 1, 1)], .ofNat 10, .ofNat 10)]), [none])
def sg_st3b_a : sg_Cu := (8, 16777216, [(0, .inr (some (false, 3)))], ([.inr 196612], [([(.ofNat 1, 0), (.negSucc 0, 2)], .negSucc 0, .negSucc 0)]), [])
theorem sg_st3b_ok : sg_chk z9 ex_mt k9 60 tX6_step 20 10 sg_st3b [] [sg_st3b_a] = true := by decide +kernel
def sg_st3c : sg_Cu := (33, 0, [(0, .inr (some (false, 3)))], ([], [([(.ofNat 1, 0)], .ofNat 0, .ofNat 9)]), [none])
def sg_st3c_a : sg_Cu := (52, 0, [(0, .inr (some (false, 3)))], ([], []), [])
theorem sg_st3c_ok : sg_chk z9 ex_mt k9 60 tX6_step 12 10 sg_st3c [] [sg_st3c_a] = true := by decide +kernel
def sg_st3d : sg_Cu := (33, 0, [(0, .inr (some (false, 3)))], ([], [([(.ofNat 1, 0)], .ofNat 11, .ofNat 31)]), [none])
def sg_st3d_a : sg_Cu := (52, 0, [(0, .inr (some (false, 3)))], ([], []), [])
theorem sg_st3d_ok : sg_chk z9 ex_mt k9 60 tX6_step 12 10 sg_st3d [] [sg_st3d_a] = true := by decide +kernel
def sg_st3e : sg_Cu := (33, 0, [(0, .inr (some (false, 3)))], ([], [([(.ofNat 1, 0)], .ofNat 33, .ofNat 255)]), [none])
def sg_st3e_a : sg_Cu := (52, 0, [(0, .inr (some (false, 3)))], ([], []), [])
theorem sg_st3e_ok : sg_chk z9 ex_mt k9 60 tX6_step 12 10 sg_st3e [] [sg_st3e_a] = true := by decide +kernel
def sg_st4 : sg_Cu := (52, 0, [(0, .inr (some (false, 3)))], ([.inr 196612, .inr 65537, .inr 196609], [([(.ofNat 1, 0)], .negSucc 2147483647, .ofNat 2147483647), ([(.ofNat 1, 1)], .ofNat 0, .ofNat 940), ([(.ofNat 1, 2)], .negSucc 2147483647, .ofNat 2147483647)]), [])
def sg_st4_a : sg_Cu := (128, 33554432, [(0, .inr (some (false, 3)))], ([.inr 196613], [([(.ofNat 1, 0), (.negSucc 0, 4)], .ofNat 0, .ofNat 0), ([(.ofNat 1, 3)], .ofNat 0, .ofNat 0), ([(.ofNat 1, 0), (.negSucc 0, 1)], .negSucc 4611686018427387903, .negSucc 0), ([(.ofNat 1, 0), (.negSucc 0, 2)], .negSucc 4611686018427387903, .negSucc 0)]), [none, some (false, 1)])
def sg_st4_b : sg_Cu := (128, 0, [(0, .inr (some (false, 3)))], ([.inr 196613], [([(.ofNat 1, 0), (.negSucc 0, 4)], .ofNat 0, .ofNat 0), ([(.ofNat 1, 3)], .ofNat 0, .ofNat 0), ([(.ofNat 1, 0), (.negSucc 0, 1)], .negSucc 4611686018427387903, .negSucc 0), ([(.ofNat 1, 1), (.negSucc 0, 2)], .negSucc 4611686018427387903, .ofNat 0)]), [none, some (false, 1)])
def sg_st4_p0 : sx_Po := (58720256, false, [196611, 196612, 196613], [([(.ofNat 1, 0), (.negSucc 0, 2)], .ofNat 0, .ofNat 4611686018427387904), ([(.ofNat 1, 1), (.negSucc 0, 2)], .ofNat 1, .ofNat 4611686018427387904), ([(.ofNat 1, 3)], .ofNat 1, .ofNat 1), ([(.ofNat 1, 2), (.negSucc 0, 4)], .ofNat 0, .ofNat 0), ([(.ofNat 1, 5)], .ofNat 0, .ofNat 0)])
def sg_st4_p1 : sx_Po := (41943040, false, [196611, 196613], [([(.ofNat 1, 0), (.negSucc 0, 2)], .negSucc 4611686018427387903, .negSucc 0), ([(.ofNat 1, 0), (.negSucc 0, 1)], .ofNat 0, .ofNat 4611686018427387904), ([(.ofNat 1, 3)], .ofNat 0, .ofNat 0), ([(.ofNat 1, 4)], .ofNat 0, .ofNat 0)])
def sg_st4_p2 : sx_Po := (41943040, false, [196611, 196613], [([(.ofNat 1, 1), (.negSucc 0, 2)], .negSucc 4611686018427387903, .ofNat 0), ([(.ofNat 1, 0), (.negSucc 0, 1)], .ofNat 0, .ofNat 4611686018427387904), ([(.ofNat 1, 3)], .ofNat 0, .ofNat 0), ([(.ofNat 1, 4)], .ofNat 0, .ofNat 0)])
theorem sg_st4_ok : sg_chk z9 ex_mt k9 60 tX6_step 26 10 sg_st4 [sg_st4_p0, sg_st4_p1, sg_st4_p2] [sg_st4_a, sg_st4_b] = true := by decide +kernel
def sg_st5 : sg_Cu := (131, 0, [(0, .inr (some (false, 3)))], ([.inr 196612], [([(.ofNat 1, 0)], .negSucc 2147483647, .ofNat 2147483647), ([(.ofNat 1, 1)], .ofNat 0, .ofNat 255)]), [none])
def sg_st5_a : sg_Cu := (155, 0, [(0, .inr (some (false, 3)))], ([], [([(.ofNat 1, 1)], .ofNat 97, .ofNat 122)]), [some (false, 3)])
def sg_st5_b : sg_Cu := (145, 0, [(0, .inr (some (false, 3)))], ([], [([(.ofNat 1, 0), (.negSucc 0, 2)], .ofNat 0, .ofNat 0), ([(.ofNat 1, 1)], .ofNat 0, .ofNat 96)]), [none, some (false, 1)])
def sg_st5_c : sg_Cu := (145, 0, [(0, .inr (some (false, 3)))], ([], [([(.ofNat 1, 0), (.negSucc 0, 2)], .ofNat 0, .ofNat 0), ([(.ofNat 1, 1)], .ofNat 123, .ofNat 255)]), [none, some (false, 1)])
theorem sg_st5_ok : sg_chk z9 ex_mt k9 60 tX6_step 16 10 sg_st5 [] [sg_st5_a, sg_st5_b, sg_st5_c] = true := by decide +kernel
def sg_st6 : sg_Cu := (148, 0, [(0, .inr (some (false, 3)))], ([.inr 196612], [([(.ofNat 1, 0)], .negSucc 2147483647, .ofNat 2147483647), ([(.ofNat 1, 1)], .ofNat 0, .ofNat 255)]), [none])
def sg_st6_a : sg_Cu := (155, 0, [(0, .inr (some (false, 3)))], ([], [([(.ofNat 1, 1)], .ofNat 48, .ofNat 57)]), [some (false, 3)])
def sg_st6_b : sg_Cu := (170, 0, [(0, .inr (some (false, 3)))], ([], [([(.ofNat 1, 0), (.negSucc 0, 2)], .ofNat 0, .ofNat 0), ([(.ofNat 1, 1)], .ofNat 0, .ofNat 47)]), [none, some (false, 1), some (false, 3)])
def sg_st6_c : sg_Cu := (170, 0, [(0, .inr (some (false, 3)))], ([], [([(.ofNat 1, 0), (.negSucc 0, 2)], .ofNat 0, .ofNat 0), ([(.ofNat 1, 1)], .ofNat 58, .ofNat 255)]), [none, some (false, 1), some (false, 3)])
theorem sg_st6_ok : sg_chk z9 ex_mt k9 60 tX6_step 17 10 sg_st6 [] [sg_st6_a, sg_st6_b, sg_st6_c] = true := by decide +kernel
def sg_st7a : sg_Cu := (173, 0, [(0, .inr (some (false, 3)))], ([.inr 196612], [([(.ofNat 1, 0)], .ofNat 0, .ofNat 939), ([(.ofNat 1, 1)], .ofNat 0, .ofNat 39)]), [none, some (false, 3)])
def sg_st7a_p0 : sx_Po := (12582912, false, [196611, 196610], [([(.ofNat 1, 2)], .ofNat 1, .ofNat 1), ([(.ofNat 1, 0), (.negSucc 0, 3)], .negSucc 0, .negSucc 0)])
theorem sg_st7a_ok : sg_chk z9 ex_mt k9 60 tX6_step 32 10 sg_st7a [sg_st7a_p0] [] = true := by decide +kernel
def sg_st7b : sg_Cu := (173, 0, [(0, .inr (some (false, 3)))], ([.inr 196612], [([(.ofNat 1, 0)], .ofNat 0, .ofNat 939), ([(.ofNat 1, 1)], .ofNat 40, .ofNat 40)]), [none, some (false, 3)])
def sg_st7b_p0 : sx_Po := (12582912, false, [196611, 196610], [([(.ofNat 1, 2)], .ofNat 4, .ofNat 4), ([(.ofNat 1, 0), (.negSucc 0, 3)], .negSucc 0, .negSucc 0)])
theorem sg_st7b_ok : sg_chk z9 ex_mt k9 60 tX6_step 31 10 sg_st7b [sg_st7b_p0] [] = true := by decide +kernel
def sg_st7c : sg_Cu := (173, 0, [(0, .inr (some (false, 3)))], ([.inr 196612], [([(.ofNat 1, 0)], .ofNat 0, .ofNat 939), ([(.ofNat 1, 1)], .ofNat 41, .ofNat 41)]), [none, some (false, 3)])
def sg_st7c_p0 : sx_Po := (12582912, false, [196611, 196610], [([(.ofNat 1, 2)], .ofNat 4, .ofNat 4), ([(.ofNat 1, 0), (.negSucc 0, 3)], .negSucc 0, .negSucc 0)])
theorem sg_st7c_ok : sg_chk z9 ex_mt k9 60 tX6_step 34 10 sg_st7c [sg_st7c_p0] [] = true := by decide +kernel
def sg_st7d : sg_Cu := (173, 0, [(0, .inr (some (false, 3)))], ([.inr 196612], [([(.ofNat 1, 0)], .ofNat 0, .ofNat 939), ([(.ofNat 1, 1)], .ofNat 42, .ofNat 47)]), [none, some (false, 3)])
def sg_st7d_p0 : sx_Po := (12582912, false, [196611, 196610], [([(.ofNat 1, 2)], .ofNat 1, .ofNat 1), ([(.ofNat 1, 0), (.negSucc 0, 3)], .negSucc 0, .negSucc 0)])
theorem sg_st7d_ok : sg_chk z9 ex_mt k9 60 tX6_step 32 10 sg_st7d [sg_st7d_p0] [] = true := by decide +kernel
def sg_st7f : sg_Cu := (173, 0, [(0, .inr (some (false, 3)))], ([.inr 196612], [([(.ofNat 1, 0)], .ofNat 0, .ofNat 939), ([(.ofNat 1, 1)], .ofNat 58, .ofNat 58)]), [none, some (false, 3)])
def sg_st7f_p0 : sx_Po := (12582912, false, [196611, 196610], [([(.ofNat 1, 2)], .ofNat 1, .ofNat 1), ([(.ofNat 1, 0), (.negSucc 0, 3)], .negSucc 0, .negSucc 0)])
theorem sg_st7f_ok : sg_chk z9 ex_mt k9 60 tX6_step 32 10 sg_st7f [sg_st7f_p0] [] = true := by decide +kernel
def sg_st7g : sg_Cu := (173, 0, [(0, .inr (some (false, 3)))], ([.inr 196612], [([(.ofNat 1, 0)], .ofNat 0, .ofNat 939), ([(.ofNat 1, 1)], .ofNat 59, .ofNat 59)]), [none, some (false, 3)])
def sg_st7g_p0 : sx_Po := (12582912, false, [196611, 196610], [([(.ofNat 1, 2)], .ofNat 4, .ofNat 4), ([(.ofNat 1, 0), (.negSucc 0, 3)], .negSucc 0, .negSucc 0)])
theorem sg_st7g_ok : sg_chk z9 ex_mt k9 60 tX6_step 19 10 sg_st7g [sg_st7g_p0] [] = true := by decide +kernel
def sg_st7h : sg_Cu := (173, 0, [(0, .inr (some (false, 3)))], ([.inr 196612], [([(.ofNat 1, 0)], .ofNat 0, .ofNat 939), ([(.ofNat 1, 1)], .ofNat 60, .ofNat 60)]), [none, some (false, 3)])
def sg_st7h_p0 : sx_Po := (12582912, false, [196611, 196610], [([(.ofNat 1, 2)], .ofNat 4, .ofNat 4), ([(.ofNat 1, 0), (.negSucc 0, 3)], .negSucc 0, .negSucc 0)])
theorem sg_st7h_ok : sg_chk z9 ex_mt k9 60 tX6_step 22 10 sg_st7h [sg_st7h_p0] [] = true := by decide +kernel
def sg_st7i : sg_Cu := (173, 0, [(0, .inr (some (false, 3)))], ([.inr 196612], [([(.ofNat 1, 0)], .ofNat 0, .ofNat 939), ([(.ofNat 1, 1)], .ofNat 61, .ofNat 61)]), [none, some (false, 3)])
def sg_st7i_p0 : sx_Po := (12582912, false, [196611, 196610], [([(.ofNat 1, 2)], .ofNat 4, .ofNat 4), ([(.ofNat 1, 0), (.negSucc 0, 3)], .negSucc 0, .negSucc 0)])
theorem sg_st7i_ok : sg_chk z9 ex_mt k9 60 tX6_step 25 10 sg_st7i [sg_st7i_p0] [] = true := by decide +kernel
def sg_st7j : sg_Cu := (173, 0, [(0, .inr (some (false, 3)))], ([.inr 196612], [([(.ofNat 1, 0)], .ofNat 0, .ofNat 939), ([(.ofNat 1, 1)], .ofNat 62, .ofNat 62)]), [none, some (false, 3)])
def sg_st7j_p0 : sx_Po := (12582912, false, [196611, 196610], [([(.ofNat 1, 2)], .ofNat 4, .ofNat 4), ([(.ofNat 1, 0), (.negSucc 0, 3)], .negSucc 0, .negSucc 0)])
theorem sg_st7j_ok : sg_chk z9 ex_mt k9 60 tX6_step 28 10 sg_st7j [sg_st7j_p0] [] = true := by decide +kernel
section HR
variable {g : am_C} {L : Nat} {xs : Nat → Int32}
theorem sg_ln8c_run (G : sx_G0 g L xs zK hd_T ex_mt) (hct : ∀ (mi : Nat) (T2 : ex_T) (c' : sx_Ct), ex_mt mi = some T2 → c' ∈ k9 mi → c'.1 < 0 → sx_Holds g zK hd_T T2 c') {σ : am_S} {lw : List (Nat × Value)} {post : Option (Option Value) → am_S → Prop} (hM : sx_M zK hd_T σ 0 0 σ) (hl : (0, Value.ref 118) ∈ lw) {n0 : Int32} (bk0 : 0 ≤ n0.toInt ∧ n0.toInt ≤ 0) (cuta : ∀ (lw' : List (Nat × Value))  (σ' : am_S), (0, Value.ref 118) ∈ lw' → sx_M zK hd_T σ 0 0 σ' → am_K g 20 tX12_line.1 0 0 248 lw' [.ref 118] σ' post) : am_K g 20 tX12_line.1 0 0 108 lw [.int n0] σ post := by
  refine sg_seg (sw := [.int n0]) (vs := []) (ws := [n0.toInt]) G (mi := 132) rfl hct sg_ln8c_ok trivial (hd_refs hl) ⟨⟨n0, rfl, rfl⟩, trivial⟩ (hd_p1 rfl bk0.1 bk0.2 hd_p0) hM ?_ ?_
  · intro r σ' hq
    cases r with
    | none => exact hq.elim
    | some v =>
      obtain ⟨p, hp, hM2, ks, hk, hv⟩ := hq
      cases hp
  · intro u hu
    simp only [List.mem_cons, List.not_mem_nil, or_false] at hu
    rcases hu with rfl
    · intro lw' sw' vs' ws' σ' ⟨h1_0, h2, h3_0, h4, h5⟩
      obtain rfl := hd_src0 h1_0
      obtain ⟨sw1, rfl, h3_1⟩ := hd_str h3_0
      obtain ⟨rfl, rfl⟩ := hd_st0 h3_1
      have hr9 := hd_ref0 h2
      exact cuta _  _ hr9   h5
theorem sg_ln9a_run (G : sx_G0 g L xs zK hd_T ex_mt) (hct : ∀ (mi : Nat) (T2 : ex_T) (c' : sx_Ct), ex_mt mi = some T2 → c' ∈ k9 mi → c'.1 < 0 → sx_Holds g zK hd_T T2 c') {σ : am_S} {lw : List (Nat × Value)} {post : Option (Option Value) → am_S → Prop} (hM : sx_M zK hd_T σ 0 0 σ) (hl : (0, Value.ref 118) ∈ lw) (bp118_9 : 0 ≤ (σ.2.1 118 9).toInt ∧ (σ.2.1 118 9).toInt ≤ 1) (ret0 : ∀ (r : Int32) (σ' : am_S), (0 ≤ 1 * r.toInt + 0 ∧ 1 * r.toInt + 0 ≤ 0) → (1 ≤ 1 * (σ'.2.1 118 13).toInt + 0 ∧ 1 * (σ'.2.1 118 13).toInt + 0 ≤ 1) → (0 ≤ 1 * (σ.2.1 118 10).toInt + ((-1) * (σ'.2.1 118 14).toInt + 0) ∧ 1 * (σ.2.1 118 10).toInt + ((-1) * (σ'.2.1 118 14).toInt + 0) ≤ 0) → sx_M zK hd_T σ 28858891257124862704305937573347373392392387160985434571251191458187784500608308553281933292152037822856416985088 0 σ' → post (some (some (.int r))) σ') : am_K g 20 tX12_line.1 0 0 134 lw [] σ post := by
  refine sg_seg (sw := []) (vs := [(σ.2.1 118 9).toInt, (σ.2.1 118 10).toInt]) (ws := []) G (mi := 132) rfl hct sg_ln9a_ok ⟨rfl, ⟨rfl, trivial⟩⟩ (hd_refs hl) trivial (hd_p1 rfl bp118_9.1 bp118_9.2 (hd_p1 rfl (hd_kd_118_10 hM).1 (hd_kd_118_10 hM).2 hd_p0)) hM ?_ ?_
  · intro r σ' hq
    cases r with
    | none => exact hq.elim
    | some v =>
      obtain ⟨p, hp, hM2, ks, hk, hv⟩ := hq
      simp only [List.mem_cons, List.not_mem_nil, or_false] at hp
      rcases hp with rfl
      · obtain ⟨ks0, rfl, hk1⟩ := hd_keyc hk; obtain ⟨ks1, rfl, hk2⟩ := hd_keyc hk1; obtain rfl := hd_keys hk2
        cases v with
        | none => exact hv.elim
        | some w9 =>
          obtain ⟨r, rfl, hP⟩ := hv
          obtain ⟨v0, e0, l0, u0⟩ := hP _ (List.mem_cons_self)
          have g0 : 1 * r.toInt + 0 = v0 := Option.some.inj e0
          obtain ⟨v1, e1, l1, u1⟩ := hP _ (List.mem_cons_of_mem _ (List.mem_cons_self))
          have g1 : 1 * (σ'.2.1 118 13).toInt + 0 = v1 := Option.some.inj e1
          obtain ⟨v2, e2, l2, u2⟩ := hP _ (List.mem_cons_of_mem _ (List.mem_cons_of_mem _ (List.mem_cons_self)))
          have g2 : 1 * (σ.2.1 118 10).toInt + ((-1) * (σ'.2.1 118 14).toInt + 0) = v2 := Option.some.inj e2
          exact ret0 r _ ⟨by rw [g0]; exact l0, by rw [g0]; exact u0⟩ ⟨by rw [g1]; exact l1, by rw [g1]; exact u1⟩ ⟨by rw [g2]; exact l2, by rw [g2]; exact u2⟩ hM2
  · intro u hu
    cases hu
theorem sg_ln9b_run (G : sx_G0 g L xs zK hd_T ex_mt) (hct : ∀ (mi : Nat) (T2 : ex_T) (c' : sx_Ct), ex_mt mi = some T2 → c' ∈ k9 mi → c'.1 < 0 → sx_Holds g zK hd_T T2 c') {σ : am_S} {lw : List (Nat × Value)} {post : Option (Option Value) → am_S → Prop} (hM : sx_M zK hd_T σ 0 0 σ) (hl : (0, Value.ref 118) ∈ lw) (bp118_9 : 3 ≤ (σ.2.1 118 9).toInt ∧ (σ.2.1 118 9).toInt ≤ 4) (ret0 : ∀ (r : Int32) (σ' : am_S), (0 ≤ 1 * r.toInt + 0 ∧ 1 * r.toInt + 0 ≤ 0) → (1 ≤ 1 * (σ'.2.1 118 13).toInt + 0 ∧ 1 * (σ'.2.1 118 13).toInt + 0 ≤ 1) → (0 ≤ 1 * (σ.2.1 118 10).toInt + ((-1) * (σ'.2.1 118 14).toInt + 0) ∧ 1 * (σ.2.1 118 10).toInt + ((-1) * (σ'.2.1 118 14).toInt + 0) ≤ 0) → sx_M zK hd_T σ 28858891257124862704305937573347373392392387160985434571251191458187784500608308553281933292152037822856416985088 0 σ' → post (some (some (.int r))) σ') : am_K g 20 tX12_line.1 0 0 134 lw [] σ post := by
  refine sg_seg (sw := []) (vs := [(σ.2.1 118 9).toInt, (σ.2.1 118 10).toInt]) (ws := []) G (mi := 132) rfl hct sg_ln9b_ok ⟨rfl, ⟨rfl, trivial⟩⟩ (hd_refs hl) trivial (hd_p1 rfl bp118_9.1 bp118_9.2 (hd_p1 rfl (hd_kd_118_10 hM).1 (hd_kd_118_10 hM).2 hd_p0)) hM ?_ ?_
  · intro r σ' hq
    cases r with
    | none => exact hq.elim
    | some v =>
      obtain ⟨p, hp, hM2, ks, hk, hv⟩ := hq
      simp only [List.mem_cons, List.not_mem_nil, or_false] at hp
      rcases hp with rfl
      · obtain ⟨ks0, rfl, hk1⟩ := hd_keyc hk; obtain ⟨ks1, rfl, hk2⟩ := hd_keyc hk1; obtain rfl := hd_keys hk2
        cases v with
        | none => exact hv.elim
        | some w9 =>
          obtain ⟨r, rfl, hP⟩ := hv
          obtain ⟨v0, e0, l0, u0⟩ := hP _ (List.mem_cons_self)
          have g0 : 1 * r.toInt + 0 = v0 := Option.some.inj e0
          obtain ⟨v1, e1, l1, u1⟩ := hP _ (List.mem_cons_of_mem _ (List.mem_cons_self))
          have g1 : 1 * (σ'.2.1 118 13).toInt + 0 = v1 := Option.some.inj e1
          obtain ⟨v2, e2, l2, u2⟩ := hP _ (List.mem_cons_of_mem _ (List.mem_cons_of_mem _ (List.mem_cons_self)))
          have g2 : 1 * (σ.2.1 118 10).toInt + ((-1) * (σ'.2.1 118 14).toInt + 0) = v2 := Option.some.inj e2
          exact ret0 r _ ⟨by rw [g0]; exact l0, by rw [g0]; exact u0⟩ ⟨by rw [g1]; exact l1, by rw [g1]; exact u1⟩ ⟨by rw [g2]; exact l2, by rw [g2]; exact u2⟩ hM2
  · intro u hu
    cases hu
theorem sg_ln9c_run (G : sx_G0 g L xs zK hd_T ex_mt) (hct : ∀ (mi : Nat) (T2 : ex_T) (c' : sx_Ct), ex_mt mi = some T2 → c' ∈ k9 mi → c'.1 < 0 → sx_Holds g zK hd_T T2 c') {σ : am_S} {lw : List (Nat × Value)} {post : Option (Option Value) → am_S → Prop} (hM : sx_M zK hd_T σ 0 0 σ) (hl : (0, Value.ref 118) ∈ lw) {m1 : Int32} (hl1 : (1, Value.int m1) ∈ lw) (bp118_9 : 2 ≤ (σ.2.1 118 9).toInt ∧ (σ.2.1 118 9).toInt ≤ 2) (ret0 : ∀ (r : Int32) (σ' : am_S), (0 ≤ 1 * r.toInt + 0 ∧ 1 * r.toInt + 0 ≤ 0) → (2 ≤ 1 * (σ'.2.1 118 13).toInt + 0 ∧ 1 * (σ'.2.1 118 13).toInt + 0 ≤ 2) → (0 ≤ 1 * (σ.2.1 118 10).toInt + ((-1) * (σ'.2.1 118 14).toInt + 0) ∧ 1 * (σ.2.1 118 10).toInt + ((-1) * (σ'.2.1 118 14).toInt + 0) ≤ 0) → ((-2147483648) ≤ 1 * (σ.2.1 118 12).toInt + 0 ∧ 1 * (σ.2.1 118 12).toInt + 0 ≤ 0) → sx_M zK hd_T σ 28858891257124862704305937573347373392392387160985434571251191458187784500608308553281933292152037822856416985088 0 σ' → post (some (some (.int r))) σ') (ret1 : ∀ (r : Int32) (σ' : am_S), (0 ≤ 1 * r.toInt + 0 ∧ 1 * r.toInt + 0 ≤ 0) → (2 ≤ 1 * (σ'.2.1 118 13).toInt + 0 ∧ 1 * (σ'.2.1 118 13).toInt + 0 ≤ 2) → (0 ≤ 1 * (σ.2.1 118 10).toInt + ((-1) * (σ'.2.1 118 14).toInt + 0) ∧ 1 * (σ.2.1 118 10).toInt + ((-1) * (σ'.2.1 118 14).toInt + 0) ≤ 0) → (61 ≤ 1 * (σ.2.1 118 12).toInt + 0 ∧ 1 * (σ.2.1 118 12).toInt + 0 ≤ 2147483647) → sx_M zK hd_T σ 28858891257124862704305937573347373392392387160985434571251191458187784500608308553281933292152037822856416985088 0 σ' → post (some (some (.int r))) σ') (cuta : ∀ (lw' : List (Nat × Value)) (m1' : Int32) (m2' : Int32) (σ' : am_S), (0, Value.ref 118) ∈ lw' → (1, Value.int m1') ∈ lw' → (2, Value.int m2') ∈ lw' → (0 ≤ 1 * m1.toInt + ((-1) * m1'.toInt + 0) ∧ 1 * m1.toInt + ((-1) * m1'.toInt + 0) ≤ 0) → (0 ≤ 1 * m2'.toInt + 0 ∧ 1 * m2'.toInt + 0 ≤ 0) → (1 ≤ 1 * (σ.2.1 118 12).toInt + 0 ∧ 1 * (σ.2.1 118 12).toInt + 0 ≤ 60) → sx_M zK hd_T σ 0 0 σ' → am_K g 20 tX12_line.1 0 0 169 lw' [] σ' post) : am_K g 20 tX12_line.1 0 0 134 lw [] σ post := by
  refine sg_seg (sw := []) (vs := [m1.toInt, (σ.2.1 118 9).toInt, (σ.2.1 118 12).toInt, (σ.2.1 118 10).toInt]) (ws := []) G (mi := 132) rfl hct sg_ln9c_ok ⟨⟨m1, hl1, rfl⟩, ⟨rfl, ⟨rfl, ⟨rfl, trivial⟩⟩⟩⟩ (hd_refs hl) trivial (hd_p1 rfl (Int32.le_toInt _) (Int32.toInt_le _) (hd_p1 rfl bp118_9.1 bp118_9.2 (hd_p1 rfl (hd_kd_118_12 hM).1 (hd_kd_118_12 hM).2 (hd_p1 rfl (hd_kd_118_10 hM).1 (hd_kd_118_10 hM).2 hd_p0)))) hM ?_ ?_
  · intro r σ' hq
    cases r with
    | none => exact hq.elim
    | some v =>
      obtain ⟨p, hp, hM2, ks, hk, hv⟩ := hq
      simp only [List.mem_cons, List.not_mem_nil, or_false] at hp
      rcases hp with rfl | rfl
      · obtain ⟨ks0, rfl, hk1⟩ := hd_keyc hk; obtain ⟨ks1, rfl, hk2⟩ := hd_keyc hk1; obtain rfl := hd_keys hk2
        cases v with
        | none => exact hv.elim
        | some w9 =>
          obtain ⟨r, rfl, hP⟩ := hv
          obtain ⟨v0, e0, l0, u0⟩ := hP _ (List.mem_cons_self)
          have g0 : 1 * r.toInt + 0 = v0 := Option.some.inj e0
          obtain ⟨v1, e1, l1, u1⟩ := hP _ (List.mem_cons_of_mem _ (List.mem_cons_self))
          have g1 : 1 * (σ'.2.1 118 13).toInt + 0 = v1 := Option.some.inj e1
          obtain ⟨v2, e2, l2, u2⟩ := hP _ (List.mem_cons_of_mem _ (List.mem_cons_of_mem _ (List.mem_cons_self)))
          have g2 : 1 * (σ.2.1 118 10).toInt + ((-1) * (σ'.2.1 118 14).toInt + 0) = v2 := Option.some.inj e2
          obtain ⟨v3, e3, l3, u3⟩ := hP _ (List.mem_cons_of_mem _ (List.mem_cons_of_mem _ (List.mem_cons_of_mem _ (List.mem_cons_self))))
          have g3 : 1 * (σ.2.1 118 12).toInt + 0 = v3 := Option.some.inj e3
          exact ret0 r _ ⟨by rw [g0]; exact l0, by rw [g0]; exact u0⟩ ⟨by rw [g1]; exact l1, by rw [g1]; exact u1⟩ ⟨by rw [g2]; exact l2, by rw [g2]; exact u2⟩ ⟨by rw [g3]; exact l3, by rw [g3]; exact u3⟩ hM2
      · obtain ⟨ks0, rfl, hk1⟩ := hd_keyc hk; obtain ⟨ks1, rfl, hk2⟩ := hd_keyc hk1; obtain rfl := hd_keys hk2
        cases v with
        | none => exact hv.elim
        | some w9 =>
          obtain ⟨r, rfl, hP⟩ := hv
          obtain ⟨v0, e0, l0, u0⟩ := hP _ (List.mem_cons_self)
          have g0 : 1 * r.toInt + 0 = v0 := Option.some.inj e0
          obtain ⟨v1, e1, l1, u1⟩ := hP _ (List.mem_cons_of_mem _ (List.mem_cons_self))
          have g1 : 1 * (σ'.2.1 118 13).toInt + 0 = v1 := Option.some.inj e1
          obtain ⟨v2, e2, l2, u2⟩ := hP _ (List.mem_cons_of_mem _ (List.mem_cons_of_mem _ (List.mem_cons_self)))
          have g2 : 1 * (σ.2.1 118 10).toInt + ((-1) * (σ'.2.1 118 14).toInt + 0) = v2 := Option.some.inj e2
          obtain ⟨v3, e3, l3, u3⟩ := hP _ (List.mem_cons_of_mem _ (List.mem_cons_of_mem _ (List.mem_cons_of_mem _ (List.mem_cons_self))))
          have g3 : 1 * (σ.2.1 118 12).toInt + 0 = v3 := Option.some.inj e3
          exact ret1 r _ ⟨by rw [g0]; exact l0, by rw [g0]; exact u0⟩ ⟨by rw [g1]; exact l1, by rw [g1]; exact u1⟩ ⟨by rw [g2]; exact l2, by rw [g2]; exact u2⟩ ⟨by rw [g3]; exact l3, by rw [g3]; exact u3⟩ hM2
  · intro u hu
    simp only [List.mem_cons, List.not_mem_nil, or_false] at hu
    rcases hu with rfl
    · intro lw' sw' vs' ws' σ' ⟨h1_0, h2, h3_0, h4, h5⟩
      obtain ⟨m1', vs1, rfl, hm1, h1_1⟩ := hd_srcl h1_0
      obtain ⟨m2', vs2, rfl, hm2, h1_2⟩ := hd_srcl h1_1
      obtain rfl := hd_src0 h1_2
      obtain ⟨rfl, rfl⟩ := hd_st0 h3_0
      have hr9 := hd_ref0 h2
      obtain ⟨v0, e0, l0, u0⟩ := h4 _ (List.mem_cons_self)
      have g0 : 1 * m1.toInt + ((-1) * m1'.toInt + 0) = v0 := Option.some.inj e0
      obtain ⟨v1, e1, l1, u1⟩ := h4 _ (List.mem_cons_of_mem _ (List.mem_cons_self))
      have g1 : 1 * m2'.toInt + 0 = v1 := Option.some.inj e1
      obtain ⟨v2, e2, l2, u2⟩ := h4 _ (List.mem_cons_of_mem _ (List.mem_cons_of_mem _ (List.mem_cons_self)))
      have g2 : 1 * (σ.2.1 118 12).toInt + 0 = v2 := Option.some.inj e2
      exact cuta _ _ _ _ hr9 hm1 hm2 ⟨by rw [g0]; exact l0, by rw [g0]; exact u0⟩ ⟨by rw [g1]; exact l1, by rw [g1]; exact u1⟩ ⟨by rw [g2]; exact l2, by rw [g2]; exact u2⟩ h5
theorem sg_lna_run (G : sx_G0 g L xs zK hd_T ex_mt) (hct : ∀ (mi : Nat) (T2 : ex_T) (c' : sx_Ct), ex_mt mi = some T2 → c' ∈ k9 mi → c'.1 < 0 → sx_Holds g zK hd_T T2 c') {σ : am_S} {lw : List (Nat × Value)} {post : Option (Option Value) → am_S → Prop} (hM : sx_M zK hd_T σ 0 0 σ) (hl : (0, Value.ref 118) ∈ lw) {m1 : Int32} (hl1 : (1, Value.int m1) ∈ lw) (bl1 : 0 ≤ m1.toInt ∧ m1.toInt ≤ 5) {m2 : Int32} (hl2 : (2, Value.int m2) ∈ lw) (bl2 : 0 ≤ m2.toInt ∧ m2.toInt ≤ 5) (cuta : ∀ (lw' : List (Nat × Value)) (m1' : Int32) (m2' : Int32) (n0' : Int32) (σ' : am_S), (0, Value.ref 118) ∈ lw' → (1, Value.int m1') ∈ lw' → (2, Value.int m2') ∈ lw' → ((-42) ≤ 1 * m2.toInt + ((-1) * n0'.toInt + 0) ∧ 1 * m2.toInt + ((-1) * n0'.toInt + 0) ≤ (-42)) → (0 ≤ 1 * m1.toInt + ((-1) * m1'.toInt + 0) ∧ 1 * m1.toInt + ((-1) * m1'.toInt + 0) ≤ 0) → (0 ≤ 1 * m2.toInt + ((-1) * m2'.toInt + 0) ∧ 1 * m2.toInt + ((-1) * m2'.toInt + 0) ≤ 0) → (1 ≤ 1 * m1.toInt + ((-1) * m2.toInt + 0) ∧ 1 * m1.toInt + ((-1) * m2.toInt + 0) ≤ 4611686018427387904) → sx_M zK hd_T σ 0 0 σ' → am_K g 20 tX12_line.1 0 0 182 lw' [.int n0', .ref 121] σ' post) (cutb : ∀ (lw' : List (Nat × Value)) (m1' : Int32) (n0' : Int32) (n1' : Int32) (σ' : am_S), (0, Value.ref 118) ∈ lw' → (1, Value.int m1') ∈ lw' → (0 ≤ 1 * (σ.2.1 118 12).toInt + ((-1) * n0'.toInt + 0) ∧ 1 * (σ.2.1 118 12).toInt + ((-1) * n0'.toInt + 0) ≤ 0) → ((-42) ≤ 1 * m1.toInt + ((-1) * n1'.toInt + 0) ∧ 1 * m1.toInt + ((-1) * n1'.toInt + 0) ≤ (-42)) → (0 ≤ 1 * m1.toInt + ((-1) * m1'.toInt + 0) ∧ 1 * m1.toInt + ((-1) * m1'.toInt + 0) ≤ 0) → ((-4611686018427387904) ≤ 1 * m1.toInt + ((-1) * m2.toInt + 0) ∧ 1 * m1.toInt + ((-1) * m2.toInt + 0) ≤ 0) → sx_M zK hd_T σ 0 0 σ' → am_K g 20 tX12_line.1 0 0 214 lw' [.int n0', .int n1', .ref 121] σ' post) : am_K g 20 tX12_line.1 0 0 169 lw [] σ post := by
  refine sg_seg (sw := []) (vs := [m1.toInt, m2.toInt, (σ.2.1 118 12).toInt]) (ws := []) G (mi := 132) rfl hct sg_lna_ok ⟨⟨m1, hl1, rfl⟩, ⟨⟨m2, hl2, rfl⟩, ⟨rfl, trivial⟩⟩⟩ (hd_refs hl) trivial (hd_p1 rfl bl1.1 bl1.2 (hd_p1 rfl bl2.1 bl2.2 (hd_p1 rfl (hd_kd_118_12 hM).1 (hd_kd_118_12 hM).2 hd_p0))) hM ?_ ?_
  · intro r σ' hq
    cases r with
    | none => exact hq.elim
    | some v =>
      obtain ⟨p, hp, hM2, ks, hk, hv⟩ := hq
      cases hp
  · intro u hu
    simp only [List.mem_cons, List.not_mem_nil, or_false] at hu
    rcases hu with rfl | rfl
    · intro lw' sw' vs' ws' σ' ⟨h1_0, h2, h3_0, h4, h5⟩
      obtain ⟨m1', vs1, rfl, hm1, h1_1⟩ := hd_srcl h1_0
      obtain ⟨m2', vs2, rfl, hm2, h1_2⟩ := hd_srcl h1_1
      obtain rfl := hd_src0 h1_2
      obtain ⟨n0', sw1, ws1, rfl, rfl, h3_1⟩ := hd_sti h3_0
      obtain ⟨sw2, rfl, h3_2⟩ := hd_str h3_1
      obtain ⟨rfl, rfl⟩ := hd_st0 h3_2
      have hr9 := hd_ref0 h2
      obtain ⟨v0, e0, l0, u0⟩ := h4 _ (List.mem_cons_self)
      have g0 : 1 * m2.toInt + ((-1) * n0'.toInt + 0) = v0 := Option.some.inj e0
      obtain ⟨v1, e1, l1, u1⟩ := h4 _ (List.mem_cons_of_mem _ (List.mem_cons_self))
      have g1 : 1 * m1.toInt + ((-1) * m1'.toInt + 0) = v1 := Option.some.inj e1
      obtain ⟨v2, e2, l2, u2⟩ := h4 _ (List.mem_cons_of_mem _ (List.mem_cons_of_mem _ (List.mem_cons_self)))
      have g2 : 1 * m2.toInt + ((-1) * m2'.toInt + 0) = v2 := Option.some.inj e2
      obtain ⟨v3, e3, l3, u3⟩ := h4 _ (List.mem_cons_of_mem _ (List.mem_cons_of_mem _ (List.mem_cons_of_mem _ (List.mem_cons_self))))
      have g3 : 1 * m1.toInt + ((-1) * m2.toInt + 0) = v3 := Option.some.inj e3
      exact cuta _ _ _ _ _ hr9 hm1 hm2 ⟨by rw [g0]; exact l0, by rw [g0]; exact u0⟩ ⟨by rw [g1]; exact l1, by rw [g1]; exact u1⟩ ⟨by rw [g2]; exact l2, by rw [g2]; exact u2⟩ ⟨by rw [g3]; exact l3, by rw [g3]; exact u3⟩ h5
    · intro lw' sw' vs' ws' σ' ⟨h1_0, h2, h3_0, h4, h5⟩
      obtain ⟨m1', vs1, rfl, hm1, h1_1⟩ := hd_srcl h1_0
      obtain rfl := hd_src0 h1_1
      obtain ⟨n0', sw1, ws1, rfl, rfl, h3_1⟩ := hd_sti h3_0
      obtain ⟨n1', sw2, ws2, rfl, rfl, h3_2⟩ := hd_sti h3_1
      obtain ⟨sw3, rfl, h3_3⟩ := hd_str h3_2
      obtain ⟨rfl, rfl⟩ := hd_st0 h3_3
      have hr9 := hd_ref0 h2
      obtain ⟨v0, e0, l0, u0⟩ := h4 _ (List.mem_cons_self)
      have g0 : 1 * (σ.2.1 118 12).toInt + ((-1) * n0'.toInt + 0) = v0 := Option.some.inj e0
      obtain ⟨v1, e1, l1, u1⟩ := h4 _ (List.mem_cons_of_mem _ (List.mem_cons_self))
      have g1 : 1 * m1.toInt + ((-1) * n1'.toInt + 0) = v1 := Option.some.inj e1
      obtain ⟨v2, e2, l2, u2⟩ := h4 _ (List.mem_cons_of_mem _ (List.mem_cons_of_mem _ (List.mem_cons_self)))
      have g2 : 1 * m1.toInt + ((-1) * m1'.toInt + 0) = v2 := Option.some.inj e2
      obtain ⟨v3, e3, l3, u3⟩ := h4 _ (List.mem_cons_of_mem _ (List.mem_cons_of_mem _ (List.mem_cons_of_mem _ (List.mem_cons_self))))
      have g3 : 1 * m1.toInt + ((-1) * m2.toInt + 0) = v3 := Option.some.inj e3
      exact cutb _ _ _ _ _ hr9 hm1 ⟨by rw [g0]; exact l0, by rw [g0]; exact u0⟩ ⟨by rw [g1]; exact l1, by rw [g1]; exact u1⟩ ⟨by rw [g2]; exact l2, by rw [g2]; exact u2⟩ ⟨by rw [g3]; exact l3, by rw [g3]; exact u3⟩ h5
theorem sg_lnb_run (G : sx_G0 g L xs zK hd_T ex_mt) (hct : ∀ (mi : Nat) (T2 : ex_T) (c' : sx_Ct), ex_mt mi = some T2 → c' ∈ k9 mi → c'.1 < 0 → sx_Holds g zK hd_T T2 c') {σ : am_S} {lw : List (Nat × Value)} {post : Option (Option Value) → am_S → Prop} (hM : sx_M zK hd_T σ 0 0 σ) (hl : (0, Value.ref 118) ∈ lw) {m1 : Int32} (hl1 : (1, Value.int m1) ∈ lw) (bl1 : 0 ≤ m1.toInt ∧ m1.toInt ≤ 5) {m2 : Int32} (hl2 : (2, Value.int m2) ∈ lw) (bl2 : 0 ≤ m2.toInt ∧ m2.toInt ≤ 5) {n0 : Int32} (bf0 : 1 ≤ 1 * (σ.2.1 118 12).toInt + ((-1) * n0.toInt + 0) ∧ 1 * (σ.2.1 118 12).toInt + ((-1) * n0.toInt + 0) ≤ 4611686018427387904) (cuta : ∀ (lw' : List (Nat × Value)) (m1' : Int32) (m2' : Int32) (σ' : am_S), (0, Value.ref 118) ∈ lw' → (1, Value.int m1') ∈ lw' → (2, Value.int m2') ∈ lw' → (0 ≤ 1 * m1.toInt + ((-1) * m1'.toInt + 0) ∧ 1 * m1.toInt + ((-1) * m1'.toInt + 0) ≤ 0) → ((-1) ≤ 1 * m2.toInt + ((-1) * m2'.toInt + 0) ∧ 1 * m2.toInt + ((-1) * m2'.toInt + 0) ≤ (-1)) → sx_M zK hd_T σ 0 0 σ' → am_K g 20 tX12_line.1 0 0 169 lw' [] σ' post) : am_K g 20 tX12_line.1 0 0 183 lw [.int n0] σ post := by
  refine sg_seg (sw := [.int n0]) (vs := [m1.toInt, m2.toInt, (σ.2.1 118 12).toInt]) (ws := [n0.toInt]) G (mi := 132) rfl hct sg_lnb_ok ⟨⟨m1, hl1, rfl⟩, ⟨⟨m2, hl2, rfl⟩, ⟨rfl, trivial⟩⟩⟩ (hd_refs hl) ⟨⟨n0, rfl, rfl⟩, trivial⟩ (hd_p1 rfl bl1.1 bl1.2 (hd_p1 rfl bl2.1 bl2.2 (hd_p1 rfl (hd_kd_118_12 hM).1 (hd_kd_118_12 hM).2 (hd_p1 rfl (Int32.le_toInt _) (Int32.toInt_le _) (hd_pf rfl bf0.1 bf0.2 hd_p0))))) hM ?_ ?_
  · intro r σ' hq
    cases r with
    | none => exact hq.elim
    | some v =>
      obtain ⟨p, hp, hM2, ks, hk, hv⟩ := hq
      cases hp
  · intro u hu
    simp only [List.mem_cons, List.not_mem_nil, or_false] at hu
    rcases hu with rfl
    · intro lw' sw' vs' ws' σ' ⟨h1_0, h2, h3_0, h4, h5⟩
      obtain ⟨m1', vs1, rfl, hm1, h1_1⟩ := hd_srcl h1_0
      obtain ⟨m2', vs2, rfl, hm2, h1_2⟩ := hd_srcl h1_1
      obtain rfl := hd_src0 h1_2
      obtain ⟨rfl, rfl⟩ := hd_st0 h3_0
      have hr9 := hd_ref0 h2
      obtain ⟨v0, e0, l0, u0⟩ := h4 _ (List.mem_cons_self)
      have g0 : 1 * m1.toInt + ((-1) * m1'.toInt + 0) = v0 := Option.some.inj e0
      obtain ⟨v1, e1, l1, u1⟩ := h4 _ (List.mem_cons_of_mem _ (List.mem_cons_self))
      have g1 : 1 * m2.toInt + ((-1) * m2'.toInt + 0) = v1 := Option.some.inj e1
      exact cuta _ _ _ _ hr9 hm1 hm2 ⟨by rw [g0]; exact l0, by rw [g0]; exact u0⟩ ⟨by rw [g1]; exact l1, by rw [g1]; exact u1⟩ h5
theorem sg_lnc_run (G : sx_G0 g L xs zK hd_T ex_mt) (hct : ∀ (mi : Nat) (T2 : ex_T) (c' : sx_Ct), ex_mt mi = some T2 → c' ∈ k9 mi → c'.1 < 0 → sx_Holds g zK hd_T T2 c') {σ : am_S} {lw : List (Nat × Value)} {post : Option (Option Value) → am_S → Prop} (hM : sx_M zK hd_T σ 0 0 σ) (hl : (0, Value.ref 118) ∈ lw) {m1 : Int32} (hl1 : (1, Value.int m1) ∈ lw) (bl1 : 0 ≤ m1.toInt ∧ m1.toInt ≤ 5) {m2 : Int32} (hl2 : (2, Value.int m2) ∈ lw) (bl2 : 0 ≤ m2.toInt ∧ m2.toInt ≤ 5) {n0 : Int32} (bf0 : (-4611686018427387904) ≤ 1 * (σ.2.1 118 12).toInt + ((-1) * n0.toInt + 0) ∧ 1 * (σ.2.1 118 12).toInt + ((-1) * n0.toInt + 0) ≤ (-1)) (cuta : ∀ (lw' : List (Nat × Value)) (m1' : Int32) (m2' : Int32) (σ' : am_S), (0, Value.ref 118) ∈ lw' → (1, Value.int m1') ∈ lw' → (2, Value.int m2') ∈ lw' → (0 ≤ 1 * m1.toInt + ((-1) * m1'.toInt + 0) ∧ 1 * m1.toInt + ((-1) * m1'.toInt + 0) ≤ 0) → ((-1) ≤ 1 * m2.toInt + ((-1) * m2'.toInt + 0) ∧ 1 * m2.toInt + ((-1) * m2'.toInt + 0) ≤ (-1)) → sx_M zK hd_T σ 0 0 σ' → am_K g 20 tX12_line.1 0 0 169 lw' [] σ' post) : am_K g 20 tX12_line.1 0 0 183 lw [.int n0] σ post := by
  refine sg_seg (sw := [.int n0]) (vs := [m1.toInt, m2.toInt, (σ.2.1 118 12).toInt]) (ws := [n0.toInt]) G (mi := 132) rfl hct sg_lnc_ok ⟨⟨m1, hl1, rfl⟩, ⟨⟨m2, hl2, rfl⟩, ⟨rfl, trivial⟩⟩⟩ (hd_refs hl) ⟨⟨n0, rfl, rfl⟩, trivial⟩ (hd_p1 rfl bl1.1 bl1.2 (hd_p1 rfl bl2.1 bl2.2 (hd_p1 rfl (hd_kd_118_12 hM).1 (hd_kd_118_12 hM).2 (hd_p1 rfl (Int32.le_toInt _) (Int32.toInt_le _) (hd_pf rfl bf0.1 bf0.2 hd_p0))))) hM ?_ ?_
  · intro r σ' hq
    cases r with
    | none => exact hq.elim
    | some v =>
      obtain ⟨p, hp, hM2, ks, hk, hv⟩ := hq
      cases hp
  · intro u hu
    simp only [List.mem_cons, List.not_mem_nil, or_false] at hu
    rcases hu with rfl
    · intro lw' sw' vs' ws' σ' ⟨h1_0, h2, h3_0, h4, h5⟩
      obtain ⟨m1', vs1, rfl, hm1, h1_1⟩ := hd_srcl h1_0
      obtain ⟨m2', vs2, rfl, hm2, h1_2⟩ := hd_srcl h1_1
      obtain rfl := hd_src0 h1_2
      obtain ⟨rfl, rfl⟩ := hd_st0 h3_0
      have hr9 := hd_ref0 h2
      obtain ⟨v0, e0, l0, u0⟩ := h4 _ (List.mem_cons_self)
      have g0 : 1 * m1.toInt + ((-1) * m1'.toInt + 0) = v0 := Option.some.inj e0
      obtain ⟨v1, e1, l1, u1⟩ := h4 _ (List.mem_cons_of_mem _ (List.mem_cons_self))
      have g1 : 1 * m2.toInt + ((-1) * m2'.toInt + 0) = v1 := Option.some.inj e1
      exact cuta _ _ _ _ hr9 hm1 hm2 ⟨by rw [g0]; exact l0, by rw [g0]; exact u0⟩ ⟨by rw [g1]; exact l1, by rw [g1]; exact u1⟩ h5
theorem sg_lnd_run (G : sx_G0 g L xs zK hd_T ex_mt) (hct : ∀ (mi : Nat) (T2 : ex_T) (c' : sx_Ct), ex_mt mi = some T2 → c' ∈ k9 mi → c'.1 < 0 → sx_Holds g zK hd_T T2 c') {σ : am_S} {lw : List (Nat × Value)} {post : Option (Option Value) → am_S → Prop} (hM : sx_M zK hd_T σ 0 0 σ) (hl : (0, Value.ref 118) ∈ lw) {n0 : Int32} (bf0 : 0 ≤ 1 * (σ.2.1 118 12).toInt + ((-1) * n0.toInt + 0) ∧ 1 * (σ.2.1 118 12).toInt + ((-1) * n0.toInt + 0) ≤ 0) (ret0 : ∀ (r : Int32) (σ' : am_S), (0 ≤ 1 * r.toInt + 0 ∧ 1 * r.toInt + 0 ≤ 0) → (3 ≤ 1 * (σ'.2.1 118 13).toInt + 0 ∧ 1 * (σ'.2.1 118 13).toInt + 0 ≤ 3) → (0 ≤ 1 * (σ.2.1 118 10).toInt + ((-1) * (σ'.2.1 118 14).toInt + 0) ∧ 1 * (σ.2.1 118 10).toInt + ((-1) * (σ'.2.1 118 14).toInt + 0) ≤ 0) → sx_M zK hd_T σ 28858891257124862704305937573347373392392387160985434571251191458187784500608308553281933292152037822856416985088 0 σ' → post (some (some (.int r))) σ') : am_K g 20 tX12_line.1 0 0 183 lw [.int n0] σ post := by
  refine sg_seg (sw := [.int n0]) (vs := [(σ.2.1 118 12).toInt, (σ.2.1 118 10).toInt]) (ws := [n0.toInt]) G (mi := 132) rfl hct sg_lnd_ok ⟨rfl, ⟨rfl, trivial⟩⟩ (hd_refs hl) ⟨⟨n0, rfl, rfl⟩, trivial⟩ (hd_p1 rfl (hd_kd_118_12 hM).1 (hd_kd_118_12 hM).2 (hd_p1 rfl (hd_kd_118_10 hM).1 (hd_kd_118_10 hM).2 (hd_p1 rfl (Int32.le_toInt _) (Int32.toInt_le _) (hd_pf rfl bf0.1 bf0.2 hd_p0)))) hM ?_ ?_
  · intro r σ' hq
    cases r with
    | none => exact hq.elim
    | some v =>
      obtain ⟨p, hp, hM2, ks, hk, hv⟩ := hq
      simp only [List.mem_cons, List.not_mem_nil, or_false] at hp
      rcases hp with rfl
      · obtain ⟨ks0, rfl, hk1⟩ := hd_keyc hk; obtain ⟨ks1, rfl, hk2⟩ := hd_keyc hk1; obtain rfl := hd_keys hk2
        cases v with
        | none => exact hv.elim
        | some w9 =>
          obtain ⟨r, rfl, hP⟩ := hv
          obtain ⟨v0, e0, l0, u0⟩ := hP _ (List.mem_cons_self)
          have g0 : 1 * r.toInt + 0 = v0 := Option.some.inj e0
          obtain ⟨v1, e1, l1, u1⟩ := hP _ (List.mem_cons_of_mem _ (List.mem_cons_self))
          have g1 : 1 * (σ'.2.1 118 13).toInt + 0 = v1 := Option.some.inj e1
          obtain ⟨v2, e2, l2, u2⟩ := hP _ (List.mem_cons_of_mem _ (List.mem_cons_of_mem _ (List.mem_cons_self)))
          have g2 : 1 * (σ.2.1 118 10).toInt + ((-1) * (σ'.2.1 118 14).toInt + 0) = v2 := Option.some.inj e2
          exact ret0 r _ ⟨by rw [g0]; exact l0, by rw [g0]; exact u0⟩ ⟨by rw [g1]; exact l1, by rw [g1]; exact u1⟩ ⟨by rw [g2]; exact l2, by rw [g2]; exact u2⟩ hM2
  · intro u hu
    cases hu
theorem sg_lne_run (G : sx_G0 g L xs zK hd_T ex_mt) (hct : ∀ (mi : Nat) (T2 : ex_T) (c' : sx_Ct), ex_mt mi = some T2 → c' ∈ k9 mi → c'.1 < 0 → sx_Holds g zK hd_T T2 c') {σ : am_S} {lw : List (Nat × Value)} {post : Option (Option Value) → am_S → Prop} (hM : sx_M zK hd_T σ 0 0 σ) (hl : (0, Value.ref 118) ∈ lw) {m1 : Int32} (hl1 : (1, Value.int m1) ∈ lw) (cuta : ∀ (lw' : List (Nat × Value)) (m1' : Int32) (σ' : am_S), (0, Value.ref 118) ∈ lw' → (1, Value.int m1') ∈ lw' → (0 ≤ 1 * m1.toInt + ((-1) * m1'.toInt + 0) ∧ 1 * m1.toInt + ((-1) * m1'.toInt + 0) ≤ 0) → sx_M zK hd_T σ 0 0 σ' → am_K g 20 tX12_line.1 0 0 216 lw' [.ref 118] σ' post) : am_K g 20 tX12_line.1 0 0 215 lw [] σ post := by
  refine sg_seg (sw := []) (vs := [m1.toInt]) (ws := []) G (mi := 132) rfl hct sg_lne_ok ⟨⟨m1, hl1, rfl⟩, trivial⟩ (hd_refs hl) trivial (hd_p1 rfl (Int32.le_toInt _) (Int32.toInt_le _) hd_p0) hM ?_ ?_
  · intro r σ' hq
    cases r with
    | none => exact hq.elim
    | some v =>
      obtain ⟨p, hp, hM2, ks, hk, hv⟩ := hq
      cases hp
  · intro u hu
    simp only [List.mem_cons, List.not_mem_nil, or_false] at hu
    rcases hu with rfl
    · intro lw' sw' vs' ws' σ' ⟨h1_0, h2, h3_0, h4, h5⟩
      obtain ⟨m1', vs1, rfl, hm1, h1_1⟩ := hd_srcl h1_0
      obtain rfl := hd_src0 h1_1
      obtain ⟨sw1, rfl, h3_1⟩ := hd_str h3_0
      obtain ⟨rfl, rfl⟩ := hd_st0 h3_1
      have hr9 := hd_ref0 h2
      obtain ⟨v0, e0, l0, u0⟩ := h4 _ (List.mem_cons_self)
      have g0 : 1 * m1.toInt + ((-1) * m1'.toInt + 0) = v0 := Option.some.inj e0
      exact cuta _ _ _ hr9 hm1 ⟨by rw [g0]; exact l0, by rw [g0]; exact u0⟩ h5
theorem sg_lnf_run (G : sx_G0 g L xs zK hd_T ex_mt) (hct : ∀ (mi : Nat) (T2 : ex_T) (c' : sx_Ct), ex_mt mi = some T2 → c' ∈ k9 mi → c'.1 < 0 → sx_Holds g zK hd_T T2 c') {σ : am_S} {lw : List (Nat × Value)} {post : Option (Option Value) → am_S → Prop} (hM : sx_M zK hd_T σ 0 0 σ) (hl : (0, Value.ref 118) ∈ lw) {m1 : Int32} (hl1 : (1, Value.int m1) ∈ lw) (bl1 : 0 ≤ m1.toInt ∧ m1.toInt ≤ 9) (cuta : ∀ (lw' : List (Nat × Value)) (m1' : Int32) (n0' : Int32) (n1' : Int32) (n2' : Int32) (σ' : am_S), (0, Value.ref 118) ∈ lw' → (1, Value.int m1') ∈ lw' → (9 ≤ 1 * n0'.toInt + 0 ∧ 1 * n0'.toInt + 0 ≤ 9) → (1 ≤ 1 * n1'.toInt + 0 ∧ 1 * n1'.toInt + 0 ≤ 1) → ((-48) ≤ 1 * m1.toInt + ((-1) * n2'.toInt + 0) ∧ 1 * m1.toInt + ((-1) * n2'.toInt + 0) ≤ (-48)) → (0 ≤ 1 * m1.toInt + ((-1) * m1'.toInt + 0) ∧ 1 * m1.toInt + ((-1) * m1'.toInt + 0) ≤ 0) → sx_M zK hd_T σ 0 0 σ' → am_K g 20 tX12_line.1 0 0 227 lw' [.int n0', .int n1', .int n2', .ref 118] σ' post) : am_K g 20 tX12_line.1 0 0 219 lw [] σ post := by
  refine sg_seg (sw := []) (vs := [m1.toInt]) (ws := []) G (mi := 132) rfl hct sg_lnf_ok ⟨⟨m1, hl1, rfl⟩, trivial⟩ (hd_refs hl) trivial (hd_p1 rfl bl1.1 bl1.2 hd_p0) hM ?_ ?_
  · intro r σ' hq
    cases r with
    | none => exact hq.elim
    | some v =>
      obtain ⟨p, hp, hM2, ks, hk, hv⟩ := hq
      cases hp
  · intro u hu
    simp only [List.mem_cons, List.not_mem_nil, or_false] at hu
    rcases hu with rfl
    · intro lw' sw' vs' ws' σ' ⟨h1_0, h2, h3_0, h4, h5⟩
      obtain ⟨m1', vs1, rfl, hm1, h1_1⟩ := hd_srcl h1_0
      obtain rfl := hd_src0 h1_1
      obtain ⟨n0', sw1, ws1, rfl, rfl, h3_1⟩ := hd_sti h3_0
      obtain ⟨n1', sw2, ws2, rfl, rfl, h3_2⟩ := hd_sti h3_1
      obtain ⟨n2', sw3, ws3, rfl, rfl, h3_3⟩ := hd_sti h3_2
      obtain ⟨sw4, rfl, h3_4⟩ := hd_str h3_3
      obtain ⟨rfl, rfl⟩ := hd_st0 h3_4
      have hr9 := hd_ref0 h2
      obtain ⟨v0, e0, l0, u0⟩ := h4 _ (List.mem_cons_self)
      have g0 : 1 * n0'.toInt + 0 = v0 := Option.some.inj e0
      obtain ⟨v1, e1, l1, u1⟩ := h4 _ (List.mem_cons_of_mem _ (List.mem_cons_self))
      have g1 : 1 * n1'.toInt + 0 = v1 := Option.some.inj e1
      obtain ⟨v2, e2, l2, u2⟩ := h4 _ (List.mem_cons_of_mem _ (List.mem_cons_of_mem _ (List.mem_cons_self)))
      have g2 : 1 * m1.toInt + ((-1) * n2'.toInt + 0) = v2 := Option.some.inj e2
      obtain ⟨v3, e3, l3, u3⟩ := h4 _ (List.mem_cons_of_mem _ (List.mem_cons_of_mem _ (List.mem_cons_of_mem _ (List.mem_cons_self))))
      have g3 : 1 * m1.toInt + ((-1) * m1'.toInt + 0) = v3 := Option.some.inj e3
      exact cuta _ _ _ _ _ _ hr9 hm1 ⟨by rw [g0]; exact l0, by rw [g0]; exact u0⟩ ⟨by rw [g1]; exact l1, by rw [g1]; exact u1⟩ ⟨by rw [g2]; exact l2, by rw [g2]; exact u2⟩ ⟨by rw [g3]; exact l3, by rw [g3]; exact u3⟩ h5
theorem sg_lngz_run (G : sx_G0 g L xs zK hd_T ex_mt) (hct : ∀ (mi : Nat) (T2 : ex_T) (c' : sx_Ct), ex_mt mi = some T2 → c' ∈ k9 mi → c'.1 < 0 → sx_Holds g zK hd_T T2 c') {σ : am_S} {lw : List (Nat × Value)} {post : Option (Option Value) → am_S → Prop} (hM : sx_M zK hd_T σ 0 0 σ) (hl : (0, Value.ref 118) ∈ lw) {n0 : Int32} (bk0 : 0 ≤ n0.toInt ∧ n0.toInt ≤ 0) (ret0 : ∀ (r : Int32) (σ' : am_S), (0 ≤ 1 * r.toInt + 0 ∧ 1 * r.toInt + 0 ≤ 0) → sx_M zK hd_T σ 0 0 σ' → post (some (some (.int r))) σ') : am_K g 20 tX12_line.1 0 0 230 lw [.int n0] σ post := by
  refine sg_seg (sw := [.int n0]) (vs := []) (ws := [n0.toInt]) G (mi := 132) rfl hct sg_lngz_ok trivial (hd_refs hl) ⟨⟨n0, rfl, rfl⟩, trivial⟩ (hd_p1 rfl bk0.1 bk0.2 hd_p0) hM ?_ ?_
  · intro r σ' hq
    cases r with
    | none => exact hq.elim
    | some v =>
      obtain ⟨p, hp, hM2, ks, hk, hv⟩ := hq
      simp only [List.mem_cons, List.not_mem_nil, or_false] at hp
      rcases hp with rfl
      · obtain rfl := hd_keys hk
        cases v with
        | none => exact hv.elim
        | some w9 =>
          obtain ⟨r, rfl, hP⟩ := hv
          obtain ⟨v0, e0, l0, u0⟩ := hP _ (List.mem_cons_self)
          have g0 : 1 * r.toInt + 0 = v0 := Option.some.inj e0
          exact ret0 r _ ⟨by rw [g0]; exact l0, by rw [g0]; exact u0⟩ hM2
  · intro u hu
    cases hu
theorem sg_lng_run (G : sx_G0 g L xs zK hd_T ex_mt) (hct : ∀ (mi : Nat) (T2 : ex_T) (c' : sx_Ct), ex_mt mi = some T2 → c' ∈ k9 mi → c'.1 < 0 → sx_Holds g zK hd_T T2 c') {σ : am_S} {lw : List (Nat × Value)} {post : Option (Option Value) → am_S → Prop} (hM : sx_M zK hd_T σ 0 0 σ) (hl : (0, Value.ref 118) ∈ lw) (bp121_1 : 0 ≤ (σ.2.1 121 1).toInt ∧ (σ.2.1 121 1).toInt ≤ 5) {n0 : Int32} (bk0 : 1 ≤ n0.toInt ∧ n0.toInt ≤ 1) (ret0 : ∀ (r : Int32) (σ' : am_S), (1 ≤ 1 * r.toInt + 0 ∧ 1 * r.toInt + 0 ≤ 1) → ((-1) ≤ 1 * (σ.2.1 121 1).toInt + ((-1) * (σ'.2.1 121 1).toInt + 0) ∧ 1 * (σ.2.1 121 1).toInt + ((-1) * (σ'.2.1 121 1).toInt + 0) ≤ (-1)) → sx_M zK hd_T σ 5545339388241629719156828368286167406872874150751633150340959161229242615611251246079948812208279156194782421922807143657948315648 0 σ' → post (some (some (.int r))) σ') : am_K g 20 tX12_line.1 0 0 230 lw [.int n0] σ post := by
  refine sg_seg (sw := [.int n0]) (vs := [(σ.2.1 121 1).toInt]) (ws := [n0.toInt]) G (mi := 132) rfl hct sg_lng_ok ⟨rfl, trivial⟩ (hd_refs hl) ⟨⟨n0, rfl, rfl⟩, trivial⟩ (hd_p1 rfl bp121_1.1 bp121_1.2 (hd_p1 rfl bk0.1 bk0.2 hd_p0)) hM ?_ ?_
  · intro r σ' hq
    cases r with
    | none => exact hq.elim
    | some v =>
      obtain ⟨p, hp, hM2, ks, hk, hv⟩ := hq
      simp only [List.mem_cons, List.not_mem_nil, or_false] at hp
      rcases hp with rfl
      · obtain ⟨ks0, rfl, hk1⟩ := hd_keyc hk; obtain rfl := hd_keys hk1
        cases v with
        | none => exact hv.elim
        | some w9 =>
          obtain ⟨r, rfl, hP⟩ := hv
          obtain ⟨v0, e0, l0, u0⟩ := hP _ (List.mem_cons_self)
          have g0 : 1 * r.toInt + 0 = v0 := Option.some.inj e0
          obtain ⟨v1, e1, l1, u1⟩ := hP _ (List.mem_cons_of_mem _ (List.mem_cons_self))
          have g1 : 1 * (σ.2.1 121 1).toInt + ((-1) * (σ'.2.1 121 1).toInt + 0) = v1 := Option.some.inj e1
          exact ret0 r _ ⟨by rw [g0]; exact l0, by rw [g0]; exact u0⟩ ⟨by rw [g1]; exact l1, by rw [g1]; exact u1⟩ hM2
  · intro u hu
    cases hu
theorem sg_lnh_run (G : sx_G0 g L xs zK hd_T ex_mt) (hct : ∀ (mi : Nat) (T2 : ex_T) (c' : sx_Ct), ex_mt mi = some T2 → c' ∈ k9 mi → c'.1 < 0 → sx_Holds g zK hd_T T2 c') {σ : am_S} {lw : List (Nat × Value)} {post : Option (Option Value) → am_S → Prop} (hM : sx_M zK hd_T σ 0 0 σ) (hl : (0, Value.ref 118) ∈ lw) {n0 : Int32} (bk0 : (-1) ≤ n0.toInt ∧ n0.toInt ≤ (-1)) (ret0 : ∀ (r : Int32) (σ' : am_S), (0 ≤ 1 * r.toInt + 0 ∧ 1 * r.toInt + 0 ≤ 0) → (1 ≤ 1 * (σ'.2.1 118 13).toInt + 0 ∧ 1 * (σ'.2.1 118 13).toInt + 0 ≤ 1) → (0 ≤ 1 * (σ.2.1 118 10).toInt + ((-1) * (σ'.2.1 118 14).toInt + 0) ∧ 1 * (σ.2.1 118 10).toInt + ((-1) * (σ'.2.1 118 14).toInt + 0) ≤ 0) → sx_M zK hd_T σ 28858891257124862704305937573347373392392387160985434571251191458187784500608308553281933292152037822856416985088 0 σ' → post (some (some (.int r))) σ') : am_K g 20 tX12_line.1 0 0 251 lw [.int n0] σ post := by
  refine sg_seg (sw := [.int n0]) (vs := [(σ.2.1 118 10).toInt]) (ws := [n0.toInt]) G (mi := 132) rfl hct sg_lnh_ok ⟨rfl, trivial⟩ (hd_refs hl) ⟨⟨n0, rfl, rfl⟩, trivial⟩ (hd_p1 rfl (hd_kd_118_10 hM).1 (hd_kd_118_10 hM).2 (hd_p1 rfl bk0.1 bk0.2 hd_p0)) hM ?_ ?_
  · intro r σ' hq
    cases r with
    | none => exact hq.elim
    | some v =>
      obtain ⟨p, hp, hM2, ks, hk, hv⟩ := hq
      simp only [List.mem_cons, List.not_mem_nil, or_false] at hp
      rcases hp with rfl
      · obtain ⟨ks0, rfl, hk1⟩ := hd_keyc hk; obtain ⟨ks1, rfl, hk2⟩ := hd_keyc hk1; obtain rfl := hd_keys hk2
        cases v with
        | none => exact hv.elim
        | some w9 =>
          obtain ⟨r, rfl, hP⟩ := hv
          obtain ⟨v0, e0, l0, u0⟩ := hP _ (List.mem_cons_self)
          have g0 : 1 * r.toInt + 0 = v0 := Option.some.inj e0
          obtain ⟨v1, e1, l1, u1⟩ := hP _ (List.mem_cons_of_mem _ (List.mem_cons_self))
          have g1 : 1 * (σ'.2.1 118 13).toInt + 0 = v1 := Option.some.inj e1
          obtain ⟨v2, e2, l2, u2⟩ := hP _ (List.mem_cons_of_mem _ (List.mem_cons_of_mem _ (List.mem_cons_self)))
          have g2 : 1 * (σ.2.1 118 10).toInt + ((-1) * (σ'.2.1 118 14).toInt + 0) = v2 := Option.some.inj e2
          exact ret0 r _ ⟨by rw [g0]; exact l0, by rw [g0]; exact u0⟩ ⟨by rw [g1]; exact l1, by rw [g1]; exact u1⟩ ⟨by rw [g2]; exact l2, by rw [g2]; exact u2⟩ hM2
  · intro u hu
    cases hu
theorem sg_lni_run (G : sx_G0 g L xs zK hd_T ex_mt) (hct : ∀ (mi : Nat) (T2 : ex_T) (c' : sx_Ct), ex_mt mi = some T2 → c' ∈ k9 mi → c'.1 < 0 → sx_Holds g zK hd_T T2 c') {σ : am_S} {lw : List (Nat × Value)} {post : Option (Option Value) → am_S → Prop} (hM : sx_M zK hd_T σ 0 0 σ) (hl : (0, Value.ref 118) ∈ lw) {n0 : Int32} (bk0 : 0 ≤ n0.toInt ∧ n0.toInt ≤ 7) (cuta : ∀ (lw' : List (Nat × Value)) (m1' : Int32) (n0' : Int32) (n1' : Int32) (σ' : am_S), (0, Value.ref 118) ∈ lw' → (1, Value.int m1') ∈ lw' → (0 ≤ 1 * n0.toInt + ((-1) * n0'.toInt + 0) ∧ 1 * n0.toInt + ((-1) * n0'.toInt + 0) ≤ 0) → (0 ≤ 1 * (σ.2.1 118 18).toInt + ((-1) * n1'.toInt + 0) ∧ 1 * (σ.2.1 118 18).toInt + ((-1) * n1'.toInt + 0) ≤ 0) → (0 ≤ 1 * n0.toInt + ((-1) * m1'.toInt + 0) ∧ 1 * n0.toInt + ((-1) * m1'.toInt + 0) ≤ 0) → sx_M zK hd_T σ 0 0 σ' → am_K g 20 tX12_line.1 0 0 267 lw' [.int n0', .int n1'] σ' post) : am_K g 20 tX12_line.1 0 0 251 lw [.int n0] σ post := by
  refine sg_seg (sw := [.int n0]) (vs := [(σ.2.1 118 18).toInt]) (ws := [n0.toInt]) G (mi := 132) rfl hct sg_lni_ok ⟨rfl, trivial⟩ (hd_refs hl) ⟨⟨n0, rfl, rfl⟩, trivial⟩ (hd_p1 rfl (hd_kd_118_18 hM).1 (hd_kd_118_18 hM).2 (hd_p1 rfl bk0.1 bk0.2 hd_p0)) hM ?_ ?_
  · intro r σ' hq
    cases r with
    | none => exact hq.elim
    | some v =>
      obtain ⟨p, hp, hM2, ks, hk, hv⟩ := hq
      cases hp
  · intro u hu
    simp only [List.mem_cons, List.not_mem_nil, or_false] at hu
    rcases hu with rfl
    · intro lw' sw' vs' ws' σ' ⟨h1_0, h2, h3_0, h4, h5⟩
      obtain ⟨m1', vs1, rfl, hm1, h1_1⟩ := hd_srcl h1_0
      obtain rfl := hd_src0 h1_1
      obtain ⟨n0', sw1, ws1, rfl, rfl, h3_1⟩ := hd_sti h3_0
      obtain ⟨n1', sw2, ws2, rfl, rfl, h3_2⟩ := hd_sti h3_1
      obtain ⟨rfl, rfl⟩ := hd_st0 h3_2
      have hr9 := hd_ref0 h2
      obtain ⟨v0, e0, l0, u0⟩ := h4 _ (List.mem_cons_self)
      have g0 : 1 * n0.toInt + ((-1) * n0'.toInt + 0) = v0 := Option.some.inj e0
      obtain ⟨v1, e1, l1, u1⟩ := h4 _ (List.mem_cons_of_mem _ (List.mem_cons_self))
      have g1 : 1 * (σ.2.1 118 18).toInt + ((-1) * n1'.toInt + 0) = v1 := Option.some.inj e1
      obtain ⟨v2, e2, l2, u2⟩ := h4 _ (List.mem_cons_of_mem _ (List.mem_cons_of_mem _ (List.mem_cons_self)))
      have g2 : 1 * n0.toInt + ((-1) * m1'.toInt + 0) = v2 := Option.some.inj e2
      exact cuta _ _ _ _ _ hr9 hm1 ⟨by rw [g0]; exact l0, by rw [g0]; exact u0⟩ ⟨by rw [g1]; exact l1, by rw [g1]; exact u1⟩ ⟨by rw [g2]; exact l2, by rw [g2]; exact u2⟩ h5
theorem sg_lnj_run (G : sx_G0 g L xs zK hd_T ex_mt) (hct : ∀ (mi : Nat) (T2 : ex_T) (c' : sx_Ct), ex_mt mi = some T2 → c' ∈ k9 mi → c'.1 < 0 → sx_Holds g zK hd_T T2 c') {σ : am_S} {lw : List (Nat × Value)} {post : Option (Option Value) → am_S → Prop} (hM : sx_M zK hd_T σ 0 0 σ) (hl : (0, Value.ref 118) ∈ lw) {n0 : Int32} (bk0 : 1 ≤ n0.toInt ∧ n0.toInt ≤ 1) (ret0 : ∀ (r : Int32) (σ' : am_S), (0 ≤ 1 * r.toInt + 0 ∧ 1 * r.toInt + 0 ≤ 0) → (3 ≤ 1 * (σ'.2.1 118 13).toInt + 0 ∧ 1 * (σ'.2.1 118 13).toInt + 0 ≤ 3) → (0 ≤ 1 * (σ.2.1 118 10).toInt + ((-1) * (σ'.2.1 118 14).toInt + 0) ∧ 1 * (σ.2.1 118 10).toInt + ((-1) * (σ'.2.1 118 14).toInt + 0) ≤ 0) → sx_M zK hd_T σ 28858891257124862704305937573347373392392387160985434571251191458187784500608308553281933292152037822856416985088 0 σ' → post (some (some (.int r))) σ') : am_K g 20 tX12_line.1 0 0 270 lw [.int n0] σ post := by
  refine sg_seg (sw := [.int n0]) (vs := [(σ.2.1 118 10).toInt]) (ws := [n0.toInt]) G (mi := 132) rfl hct sg_lnj_ok ⟨rfl, trivial⟩ (hd_refs hl) ⟨⟨n0, rfl, rfl⟩, trivial⟩ (hd_p1 rfl (hd_kd_118_10 hM).1 (hd_kd_118_10 hM).2 (hd_p1 rfl bk0.1 bk0.2 hd_p0)) hM ?_ ?_
  · intro r σ' hq
    cases r with
    | none => exact hq.elim
    | some v =>
      obtain ⟨p, hp, hM2, ks, hk, hv⟩ := hq
      simp only [List.mem_cons, List.not_mem_nil, or_false] at hp
      rcases hp with rfl
      · obtain ⟨ks0, rfl, hk1⟩ := hd_keyc hk; obtain ⟨ks1, rfl, hk2⟩ := hd_keyc hk1; obtain rfl := hd_keys hk2
        cases v with
        | none => exact hv.elim
        | some w9 =>
          obtain ⟨r, rfl, hP⟩ := hv
          obtain ⟨v0, e0, l0, u0⟩ := hP _ (List.mem_cons_self)
          have g0 : 1 * r.toInt + 0 = v0 := Option.some.inj e0
          obtain ⟨v1, e1, l1, u1⟩ := hP _ (List.mem_cons_of_mem _ (List.mem_cons_self))
          have g1 : 1 * (σ'.2.1 118 13).toInt + 0 = v1 := Option.some.inj e1
          obtain ⟨v2, e2, l2, u2⟩ := hP _ (List.mem_cons_of_mem _ (List.mem_cons_of_mem _ (List.mem_cons_self)))
          have g2 : 1 * (σ.2.1 118 10).toInt + ((-1) * (σ'.2.1 118 14).toInt + 0) = v2 := Option.some.inj e2
          exact ret0 r _ ⟨by rw [g0]; exact l0, by rw [g0]; exact u0⟩ ⟨by rw [g1]; exact l1, by rw [g1]; exact u1⟩ ⟨by rw [g2]; exact l2, by rw [g2]; exact u2⟩ hM2
  · intro u hu
    cases hu
theorem sg_lnk_run (G : sx_G0 g L xs zK hd_T ex_mt) (hct : ∀ (mi : Nat) (T2 : ex_T) (c' : sx_Ct), ex_mt mi = some T2 → c' ∈ k9 mi → c'.1 < 0 → sx_Holds g zK hd_T T2 c') {σ : am_S} {lw : List (Nat × Value)} {post : Option (Option Value) → am_S → Prop} (hM : sx_M zK hd_T σ 0 0 σ) (hl : (0, Value.ref 118) ∈ lw) {m1 : Int32} (hl1 : (1, Value.int m1) ∈ lw) {n0 : Int32} (bk0 : 0 ≤ n0.toInt ∧ n0.toInt ≤ 0) (cuta : ∀ (lw' : List (Nat × Value)) (m1' : Int32) (n0' : Int32) (n1' : Int32) (n2' : Int32) (σ' : am_S), (0, Value.ref 118) ∈ lw' → (1, Value.int m1') ∈ lw' → (0 ≤ 1 * m1.toInt + ((-1) * n0'.toInt + 0) ∧ 1 * m1.toInt + ((-1) * n0'.toInt + 0) ≤ 0) → (1 ≤ 1 * n1'.toInt + 0 ∧ 1 * n1'.toInt + 0 ≤ 1) → (0 ≤ 1 * (σ.2.1 118 18).toInt + ((-1) * n2'.toInt + 0) ∧ 1 * (σ.2.1 118 18).toInt + ((-1) * n2'.toInt + 0) ≤ 0) → (0 ≤ 1 * m1.toInt + ((-1) * m1'.toInt + 0) ∧ 1 * m1.toInt + ((-1) * m1'.toInt + 0) ≤ 0) → sx_M zK hd_T σ 0 0 σ' → am_K g 20 tX12_line.1 0 0 286 lw' [.int n0', .int n1', .int n2', .ref 118] σ' post) : am_K g 20 tX12_line.1 0 0 270 lw [.int n0] σ post := by
  refine sg_seg (sw := [.int n0]) (vs := [m1.toInt, (σ.2.1 118 18).toInt]) (ws := [n0.toInt]) G (mi := 132) rfl hct sg_lnk_ok ⟨⟨m1, hl1, rfl⟩, ⟨rfl, trivial⟩⟩ (hd_refs hl) ⟨⟨n0, rfl, rfl⟩, trivial⟩ (hd_p1 rfl (Int32.le_toInt _) (Int32.toInt_le _) (hd_p1 rfl (hd_kd_118_18 hM).1 (hd_kd_118_18 hM).2 (hd_p1 rfl bk0.1 bk0.2 hd_p0))) hM ?_ ?_
  · intro r σ' hq
    cases r with
    | none => exact hq.elim
    | some v =>
      obtain ⟨p, hp, hM2, ks, hk, hv⟩ := hq
      cases hp
  · intro u hu
    simp only [List.mem_cons, List.not_mem_nil, or_false] at hu
    rcases hu with rfl
    · intro lw' sw' vs' ws' σ' ⟨h1_0, h2, h3_0, h4, h5⟩
      obtain ⟨m1', vs1, rfl, hm1, h1_1⟩ := hd_srcl h1_0
      obtain rfl := hd_src0 h1_1
      obtain ⟨n0', sw1, ws1, rfl, rfl, h3_1⟩ := hd_sti h3_0
      obtain ⟨n1', sw2, ws2, rfl, rfl, h3_2⟩ := hd_sti h3_1
      obtain ⟨n2', sw3, ws3, rfl, rfl, h3_3⟩ := hd_sti h3_2
      obtain ⟨sw4, rfl, h3_4⟩ := hd_str h3_3
      obtain ⟨rfl, rfl⟩ := hd_st0 h3_4
      have hr9 := hd_ref0 h2
      obtain ⟨v0, e0, l0, u0⟩ := h4 _ (List.mem_cons_self)
      have g0 : 1 * m1.toInt + ((-1) * n0'.toInt + 0) = v0 := Option.some.inj e0
      obtain ⟨v1, e1, l1, u1⟩ := h4 _ (List.mem_cons_of_mem _ (List.mem_cons_self))
      have g1 : 1 * n1'.toInt + 0 = v1 := Option.some.inj e1
      obtain ⟨v2, e2, l2, u2⟩ := h4 _ (List.mem_cons_of_mem _ (List.mem_cons_of_mem _ (List.mem_cons_self)))
      have g2 : 1 * (σ.2.1 118 18).toInt + ((-1) * n2'.toInt + 0) = v2 := Option.some.inj e2
      obtain ⟨v3, e3, l3, u3⟩ := h4 _ (List.mem_cons_of_mem _ (List.mem_cons_of_mem _ (List.mem_cons_of_mem _ (List.mem_cons_self))))
      have g3 : 1 * m1.toInt + ((-1) * m1'.toInt + 0) = v3 := Option.some.inj e3
      exact cuta _ _ _ _ _ _ hr9 hm1 ⟨by rw [g0]; exact l0, by rw [g0]; exact u0⟩ ⟨by rw [g1]; exact l1, by rw [g1]; exact u1⟩ ⟨by rw [g2]; exact l2, by rw [g2]; exact u2⟩ ⟨by rw [g3]; exact l3, by rw [g3]; exact u3⟩ h5
theorem sg_lnl_run (G : sx_G0 g L xs zK hd_T ex_mt) (hct : ∀ (mi : Nat) (T2 : ex_T) (c' : sx_Ct), ex_mt mi = some T2 → c' ∈ k9 mi → c'.1 < 0 → sx_Holds g zK hd_T T2 c') {σ : am_S} {lw : List (Nat × Value)} {post : Option (Option Value) → am_S → Prop} (hM : sx_M zK hd_T σ 0 0 σ) (hl : (0, Value.ref 118) ∈ lw) {m1 : Int32} (hl1 : (1, Value.int m1) ∈ lw) (cuta : ∀ (lw' : List (Nat × Value)) (m1' : Int32) (σ' : am_S), (0, Value.ref 118) ∈ lw' → (1, Value.int m1') ∈ lw' → (0 ≤ 1 * m1.toInt + ((-1) * m1'.toInt + 0) ∧ 1 * m1.toInt + ((-1) * m1'.toInt + 0) ≤ 0) → sx_M zK hd_T σ 0 0 σ' → am_K g 20 tX12_line.1 0 0 292 lw' [.ref 118] σ' post) : am_K g 20 tX12_line.1 0 0 291 lw [] σ post := by
  refine sg_seg (sw := []) (vs := [m1.toInt]) (ws := []) G (mi := 132) rfl hct sg_lnl_ok ⟨⟨m1, hl1, rfl⟩, trivial⟩ (hd_refs hl) trivial (hd_p1 rfl (Int32.le_toInt _) (Int32.toInt_le _) hd_p0) hM ?_ ?_
  · intro r σ' hq
    cases r with
    | none => exact hq.elim
    | some v =>
      obtain ⟨p, hp, hM2, ks, hk, hv⟩ := hq
      cases hp
  · intro u hu
    simp only [List.mem_cons, List.not_mem_nil, or_false] at hu
    rcases hu with rfl
    · intro lw' sw' vs' ws' σ' ⟨h1_0, h2, h3_0, h4, h5⟩
      obtain ⟨m1', vs1, rfl, hm1, h1_1⟩ := hd_srcl h1_0
      obtain rfl := hd_src0 h1_1
      obtain ⟨sw1, rfl, h3_1⟩ := hd_str h3_0
      obtain ⟨rfl, rfl⟩ := hd_st0 h3_1
      have hr9 := hd_ref0 h2
      obtain ⟨v0, e0, l0, u0⟩ := h4 _ (List.mem_cons_self)
      have g0 : 1 * m1.toInt + ((-1) * m1'.toInt + 0) = v0 := Option.some.inj e0
      exact cuta _ _ _ hr9 hm1 ⟨by rw [g0]; exact l0, by rw [g0]; exact u0⟩ h5
theorem sg_lnm0_run (G : sx_G0 g L xs zK hd_T ex_mt) (hct : ∀ (mi : Nat) (T2 : ex_T) (c' : sx_Ct), ex_mt mi = some T2 → c' ∈ k9 mi → c'.1 < 0 → sx_Holds g zK hd_T T2 c') {σ : am_S} {lw : List (Nat × Value)} {post : Option (Option Value) → am_S → Prop} (hM : sx_M zK hd_T σ 0 0 σ) (hl : (0, Value.ref 118) ∈ lw) {m1 : Int32} (hl1 : (1, Value.int m1) ∈ lw) (bl1 : 0 ≤ m1.toInt ∧ m1.toInt ≤ 0) (cuta : ∀ (lw' : List (Nat × Value)) (n0' : Int32) (n1' : Int32) (n2' : Int32) (σ' : am_S), (0, Value.ref 118) ∈ lw' → (5 ≤ 1 * n0'.toInt + 0 ∧ 1 * n0'.toInt + 0 ≤ 5) → (1 ≤ 1 * n1'.toInt + 0 ∧ 1 * n1'.toInt + 0 ≤ 1) → (54 ≤ 1 * n2'.toInt + 0 ∧ 1 * n2'.toInt + 0 ≤ 54) → sx_M zK hd_T σ 0 0 σ' → am_K g 20 tX12_line.1 0 0 313 lw' [.int n0', .int n1', .int n2', .ref 118] σ' post) : am_K g 20 tX12_line.1 0 0 295 lw [] σ post := by
  refine sg_seg (sw := []) (vs := [m1.toInt]) (ws := []) G (mi := 132) rfl hct sg_lnm0_ok ⟨⟨m1, hl1, rfl⟩, trivial⟩ (hd_refs hl) trivial (hd_p1 rfl bl1.1 bl1.2 hd_p0) hM ?_ ?_
  · intro r σ' hq
    cases r with
    | none => exact hq.elim
    | some v =>
      obtain ⟨p, hp, hM2, ks, hk, hv⟩ := hq
      cases hp
  · intro u hu
    simp only [List.mem_cons, List.not_mem_nil, or_false] at hu
    rcases hu with rfl
    · intro lw' sw' vs' ws' σ' ⟨h1_0, h2, h3_0, h4, h5⟩
      obtain rfl := hd_src0 h1_0
      obtain ⟨n0', sw1, ws1, rfl, rfl, h3_1⟩ := hd_sti h3_0
      obtain ⟨n1', sw2, ws2, rfl, rfl, h3_2⟩ := hd_sti h3_1
      obtain ⟨n2', sw3, ws3, rfl, rfl, h3_3⟩ := hd_sti h3_2
      obtain ⟨sw4, rfl, h3_4⟩ := hd_str h3_3
      obtain ⟨rfl, rfl⟩ := hd_st0 h3_4
      have hr9 := hd_ref0 h2
      obtain ⟨v0, e0, l0, u0⟩ := h4 _ (List.mem_cons_self)
      have g0 : 1 * n0'.toInt + 0 = v0 := Option.some.inj e0
      obtain ⟨v1, e1, l1, u1⟩ := h4 _ (List.mem_cons_of_mem _ (List.mem_cons_self))
      have g1 : 1 * n1'.toInt + 0 = v1 := Option.some.inj e1
      obtain ⟨v2, e2, l2, u2⟩ := h4 _ (List.mem_cons_of_mem _ (List.mem_cons_of_mem _ (List.mem_cons_self)))
      have g2 : 1 * n2'.toInt + 0 = v2 := Option.some.inj e2
      exact cuta _ _ _ _ _ hr9  ⟨by rw [g0]; exact l0, by rw [g0]; exact u0⟩ ⟨by rw [g1]; exact l1, by rw [g1]; exact u1⟩ ⟨by rw [g2]; exact l2, by rw [g2]; exact u2⟩ h5
theorem sg_lnm1_run (G : sx_G0 g L xs zK hd_T ex_mt) (hct : ∀ (mi : Nat) (T2 : ex_T) (c' : sx_Ct), ex_mt mi = some T2 → c' ∈ k9 mi → c'.1 < 0 → sx_Holds g zK hd_T T2 c') {σ : am_S} {lw : List (Nat × Value)} {post : Option (Option Value) → am_S → Prop} (hM : sx_M zK hd_T σ 0 0 σ) (hl : (0, Value.ref 118) ∈ lw) {m1 : Int32} (hl1 : (1, Value.int m1) ∈ lw) (bl1 : 1 ≤ m1.toInt ∧ m1.toInt ≤ 1) (cuta : ∀ (lw' : List (Nat × Value)) (n0' : Int32) (n1' : Int32) (n2' : Int32) (σ' : am_S), (0, Value.ref 118) ∈ lw' → (24 ≤ 1 * n0'.toInt + 0 ∧ 1 * n0'.toInt + 0 ≤ 24) → (0 ≤ 1 * n1'.toInt + 0 ∧ 1 * n1'.toInt + 0 ≤ 0) → (55 ≤ 1 * n2'.toInt + 0 ∧ 1 * n2'.toInt + 0 ≤ 55) → sx_M zK hd_T σ 0 0 σ' → am_K g 20 tX12_line.1 0 0 313 lw' [.int n0', .int n1', .int n2', .ref 118] σ' post) : am_K g 20 tX12_line.1 0 0 295 lw [] σ post := by
  refine sg_seg (sw := []) (vs := [m1.toInt]) (ws := []) G (mi := 132) rfl hct sg_lnm1_ok ⟨⟨m1, hl1, rfl⟩, trivial⟩ (hd_refs hl) trivial (hd_p1 rfl bl1.1 bl1.2 hd_p0) hM ?_ ?_
  · intro r σ' hq
    cases r with
    | none => exact hq.elim
    | some v =>
      obtain ⟨p, hp, hM2, ks, hk, hv⟩ := hq
      cases hp
  · intro u hu
    simp only [List.mem_cons, List.not_mem_nil, or_false] at hu
    rcases hu with rfl
    · intro lw' sw' vs' ws' σ' ⟨h1_0, h2, h3_0, h4, h5⟩
      obtain rfl := hd_src0 h1_0
      obtain ⟨n0', sw1, ws1, rfl, rfl, h3_1⟩ := hd_sti h3_0
      obtain ⟨n1', sw2, ws2, rfl, rfl, h3_2⟩ := hd_sti h3_1
      obtain ⟨n2', sw3, ws3, rfl, rfl, h3_3⟩ := hd_sti h3_2
      obtain ⟨sw4, rfl, h3_4⟩ := hd_str h3_3
      obtain ⟨rfl, rfl⟩ := hd_st0 h3_4
      have hr9 := hd_ref0 h2
      obtain ⟨v0, e0, l0, u0⟩ := h4 _ (List.mem_cons_self)
      have g0 : 1 * n0'.toInt + 0 = v0 := Option.some.inj e0
      obtain ⟨v1, e1, l1, u1⟩ := h4 _ (List.mem_cons_of_mem _ (List.mem_cons_self))
      have g1 : 1 * n1'.toInt + 0 = v1 := Option.some.inj e1
      obtain ⟨v2, e2, l2, u2⟩ := h4 _ (List.mem_cons_of_mem _ (List.mem_cons_of_mem _ (List.mem_cons_self)))
      have g2 : 1 * n2'.toInt + 0 = v2 := Option.some.inj e2
      exact cuta _ _ _ _ _ hr9  ⟨by rw [g0]; exact l0, by rw [g0]; exact u0⟩ ⟨by rw [g1]; exact l1, by rw [g1]; exact u1⟩ ⟨by rw [g2]; exact l2, by rw [g2]; exact u2⟩ h5
theorem sg_lnm2_run (G : sx_G0 g L xs zK hd_T ex_mt) (hct : ∀ (mi : Nat) (T2 : ex_T) (c' : sx_Ct), ex_mt mi = some T2 → c' ∈ k9 mi → c'.1 < 0 → sx_Holds g zK hd_T T2 c') {σ : am_S} {lw : List (Nat × Value)} {post : Option (Option Value) → am_S → Prop} (hM : sx_M zK hd_T σ 0 0 σ) (hl : (0, Value.ref 118) ∈ lw) {m1 : Int32} (hl1 : (1, Value.int m1) ∈ lw) (bl1 : 2 ≤ m1.toInt ∧ m1.toInt ≤ 2) (cuta : ∀ (lw' : List (Nat × Value)) (n0' : Int32) (n1' : Int32) (n2' : Int32) (σ' : am_S), (0, Value.ref 118) ∈ lw' → (12 ≤ 1 * n0'.toInt + 0 ∧ 1 * n0'.toInt + 0 ≤ 12) → (0 ≤ 1 * n1'.toInt + 0 ∧ 1 * n1'.toInt + 0 ≤ 0) → (56 ≤ 1 * n2'.toInt + 0 ∧ 1 * n2'.toInt + 0 ≤ 56) → sx_M zK hd_T σ 0 0 σ' → am_K g 20 tX12_line.1 0 0 313 lw' [.int n0', .int n1', .int n2', .ref 118] σ' post) : am_K g 20 tX12_line.1 0 0 295 lw [] σ post := by
  refine sg_seg (sw := []) (vs := [m1.toInt]) (ws := []) G (mi := 132) rfl hct sg_lnm2_ok ⟨⟨m1, hl1, rfl⟩, trivial⟩ (hd_refs hl) trivial (hd_p1 rfl bl1.1 bl1.2 hd_p0) hM ?_ ?_
  · intro r σ' hq
    cases r with
    | none => exact hq.elim
    | some v =>
      obtain ⟨p, hp, hM2, ks, hk, hv⟩ := hq
      cases hp
  · intro u hu
    simp only [List.mem_cons, List.not_mem_nil, or_false] at hu
    rcases hu with rfl
    · intro lw' sw' vs' ws' σ' ⟨h1_0, h2, h3_0, h4, h5⟩
      obtain rfl := hd_src0 h1_0
      obtain ⟨n0', sw1, ws1, rfl, rfl, h3_1⟩ := hd_sti h3_0
      obtain ⟨n1', sw2, ws2, rfl, rfl, h3_2⟩ := hd_sti h3_1
      obtain ⟨n2', sw3, ws3, rfl, rfl, h3_3⟩ := hd_sti h3_2
      obtain ⟨sw4, rfl, h3_4⟩ := hd_str h3_3
      obtain ⟨rfl, rfl⟩ := hd_st0 h3_4
      have hr9 := hd_ref0 h2
      obtain ⟨v0, e0, l0, u0⟩ := h4 _ (List.mem_cons_self)
      have g0 : 1 * n0'.toInt + 0 = v0 := Option.some.inj e0
      obtain ⟨v1, e1, l1, u1⟩ := h4 _ (List.mem_cons_of_mem _ (List.mem_cons_self))
      have g1 : 1 * n1'.toInt + 0 = v1 := Option.some.inj e1
      obtain ⟨v2, e2, l2, u2⟩ := h4 _ (List.mem_cons_of_mem _ (List.mem_cons_of_mem _ (List.mem_cons_self)))
      have g2 : 1 * n2'.toInt + 0 = v2 := Option.some.inj e2
      exact cuta _ _ _ _ _ hr9  ⟨by rw [g0]; exact l0, by rw [g0]; exact u0⟩ ⟨by rw [g1]; exact l1, by rw [g1]; exact u1⟩ ⟨by rw [g2]; exact l2, by rw [g2]; exact u2⟩ h5
theorem sg_lnm3_run (G : sx_G0 g L xs zK hd_T ex_mt) (hct : ∀ (mi : Nat) (T2 : ex_T) (c' : sx_Ct), ex_mt mi = some T2 → c' ∈ k9 mi → c'.1 < 0 → sx_Holds g zK hd_T T2 c') {σ : am_S} {lw : List (Nat × Value)} {post : Option (Option Value) → am_S → Prop} (hM : sx_M zK hd_T σ 0 0 σ) (hl : (0, Value.ref 118) ∈ lw) {m1 : Int32} (hl1 : (1, Value.int m1) ∈ lw) (bl1 : 3 ≤ m1.toInt ∧ m1.toInt ≤ 3) (cuta : ∀ (lw' : List (Nat × Value)) (n0' : Int32) (n1' : Int32) (n2' : Int32) (σ' : am_S), (0, Value.ref 118) ∈ lw' → (12 ≤ 1 * n0'.toInt + 0 ∧ 1 * n0'.toInt + 0 ≤ 12) → (0 ≤ 1 * n1'.toInt + 0 ∧ 1 * n1'.toInt + 0 ≤ 0) → (57 ≤ 1 * n2'.toInt + 0 ∧ 1 * n2'.toInt + 0 ≤ 57) → sx_M zK hd_T σ 0 0 σ' → am_K g 20 tX12_line.1 0 0 313 lw' [.int n0', .int n1', .int n2', .ref 118] σ' post) : am_K g 20 tX12_line.1 0 0 295 lw [] σ post := by
  refine sg_seg (sw := []) (vs := [m1.toInt]) (ws := []) G (mi := 132) rfl hct sg_lnm3_ok ⟨⟨m1, hl1, rfl⟩, trivial⟩ (hd_refs hl) trivial (hd_p1 rfl bl1.1 bl1.2 hd_p0) hM ?_ ?_
  · intro r σ' hq
    cases r with
    | none => exact hq.elim
    | some v =>
      obtain ⟨p, hp, hM2, ks, hk, hv⟩ := hq
      cases hp
  · intro u hu
    simp only [List.mem_cons, List.not_mem_nil, or_false] at hu
    rcases hu with rfl
    · intro lw' sw' vs' ws' σ' ⟨h1_0, h2, h3_0, h4, h5⟩
      obtain rfl := hd_src0 h1_0
      obtain ⟨n0', sw1, ws1, rfl, rfl, h3_1⟩ := hd_sti h3_0
      obtain ⟨n1', sw2, ws2, rfl, rfl, h3_2⟩ := hd_sti h3_1
      obtain ⟨n2', sw3, ws3, rfl, rfl, h3_3⟩ := hd_sti h3_2
      obtain ⟨sw4, rfl, h3_4⟩ := hd_str h3_3
      obtain ⟨rfl, rfl⟩ := hd_st0 h3_4
      have hr9 := hd_ref0 h2
      obtain ⟨v0, e0, l0, u0⟩ := h4 _ (List.mem_cons_self)
      have g0 : 1 * n0'.toInt + 0 = v0 := Option.some.inj e0
      obtain ⟨v1, e1, l1, u1⟩ := h4 _ (List.mem_cons_of_mem _ (List.mem_cons_self))
      have g1 : 1 * n1'.toInt + 0 = v1 := Option.some.inj e1
      obtain ⟨v2, e2, l2, u2⟩ := h4 _ (List.mem_cons_of_mem _ (List.mem_cons_of_mem _ (List.mem_cons_self)))
      have g2 : 1 * n2'.toInt + 0 = v2 := Option.some.inj e2
      exact cuta _ _ _ _ _ hr9  ⟨by rw [g0]; exact l0, by rw [g0]; exact u0⟩ ⟨by rw [g1]; exact l1, by rw [g1]; exact u1⟩ ⟨by rw [g2]; exact l2, by rw [g2]; exact u2⟩ h5
theorem sg_lnm4_run (G : sx_G0 g L xs zK hd_T ex_mt) (hct : ∀ (mi : Nat) (T2 : ex_T) (c' : sx_Ct), ex_mt mi = some T2 → c' ∈ k9 mi → c'.1 < 0 → sx_Holds g zK hd_T T2 c') {σ : am_S} {lw : List (Nat × Value)} {post : Option (Option Value) → am_S → Prop} (hM : sx_M zK hd_T σ 0 0 σ) (hl : (0, Value.ref 118) ∈ lw) {m1 : Int32} (hl1 : (1, Value.int m1) ∈ lw) (bl1 : 4 ≤ m1.toInt ∧ m1.toInt ≤ 4) (cuta : ∀ (lw' : List (Nat × Value)) (n0' : Int32) (n1' : Int32) (n2' : Int32) (σ' : am_S), (0, Value.ref 118) ∈ lw' → (30 ≤ 1 * n0'.toInt + 0 ∧ 1 * n0'.toInt + 0 ≤ 30) → (0 ≤ 1 * n1'.toInt + 0 ∧ 1 * n1'.toInt + 0 ≤ 0) → (58 ≤ 1 * n2'.toInt + 0 ∧ 1 * n2'.toInt + 0 ≤ 58) → sx_M zK hd_T σ 0 0 σ' → am_K g 20 tX12_line.1 0 0 313 lw' [.int n0', .int n1', .int n2', .ref 118] σ' post) : am_K g 20 tX12_line.1 0 0 295 lw [] σ post := by
  refine sg_seg (sw := []) (vs := [m1.toInt]) (ws := []) G (mi := 132) rfl hct sg_lnm4_ok ⟨⟨m1, hl1, rfl⟩, trivial⟩ (hd_refs hl) trivial (hd_p1 rfl bl1.1 bl1.2 hd_p0) hM ?_ ?_
  · intro r σ' hq
    cases r with
    | none => exact hq.elim
    | some v =>
      obtain ⟨p, hp, hM2, ks, hk, hv⟩ := hq
      cases hp
  · intro u hu
    simp only [List.mem_cons, List.not_mem_nil, or_false] at hu
    rcases hu with rfl
    · intro lw' sw' vs' ws' σ' ⟨h1_0, h2, h3_0, h4, h5⟩
      obtain rfl := hd_src0 h1_0
      obtain ⟨n0', sw1, ws1, rfl, rfl, h3_1⟩ := hd_sti h3_0
      obtain ⟨n1', sw2, ws2, rfl, rfl, h3_2⟩ := hd_sti h3_1
      obtain ⟨n2', sw3, ws3, rfl, rfl, h3_3⟩ := hd_sti h3_2
      obtain ⟨sw4, rfl, h3_4⟩ := hd_str h3_3
      obtain ⟨rfl, rfl⟩ := hd_st0 h3_4
      have hr9 := hd_ref0 h2
      obtain ⟨v0, e0, l0, u0⟩ := h4 _ (List.mem_cons_self)
      have g0 : 1 * n0'.toInt + 0 = v0 := Option.some.inj e0
      obtain ⟨v1, e1, l1, u1⟩ := h4 _ (List.mem_cons_of_mem _ (List.mem_cons_self))
      have g1 : 1 * n1'.toInt + 0 = v1 := Option.some.inj e1
      obtain ⟨v2, e2, l2, u2⟩ := h4 _ (List.mem_cons_of_mem _ (List.mem_cons_of_mem _ (List.mem_cons_self)))
      have g2 : 1 * n2'.toInt + 0 = v2 := Option.some.inj e2
      exact cuta _ _ _ _ _ hr9  ⟨by rw [g0]; exact l0, by rw [g0]; exact u0⟩ ⟨by rw [g1]; exact l1, by rw [g1]; exact u1⟩ ⟨by rw [g2]; exact l2, by rw [g2]; exact u2⟩ h5
theorem sg_lnm5_run (G : sx_G0 g L xs zK hd_T ex_mt) (hct : ∀ (mi : Nat) (T2 : ex_T) (c' : sx_Ct), ex_mt mi = some T2 → c' ∈ k9 mi → c'.1 < 0 → sx_Holds g zK hd_T T2 c') {σ : am_S} {lw : List (Nat × Value)} {post : Option (Option Value) → am_S → Prop} (hM : sx_M zK hd_T σ 0 0 σ) (hl : (0, Value.ref 118) ∈ lw) {m1 : Int32} (hl1 : (1, Value.int m1) ∈ lw) (bl1 : 5 ≤ m1.toInt ∧ m1.toInt ≤ 5) (cuta : ∀ (lw' : List (Nat × Value)) (n0' : Int32) (n1' : Int32) (n2' : Int32) (σ' : am_S), (0, Value.ref 118) ∈ lw' → (11 ≤ 1 * n0'.toInt + 0 ∧ 1 * n0'.toInt + 0 ≤ 11) → (0 ≤ 1 * n1'.toInt + 0 ∧ 1 * n1'.toInt + 0 ≤ 0) → (59 ≤ 1 * n2'.toInt + 0 ∧ 1 * n2'.toInt + 0 ≤ 59) → sx_M zK hd_T σ 0 0 σ' → am_K g 20 tX12_line.1 0 0 313 lw' [.int n0', .int n1', .int n2', .ref 118] σ' post) : am_K g 20 tX12_line.1 0 0 295 lw [] σ post := by
  refine sg_seg (sw := []) (vs := [m1.toInt]) (ws := []) G (mi := 132) rfl hct sg_lnm5_ok ⟨⟨m1, hl1, rfl⟩, trivial⟩ (hd_refs hl) trivial (hd_p1 rfl bl1.1 bl1.2 hd_p0) hM ?_ ?_
  · intro r σ' hq
    cases r with
    | none => exact hq.elim
    | some v =>
      obtain ⟨p, hp, hM2, ks, hk, hv⟩ := hq
      cases hp
  · intro u hu
    simp only [List.mem_cons, List.not_mem_nil, or_false] at hu
    rcases hu with rfl
    · intro lw' sw' vs' ws' σ' ⟨h1_0, h2, h3_0, h4, h5⟩
      obtain rfl := hd_src0 h1_0
      obtain ⟨n0', sw1, ws1, rfl, rfl, h3_1⟩ := hd_sti h3_0
      obtain ⟨n1', sw2, ws2, rfl, rfl, h3_2⟩ := hd_sti h3_1
      obtain ⟨n2', sw3, ws3, rfl, rfl, h3_3⟩ := hd_sti h3_2
      obtain ⟨sw4, rfl, h3_4⟩ := hd_str h3_3
      obtain ⟨rfl, rfl⟩ := hd_st0 h3_4
      have hr9 := hd_ref0 h2
      obtain ⟨v0, e0, l0, u0⟩ := h4 _ (List.mem_cons_self)
      have g0 : 1 * n0'.toInt + 0 = v0 := Option.some.inj e0
      obtain ⟨v1, e1, l1, u1⟩ := h4 _ (List.mem_cons_of_mem _ (List.mem_cons_self))
      have g1 : 1 * n1'.toInt + 0 = v1 := Option.some.inj e1
      obtain ⟨v2, e2, l2, u2⟩ := h4 _ (List.mem_cons_of_mem _ (List.mem_cons_of_mem _ (List.mem_cons_self)))
      have g2 : 1 * n2'.toInt + 0 = v2 := Option.some.inj e2
      exact cuta _ _ _ _ _ hr9  ⟨by rw [g0]; exact l0, by rw [g0]; exact u0⟩ ⟨by rw [g1]; exact l1, by rw [g1]; exact u1⟩ ⟨by rw [g2]; exact l2, by rw [g2]; exact u2⟩ h5
theorem sg_lnm6_run (G : sx_G0 g L xs zK hd_T ex_mt) (hct : ∀ (mi : Nat) (T2 : ex_T) (c' : sx_Ct), ex_mt mi = some T2 → c' ∈ k9 mi → c'.1 < 0 → sx_Holds g zK hd_T T2 c') {σ : am_S} {lw : List (Nat × Value)} {post : Option (Option Value) → am_S → Prop} (hM : sx_M zK hd_T σ 0 0 σ) (hl : (0, Value.ref 118) ∈ lw) {m1 : Int32} (hl1 : (1, Value.int m1) ∈ lw) (bl1 : 6 ≤ m1.toInt ∧ m1.toInt ≤ 6) (cuta : ∀ (lw' : List (Nat × Value)) (n0' : Int32) (n1' : Int32) (n2' : Int32) (σ' : am_S), (0, Value.ref 118) ∈ lw' → (12 ≤ 1 * n0'.toInt + 0 ∧ 1 * n0'.toInt + 0 ≤ 12) → (0 ≤ 1 * n1'.toInt + 0 ∧ 1 * n1'.toInt + 0 ≤ 0) → (60 ≤ 1 * n2'.toInt + 0 ∧ 1 * n2'.toInt + 0 ≤ 60) → sx_M zK hd_T σ 0 0 σ' → am_K g 20 tX12_line.1 0 0 313 lw' [.int n0', .int n1', .int n2', .ref 118] σ' post) : am_K g 20 tX12_line.1 0 0 295 lw [] σ post := by
  refine sg_seg (sw := []) (vs := [m1.toInt]) (ws := []) G (mi := 132) rfl hct sg_lnm6_ok ⟨⟨m1, hl1, rfl⟩, trivial⟩ (hd_refs hl) trivial (hd_p1 rfl bl1.1 bl1.2 hd_p0) hM ?_ ?_
  · intro r σ' hq
    cases r with
    | none => exact hq.elim
    | some v =>
      obtain ⟨p, hp, hM2, ks, hk, hv⟩ := hq
      cases hp
  · intro u hu
    simp only [List.mem_cons, List.not_mem_nil, or_false] at hu
    rcases hu with rfl
    · intro lw' sw' vs' ws' σ' ⟨h1_0, h2, h3_0, h4, h5⟩
      obtain rfl := hd_src0 h1_0
      obtain ⟨n0', sw1, ws1, rfl, rfl, h3_1⟩ := hd_sti h3_0
      obtain ⟨n1', sw2, ws2, rfl, rfl, h3_2⟩ := hd_sti h3_1
      obtain ⟨n2', sw3, ws3, rfl, rfl, h3_3⟩ := hd_sti h3_2
      obtain ⟨sw4, rfl, h3_4⟩ := hd_str h3_3
      obtain ⟨rfl, rfl⟩ := hd_st0 h3_4
      have hr9 := hd_ref0 h2
      obtain ⟨v0, e0, l0, u0⟩ := h4 _ (List.mem_cons_self)
      have g0 : 1 * n0'.toInt + 0 = v0 := Option.some.inj e0
      obtain ⟨v1, e1, l1, u1⟩ := h4 _ (List.mem_cons_of_mem _ (List.mem_cons_self))
      have g1 : 1 * n1'.toInt + 0 = v1 := Option.some.inj e1
      obtain ⟨v2, e2, l2, u2⟩ := h4 _ (List.mem_cons_of_mem _ (List.mem_cons_of_mem _ (List.mem_cons_self)))
      have g2 : 1 * n2'.toInt + 0 = v2 := Option.some.inj e2
      exact cuta _ _ _ _ _ hr9  ⟨by rw [g0]; exact l0, by rw [g0]; exact u0⟩ ⟨by rw [g1]; exact l1, by rw [g1]; exact u1⟩ ⟨by rw [g2]; exact l2, by rw [g2]; exact u2⟩ h5
theorem sg_lnm7_run (G : sx_G0 g L xs zK hd_T ex_mt) (hct : ∀ (mi : Nat) (T2 : ex_T) (c' : sx_Ct), ex_mt mi = some T2 → c' ∈ k9 mi → c'.1 < 0 → sx_Holds g zK hd_T T2 c') {σ : am_S} {lw : List (Nat × Value)} {post : Option (Option Value) → am_S → Prop} (hM : sx_M zK hd_T σ 0 0 σ) (hl : (0, Value.ref 118) ∈ lw) {m1 : Int32} (hl1 : (1, Value.int m1) ∈ lw) (bl1 : 7 ≤ m1.toInt ∧ m1.toInt ≤ 7) (cuta : ∀ (lw' : List (Nat × Value)) (n0' : Int32) (n1' : Int32) (n2' : Int32) (σ' : am_S), (0, Value.ref 118) ∈ lw' → (99 ≤ 1 * n0'.toInt + 0 ∧ 1 * n0'.toInt + 0 ≤ 99) → (0 ≤ 1 * n1'.toInt + 0 ∧ 1 * n1'.toInt + 0 ≤ 0) → (61 ≤ 1 * n2'.toInt + 0 ∧ 1 * n2'.toInt + 0 ≤ 61) → sx_M zK hd_T σ 0 0 σ' → am_K g 20 tX12_line.1 0 0 313 lw' [.int n0', .int n1', .int n2', .ref 118] σ' post) : am_K g 20 tX12_line.1 0 0 295 lw [] σ post := by
  refine sg_seg (sw := []) (vs := [m1.toInt]) (ws := []) G (mi := 132) rfl hct sg_lnm7_ok ⟨⟨m1, hl1, rfl⟩, trivial⟩ (hd_refs hl) trivial (hd_p1 rfl bl1.1 bl1.2 hd_p0) hM ?_ ?_
  · intro r σ' hq
    cases r with
    | none => exact hq.elim
    | some v =>
      obtain ⟨p, hp, hM2, ks, hk, hv⟩ := hq
      cases hp
  · intro u hu
    simp only [List.mem_cons, List.not_mem_nil, or_false] at hu
    rcases hu with rfl
    · intro lw' sw' vs' ws' σ' ⟨h1_0, h2, h3_0, h4, h5⟩
      obtain rfl := hd_src0 h1_0
      obtain ⟨n0', sw1, ws1, rfl, rfl, h3_1⟩ := hd_sti h3_0
      obtain ⟨n1', sw2, ws2, rfl, rfl, h3_2⟩ := hd_sti h3_1
      obtain ⟨n2', sw3, ws3, rfl, rfl, h3_3⟩ := hd_sti h3_2
      obtain ⟨sw4, rfl, h3_4⟩ := hd_str h3_3
      obtain ⟨rfl, rfl⟩ := hd_st0 h3_4
      have hr9 := hd_ref0 h2
      obtain ⟨v0, e0, l0, u0⟩ := h4 _ (List.mem_cons_self)
      have g0 : 1 * n0'.toInt + 0 = v0 := Option.some.inj e0
      obtain ⟨v1, e1, l1, u1⟩ := h4 _ (List.mem_cons_of_mem _ (List.mem_cons_self))
      have g1 : 1 * n1'.toInt + 0 = v1 := Option.some.inj e1
      obtain ⟨v2, e2, l2, u2⟩ := h4 _ (List.mem_cons_of_mem _ (List.mem_cons_of_mem _ (List.mem_cons_self)))
      have g2 : 1 * n2'.toInt + 0 = v2 := Option.some.inj e2
      exact cuta _ _ _ _ _ hr9  ⟨by rw [g0]; exact l0, by rw [g0]; exact u0⟩ ⟨by rw [g1]; exact l1, by rw [g1]; exact u1⟩ ⟨by rw [g2]; exact l2, by rw [g2]; exact u2⟩ h5
theorem sg_lnn_run (G : sx_G0 g L xs zK hd_T ex_mt) (hct : ∀ (mi : Nat) (T2 : ex_T) (c' : sx_Ct), ex_mt mi = some T2 → c' ∈ k9 mi → c'.1 < 0 → sx_Holds g zK hd_T T2 c') {σ : am_S} {lw : List (Nat × Value)} {post : Option (Option Value) → am_S → Prop} (hM : sx_M zK hd_T σ 0 0 σ) (hl : (0, Value.ref 118) ∈ lw) {n0 : Int32} (bk0 : 0 ≤ n0.toInt ∧ n0.toInt ≤ 1) (ret0 : ∀ (r : Int32) (σ' : am_S), (0 ≤ 1 * n0.toInt + ((-1) * r.toInt + 0) ∧ 1 * n0.toInt + ((-1) * r.toInt + 0) ≤ 0) → sx_M zK hd_T σ 0 0 σ' → post (some (some (.int r))) σ') : am_K g 20 tX12_line.1 0 0 316 lw [.int n0] σ post := by
  refine sg_seg (sw := [.int n0]) (vs := []) (ws := [n0.toInt]) G (mi := 132) rfl hct sg_lnn_ok trivial (hd_refs hl) ⟨⟨n0, rfl, rfl⟩, trivial⟩ (hd_p1 rfl bk0.1 bk0.2 hd_p0) hM ?_ ?_
  · intro r σ' hq
    cases r with
    | none => exact hq.elim
    | some v =>
      obtain ⟨p, hp, hM2, ks, hk, hv⟩ := hq
      simp only [List.mem_cons, List.not_mem_nil, or_false] at hp
      rcases hp with rfl
      · obtain rfl := hd_keys hk
        cases v with
        | none => exact hv.elim
        | some w9 =>
          obtain ⟨r, rfl, hP⟩ := hv
          obtain ⟨v0, e0, l0, u0⟩ := hP _ (List.mem_cons_self)
          have g0 : 1 * n0.toInt + ((-1) * r.toInt + 0) = v0 := Option.some.inj e0
          exact ret0 r _ ⟨by rw [g0]; exact l0, by rw [g0]; exact u0⟩ hM2
  · intro u hu
    cases hu
theorem sg_so1_run (G : sx_G0 g L xs zK hd_T ex_mt) (hct : ∀ (mi : Nat) (T2 : ex_T) (c' : sx_Ct), ex_mt mi = some T2 → c' ∈ k9 mi → c'.1 < 0 → sx_Holds g zK hd_T T2 c') {σ : am_S} {lw : List (Nat × Value)} {post : Option (Option Value) → am_S → Prop} (hM : sx_M zK hd_T σ 0 0 σ) (hl : (0, Value.ref 118) ∈ lw)  (cuta : ∀ (lw' : List (Nat × Value))  (σ' : am_S), (0, Value.ref 118) ∈ lw' → (0 ≤ 1 * (σ'.2.1 118 2).toInt + 0 ∧ 1 * (σ'.2.1 118 2).toInt + 0 ≤ 0) → (0 ≤ 1 * (σ.2.1 118 2).toInt + ((-1) * (σ'.2.1 118 3).toInt + 0) ∧ 1 * (σ.2.1 118 2).toInt + ((-1) * (σ'.2.1 118 3).toInt + 0) ≤ 0) → (0 ≤ 1 * (σ'.2.1 118 4).toInt + 0 ∧ 1 * (σ'.2.1 118 4).toInt + 0 ≤ 0) → (900 ≤ 1 * (σ'.2.1 118 5).toInt + 0 ∧ 1 * (σ'.2.1 118 5).toInt + 0 ≤ 900) → (0 ≤ 1 * (σ'.2.1 118 17).toInt + 0 ∧ 1 * (σ'.2.1 118 17).toInt + 0 ≤ 0) → (0 ≤ 1 * (σ'.2.1 118 18).toInt + 0 ∧ 1 * (σ'.2.1 118 18).toInt + 0 ≤ 0) → (0 ≤ 1 * (σ'.2.1 118 13).toInt + 0 ∧ 1 * (σ'.2.1 118 13).toInt + 0 ≤ 0) → (0 ≤ 1 * (σ'.2.1 121 0).toInt + 0 ∧ 1 * (σ'.2.1 121 0).toInt + 0 ≤ 0) → (0 ≤ 1 * (σ'.2.1 121 1).toInt + 0 ∧ 1 * (σ'.2.1 121 1).toInt + 0 ≤ 0) → (0 ≤ 1 * (σ'.2.1 121 2).toInt + 0 ∧ 1 * (σ'.2.1 121 2).toInt + 0 ≤ 0) → (0 ≤ 1 * (σ'.2.1 121 3).toInt + 0 ∧ 1 * (σ'.2.1 121 3).toInt + 0 ≤ 0) → (0 ≤ 1 * (σ'.2.1 121 4).toInt + 0 ∧ 1 * (σ'.2.1 121 4).toInt + 0 ≤ 0) → (0 ≤ 1 * (σ'.2.1 121 5).toInt + 0 ∧ 1 * (σ'.2.1 121 5).toInt + 0 ≤ 0) → (0 ≤ 1 * (σ'.2.1 121 6).toInt + 0 ∧ 1 * (σ'.2.1 121 6).toInt + 0 ≤ 0) → (0 ≤ 1 * (σ'.2.1 121 7).toInt + 0 ∧ 1 * (σ'.2.1 121 7).toInt + 0 ≤ 0) → (0 ≤ 1 * (σ'.2.1 121 8).toInt + 0 ∧ 1 * (σ'.2.1 121 8).toInt + 0 ≤ 0) → (0 ≤ 1 * (σ'.2.1 121 9).toInt + 0 ∧ 1 * (σ'.2.1 121 9).toInt + 0 ≤ 0) → (0 ≤ 1 * (σ'.2.1 121 10).toInt + 0 ∧ 1 * (σ'.2.1 121 10).toInt + 0 ≤ 0) → (0 ≤ 1 * (σ'.2.1 121 11).toInt + 0 ∧ 1 * (σ'.2.1 121 11).toInt + 0 ≤ 0) → (0 ≤ 1 * (σ'.2.1 121 12).toInt + 0 ∧ 1 * (σ'.2.1 121 12).toInt + 0 ≤ 0) → (0 ≤ 1 * (σ'.2.1 121 13).toInt + 0 ∧ 1 * (σ'.2.1 121 13).toInt + 0 ≤ 0) → (0 ≤ 1 * (σ'.2.1 121 14).toInt + 0 ∧ 1 * (σ'.2.1 121 14).toInt + 0 ≤ 0) → (0 ≤ 1 * (σ'.2.1 121 15).toInt + 0 ∧ 1 * (σ'.2.1 121 15).toInt + 0 ≤ 0) → (0 ≤ 1 * (σ'.2.1 121 16).toInt + 0 ∧ 1 * (σ'.2.1 121 16).toInt + 0 ≤ 0) → (0 ≤ 1 * (σ'.2.1 121 17).toInt + 0 ∧ 1 * (σ'.2.1 121 17).toInt + 0 ≤ 0) → (0 ≤ 1 * (σ'.2.1 121 18).toInt + 0 ∧ 1 * (σ'.2.1 121 18).toInt + 0 ≤ 0) → (0 ≤ 1 * (σ'.2.1 121 19).toInt + 0 ∧ 1 * (σ'.2.1 121 19).toInt + 0 ≤ 0) → (0 ≤ 1 * (σ'.2.1 121 20).toInt + 0 ∧ 1 * (σ'.2.1 121 20).toInt + 0 ≤ 0) → (0 ≤ 1 * (σ'.2.1 121 21).toInt + 0 ∧ 1 * (σ'.2.1 121 21).toInt + 0 ≤ 0) → (0 ≤ 1 * (σ'.2.1 121 22).toInt + 0 ∧ 1 * (σ'.2.1 121 22).toInt + 0 ≤ 0) → (0 ≤ 1 * (σ'.2.1 121 23).toInt + 0 ∧ 1 * (σ'.2.1 121 23).toInt + 0 ≤ 0) → (0 ≤ 1 * (σ'.2.1 121 24).toInt + 0 ∧ 1 * (σ'.2.1 121 24).toInt + 0 ≤ 0) → (0 ≤ 1 * (σ'.2.1 121 25).toInt + 0 ∧ 1 * (σ'.2.1 121 25).toInt + 0 ≤ 0) → (0 ≤ 1 * (σ'.2.1 121 26).toInt + 0 ∧ 1 * (σ'.2.1 121 26).toInt + 0 ≤ 0) → (0 ≤ 1 * (σ'.2.1 121 27).toInt + 0 ∧ 1 * (σ'.2.1 121 27).toInt + 0 ≤ 0) → (0 ≤ 1 * (σ'.2.1 121 28).toInt + 0 ∧ 1 * (σ'.2.1 121 28).toInt + 0 ≤ 0) → (0 ≤ 1 * (σ'.2.1 121 29).toInt + 0 ∧ 1 * (σ'.2.1 121 29).toInt + 0 ≤ 0) → (0 ≤ 1 * (σ'.2.1 121 30).toInt + 0 ∧ 1 * (σ'.2.1 121 30).toInt + 0 ≤ 0) → (0 ≤ 1 * (σ'.2.1 121 31).toInt + 0 ∧ 1 * (σ'.2.1 121 31).toInt + 0 ≤ 0) → (0 ≤ 1 * (σ'.2.1 121 32).toInt + 0 ∧ 1 * (σ'.2.1 121 32).toInt + 0 ≤ 0) → (0 ≤ 1 * (σ'.2.1 121 33).toInt + 0 ∧ 1 * (σ'.2.1 121 33).toInt + 0 ≤ 0) → (0 ≤ 1 * (σ'.2.1 121 34).toInt + 0 ∧ 1 * (σ'.2.1 121 34).toInt + 0 ≤ 0) → (0 ≤ 1 * (σ'.2.1 121 35).toInt + 0 ∧ 1 * (σ'.2.1 121 35).toInt + 0 ≤ 0) → (0 ≤ 1 * (σ'.2.1 121 36).toInt + 0 ∧ 1 * (σ'.2.1 121 36).toInt + 0 ≤ 0) → (0 ≤ 1 * (σ'.2.1 121 37).toInt + 0 ∧ 1 * (σ'.2.1 121 37).toInt + 0 ≤ 0) → (0 ≤ 1 * (σ'.2.1 121 38).toInt + 0 ∧ 1 * (σ'.2.1 121 38).toInt + 0 ≤ 0) → (0 ≤ 1 * (σ'.2.1 121 39).toInt + 0 ∧ 1 * (σ'.2.1 121 39).toInt + 0 ≤ 0) → (0 ≤ 1 * (σ'.2.1 121 40).toInt + 0 ∧ 1 * (σ'.2.1 121 40).toInt + 0 ≤ 0) → (0 ≤ 1 * (σ'.2.1 121 41).toInt + 0 ∧ 1 * (σ'.2.1 121 41).toInt + 0 ≤ 0) → (0 ≤ 1 * (σ'.2.1 121 42).toInt + 0 ∧ 1 * (σ'.2.1 121 42).toInt + 0 ≤ 0) → (0 ≤ 1 * (σ'.2.1 121 43).toInt + 0 ∧ 1 * (σ'.2.1 121 43).toInt + 0 ≤ 0) → (0 ≤ 1 * (σ'.2.1 121 44).toInt + 0 ∧ 1 * (σ'.2.1 121 44).toInt + 0 ≤ 0) → (0 ≤ 1 * (σ'.2.1 121 45).toInt + 0 ∧ 1 * (σ'.2.1 121 45).toInt + 0 ≤ 0) → (0 ≤ 1 * (σ'.2.1 121 46).toInt + 0 ∧ 1 * (σ'.2.1 121 46).toInt + 0 ≤ 0) → (0 ≤ 1 * (σ'.2.1 121 47).toInt + 0 ∧ 1 * (σ'.2.1 121 47).toInt + 0 ≤ 0) → (0 ≤ 1 * (σ'.2.1 121 48).toInt + 0 ∧ 1 * (σ'.2.1 121 48).toInt + 0 ≤ 0) → (0 ≤ 1 * (σ'.2.1 121 49).toInt + 0 ∧ 1 * (σ'.2.1 121 49).toInt + 0 ≤ 0) → (0 ≤ 1 * (σ'.2.1 121 50).toInt + 0 ∧ 1 * (σ'.2.1 121 50).toInt + 0 ≤ 0) → (0 ≤ 1 * (σ'.2.1 121 51).toInt + 0 ∧ 1 * (σ'.2.1 121 51).toInt + 0 ≤ 0) → (0 ≤ 1 * (σ'.2.1 121 52).toInt + 0 ∧ 1 * (σ'.2.1 121 52).toInt + 0 ≤ 0) → (0 ≤ 1 * (σ'.2.1 121 53).toInt + 0 ∧ 1 * (σ'.2.1 121 53).toInt + 0 ≤ 0) → (1 ≤ 1 * (σ'.2.1 121 54).toInt + 0 ∧ 1 * (σ'.2.1 121 54).toInt + 0 ≤ 1) → (12 ≤ 1 * (σ'.2.1 121 55).toInt + 0 ∧ 1 * (σ'.2.1 121 55).toInt + 0 ≤ 12) → (6 ≤ 1 * (σ'.2.1 121 56).toInt + 0 ∧ 1 * (σ'.2.1 121 56).toInt + 0 ≤ 6) → (6 ≤ 1 * (σ'.2.1 121 57).toInt + 0 ∧ 1 * (σ'.2.1 121 57).toInt + 0 ≤ 6) → (0 ≤ 1 * (σ'.2.1 121 58).toInt + 0 ∧ 1 * (σ'.2.1 121 58).toInt + 0 ≤ 0) → (6 ≤ 1 * (σ'.2.1 121 59).toInt + 0 ∧ 1 * (σ'.2.1 121 59).toInt + 0 ≤ 6) → (3 ≤ 1 * (σ'.2.1 121 60).toInt + 0 ∧ 1 * (σ'.2.1 121 60).toInt + 0 ≤ 3) → (1 ≤ 1 * (σ'.2.1 121 61).toInt + 0 ∧ 1 * (σ'.2.1 121 61).toInt + 0 ≤ 1) → sx_M zK hd_T σ 181706908404207601822942807078898804530790684677610348427319123264193044542128167905449754916586655619206996896946850433030585384435712 0 σ' → am_K g 30 tX12_station.1 0 0 32 lw' [.ref 118] σ' post) : am_K g 30 tX12_station.1 0 0 0 lw [] σ post := by
  refine sg_seg (sw := []) (vs := [(σ.2.1 118 2).toInt]) (ws := []) G (mi := 173) rfl hct sg_so1_ok ⟨rfl, trivial⟩ (hd_refs hl) trivial (hd_p1 rfl (hd_kd_118_2 hM).1 (hd_kd_118_2 hM).2 hd_p0) hM ?_ ?_
  · intro r σ' hq
    cases r with
    | none => exact hq.elim
    | some v =>
      obtain ⟨p, hp, hM2, ks, hk, hv⟩ := hq
      cases hp
  · intro u hu
    simp only [List.mem_cons, List.not_mem_nil, or_false] at hu
    rcases hu with rfl
    · intro lw' sw' vs' ws' σ' ⟨h1_0, h2, h3_0, h4, h5⟩
      obtain ⟨vs1, rfl, h1_1⟩ := hd_srcs h1_0
      obtain ⟨vs2, rfl, h1_2⟩ := hd_srcs h1_1
      obtain ⟨vs3, rfl, h1_3⟩ := hd_srcs h1_2
      obtain ⟨vs4, rfl, h1_4⟩ := hd_srcs h1_3
      obtain ⟨vs5, rfl, h1_5⟩ := hd_srcs h1_4
      obtain ⟨vs6, rfl, h1_6⟩ := hd_srcs h1_5
      obtain ⟨vs7, rfl, h1_7⟩ := hd_srcs h1_6
      obtain ⟨vs8, rfl, h1_8⟩ := hd_srcs h1_7
      obtain ⟨vs9, rfl, h1_9⟩ := hd_srcs h1_8
      obtain ⟨vs10, rfl, h1_10⟩ := hd_srcs h1_9
      obtain ⟨vs11, rfl, h1_11⟩ := hd_srcs h1_10
      obtain ⟨vs12, rfl, h1_12⟩ := hd_srcs h1_11
      obtain ⟨vs13, rfl, h1_13⟩ := hd_srcs h1_12
      obtain ⟨vs14, rfl, h1_14⟩ := hd_srcs h1_13
      obtain ⟨vs15, rfl, h1_15⟩ := hd_srcs h1_14
      obtain ⟨vs16, rfl, h1_16⟩ := hd_srcs h1_15
      obtain ⟨vs17, rfl, h1_17⟩ := hd_srcs h1_16
      obtain ⟨vs18, rfl, h1_18⟩ := hd_srcs h1_17
      obtain ⟨vs19, rfl, h1_19⟩ := hd_srcs h1_18
      obtain ⟨vs20, rfl, h1_20⟩ := hd_srcs h1_19
      obtain ⟨vs21, rfl, h1_21⟩ := hd_srcs h1_20
      obtain ⟨vs22, rfl, h1_22⟩ := hd_srcs h1_21
      obtain ⟨vs23, rfl, h1_23⟩ := hd_srcs h1_22
      obtain ⟨vs24, rfl, h1_24⟩ := hd_srcs h1_23
      obtain ⟨vs25, rfl, h1_25⟩ := hd_srcs h1_24
      obtain ⟨vs26, rfl, h1_26⟩ := hd_srcs h1_25
      obtain ⟨vs27, rfl, h1_27⟩ := hd_srcs h1_26
      obtain ⟨vs28, rfl, h1_28⟩ := hd_srcs h1_27
      obtain ⟨vs29, rfl, h1_29⟩ := hd_srcs h1_28
      obtain ⟨vs30, rfl, h1_30⟩ := hd_srcs h1_29
      obtain ⟨vs31, rfl, h1_31⟩ := hd_srcs h1_30
      obtain ⟨vs32, rfl, h1_32⟩ := hd_srcs h1_31
      obtain ⟨vs33, rfl, h1_33⟩ := hd_srcs h1_32
      obtain ⟨vs34, rfl, h1_34⟩ := hd_srcs h1_33
      obtain ⟨vs35, rfl, h1_35⟩ := hd_srcs h1_34
      obtain ⟨vs36, rfl, h1_36⟩ := hd_srcs h1_35
      obtain ⟨vs37, rfl, h1_37⟩ := hd_srcs h1_36
      obtain ⟨vs38, rfl, h1_38⟩ := hd_srcs h1_37
      obtain ⟨vs39, rfl, h1_39⟩ := hd_srcs h1_38
      obtain ⟨vs40, rfl, h1_40⟩ := hd_srcs h1_39
      obtain ⟨vs41, rfl, h1_41⟩ := hd_srcs h1_40
      obtain ⟨vs42, rfl, h1_42⟩ := hd_srcs h1_41
      obtain ⟨vs43, rfl, h1_43⟩ := hd_srcs h1_42
      obtain ⟨vs44, rfl, h1_44⟩ := hd_srcs h1_43
      obtain ⟨vs45, rfl, h1_45⟩ := hd_srcs h1_44
      obtain ⟨vs46, rfl, h1_46⟩ := hd_srcs h1_45
      obtain ⟨vs47, rfl, h1_47⟩ := hd_srcs h1_46
      obtain ⟨vs48, rfl, h1_48⟩ := hd_srcs h1_47
      obtain ⟨vs49, rfl, h1_49⟩ := hd_srcs h1_48
      obtain ⟨vs50, rfl, h1_50⟩ := hd_srcs h1_49
      obtain ⟨vs51, rfl, h1_51⟩ := hd_srcs h1_50
      obtain ⟨vs52, rfl, h1_52⟩ := hd_srcs h1_51
      obtain ⟨vs53, rfl, h1_53⟩ := hd_srcs h1_52
      obtain ⟨vs54, rfl, h1_54⟩ := hd_srcs h1_53
      obtain ⟨vs55, rfl, h1_55⟩ := hd_srcs h1_54
      obtain ⟨vs56, rfl, h1_56⟩ := hd_srcs h1_55
      obtain ⟨vs57, rfl, h1_57⟩ := hd_srcs h1_56
      obtain ⟨vs58, rfl, h1_58⟩ := hd_srcs h1_57
      obtain ⟨vs59, rfl, h1_59⟩ := hd_srcs h1_58
      obtain ⟨vs60, rfl, h1_60⟩ := hd_srcs h1_59
      obtain ⟨vs61, rfl, h1_61⟩ := hd_srcs h1_60
      obtain ⟨vs62, rfl, h1_62⟩ := hd_srcs h1_61
      obtain ⟨vs63, rfl, h1_63⟩ := hd_srcs h1_62
      obtain ⟨vs64, rfl, h1_64⟩ := hd_srcs h1_63
      obtain ⟨vs65, rfl, h1_65⟩ := hd_srcs h1_64
      obtain ⟨vs66, rfl, h1_66⟩ := hd_srcs h1_65
      obtain ⟨vs67, rfl, h1_67⟩ := hd_srcs h1_66
      obtain ⟨vs68, rfl, h1_68⟩ := hd_srcs h1_67
      obtain ⟨vs69, rfl, h1_69⟩ := hd_srcs h1_68
      obtain rfl := hd_src0 h1_69
      obtain ⟨sw1, rfl, h3_1⟩ := hd_str h3_0
      obtain ⟨rfl, rfl⟩ := hd_st0 h3_1
      have hr9 := hd_ref0 h2
      obtain ⟨v0, e0, l0, u0⟩ := h4 _ (List.mem_cons_self)
      have g0 : 1 * (σ'.2.1 118 2).toInt + 0 = v0 := Option.some.inj e0
      obtain ⟨v1, e1, l1, u1⟩ := h4 _ (List.mem_cons_of_mem _ (List.mem_cons_self))
      have g1 : 1 * (σ.2.1 118 2).toInt + ((-1) * (σ'.2.1 118 3).toInt + 0) = v1 := Option.some.inj e1
      obtain ⟨v2, e2, l2, u2⟩ := h4 _ (List.mem_cons_of_mem _ (List.mem_cons_of_mem _ (List.mem_cons_self)))
      have g2 : 1 * (σ'.2.1 118 4).toInt + 0 = v2 := Option.some.inj e2
      obtain ⟨v3, e3, l3, u3⟩ := h4 _ (List.mem_cons_of_mem _ (List.mem_cons_of_mem _ (List.mem_cons_of_mem _ (List.mem_cons_self))))
      have g3 : 1 * (σ'.2.1 118 5).toInt + 0 = v3 := Option.some.inj e3
      obtain ⟨v4, e4, l4, u4⟩ := h4 _ (List.mem_cons_of_mem _ (List.mem_cons_of_mem _ (List.mem_cons_of_mem _ (List.mem_cons_of_mem _ (List.mem_cons_self)))))
      have g4 : 1 * (σ'.2.1 118 17).toInt + 0 = v4 := Option.some.inj e4
      obtain ⟨v5, e5, l5, u5⟩ := h4 _ (List.mem_cons_of_mem _ (List.mem_cons_of_mem _ (List.mem_cons_of_mem _ (List.mem_cons_of_mem _ (List.mem_cons_of_mem _ (List.mem_cons_self))))))
      have g5 : 1 * (σ'.2.1 118 18).toInt + 0 = v5 := Option.some.inj e5
      obtain ⟨v6, e6, l6, u6⟩ := h4 _ (List.mem_cons_of_mem _ (List.mem_cons_of_mem _ (List.mem_cons_of_mem _ (List.mem_cons_of_mem _ (List.mem_cons_of_mem _ (List.mem_cons_of_mem _ (List.mem_cons_self)))))))
      have g6 : 1 * (σ'.2.1 118 13).toInt + 0 = v6 := Option.some.inj e6
      obtain ⟨v7, e7, l7, u7⟩ := h4 _ (List.mem_cons_of_mem _ (List.mem_cons_of_mem _ (List.mem_cons_of_mem _ (List.mem_cons_of_mem _ (List.mem_cons_of_mem _ (List.mem_cons_of_mem _ (List.mem_cons_of_mem _ (List.mem_cons_self))))))))
      have g7 : 1 * (σ'.2.1 121 0).toInt + 0 = v7 := Option.some.inj e7
      obtain ⟨v8, e8, l8, u8⟩ := h4 _ (List.mem_cons_of_mem _ (List.mem_cons_of_mem _ (List.mem_cons_of_mem _ (List.mem_cons_of_mem _ (List.mem_cons_of_mem _ (List.mem_cons_of_mem _ (List.mem_cons_of_mem _ (List.mem_cons_of_mem _ (List.mem_cons_self)))))))))
      have g8 : 1 * (σ'.2.1 121 1).toInt + 0 = v8 := Option.some.inj e8
      obtain ⟨v9, e9, l9, u9⟩ := h4 _ (List.mem_cons_of_mem _ (List.mem_cons_of_mem _ (List.mem_cons_of_mem _ (List.mem_cons_of_mem _ (List.mem_cons_of_mem _ (List.mem_cons_of_mem _ (List.mem_cons_of_mem _ (List.mem_cons_of_mem _ (List.mem_cons_of_mem _ (List.mem_cons_self))))))))))
      have g9 : 1 * (σ'.2.1 121 2).toInt + 0 = v9 := Option.some.inj e9
      obtain ⟨v10, e10, l10, u10⟩ := h4 _ (List.mem_cons_of_mem _ (List.mem_cons_of_mem _ (List.mem_cons_of_mem _ (List.mem_cons_of_mem _ (List.mem_cons_of_mem _ (List.mem_cons_of_mem _ (List.mem_cons_of_mem _ (List.mem_cons_of_mem _ (List.mem_cons_of_mem _ (List.mem_cons_of_mem _ (List.mem_cons_self)))))))))))
      have g10 : 1 * (σ'.2.1 121 3).toInt + 0 = v10 := Option.some.inj e10
      obtain ⟨v11, e11, l11, u11⟩ := h4 _ (List.mem_cons_of_mem _ (List.mem_cons_of_mem _ (List.mem_cons_of_mem _ (List.mem_cons_of_mem _ (List.mem_cons_of_mem _ (List.mem_cons_of_mem _ (List.mem_cons_of_mem _ (List.mem_cons_of_mem _ (List.mem_cons_of_mem _ (List.mem_cons_of_mem _ (List.mem_cons_of_mem _ (List.mem_cons_self))))))))))))
      have g11 : 1 * (σ'.2.1 121 4).toInt + 0 = v11 := Option.some.inj e11
      obtain ⟨v12, e12, l12, u12⟩ := h4 _ (List.mem_cons_of_mem _ (List.mem_cons_of_mem _ (List.mem_cons_of_mem _ (List.mem_cons_of_mem _ (List.mem_cons_of_mem _ (List.mem_cons_of_mem _ (List.mem_cons_of_mem _ (List.mem_cons_of_mem _ (List.mem_cons_of_mem _ (List.mem_cons_of_mem _ (List.mem_cons_of_mem _ (List.mem_cons_of_mem _ (List.mem_cons_self)))))))))))))
      have g12 : 1 * (σ'.2.1 121 5).toInt + 0 = v12 := Option.some.inj e12
      obtain ⟨v13, e13, l13, u13⟩ := h4 _ (List.mem_cons_of_mem _ (List.mem_cons_of_mem _ (List.mem_cons_of_mem _ (List.mem_cons_of_mem _ (List.mem_cons_of_mem _ (List.mem_cons_of_mem _ (List.mem_cons_of_mem _ (List.mem_cons_of_mem _ (List.mem_cons_of_mem _ (List.mem_cons_of_mem _ (List.mem_cons_of_mem _ (List.mem_cons_of_mem _ (List.mem_cons_of_mem _ (List.mem_cons_self))))))))))))))
      have g13 : 1 * (σ'.2.1 121 6).toInt + 0 = v13 := Option.some.inj e13
      obtain ⟨v14, e14, l14, u14⟩ := h4 _ (List.mem_cons_of_mem _ (List.mem_cons_of_mem _ (List.mem_cons_of_mem _ (List.mem_cons_of_mem _ (List.mem_cons_of_mem _ (List.mem_cons_of_mem _ (List.mem_cons_of_mem _ (List.mem_cons_of_mem _ (List.mem_cons_of_mem _ (List.mem_cons_of_mem _ (List.mem_cons_of_mem _ (List.mem_cons_of_mem _ (List.mem_cons_of_mem _ (List.mem_cons_of_mem _ (List.mem_cons_self)))))))))))))))
      have g14 : 1 * (σ'.2.1 121 7).toInt + 0 = v14 := Option.some.inj e14
      obtain ⟨v15, e15, l15, u15⟩ := h4 _ (List.mem_cons_of_mem _ (List.mem_cons_of_mem _ (List.mem_cons_of_mem _ (List.mem_cons_of_mem _ (List.mem_cons_of_mem _ (List.mem_cons_of_mem _ (List.mem_cons_of_mem _ (List.mem_cons_of_mem _ (List.mem_cons_of_mem _ (List.mem_cons_of_mem _ (List.mem_cons_of_mem _ (List.mem_cons_of_mem _ (List.mem_cons_of_mem _ (List.mem_cons_of_mem _ (List.mem_cons_of_mem _ (List.mem_cons_self))))))))))))))))
      have g15 : 1 * (σ'.2.1 121 8).toInt + 0 = v15 := Option.some.inj e15
      obtain ⟨v16, e16, l16, u16⟩ := h4 _ (List.mem_cons_of_mem _ (List.mem_cons_of_mem _ (List.mem_cons_of_mem _ (List.mem_cons_of_mem _ (List.mem_cons_of_mem _ (List.mem_cons_of_mem _ (List.mem_cons_of_mem _ (List.mem_cons_of_mem _ (List.mem_cons_of_mem _ (List.mem_cons_of_mem _ (List.mem_cons_of_mem _ (List.mem_cons_of_mem _ (List.mem_cons_of_mem _ (List.mem_cons_of_mem _ (List.mem_cons_of_mem _ (List.mem_cons_of_mem _ (List.mem_cons_self)))))))))))))))))
      have g16 : 1 * (σ'.2.1 121 9).toInt + 0 = v16 := Option.some.inj e16
      obtain ⟨v17, e17, l17, u17⟩ := h4 _ (List.mem_cons_of_mem _ (List.mem_cons_of_mem _ (List.mem_cons_of_mem _ (List.mem_cons_of_mem _ (List.mem_cons_of_mem _ (List.mem_cons_of_mem _ (List.mem_cons_of_mem _ (List.mem_cons_of_mem _ (List.mem_cons_of_mem _ (List.mem_cons_of_mem _ (List.mem_cons_of_mem _ (List.mem_cons_of_mem _ (List.mem_cons_of_mem _ (List.mem_cons_of_mem _ (List.mem_cons_of_mem _ (List.mem_cons_of_mem _ (List.mem_cons_of_mem _ (List.mem_cons_self))))))))))))))))))
      have g17 : 1 * (σ'.2.1 121 10).toInt + 0 = v17 := Option.some.inj e17
      obtain ⟨v18, e18, l18, u18⟩ := h4 _ (List.mem_cons_of_mem _ (List.mem_cons_of_mem _ (List.mem_cons_of_mem _ (List.mem_cons_of_mem _ (List.mem_cons_of_mem _ (List.mem_cons_of_mem _ (List.mem_cons_of_mem _ (List.mem_cons_of_mem _ (List.mem_cons_of_mem _ (List.mem_cons_of_mem _ (List.mem_cons_of_mem _ (List.mem_cons_of_mem _ (List.mem_cons_of_mem _ (List.mem_cons_of_mem _ (List.mem_cons_of_mem _ (List.mem_cons_of_mem _ (List.mem_cons_of_mem _ (List.mem_cons_of_mem _ (List.mem_cons_self)))))))))))))))))))
      have g18 : 1 * (σ'.2.1 121 11).toInt + 0 = v18 := Option.some.inj e18
      obtain ⟨v19, e19, l19, u19⟩ := h4 _ (List.mem_cons_of_mem _ (List.mem_cons_of_mem _ (List.mem_cons_of_mem _ (List.mem_cons_of_mem _ (List.mem_cons_of_mem _ (List.mem_cons_of_mem _ (List.mem_cons_of_mem _ (List.mem_cons_of_mem _ (List.mem_cons_of_mem _ (List.mem_cons_of_mem _ (List.mem_cons_of_mem _ (List.mem_cons_of_mem _ (List.mem_cons_of_mem _ (List.mem_cons_of_mem _ (List.mem_cons_of_mem _ (List.mem_cons_of_mem _ (List.mem_cons_of_mem _ (List.mem_cons_of_mem _ (List.mem_cons_of_mem _ (List.mem_cons_self))))))))))))))))))))
      have g19 : 1 * (σ'.2.1 121 12).toInt + 0 = v19 := Option.some.inj e19
      obtain ⟨v20, e20, l20, u20⟩ := h4 _ (List.mem_cons_of_mem _ (List.mem_cons_of_mem _ (List.mem_cons_of_mem _ (List.mem_cons_of_mem _ (List.mem_cons_of_mem _ (List.mem_cons_of_mem _ (List.mem_cons_of_mem _ (List.mem_cons_of_mem _ (List.mem_cons_of_mem _ (List.mem_cons_of_mem _ (List.mem_cons_of_mem _ (List.mem_cons_of_mem _ (List.mem_cons_of_mem _ (List.mem_cons_of_mem _ (List.mem_cons_of_mem _ (List.mem_cons_of_mem _ (List.mem_cons_of_mem _ (List.mem_cons_of_mem _ (List.mem_cons_of_mem _ (List.mem_cons_of_mem _ (List.mem_cons_self)))))))))))))))))))))
      have g20 : 1 * (σ'.2.1 121 13).toInt + 0 = v20 := Option.some.inj e20
      obtain ⟨v21, e21, l21, u21⟩ := h4 _ (List.mem_cons_of_mem _ (List.mem_cons_of_mem _ (List.mem_cons_of_mem _ (List.mem_cons_of_mem _ (List.mem_cons_of_mem _ (List.mem_cons_of_mem _ (List.mem_cons_of_mem _ (List.mem_cons_of_mem _ (List.mem_cons_of_mem _ (List.mem_cons_of_mem _ (List.mem_cons_of_mem _ (List.mem_cons_of_mem _ (List.mem_cons_of_mem _ (List.mem_cons_of_mem _ (List.mem_cons_of_mem _ (List.mem_cons_of_mem _ (List.mem_cons_of_mem _ (List.mem_cons_of_mem _ (List.mem_cons_of_mem _ (List.mem_cons_of_mem _ (List.mem_cons_of_mem _ (List.mem_cons_self))))))))))))))))))))))
      have g21 : 1 * (σ'.2.1 121 14).toInt + 0 = v21 := Option.some.inj e21
      obtain ⟨v22, e22, l22, u22⟩ := h4 _ (List.mem_cons_of_mem _ (List.mem_cons_of_mem _ (List.mem_cons_of_mem _ (List.mem_cons_of_mem _ (List.mem_cons_of_mem _ (List.mem_cons_of_mem _ (List.mem_cons_of_mem _ (List.mem_cons_of_mem _ (List.mem_cons_of_mem _ (List.mem_cons_of_mem _ (List.mem_cons_of_mem _ (List.mem_cons_of_mem _ (List.mem_cons_of_mem _ (List.mem_cons_of_mem _ (List.mem_cons_of_mem _ (List.mem_cons_of_mem _ (List.mem_cons_of_mem _ (List.mem_cons_of_mem _ (List.mem_cons_of_mem _ (List.mem_cons_of_mem _ (List.mem_cons_of_mem _ (List.mem_cons_of_mem _ (List.mem_cons_self)))))))))))))))))))))))
      have g22 : 1 * (σ'.2.1 121 15).toInt + 0 = v22 := Option.some.inj e22
      obtain ⟨v23, e23, l23, u23⟩ := h4 _ (List.mem_cons_of_mem _ (List.mem_cons_of_mem _ (List.mem_cons_of_mem _ (List.mem_cons_of_mem _ (List.mem_cons_of_mem _ (List.mem_cons_of_mem _ (List.mem_cons_of_mem _ (List.mem_cons_of_mem _ (List.mem_cons_of_mem _ (List.mem_cons_of_mem _ (List.mem_cons_of_mem _ (List.mem_cons_of_mem _ (List.mem_cons_of_mem _ (List.mem_cons_of_mem _ (List.mem_cons_of_mem _ (List.mem_cons_of_mem _ (List.mem_cons_of_mem _ (List.mem_cons_of_mem _ (List.mem_cons_of_mem _ (List.mem_cons_of_mem _ (List.mem_cons_of_mem _ (List.mem_cons_of_mem _ (List.mem_cons_of_mem _ (List.mem_cons_self))))))))))))))))))))))))
      have g23 : 1 * (σ'.2.1 121 16).toInt + 0 = v23 := Option.some.inj e23
      obtain ⟨v24, e24, l24, u24⟩ := h4 _ (List.mem_cons_of_mem _ (List.mem_cons_of_mem _ (List.mem_cons_of_mem _ (List.mem_cons_of_mem _ (List.mem_cons_of_mem _ (List.mem_cons_of_mem _ (List.mem_cons_of_mem _ (List.mem_cons_of_mem _ (List.mem_cons_of_mem _ (List.mem_cons_of_mem _ (List.mem_cons_of_mem _ (List.mem_cons_of_mem _ (List.mem_cons_of_mem _ (List.mem_cons_of_mem _ (List.mem_cons_of_mem _ (List.mem_cons_of_mem _ (List.mem_cons_of_mem _ (List.mem_cons_of_mem _ (List.mem_cons_of_mem _ (List.mem_cons_of_mem _ (List.mem_cons_of_mem _ (List.mem_cons_of_mem _ (List.mem_cons_of_mem _ (List.mem_cons_of_mem _ (List.mem_cons_self)))))))))))))))))))))))))
      have g24 : 1 * (σ'.2.1 121 17).toInt + 0 = v24 := Option.some.inj e24
      obtain ⟨v25, e25, l25, u25⟩ := h4 _ (List.mem_cons_of_mem _ (List.mem_cons_of_mem _ (List.mem_cons_of_mem _ (List.mem_cons_of_mem _ (List.mem_cons_of_mem _ (List.mem_cons_of_mem _ (List.mem_cons_of_mem _ (List.mem_cons_of_mem _ (List.mem_cons_of_mem _ (List.mem_cons_of_mem _ (List.mem_cons_of_mem _ (List.mem_cons_of_mem _ (List.mem_cons_of_mem _ (List.mem_cons_of_mem _ (List.mem_cons_of_mem _ (List.mem_cons_of_mem _ (List.mem_cons_of_mem _ (List.mem_cons_of_mem _ (List.mem_cons_of_mem _ (List.mem_cons_of_mem _ (List.mem_cons_of_mem _ (List.mem_cons_of_mem _ (List.mem_cons_of_mem _ (List.mem_cons_of_mem _ (List.mem_cons_of_mem _ (List.mem_cons_self))))))))))))))))))))))))))
      have g25 : 1 * (σ'.2.1 121 18).toInt + 0 = v25 := Option.some.inj e25
      obtain ⟨v26, e26, l26, u26⟩ := h4 _ (List.mem_cons_of_mem _ (List.mem_cons_of_mem _ (List.mem_cons_of_mem _ (List.mem_cons_of_mem _ (List.mem_cons_of_mem _ (List.mem_cons_of_mem _ (List.mem_cons_of_mem _ (List.mem_cons_of_mem _ (List.mem_cons_of_mem _ (List.mem_cons_of_mem _ (List.mem_cons_of_mem _ (List.mem_cons_of_mem _ (List.mem_cons_of_mem _ (List.mem_cons_of_mem _ (List.mem_cons_of_mem _ (List.mem_cons_of_mem _ (List.mem_cons_of_mem _ (List.mem_cons_of_mem _ (List.mem_cons_of_mem _ (List.mem_cons_of_mem _ (List.mem_cons_of_mem _ (List.mem_cons_of_mem _ (List.mem_cons_of_mem _ (List.mem_cons_of_mem _ (List.mem_cons_of_mem _ (List.mem_cons_of_mem _ (List.mem_cons_self)))))))))))))))))))))))))))
      have g26 : 1 * (σ'.2.1 121 19).toInt + 0 = v26 := Option.some.inj e26
      obtain ⟨v27, e27, l27, u27⟩ := h4 _ (List.mem_cons_of_mem _ (List.mem_cons_of_mem _ (List.mem_cons_of_mem _ (List.mem_cons_of_mem _ (List.mem_cons_of_mem _ (List.mem_cons_of_mem _ (List.mem_cons_of_mem _ (List.mem_cons_of_mem _ (List.mem_cons_of_mem _ (List.mem_cons_of_mem _ (List.mem_cons_of_mem _ (List.mem_cons_of_mem _ (List.mem_cons_of_mem _ (List.mem_cons_of_mem _ (List.mem_cons_of_mem _ (List.mem_cons_of_mem _ (List.mem_cons_of_mem _ (List.mem_cons_of_mem _ (List.mem_cons_of_mem _ (List.mem_cons_of_mem _ (List.mem_cons_of_mem _ (List.mem_cons_of_mem _ (List.mem_cons_of_mem _ (List.mem_cons_of_mem _ (List.mem_cons_of_mem _ (List.mem_cons_of_mem _ (List.mem_cons_of_mem _ (List.mem_cons_self))))))))))))))))))))))))))))
      have g27 : 1 * (σ'.2.1 121 20).toInt + 0 = v27 := Option.some.inj e27
      obtain ⟨v28, e28, l28, u28⟩ := h4 _ (List.mem_cons_of_mem _ (List.mem_cons_of_mem _ (List.mem_cons_of_mem _ (List.mem_cons_of_mem _ (List.mem_cons_of_mem _ (List.mem_cons_of_mem _ (List.mem_cons_of_mem _ (List.mem_cons_of_mem _ (List.mem_cons_of_mem _ (List.mem_cons_of_mem _ (List.mem_cons_of_mem _ (List.mem_cons_of_mem _ (List.mem_cons_of_mem _ (List.mem_cons_of_mem _ (List.mem_cons_of_mem _ (List.mem_cons_of_mem _ (List.mem_cons_of_mem _ (List.mem_cons_of_mem _ (List.mem_cons_of_mem _ (List.mem_cons_of_mem _ (List.mem_cons_of_mem _ (List.mem_cons_of_mem _ (List.mem_cons_of_mem _ (List.mem_cons_of_mem _ (List.mem_cons_of_mem _ (List.mem_cons_of_mem _ (List.mem_cons_of_mem _ (List.mem_cons_of_mem _ (List.mem_cons_self)))))))))))))))))))))))))))))
      have g28 : 1 * (σ'.2.1 121 21).toInt + 0 = v28 := Option.some.inj e28
      obtain ⟨v29, e29, l29, u29⟩ := h4 _ (List.mem_cons_of_mem _ (List.mem_cons_of_mem _ (List.mem_cons_of_mem _ (List.mem_cons_of_mem _ (List.mem_cons_of_mem _ (List.mem_cons_of_mem _ (List.mem_cons_of_mem _ (List.mem_cons_of_mem _ (List.mem_cons_of_mem _ (List.mem_cons_of_mem _ (List.mem_cons_of_mem _ (List.mem_cons_of_mem _ (List.mem_cons_of_mem _ (List.mem_cons_of_mem _ (List.mem_cons_of_mem _ (List.mem_cons_of_mem _ (List.mem_cons_of_mem _ (List.mem_cons_of_mem _ (List.mem_cons_of_mem _ (List.mem_cons_of_mem _ (List.mem_cons_of_mem _ (List.mem_cons_of_mem _ (List.mem_cons_of_mem _ (List.mem_cons_of_mem _ (List.mem_cons_of_mem _ (List.mem_cons_of_mem _ (List.mem_cons_of_mem _ (List.mem_cons_of_mem _ (List.mem_cons_of_mem _ (List.mem_cons_self))))))))))))))))))))))))))))))
      have g29 : 1 * (σ'.2.1 121 22).toInt + 0 = v29 := Option.some.inj e29
      obtain ⟨v30, e30, l30, u30⟩ := h4 _ (List.mem_cons_of_mem _ (List.mem_cons_of_mem _ (List.mem_cons_of_mem _ (List.mem_cons_of_mem _ (List.mem_cons_of_mem _ (List.mem_cons_of_mem _ (List.mem_cons_of_mem _ (List.mem_cons_of_mem _ (List.mem_cons_of_mem _ (List.mem_cons_of_mem _ (List.mem_cons_of_mem _ (List.mem_cons_of_mem _ (List.mem_cons_of_mem _ (List.mem_cons_of_mem _ (List.mem_cons_of_mem _ (List.mem_cons_of_mem _ (List.mem_cons_of_mem _ (List.mem_cons_of_mem _ (List.mem_cons_of_mem _ (List.mem_cons_of_mem _ (List.mem_cons_of_mem _ (List.mem_cons_of_mem _ (List.mem_cons_of_mem _ (List.mem_cons_of_mem _ (List.mem_cons_of_mem _ (List.mem_cons_of_mem _ (List.mem_cons_of_mem _ (List.mem_cons_of_mem _ (List.mem_cons_of_mem _ (List.mem_cons_of_mem _ (List.mem_cons_self)))))))))))))))))))))))))))))))
      have g30 : 1 * (σ'.2.1 121 23).toInt + 0 = v30 := Option.some.inj e30
      obtain ⟨v31, e31, l31, u31⟩ := h4 _ (List.mem_cons_of_mem _ (List.mem_cons_of_mem _ (List.mem_cons_of_mem _ (List.mem_cons_of_mem _ (List.mem_cons_of_mem _ (List.mem_cons_of_mem _ (List.mem_cons_of_mem _ (List.mem_cons_of_mem _ (List.mem_cons_of_mem _ (List.mem_cons_of_mem _ (List.mem_cons_of_mem _ (List.mem_cons_of_mem _ (List.mem_cons_of_mem _ (List.mem_cons_of_mem _ (List.mem_cons_of_mem _ (List.mem_cons_of_mem _ (List.mem_cons_of_mem _ (List.mem_cons_of_mem _ (List.mem_cons_of_mem _ (List.mem_cons_of_mem _ (List.mem_cons_of_mem _ (List.mem_cons_of_mem _ (List.mem_cons_of_mem _ (List.mem_cons_of_mem _ (List.mem_cons_of_mem _ (List.mem_cons_of_mem _ (List.mem_cons_of_mem _ (List.mem_cons_of_mem _ (List.mem_cons_of_mem _ (List.mem_cons_of_mem _ (List.mem_cons_of_mem _ (List.mem_cons_self))))))))))))))))))))))))))))))))
      have g31 : 1 * (σ'.2.1 121 24).toInt + 0 = v31 := Option.some.inj e31
      obtain ⟨v32, e32, l32, u32⟩ := h4 _ (List.mem_cons_of_mem _ (List.mem_cons_of_mem _ (List.mem_cons_of_mem _ (List.mem_cons_of_mem _ (List.mem_cons_of_mem _ (List.mem_cons_of_mem _ (List.mem_cons_of_mem _ (List.mem_cons_of_mem _ (List.mem_cons_of_mem _ (List.mem_cons_of_mem _ (List.mem_cons_of_mem _ (List.mem_cons_of_mem _ (List.mem_cons_of_mem _ (List.mem_cons_of_mem _ (List.mem_cons_of_mem _ (List.mem_cons_of_mem _ (List.mem_cons_of_mem _ (List.mem_cons_of_mem _ (List.mem_cons_of_mem _ (List.mem_cons_of_mem _ (List.mem_cons_of_mem _ (List.mem_cons_of_mem _ (List.mem_cons_of_mem _ (List.mem_cons_of_mem _ (List.mem_cons_of_mem _ (List.mem_cons_of_mem _ (List.mem_cons_of_mem _ (List.mem_cons_of_mem _ (List.mem_cons_of_mem _ (List.mem_cons_of_mem _ (List.mem_cons_of_mem _ (List.mem_cons_of_mem _ (List.mem_cons_self)))))))))))))))))))))))))))))))))
      have g32 : 1 * (σ'.2.1 121 25).toInt + 0 = v32 := Option.some.inj e32
      obtain ⟨v33, e33, l33, u33⟩ := h4 _ (List.mem_cons_of_mem _ (List.mem_cons_of_mem _ (List.mem_cons_of_mem _ (List.mem_cons_of_mem _ (List.mem_cons_of_mem _ (List.mem_cons_of_mem _ (List.mem_cons_of_mem _ (List.mem_cons_of_mem _ (List.mem_cons_of_mem _ (List.mem_cons_of_mem _ (List.mem_cons_of_mem _ (List.mem_cons_of_mem _ (List.mem_cons_of_mem _ (List.mem_cons_of_mem _ (List.mem_cons_of_mem _ (List.mem_cons_of_mem _ (List.mem_cons_of_mem _ (List.mem_cons_of_mem _ (List.mem_cons_of_mem _ (List.mem_cons_of_mem _ (List.mem_cons_of_mem _ (List.mem_cons_of_mem _ (List.mem_cons_of_mem _ (List.mem_cons_of_mem _ (List.mem_cons_of_mem _ (List.mem_cons_of_mem _ (List.mem_cons_of_mem _ (List.mem_cons_of_mem _ (List.mem_cons_of_mem _ (List.mem_cons_of_mem _ (List.mem_cons_of_mem _ (List.mem_cons_of_mem _ (List.mem_cons_of_mem _ (List.mem_cons_self))))))))))))))))))))))))))))))))))
      have g33 : 1 * (σ'.2.1 121 26).toInt + 0 = v33 := Option.some.inj e33
      obtain ⟨v34, e34, l34, u34⟩ := h4 _ (List.mem_cons_of_mem _ (List.mem_cons_of_mem _ (List.mem_cons_of_mem _ (List.mem_cons_of_mem _ (List.mem_cons_of_mem _ (List.mem_cons_of_mem _ (List.mem_cons_of_mem _ (List.mem_cons_of_mem _ (List.mem_cons_of_mem _ (List.mem_cons_of_mem _ (List.mem_cons_of_mem _ (List.mem_cons_of_mem _ (List.mem_cons_of_mem _ (List.mem_cons_of_mem _ (List.mem_cons_of_mem _ (List.mem_cons_of_mem _ (List.mem_cons_of_mem _ (List.mem_cons_of_mem _ (List.mem_cons_of_mem _ (List.mem_cons_of_mem _ (List.mem_cons_of_mem _ (List.mem_cons_of_mem _ (List.mem_cons_of_mem _ (List.mem_cons_of_mem _ (List.mem_cons_of_mem _ (List.mem_cons_of_mem _ (List.mem_cons_of_mem _ (List.mem_cons_of_mem _ (List.mem_cons_of_mem _ (List.mem_cons_of_mem _ (List.mem_cons_of_mem _ (List.mem_cons_of_mem _ (List.mem_cons_of_mem _ (List.mem_cons_of_mem _ (List.mem_cons_self)))))))))))))))))))))))))))))))))))
      have g34 : 1 * (σ'.2.1 121 27).toInt + 0 = v34 := Option.some.inj e34
      obtain ⟨v35, e35, l35, u35⟩ := h4 _ (List.mem_cons_of_mem _ (List.mem_cons_of_mem _ (List.mem_cons_of_mem _ (List.mem_cons_of_mem _ (List.mem_cons_of_mem _ (List.mem_cons_of_mem _ (List.mem_cons_of_mem _ (List.mem_cons_of_mem _ (List.mem_cons_of_mem _ (List.mem_cons_of_mem _ (List.mem_cons_of_mem _ (List.mem_cons_of_mem _ (List.mem_cons_of_mem _ (List.mem_cons_of_mem _ (List.mem_cons_of_mem _ (List.mem_cons_of_mem _ (List.mem_cons_of_mem _ (List.mem_cons_of_mem _ (List.mem_cons_of_mem _ (List.mem_cons_of_mem _ (List.mem_cons_of_mem _ (List.mem_cons_of_mem _ (List.mem_cons_of_mem _ (List.mem_cons_of_mem _ (List.mem_cons_of_mem _ (List.mem_cons_of_mem _ (List.mem_cons_of_mem _ (List.mem_cons_of_mem _ (List.mem_cons_of_mem _ (List.mem_cons_of_mem _ (List.mem_cons_of_mem _ (List.mem_cons_of_mem _ (List.mem_cons_of_mem _ (List.mem_cons_of_mem _ (List.mem_cons_of_mem _ (List.mem_cons_self))))))))))))))))))))))))))))))))))))
      have g35 : 1 * (σ'.2.1 121 28).toInt + 0 = v35 := Option.some.inj e35
      obtain ⟨v36, e36, l36, u36⟩ := h4 _ (List.mem_cons_of_mem _ (List.mem_cons_of_mem _ (List.mem_cons_of_mem _ (List.mem_cons_of_mem _ (List.mem_cons_of_mem _ (List.mem_cons_of_mem _ (List.mem_cons_of_mem _ (List.mem_cons_of_mem _ (List.mem_cons_of_mem _ (List.mem_cons_of_mem _ (List.mem_cons_of_mem _ (List.mem_cons_of_mem _ (List.mem_cons_of_mem _ (List.mem_cons_of_mem _ (List.mem_cons_of_mem _ (List.mem_cons_of_mem _ (List.mem_cons_of_mem _ (List.mem_cons_of_mem _ (List.mem_cons_of_mem _ (List.mem_cons_of_mem _ (List.mem_cons_of_mem _ (List.mem_cons_of_mem _ (List.mem_cons_of_mem _ (List.mem_cons_of_mem _ (List.mem_cons_of_mem _ (List.mem_cons_of_mem _ (List.mem_cons_of_mem _ (List.mem_cons_of_mem _ (List.mem_cons_of_mem _ (List.mem_cons_of_mem _ (List.mem_cons_of_mem _ (List.mem_cons_of_mem _ (List.mem_cons_of_mem _ (List.mem_cons_of_mem _ (List.mem_cons_of_mem _ (List.mem_cons_of_mem _ (List.mem_cons_self)))))))))))))))))))))))))))))))))))))
      have g36 : 1 * (σ'.2.1 121 29).toInt + 0 = v36 := Option.some.inj e36
      obtain ⟨v37, e37, l37, u37⟩ := h4 _ (List.mem_cons_of_mem _ (List.mem_cons_of_mem _ (List.mem_cons_of_mem _ (List.mem_cons_of_mem _ (List.mem_cons_of_mem _ (List.mem_cons_of_mem _ (List.mem_cons_of_mem _ (List.mem_cons_of_mem _ (List.mem_cons_of_mem _ (List.mem_cons_of_mem _ (List.mem_cons_of_mem _ (List.mem_cons_of_mem _ (List.mem_cons_of_mem _ (List.mem_cons_of_mem _ (List.mem_cons_of_mem _ (List.mem_cons_of_mem _ (List.mem_cons_of_mem _ (List.mem_cons_of_mem _ (List.mem_cons_of_mem _ (List.mem_cons_of_mem _ (List.mem_cons_of_mem _ (List.mem_cons_of_mem _ (List.mem_cons_of_mem _ (List.mem_cons_of_mem _ (List.mem_cons_of_mem _ (List.mem_cons_of_mem _ (List.mem_cons_of_mem _ (List.mem_cons_of_mem _ (List.mem_cons_of_mem _ (List.mem_cons_of_mem _ (List.mem_cons_of_mem _ (List.mem_cons_of_mem _ (List.mem_cons_of_mem _ (List.mem_cons_of_mem _ (List.mem_cons_of_mem _ (List.mem_cons_of_mem _ (List.mem_cons_of_mem _ (List.mem_cons_self))))))))))))))))))))))))))))))))))))))
      have g37 : 1 * (σ'.2.1 121 30).toInt + 0 = v37 := Option.some.inj e37
      obtain ⟨v38, e38, l38, u38⟩ := h4 _ (List.mem_cons_of_mem _ (List.mem_cons_of_mem _ (List.mem_cons_of_mem _ (List.mem_cons_of_mem _ (List.mem_cons_of_mem _ (List.mem_cons_of_mem _ (List.mem_cons_of_mem _ (List.mem_cons_of_mem _ (List.mem_cons_of_mem _ (List.mem_cons_of_mem _ (List.mem_cons_of_mem _ (List.mem_cons_of_mem _ (List.mem_cons_of_mem _ (List.mem_cons_of_mem _ (List.mem_cons_of_mem _ (List.mem_cons_of_mem _ (List.mem_cons_of_mem _ (List.mem_cons_of_mem _ (List.mem_cons_of_mem _ (List.mem_cons_of_mem _ (List.mem_cons_of_mem _ (List.mem_cons_of_mem _ (List.mem_cons_of_mem _ (List.mem_cons_of_mem _ (List.mem_cons_of_mem _ (List.mem_cons_of_mem _ (List.mem_cons_of_mem _ (List.mem_cons_of_mem _ (List.mem_cons_of_mem _ (List.mem_cons_of_mem _ (List.mem_cons_of_mem _ (List.mem_cons_of_mem _ (List.mem_cons_of_mem _ (List.mem_cons_of_mem _ (List.mem_cons_of_mem _ (List.mem_cons_of_mem _ (List.mem_cons_of_mem _ (List.mem_cons_of_mem _ (List.mem_cons_self)))))))))))))))))))))))))))))))))))))))
      have g38 : 1 * (σ'.2.1 121 31).toInt + 0 = v38 := Option.some.inj e38
      obtain ⟨v39, e39, l39, u39⟩ := h4 _ (List.mem_cons_of_mem _ (List.mem_cons_of_mem _ (List.mem_cons_of_mem _ (List.mem_cons_of_mem _ (List.mem_cons_of_mem _ (List.mem_cons_of_mem _ (List.mem_cons_of_mem _ (List.mem_cons_of_mem _ (List.mem_cons_of_mem _ (List.mem_cons_of_mem _ (List.mem_cons_of_mem _ (List.mem_cons_of_mem _ (List.mem_cons_of_mem _ (List.mem_cons_of_mem _ (List.mem_cons_of_mem _ (List.mem_cons_of_mem _ (List.mem_cons_of_mem _ (List.mem_cons_of_mem _ (List.mem_cons_of_mem _ (List.mem_cons_of_mem _ (List.mem_cons_of_mem _ (List.mem_cons_of_mem _ (List.mem_cons_of_mem _ (List.mem_cons_of_mem _ (List.mem_cons_of_mem _ (List.mem_cons_of_mem _ (List.mem_cons_of_mem _ (List.mem_cons_of_mem _ (List.mem_cons_of_mem _ (List.mem_cons_of_mem _ (List.mem_cons_of_mem _ (List.mem_cons_of_mem _ (List.mem_cons_of_mem _ (List.mem_cons_of_mem _ (List.mem_cons_of_mem _ (List.mem_cons_of_mem _ (List.mem_cons_of_mem _ (List.mem_cons_of_mem _ (List.mem_cons_of_mem _ (List.mem_cons_self))))))))))))))))))))))))))))))))))))))))
      have g39 : 1 * (σ'.2.1 121 32).toInt + 0 = v39 := Option.some.inj e39
      obtain ⟨v40, e40, l40, u40⟩ := h4 _ (List.mem_cons_of_mem _ (List.mem_cons_of_mem _ (List.mem_cons_of_mem _ (List.mem_cons_of_mem _ (List.mem_cons_of_mem _ (List.mem_cons_of_mem _ (List.mem_cons_of_mem _ (List.mem_cons_of_mem _ (List.mem_cons_of_mem _ (List.mem_cons_of_mem _ (List.mem_cons_of_mem _ (List.mem_cons_of_mem _ (List.mem_cons_of_mem _ (List.mem_cons_of_mem _ (List.mem_cons_of_mem _ (List.mem_cons_of_mem _ (List.mem_cons_of_mem _ (List.mem_cons_of_mem _ (List.mem_cons_of_mem _ (List.mem_cons_of_mem _ (List.mem_cons_of_mem _ (List.mem_cons_of_mem _ (List.mem_cons_of_mem _ (List.mem_cons_of_mem _ (List.mem_cons_of_mem _ (List.mem_cons_of_mem _ (List.mem_cons_of_mem _ (List.mem_cons_of_mem _ (List.mem_cons_of_mem _ (List.mem_cons_of_mem _ (List.mem_cons_of_mem _ (List.mem_cons_of_mem _ (List.mem_cons_of_mem _ (List.mem_cons_of_mem _ (List.mem_cons_of_mem _ (List.mem_cons_of_mem _ (List.mem_cons_of_mem _ (List.mem_cons_of_mem _ (List.mem_cons_of_mem _ (List.mem_cons_of_mem _ (List.mem_cons_self)))))))))))))))))))))))))))))))))))))))))
      have g40 : 1 * (σ'.2.1 121 33).toInt + 0 = v40 := Option.some.inj e40
      obtain ⟨v41, e41, l41, u41⟩ := h4 _ (List.mem_cons_of_mem _ (List.mem_cons_of_mem _ (List.mem_cons_of_mem _ (List.mem_cons_of_mem _ (List.mem_cons_of_mem _ (List.mem_cons_of_mem _ (List.mem_cons_of_mem _ (List.mem_cons_of_mem _ (List.mem_cons_of_mem _ (List.mem_cons_of_mem _ (List.mem_cons_of_mem _ (List.mem_cons_of_mem _ (List.mem_cons_of_mem _ (List.mem_cons_of_mem _ (List.mem_cons_of_mem _ (List.mem_cons_of_mem _ (List.mem_cons_of_mem _ (List.mem_cons_of_mem _ (List.mem_cons_of_mem _ (List.mem_cons_of_mem _ (List.mem_cons_of_mem _ (List.mem_cons_of_mem _ (List.mem_cons_of_mem _ (List.mem_cons_of_mem _ (List.mem_cons_of_mem _ (List.mem_cons_of_mem _ (List.mem_cons_of_mem _ (List.mem_cons_of_mem _ (List.mem_cons_of_mem _ (List.mem_cons_of_mem _ (List.mem_cons_of_mem _ (List.mem_cons_of_mem _ (List.mem_cons_of_mem _ (List.mem_cons_of_mem _ (List.mem_cons_of_mem _ (List.mem_cons_of_mem _ (List.mem_cons_of_mem _ (List.mem_cons_of_mem _ (List.mem_cons_of_mem _ (List.mem_cons_of_mem _ (List.mem_cons_of_mem _ (List.mem_cons_self))))))))))))))))))))))))))))))))))))))))))
      have g41 : 1 * (σ'.2.1 121 34).toInt + 0 = v41 := Option.some.inj e41
      obtain ⟨v42, e42, l42, u42⟩ := h4 _ (List.mem_cons_of_mem _ (List.mem_cons_of_mem _ (List.mem_cons_of_mem _ (List.mem_cons_of_mem _ (List.mem_cons_of_mem _ (List.mem_cons_of_mem _ (List.mem_cons_of_mem _ (List.mem_cons_of_mem _ (List.mem_cons_of_mem _ (List.mem_cons_of_mem _ (List.mem_cons_of_mem _ (List.mem_cons_of_mem _ (List.mem_cons_of_mem _ (List.mem_cons_of_mem _ (List.mem_cons_of_mem _ (List.mem_cons_of_mem _ (List.mem_cons_of_mem _ (List.mem_cons_of_mem _ (List.mem_cons_of_mem _ (List.mem_cons_of_mem _ (List.mem_cons_of_mem _ (List.mem_cons_of_mem _ (List.mem_cons_of_mem _ (List.mem_cons_of_mem _ (List.mem_cons_of_mem _ (List.mem_cons_of_mem _ (List.mem_cons_of_mem _ (List.mem_cons_of_mem _ (List.mem_cons_of_mem _ (List.mem_cons_of_mem _ (List.mem_cons_of_mem _ (List.mem_cons_of_mem _ (List.mem_cons_of_mem _ (List.mem_cons_of_mem _ (List.mem_cons_of_mem _ (List.mem_cons_of_mem _ (List.mem_cons_of_mem _ (List.mem_cons_of_mem _ (List.mem_cons_of_mem _ (List.mem_cons_of_mem _ (List.mem_cons_of_mem _ (List.mem_cons_of_mem _ (List.mem_cons_self)))))))))))))))))))))))))))))))))))))))))))
      have g42 : 1 * (σ'.2.1 121 35).toInt + 0 = v42 := Option.some.inj e42
      obtain ⟨v43, e43, l43, u43⟩ := h4 _ (List.mem_cons_of_mem _ (List.mem_cons_of_mem _ (List.mem_cons_of_mem _ (List.mem_cons_of_mem _ (List.mem_cons_of_mem _ (List.mem_cons_of_mem _ (List.mem_cons_of_mem _ (List.mem_cons_of_mem _ (List.mem_cons_of_mem _ (List.mem_cons_of_mem _ (List.mem_cons_of_mem _ (List.mem_cons_of_mem _ (List.mem_cons_of_mem _ (List.mem_cons_of_mem _ (List.mem_cons_of_mem _ (List.mem_cons_of_mem _ (List.mem_cons_of_mem _ (List.mem_cons_of_mem _ (List.mem_cons_of_mem _ (List.mem_cons_of_mem _ (List.mem_cons_of_mem _ (List.mem_cons_of_mem _ (List.mem_cons_of_mem _ (List.mem_cons_of_mem _ (List.mem_cons_of_mem _ (List.mem_cons_of_mem _ (List.mem_cons_of_mem _ (List.mem_cons_of_mem _ (List.mem_cons_of_mem _ (List.mem_cons_of_mem _ (List.mem_cons_of_mem _ (List.mem_cons_of_mem _ (List.mem_cons_of_mem _ (List.mem_cons_of_mem _ (List.mem_cons_of_mem _ (List.mem_cons_of_mem _ (List.mem_cons_of_mem _ (List.mem_cons_of_mem _ (List.mem_cons_of_mem _ (List.mem_cons_of_mem _ (List.mem_cons_of_mem _ (List.mem_cons_of_mem _ (List.mem_cons_of_mem _ (List.mem_cons_self))))))))))))))))))))))))))))))))))))))))))))
      have g43 : 1 * (σ'.2.1 121 36).toInt + 0 = v43 := Option.some.inj e43
      obtain ⟨v44, e44, l44, u44⟩ := h4 _ (List.mem_cons_of_mem _ (List.mem_cons_of_mem _ (List.mem_cons_of_mem _ (List.mem_cons_of_mem _ (List.mem_cons_of_mem _ (List.mem_cons_of_mem _ (List.mem_cons_of_mem _ (List.mem_cons_of_mem _ (List.mem_cons_of_mem _ (List.mem_cons_of_mem _ (List.mem_cons_of_mem _ (List.mem_cons_of_mem _ (List.mem_cons_of_mem _ (List.mem_cons_of_mem _ (List.mem_cons_of_mem _ (List.mem_cons_of_mem _ (List.mem_cons_of_mem _ (List.mem_cons_of_mem _ (List.mem_cons_of_mem _ (List.mem_cons_of_mem _ (List.mem_cons_of_mem _ (List.mem_cons_of_mem _ (List.mem_cons_of_mem _ (List.mem_cons_of_mem _ (List.mem_cons_of_mem _ (List.mem_cons_of_mem _ (List.mem_cons_of_mem _ (List.mem_cons_of_mem _ (List.mem_cons_of_mem _ (List.mem_cons_of_mem _ (List.mem_cons_of_mem _ (List.mem_cons_of_mem _ (List.mem_cons_of_mem _ (List.mem_cons_of_mem _ (List.mem_cons_of_mem _ (List.mem_cons_of_mem _ (List.mem_cons_of_mem _ (List.mem_cons_of_mem _ (List.mem_cons_of_mem _ (List.mem_cons_of_mem _ (List.mem_cons_of_mem _ (List.mem_cons_of_mem _ (List.mem_cons_of_mem _ (List.mem_cons_of_mem _ (List.mem_cons_self)))))))))))))))))))))))))))))))))))))))))))))
      have g44 : 1 * (σ'.2.1 121 37).toInt + 0 = v44 := Option.some.inj e44
      obtain ⟨v45, e45, l45, u45⟩ := h4 _ (List.mem_cons_of_mem _ (List.mem_cons_of_mem _ (List.mem_cons_of_mem _ (List.mem_cons_of_mem _ (List.mem_cons_of_mem _ (List.mem_cons_of_mem _ (List.mem_cons_of_mem _ (List.mem_cons_of_mem _ (List.mem_cons_of_mem _ (List.mem_cons_of_mem _ (List.mem_cons_of_mem _ (List.mem_cons_of_mem _ (List.mem_cons_of_mem _ (List.mem_cons_of_mem _ (List.mem_cons_of_mem _ (List.mem_cons_of_mem _ (List.mem_cons_of_mem _ (List.mem_cons_of_mem _ (List.mem_cons_of_mem _ (List.mem_cons_of_mem _ (List.mem_cons_of_mem _ (List.mem_cons_of_mem _ (List.mem_cons_of_mem _ (List.mem_cons_of_mem _ (List.mem_cons_of_mem _ (List.mem_cons_of_mem _ (List.mem_cons_of_mem _ (List.mem_cons_of_mem _ (List.mem_cons_of_mem _ (List.mem_cons_of_mem _ (List.mem_cons_of_mem _ (List.mem_cons_of_mem _ (List.mem_cons_of_mem _ (List.mem_cons_of_mem _ (List.mem_cons_of_mem _ (List.mem_cons_of_mem _ (List.mem_cons_of_mem _ (List.mem_cons_of_mem _ (List.mem_cons_of_mem _ (List.mem_cons_of_mem _ (List.mem_cons_of_mem _ (List.mem_cons_of_mem _ (List.mem_cons_of_mem _ (List.mem_cons_of_mem _ (List.mem_cons_of_mem _ (List.mem_cons_self))))))))))))))))))))))))))))))))))))))))))))))
      have g45 : 1 * (σ'.2.1 121 38).toInt + 0 = v45 := Option.some.inj e45
      obtain ⟨v46, e46, l46, u46⟩ := h4 _ (List.mem_cons_of_mem _ (List.mem_cons_of_mem _ (List.mem_cons_of_mem _ (List.mem_cons_of_mem _ (List.mem_cons_of_mem _ (List.mem_cons_of_mem _ (List.mem_cons_of_mem _ (List.mem_cons_of_mem _ (List.mem_cons_of_mem _ (List.mem_cons_of_mem _ (List.mem_cons_of_mem _ (List.mem_cons_of_mem _ (List.mem_cons_of_mem _ (List.mem_cons_of_mem _ (List.mem_cons_of_mem _ (List.mem_cons_of_mem _ (List.mem_cons_of_mem _ (List.mem_cons_of_mem _ (List.mem_cons_of_mem _ (List.mem_cons_of_mem _ (List.mem_cons_of_mem _ (List.mem_cons_of_mem _ (List.mem_cons_of_mem _ (List.mem_cons_of_mem _ (List.mem_cons_of_mem _ (List.mem_cons_of_mem _ (List.mem_cons_of_mem _ (List.mem_cons_of_mem _ (List.mem_cons_of_mem _ (List.mem_cons_of_mem _ (List.mem_cons_of_mem _ (List.mem_cons_of_mem _ (List.mem_cons_of_mem _ (List.mem_cons_of_mem _ (List.mem_cons_of_mem _ (List.mem_cons_of_mem _ (List.mem_cons_of_mem _ (List.mem_cons_of_mem _ (List.mem_cons_of_mem _ (List.mem_cons_of_mem _ (List.mem_cons_of_mem _ (List.mem_cons_of_mem _ (List.mem_cons_of_mem _ (List.mem_cons_of_mem _ (List.mem_cons_of_mem _ (List.mem_cons_of_mem _ (List.mem_cons_self)))))))))))))))))))))))))))))))))))))))))))))))
      have g46 : 1 * (σ'.2.1 121 39).toInt + 0 = v46 := Option.some.inj e46
      obtain ⟨v47, e47, l47, u47⟩ := h4 _ (List.mem_cons_of_mem _ (List.mem_cons_of_mem _ (List.mem_cons_of_mem _ (List.mem_cons_of_mem _ (List.mem_cons_of_mem _ (List.mem_cons_of_mem _ (List.mem_cons_of_mem _ (List.mem_cons_of_mem _ (List.mem_cons_of_mem _ (List.mem_cons_of_mem _ (List.mem_cons_of_mem _ (List.mem_cons_of_mem _ (List.mem_cons_of_mem _ (List.mem_cons_of_mem _ (List.mem_cons_of_mem _ (List.mem_cons_of_mem _ (List.mem_cons_of_mem _ (List.mem_cons_of_mem _ (List.mem_cons_of_mem _ (List.mem_cons_of_mem _ (List.mem_cons_of_mem _ (List.mem_cons_of_mem _ (List.mem_cons_of_mem _ (List.mem_cons_of_mem _ (List.mem_cons_of_mem _ (List.mem_cons_of_mem _ (List.mem_cons_of_mem _ (List.mem_cons_of_mem _ (List.mem_cons_of_mem _ (List.mem_cons_of_mem _ (List.mem_cons_of_mem _ (List.mem_cons_of_mem _ (List.mem_cons_of_mem _ (List.mem_cons_of_mem _ (List.mem_cons_of_mem _ (List.mem_cons_of_mem _ (List.mem_cons_of_mem _ (List.mem_cons_of_mem _ (List.mem_cons_of_mem _ (List.mem_cons_of_mem _ (List.mem_cons_of_mem _ (List.mem_cons_of_mem _ (List.mem_cons_of_mem _ (List.mem_cons_of_mem _ (List.mem_cons_of_mem _ (List.mem_cons_of_mem _ (List.mem_cons_of_mem _ (List.mem_cons_self))))))))))))))))))))))))))))))))))))))))))))))))
      have g47 : 1 * (σ'.2.1 121 40).toInt + 0 = v47 := Option.some.inj e47
      obtain ⟨v48, e48, l48, u48⟩ := h4 _ (List.mem_cons_of_mem _ (List.mem_cons_of_mem _ (List.mem_cons_of_mem _ (List.mem_cons_of_mem _ (List.mem_cons_of_mem _ (List.mem_cons_of_mem _ (List.mem_cons_of_mem _ (List.mem_cons_of_mem _ (List.mem_cons_of_mem _ (List.mem_cons_of_mem _ (List.mem_cons_of_mem _ (List.mem_cons_of_mem _ (List.mem_cons_of_mem _ (List.mem_cons_of_mem _ (List.mem_cons_of_mem _ (List.mem_cons_of_mem _ (List.mem_cons_of_mem _ (List.mem_cons_of_mem _ (List.mem_cons_of_mem _ (List.mem_cons_of_mem _ (List.mem_cons_of_mem _ (List.mem_cons_of_mem _ (List.mem_cons_of_mem _ (List.mem_cons_of_mem _ (List.mem_cons_of_mem _ (List.mem_cons_of_mem _ (List.mem_cons_of_mem _ (List.mem_cons_of_mem _ (List.mem_cons_of_mem _ (List.mem_cons_of_mem _ (List.mem_cons_of_mem _ (List.mem_cons_of_mem _ (List.mem_cons_of_mem _ (List.mem_cons_of_mem _ (List.mem_cons_of_mem _ (List.mem_cons_of_mem _ (List.mem_cons_of_mem _ (List.mem_cons_of_mem _ (List.mem_cons_of_mem _ (List.mem_cons_of_mem _ (List.mem_cons_of_mem _ (List.mem_cons_of_mem _ (List.mem_cons_of_mem _ (List.mem_cons_of_mem _ (List.mem_cons_of_mem _ (List.mem_cons_of_mem _ (List.mem_cons_of_mem _ (List.mem_cons_of_mem _ (List.mem_cons_self)))))))))))))))))))))))))))))))))))))))))))))))))
      have g48 : 1 * (σ'.2.1 121 41).toInt + 0 = v48 := Option.some.inj e48
      obtain ⟨v49, e49, l49, u49⟩ := h4 _ (List.mem_cons_of_mem _ (List.mem_cons_of_mem _ (List.mem_cons_of_mem _ (List.mem_cons_of_mem _ (List.mem_cons_of_mem _ (List.mem_cons_of_mem _ (List.mem_cons_of_mem _ (List.mem_cons_of_mem _ (List.mem_cons_of_mem _ (List.mem_cons_of_mem _ (List.mem_cons_of_mem _ (List.mem_cons_of_mem _ (List.mem_cons_of_mem _ (List.mem_cons_of_mem _ (List.mem_cons_of_mem _ (List.mem_cons_of_mem _ (List.mem_cons_of_mem _ (List.mem_cons_of_mem _ (List.mem_cons_of_mem _ (List.mem_cons_of_mem _ (List.mem_cons_of_mem _ (List.mem_cons_of_mem _ (List.mem_cons_of_mem _ (List.mem_cons_of_mem _ (List.mem_cons_of_mem _ (List.mem_cons_of_mem _ (List.mem_cons_of_mem _ (List.mem_cons_of_mem _ (List.mem_cons_of_mem _ (List.mem_cons_of_mem _ (List.mem_cons_of_mem _ (List.mem_cons_of_mem _ (List.mem_cons_of_mem _ (List.mem_cons_of_mem _ (List.mem_cons_of_mem _ (List.mem_cons_of_mem _ (List.mem_cons_of_mem _ (List.mem_cons_of_mem _ (List.mem_cons_of_mem _ (List.mem_cons_of_mem _ (List.mem_cons_of_mem _ (List.mem_cons_of_mem _ (List.mem_cons_of_mem _ (List.mem_cons_of_mem _ (List.mem_cons_of_mem _ (List.mem_cons_of_mem _ (List.mem_cons_of_mem _ (List.mem_cons_of_mem _ (List.mem_cons_of_mem _ (List.mem_cons_self))))))))))))))))))))))))))))))))))))))))))))))))))
      have g49 : 1 * (σ'.2.1 121 42).toInt + 0 = v49 := Option.some.inj e49
      obtain ⟨v50, e50, l50, u50⟩ := h4 _ (List.mem_cons_of_mem _ (List.mem_cons_of_mem _ (List.mem_cons_of_mem _ (List.mem_cons_of_mem _ (List.mem_cons_of_mem _ (List.mem_cons_of_mem _ (List.mem_cons_of_mem _ (List.mem_cons_of_mem _ (List.mem_cons_of_mem _ (List.mem_cons_of_mem _ (List.mem_cons_of_mem _ (List.mem_cons_of_mem _ (List.mem_cons_of_mem _ (List.mem_cons_of_mem _ (List.mem_cons_of_mem _ (List.mem_cons_of_mem _ (List.mem_cons_of_mem _ (List.mem_cons_of_mem _ (List.mem_cons_of_mem _ (List.mem_cons_of_mem _ (List.mem_cons_of_mem _ (List.mem_cons_of_mem _ (List.mem_cons_of_mem _ (List.mem_cons_of_mem _ (List.mem_cons_of_mem _ (List.mem_cons_of_mem _ (List.mem_cons_of_mem _ (List.mem_cons_of_mem _ (List.mem_cons_of_mem _ (List.mem_cons_of_mem _ (List.mem_cons_of_mem _ (List.mem_cons_of_mem _ (List.mem_cons_of_mem _ (List.mem_cons_of_mem _ (List.mem_cons_of_mem _ (List.mem_cons_of_mem _ (List.mem_cons_of_mem _ (List.mem_cons_of_mem _ (List.mem_cons_of_mem _ (List.mem_cons_of_mem _ (List.mem_cons_of_mem _ (List.mem_cons_of_mem _ (List.mem_cons_of_mem _ (List.mem_cons_of_mem _ (List.mem_cons_of_mem _ (List.mem_cons_of_mem _ (List.mem_cons_of_mem _ (List.mem_cons_of_mem _ (List.mem_cons_of_mem _ (List.mem_cons_of_mem _ (List.mem_cons_self)))))))))))))))))))))))))))))))))))))))))))))))))))
      have g50 : 1 * (σ'.2.1 121 43).toInt + 0 = v50 := Option.some.inj e50
      obtain ⟨v51, e51, l51, u51⟩ := h4 _ (List.mem_cons_of_mem _ (List.mem_cons_of_mem _ (List.mem_cons_of_mem _ (List.mem_cons_of_mem _ (List.mem_cons_of_mem _ (List.mem_cons_of_mem _ (List.mem_cons_of_mem _ (List.mem_cons_of_mem _ (List.mem_cons_of_mem _ (List.mem_cons_of_mem _ (List.mem_cons_of_mem _ (List.mem_cons_of_mem _ (List.mem_cons_of_mem _ (List.mem_cons_of_mem _ (List.mem_cons_of_mem _ (List.mem_cons_of_mem _ (List.mem_cons_of_mem _ (List.mem_cons_of_mem _ (List.mem_cons_of_mem _ (List.mem_cons_of_mem _ (List.mem_cons_of_mem _ (List.mem_cons_of_mem _ (List.mem_cons_of_mem _ (List.mem_cons_of_mem _ (List.mem_cons_of_mem _ (List.mem_cons_of_mem _ (List.mem_cons_of_mem _ (List.mem_cons_of_mem _ (List.mem_cons_of_mem _ (List.mem_cons_of_mem _ (List.mem_cons_of_mem _ (List.mem_cons_of_mem _ (List.mem_cons_of_mem _ (List.mem_cons_of_mem _ (List.mem_cons_of_mem _ (List.mem_cons_of_mem _ (List.mem_cons_of_mem _ (List.mem_cons_of_mem _ (List.mem_cons_of_mem _ (List.mem_cons_of_mem _ (List.mem_cons_of_mem _ (List.mem_cons_of_mem _ (List.mem_cons_of_mem _ (List.mem_cons_of_mem _ (List.mem_cons_of_mem _ (List.mem_cons_of_mem _ (List.mem_cons_of_mem _ (List.mem_cons_of_mem _ (List.mem_cons_of_mem _ (List.mem_cons_of_mem _ (List.mem_cons_of_mem _ (List.mem_cons_self))))))))))))))))))))))))))))))))))))))))))))))))))))
      have g51 : 1 * (σ'.2.1 121 44).toInt + 0 = v51 := Option.some.inj e51
      obtain ⟨v52, e52, l52, u52⟩ := h4 _ (List.mem_cons_of_mem _ (List.mem_cons_of_mem _ (List.mem_cons_of_mem _ (List.mem_cons_of_mem _ (List.mem_cons_of_mem _ (List.mem_cons_of_mem _ (List.mem_cons_of_mem _ (List.mem_cons_of_mem _ (List.mem_cons_of_mem _ (List.mem_cons_of_mem _ (List.mem_cons_of_mem _ (List.mem_cons_of_mem _ (List.mem_cons_of_mem _ (List.mem_cons_of_mem _ (List.mem_cons_of_mem _ (List.mem_cons_of_mem _ (List.mem_cons_of_mem _ (List.mem_cons_of_mem _ (List.mem_cons_of_mem _ (List.mem_cons_of_mem _ (List.mem_cons_of_mem _ (List.mem_cons_of_mem _ (List.mem_cons_of_mem _ (List.mem_cons_of_mem _ (List.mem_cons_of_mem _ (List.mem_cons_of_mem _ (List.mem_cons_of_mem _ (List.mem_cons_of_mem _ (List.mem_cons_of_mem _ (List.mem_cons_of_mem _ (List.mem_cons_of_mem _ (List.mem_cons_of_mem _ (List.mem_cons_of_mem _ (List.mem_cons_of_mem _ (List.mem_cons_of_mem _ (List.mem_cons_of_mem _ (List.mem_cons_of_mem _ (List.mem_cons_of_mem _ (List.mem_cons_of_mem _ (List.mem_cons_of_mem _ (List.mem_cons_of_mem _ (List.mem_cons_of_mem _ (List.mem_cons_of_mem _ (List.mem_cons_of_mem _ (List.mem_cons_of_mem _ (List.mem_cons_of_mem _ (List.mem_cons_of_mem _ (List.mem_cons_of_mem _ (List.mem_cons_of_mem _ (List.mem_cons_of_mem _ (List.mem_cons_of_mem _ (List.mem_cons_of_mem _ (List.mem_cons_self)))))))))))))))))))))))))))))))))))))))))))))))))))))
      have g52 : 1 * (σ'.2.1 121 45).toInt + 0 = v52 := Option.some.inj e52
      obtain ⟨v53, e53, l53, u53⟩ := h4 _ (List.mem_cons_of_mem _ (List.mem_cons_of_mem _ (List.mem_cons_of_mem _ (List.mem_cons_of_mem _ (List.mem_cons_of_mem _ (List.mem_cons_of_mem _ (List.mem_cons_of_mem _ (List.mem_cons_of_mem _ (List.mem_cons_of_mem _ (List.mem_cons_of_mem _ (List.mem_cons_of_mem _ (List.mem_cons_of_mem _ (List.mem_cons_of_mem _ (List.mem_cons_of_mem _ (List.mem_cons_of_mem _ (List.mem_cons_of_mem _ (List.mem_cons_of_mem _ (List.mem_cons_of_mem _ (List.mem_cons_of_mem _ (List.mem_cons_of_mem _ (List.mem_cons_of_mem _ (List.mem_cons_of_mem _ (List.mem_cons_of_mem _ (List.mem_cons_of_mem _ (List.mem_cons_of_mem _ (List.mem_cons_of_mem _ (List.mem_cons_of_mem _ (List.mem_cons_of_mem _ (List.mem_cons_of_mem _ (List.mem_cons_of_mem _ (List.mem_cons_of_mem _ (List.mem_cons_of_mem _ (List.mem_cons_of_mem _ (List.mem_cons_of_mem _ (List.mem_cons_of_mem _ (List.mem_cons_of_mem _ (List.mem_cons_of_mem _ (List.mem_cons_of_mem _ (List.mem_cons_of_mem _ (List.mem_cons_of_mem _ (List.mem_cons_of_mem _ (List.mem_cons_of_mem _ (List.mem_cons_of_mem _ (List.mem_cons_of_mem _ (List.mem_cons_of_mem _ (List.mem_cons_of_mem _ (List.mem_cons_of_mem _ (List.mem_cons_of_mem _ (List.mem_cons_of_mem _ (List.mem_cons_of_mem _ (List.mem_cons_of_mem _ (List.mem_cons_of_mem _ (List.mem_cons_of_mem _ (List.mem_cons_self))))))))))))))))))))))))))))))))))))))))))))))))))))))
      have g53 : 1 * (σ'.2.1 121 46).toInt + 0 = v53 := Option.some.inj e53
      obtain ⟨v54, e54, l54, u54⟩ := h4 _ (List.mem_cons_of_mem _ (List.mem_cons_of_mem _ (List.mem_cons_of_mem _ (List.mem_cons_of_mem _ (List.mem_cons_of_mem _ (List.mem_cons_of_mem _ (List.mem_cons_of_mem _ (List.mem_cons_of_mem _ (List.mem_cons_of_mem _ (List.mem_cons_of_mem _ (List.mem_cons_of_mem _ (List.mem_cons_of_mem _ (List.mem_cons_of_mem _ (List.mem_cons_of_mem _ (List.mem_cons_of_mem _ (List.mem_cons_of_mem _ (List.mem_cons_of_mem _ (List.mem_cons_of_mem _ (List.mem_cons_of_mem _ (List.mem_cons_of_mem _ (List.mem_cons_of_mem _ (List.mem_cons_of_mem _ (List.mem_cons_of_mem _ (List.mem_cons_of_mem _ (List.mem_cons_of_mem _ (List.mem_cons_of_mem _ (List.mem_cons_of_mem _ (List.mem_cons_of_mem _ (List.mem_cons_of_mem _ (List.mem_cons_of_mem _ (List.mem_cons_of_mem _ (List.mem_cons_of_mem _ (List.mem_cons_of_mem _ (List.mem_cons_of_mem _ (List.mem_cons_of_mem _ (List.mem_cons_of_mem _ (List.mem_cons_of_mem _ (List.mem_cons_of_mem _ (List.mem_cons_of_mem _ (List.mem_cons_of_mem _ (List.mem_cons_of_mem _ (List.mem_cons_of_mem _ (List.mem_cons_of_mem _ (List.mem_cons_of_mem _ (List.mem_cons_of_mem _ (List.mem_cons_of_mem _ (List.mem_cons_of_mem _ (List.mem_cons_of_mem _ (List.mem_cons_of_mem _ (List.mem_cons_of_mem _ (List.mem_cons_of_mem _ (List.mem_cons_of_mem _ (List.mem_cons_of_mem _ (List.mem_cons_of_mem _ (List.mem_cons_self)))))))))))))))))))))))))))))))))))))))))))))))))))))))
      have g54 : 1 * (σ'.2.1 121 47).toInt + 0 = v54 := Option.some.inj e54
      obtain ⟨v55, e55, l55, u55⟩ := h4 _ (List.mem_cons_of_mem _ (List.mem_cons_of_mem _ (List.mem_cons_of_mem _ (List.mem_cons_of_mem _ (List.mem_cons_of_mem _ (List.mem_cons_of_mem _ (List.mem_cons_of_mem _ (List.mem_cons_of_mem _ (List.mem_cons_of_mem _ (List.mem_cons_of_mem _ (List.mem_cons_of_mem _ (List.mem_cons_of_mem _ (List.mem_cons_of_mem _ (List.mem_cons_of_mem _ (List.mem_cons_of_mem _ (List.mem_cons_of_mem _ (List.mem_cons_of_mem _ (List.mem_cons_of_mem _ (List.mem_cons_of_mem _ (List.mem_cons_of_mem _ (List.mem_cons_of_mem _ (List.mem_cons_of_mem _ (List.mem_cons_of_mem _ (List.mem_cons_of_mem _ (List.mem_cons_of_mem _ (List.mem_cons_of_mem _ (List.mem_cons_of_mem _ (List.mem_cons_of_mem _ (List.mem_cons_of_mem _ (List.mem_cons_of_mem _ (List.mem_cons_of_mem _ (List.mem_cons_of_mem _ (List.mem_cons_of_mem _ (List.mem_cons_of_mem _ (List.mem_cons_of_mem _ (List.mem_cons_of_mem _ (List.mem_cons_of_mem _ (List.mem_cons_of_mem _ (List.mem_cons_of_mem _ (List.mem_cons_of_mem _ (List.mem_cons_of_mem _ (List.mem_cons_of_mem _ (List.mem_cons_of_mem _ (List.mem_cons_of_mem _ (List.mem_cons_of_mem _ (List.mem_cons_of_mem _ (List.mem_cons_of_mem _ (List.mem_cons_of_mem _ (List.mem_cons_of_mem _ (List.mem_cons_of_mem _ (List.mem_cons_of_mem _ (List.mem_cons_of_mem _ (List.mem_cons_of_mem _ (List.mem_cons_of_mem _ (List.mem_cons_of_mem _ (List.mem_cons_self))))))))))))))))))))))))))))))))))))))))))))))))))))))))
      have g55 : 1 * (σ'.2.1 121 48).toInt + 0 = v55 := Option.some.inj e55
      obtain ⟨v56, e56, l56, u56⟩ := h4 _ (List.mem_cons_of_mem _ (List.mem_cons_of_mem _ (List.mem_cons_of_mem _ (List.mem_cons_of_mem _ (List.mem_cons_of_mem _ (List.mem_cons_of_mem _ (List.mem_cons_of_mem _ (List.mem_cons_of_mem _ (List.mem_cons_of_mem _ (List.mem_cons_of_mem _ (List.mem_cons_of_mem _ (List.mem_cons_of_mem _ (List.mem_cons_of_mem _ (List.mem_cons_of_mem _ (List.mem_cons_of_mem _ (List.mem_cons_of_mem _ (List.mem_cons_of_mem _ (List.mem_cons_of_mem _ (List.mem_cons_of_mem _ (List.mem_cons_of_mem _ (List.mem_cons_of_mem _ (List.mem_cons_of_mem _ (List.mem_cons_of_mem _ (List.mem_cons_of_mem _ (List.mem_cons_of_mem _ (List.mem_cons_of_mem _ (List.mem_cons_of_mem _ (List.mem_cons_of_mem _ (List.mem_cons_of_mem _ (List.mem_cons_of_mem _ (List.mem_cons_of_mem _ (List.mem_cons_of_mem _ (List.mem_cons_of_mem _ (List.mem_cons_of_mem _ (List.mem_cons_of_mem _ (List.mem_cons_of_mem _ (List.mem_cons_of_mem _ (List.mem_cons_of_mem _ (List.mem_cons_of_mem _ (List.mem_cons_of_mem _ (List.mem_cons_of_mem _ (List.mem_cons_of_mem _ (List.mem_cons_of_mem _ (List.mem_cons_of_mem _ (List.mem_cons_of_mem _ (List.mem_cons_of_mem _ (List.mem_cons_of_mem _ (List.mem_cons_of_mem _ (List.mem_cons_of_mem _ (List.mem_cons_of_mem _ (List.mem_cons_of_mem _ (List.mem_cons_of_mem _ (List.mem_cons_of_mem _ (List.mem_cons_of_mem _ (List.mem_cons_of_mem _ (List.mem_cons_of_mem _ (List.mem_cons_self)))))))))))))))))))))))))))))))))))))))))))))))))))))))))
      have g56 : 1 * (σ'.2.1 121 49).toInt + 0 = v56 := Option.some.inj e56
      obtain ⟨v57, e57, l57, u57⟩ := h4 _ (List.mem_cons_of_mem _ (List.mem_cons_of_mem _ (List.mem_cons_of_mem _ (List.mem_cons_of_mem _ (List.mem_cons_of_mem _ (List.mem_cons_of_mem _ (List.mem_cons_of_mem _ (List.mem_cons_of_mem _ (List.mem_cons_of_mem _ (List.mem_cons_of_mem _ (List.mem_cons_of_mem _ (List.mem_cons_of_mem _ (List.mem_cons_of_mem _ (List.mem_cons_of_mem _ (List.mem_cons_of_mem _ (List.mem_cons_of_mem _ (List.mem_cons_of_mem _ (List.mem_cons_of_mem _ (List.mem_cons_of_mem _ (List.mem_cons_of_mem _ (List.mem_cons_of_mem _ (List.mem_cons_of_mem _ (List.mem_cons_of_mem _ (List.mem_cons_of_mem _ (List.mem_cons_of_mem _ (List.mem_cons_of_mem _ (List.mem_cons_of_mem _ (List.mem_cons_of_mem _ (List.mem_cons_of_mem _ (List.mem_cons_of_mem _ (List.mem_cons_of_mem _ (List.mem_cons_of_mem _ (List.mem_cons_of_mem _ (List.mem_cons_of_mem _ (List.mem_cons_of_mem _ (List.mem_cons_of_mem _ (List.mem_cons_of_mem _ (List.mem_cons_of_mem _ (List.mem_cons_of_mem _ (List.mem_cons_of_mem _ (List.mem_cons_of_mem _ (List.mem_cons_of_mem _ (List.mem_cons_of_mem _ (List.mem_cons_of_mem _ (List.mem_cons_of_mem _ (List.mem_cons_of_mem _ (List.mem_cons_of_mem _ (List.mem_cons_of_mem _ (List.mem_cons_of_mem _ (List.mem_cons_of_mem _ (List.mem_cons_of_mem _ (List.mem_cons_of_mem _ (List.mem_cons_of_mem _ (List.mem_cons_of_mem _ (List.mem_cons_of_mem _ (List.mem_cons_of_mem _ (List.mem_cons_of_mem _ (List.mem_cons_self))))))))))))))))))))))))))))))))))))))))))))))))))))))))))
      have g57 : 1 * (σ'.2.1 121 50).toInt + 0 = v57 := Option.some.inj e57
      obtain ⟨v58, e58, l58, u58⟩ := h4 _ (List.mem_cons_of_mem _ (List.mem_cons_of_mem _ (List.mem_cons_of_mem _ (List.mem_cons_of_mem _ (List.mem_cons_of_mem _ (List.mem_cons_of_mem _ (List.mem_cons_of_mem _ (List.mem_cons_of_mem _ (List.mem_cons_of_mem _ (List.mem_cons_of_mem _ (List.mem_cons_of_mem _ (List.mem_cons_of_mem _ (List.mem_cons_of_mem _ (List.mem_cons_of_mem _ (List.mem_cons_of_mem _ (List.mem_cons_of_mem _ (List.mem_cons_of_mem _ (List.mem_cons_of_mem _ (List.mem_cons_of_mem _ (List.mem_cons_of_mem _ (List.mem_cons_of_mem _ (List.mem_cons_of_mem _ (List.mem_cons_of_mem _ (List.mem_cons_of_mem _ (List.mem_cons_of_mem _ (List.mem_cons_of_mem _ (List.mem_cons_of_mem _ (List.mem_cons_of_mem _ (List.mem_cons_of_mem _ (List.mem_cons_of_mem _ (List.mem_cons_of_mem _ (List.mem_cons_of_mem _ (List.mem_cons_of_mem _ (List.mem_cons_of_mem _ (List.mem_cons_of_mem _ (List.mem_cons_of_mem _ (List.mem_cons_of_mem _ (List.mem_cons_of_mem _ (List.mem_cons_of_mem _ (List.mem_cons_of_mem _ (List.mem_cons_of_mem _ (List.mem_cons_of_mem _ (List.mem_cons_of_mem _ (List.mem_cons_of_mem _ (List.mem_cons_of_mem _ (List.mem_cons_of_mem _ (List.mem_cons_of_mem _ (List.mem_cons_of_mem _ (List.mem_cons_of_mem _ (List.mem_cons_of_mem _ (List.mem_cons_of_mem _ (List.mem_cons_of_mem _ (List.mem_cons_of_mem _ (List.mem_cons_of_mem _ (List.mem_cons_of_mem _ (List.mem_cons_of_mem _ (List.mem_cons_of_mem _ (List.mem_cons_of_mem _ (List.mem_cons_self)))))))))))))))))))))))))))))))))))))))))))))))))))))))))))
      have g58 : 1 * (σ'.2.1 121 51).toInt + 0 = v58 := Option.some.inj e58
      obtain ⟨v59, e59, l59, u59⟩ := h4 _ (List.mem_cons_of_mem _ (List.mem_cons_of_mem _ (List.mem_cons_of_mem _ (List.mem_cons_of_mem _ (List.mem_cons_of_mem _ (List.mem_cons_of_mem _ (List.mem_cons_of_mem _ (List.mem_cons_of_mem _ (List.mem_cons_of_mem _ (List.mem_cons_of_mem _ (List.mem_cons_of_mem _ (List.mem_cons_of_mem _ (List.mem_cons_of_mem _ (List.mem_cons_of_mem _ (List.mem_cons_of_mem _ (List.mem_cons_of_mem _ (List.mem_cons_of_mem _ (List.mem_cons_of_mem _ (List.mem_cons_of_mem _ (List.mem_cons_of_mem _ (List.mem_cons_of_mem _ (List.mem_cons_of_mem _ (List.mem_cons_of_mem _ (List.mem_cons_of_mem _ (List.mem_cons_of_mem _ (List.mem_cons_of_mem _ (List.mem_cons_of_mem _ (List.mem_cons_of_mem _ (List.mem_cons_of_mem _ (List.mem_cons_of_mem _ (List.mem_cons_of_mem _ (List.mem_cons_of_mem _ (List.mem_cons_of_mem _ (List.mem_cons_of_mem _ (List.mem_cons_of_mem _ (List.mem_cons_of_mem _ (List.mem_cons_of_mem _ (List.mem_cons_of_mem _ (List.mem_cons_of_mem _ (List.mem_cons_of_mem _ (List.mem_cons_of_mem _ (List.mem_cons_of_mem _ (List.mem_cons_of_mem _ (List.mem_cons_of_mem _ (List.mem_cons_of_mem _ (List.mem_cons_of_mem _ (List.mem_cons_of_mem _ (List.mem_cons_of_mem _ (List.mem_cons_of_mem _ (List.mem_cons_of_mem _ (List.mem_cons_of_mem _ (List.mem_cons_of_mem _ (List.mem_cons_of_mem _ (List.mem_cons_of_mem _ (List.mem_cons_of_mem _ (List.mem_cons_of_mem _ (List.mem_cons_of_mem _ (List.mem_cons_of_mem _ (List.mem_cons_of_mem _ (List.mem_cons_self))))))))))))))))))))))))))))))))))))))))))))))))))))))))))))
      have g59 : 1 * (σ'.2.1 121 52).toInt + 0 = v59 := Option.some.inj e59
      obtain ⟨v60, e60, l60, u60⟩ := h4 _ (List.mem_cons_of_mem _ (List.mem_cons_of_mem _ (List.mem_cons_of_mem _ (List.mem_cons_of_mem _ (List.mem_cons_of_mem _ (List.mem_cons_of_mem _ (List.mem_cons_of_mem _ (List.mem_cons_of_mem _ (List.mem_cons_of_mem _ (List.mem_cons_of_mem _ (List.mem_cons_of_mem _ (List.mem_cons_of_mem _ (List.mem_cons_of_mem _ (List.mem_cons_of_mem _ (List.mem_cons_of_mem _ (List.mem_cons_of_mem _ (List.mem_cons_of_mem _ (List.mem_cons_of_mem _ (List.mem_cons_of_mem _ (List.mem_cons_of_mem _ (List.mem_cons_of_mem _ (List.mem_cons_of_mem _ (List.mem_cons_of_mem _ (List.mem_cons_of_mem _ (List.mem_cons_of_mem _ (List.mem_cons_of_mem _ (List.mem_cons_of_mem _ (List.mem_cons_of_mem _ (List.mem_cons_of_mem _ (List.mem_cons_of_mem _ (List.mem_cons_of_mem _ (List.mem_cons_of_mem _ (List.mem_cons_of_mem _ (List.mem_cons_of_mem _ (List.mem_cons_of_mem _ (List.mem_cons_of_mem _ (List.mem_cons_of_mem _ (List.mem_cons_of_mem _ (List.mem_cons_of_mem _ (List.mem_cons_of_mem _ (List.mem_cons_of_mem _ (List.mem_cons_of_mem _ (List.mem_cons_of_mem _ (List.mem_cons_of_mem _ (List.mem_cons_of_mem _ (List.mem_cons_of_mem _ (List.mem_cons_of_mem _ (List.mem_cons_of_mem _ (List.mem_cons_of_mem _ (List.mem_cons_of_mem _ (List.mem_cons_of_mem _ (List.mem_cons_of_mem _ (List.mem_cons_of_mem _ (List.mem_cons_of_mem _ (List.mem_cons_of_mem _ (List.mem_cons_of_mem _ (List.mem_cons_of_mem _ (List.mem_cons_of_mem _ (List.mem_cons_of_mem _ (List.mem_cons_of_mem _ (List.mem_cons_self)))))))))))))))))))))))))))))))))))))))))))))))))))))))))))))
      have g60 : 1 * (σ'.2.1 121 53).toInt + 0 = v60 := Option.some.inj e60
      obtain ⟨v61, e61, l61, u61⟩ := h4 _ (List.mem_cons_of_mem _ (List.mem_cons_of_mem _ (List.mem_cons_of_mem _ (List.mem_cons_of_mem _ (List.mem_cons_of_mem _ (List.mem_cons_of_mem _ (List.mem_cons_of_mem _ (List.mem_cons_of_mem _ (List.mem_cons_of_mem _ (List.mem_cons_of_mem _ (List.mem_cons_of_mem _ (List.mem_cons_of_mem _ (List.mem_cons_of_mem _ (List.mem_cons_of_mem _ (List.mem_cons_of_mem _ (List.mem_cons_of_mem _ (List.mem_cons_of_mem _ (List.mem_cons_of_mem _ (List.mem_cons_of_mem _ (List.mem_cons_of_mem _ (List.mem_cons_of_mem _ (List.mem_cons_of_mem _ (List.mem_cons_of_mem _ (List.mem_cons_of_mem _ (List.mem_cons_of_mem _ (List.mem_cons_of_mem _ (List.mem_cons_of_mem _ (List.mem_cons_of_mem _ (List.mem_cons_of_mem _ (List.mem_cons_of_mem _ (List.mem_cons_of_mem _ (List.mem_cons_of_mem _ (List.mem_cons_of_mem _ (List.mem_cons_of_mem _ (List.mem_cons_of_mem _ (List.mem_cons_of_mem _ (List.mem_cons_of_mem _ (List.mem_cons_of_mem _ (List.mem_cons_of_mem _ (List.mem_cons_of_mem _ (List.mem_cons_of_mem _ (List.mem_cons_of_mem _ (List.mem_cons_of_mem _ (List.mem_cons_of_mem _ (List.mem_cons_of_mem _ (List.mem_cons_of_mem _ (List.mem_cons_of_mem _ (List.mem_cons_of_mem _ (List.mem_cons_of_mem _ (List.mem_cons_of_mem _ (List.mem_cons_of_mem _ (List.mem_cons_of_mem _ (List.mem_cons_of_mem _ (List.mem_cons_of_mem _ (List.mem_cons_of_mem _ (List.mem_cons_of_mem _ (List.mem_cons_of_mem _ (List.mem_cons_of_mem _ (List.mem_cons_of_mem _ (List.mem_cons_of_mem _ (List.mem_cons_of_mem _ (List.mem_cons_self))))))))))))))))))))))))))))))))))))))))))))))))))))))))))))))
      have g61 : 1 * (σ'.2.1 121 54).toInt + 0 = v61 := Option.some.inj e61
      obtain ⟨v62, e62, l62, u62⟩ := h4 _ (List.mem_cons_of_mem _ (List.mem_cons_of_mem _ (List.mem_cons_of_mem _ (List.mem_cons_of_mem _ (List.mem_cons_of_mem _ (List.mem_cons_of_mem _ (List.mem_cons_of_mem _ (List.mem_cons_of_mem _ (List.mem_cons_of_mem _ (List.mem_cons_of_mem _ (List.mem_cons_of_mem _ (List.mem_cons_of_mem _ (List.mem_cons_of_mem _ (List.mem_cons_of_mem _ (List.mem_cons_of_mem _ (List.mem_cons_of_mem _ (List.mem_cons_of_mem _ (List.mem_cons_of_mem _ (List.mem_cons_of_mem _ (List.mem_cons_of_mem _ (List.mem_cons_of_mem _ (List.mem_cons_of_mem _ (List.mem_cons_of_mem _ (List.mem_cons_of_mem _ (List.mem_cons_of_mem _ (List.mem_cons_of_mem _ (List.mem_cons_of_mem _ (List.mem_cons_of_mem _ (List.mem_cons_of_mem _ (List.mem_cons_of_mem _ (List.mem_cons_of_mem _ (List.mem_cons_of_mem _ (List.mem_cons_of_mem _ (List.mem_cons_of_mem _ (List.mem_cons_of_mem _ (List.mem_cons_of_mem _ (List.mem_cons_of_mem _ (List.mem_cons_of_mem _ (List.mem_cons_of_mem _ (List.mem_cons_of_mem _ (List.mem_cons_of_mem _ (List.mem_cons_of_mem _ (List.mem_cons_of_mem _ (List.mem_cons_of_mem _ (List.mem_cons_of_mem _ (List.mem_cons_of_mem _ (List.mem_cons_of_mem _ (List.mem_cons_of_mem _ (List.mem_cons_of_mem _ (List.mem_cons_of_mem _ (List.mem_cons_of_mem _ (List.mem_cons_of_mem _ (List.mem_cons_of_mem _ (List.mem_cons_of_mem _ (List.mem_cons_of_mem _ (List.mem_cons_of_mem _ (List.mem_cons_of_mem _ (List.mem_cons_of_mem _ (List.mem_cons_of_mem _ (List.mem_cons_of_mem _ (List.mem_cons_of_mem _ (List.mem_cons_of_mem _ (List.mem_cons_self)))))))))))))))))))))))))))))))))))))))))))))))))))))))))))))))
      have g62 : 1 * (σ'.2.1 121 55).toInt + 0 = v62 := Option.some.inj e62
      obtain ⟨v63, e63, l63, u63⟩ := h4 _ (List.mem_cons_of_mem _ (List.mem_cons_of_mem _ (List.mem_cons_of_mem _ (List.mem_cons_of_mem _ (List.mem_cons_of_mem _ (List.mem_cons_of_mem _ (List.mem_cons_of_mem _ (List.mem_cons_of_mem _ (List.mem_cons_of_mem _ (List.mem_cons_of_mem _ (List.mem_cons_of_mem _ (List.mem_cons_of_mem _ (List.mem_cons_of_mem _ (List.mem_cons_of_mem _ (List.mem_cons_of_mem _ (List.mem_cons_of_mem _ (List.mem_cons_of_mem _ (List.mem_cons_of_mem _ (List.mem_cons_of_mem _ (List.mem_cons_of_mem _ (List.mem_cons_of_mem _ (List.mem_cons_of_mem _ (List.mem_cons_of_mem _ (List.mem_cons_of_mem _ (List.mem_cons_of_mem _ (List.mem_cons_of_mem _ (List.mem_cons_of_mem _ (List.mem_cons_of_mem _ (List.mem_cons_of_mem _ (List.mem_cons_of_mem _ (List.mem_cons_of_mem _ (List.mem_cons_of_mem _ (List.mem_cons_of_mem _ (List.mem_cons_of_mem _ (List.mem_cons_of_mem _ (List.mem_cons_of_mem _ (List.mem_cons_of_mem _ (List.mem_cons_of_mem _ (List.mem_cons_of_mem _ (List.mem_cons_of_mem _ (List.mem_cons_of_mem _ (List.mem_cons_of_mem _ (List.mem_cons_of_mem _ (List.mem_cons_of_mem _ (List.mem_cons_of_mem _ (List.mem_cons_of_mem _ (List.mem_cons_of_mem _ (List.mem_cons_of_mem _ (List.mem_cons_of_mem _ (List.mem_cons_of_mem _ (List.mem_cons_of_mem _ (List.mem_cons_of_mem _ (List.mem_cons_of_mem _ (List.mem_cons_of_mem _ (List.mem_cons_of_mem _ (List.mem_cons_of_mem _ (List.mem_cons_of_mem _ (List.mem_cons_of_mem _ (List.mem_cons_of_mem _ (List.mem_cons_of_mem _ (List.mem_cons_of_mem _ (List.mem_cons_of_mem _ (List.mem_cons_of_mem _ (List.mem_cons_self))))))))))))))))))))))))))))))))))))))))))))))))))))))))))))))))
      have g63 : 1 * (σ'.2.1 121 56).toInt + 0 = v63 := Option.some.inj e63
      obtain ⟨v64, e64, l64, u64⟩ := h4 _ (List.mem_cons_of_mem _ (List.mem_cons_of_mem _ (List.mem_cons_of_mem _ (List.mem_cons_of_mem _ (List.mem_cons_of_mem _ (List.mem_cons_of_mem _ (List.mem_cons_of_mem _ (List.mem_cons_of_mem _ (List.mem_cons_of_mem _ (List.mem_cons_of_mem _ (List.mem_cons_of_mem _ (List.mem_cons_of_mem _ (List.mem_cons_of_mem _ (List.mem_cons_of_mem _ (List.mem_cons_of_mem _ (List.mem_cons_of_mem _ (List.mem_cons_of_mem _ (List.mem_cons_of_mem _ (List.mem_cons_of_mem _ (List.mem_cons_of_mem _ (List.mem_cons_of_mem _ (List.mem_cons_of_mem _ (List.mem_cons_of_mem _ (List.mem_cons_of_mem _ (List.mem_cons_of_mem _ (List.mem_cons_of_mem _ (List.mem_cons_of_mem _ (List.mem_cons_of_mem _ (List.mem_cons_of_mem _ (List.mem_cons_of_mem _ (List.mem_cons_of_mem _ (List.mem_cons_of_mem _ (List.mem_cons_of_mem _ (List.mem_cons_of_mem _ (List.mem_cons_of_mem _ (List.mem_cons_of_mem _ (List.mem_cons_of_mem _ (List.mem_cons_of_mem _ (List.mem_cons_of_mem _ (List.mem_cons_of_mem _ (List.mem_cons_of_mem _ (List.mem_cons_of_mem _ (List.mem_cons_of_mem _ (List.mem_cons_of_mem _ (List.mem_cons_of_mem _ (List.mem_cons_of_mem _ (List.mem_cons_of_mem _ (List.mem_cons_of_mem _ (List.mem_cons_of_mem _ (List.mem_cons_of_mem _ (List.mem_cons_of_mem _ (List.mem_cons_of_mem _ (List.mem_cons_of_mem _ (List.mem_cons_of_mem _ (List.mem_cons_of_mem _ (List.mem_cons_of_mem _ (List.mem_cons_of_mem _ (List.mem_cons_of_mem _ (List.mem_cons_of_mem _ (List.mem_cons_of_mem _ (List.mem_cons_of_mem _ (List.mem_cons_of_mem _ (List.mem_cons_of_mem _ (List.mem_cons_of_mem _ (List.mem_cons_self)))))))))))))))))))))))))))))))))))))))))))))))))))))))))))))))))
      have g64 : 1 * (σ'.2.1 121 57).toInt + 0 = v64 := Option.some.inj e64
      obtain ⟨v65, e65, l65, u65⟩ := h4 _ (List.mem_cons_of_mem _ (List.mem_cons_of_mem _ (List.mem_cons_of_mem _ (List.mem_cons_of_mem _ (List.mem_cons_of_mem _ (List.mem_cons_of_mem _ (List.mem_cons_of_mem _ (List.mem_cons_of_mem _ (List.mem_cons_of_mem _ (List.mem_cons_of_mem _ (List.mem_cons_of_mem _ (List.mem_cons_of_mem _ (List.mem_cons_of_mem _ (List.mem_cons_of_mem _ (List.mem_cons_of_mem _ (List.mem_cons_of_mem _ (List.mem_cons_of_mem _ (List.mem_cons_of_mem _ (List.mem_cons_of_mem _ (List.mem_cons_of_mem _ (List.mem_cons_of_mem _ (List.mem_cons_of_mem _ (List.mem_cons_of_mem _ (List.mem_cons_of_mem _ (List.mem_cons_of_mem _ (List.mem_cons_of_mem _ (List.mem_cons_of_mem _ (List.mem_cons_of_mem _ (List.mem_cons_of_mem _ (List.mem_cons_of_mem _ (List.mem_cons_of_mem _ (List.mem_cons_of_mem _ (List.mem_cons_of_mem _ (List.mem_cons_of_mem _ (List.mem_cons_of_mem _ (List.mem_cons_of_mem _ (List.mem_cons_of_mem _ (List.mem_cons_of_mem _ (List.mem_cons_of_mem _ (List.mem_cons_of_mem _ (List.mem_cons_of_mem _ (List.mem_cons_of_mem _ (List.mem_cons_of_mem _ (List.mem_cons_of_mem _ (List.mem_cons_of_mem _ (List.mem_cons_of_mem _ (List.mem_cons_of_mem _ (List.mem_cons_of_mem _ (List.mem_cons_of_mem _ (List.mem_cons_of_mem _ (List.mem_cons_of_mem _ (List.mem_cons_of_mem _ (List.mem_cons_of_mem _ (List.mem_cons_of_mem _ (List.mem_cons_of_mem _ (List.mem_cons_of_mem _ (List.mem_cons_of_mem _ (List.mem_cons_of_mem _ (List.mem_cons_of_mem _ (List.mem_cons_of_mem _ (List.mem_cons_of_mem _ (List.mem_cons_of_mem _ (List.mem_cons_of_mem _ (List.mem_cons_of_mem _ (List.mem_cons_of_mem _ (List.mem_cons_self))))))))))))))))))))))))))))))))))))))))))))))))))))))))))))))))))
      have g65 : 1 * (σ'.2.1 121 58).toInt + 0 = v65 := Option.some.inj e65
      obtain ⟨v66, e66, l66, u66⟩ := h4 _ (List.mem_cons_of_mem _ (List.mem_cons_of_mem _ (List.mem_cons_of_mem _ (List.mem_cons_of_mem _ (List.mem_cons_of_mem _ (List.mem_cons_of_mem _ (List.mem_cons_of_mem _ (List.mem_cons_of_mem _ (List.mem_cons_of_mem _ (List.mem_cons_of_mem _ (List.mem_cons_of_mem _ (List.mem_cons_of_mem _ (List.mem_cons_of_mem _ (List.mem_cons_of_mem _ (List.mem_cons_of_mem _ (List.mem_cons_of_mem _ (List.mem_cons_of_mem _ (List.mem_cons_of_mem _ (List.mem_cons_of_mem _ (List.mem_cons_of_mem _ (List.mem_cons_of_mem _ (List.mem_cons_of_mem _ (List.mem_cons_of_mem _ (List.mem_cons_of_mem _ (List.mem_cons_of_mem _ (List.mem_cons_of_mem _ (List.mem_cons_of_mem _ (List.mem_cons_of_mem _ (List.mem_cons_of_mem _ (List.mem_cons_of_mem _ (List.mem_cons_of_mem _ (List.mem_cons_of_mem _ (List.mem_cons_of_mem _ (List.mem_cons_of_mem _ (List.mem_cons_of_mem _ (List.mem_cons_of_mem _ (List.mem_cons_of_mem _ (List.mem_cons_of_mem _ (List.mem_cons_of_mem _ (List.mem_cons_of_mem _ (List.mem_cons_of_mem _ (List.mem_cons_of_mem _ (List.mem_cons_of_mem _ (List.mem_cons_of_mem _ (List.mem_cons_of_mem _ (List.mem_cons_of_mem _ (List.mem_cons_of_mem _ (List.mem_cons_of_mem _ (List.mem_cons_of_mem _ (List.mem_cons_of_mem _ (List.mem_cons_of_mem _ (List.mem_cons_of_mem _ (List.mem_cons_of_mem _ (List.mem_cons_of_mem _ (List.mem_cons_of_mem _ (List.mem_cons_of_mem _ (List.mem_cons_of_mem _ (List.mem_cons_of_mem _ (List.mem_cons_of_mem _ (List.mem_cons_of_mem _ (List.mem_cons_of_mem _ (List.mem_cons_of_mem _ (List.mem_cons_of_mem _ (List.mem_cons_of_mem _ (List.mem_cons_of_mem _ (List.mem_cons_of_mem _ (List.mem_cons_self)))))))))))))))))))))))))))))))))))))))))))))))))))))))))))))))))))
      have g66 : 1 * (σ'.2.1 121 59).toInt + 0 = v66 := Option.some.inj e66
      obtain ⟨v67, e67, l67, u67⟩ := h4 _ (List.mem_cons_of_mem _ (List.mem_cons_of_mem _ (List.mem_cons_of_mem _ (List.mem_cons_of_mem _ (List.mem_cons_of_mem _ (List.mem_cons_of_mem _ (List.mem_cons_of_mem _ (List.mem_cons_of_mem _ (List.mem_cons_of_mem _ (List.mem_cons_of_mem _ (List.mem_cons_of_mem _ (List.mem_cons_of_mem _ (List.mem_cons_of_mem _ (List.mem_cons_of_mem _ (List.mem_cons_of_mem _ (List.mem_cons_of_mem _ (List.mem_cons_of_mem _ (List.mem_cons_of_mem _ (List.mem_cons_of_mem _ (List.mem_cons_of_mem _ (List.mem_cons_of_mem _ (List.mem_cons_of_mem _ (List.mem_cons_of_mem _ (List.mem_cons_of_mem _ (List.mem_cons_of_mem _ (List.mem_cons_of_mem _ (List.mem_cons_of_mem _ (List.mem_cons_of_mem _ (List.mem_cons_of_mem _ (List.mem_cons_of_mem _ (List.mem_cons_of_mem _ (List.mem_cons_of_mem _ (List.mem_cons_of_mem _ (List.mem_cons_of_mem _ (List.mem_cons_of_mem _ (List.mem_cons_of_mem _ (List.mem_cons_of_mem _ (List.mem_cons_of_mem _ (List.mem_cons_of_mem _ (List.mem_cons_of_mem _ (List.mem_cons_of_mem _ (List.mem_cons_of_mem _ (List.mem_cons_of_mem _ (List.mem_cons_of_mem _ (List.mem_cons_of_mem _ (List.mem_cons_of_mem _ (List.mem_cons_of_mem _ (List.mem_cons_of_mem _ (List.mem_cons_of_mem _ (List.mem_cons_of_mem _ (List.mem_cons_of_mem _ (List.mem_cons_of_mem _ (List.mem_cons_of_mem _ (List.mem_cons_of_mem _ (List.mem_cons_of_mem _ (List.mem_cons_of_mem _ (List.mem_cons_of_mem _ (List.mem_cons_of_mem _ (List.mem_cons_of_mem _ (List.mem_cons_of_mem _ (List.mem_cons_of_mem _ (List.mem_cons_of_mem _ (List.mem_cons_of_mem _ (List.mem_cons_of_mem _ (List.mem_cons_of_mem _ (List.mem_cons_of_mem _ (List.mem_cons_of_mem _ (List.mem_cons_self))))))))))))))))))))))))))))))))))))))))))))))))))))))))))))))))))))
      have g67 : 1 * (σ'.2.1 121 60).toInt + 0 = v67 := Option.some.inj e67
      obtain ⟨v68, e68, l68, u68⟩ := h4 _ (List.mem_cons_of_mem _ (List.mem_cons_of_mem _ (List.mem_cons_of_mem _ (List.mem_cons_of_mem _ (List.mem_cons_of_mem _ (List.mem_cons_of_mem _ (List.mem_cons_of_mem _ (List.mem_cons_of_mem _ (List.mem_cons_of_mem _ (List.mem_cons_of_mem _ (List.mem_cons_of_mem _ (List.mem_cons_of_mem _ (List.mem_cons_of_mem _ (List.mem_cons_of_mem _ (List.mem_cons_of_mem _ (List.mem_cons_of_mem _ (List.mem_cons_of_mem _ (List.mem_cons_of_mem _ (List.mem_cons_of_mem _ (List.mem_cons_of_mem _ (List.mem_cons_of_mem _ (List.mem_cons_of_mem _ (List.mem_cons_of_mem _ (List.mem_cons_of_mem _ (List.mem_cons_of_mem _ (List.mem_cons_of_mem _ (List.mem_cons_of_mem _ (List.mem_cons_of_mem _ (List.mem_cons_of_mem _ (List.mem_cons_of_mem _ (List.mem_cons_of_mem _ (List.mem_cons_of_mem _ (List.mem_cons_of_mem _ (List.mem_cons_of_mem _ (List.mem_cons_of_mem _ (List.mem_cons_of_mem _ (List.mem_cons_of_mem _ (List.mem_cons_of_mem _ (List.mem_cons_of_mem _ (List.mem_cons_of_mem _ (List.mem_cons_of_mem _ (List.mem_cons_of_mem _ (List.mem_cons_of_mem _ (List.mem_cons_of_mem _ (List.mem_cons_of_mem _ (List.mem_cons_of_mem _ (List.mem_cons_of_mem _ (List.mem_cons_of_mem _ (List.mem_cons_of_mem _ (List.mem_cons_of_mem _ (List.mem_cons_of_mem _ (List.mem_cons_of_mem _ (List.mem_cons_of_mem _ (List.mem_cons_of_mem _ (List.mem_cons_of_mem _ (List.mem_cons_of_mem _ (List.mem_cons_of_mem _ (List.mem_cons_of_mem _ (List.mem_cons_of_mem _ (List.mem_cons_of_mem _ (List.mem_cons_of_mem _ (List.mem_cons_of_mem _ (List.mem_cons_of_mem _ (List.mem_cons_of_mem _ (List.mem_cons_of_mem _ (List.mem_cons_of_mem _ (List.mem_cons_of_mem _ (List.mem_cons_of_mem _ (List.mem_cons_self)))))))))))))))))))))))))))))))))))))))))))))))))))))))))))))))))))))
      have g68 : 1 * (σ'.2.1 121 61).toInt + 0 = v68 := Option.some.inj e68
      exact cuta _  _ hr9  ⟨by rw [g0]; exact l0, by rw [g0]; exact u0⟩ ⟨by rw [g1]; exact l1, by rw [g1]; exact u1⟩ ⟨by rw [g2]; exact l2, by rw [g2]; exact u2⟩ ⟨by rw [g3]; exact l3, by rw [g3]; exact u3⟩ ⟨by rw [g4]; exact l4, by rw [g4]; exact u4⟩ ⟨by rw [g5]; exact l5, by rw [g5]; exact u5⟩ ⟨by rw [g6]; exact l6, by rw [g6]; exact u6⟩ ⟨by rw [g7]; exact l7, by rw [g7]; exact u7⟩ ⟨by rw [g8]; exact l8, by rw [g8]; exact u8⟩ ⟨by rw [g9]; exact l9, by rw [g9]; exact u9⟩ ⟨by rw [g10]; exact l10, by rw [g10]; exact u10⟩ ⟨by rw [g11]; exact l11, by rw [g11]; exact u11⟩ ⟨by rw [g12]; exact l12, by rw [g12]; exact u12⟩ ⟨by rw [g13]; exact l13, by rw [g13]; exact u13⟩ ⟨by rw [g14]; exact l14, by rw [g14]; exact u14⟩ ⟨by rw [g15]; exact l15, by rw [g15]; exact u15⟩ ⟨by rw [g16]; exact l16, by rw [g16]; exact u16⟩ ⟨by rw [g17]; exact l17, by rw [g17]; exact u17⟩ ⟨by rw [g18]; exact l18, by rw [g18]; exact u18⟩ ⟨by rw [g19]; exact l19, by rw [g19]; exact u19⟩ ⟨by rw [g20]; exact l20, by rw [g20]; exact u20⟩ ⟨by rw [g21]; exact l21, by rw [g21]; exact u21⟩ ⟨by rw [g22]; exact l22, by rw [g22]; exact u22⟩ ⟨by rw [g23]; exact l23, by rw [g23]; exact u23⟩ ⟨by rw [g24]; exact l24, by rw [g24]; exact u24⟩ ⟨by rw [g25]; exact l25, by rw [g25]; exact u25⟩ ⟨by rw [g26]; exact l26, by rw [g26]; exact u26⟩ ⟨by rw [g27]; exact l27, by rw [g27]; exact u27⟩ ⟨by rw [g28]; exact l28, by rw [g28]; exact u28⟩ ⟨by rw [g29]; exact l29, by rw [g29]; exact u29⟩ ⟨by rw [g30]; exact l30, by rw [g30]; exact u30⟩ ⟨by rw [g31]; exact l31, by rw [g31]; exact u31⟩ ⟨by rw [g32]; exact l32, by rw [g32]; exact u32⟩ ⟨by rw [g33]; exact l33, by rw [g33]; exact u33⟩ ⟨by rw [g34]; exact l34, by rw [g34]; exact u34⟩ ⟨by rw [g35]; exact l35, by rw [g35]; exact u35⟩ ⟨by rw [g36]; exact l36, by rw [g36]; exact u36⟩ ⟨by rw [g37]; exact l37, by rw [g37]; exact u37⟩ ⟨by rw [g38]; exact l38, by rw [g38]; exact u38⟩ ⟨by rw [g39]; exact l39, by rw [g39]; exact u39⟩ ⟨by rw [g40]; exact l40, by rw [g40]; exact u40⟩ ⟨by rw [g41]; exact l41, by rw [g41]; exact u41⟩ ⟨by rw [g42]; exact l42, by rw [g42]; exact u42⟩ ⟨by rw [g43]; exact l43, by rw [g43]; exact u43⟩ ⟨by rw [g44]; exact l44, by rw [g44]; exact u44⟩ ⟨by rw [g45]; exact l45, by rw [g45]; exact u45⟩ ⟨by rw [g46]; exact l46, by rw [g46]; exact u46⟩ ⟨by rw [g47]; exact l47, by rw [g47]; exact u47⟩ ⟨by rw [g48]; exact l48, by rw [g48]; exact u48⟩ ⟨by rw [g49]; exact l49, by rw [g49]; exact u49⟩ ⟨by rw [g50]; exact l50, by rw [g50]; exact u50⟩ ⟨by rw [g51]; exact l51, by rw [g51]; exact u51⟩ ⟨by rw [g52]; exact l52, by rw [g52]; exact u52⟩ ⟨by rw [g53]; exact l53, by rw [g53]; exact u53⟩ ⟨by rw [g54]; exact l54, by rw [g54]; exact u54⟩ ⟨by rw [g55]; exact l55, by rw [g55]; exact u55⟩ ⟨by rw [g56]; exact l56, by rw [g56]; exact u56⟩ ⟨by rw [g57]; exact l57, by rw [g57]; exact u57⟩ ⟨by rw [g58]; exact l58, by rw [g58]; exact u58⟩ ⟨by rw [g59]; exact l59, by rw [g59]; exact u59⟩ ⟨by rw [g60]; exact l60, by rw [g60]; exact u60⟩ ⟨by rw [g61]; exact l61, by rw [g61]; exact u61⟩ ⟨by rw [g62]; exact l62, by rw [g62]; exact u62⟩ ⟨by rw [g63]; exact l63, by rw [g63]; exact u63⟩ ⟨by rw [g64]; exact l64, by rw [g64]; exact u64⟩ ⟨by rw [g65]; exact l65, by rw [g65]; exact u65⟩ ⟨by rw [g66]; exact l66, by rw [g66]; exact u66⟩ ⟨by rw [g67]; exact l67, by rw [g67]; exact u67⟩ ⟨by rw [g68]; exact l68, by rw [g68]; exact u68⟩ h5
theorem sg_so2a_run (G : sx_G0 g L xs zK hd_T ex_mt) (hct : ∀ (mi : Nat) (T2 : ex_T) (c' : sx_Ct), ex_mt mi = some T2 → c' ∈ k9 mi → c'.1 < 0 → sx_Holds g zK hd_T T2 c') {σ : am_S} {lw : List (Nat × Value)} {post : Option (Option Value) → am_S → Prop} (hM : sx_M zK hd_T σ 0 0 σ) (hl : (0, Value.ref 118) ∈ lw) (bp118_9 : 0 ≤ (σ.2.1 118 9).toInt ∧ (σ.2.1 118 9).toInt ≤ 0) (cuta : ∀ (lw' : List (Nat × Value)) (m1' : Int32) (σ' : am_S), (0, Value.ref 118) ∈ lw' → (1, Value.int m1') ∈ lw' → (0 ≤ 1 * m1'.toInt + 0 ∧ 1 * m1'.toInt + 0 ≤ 0) → sx_M zK hd_T σ 0 0 σ' → am_K g 30 tX12_station.1 0 0 80 lw' [] σ' post) : am_K g 30 tX12_station.1 0 0 35 lw [] σ post := by
  refine sg_seg (sw := []) (vs := [(σ.2.1 118 9).toInt]) (ws := []) G (mi := 173) rfl hct sg_so2a_ok ⟨rfl, trivial⟩ (hd_refs hl) trivial (hd_p1 rfl bp118_9.1 bp118_9.2 hd_p0) hM ?_ ?_
  · intro r σ' hq
    cases r with
    | none => exact hq.elim
    | some v =>
      obtain ⟨p, hp, hM2, ks, hk, hv⟩ := hq
      cases hp
  · intro u hu
    simp only [List.mem_cons, List.not_mem_nil, or_false] at hu
    rcases hu with rfl
    · intro lw' sw' vs' ws' σ' ⟨h1_0, h2, h3_0, h4, h5⟩
      obtain ⟨m1', vs1, rfl, hm1, h1_1⟩ := hd_srcl h1_0
      obtain rfl := hd_src0 h1_1
      obtain ⟨rfl, rfl⟩ := hd_st0 h3_0
      have hr9 := hd_ref0 h2
      obtain ⟨v0, e0, l0, u0⟩ := h4 _ (List.mem_cons_self)
      have g0 : 1 * m1'.toInt + 0 = v0 := Option.some.inj e0
      exact cuta _ _ _ hr9 hm1 ⟨by rw [g0]; exact l0, by rw [g0]; exact u0⟩ h5
theorem sg_so2b_run (G : sx_G0 g L xs zK hd_T ex_mt) (hct : ∀ (mi : Nat) (T2 : ex_T) (c' : sx_Ct), ex_mt mi = some T2 → c' ∈ k9 mi → c'.1 < 0 → sx_Holds g zK hd_T T2 c') {σ : am_S} {lw : List (Nat × Value)} {post : Option (Option Value) → am_S → Prop} (hM : sx_M zK hd_T σ 0 0 σ) (hl : (0, Value.ref 118) ∈ lw) (bp118_9 : 1 ≤ (σ.2.1 118 9).toInt ∧ (σ.2.1 118 9).toInt ≤ 4) (cuta : ∀ (lw' : List (Nat × Value))  (σ' : am_S), (0, Value.ref 118) ∈ lw' → sx_M zK hd_T σ 0 0 σ' → am_K g 30 tX12_station.1 0 0 43 lw' [.ref 118] σ' post) : am_K g 30 tX12_station.1 0 0 35 lw [] σ post := by
  refine sg_seg (sw := []) (vs := [(σ.2.1 118 9).toInt]) (ws := []) G (mi := 173) rfl hct sg_so2b_ok ⟨rfl, trivial⟩ (hd_refs hl) trivial (hd_p1 rfl bp118_9.1 bp118_9.2 hd_p0) hM ?_ ?_
  · intro r σ' hq
    cases r with
    | none => exact hq.elim
    | some v =>
      obtain ⟨p, hp, hM2, ks, hk, hv⟩ := hq
      cases hp
  · intro u hu
    simp only [List.mem_cons, List.not_mem_nil, or_false] at hu
    rcases hu with rfl
    · intro lw' sw' vs' ws' σ' ⟨h1_0, h2, h3_0, h4, h5⟩
      obtain rfl := hd_src0 h1_0
      obtain ⟨sw1, rfl, h3_1⟩ := hd_str h3_0
      obtain ⟨rfl, rfl⟩ := hd_st0 h3_1
      have hr9 := hd_ref0 h2
      exact cuta _  _ hr9   h5
theorem sg_so3a_run (G : sx_G0 g L xs zK hd_T ex_mt) (hct : ∀ (mi : Nat) (T2 : ex_T) (c' : sx_Ct), ex_mt mi = some T2 → c' ∈ k9 mi → c'.1 < 0 → sx_Holds g zK hd_T T2 c') {σ : am_S} {lw : List (Nat × Value)} {post : Option (Option Value) → am_S → Prop} (hM : sx_M zK hd_T σ 0 0 σ) (hl : (0, Value.ref 118) ∈ lw) (bp118_14 : 0 ≤ (σ.2.1 118 14).toInt ∧ (σ.2.1 118 14).toInt ≤ 940) {n0 : Int32} (bk0 : 0 ≤ n0.toInt ∧ n0.toInt ≤ 0) (ret0 : ∀ (r : Int32) (σ' : am_S), ((-1) ≤ 1 * (σ.2.1 118 14).toInt + (1 * r.toInt + 0) ∧ 1 * (σ.2.1 118 14).toInt + (1 * r.toInt + 0) ≤ (-1)) → sx_M zK hd_T σ 0 0 σ' → post (some (some (.int r))) σ') : am_K g 30 tX12_station.1 0 0 46 lw [.int n0] σ post := by
  refine sg_seg (sw := [.int n0]) (vs := [(σ.2.1 118 14).toInt]) (ws := [n0.toInt]) G (mi := 173) rfl hct sg_so3a_ok ⟨rfl, trivial⟩ (hd_refs hl) ⟨⟨n0, rfl, rfl⟩, trivial⟩ (hd_p1 rfl bp118_14.1 bp118_14.2 (hd_p1 rfl bk0.1 bk0.2 hd_p0)) hM ?_ ?_
  · intro r σ' hq
    cases r with
    | none => exact hq.elim
    | some v =>
      obtain ⟨p, hp, hM2, ks, hk, hv⟩ := hq
      simp only [List.mem_cons, List.not_mem_nil, or_false] at hp
      rcases hp with rfl
      · obtain rfl := hd_keys hk
        cases v with
        | none => exact hv.elim
        | some w9 =>
          obtain ⟨r, rfl, hP⟩ := hv
          obtain ⟨v0, e0, l0, u0⟩ := hP _ (List.mem_cons_self)
          have g0 : 1 * (σ.2.1 118 14).toInt + (1 * r.toInt + 0) = v0 := Option.some.inj e0
          exact ret0 r _ ⟨by rw [g0]; exact l0, by rw [g0]; exact u0⟩ hM2
  · intro u hu
    cases hu
theorem sg_so3b_run (G : sx_G0 g L xs zK hd_T ex_mt) (hct : ∀ (mi : Nat) (T2 : ex_T) (c' : sx_Ct), ex_mt mi = some T2 → c' ∈ k9 mi → c'.1 < 0 → sx_Holds g zK hd_T T2 c') {σ : am_S} {lw : List (Nat × Value)} {post : Option (Option Value) → am_S → Prop} (hM : sx_M zK hd_T σ 0 0 σ) (hl : (0, Value.ref 118) ∈ lw) {n0 : Int32} (bk0 : 1 ≤ n0.toInt ∧ n0.toInt ≤ 1) (cuta : ∀ (lw' : List (Nat × Value)) (n0' : Int32) (σ' : am_S), (0, Value.ref 118) ∈ lw' → (59 ≤ 1 * n0'.toInt + 0 ∧ 1 * n0'.toInt + 0 ≤ 59) → sx_M zK hd_T σ 0 0 σ' → am_K g 30 tX12_station.1 0 0 52 lw' [.int n0', .ref 118] σ' post) : am_K g 30 tX12_station.1 0 0 46 lw [.int n0] σ post := by
  refine sg_seg (sw := [.int n0]) (vs := []) (ws := [n0.toInt]) G (mi := 173) rfl hct sg_so3b_ok trivial (hd_refs hl) ⟨⟨n0, rfl, rfl⟩, trivial⟩ (hd_p1 rfl bk0.1 bk0.2 hd_p0) hM ?_ ?_
  · intro r σ' hq
    cases r with
    | none => exact hq.elim
    | some v =>
      obtain ⟨p, hp, hM2, ks, hk, hv⟩ := hq
      cases hp
  · intro u hu
    simp only [List.mem_cons, List.not_mem_nil, or_false] at hu
    rcases hu with rfl
    · intro lw' sw' vs' ws' σ' ⟨h1_0, h2, h3_0, h4, h5⟩
      obtain rfl := hd_src0 h1_0
      obtain ⟨n0', sw1, ws1, rfl, rfl, h3_1⟩ := hd_sti h3_0
      obtain ⟨sw2, rfl, h3_2⟩ := hd_str h3_1
      obtain ⟨rfl, rfl⟩ := hd_st0 h3_2
      have hr9 := hd_ref0 h2
      obtain ⟨v0, e0, l0, u0⟩ := h4 _ (List.mem_cons_self)
      have g0 : 1 * n0'.toInt + 0 = v0 := Option.some.inj e0
      exact cuta _ _ _ hr9  ⟨by rw [g0]; exact l0, by rw [g0]; exact u0⟩ h5
theorem sg_so4a_run (G : sx_G0 g L xs zK hd_T ex_mt) (hct : ∀ (mi : Nat) (T2 : ex_T) (c' : sx_Ct), ex_mt mi = some T2 → c' ∈ k9 mi → c'.1 < 0 → sx_Holds g zK hd_T T2 c') {σ : am_S} {lw : List (Nat × Value)} {post : Option (Option Value) → am_S → Prop} (hM : sx_M zK hd_T σ 0 0 σ) (hl : (0, Value.ref 118) ∈ lw) (bp118_14 : 0 ≤ (σ.2.1 118 14).toInt ∧ (σ.2.1 118 14).toInt ≤ 940) {n0 : Int32} (bk0 : 0 ≤ n0.toInt ∧ n0.toInt ≤ 0) (ret0 : ∀ (r : Int32) (σ' : am_S), ((-1) ≤ 1 * (σ.2.1 118 14).toInt + (1 * r.toInt + 0) ∧ 1 * (σ.2.1 118 14).toInt + (1 * r.toInt + 0) ≤ (-1)) → sx_M zK hd_T σ 0 0 σ' → post (some (some (.int r))) σ') : am_K g 30 tX12_station.1 0 0 55 lw [.int n0] σ post := by
  refine sg_seg (sw := [.int n0]) (vs := [(σ.2.1 118 14).toInt]) (ws := [n0.toInt]) G (mi := 173) rfl hct sg_so4a_ok ⟨rfl, trivial⟩ (hd_refs hl) ⟨⟨n0, rfl, rfl⟩, trivial⟩ (hd_p1 rfl bp118_14.1 bp118_14.2 (hd_p1 rfl bk0.1 bk0.2 hd_p0)) hM ?_ ?_
  · intro r σ' hq
    cases r with
    | none => exact hq.elim
    | some v =>
      obtain ⟨p, hp, hM2, ks, hk, hv⟩ := hq
      simp only [List.mem_cons, List.not_mem_nil, or_false] at hp
      rcases hp with rfl
      · obtain rfl := hd_keys hk
        cases v with
        | none => exact hv.elim
        | some w9 =>
          obtain ⟨r, rfl, hP⟩ := hv
          obtain ⟨v0, e0, l0, u0⟩ := hP _ (List.mem_cons_self)
          have g0 : 1 * (σ.2.1 118 14).toInt + (1 * r.toInt + 0) = v0 := Option.some.inj e0
          exact ret0 r _ ⟨by rw [g0]; exact l0, by rw [g0]; exact u0⟩ hM2
  · intro u hu
    cases hu
theorem sg_so4b_run (G : sx_G0 g L xs zK hd_T ex_mt) (hct : ∀ (mi : Nat) (T2 : ex_T) (c' : sx_Ct), ex_mt mi = some T2 → c' ∈ k9 mi → c'.1 < 0 → sx_Holds g zK hd_T T2 c') {σ : am_S} {lw : List (Nat × Value)} {post : Option (Option Value) → am_S → Prop} (hM : sx_M zK hd_T σ 0 0 σ) (hl : (0, Value.ref 118) ∈ lw) (bp118_17 : 0 ≤ (σ.2.1 118 17).toInt ∧ (σ.2.1 118 17).toInt ≤ 940) {n0 : Int32} (bk0 : 1 ≤ n0.toInt ∧ n0.toInt ≤ 1) (cuta : ∀ (lw' : List (Nat × Value))  (σ' : am_S), (0, Value.ref 118) ∈ lw' → ((-1) ≤ 1 * (σ.2.1 118 17).toInt + ((-1) * (σ'.2.1 118 17).toInt + 0) ∧ 1 * (σ.2.1 118 17).toInt + ((-1) * (σ'.2.1 118 17).toInt + 0) ≤ (-1)) → sx_M zK hd_T σ 153914086704665934422965000391185991426092731525255651046673021110334850669910978950836977558144201721900890587136 0 σ' → am_K g 30 tX12_station.1 0 0 35 lw' [] σ' post) : am_K g 30 tX12_station.1 0 0 55 lw [.int n0] σ post := by
  refine sg_seg (sw := [.int n0]) (vs := [(σ.2.1 118 17).toInt]) (ws := [n0.toInt]) G (mi := 173) rfl hct sg_so4b_ok ⟨rfl, trivial⟩ (hd_refs hl) ⟨⟨n0, rfl, rfl⟩, trivial⟩ (hd_p1 rfl bp118_17.1 bp118_17.2 (hd_p1 rfl bk0.1 bk0.2 hd_p0)) hM ?_ ?_
  · intro r σ' hq
    cases r with
    | none => exact hq.elim
    | some v =>
      obtain ⟨p, hp, hM2, ks, hk, hv⟩ := hq
      cases hp
  · intro u hu
    simp only [List.mem_cons, List.not_mem_nil, or_false] at hu
    rcases hu with rfl
    · intro lw' sw' vs' ws' σ' ⟨h1_0, h2, h3_0, h4, h5⟩
      obtain ⟨vs1, rfl, h1_1⟩ := hd_srcs h1_0
      obtain rfl := hd_src0 h1_1
      obtain ⟨rfl, rfl⟩ := hd_st0 h3_0
      have hr9 := hd_ref0 h2
      obtain ⟨v0, e0, l0, u0⟩ := h4 _ (List.mem_cons_self)
      have g0 : 1 * (σ.2.1 118 17).toInt + ((-1) * (σ'.2.1 118 17).toInt + 0) = v0 := Option.some.inj e0
      exact cuta _  _ hr9  ⟨by rw [g0]; exact l0, by rw [g0]; exact u0⟩ h5
theorem sg_so5a_run (G : sx_G0 g L xs zK hd_T ex_mt) (hct : ∀ (mi : Nat) (T2 : ex_T) (c' : sx_Ct), ex_mt mi = some T2 → c' ∈ k9 mi → c'.1 < 0 → sx_Holds g zK hd_T T2 c') {σ : am_S} {lw : List (Nat × Value)} {post : Option (Option Value) → am_S → Prop} (hM : sx_M zK hd_T σ 0 0 σ) (hl : (0, Value.ref 118) ∈ lw) {m1 : Int32} (hl1 : (1, Value.int m1) ∈ lw) (bl1 : 0 ≤ m1.toInt ∧ m1.toInt ≤ 61) (cuta : ∀ (lw' : List (Nat × Value)) (m1' : Int32) (n0' : Int32) (n1' : Int32) (σ' : am_S), (0, Value.ref 118) ∈ lw' → (1, Value.int m1') ∈ lw' → (0 ≤ 1 * m1.toInt + ((-1) * n0'.toInt + 0) ∧ 1 * m1.toInt + ((-1) * n0'.toInt + 0) ≤ 0) → (0 ≤ 1 * m1.toInt + ((-1) * n1'.toInt + 0) ∧ 1 * m1.toInt + ((-1) * n1'.toInt + 0) ≤ 0) → (0 ≤ 1 * m1.toInt + ((-1) * m1'.toInt + 0) ∧ 1 * m1.toInt + ((-1) * m1'.toInt + 0) ≤ 0) → sx_M zK hd_T σ 0 0 σ' → am_K g 30 tX12_station.1 0 0 103 lw' [.int n0', .ref 121, .int n1', .ref 120] σ' post) : am_K g 30 tX12_station.1 0 0 80 lw [] σ post := by
  refine sg_seg (sw := []) (vs := [m1.toInt]) (ws := []) G (mi := 173) rfl hct sg_so5a_ok ⟨⟨m1, hl1, rfl⟩, trivial⟩ (hd_refs hl) trivial (hd_p1 rfl bl1.1 bl1.2 hd_p0) hM ?_ ?_
  · intro r σ' hq
    cases r with
    | none => exact hq.elim
    | some v =>
      obtain ⟨p, hp, hM2, ks, hk, hv⟩ := hq
      cases hp
  · intro u hu
    simp only [List.mem_cons, List.not_mem_nil, or_false] at hu
    rcases hu with rfl
    · intro lw' sw' vs' ws' σ' ⟨h1_0, h2, h3_0, h4, h5⟩
      obtain ⟨m1', vs1, rfl, hm1, h1_1⟩ := hd_srcl h1_0
      obtain rfl := hd_src0 h1_1
      obtain ⟨n0', sw1, ws1, rfl, rfl, h3_1⟩ := hd_sti h3_0
      obtain ⟨sw2, rfl, h3_2⟩ := hd_str h3_1
      obtain ⟨n1', sw3, ws3, rfl, rfl, h3_3⟩ := hd_sti h3_2
      obtain ⟨sw4, rfl, h3_4⟩ := hd_str h3_3
      obtain ⟨rfl, rfl⟩ := hd_st0 h3_4
      have hr9 := hd_ref0 h2
      obtain ⟨v0, e0, l0, u0⟩ := h4 _ (List.mem_cons_self)
      have g0 : 1 * m1.toInt + ((-1) * n0'.toInt + 0) = v0 := Option.some.inj e0
      obtain ⟨v1, e1, l1, u1⟩ := h4 _ (List.mem_cons_of_mem _ (List.mem_cons_self))
      have g1 : 1 * m1.toInt + ((-1) * n1'.toInt + 0) = v1 := Option.some.inj e1
      obtain ⟨v2, e2, l2, u2⟩ := h4 _ (List.mem_cons_of_mem _ (List.mem_cons_of_mem _ (List.mem_cons_self)))
      have g2 : 1 * m1.toInt + ((-1) * m1'.toInt + 0) = v2 := Option.some.inj e2
      exact cuta _ _ _ _ _ hr9 hm1 ⟨by rw [g0]; exact l0, by rw [g0]; exact u0⟩ ⟨by rw [g1]; exact l1, by rw [g1]; exact u1⟩ ⟨by rw [g2]; exact l2, by rw [g2]; exact u2⟩ h5
theorem sg_so5b_run (G : sx_G0 g L xs zK hd_T ex_mt) (hct : ∀ (mi : Nat) (T2 : ex_T) (c' : sx_Ct), ex_mt mi = some T2 → c' ∈ k9 mi → c'.1 < 0 → sx_Holds g zK hd_T T2 c') {σ : am_S} {lw : List (Nat × Value)} {post : Option (Option Value) → am_S → Prop} (hM : sx_M zK hd_T σ 0 0 σ) (hl : (0, Value.ref 118) ∈ lw) {m1 : Int32} (hl1 : (1, Value.int m1) ∈ lw) {n0 : Int32} {n1 : Int32} (cuta : ∀ (lw' : List (Nat × Value)) (m1' : Int32) (n0' : Int32) (n1' : Int32) (σ' : am_S), (0, Value.ref 118) ∈ lw' → (1, Value.int m1') ∈ lw' → (0 ≤ 1 * n0.toInt + ((-1) * n0'.toInt + 0) ∧ 1 * n0.toInt + ((-1) * n0'.toInt + 0) ≤ 0) → (0 ≤ 1 * n1.toInt + ((-1) * n1'.toInt + 0) ∧ 1 * n1.toInt + ((-1) * n1'.toInt + 0) ≤ 0) → (0 ≤ 1 * m1.toInt + ((-1) * m1'.toInt + 0) ∧ 1 * m1.toInt + ((-1) * m1'.toInt + 0) ≤ 0) → sx_M zK hd_T σ 0 0 σ' → am_K g 30 tX12_station.1 0 0 108 lw' [.int n0', .int n1', .ref 120] σ' post) : am_K g 30 tX12_station.1 0 0 104 lw [.int n0, .int n1, .ref 120] σ post := by
  refine sg_seg (sw := [.int n0, .int n1, .ref 120]) (vs := [m1.toInt]) (ws := [n0.toInt, n1.toInt]) G (mi := 173) rfl hct sg_so5b_ok ⟨⟨m1, hl1, rfl⟩, trivial⟩ (hd_refs hl) ⟨⟨n0, rfl, rfl⟩, ⟨⟨n1, rfl, rfl⟩, ⟨rfl, trivial⟩⟩⟩ (hd_p1 rfl (Int32.le_toInt _) (Int32.toInt_le _) (hd_p1 rfl (Int32.le_toInt _) (Int32.toInt_le _) (hd_p1 rfl (Int32.le_toInt _) (Int32.toInt_le _) hd_p0))) hM ?_ ?_
  · intro r σ' hq
    cases r with
    | none => exact hq.elim
    | some v =>
      obtain ⟨p, hp, hM2, ks, hk, hv⟩ := hq
      cases hp
  · intro u hu
    simp only [List.mem_cons, List.not_mem_nil, or_false] at hu
    rcases hu with rfl
    · intro lw' sw' vs' ws' σ' ⟨h1_0, h2, h3_0, h4, h5⟩
      obtain ⟨m1', vs1, rfl, hm1, h1_1⟩ := hd_srcl h1_0
      obtain rfl := hd_src0 h1_1
      obtain ⟨n0', sw1, ws1, rfl, rfl, h3_1⟩ := hd_sti h3_0
      obtain ⟨n1', sw2, ws2, rfl, rfl, h3_2⟩ := hd_sti h3_1
      obtain ⟨sw3, rfl, h3_3⟩ := hd_str h3_2
      obtain ⟨rfl, rfl⟩ := hd_st0 h3_3
      have hr9 := hd_ref0 h2
      obtain ⟨v0, e0, l0, u0⟩ := h4 _ (List.mem_cons_self)
      have g0 : 1 * n0.toInt + ((-1) * n0'.toInt + 0) = v0 := Option.some.inj e0
      obtain ⟨v1, e1, l1, u1⟩ := h4 _ (List.mem_cons_of_mem _ (List.mem_cons_self))
      have g1 : 1 * n1.toInt + ((-1) * n1'.toInt + 0) = v1 := Option.some.inj e1
      obtain ⟨v2, e2, l2, u2⟩ := h4 _ (List.mem_cons_of_mem _ (List.mem_cons_of_mem _ (List.mem_cons_self)))
      have g2 : 1 * m1.toInt + ((-1) * m1'.toInt + 0) = v2 := Option.some.inj e2
      exact cuta _ _ _ _ _ hr9 hm1 ⟨by rw [g0]; exact l0, by rw [g0]; exact u0⟩ ⟨by rw [g1]; exact l1, by rw [g1]; exact u1⟩ ⟨by rw [g2]; exact l2, by rw [g2]; exact u2⟩ h5
theorem sg_so5c_run (G : sx_G0 g L xs zK hd_T ex_mt) (hct : ∀ (mi : Nat) (T2 : ex_T) (c' : sx_Ct), ex_mt mi = some T2 → c' ∈ k9 mi → c'.1 < 0 → sx_Holds g zK hd_T T2 c') {σ : am_S} {lw : List (Nat × Value)} {post : Option (Option Value) → am_S → Prop} (hM : sx_M zK hd_T σ 0 0 σ) (hl : (0, Value.ref 118) ∈ lw) {m1 : Int32} (hl1 : (1, Value.int m1) ∈ lw) (bl1 : 0 ≤ m1.toInt ∧ m1.toInt ≤ 276) (cuta : ∀ (lw' : List (Nat × Value)) (m1' : Int32) (σ' : am_S), (0, Value.ref 118) ∈ lw' → (1, Value.int m1') ∈ lw' → ((-1) ≤ 1 * m1.toInt + ((-1) * m1'.toInt + 0) ∧ 1 * m1.toInt + ((-1) * m1'.toInt + 0) ≤ (-1)) → sx_M zK hd_T σ 0 0 σ' → am_K g 30 tX12_station.1 0 0 80 lw' [] σ' post) : am_K g 30 tX12_station.1 0 0 109 lw [] σ post := by
  refine sg_seg (sw := []) (vs := [m1.toInt]) (ws := []) G (mi := 173) rfl hct sg_so5c_ok ⟨⟨m1, hl1, rfl⟩, trivial⟩ (hd_refs hl) trivial (hd_p1 rfl bl1.1 bl1.2 hd_p0) hM ?_ ?_
  · intro r σ' hq
    cases r with
    | none => exact hq.elim
    | some v =>
      obtain ⟨p, hp, hM2, ks, hk, hv⟩ := hq
      cases hp
  · intro u hu
    simp only [List.mem_cons, List.not_mem_nil, or_false] at hu
    rcases hu with rfl
    · intro lw' sw' vs' ws' σ' ⟨h1_0, h2, h3_0, h4, h5⟩
      obtain ⟨m1', vs1, rfl, hm1, h1_1⟩ := hd_srcl h1_0
      obtain rfl := hd_src0 h1_1
      obtain ⟨rfl, rfl⟩ := hd_st0 h3_0
      have hr9 := hd_ref0 h2
      obtain ⟨v0, e0, l0, u0⟩ := h4 _ (List.mem_cons_self)
      have g0 : 1 * m1.toInt + ((-1) * m1'.toInt + 0) = v0 := Option.some.inj e0
      exact cuta _ _ _ hr9 hm1 ⟨by rw [g0]; exact l0, by rw [g0]; exact u0⟩ h5
theorem sg_so6_run (G : sx_G0 g L xs zK hd_T ex_mt) (hct : ∀ (mi : Nat) (T2 : ex_T) (c' : sx_Ct), ex_mt mi = some T2 → c' ∈ k9 mi → c'.1 < 0 → sx_Holds g zK hd_T T2 c') {σ : am_S} {lw : List (Nat × Value)} {post : Option (Option Value) → am_S → Prop} (hM : sx_M zK hd_T σ 0 0 σ) (hl : (0, Value.ref 118) ∈ lw) {m1 : Int32} (hl1 : (1, Value.int m1) ∈ lw) (bl1 : 62 ≤ m1.toInt ∧ m1.toInt ≤ 276) (cuta : ∀ (lw' : List (Nat × Value)) (m1' : Int32) (n0' : Int32) (n1' : Int32) (σ' : am_S), (0, Value.ref 118) ∈ lw' → (1, Value.int m1') ∈ lw' → (0 ≤ 1 * n0'.toInt + 0 ∧ 1 * n0'.toInt + 0 ≤ 0) → (0 ≤ 1 * m1.toInt + ((-1) * n1'.toInt + 0) ∧ 1 * m1.toInt + ((-1) * n1'.toInt + 0) ≤ 0) → (0 ≤ 1 * m1.toInt + ((-1) * m1'.toInt + 0) ∧ 1 * m1.toInt + ((-1) * m1'.toInt + 0) ≤ 0) → sx_M zK hd_T σ 0 0 σ' → am_K g 30 tX12_station.1 0 0 108 lw' [.int n0', .int n1', .ref 120] σ' post) : am_K g 30 tX12_station.1 0 0 80 lw [] σ post := by
  refine sg_seg (sw := []) (vs := [m1.toInt]) (ws := []) G (mi := 173) rfl hct sg_so6_ok ⟨⟨m1, hl1, rfl⟩, trivial⟩ (hd_refs hl) trivial (hd_p1 rfl bl1.1 bl1.2 hd_p0) hM ?_ ?_
  · intro r σ' hq
    cases r with
    | none => exact hq.elim
    | some v =>
      obtain ⟨p, hp, hM2, ks, hk, hv⟩ := hq
      cases hp
  · intro u hu
    simp only [List.mem_cons, List.not_mem_nil, or_false] at hu
    rcases hu with rfl
    · intro lw' sw' vs' ws' σ' ⟨h1_0, h2, h3_0, h4, h5⟩
      obtain ⟨m1', vs1, rfl, hm1, h1_1⟩ := hd_srcl h1_0
      obtain rfl := hd_src0 h1_1
      obtain ⟨n0', sw1, ws1, rfl, rfl, h3_1⟩ := hd_sti h3_0
      obtain ⟨n1', sw2, ws2, rfl, rfl, h3_2⟩ := hd_sti h3_1
      obtain ⟨sw3, rfl, h3_3⟩ := hd_str h3_2
      obtain ⟨rfl, rfl⟩ := hd_st0 h3_3
      have hr9 := hd_ref0 h2
      obtain ⟨v0, e0, l0, u0⟩ := h4 _ (List.mem_cons_self)
      have g0 : 1 * n0'.toInt + 0 = v0 := Option.some.inj e0
      obtain ⟨v1, e1, l1, u1⟩ := h4 _ (List.mem_cons_of_mem _ (List.mem_cons_self))
      have g1 : 1 * m1.toInt + ((-1) * n1'.toInt + 0) = v1 := Option.some.inj e1
      obtain ⟨v2, e2, l2, u2⟩ := h4 _ (List.mem_cons_of_mem _ (List.mem_cons_of_mem _ (List.mem_cons_self)))
      have g2 : 1 * m1.toInt + ((-1) * m1'.toInt + 0) = v2 := Option.some.inj e2
      exact cuta _ _ _ _ _ hr9 hm1 ⟨by rw [g0]; exact l0, by rw [g0]; exact u0⟩ ⟨by rw [g1]; exact l1, by rw [g1]; exact u1⟩ ⟨by rw [g2]; exact l2, by rw [g2]; exact u2⟩ h5
theorem sg_so7_run (G : sx_G0 g L xs zK hd_T ex_mt) (hct : ∀ (mi : Nat) (T2 : ex_T) (c' : sx_Ct), ex_mt mi = some T2 → c' ∈ k9 mi → c'.1 < 0 → sx_Holds g zK hd_T T2 c') {σ : am_S} {lw : List (Nat × Value)} {post : Option (Option Value) → am_S → Prop} (hM : sx_M zK hd_T σ 0 0 σ) (hl : (0, Value.ref 118) ∈ lw) {m1 : Int32} (hl1 : (1, Value.int m1) ∈ lw) (bl1 : 277 ≤ m1.toInt ∧ m1.toInt ≤ 277) (ret0 : ∀ (r : Int32) (σ' : am_S), (0 ≤ 1 * (σ.2.1 118 17).toInt + ((-1) * r.toInt + 0) ∧ 1 * (σ.2.1 118 17).toInt + ((-1) * r.toInt + 0) ≤ 0) → (0 ≤ 1 * (σ'.2.1 118 21).toInt + 0 ∧ 1 * (σ'.2.1 118 21).toInt + 0 ≤ 0) → sx_M zK hd_T σ 2462625387274654950767440006258975862817483704404090416746768337765357610718575663213391640930307227550414249394176 0 σ' → post (some (some (.int r))) σ') : am_K g 30 tX12_station.1 0 0 80 lw [] σ post := by
  refine sg_seg (sw := []) (vs := [m1.toInt, (σ.2.1 118 17).toInt]) (ws := []) G (mi := 173) rfl hct sg_so7_ok ⟨⟨m1, hl1, rfl⟩, ⟨rfl, trivial⟩⟩ (hd_refs hl) trivial (hd_p1 rfl bl1.1 bl1.2 (hd_p1 rfl (hd_kd_118_17 hM).1 (hd_kd_118_17 hM).2 hd_p0)) hM ?_ ?_
  · intro r σ' hq
    cases r with
    | none => exact hq.elim
    | some v =>
      obtain ⟨p, hp, hM2, ks, hk, hv⟩ := hq
      simp only [List.mem_cons, List.not_mem_nil, or_false] at hp
      rcases hp with rfl
      · obtain ⟨ks0, rfl, hk1⟩ := hd_keyc hk; obtain rfl := hd_keys hk1
        cases v with
        | none => exact hv.elim
        | some w9 =>
          obtain ⟨r, rfl, hP⟩ := hv
          obtain ⟨v0, e0, l0, u0⟩ := hP _ (List.mem_cons_self)
          have g0 : 1 * (σ.2.1 118 17).toInt + ((-1) * r.toInt + 0) = v0 := Option.some.inj e0
          obtain ⟨v1, e1, l1, u1⟩ := hP _ (List.mem_cons_of_mem _ (List.mem_cons_self))
          have g1 : 1 * (σ'.2.1 118 21).toInt + 0 = v1 := Option.some.inj e1
          exact ret0 r _ ⟨by rw [g0]; exact l0, by rw [g0]; exact u0⟩ ⟨by rw [g1]; exact l1, by rw [g1]; exact u1⟩ hM2
  · intro u hu
    cases hu
theorem sg_ba1_run (G : sx_G0 g L xs z9 hd_C ex_mt) (hct : ∀ (mi : Nat) (T2 : ex_T) (c' : sx_Ct), ex_mt mi = some T2 → c' ∈ k9 mi → c'.1 < 60 → sx_Holds g z9 hd_C T2 c') {σ : am_S} {lw : List (Nat × Value)} {post : Option (Option Value) → am_S → Prop} (hM : sx_M z9 hd_C σ 0 0 σ) (hl : (0, Value.ref 1) ∈ lw) {m1 : Int32} (hl1 : (1, Value.int m1) ∈ lw) (ret0 : ∀ (r : Int32) (σ' : am_S), (0 ≤ 1 * r.toInt + 0 ∧ 1 * r.toInt + 0 ≤ 0) → ((-2147483648) ≤ 1 * m1.toInt + 0 ∧ 1 * m1.toInt + 0 ≤ (-1)) → sx_M z9 hd_C σ 0 0 σ' → post (some (some (.int r))) σ') (ret1 : ∀ (r : Int32) (σ' : am_S), (0 ≤ 1 * r.toInt + 0 ∧ 1 * r.toInt + 0 ≤ 0) → (0 ≤ 1 * m1.toInt + ((-1) * (σ.2.1 1 1).toInt + 0) ∧ 1 * m1.toInt + ((-1) * (σ.2.1 1 1).toInt + 0) ≤ 4611686018427387904) → sx_M z9 hd_C σ 0 0 σ' → post (some (some (.int r))) σ') (cuta : ∀ (lw' : List (Nat × Value)) (n0' : Int32) (σ' : am_S), (0, Value.ref 1) ∈ lw' → (0 ≤ 1 * m1.toInt + ((-1) * n0'.toInt + 0) ∧ 1 * m1.toInt + ((-1) * n0'.toInt + 0) ≤ 0) → (0 ≤ 1 * m1.toInt + 0 ∧ 1 * m1.toInt + 0 ≤ 2147483647) → ((-4611686018427387904) ≤ 1 * m1.toInt + ((-1) * (σ.2.1 1 1).toInt + 0) ∧ 1 * m1.toInt + ((-1) * (σ.2.1 1 1).toInt + 0) ≤ (-1)) → sx_M z9 hd_C σ 0 0 σ' → am_K g 3 tX10_byteAt.1 0 0 26 lw' [.int n0', .ref 2] σ' post) : am_K g 3 tX10_byteAt.1 0 0 0 lw [] σ post := by
  refine sg_seg (sw := []) (vs := [m1.toInt, (σ.2.1 1 1).toInt]) (ws := []) G (mi := 16) rfl hct sg_ba1_ok ⟨⟨m1, hl1, rfl⟩, ⟨rfl, trivial⟩⟩ (hd_refs hl) trivial (hd_p1 rfl (Int32.le_toInt _) (Int32.toInt_le _) (hd_p1 rfl (hd_kd_1_1 hM).1 (hd_kd_1_1 hM).2 hd_p0)) hM ?_ ?_
  · intro r σ' hq
    cases r with
    | none => exact hq.elim
    | some v =>
      obtain ⟨p, hp, hM2, ks, hk, hv⟩ := hq
      simp only [List.mem_cons, List.not_mem_nil, or_false] at hp
      rcases hp with rfl | rfl
      · obtain rfl := hd_keys hk
        cases v with
        | none => exact hv.elim
        | some w9 =>
          obtain ⟨r, rfl, hP⟩ := hv
          obtain ⟨v0, e0, l0, u0⟩ := hP _ (List.mem_cons_self)
          have g0 : 1 * r.toInt + 0 = v0 := Option.some.inj e0
          obtain ⟨v1, e1, l1, u1⟩ := hP _ (List.mem_cons_of_mem _ (List.mem_cons_self))
          have g1 : 1 * m1.toInt + 0 = v1 := Option.some.inj e1
          exact ret0 r _ ⟨by rw [g0]; exact l0, by rw [g0]; exact u0⟩ ⟨by rw [g1]; exact l1, by rw [g1]; exact u1⟩ hM2
      · obtain rfl := hd_keys hk
        cases v with
        | none => exact hv.elim
        | some w9 =>
          obtain ⟨r, rfl, hP⟩ := hv
          obtain ⟨v0, e0, l0, u0⟩ := hP _ (List.mem_cons_self)
          have g0 : 1 * r.toInt + 0 = v0 := Option.some.inj e0
          obtain ⟨v1, e1, l1, u1⟩ := hP _ (List.mem_cons_of_mem _ (List.mem_cons_self))
          have g1 : 1 * m1.toInt + ((-1) * (σ.2.1 1 1).toInt + 0) = v1 := Option.some.inj e1
          exact ret1 r _ ⟨by rw [g0]; exact l0, by rw [g0]; exact u0⟩ ⟨by rw [g1]; exact l1, by rw [g1]; exact u1⟩ hM2
  · intro u hu
    simp only [List.mem_cons, List.not_mem_nil, or_false] at hu
    rcases hu with rfl
    · intro lw' sw' vs' ws' σ' ⟨h1_0, h2, h3_0, h4, h5⟩
      obtain rfl := hd_src0 h1_0
      obtain ⟨n0', sw1, ws1, rfl, rfl, h3_1⟩ := hd_sti h3_0
      obtain ⟨sw2, rfl, h3_2⟩ := hd_str h3_1
      obtain ⟨rfl, rfl⟩ := hd_st0 h3_2
      have hr9 := hd_ref0 h2
      obtain ⟨v0, e0, l0, u0⟩ := h4 _ (List.mem_cons_self)
      have g0 : 1 * m1.toInt + ((-1) * n0'.toInt + 0) = v0 := Option.some.inj e0
      obtain ⟨v1, e1, l1, u1⟩ := h4 _ (List.mem_cons_of_mem _ (List.mem_cons_self))
      have g1 : 1 * m1.toInt + 0 = v1 := Option.some.inj e1
      obtain ⟨v2, e2, l2, u2⟩ := h4 _ (List.mem_cons_of_mem _ (List.mem_cons_of_mem _ (List.mem_cons_self)))
      have g2 : 1 * m1.toInt + ((-1) * (σ.2.1 1 1).toInt + 0) = v2 := Option.some.inj e2
      exact cuta _ _ _ hr9  ⟨by rw [g0]; exact l0, by rw [g0]; exact u0⟩ ⟨by rw [g1]; exact l1, by rw [g1]; exact u1⟩ ⟨by rw [g2]; exact l2, by rw [g2]; exact u2⟩ h5
theorem sg_ba2_run (G : sx_G0 g L xs z9 hd_C ex_mt) (hct : ∀ (mi : Nat) (T2 : ex_T) (c' : sx_Ct), ex_mt mi = some T2 → c' ∈ k9 mi → c'.1 < 60 → sx_Holds g z9 hd_C T2 c') {σ : am_S} {lw : List (Nat × Value)} {post : Option (Option Value) → am_S → Prop} (hM : sx_M z9 hd_C σ 0 0 σ) (hl : (0, Value.ref 1) ∈ lw) {n0 : Int32} (cuta : ∀ (lw' : List (Nat × Value)) (n0' : Int32) (n1' : Int32) (σ' : am_S), (0, Value.ref 1) ∈ lw' → (255 ≤ 1 * n0'.toInt + 0 ∧ 1 * n0'.toInt + 0 ≤ 255) → (0 ≤ 1 * n0.toInt + ((-1) * n1'.toInt + 0) ∧ 1 * n0.toInt + ((-1) * n1'.toInt + 0) ≤ 0) → sx_M z9 hd_C σ 0 0 σ' → am_K g 3 tX10_byteAt.1 0 0 30 lw' [.int n0', .int n1'] σ' post) : am_K g 3 tX10_byteAt.1 0 0 27 lw [.int n0] σ post := by
  refine sg_seg (sw := [.int n0]) (vs := []) (ws := [n0.toInt]) G (mi := 16) rfl hct sg_ba2_ok trivial (hd_refs hl) ⟨⟨n0, rfl, rfl⟩, trivial⟩ (hd_p1 rfl (Int32.le_toInt _) (Int32.toInt_le _) hd_p0) hM ?_ ?_
  · intro r σ' hq
    cases r with
    | none => exact hq.elim
    | some v =>
      obtain ⟨p, hp, hM2, ks, hk, hv⟩ := hq
      cases hp
  · intro u hu
    simp only [List.mem_cons, List.not_mem_nil, or_false] at hu
    rcases hu with rfl
    · intro lw' sw' vs' ws' σ' ⟨h1_0, h2, h3_0, h4, h5⟩
      obtain rfl := hd_src0 h1_0
      obtain ⟨n0', sw1, ws1, rfl, rfl, h3_1⟩ := hd_sti h3_0
      obtain ⟨n1', sw2, ws2, rfl, rfl, h3_2⟩ := hd_sti h3_1
      obtain ⟨rfl, rfl⟩ := hd_st0 h3_2
      have hr9 := hd_ref0 h2
      obtain ⟨v0, e0, l0, u0⟩ := h4 _ (List.mem_cons_self)
      have g0 : 1 * n0'.toInt + 0 = v0 := Option.some.inj e0
      obtain ⟨v1, e1, l1, u1⟩ := h4 _ (List.mem_cons_of_mem _ (List.mem_cons_self))
      have g1 : 1 * n0.toInt + ((-1) * n1'.toInt + 0) = v1 := Option.some.inj e1
      exact cuta _ _ _ _ hr9  ⟨by rw [g0]; exact l0, by rw [g0]; exact u0⟩ ⟨by rw [g1]; exact l1, by rw [g1]; exact u1⟩ h5
theorem sg_ba3_run (G : sx_G0 g L xs z9 hd_C ex_mt) (hct : ∀ (mi : Nat) (T2 : ex_T) (c' : sx_Ct), ex_mt mi = some T2 → c' ∈ k9 mi → c'.1 < 60 → sx_Holds g z9 hd_C T2 c') {σ : am_S} {lw : List (Nat × Value)} {post : Option (Option Value) → am_S → Prop} (hM : sx_M z9 hd_C σ 0 0 σ) (hl : (0, Value.ref 1) ∈ lw) {n0 : Int32} (ret0 : ∀ (r : Int32) (σ' : am_S), (0 ≤ 1 * n0.toInt + ((-1) * r.toInt + 0) ∧ 1 * n0.toInt + ((-1) * r.toInt + 0) ≤ 0) → sx_M z9 hd_C σ 0 0 σ' → post (some (some (.int r))) σ') : am_K g 3 tX10_byteAt.1 0 0 31 lw [.int n0] σ post := by
  refine sg_seg (sw := [.int n0]) (vs := []) (ws := [n0.toInt]) G (mi := 16) rfl hct sg_ba3_ok trivial (hd_refs hl) ⟨⟨n0, rfl, rfl⟩, trivial⟩ (hd_p1 rfl (Int32.le_toInt _) (Int32.toInt_le _) hd_p0) hM ?_ ?_
  · intro r σ' hq
    cases r with
    | none => exact hq.elim
    | some v =>
      obtain ⟨p, hp, hM2, ks, hk, hv⟩ := hq
      simp only [List.mem_cons, List.not_mem_nil, or_false] at hp
      rcases hp with rfl
      · obtain rfl := hd_keys hk
        cases v with
        | none => exact hv.elim
        | some w9 =>
          obtain ⟨r, rfl, hP⟩ := hv
          obtain ⟨v0, e0, l0, u0⟩ := hP _ (List.mem_cons_self)
          have g0 : 1 * n0.toInt + ((-1) * r.toInt + 0) = v0 := Option.some.inj e0
          exact ret0 r _ ⟨by rw [g0]; exact l0, by rw [g0]; exact u0⟩ hM2
  · intro u hu
    cases hu
theorem sg_st1_run (G : sx_G0 g L xs z9 hd_C ex_mt) (hct : ∀ (mi : Nat) (T2 : ex_T) (c' : sx_Ct), ex_mt mi = some T2 → c' ∈ k9 mi → c'.1 < 60 → sx_Holds g z9 hd_C T2 c') {σ : am_S} {lw : List (Nat × Value)} {post : Option (Option Value) → am_S → Prop} (hM : sx_M z9 hd_C σ 0 0 σ) (hl : (0, Value.ref 3) ∈ lw)  (cuta : ∀ (lw' : List (Nat × Value))  (σ' : am_S), (0, Value.ref 3) ∈ lw' → (0 ≤ 1 * (σ.2.1 3 2).toInt + ((-1) * (σ'.2.1 3 4).toInt + 0) ∧ 1 * (σ.2.1 3 2).toInt + ((-1) * (σ'.2.1 3 4).toInt + 0) ≤ 0) → sx_M z9 hd_C σ 16777216 0 σ' → am_K g 10 tX6_step.1 0 0 8 lw' [] σ' post) : am_K g 10 tX6_step.1 0 0 0 lw [] σ post := by
  refine sg_seg (sw := []) (vs := [(σ.2.1 3 2).toInt]) (ws := []) G (mi := 250) rfl hct sg_st1_ok ⟨rfl, trivial⟩ (hd_refs hl) trivial (hd_p1 rfl (hd_kd_3_2 hM).1 (hd_kd_3_2 hM).2 hd_p0) hM ?_ ?_
  · intro r σ' hq
    cases r with
    | none => exact hq.elim
    | some v =>
      obtain ⟨p, hp, hM2, ks, hk, hv⟩ := hq
      cases hp
  · intro u hu
    simp only [List.mem_cons, List.not_mem_nil, or_false] at hu
    rcases hu with rfl
    · intro lw' sw' vs' ws' σ' ⟨h1_0, h2, h3_0, h4, h5⟩
      obtain ⟨vs1, rfl, h1_1⟩ := hd_srcs h1_0
      obtain rfl := hd_src0 h1_1
      obtain ⟨rfl, rfl⟩ := hd_st0 h3_0
      have hr9 := hd_ref0 h2
      obtain ⟨v0, e0, l0, u0⟩ := h4 _ (List.mem_cons_self)
      have g0 : 1 * (σ.2.1 3 2).toInt + ((-1) * (σ'.2.1 3 4).toInt + 0) = v0 := Option.some.inj e0
      exact cuta _  _ hr9  ⟨by rw [g0]; exact l0, by rw [g0]; exact u0⟩ h5
theorem sg_st2_run (G : sx_G0 g L xs z9 hd_C ex_mt) (hct : ∀ (mi : Nat) (T2 : ex_T) (c' : sx_Ct), ex_mt mi = some T2 → c' ∈ k9 mi → c'.1 < 60 → sx_Holds g z9 hd_C T2 c') {σ : am_S} {lw : List (Nat × Value)} {post : Option (Option Value) → am_S → Prop} (hM : sx_M z9 hd_C σ 0 0 σ) (hl : (0, Value.ref 3) ∈ lw)  (cuta : ∀ (lw' : List (Nat × Value)) (n0' : Int32) (σ' : am_S), (0, Value.ref 3) ∈ lw' → (0 ≤ 1 * (σ.2.1 3 4).toInt + ((-1) * n0'.toInt + 0) ∧ 1 * (σ.2.1 3 4).toInt + ((-1) * n0'.toInt + 0) ≤ 0) → ((-4611686018427387904) ≤ 1 * (σ.2.1 3 4).toInt + ((-1) * (σ.2.1 1 1).toInt + 0) ∧ 1 * (σ.2.1 3 4).toInt + ((-1) * (σ.2.1 1 1).toInt + 0) ≤ (-1)) → sx_M z9 hd_C σ 0 0 σ' → am_K g 10 tX6_step.1 0 0 30 lw' [.int n0', .ref 1] σ' post) (cutb : ∀ (lw' : List (Nat × Value))  (σ' : am_S), (0, Value.ref 3) ∈ lw' → (0 ≤ 1 * (σ.2.1 3 4).toInt + ((-1) * (σ.2.1 1 1).toInt + 0) ∧ 1 * (σ.2.1 3 4).toInt + ((-1) * (σ.2.1 1 1).toInt + 0) ≤ 4611686018427387904) → sx_M z9 hd_C σ 0 0 σ' → am_K g 10 tX6_step.1 0 0 52 lw' [] σ' post) : am_K g 10 tX6_step.1 0 0 8 lw [] σ post := by
  refine sg_seg (sw := []) (vs := [(σ.2.1 3 4).toInt, (σ.2.1 1 1).toInt]) (ws := []) G (mi := 250) rfl hct sg_st2_ok ⟨rfl, ⟨rfl, trivial⟩⟩ (hd_refs hl) trivial (hd_p1 rfl (hd_kd_3_4 hM).1 (hd_kd_3_4 hM).2 (hd_p1 rfl (hd_kd_1_1 hM).1 (hd_kd_1_1 hM).2 hd_p0)) hM ?_ ?_
  · intro r σ' hq
    cases r with
    | none => exact hq.elim
    | some v =>
      obtain ⟨p, hp, hM2, ks, hk, hv⟩ := hq
      cases hp
  · intro u hu
    simp only [List.mem_cons, List.not_mem_nil, or_false] at hu
    rcases hu with rfl | rfl
    · intro lw' sw' vs' ws' σ' ⟨h1_0, h2, h3_0, h4, h5⟩
      obtain rfl := hd_src0 h1_0
      obtain ⟨n0', sw1, ws1, rfl, rfl, h3_1⟩ := hd_sti h3_0
      obtain ⟨sw2, rfl, h3_2⟩ := hd_str h3_1
      obtain ⟨rfl, rfl⟩ := hd_st0 h3_2
      have hr9 := hd_ref0 h2
      obtain ⟨v0, e0, l0, u0⟩ := h4 _ (List.mem_cons_self)
      have g0 : 1 * (σ.2.1 3 4).toInt + ((-1) * n0'.toInt + 0) = v0 := Option.some.inj e0
      obtain ⟨v1, e1, l1, u1⟩ := h4 _ (List.mem_cons_of_mem _ (List.mem_cons_self))
      have g1 : 1 * (σ.2.1 3 4).toInt + ((-1) * (σ.2.1 1 1).toInt + 0) = v1 := Option.some.inj e1
      exact cuta _ _ _ hr9  ⟨by rw [g0]; exact l0, by rw [g0]; exact u0⟩ ⟨by rw [g1]; exact l1, by rw [g1]; exact u1⟩ h5
    · intro lw' sw' vs' ws' σ' ⟨h1_0, h2, h3_0, h4, h5⟩
      obtain rfl := hd_src0 h1_0
      obtain ⟨rfl, rfl⟩ := hd_st0 h3_0
      have hr9 := hd_ref0 h2
      obtain ⟨v0, e0, l0, u0⟩ := h4 _ (List.mem_cons_self)
      have g0 : 1 * (σ.2.1 3 4).toInt + ((-1) * (σ.2.1 1 1).toInt + 0) = v0 := Option.some.inj e0
      exact cutb _  _ hr9  ⟨by rw [g0]; exact l0, by rw [g0]; exact u0⟩ h5
theorem sg_st3a_run (G : sx_G0 g L xs z9 hd_C ex_mt) (hct : ∀ (mi : Nat) (T2 : ex_T) (c' : sx_Ct), ex_mt mi = some T2 → c' ∈ k9 mi → c'.1 < 60 → sx_Holds g z9 hd_C T2 c') {σ : am_S} {lw : List (Nat × Value)} {post : Option (Option Value) → am_S → Prop} (hM : sx_M z9 hd_C σ 0 0 σ) (hl : (0, Value.ref 3) ∈ lw) (bp3_4 : 0 ≤ (σ.2.1 3 4).toInt ∧ (σ.2.1 3 4).toInt ≤ 939) {n0 : Int32} (bk0 : 32 ≤ n0.toInt ∧ n0.toInt ≤ 32) (cuta : ∀ (lw' : List (Nat × Value))  (σ' : am_S), (0, Value.ref 3) ∈ lw' → ((-1) ≤ 1 * (σ.2.1 3 4).toInt + ((-1) * (σ'.2.1 3 4).toInt + 0) ∧ 1 * (σ.2.1 3 4).toInt + ((-1) * (σ'.2.1 3 4).toInt + 0) ≤ (-1)) → sx_M z9 hd_C σ 16777216 0 σ' → am_K g 10 tX6_step.1 0 0 8 lw' [] σ' post) : am_K g 10 tX6_step.1 0 0 33 lw [.int n0] σ post := by
  refine sg_seg (sw := [.int n0]) (vs := [(σ.2.1 3 4).toInt]) (ws := [n0.toInt]) G (mi := 250) rfl hct sg_st3a_ok ⟨rfl, trivial⟩ (hd_refs hl) ⟨⟨n0, rfl, rfl⟩, trivial⟩ (hd_p1 rfl bp3_4.1 bp3_4.2 (hd_p1 rfl bk0.1 bk0.2 hd_p0)) hM ?_ ?_
  · intro r σ' hq
    cases r with
    | none => exact hq.elim
    | some v =>
      obtain ⟨p, hp, hM2, ks, hk, hv⟩ := hq
      cases hp
  · intro u hu
    simp only [List.mem_cons, List.not_mem_nil, or_false] at hu
    rcases hu with rfl
    · intro lw' sw' vs' ws' σ' ⟨h1_0, h2, h3_0, h4, h5⟩
      obtain ⟨vs1, rfl, h1_1⟩ := hd_srcs h1_0
      obtain rfl := hd_src0 h1_1
      obtain ⟨rfl, rfl⟩ := hd_st0 h3_0
      have hr9 := hd_ref0 h2
      obtain ⟨v0, e0, l0, u0⟩ := h4 _ (List.mem_cons_self)
      have g0 : 1 * (σ.2.1 3 4).toInt + ((-1) * (σ'.2.1 3 4).toInt + 0) = v0 := Option.some.inj e0
      exact cuta _  _ hr9  ⟨by rw [g0]; exact l0, by rw [g0]; exact u0⟩ h5
theorem sg_st3b_run (G : sx_G0 g L xs z9 hd_C ex_mt) (hct : ∀ (mi : Nat) (T2 : ex_T) (c' : sx_Ct), ex_mt mi = some T2 → c' ∈ k9 mi → c'.1 < 60 → sx_Holds g z9 hd_C T2 c') {σ : am_S} {lw : List (Nat × Value)} {post : Option (Option Value) → am_S → Prop} (hM : sx_M z9 hd_C σ 0 0 σ) (hl : (0, Value.ref 3) ∈ lw) (bp3_4 : 0 ≤ (σ.2.1 3 4).toInt ∧ (σ.2.1 3 4).toInt ≤ 939) {n0 : Int32} (bk0 : 10 ≤ n0.toInt ∧ n0.toInt ≤ 10) (cuta : ∀ (lw' : List (Nat × Value))  (σ' : am_S), (0, Value.ref 3) ∈ lw' → ((-1) ≤ 1 * (σ.2.1 3 4).toInt + ((-1) * (σ'.2.1 3 4).toInt + 0) ∧ 1 * (σ.2.1 3 4).toInt + ((-1) * (σ'.2.1 3 4).toInt + 0) ≤ (-1)) → sx_M z9 hd_C σ 16777216 0 σ' → am_K g 10 tX6_step.1 0 0 8 lw' [] σ' post) : am_K g 10 tX6_step.1 0 0 33 lw [.int n0] σ post := by
  refine sg_seg (sw := [.int n0]) (vs := [(σ.2.1 3 4).toInt]) (ws := [n0.toInt]) G (mi := 250) rfl hct sg_st3b_ok ⟨rfl, trivial⟩ (hd_refs hl) ⟨⟨n0, rfl, rfl⟩, trivial⟩ (hd_p1 rfl bp3_4.1 bp3_4.2 (hd_p1 rfl bk0.1 bk0.2 hd_p0)) hM ?_ ?_
  · intro r σ' hq
    cases r with
    | none => exact hq.elim
    | some v =>
      obtain ⟨p, hp, hM2, ks, hk, hv⟩ := hq
      cases hp
  · intro u hu
    simp only [List.mem_cons, List.not_mem_nil, or_false] at hu
    rcases hu with rfl
    · intro lw' sw' vs' ws' σ' ⟨h1_0, h2, h3_0, h4, h5⟩
      obtain ⟨vs1, rfl, h1_1⟩ := hd_srcs h1_0
      obtain rfl := hd_src0 h1_1
      obtain ⟨rfl, rfl⟩ := hd_st0 h3_0
      have hr9 := hd_ref0 h2
      obtain ⟨v0, e0, l0, u0⟩ := h4 _ (List.mem_cons_self)
      have g0 : 1 * (σ.2.1 3 4).toInt + ((-1) * (σ'.2.1 3 4).toInt + 0) = v0 := Option.some.inj e0
      exact cuta _  _ hr9  ⟨by rw [g0]; exact l0, by rw [g0]; exact u0⟩ h5
theorem sg_st3c_run (G : sx_G0 g L xs z9 hd_C ex_mt) (hct : ∀ (mi : Nat) (T2 : ex_T) (c' : sx_Ct), ex_mt mi = some T2 → c' ∈ k9 mi → c'.1 < 60 → sx_Holds g z9 hd_C T2 c') {σ : am_S} {lw : List (Nat × Value)} {post : Option (Option Value) → am_S → Prop} (hM : sx_M z9 hd_C σ 0 0 σ) (hl : (0, Value.ref 3) ∈ lw) {n0 : Int32} (bk0 : 0 ≤ n0.toInt ∧ n0.toInt ≤ 9) (cuta : ∀ (lw' : List (Nat × Value))  (σ' : am_S), (0, Value.ref 3) ∈ lw' → sx_M z9 hd_C σ 0 0 σ' → am_K g 10 tX6_step.1 0 0 52 lw' [] σ' post) : am_K g 10 tX6_step.1 0 0 33 lw [.int n0] σ post := by
  refine sg_seg (sw := [.int n0]) (vs := []) (ws := [n0.toInt]) G (mi := 250) rfl hct sg_st3c_ok trivial (hd_refs hl) ⟨⟨n0, rfl, rfl⟩, trivial⟩ (hd_p1 rfl bk0.1 bk0.2 hd_p0) hM ?_ ?_
  · intro r σ' hq
    cases r with
    | none => exact hq.elim
    | some v =>
      obtain ⟨p, hp, hM2, ks, hk, hv⟩ := hq
      cases hp
  · intro u hu
    simp only [List.mem_cons, List.not_mem_nil, or_false] at hu
    rcases hu with rfl
    · intro lw' sw' vs' ws' σ' ⟨h1_0, h2, h3_0, h4, h5⟩
      obtain rfl := hd_src0 h1_0
      obtain ⟨rfl, rfl⟩ := hd_st0 h3_0
      have hr9 := hd_ref0 h2
      exact cuta _  _ hr9   h5
theorem sg_st3d_run (G : sx_G0 g L xs z9 hd_C ex_mt) (hct : ∀ (mi : Nat) (T2 : ex_T) (c' : sx_Ct), ex_mt mi = some T2 → c' ∈ k9 mi → c'.1 < 60 → sx_Holds g z9 hd_C T2 c') {σ : am_S} {lw : List (Nat × Value)} {post : Option (Option Value) → am_S → Prop} (hM : sx_M z9 hd_C σ 0 0 σ) (hl : (0, Value.ref 3) ∈ lw) {n0 : Int32} (bk0 : 11 ≤ n0.toInt ∧ n0.toInt ≤ 31) (cuta : ∀ (lw' : List (Nat × Value))  (σ' : am_S), (0, Value.ref 3) ∈ lw' → sx_M z9 hd_C σ 0 0 σ' → am_K g 10 tX6_step.1 0 0 52 lw' [] σ' post) : am_K g 10 tX6_step.1 0 0 33 lw [.int n0] σ post := by
  refine sg_seg (sw := [.int n0]) (vs := []) (ws := [n0.toInt]) G (mi := 250) rfl hct sg_st3d_ok trivial (hd_refs hl) ⟨⟨n0, rfl, rfl⟩, trivial⟩ (hd_p1 rfl bk0.1 bk0.2 hd_p0) hM ?_ ?_
  · intro r σ' hq
    cases r with
    | none => exact hq.elim
    | some v =>
      obtain ⟨p, hp, hM2, ks, hk, hv⟩ := hq
      cases hp
  · intro u hu
    simp only [List.mem_cons, List.not_mem_nil, or_false] at hu
    rcases hu with rfl
    · intro lw' sw' vs' ws' σ' ⟨h1_0, h2, h3_0, h4, h5⟩
      obtain rfl := hd_src0 h1_0
      obtain ⟨rfl, rfl⟩ := hd_st0 h3_0
      have hr9 := hd_ref0 h2
      exact cuta _  _ hr9   h5
theorem sg_st3e_run (G : sx_G0 g L xs z9 hd_C ex_mt) (hct : ∀ (mi : Nat) (T2 : ex_T) (c' : sx_Ct), ex_mt mi = some T2 → c' ∈ k9 mi → c'.1 < 60 → sx_Holds g z9 hd_C T2 c') {σ : am_S} {lw : List (Nat × Value)} {post : Option (Option Value) → am_S → Prop} (hM : sx_M z9 hd_C σ 0 0 σ) (hl : (0, Value.ref 3) ∈ lw) {n0 : Int32} (bk0 : 33 ≤ n0.toInt ∧ n0.toInt ≤ 255) (cuta : ∀ (lw' : List (Nat × Value))  (σ' : am_S), (0, Value.ref 3) ∈ lw' → sx_M z9 hd_C σ 0 0 σ' → am_K g 10 tX6_step.1 0 0 52 lw' [] σ' post) : am_K g 10 tX6_step.1 0 0 33 lw [.int n0] σ post := by
  refine sg_seg (sw := [.int n0]) (vs := []) (ws := [n0.toInt]) G (mi := 250) rfl hct sg_st3e_ok trivial (hd_refs hl) ⟨⟨n0, rfl, rfl⟩, trivial⟩ (hd_p1 rfl bk0.1 bk0.2 hd_p0) hM ?_ ?_
  · intro r σ' hq
    cases r with
    | none => exact hq.elim
    | some v =>
      obtain ⟨p, hp, hM2, ks, hk, hv⟩ := hq
      cases hp
  · intro u hu
    simp only [List.mem_cons, List.not_mem_nil, or_false] at hu
    rcases hu with rfl
    · intro lw' sw' vs' ws' σ' ⟨h1_0, h2, h3_0, h4, h5⟩
      obtain rfl := hd_src0 h1_0
      obtain ⟨rfl, rfl⟩ := hd_st0 h3_0
      have hr9 := hd_ref0 h2
      exact cuta _  _ hr9   h5
theorem sg_st4_run (G : sx_G0 g L xs z9 hd_C ex_mt) (hct : ∀ (mi : Nat) (T2 : ex_T) (c' : sx_Ct), ex_mt mi = some T2 → c' ∈ k9 mi → c'.1 < 60 → sx_Holds g z9 hd_C T2 c') {σ : am_S} {lw : List (Nat × Value)} {post : Option (Option Value) → am_S → Prop} (hM : sx_M z9 hd_C σ 0 0 σ) (hl : (0, Value.ref 3) ∈ lw)  (ret0 : ∀ (σ' : am_S), (0 ≤ 1 * (σ.2.1 3 4).toInt + ((-1) * (σ.2.1 3 1).toInt + 0) ∧ 1 * (σ.2.1 3 4).toInt + ((-1) * (σ.2.1 3 1).toInt + 0) ≤ 4611686018427387904) → (1 ≤ 1 * (σ.2.1 1 1).toInt + ((-1) * (σ.2.1 3 1).toInt + 0) ∧ 1 * (σ.2.1 1 1).toInt + ((-1) * (σ.2.1 3 1).toInt + 0) ≤ 4611686018427387904) → (1 ≤ 1 * (σ'.2.1 3 3).toInt + 0 ∧ 1 * (σ'.2.1 3 3).toInt + 0 ≤ 1) → (0 ≤ 1 * (σ.2.1 3 1).toInt + ((-1) * (σ'.2.1 3 4).toInt + 0) ∧ 1 * (σ.2.1 3 1).toInt + ((-1) * (σ'.2.1 3 4).toInt + 0) ≤ 0) → (0 ≤ 1 * (σ'.2.1 3 5).toInt + 0 ∧ 1 * (σ'.2.1 3 5).toInt + 0 ≤ 0) → sx_M z9 hd_C σ 58720256 0 σ' → post (some none) σ') (ret1 : ∀ (σ' : am_S), ((-4611686018427387904) ≤ 1 * (σ.2.1 3 4).toInt + ((-1) * (σ.2.1 3 1).toInt + 0) ∧ 1 * (σ.2.1 3 4).toInt + ((-1) * (σ.2.1 3 1).toInt + 0) ≤ (-1)) → (0 ≤ 1 * (σ.2.1 3 4).toInt + ((-1) * (σ.2.1 1 1).toInt + 0) ∧ 1 * (σ.2.1 3 4).toInt + ((-1) * (σ.2.1 1 1).toInt + 0) ≤ 4611686018427387904) → (0 ≤ 1 * (σ'.2.1 3 3).toInt + 0 ∧ 1 * (σ'.2.1 3 3).toInt + 0 ≤ 0) → (0 ≤ 1 * (σ'.2.1 3 5).toInt + 0 ∧ 1 * (σ'.2.1 3 5).toInt + 0 ≤ 0) → sx_M z9 hd_C σ 41943040 0 σ' → post (some none) σ') (ret2 : ∀ (σ' : am_S), ((-4611686018427387904) ≤ 1 * (σ.2.1 1 1).toInt + ((-1) * (σ.2.1 3 1).toInt + 0) ∧ 1 * (σ.2.1 1 1).toInt + ((-1) * (σ.2.1 3 1).toInt + 0) ≤ 0) → (0 ≤ 1 * (σ.2.1 3 4).toInt + ((-1) * (σ.2.1 1 1).toInt + 0) ∧ 1 * (σ.2.1 3 4).toInt + ((-1) * (σ.2.1 1 1).toInt + 0) ≤ 4611686018427387904) → (0 ≤ 1 * (σ'.2.1 3 3).toInt + 0 ∧ 1 * (σ'.2.1 3 3).toInt + 0 ≤ 0) → (0 ≤ 1 * (σ'.2.1 3 5).toInt + 0 ∧ 1 * (σ'.2.1 3 5).toInt + 0 ≤ 0) → sx_M z9 hd_C σ 41943040 0 σ' → post (some none) σ') (cuta : ∀ (lw' : List (Nat × Value)) (n0' : Int32) (σ' : am_S), (0, Value.ref 3) ∈ lw' → (0 ≤ 1 * (σ.2.1 3 4).toInt + ((-1) * n0'.toInt + 0) ∧ 1 * (σ.2.1 3 4).toInt + ((-1) * n0'.toInt + 0) ≤ 0) → (0 ≤ 1 * (σ'.2.1 3 5).toInt + 0 ∧ 1 * (σ'.2.1 3 5).toInt + 0 ≤ 0) → ((-4611686018427387904) ≤ 1 * (σ.2.1 3 4).toInt + ((-1) * (σ.2.1 1 1).toInt + 0) ∧ 1 * (σ.2.1 3 4).toInt + ((-1) * (σ.2.1 1 1).toInt + 0) ≤ (-1)) → ((-4611686018427387904) ≤ 1 * (σ.2.1 3 4).toInt + ((-1) * (σ.2.1 3 1).toInt + 0) ∧ 1 * (σ.2.1 3 4).toInt + ((-1) * (σ.2.1 3 1).toInt + 0) ≤ (-1)) → sx_M z9 hd_C σ 33554432 0 σ' → am_K g 10 tX6_step.1 0 0 128 lw' [.int n0', .ref 1] σ' post) (cutb : ∀ (lw' : List (Nat × Value)) (n0' : Int32) (σ' : am_S), (0, Value.ref 3) ∈ lw' → (0 ≤ 1 * (σ.2.1 3 4).toInt + ((-1) * n0'.toInt + 0) ∧ 1 * (σ.2.1 3 4).toInt + ((-1) * n0'.toInt + 0) ≤ 0) → (0 ≤ 1 * (σ'.2.1 3 5).toInt + 0 ∧ 1 * (σ'.2.1 3 5).toInt + 0 ≤ 0) → ((-4611686018427387904) ≤ 1 * (σ.2.1 3 4).toInt + ((-1) * (σ.2.1 1 1).toInt + 0) ∧ 1 * (σ.2.1 3 4).toInt + ((-1) * (σ.2.1 1 1).toInt + 0) ≤ (-1)) → ((-4611686018427387904) ≤ 1 * (σ.2.1 1 1).toInt + ((-1) * (σ.2.1 3 1).toInt + 0) ∧ 1 * (σ.2.1 1 1).toInt + ((-1) * (σ.2.1 3 1).toInt + 0) ≤ 0) → sx_M z9 hd_C σ 0 0 σ' → am_K g 10 tX6_step.1 0 0 128 lw' [.int n0', .ref 1] σ' post) : am_K g 10 tX6_step.1 0 0 52 lw [] σ post := by
  refine sg_seg (sw := []) (vs := [(σ.2.1 3 4).toInt, (σ.2.1 1 1).toInt, (σ.2.1 3 1).toInt]) (ws := []) G (mi := 250) rfl hct sg_st4_ok ⟨rfl, ⟨rfl, ⟨rfl, trivial⟩⟩⟩ (hd_refs hl) trivial (hd_p1 rfl (hd_kd_3_4 hM).1 (hd_kd_3_4 hM).2 (hd_p1 rfl (hd_kd_1_1 hM).1 (hd_kd_1_1 hM).2 (hd_p1 rfl (hd_kd_3_1 hM).1 (hd_kd_3_1 hM).2 hd_p0))) hM ?_ ?_
  · intro r σ' hq
    cases r with
    | none => exact hq.elim
    | some v =>
      obtain ⟨p, hp, hM2, ks, hk, hv⟩ := hq
      simp only [List.mem_cons, List.not_mem_nil, or_false] at hp
      rcases hp with rfl | rfl | rfl
      · obtain ⟨ks0, rfl, hk1⟩ := hd_keyc hk; obtain ⟨ks1, rfl, hk2⟩ := hd_keyc hk1; obtain ⟨ks2, rfl, hk3⟩ := hd_keyc hk2; obtain rfl := hd_keys hk3
        cases v with
        | some w9 => exact hv.elim
        | none =>
          have hP := hv
          obtain ⟨v0, e0, l0, u0⟩ := hP _ (List.mem_cons_self)
          have g0 : 1 * (σ.2.1 3 4).toInt + ((-1) * (σ.2.1 3 1).toInt + 0) = v0 := Option.some.inj e0
          obtain ⟨v1, e1, l1, u1⟩ := hP _ (List.mem_cons_of_mem _ (List.mem_cons_self))
          have g1 : 1 * (σ.2.1 1 1).toInt + ((-1) * (σ.2.1 3 1).toInt + 0) = v1 := Option.some.inj e1
          obtain ⟨v2, e2, l2, u2⟩ := hP _ (List.mem_cons_of_mem _ (List.mem_cons_of_mem _ (List.mem_cons_self)))
          have g2 : 1 * (σ'.2.1 3 3).toInt + 0 = v2 := Option.some.inj e2
          obtain ⟨v3, e3, l3, u3⟩ := hP _ (List.mem_cons_of_mem _ (List.mem_cons_of_mem _ (List.mem_cons_of_mem _ (List.mem_cons_self))))
          have g3 : 1 * (σ.2.1 3 1).toInt + ((-1) * (σ'.2.1 3 4).toInt + 0) = v3 := Option.some.inj e3
          obtain ⟨v4, e4, l4, u4⟩ := hP _ (List.mem_cons_of_mem _ (List.mem_cons_of_mem _ (List.mem_cons_of_mem _ (List.mem_cons_of_mem _ (List.mem_cons_self)))))
          have g4 : 1 * (σ'.2.1 3 5).toInt + 0 = v4 := Option.some.inj e4
          exact ret0 _ ⟨by rw [g0]; exact l0, by rw [g0]; exact u0⟩ ⟨by rw [g1]; exact l1, by rw [g1]; exact u1⟩ ⟨by rw [g2]; exact l2, by rw [g2]; exact u2⟩ ⟨by rw [g3]; exact l3, by rw [g3]; exact u3⟩ ⟨by rw [g4]; exact l4, by rw [g4]; exact u4⟩ hM2
      · obtain ⟨ks0, rfl, hk1⟩ := hd_keyc hk; obtain ⟨ks1, rfl, hk2⟩ := hd_keyc hk1; obtain rfl := hd_keys hk2
        cases v with
        | some w9 => exact hv.elim
        | none =>
          have hP := hv
          obtain ⟨v0, e0, l0, u0⟩ := hP _ (List.mem_cons_self)
          have g0 : 1 * (σ.2.1 3 4).toInt + ((-1) * (σ.2.1 3 1).toInt + 0) = v0 := Option.some.inj e0
          obtain ⟨v1, e1, l1, u1⟩ := hP _ (List.mem_cons_of_mem _ (List.mem_cons_self))
          have g1 : 1 * (σ.2.1 3 4).toInt + ((-1) * (σ.2.1 1 1).toInt + 0) = v1 := Option.some.inj e1
          obtain ⟨v2, e2, l2, u2⟩ := hP _ (List.mem_cons_of_mem _ (List.mem_cons_of_mem _ (List.mem_cons_self)))
          have g2 : 1 * (σ'.2.1 3 3).toInt + 0 = v2 := Option.some.inj e2
          obtain ⟨v3, e3, l3, u3⟩ := hP _ (List.mem_cons_of_mem _ (List.mem_cons_of_mem _ (List.mem_cons_of_mem _ (List.mem_cons_self))))
          have g3 : 1 * (σ'.2.1 3 5).toInt + 0 = v3 := Option.some.inj e3
          exact ret1 _ ⟨by rw [g0]; exact l0, by rw [g0]; exact u0⟩ ⟨by rw [g1]; exact l1, by rw [g1]; exact u1⟩ ⟨by rw [g2]; exact l2, by rw [g2]; exact u2⟩ ⟨by rw [g3]; exact l3, by rw [g3]; exact u3⟩ hM2
      · obtain ⟨ks0, rfl, hk1⟩ := hd_keyc hk; obtain ⟨ks1, rfl, hk2⟩ := hd_keyc hk1; obtain rfl := hd_keys hk2
        cases v with
        | some w9 => exact hv.elim
        | none =>
          have hP := hv
          obtain ⟨v0, e0, l0, u0⟩ := hP _ (List.mem_cons_self)
          have g0 : 1 * (σ.2.1 1 1).toInt + ((-1) * (σ.2.1 3 1).toInt + 0) = v0 := Option.some.inj e0
          obtain ⟨v1, e1, l1, u1⟩ := hP _ (List.mem_cons_of_mem _ (List.mem_cons_self))
          have g1 : 1 * (σ.2.1 3 4).toInt + ((-1) * (σ.2.1 1 1).toInt + 0) = v1 := Option.some.inj e1
          obtain ⟨v2, e2, l2, u2⟩ := hP _ (List.mem_cons_of_mem _ (List.mem_cons_of_mem _ (List.mem_cons_self)))
          have g2 : 1 * (σ'.2.1 3 3).toInt + 0 = v2 := Option.some.inj e2
          obtain ⟨v3, e3, l3, u3⟩ := hP _ (List.mem_cons_of_mem _ (List.mem_cons_of_mem _ (List.mem_cons_of_mem _ (List.mem_cons_self))))
          have g3 : 1 * (σ'.2.1 3 5).toInt + 0 = v3 := Option.some.inj e3
          exact ret2 _ ⟨by rw [g0]; exact l0, by rw [g0]; exact u0⟩ ⟨by rw [g1]; exact l1, by rw [g1]; exact u1⟩ ⟨by rw [g2]; exact l2, by rw [g2]; exact u2⟩ ⟨by rw [g3]; exact l3, by rw [g3]; exact u3⟩ hM2
  · intro u hu
    simp only [List.mem_cons, List.not_mem_nil, or_false] at hu
    rcases hu with rfl | rfl
    · intro lw' sw' vs' ws' σ' ⟨h1_0, h2, h3_0, h4, h5⟩
      obtain ⟨vs1, rfl, h1_1⟩ := hd_srcs h1_0
      obtain rfl := hd_src0 h1_1
      obtain ⟨n0', sw1, ws1, rfl, rfl, h3_1⟩ := hd_sti h3_0
      obtain ⟨sw2, rfl, h3_2⟩ := hd_str h3_1
      obtain ⟨rfl, rfl⟩ := hd_st0 h3_2
      have hr9 := hd_ref0 h2
      obtain ⟨v0, e0, l0, u0⟩ := h4 _ (List.mem_cons_self)
      have g0 : 1 * (σ.2.1 3 4).toInt + ((-1) * n0'.toInt + 0) = v0 := Option.some.inj e0
      obtain ⟨v1, e1, l1, u1⟩ := h4 _ (List.mem_cons_of_mem _ (List.mem_cons_self))
      have g1 : 1 * (σ'.2.1 3 5).toInt + 0 = v1 := Option.some.inj e1
      obtain ⟨v2, e2, l2, u2⟩ := h4 _ (List.mem_cons_of_mem _ (List.mem_cons_of_mem _ (List.mem_cons_self)))
      have g2 : 1 * (σ.2.1 3 4).toInt + ((-1) * (σ.2.1 1 1).toInt + 0) = v2 := Option.some.inj e2
      obtain ⟨v3, e3, l3, u3⟩ := h4 _ (List.mem_cons_of_mem _ (List.mem_cons_of_mem _ (List.mem_cons_of_mem _ (List.mem_cons_self))))
      have g3 : 1 * (σ.2.1 3 4).toInt + ((-1) * (σ.2.1 3 1).toInt + 0) = v3 := Option.some.inj e3
      exact cuta _ _ _ hr9  ⟨by rw [g0]; exact l0, by rw [g0]; exact u0⟩ ⟨by rw [g1]; exact l1, by rw [g1]; exact u1⟩ ⟨by rw [g2]; exact l2, by rw [g2]; exact u2⟩ ⟨by rw [g3]; exact l3, by rw [g3]; exact u3⟩ h5
    · intro lw' sw' vs' ws' σ' ⟨h1_0, h2, h3_0, h4, h5⟩
      obtain ⟨vs1, rfl, h1_1⟩ := hd_srcs h1_0
      obtain rfl := hd_src0 h1_1
      obtain ⟨n0', sw1, ws1, rfl, rfl, h3_1⟩ := hd_sti h3_0
      obtain ⟨sw2, rfl, h3_2⟩ := hd_str h3_1
      obtain ⟨rfl, rfl⟩ := hd_st0 h3_2
      have hr9 := hd_ref0 h2
      obtain ⟨v0, e0, l0, u0⟩ := h4 _ (List.mem_cons_self)
      have g0 : 1 * (σ.2.1 3 4).toInt + ((-1) * n0'.toInt + 0) = v0 := Option.some.inj e0
      obtain ⟨v1, e1, l1, u1⟩ := h4 _ (List.mem_cons_of_mem _ (List.mem_cons_self))
      have g1 : 1 * (σ'.2.1 3 5).toInt + 0 = v1 := Option.some.inj e1
      obtain ⟨v2, e2, l2, u2⟩ := h4 _ (List.mem_cons_of_mem _ (List.mem_cons_of_mem _ (List.mem_cons_self)))
      have g2 : 1 * (σ.2.1 3 4).toInt + ((-1) * (σ.2.1 1 1).toInt + 0) = v2 := Option.some.inj e2
      obtain ⟨v3, e3, l3, u3⟩ := h4 _ (List.mem_cons_of_mem _ (List.mem_cons_of_mem _ (List.mem_cons_of_mem _ (List.mem_cons_self))))
      have g3 : 1 * (σ.2.1 1 1).toInt + ((-1) * (σ.2.1 3 1).toInt + 0) = v3 := Option.some.inj e3
      exact cutb _ _ _ hr9  ⟨by rw [g0]; exact l0, by rw [g0]; exact u0⟩ ⟨by rw [g1]; exact l1, by rw [g1]; exact u1⟩ ⟨by rw [g2]; exact l2, by rw [g2]; exact u2⟩ ⟨by rw [g3]; exact l3, by rw [g3]; exact u3⟩ h5
theorem sg_st5_run (G : sx_G0 g L xs z9 hd_C ex_mt) (hct : ∀ (mi : Nat) (T2 : ex_T) (c' : sx_Ct), ex_mt mi = some T2 → c' ∈ k9 mi → c'.1 < 60 → sx_Holds g z9 hd_C T2 c') {σ : am_S} {lw : List (Nat × Value)} {post : Option (Option Value) → am_S → Prop} (hM : sx_M z9 hd_C σ 0 0 σ) (hl : (0, Value.ref 3) ∈ lw) {n0 : Int32} (bk0 : 0 ≤ n0.toInt ∧ n0.toInt ≤ 255) (cuta : ∀ (lw' : List (Nat × Value))  (σ' : am_S), (0, Value.ref 3) ∈ lw' → (97 ≤ 1 * n0.toInt + 0 ∧ 1 * n0.toInt + 0 ≤ 122) → sx_M z9 hd_C σ 0 0 σ' → am_K g 10 tX6_step.1 0 0 155 lw' [.ref 3] σ' post) (cutb : ∀ (lw' : List (Nat × Value)) (n0' : Int32) (σ' : am_S), (0, Value.ref 3) ∈ lw' → (0 ≤ 1 * (σ.2.1 3 4).toInt + ((-1) * n0'.toInt + 0) ∧ 1 * (σ.2.1 3 4).toInt + ((-1) * n0'.toInt + 0) ≤ 0) → (0 ≤ 1 * n0.toInt + 0 ∧ 1 * n0.toInt + 0 ≤ 96) → sx_M z9 hd_C σ 0 0 σ' → am_K g 10 tX6_step.1 0 0 145 lw' [.int n0', .ref 1] σ' post) (cutc : ∀ (lw' : List (Nat × Value)) (n0' : Int32) (σ' : am_S), (0, Value.ref 3) ∈ lw' → (0 ≤ 1 * (σ.2.1 3 4).toInt + ((-1) * n0'.toInt + 0) ∧ 1 * (σ.2.1 3 4).toInt + ((-1) * n0'.toInt + 0) ≤ 0) → (123 ≤ 1 * n0.toInt + 0 ∧ 1 * n0.toInt + 0 ≤ 255) → sx_M z9 hd_C σ 0 0 σ' → am_K g 10 tX6_step.1 0 0 145 lw' [.int n0', .ref 1] σ' post) : am_K g 10 tX6_step.1 0 0 131 lw [.int n0] σ post := by
  refine sg_seg (sw := [.int n0]) (vs := [(σ.2.1 3 4).toInt]) (ws := [n0.toInt]) G (mi := 250) rfl hct sg_st5_ok ⟨rfl, trivial⟩ (hd_refs hl) ⟨⟨n0, rfl, rfl⟩, trivial⟩ (hd_p1 rfl (hd_kd_3_4 hM).1 (hd_kd_3_4 hM).2 (hd_p1 rfl bk0.1 bk0.2 hd_p0)) hM ?_ ?_
  · intro r σ' hq
    cases r with
    | none => exact hq.elim
    | some v =>
      obtain ⟨p, hp, hM2, ks, hk, hv⟩ := hq
      cases hp
  · intro u hu
    simp only [List.mem_cons, List.not_mem_nil, or_false] at hu
    rcases hu with rfl | rfl | rfl
    · intro lw' sw' vs' ws' σ' ⟨h1_0, h2, h3_0, h4, h5⟩
      obtain rfl := hd_src0 h1_0
      obtain ⟨sw1, rfl, h3_1⟩ := hd_str h3_0
      obtain ⟨rfl, rfl⟩ := hd_st0 h3_1
      have hr9 := hd_ref0 h2
      obtain ⟨v0, e0, l0, u0⟩ := h4 _ (List.mem_cons_self)
      have g0 : 1 * n0.toInt + 0 = v0 := Option.some.inj e0
      exact cuta _  _ hr9  ⟨by rw [g0]; exact l0, by rw [g0]; exact u0⟩ h5
    · intro lw' sw' vs' ws' σ' ⟨h1_0, h2, h3_0, h4, h5⟩
      obtain rfl := hd_src0 h1_0
      obtain ⟨n0', sw1, ws1, rfl, rfl, h3_1⟩ := hd_sti h3_0
      obtain ⟨sw2, rfl, h3_2⟩ := hd_str h3_1
      obtain ⟨rfl, rfl⟩ := hd_st0 h3_2
      have hr9 := hd_ref0 h2
      obtain ⟨v0, e0, l0, u0⟩ := h4 _ (List.mem_cons_self)
      have g0 : 1 * (σ.2.1 3 4).toInt + ((-1) * n0'.toInt + 0) = v0 := Option.some.inj e0
      obtain ⟨v1, e1, l1, u1⟩ := h4 _ (List.mem_cons_of_mem _ (List.mem_cons_self))
      have g1 : 1 * n0.toInt + 0 = v1 := Option.some.inj e1
      exact cutb _ _ _ hr9  ⟨by rw [g0]; exact l0, by rw [g0]; exact u0⟩ ⟨by rw [g1]; exact l1, by rw [g1]; exact u1⟩ h5
    · intro lw' sw' vs' ws' σ' ⟨h1_0, h2, h3_0, h4, h5⟩
      obtain rfl := hd_src0 h1_0
      obtain ⟨n0', sw1, ws1, rfl, rfl, h3_1⟩ := hd_sti h3_0
      obtain ⟨sw2, rfl, h3_2⟩ := hd_str h3_1
      obtain ⟨rfl, rfl⟩ := hd_st0 h3_2
      have hr9 := hd_ref0 h2
      obtain ⟨v0, e0, l0, u0⟩ := h4 _ (List.mem_cons_self)
      have g0 : 1 * (σ.2.1 3 4).toInt + ((-1) * n0'.toInt + 0) = v0 := Option.some.inj e0
      obtain ⟨v1, e1, l1, u1⟩ := h4 _ (List.mem_cons_of_mem _ (List.mem_cons_self))
      have g1 : 1 * n0.toInt + 0 = v1 := Option.some.inj e1
      exact cutc _ _ _ hr9  ⟨by rw [g0]; exact l0, by rw [g0]; exact u0⟩ ⟨by rw [g1]; exact l1, by rw [g1]; exact u1⟩ h5
theorem sg_st6_run (G : sx_G0 g L xs z9 hd_C ex_mt) (hct : ∀ (mi : Nat) (T2 : ex_T) (c' : sx_Ct), ex_mt mi = some T2 → c' ∈ k9 mi → c'.1 < 60 → sx_Holds g z9 hd_C T2 c') {σ : am_S} {lw : List (Nat × Value)} {post : Option (Option Value) → am_S → Prop} (hM : sx_M z9 hd_C σ 0 0 σ) (hl : (0, Value.ref 3) ∈ lw) {n0 : Int32} (bk0 : 0 ≤ n0.toInt ∧ n0.toInt ≤ 255) (cuta : ∀ (lw' : List (Nat × Value))  (σ' : am_S), (0, Value.ref 3) ∈ lw' → (48 ≤ 1 * n0.toInt + 0 ∧ 1 * n0.toInt + 0 ≤ 57) → sx_M z9 hd_C σ 0 0 σ' → am_K g 10 tX6_step.1 0 0 155 lw' [.ref 3] σ' post) (cutb : ∀ (lw' : List (Nat × Value)) (n0' : Int32) (σ' : am_S), (0, Value.ref 3) ∈ lw' → (0 ≤ 1 * (σ.2.1 3 4).toInt + ((-1) * n0'.toInt + 0) ∧ 1 * (σ.2.1 3 4).toInt + ((-1) * n0'.toInt + 0) ≤ 0) → (0 ≤ 1 * n0.toInt + 0 ∧ 1 * n0.toInt + 0 ≤ 47) → sx_M z9 hd_C σ 0 0 σ' → am_K g 10 tX6_step.1 0 0 170 lw' [.int n0', .ref 1, .ref 3] σ' post) (cutc : ∀ (lw' : List (Nat × Value)) (n0' : Int32) (σ' : am_S), (0, Value.ref 3) ∈ lw' → (0 ≤ 1 * (σ.2.1 3 4).toInt + ((-1) * n0'.toInt + 0) ∧ 1 * (σ.2.1 3 4).toInt + ((-1) * n0'.toInt + 0) ≤ 0) → (58 ≤ 1 * n0.toInt + 0 ∧ 1 * n0.toInt + 0 ≤ 255) → sx_M z9 hd_C σ 0 0 σ' → am_K g 10 tX6_step.1 0 0 170 lw' [.int n0', .ref 1, .ref 3] σ' post) : am_K g 10 tX6_step.1 0 0 148 lw [.int n0] σ post := by
  refine sg_seg (sw := [.int n0]) (vs := [(σ.2.1 3 4).toInt]) (ws := [n0.toInt]) G (mi := 250) rfl hct sg_st6_ok ⟨rfl, trivial⟩ (hd_refs hl) ⟨⟨n0, rfl, rfl⟩, trivial⟩ (hd_p1 rfl (hd_kd_3_4 hM).1 (hd_kd_3_4 hM).2 (hd_p1 rfl bk0.1 bk0.2 hd_p0)) hM ?_ ?_
  · intro r σ' hq
    cases r with
    | none => exact hq.elim
    | some v =>
      obtain ⟨p, hp, hM2, ks, hk, hv⟩ := hq
      cases hp
  · intro u hu
    simp only [List.mem_cons, List.not_mem_nil, or_false] at hu
    rcases hu with rfl | rfl | rfl
    · intro lw' sw' vs' ws' σ' ⟨h1_0, h2, h3_0, h4, h5⟩
      obtain rfl := hd_src0 h1_0
      obtain ⟨sw1, rfl, h3_1⟩ := hd_str h3_0
      obtain ⟨rfl, rfl⟩ := hd_st0 h3_1
      have hr9 := hd_ref0 h2
      obtain ⟨v0, e0, l0, u0⟩ := h4 _ (List.mem_cons_self)
      have g0 : 1 * n0.toInt + 0 = v0 := Option.some.inj e0
      exact cuta _  _ hr9  ⟨by rw [g0]; exact l0, by rw [g0]; exact u0⟩ h5
    · intro lw' sw' vs' ws' σ' ⟨h1_0, h2, h3_0, h4, h5⟩
      obtain rfl := hd_src0 h1_0
      obtain ⟨n0', sw1, ws1, rfl, rfl, h3_1⟩ := hd_sti h3_0
      obtain ⟨sw2, rfl, h3_2⟩ := hd_str h3_1
      obtain ⟨sw3, rfl, h3_3⟩ := hd_str h3_2
      obtain ⟨rfl, rfl⟩ := hd_st0 h3_3
      have hr9 := hd_ref0 h2
      obtain ⟨v0, e0, l0, u0⟩ := h4 _ (List.mem_cons_self)
      have g0 : 1 * (σ.2.1 3 4).toInt + ((-1) * n0'.toInt + 0) = v0 := Option.some.inj e0
      obtain ⟨v1, e1, l1, u1⟩ := h4 _ (List.mem_cons_of_mem _ (List.mem_cons_self))
      have g1 : 1 * n0.toInt + 0 = v1 := Option.some.inj e1
      exact cutb _ _ _ hr9  ⟨by rw [g0]; exact l0, by rw [g0]; exact u0⟩ ⟨by rw [g1]; exact l1, by rw [g1]; exact u1⟩ h5
    · intro lw' sw' vs' ws' σ' ⟨h1_0, h2, h3_0, h4, h5⟩
      obtain rfl := hd_src0 h1_0
      obtain ⟨n0', sw1, ws1, rfl, rfl, h3_1⟩ := hd_sti h3_0
      obtain ⟨sw2, rfl, h3_2⟩ := hd_str h3_1
      obtain ⟨sw3, rfl, h3_3⟩ := hd_str h3_2
      obtain ⟨rfl, rfl⟩ := hd_st0 h3_3
      have hr9 := hd_ref0 h2
      obtain ⟨v0, e0, l0, u0⟩ := h4 _ (List.mem_cons_self)
      have g0 : 1 * (σ.2.1 3 4).toInt + ((-1) * n0'.toInt + 0) = v0 := Option.some.inj e0
      obtain ⟨v1, e1, l1, u1⟩ := h4 _ (List.mem_cons_of_mem _ (List.mem_cons_self))
      have g1 : 1 * n0.toInt + 0 = v1 := Option.some.inj e1
      exact cutc _ _ _ hr9  ⟨by rw [g0]; exact l0, by rw [g0]; exact u0⟩ ⟨by rw [g1]; exact l1, by rw [g1]; exact u1⟩ h5
theorem sg_st7a_run (G : sx_G0 g L xs z9 hd_C ex_mt) (hct : ∀ (mi : Nat) (T2 : ex_T) (c' : sx_Ct), ex_mt mi = some T2 → c' ∈ k9 mi → c'.1 < 60 → sx_Holds g z9 hd_C T2 c') {σ : am_S} {lw : List (Nat × Value)} {post : Option (Option Value) → am_S → Prop} (hM : sx_M z9 hd_C σ 0 0 σ) (hl : (0, Value.ref 3) ∈ lw) (bp3_4 : 0 ≤ (σ.2.1 3 4).toInt ∧ (σ.2.1 3 4).toInt ≤ 939) {n0 : Int32} (bk0 : 0 ≤ n0.toInt ∧ n0.toInt ≤ 39) (ret0 : ∀ (σ' : am_S), (1 ≤ 1 * (σ'.2.1 3 3).toInt + 0 ∧ 1 * (σ'.2.1 3 3).toInt + 0 ≤ 1) → ((-1) ≤ 1 * (σ.2.1 3 4).toInt + ((-1) * (σ'.2.1 3 2).toInt + 0) ∧ 1 * (σ.2.1 3 4).toInt + ((-1) * (σ'.2.1 3 2).toInt + 0) ≤ (-1)) → sx_M z9 hd_C σ 12582912 0 σ' → post (some none) σ') : am_K g 10 tX6_step.1 0 0 173 lw [.int n0, .ref 3] σ post := by
  refine sg_seg (sw := [.int n0, .ref 3]) (vs := [(σ.2.1 3 4).toInt]) (ws := [n0.toInt]) G (mi := 250) rfl hct sg_st7a_ok ⟨rfl, trivial⟩ (hd_refs hl) ⟨⟨n0, rfl, rfl⟩, ⟨rfl, trivial⟩⟩ (hd_p1 rfl bp3_4.1 bp3_4.2 (hd_p1 rfl bk0.1 bk0.2 hd_p0)) hM ?_ ?_
  · intro r σ' hq
    cases r with
    | none => exact hq.elim
    | some v =>
      obtain ⟨p, hp, hM2, ks, hk, hv⟩ := hq
      simp only [List.mem_cons, List.not_mem_nil, or_false] at hp
      rcases hp with rfl
      · obtain ⟨ks0, rfl, hk1⟩ := hd_keyc hk; obtain ⟨ks1, rfl, hk2⟩ := hd_keyc hk1; obtain rfl := hd_keys hk2
        cases v with
        | some w9 => exact hv.elim
        | none =>
          have hP := hv
          obtain ⟨v0, e0, l0, u0⟩ := hP _ (List.mem_cons_self)
          have g0 : 1 * (σ'.2.1 3 3).toInt + 0 = v0 := Option.some.inj e0
          obtain ⟨v1, e1, l1, u1⟩ := hP _ (List.mem_cons_of_mem _ (List.mem_cons_self))
          have g1 : 1 * (σ.2.1 3 4).toInt + ((-1) * (σ'.2.1 3 2).toInt + 0) = v1 := Option.some.inj e1
          exact ret0 _ ⟨by rw [g0]; exact l0, by rw [g0]; exact u0⟩ ⟨by rw [g1]; exact l1, by rw [g1]; exact u1⟩ hM2
  · intro u hu
    cases hu
theorem sg_st7b_run (G : sx_G0 g L xs z9 hd_C ex_mt) (hct : ∀ (mi : Nat) (T2 : ex_T) (c' : sx_Ct), ex_mt mi = some T2 → c' ∈ k9 mi → c'.1 < 60 → sx_Holds g z9 hd_C T2 c') {σ : am_S} {lw : List (Nat × Value)} {post : Option (Option Value) → am_S → Prop} (hM : sx_M z9 hd_C σ 0 0 σ) (hl : (0, Value.ref 3) ∈ lw) (bp3_4 : 0 ≤ (σ.2.1 3 4).toInt ∧ (σ.2.1 3 4).toInt ≤ 939) {n0 : Int32} (bk0 : 40 ≤ n0.toInt ∧ n0.toInt ≤ 40) (ret0 : ∀ (σ' : am_S), (4 ≤ 1 * (σ'.2.1 3 3).toInt + 0 ∧ 1 * (σ'.2.1 3 3).toInt + 0 ≤ 4) → ((-1) ≤ 1 * (σ.2.1 3 4).toInt + ((-1) * (σ'.2.1 3 2).toInt + 0) ∧ 1 * (σ.2.1 3 4).toInt + ((-1) * (σ'.2.1 3 2).toInt + 0) ≤ (-1)) → sx_M z9 hd_C σ 12582912 0 σ' → post (some none) σ') : am_K g 10 tX6_step.1 0 0 173 lw [.int n0, .ref 3] σ post := by
  refine sg_seg (sw := [.int n0, .ref 3]) (vs := [(σ.2.1 3 4).toInt]) (ws := [n0.toInt]) G (mi := 250) rfl hct sg_st7b_ok ⟨rfl, trivial⟩ (hd_refs hl) ⟨⟨n0, rfl, rfl⟩, ⟨rfl, trivial⟩⟩ (hd_p1 rfl bp3_4.1 bp3_4.2 (hd_p1 rfl bk0.1 bk0.2 hd_p0)) hM ?_ ?_
  · intro r σ' hq
    cases r with
    | none => exact hq.elim
    | some v =>
      obtain ⟨p, hp, hM2, ks, hk, hv⟩ := hq
      simp only [List.mem_cons, List.not_mem_nil, or_false] at hp
      rcases hp with rfl
      · obtain ⟨ks0, rfl, hk1⟩ := hd_keyc hk; obtain ⟨ks1, rfl, hk2⟩ := hd_keyc hk1; obtain rfl := hd_keys hk2
        cases v with
        | some w9 => exact hv.elim
        | none =>
          have hP := hv
          obtain ⟨v0, e0, l0, u0⟩ := hP _ (List.mem_cons_self)
          have g0 : 1 * (σ'.2.1 3 3).toInt + 0 = v0 := Option.some.inj e0
          obtain ⟨v1, e1, l1, u1⟩ := hP _ (List.mem_cons_of_mem _ (List.mem_cons_self))
          have g1 : 1 * (σ.2.1 3 4).toInt + ((-1) * (σ'.2.1 3 2).toInt + 0) = v1 := Option.some.inj e1
          exact ret0 _ ⟨by rw [g0]; exact l0, by rw [g0]; exact u0⟩ ⟨by rw [g1]; exact l1, by rw [g1]; exact u1⟩ hM2
  · intro u hu
    cases hu
theorem sg_st7c_run (G : sx_G0 g L xs z9 hd_C ex_mt) (hct : ∀ (mi : Nat) (T2 : ex_T) (c' : sx_Ct), ex_mt mi = some T2 → c' ∈ k9 mi → c'.1 < 60 → sx_Holds g z9 hd_C T2 c') {σ : am_S} {lw : List (Nat × Value)} {post : Option (Option Value) → am_S → Prop} (hM : sx_M z9 hd_C σ 0 0 σ) (hl : (0, Value.ref 3) ∈ lw) (bp3_4 : 0 ≤ (σ.2.1 3 4).toInt ∧ (σ.2.1 3 4).toInt ≤ 939) {n0 : Int32} (bk0 : 41 ≤ n0.toInt ∧ n0.toInt ≤ 41) (ret0 : ∀ (σ' : am_S), (4 ≤ 1 * (σ'.2.1 3 3).toInt + 0 ∧ 1 * (σ'.2.1 3 3).toInt + 0 ≤ 4) → ((-1) ≤ 1 * (σ.2.1 3 4).toInt + ((-1) * (σ'.2.1 3 2).toInt + 0) ∧ 1 * (σ.2.1 3 4).toInt + ((-1) * (σ'.2.1 3 2).toInt + 0) ≤ (-1)) → sx_M z9 hd_C σ 12582912 0 σ' → post (some none) σ') : am_K g 10 tX6_step.1 0 0 173 lw [.int n0, .ref 3] σ post := by
  refine sg_seg (sw := [.int n0, .ref 3]) (vs := [(σ.2.1 3 4).toInt]) (ws := [n0.toInt]) G (mi := 250) rfl hct sg_st7c_ok ⟨rfl, trivial⟩ (hd_refs hl) ⟨⟨n0, rfl, rfl⟩, ⟨rfl, trivial⟩⟩ (hd_p1 rfl bp3_4.1 bp3_4.2 (hd_p1 rfl bk0.1 bk0.2 hd_p0)) hM ?_ ?_
  · intro r σ' hq
    cases r with
    | none => exact hq.elim
    | some v =>
      obtain ⟨p, hp, hM2, ks, hk, hv⟩ := hq
      simp only [List.mem_cons, List.not_mem_nil, or_false] at hp
      rcases hp with rfl
      · obtain ⟨ks0, rfl, hk1⟩ := hd_keyc hk; obtain ⟨ks1, rfl, hk2⟩ := hd_keyc hk1; obtain rfl := hd_keys hk2
        cases v with
        | some w9 => exact hv.elim
        | none =>
          have hP := hv
          obtain ⟨v0, e0, l0, u0⟩ := hP _ (List.mem_cons_self)
          have g0 : 1 * (σ'.2.1 3 3).toInt + 0 = v0 := Option.some.inj e0
          obtain ⟨v1, e1, l1, u1⟩ := hP _ (List.mem_cons_of_mem _ (List.mem_cons_self))
          have g1 : 1 * (σ.2.1 3 4).toInt + ((-1) * (σ'.2.1 3 2).toInt + 0) = v1 := Option.some.inj e1
          exact ret0 _ ⟨by rw [g0]; exact l0, by rw [g0]; exact u0⟩ ⟨by rw [g1]; exact l1, by rw [g1]; exact u1⟩ hM2
  · intro u hu
    cases hu
theorem sg_st7d_run (G : sx_G0 g L xs z9 hd_C ex_mt) (hct : ∀ (mi : Nat) (T2 : ex_T) (c' : sx_Ct), ex_mt mi = some T2 → c' ∈ k9 mi → c'.1 < 60 → sx_Holds g z9 hd_C T2 c') {σ : am_S} {lw : List (Nat × Value)} {post : Option (Option Value) → am_S → Prop} (hM : sx_M z9 hd_C σ 0 0 σ) (hl : (0, Value.ref 3) ∈ lw) (bp3_4 : 0 ≤ (σ.2.1 3 4).toInt ∧ (σ.2.1 3 4).toInt ≤ 939) {n0 : Int32} (bk0 : 42 ≤ n0.toInt ∧ n0.toInt ≤ 47) (ret0 : ∀ (σ' : am_S), (1 ≤ 1 * (σ'.2.1 3 3).toInt + 0 ∧ 1 * (σ'.2.1 3 3).toInt + 0 ≤ 1) → ((-1) ≤ 1 * (σ.2.1 3 4).toInt + ((-1) * (σ'.2.1 3 2).toInt + 0) ∧ 1 * (σ.2.1 3 4).toInt + ((-1) * (σ'.2.1 3 2).toInt + 0) ≤ (-1)) → sx_M z9 hd_C σ 12582912 0 σ' → post (some none) σ') : am_K g 10 tX6_step.1 0 0 173 lw [.int n0, .ref 3] σ post := by
  refine sg_seg (sw := [.int n0, .ref 3]) (vs := [(σ.2.1 3 4).toInt]) (ws := [n0.toInt]) G (mi := 250) rfl hct sg_st7d_ok ⟨rfl, trivial⟩ (hd_refs hl) ⟨⟨n0, rfl, rfl⟩, ⟨rfl, trivial⟩⟩ (hd_p1 rfl bp3_4.1 bp3_4.2 (hd_p1 rfl bk0.1 bk0.2 hd_p0)) hM ?_ ?_
  · intro r σ' hq
    cases r with
    | none => exact hq.elim
    | some v =>
      obtain ⟨p, hp, hM2, ks, hk, hv⟩ := hq
      simp only [List.mem_cons, List.not_mem_nil, or_false] at hp
      rcases hp with rfl
      · obtain ⟨ks0, rfl, hk1⟩ := hd_keyc hk; obtain ⟨ks1, rfl, hk2⟩ := hd_keyc hk1; obtain rfl := hd_keys hk2
        cases v with
        | some w9 => exact hv.elim
        | none =>
          have hP := hv
          obtain ⟨v0, e0, l0, u0⟩ := hP _ (List.mem_cons_self)
          have g0 : 1 * (σ'.2.1 3 3).toInt + 0 = v0 := Option.some.inj e0
          obtain ⟨v1, e1, l1, u1⟩ := hP _ (List.mem_cons_of_mem _ (List.mem_cons_self))
          have g1 : 1 * (σ.2.1 3 4).toInt + ((-1) * (σ'.2.1 3 2).toInt + 0) = v1 := Option.some.inj e1
          exact ret0 _ ⟨by rw [g0]; exact l0, by rw [g0]; exact u0⟩ ⟨by rw [g1]; exact l1, by rw [g1]; exact u1⟩ hM2
  · intro u hu
    cases hu
theorem sg_st7f_run (G : sx_G0 g L xs z9 hd_C ex_mt) (hct : ∀ (mi : Nat) (T2 : ex_T) (c' : sx_Ct), ex_mt mi = some T2 → c' ∈ k9 mi → c'.1 < 60 → sx_Holds g z9 hd_C T2 c') {σ : am_S} {lw : List (Nat × Value)} {post : Option (Option Value) → am_S → Prop} (hM : sx_M z9 hd_C σ 0 0 σ) (hl : (0, Value.ref 3) ∈ lw) (bp3_4 : 0 ≤ (σ.2.1 3 4).toInt ∧ (σ.2.1 3 4).toInt ≤ 939) {n0 : Int32} (bk0 : 58 ≤ n0.toInt ∧ n0.toInt ≤ 58) (ret0 : ∀ (σ' : am_S), (1 ≤ 1 * (σ'.2.1 3 3).toInt + 0 ∧ 1 * (σ'.2.1 3 3).toInt + 0 ≤ 1) → ((-1) ≤ 1 * (σ.2.1 3 4).toInt + ((-1) * (σ'.2.1 3 2).toInt + 0) ∧ 1 * (σ.2.1 3 4).toInt + ((-1) * (σ'.2.1 3 2).toInt + 0) ≤ (-1)) → sx_M z9 hd_C σ 12582912 0 σ' → post (some none) σ') : am_K g 10 tX6_step.1 0 0 173 lw [.int n0, .ref 3] σ post := by
  refine sg_seg (sw := [.int n0, .ref 3]) (vs := [(σ.2.1 3 4).toInt]) (ws := [n0.toInt]) G (mi := 250) rfl hct sg_st7f_ok ⟨rfl, trivial⟩ (hd_refs hl) ⟨⟨n0, rfl, rfl⟩, ⟨rfl, trivial⟩⟩ (hd_p1 rfl bp3_4.1 bp3_4.2 (hd_p1 rfl bk0.1 bk0.2 hd_p0)) hM ?_ ?_
  · intro r σ' hq
    cases r with
    | none => exact hq.elim
    | some v =>
      obtain ⟨p, hp, hM2, ks, hk, hv⟩ := hq
      simp only [List.mem_cons, List.not_mem_nil, or_false] at hp
      rcases hp with rfl
      · obtain ⟨ks0, rfl, hk1⟩ := hd_keyc hk; obtain ⟨ks1, rfl, hk2⟩ := hd_keyc hk1; obtain rfl := hd_keys hk2
        cases v with
        | some w9 => exact hv.elim
        | none =>
          have hP := hv
          obtain ⟨v0, e0, l0, u0⟩ := hP _ (List.mem_cons_self)
          have g0 : 1 * (σ'.2.1 3 3).toInt + 0 = v0 := Option.some.inj e0
          obtain ⟨v1, e1, l1, u1⟩ := hP _ (List.mem_cons_of_mem _ (List.mem_cons_self))
          have g1 : 1 * (σ.2.1 3 4).toInt + ((-1) * (σ'.2.1 3 2).toInt + 0) = v1 := Option.some.inj e1
          exact ret0 _ ⟨by rw [g0]; exact l0, by rw [g0]; exact u0⟩ ⟨by rw [g1]; exact l1, by rw [g1]; exact u1⟩ hM2
  · intro u hu
    cases hu
theorem sg_st7g_run (G : sx_G0 g L xs z9 hd_C ex_mt) (hct : ∀ (mi : Nat) (T2 : ex_T) (c' : sx_Ct), ex_mt mi = some T2 → c' ∈ k9 mi → c'.1 < 60 → sx_Holds g z9 hd_C T2 c') {σ : am_S} {lw : List (Nat × Value)} {post : Option (Option Value) → am_S → Prop} (hM : sx_M z9 hd_C σ 0 0 σ) (hl : (0, Value.ref 3) ∈ lw) (bp3_4 : 0 ≤ (σ.2.1 3 4).toInt ∧ (σ.2.1 3 4).toInt ≤ 939) {n0 : Int32} (bk0 : 59 ≤ n0.toInt ∧ n0.toInt ≤ 59) (ret0 : ∀ (σ' : am_S), (4 ≤ 1 * (σ'.2.1 3 3).toInt + 0 ∧ 1 * (σ'.2.1 3 3).toInt + 0 ≤ 4) → ((-1) ≤ 1 * (σ.2.1 3 4).toInt + ((-1) * (σ'.2.1 3 2).toInt + 0) ∧ 1 * (σ.2.1 3 4).toInt + ((-1) * (σ'.2.1 3 2).toInt + 0) ≤ (-1)) → sx_M z9 hd_C σ 12582912 0 σ' → post (some none) σ') : am_K g 10 tX6_step.1 0 0 173 lw [.int n0, .ref 3] σ post := by
  refine sg_seg (sw := [.int n0, .ref 3]) (vs := [(σ.2.1 3 4).toInt]) (ws := [n0.toInt]) G (mi := 250) rfl hct sg_st7g_ok ⟨rfl, trivial⟩ (hd_refs hl) ⟨⟨n0, rfl, rfl⟩, ⟨rfl, trivial⟩⟩ (hd_p1 rfl bp3_4.1 bp3_4.2 (hd_p1 rfl bk0.1 bk0.2 hd_p0)) hM ?_ ?_
  · intro r σ' hq
    cases r with
    | none => exact hq.elim
    | some v =>
      obtain ⟨p, hp, hM2, ks, hk, hv⟩ := hq
      simp only [List.mem_cons, List.not_mem_nil, or_false] at hp
      rcases hp with rfl
      · obtain ⟨ks0, rfl, hk1⟩ := hd_keyc hk; obtain ⟨ks1, rfl, hk2⟩ := hd_keyc hk1; obtain rfl := hd_keys hk2
        cases v with
        | some w9 => exact hv.elim
        | none =>
          have hP := hv
          obtain ⟨v0, e0, l0, u0⟩ := hP _ (List.mem_cons_self)
          have g0 : 1 * (σ'.2.1 3 3).toInt + 0 = v0 := Option.some.inj e0
          obtain ⟨v1, e1, l1, u1⟩ := hP _ (List.mem_cons_of_mem _ (List.mem_cons_self))
          have g1 : 1 * (σ.2.1 3 4).toInt + ((-1) * (σ'.2.1 3 2).toInt + 0) = v1 := Option.some.inj e1
          exact ret0 _ ⟨by rw [g0]; exact l0, by rw [g0]; exact u0⟩ ⟨by rw [g1]; exact l1, by rw [g1]; exact u1⟩ hM2
  · intro u hu
    cases hu
theorem sg_st7h_run (G : sx_G0 g L xs z9 hd_C ex_mt) (hct : ∀ (mi : Nat) (T2 : ex_T) (c' : sx_Ct), ex_mt mi = some T2 → c' ∈ k9 mi → c'.1 < 60 → sx_Holds g z9 hd_C T2 c') {σ : am_S} {lw : List (Nat × Value)} {post : Option (Option Value) → am_S → Prop} (hM : sx_M z9 hd_C σ 0 0 σ) (hl : (0, Value.ref 3) ∈ lw) (bp3_4 : 0 ≤ (σ.2.1 3 4).toInt ∧ (σ.2.1 3 4).toInt ≤ 939) {n0 : Int32} (bk0 : 60 ≤ n0.toInt ∧ n0.toInt ≤ 60) (ret0 : ∀ (σ' : am_S), (4 ≤ 1 * (σ'.2.1 3 3).toInt + 0 ∧ 1 * (σ'.2.1 3 3).toInt + 0 ≤ 4) → ((-1) ≤ 1 * (σ.2.1 3 4).toInt + ((-1) * (σ'.2.1 3 2).toInt + 0) ∧ 1 * (σ.2.1 3 4).toInt + ((-1) * (σ'.2.1 3 2).toInt + 0) ≤ (-1)) → sx_M z9 hd_C σ 12582912 0 σ' → post (some none) σ') : am_K g 10 tX6_step.1 0 0 173 lw [.int n0, .ref 3] σ post := by
  refine sg_seg (sw := [.int n0, .ref 3]) (vs := [(σ.2.1 3 4).toInt]) (ws := [n0.toInt]) G (mi := 250) rfl hct sg_st7h_ok ⟨rfl, trivial⟩ (hd_refs hl) ⟨⟨n0, rfl, rfl⟩, ⟨rfl, trivial⟩⟩ (hd_p1 rfl bp3_4.1 bp3_4.2 (hd_p1 rfl bk0.1 bk0.2 hd_p0)) hM ?_ ?_
  · intro r σ' hq
    cases r with
    | none => exact hq.elim
    | some v =>
      obtain ⟨p, hp, hM2, ks, hk, hv⟩ := hq
      simp only [List.mem_cons, List.not_mem_nil, or_false] at hp
      rcases hp with rfl
      · obtain ⟨ks0, rfl, hk1⟩ := hd_keyc hk; obtain ⟨ks1, rfl, hk2⟩ := hd_keyc hk1; obtain rfl := hd_keys hk2
        cases v with
        | some w9 => exact hv.elim
        | none =>
          have hP := hv
          obtain ⟨v0, e0, l0, u0⟩ := hP _ (List.mem_cons_self)
          have g0 : 1 * (σ'.2.1 3 3).toInt + 0 = v0 := Option.some.inj e0
          obtain ⟨v1, e1, l1, u1⟩ := hP _ (List.mem_cons_of_mem _ (List.mem_cons_self))
          have g1 : 1 * (σ.2.1 3 4).toInt + ((-1) * (σ'.2.1 3 2).toInt + 0) = v1 := Option.some.inj e1
          exact ret0 _ ⟨by rw [g0]; exact l0, by rw [g0]; exact u0⟩ ⟨by rw [g1]; exact l1, by rw [g1]; exact u1⟩ hM2
  · intro u hu
    cases hu
theorem sg_st7i_run (G : sx_G0 g L xs z9 hd_C ex_mt) (hct : ∀ (mi : Nat) (T2 : ex_T) (c' : sx_Ct), ex_mt mi = some T2 → c' ∈ k9 mi → c'.1 < 60 → sx_Holds g z9 hd_C T2 c') {σ : am_S} {lw : List (Nat × Value)} {post : Option (Option Value) → am_S → Prop} (hM : sx_M z9 hd_C σ 0 0 σ) (hl : (0, Value.ref 3) ∈ lw) (bp3_4 : 0 ≤ (σ.2.1 3 4).toInt ∧ (σ.2.1 3 4).toInt ≤ 939) {n0 : Int32} (bk0 : 61 ≤ n0.toInt ∧ n0.toInt ≤ 61) (ret0 : ∀ (σ' : am_S), (4 ≤ 1 * (σ'.2.1 3 3).toInt + 0 ∧ 1 * (σ'.2.1 3 3).toInt + 0 ≤ 4) → ((-1) ≤ 1 * (σ.2.1 3 4).toInt + ((-1) * (σ'.2.1 3 2).toInt + 0) ∧ 1 * (σ.2.1 3 4).toInt + ((-1) * (σ'.2.1 3 2).toInt + 0) ≤ (-1)) → sx_M z9 hd_C σ 12582912 0 σ' → post (some none) σ') : am_K g 10 tX6_step.1 0 0 173 lw [.int n0, .ref 3] σ post := by
  refine sg_seg (sw := [.int n0, .ref 3]) (vs := [(σ.2.1 3 4).toInt]) (ws := [n0.toInt]) G (mi := 250) rfl hct sg_st7i_ok ⟨rfl, trivial⟩ (hd_refs hl) ⟨⟨n0, rfl, rfl⟩, ⟨rfl, trivial⟩⟩ (hd_p1 rfl bp3_4.1 bp3_4.2 (hd_p1 rfl bk0.1 bk0.2 hd_p0)) hM ?_ ?_
  · intro r σ' hq
    cases r with
    | none => exact hq.elim
    | some v =>
      obtain ⟨p, hp, hM2, ks, hk, hv⟩ := hq
      simp only [List.mem_cons, List.not_mem_nil, or_false] at hp
      rcases hp with rfl
      · obtain ⟨ks0, rfl, hk1⟩ := hd_keyc hk; obtain ⟨ks1, rfl, hk2⟩ := hd_keyc hk1; obtain rfl := hd_keys hk2
        cases v with
        | some w9 => exact hv.elim
        | none =>
          have hP := hv
          obtain ⟨v0, e0, l0, u0⟩ := hP _ (List.mem_cons_self)
          have g0 : 1 * (σ'.2.1 3 3).toInt + 0 = v0 := Option.some.inj e0
          obtain ⟨v1, e1, l1, u1⟩ := hP _ (List.mem_cons_of_mem _ (List.mem_cons_self))
          have g1 : 1 * (σ.2.1 3 4).toInt + ((-1) * (σ'.2.1 3 2).toInt + 0) = v1 := Option.some.inj e1
          exact ret0 _ ⟨by rw [g0]; exact l0, by rw [g0]; exact u0⟩ ⟨by rw [g1]; exact l1, by rw [g1]; exact u1⟩ hM2
  · intro u hu
    cases hu
theorem sg_st7j_run (G : sx_G0 g L xs z9 hd_C ex_mt) (hct : ∀ (mi : Nat) (T2 : ex_T) (c' : sx_Ct), ex_mt mi = some T2 → c' ∈ k9 mi → c'.1 < 60 → sx_Holds g z9 hd_C T2 c') {σ : am_S} {lw : List (Nat × Value)} {post : Option (Option Value) → am_S → Prop} (hM : sx_M z9 hd_C σ 0 0 σ) (hl : (0, Value.ref 3) ∈ lw) (bp3_4 : 0 ≤ (σ.2.1 3 4).toInt ∧ (σ.2.1 3 4).toInt ≤ 939) {n0 : Int32} (bk0 : 62 ≤ n0.toInt ∧ n0.toInt ≤ 62) (ret0 : ∀ (σ' : am_S), (4 ≤ 1 * (σ'.2.1 3 3).toInt + 0 ∧ 1 * (σ'.2.1 3 3).toInt + 0 ≤ 4) → ((-1) ≤ 1 * (σ.2.1 3 4).toInt + ((-1) * (σ'.2.1 3 2).toInt + 0) ∧ 1 * (σ.2.1 3 4).toInt + ((-1) * (σ'.2.1 3 2).toInt + 0) ≤ (-1)) → sx_M z9 hd_C σ 12582912 0 σ' → post (some none) σ') : am_K g 10 tX6_step.1 0 0 173 lw [.int n0, .ref 3] σ post := by
  refine sg_seg (sw := [.int n0, .ref 3]) (vs := [(σ.2.1 3 4).toInt]) (ws := [n0.toInt]) G (mi := 250) rfl hct sg_st7j_ok ⟨rfl, trivial⟩ (hd_refs hl) ⟨⟨n0, rfl, rfl⟩, ⟨rfl, trivial⟩⟩ (hd_p1 rfl bp3_4.1 bp3_4.2 (hd_p1 rfl bk0.1 bk0.2 hd_p0)) hM ?_ ?_
  · intro r σ' hq
    cases r with
    | none => exact hq.elim
    | some v =>
      obtain ⟨p, hp, hM2, ks, hk, hv⟩ := hq
      simp only [List.mem_cons, List.not_mem_nil, or_false] at hp
      rcases hp with rfl
      · obtain ⟨ks0, rfl, hk1⟩ := hd_keyc hk; obtain ⟨ks1, rfl, hk2⟩ := hd_keyc hk1; obtain rfl := hd_keys hk2
        cases v with
        | some w9 => exact hv.elim
        | none =>
          have hP := hv
          obtain ⟨v0, e0, l0, u0⟩ := hP _ (List.mem_cons_self)
          have g0 : 1 * (σ'.2.1 3 3).toInt + 0 = v0 := Option.some.inj e0
          obtain ⟨v1, e1, l1, u1⟩ := hP _ (List.mem_cons_of_mem _ (List.mem_cons_self))
          have g1 : 1 * (σ.2.1 3 4).toInt + ((-1) * (σ'.2.1 3 2).toInt + 0) = v1 := Option.some.inj e1
          exact ret0 _ ⟨by rw [g0]; exact l0, by rw [g0]; exact u0⟩ ⟨by rw [g1]; exact l1, by rw [g1]; exact u1⟩ hM2
  · intro u hu
    cases hu
end HR
