/-! segments of feed (written by a program) -/
def sg_fo1 : sg_Cu := (0, 0, [(0, .inr (some (false, 118)))], ([.inl 1, .inr 7733250], [([(.ofNat 1, 0)], .negSucc 2147483647, .ofNat 2147483647), ([(.ofNat 1, 1)], .ofNat 0, .ofNat 939)]), [])
def sg_fo1_a : sg_Cu := (17, 0, [(0, .inr (some (false, 118)))], ([.inl 1, .inl 2, .inr 7733250], [([(.ofNat 1, 5)], .ofNat 24, .ofNat 24), ([(.ofNat 1, 0), (.negSucc 0, 6)], .ofNat 0, .ofNat 0), ([(.ofNat 1, 1), (.negSucc 0, 7)], .ofNat 0, .ofNat 0), ([(.ofNat 1, 0), (.negSucc 0, 2)], .ofNat 0, .ofNat 0), ([(.ofNat 1, 3)], .ofNat 24, .ofNat 24)]), [none, none, none, some (false, 119)])
theorem sg_fo1_ok : sg_chk zK ex_mt k9 0 tX12_four 12 5 sg_fo1 [] [sg_fo1_a] = true := by decide +kernel
def sg_fo2_24 : sg_Cu := (20, 0, [(0, .inr (some (false, 118)))], ([.inl 1, .inl 2, .inr 7733250], [([(.ofNat 1, 0)], .negSucc 2147483647, .ofNat 2147483647), ([(.ofNat 1, 1)], .ofNat 24, .ofNat 24), ([(.ofNat 1, 2)], .ofNat 0, .ofNat 938)]), [])
def sg_fo2_24_a : sg_Cu := (17, 4697085165547666455778961193578674054751365097816639741414581943064418050229216886927397996769537406063869952, [(0, .inr (some (false, 118)))], ([.inl 1, .inl 2, .inr 7733250], [([(.ofNat 1, 6)], .ofNat 16, .ofNat 16), ([(.ofNat 1, 0), (.negSucc 0, 7)], .ofNat 0, .ofNat 0), ([(.ofNat 1, 2), (.negSucc 0, 8)], .negSucc 0, .negSucc 0), ([(.ofNat 1, 2), (.negSucc 0, 5)], .negSucc 0, .negSucc 0), ([(.ofNat 1, 0), (.negSucc 0, 3)], .ofNat 0, .ofNat 0), ([(.ofNat 1, 4)], .ofNat 16, .ofNat 16)]), [none, none, none, some (false, 119)])
theorem sg_fo2_24_ok : sg_chk zK ex_mt k9 0 tX12_four 18 5 sg_fo2_24 [] [sg_fo2_24_a] = true := by decide +kernel
def sg_fo2_16 : sg_Cu := (20, 0, [(0, .inr (some (false, 118)))], ([.inl 1, .inl 2, .inr 7733250], [([(.ofNat 1, 0)], .negSucc 2147483647, .ofNat 2147483647), ([(.ofNat 1, 1)], .ofNat 16, .ofNat 16), ([(.ofNat 1, 2)], .ofNat 0, .ofNat 938)]), [])
def sg_fo2_16_a : sg_Cu := (17, 4697085165547666455778961193578674054751365097816639741414581943064418050229216886927397996769537406063869952, [(0, .inr (some (false, 118)))], ([.inl 1, .inl 2, .inr 7733250], [([(.ofNat 1, 6)], .ofNat 8, .ofNat 8), ([(.ofNat 1, 0), (.negSucc 0, 7)], .ofNat 0, .ofNat 0), ([(.ofNat 1, 2), (.negSucc 0, 8)], .negSucc 0, .negSucc 0), ([(.ofNat 1, 2), (.negSucc 0, 5)], .negSucc 0, .negSucc 0), ([(.ofNat 1, 0), (.negSucc 0, 3)], .ofNat 0, .ofNat 0), ([(.ofNat 1, 4)], .ofNat 8, .ofNat 8)]), [none, none, none, some (false, 119)])
theorem sg_fo2_16_ok : sg_chk zK ex_mt k9 0 tX12_four 18 5 sg_fo2_16 [] [sg_fo2_16_a] = true := by decide +kernel
def sg_fo2_8 : sg_Cu := (20, 0, [(0, .inr (some (false, 118)))], ([.inl 1, .inl 2, .inr 7733250], [([(.ofNat 1, 0)], .negSucc 2147483647, .ofNat 2147483647), ([(.ofNat 1, 1)], .ofNat 8, .ofNat 8), ([(.ofNat 1, 2)], .ofNat 0, .ofNat 938)]), [])
def sg_fo2_8_a : sg_Cu := (17, 4697085165547666455778961193578674054751365097816639741414581943064418050229216886927397996769537406063869952, [(0, .inr (some (false, 118)))], ([.inl 1, .inl 2, .inr 7733250], [([(.ofNat 1, 6)], .ofNat 0, .ofNat 0), ([(.ofNat 1, 0), (.negSucc 0, 7)], .ofNat 0, .ofNat 0), ([(.ofNat 1, 2), (.negSucc 0, 8)], .negSucc 0, .negSucc 0), ([(.ofNat 1, 2), (.negSucc 0, 5)], .negSucc 0, .negSucc 0), ([(.ofNat 1, 0), (.negSucc 0, 3)], .ofNat 0, .ofNat 0), ([(.ofNat 1, 4)], .ofNat 0, .ofNat 0)]), [none, none, none, some (false, 119)])
theorem sg_fo2_8_ok : sg_chk zK ex_mt k9 0 tX12_four 18 5 sg_fo2_8 [] [sg_fo2_8_a] = true := by decide +kernel
def sg_fo3 : sg_Cu := (20, 0, [(0, .inr (some (false, 118)))], ([.inl 1, .inl 2, .inr 7733250], [([(.ofNat 1, 0)], .negSucc 2147483647, .ofNat 2147483647), ([(.ofNat 1, 1)], .ofNat 0, .ofNat 0), ([(.ofNat 1, 2)], .ofNat 0, .ofNat 939)]), [])
def sg_fo3_p0 : sx_Po := (4697085165547666455778961193578674054751365097816639741414581943064418050229216886927397996769537406063869952, false, [7733250], [([(.ofNat 1, 2), (.negSucc 0, 3)], .negSucc 0, .negSucc 0)])
theorem sg_fo3_ok : sg_chk zK ex_mt k9 0 tX12_four 12 5 sg_fo3 [sg_fo3_p0] [] = true := by decide +kernel
def sg_fe0 : sg_Cu := (0, 0, [(0, .inr (some (false, 118)))], ([.inl 1, .inl 2, .inl 3, .inl 4, .inl 5, .inr 7733250], [([(.ofNat 1, 0)], .negSucc 2147483647, .ofNat 2147483647), ([(.ofNat 1, 1)], .negSucc 2147483647, .ofNat 2147483647), ([(.ofNat 1, 2)], .negSucc 2147483647, .ofNat 2147483647), ([(.ofNat 1, 3)], .negSucc 2147483647, .ofNat 2147483647), ([(.ofNat 1, 4)], .negSucc 2147483647, .ofNat 2147483647), ([(.ofNat 1, 5)], .ofNat 921, .ofNat 940)]), [])
def sg_fe0_p0 : sx_Po := (1174271291386916613944740298394668513687841274454159935353645485766104512557304221731849499192384351515967488, true, [], [([(.ofNat 1, 6)], .negSucc 0, .negSucc 0)])
theorem sg_fe0_ok : sg_chk zK ex_mt k9 0 tX12_feed 12 12 sg_fe0 [sg_fe0_p0] [] = true := by decide +kernel
def sg_fe1 : sg_Cu := (0, 0, [(0, .inr (some (false, 118)))], ([.inl 1, .inl 2, .inl 3, .inl 4, .inl 5, .inr 7733250], [([(.ofNat 1, 0)], .negSucc 2147483647, .ofNat 2147483647), ([(.ofNat 1, 1)], .negSucc 2147483647, .ofNat 2147483647), ([(.ofNat 1, 2)], .negSucc 2147483647, .ofNat 2147483647), ([(.ofNat 1, 3)], .negSucc 2147483647, .ofNat 2147483647), ([(.ofNat 1, 4)], .negSucc 2147483647, .ofNat 2147483647), ([(.ofNat 1, 5)], .ofNat 0, .ofNat 920)]), [])
def sg_fe1_a : sg_Cu := (22, 1174271291386916613944740298394668513687841274454159935353645485766104512557304221731849499192384351515967488, [(0, .inr (some (false, 118)))], ([.inl 1, .inl 2, .inl 3, .inl 4, .inl 5], [([(.ofNat 1, 0), (.negSucc 0, 11)], .ofNat 0, .ofNat 0), ([(.ofNat 1, 0), (.negSucc 0, 6)], .ofNat 0, .ofNat 0), ([(.ofNat 1, 1), (.negSucc 0, 7)], .ofNat 0, .ofNat 0), ([(.ofNat 1, 2), (.negSucc 0, 8)], .ofNat 0, .ofNat 0), ([(.ofNat 1, 3), (.negSucc 0, 9)], .ofNat 0, .ofNat 0), ([(.ofNat 1, 4), (.negSucc 0, 10)], .ofNat 0, .ofNat 0)]), [none, some (false, 118)])
theorem sg_fe1_ok : sg_chk zK ex_mt k9 0 tX12_feed 13 12 sg_fe1 [] [sg_fe1_a] = true := by decide +kernel
def sg_fe2 : sg_Cu := (25, 0, [(0, .inr (some (false, 118)))], ([.inl 1, .inl 2, .inl 3, .inl 4, .inl 5], [([(.ofNat 1, 0)], .negSucc 2147483647, .ofNat 2147483647), ([(.ofNat 1, 1)], .negSucc 2147483647, .ofNat 2147483647), ([(.ofNat 1, 2)], .negSucc 2147483647, .ofNat 2147483647), ([(.ofNat 1, 3)], .negSucc 2147483647, .ofNat 2147483647), ([(.ofNat 1, 4)], .negSucc 2147483647, .ofNat 2147483647)]), [])
def sg_fe2_a : sg_Cu := (27, 0, [(0, .inr (some (false, 118)))], ([.inl 1, .inl 2, .inl 3, .inl 4, .inl 5], [([(.ofNat 1, 1), (.negSucc 0, 10)], .ofNat 0, .ofNat 0), ([(.ofNat 1, 0), (.negSucc 0, 5)], .ofNat 0, .ofNat 0), ([(.ofNat 1, 1), (.negSucc 0, 6)], .ofNat 0, .ofNat 0), ([(.ofNat 1, 2), (.negSucc 0, 7)], .ofNat 0, .ofNat 0), ([(.ofNat 1, 3), (.negSucc 0, 8)], .ofNat 0, .ofNat 0), ([(.ofNat 1, 4), (.negSucc 0, 9)], .ofNat 0, .ofNat 0)]), [none, some (false, 118)])
theorem sg_fe2_ok : sg_chk zK ex_mt k9 0 tX12_feed 4 12 sg_fe2 [] [sg_fe2_a] = true := by decide +kernel
def sg_fe3 : sg_Cu := (30, 0, [(0, .inr (some (false, 118)))], ([.inl 1, .inl 2, .inl 3, .inl 4, .inl 5], [([(.ofNat 1, 0)], .negSucc 2147483647, .ofNat 2147483647), ([(.ofNat 1, 1)], .negSucc 2147483647, .ofNat 2147483647), ([(.ofNat 1, 2)], .negSucc 2147483647, .ofNat 2147483647), ([(.ofNat 1, 3)], .negSucc 2147483647, .ofNat 2147483647), ([(.ofNat 1, 4)], .negSucc 2147483647, .ofNat 2147483647)]), [])
def sg_fe3_a : sg_Cu := (32, 0, [(0, .inr (some (false, 118)))], ([.inl 1, .inl 2, .inl 3, .inl 4, .inl 5], [([(.ofNat 1, 2), (.negSucc 0, 10)], .ofNat 0, .ofNat 0), ([(.ofNat 1, 0), (.negSucc 0, 5)], .ofNat 0, .ofNat 0), ([(.ofNat 1, 1), (.negSucc 0, 6)], .ofNat 0, .ofNat 0), ([(.ofNat 1, 2), (.negSucc 0, 7)], .ofNat 0, .ofNat 0), ([(.ofNat 1, 3), (.negSucc 0, 8)], .ofNat 0, .ofNat 0), ([(.ofNat 1, 4), (.negSucc 0, 9)], .ofNat 0, .ofNat 0)]), [none, some (false, 118)])
theorem sg_fe3_ok : sg_chk zK ex_mt k9 0 tX12_feed 4 12 sg_fe3 [] [sg_fe3_a] = true := by decide +kernel
def sg_fe4 : sg_Cu := (35, 0, [(0, .inr (some (false, 118)))], ([.inl 1, .inl 2, .inl 3, .inl 4, .inl 5], [([(.ofNat 1, 0)], .negSucc 2147483647, .ofNat 2147483647), ([(.ofNat 1, 1)], .negSucc 2147483647, .ofNat 2147483647), ([(.ofNat 1, 2)], .negSucc 2147483647, .ofNat 2147483647), ([(.ofNat 1, 3)], .negSucc 2147483647, .ofNat 2147483647), ([(.ofNat 1, 4)], .negSucc 2147483647, .ofNat 2147483647)]), [])
def sg_fe4_a : sg_Cu := (38, 0, [(0, .inr (some (false, 118)))], ([.inl 1, .inl 2, .inl 3, .inl 4, .inl 5], [([(.ofNat 1, 3), (.negSucc 0, 10)], .ofNat 0, .ofNat 0), ([(.ofNat 1, 0), (.negSucc 0, 5)], .ofNat 0, .ofNat 0), ([(.ofNat 1, 1), (.negSucc 0, 6)], .ofNat 0, .ofNat 0), ([(.ofNat 1, 2), (.negSucc 0, 7)], .ofNat 0, .ofNat 0), ([(.ofNat 1, 3), (.negSucc 0, 8)], .ofNat 0, .ofNat 0), ([(.ofNat 1, 4), (.negSucc 0, 9)], .ofNat 0, .ofNat 0)]), [none, some (false, 118)])
theorem sg_fe4_ok : sg_chk zK ex_mt k9 0 tX12_feed 4 12 sg_fe4 [] [sg_fe4_a] = true := by decide +kernel
def sg_fe5 : sg_Cu := (41, 0, [(0, .inr (some (false, 118)))], ([.inl 1, .inl 2, .inl 3, .inl 4, .inl 5], [([(.ofNat 1, 0)], .negSucc 2147483647, .ofNat 2147483647), ([(.ofNat 1, 1)], .negSucc 2147483647, .ofNat 2147483647), ([(.ofNat 1, 2)], .negSucc 2147483647, .ofNat 2147483647), ([(.ofNat 1, 3)], .negSucc 2147483647, .ofNat 2147483647), ([(.ofNat 1, 4)], .negSucc 2147483647, .ofNat 2147483647)]), [])
def sg_fe5_a : sg_Cu := (44, 0, [(0, .inr (some (false, 118)))], ([.inl 1, .inl 2, .inl 3, .inl 4, .inl 5], [([(.ofNat 1, 4), (.negSucc 0, 10)], .ofNat 0, .ofNat 0), ([(.ofNat 1, 0), (.negSucc 0, 5)], .ofNat 0, .ofNat 0), ([(.ofNat 1, 1), (.negSucc 0, 6)], .ofNat 0, .ofNat 0), ([(.ofNat 1, 2), (.negSucc 0, 7)], .ofNat 0, .ofNat 0), ([(.ofNat 1, 3), (.negSucc 0, 8)], .ofNat 0, .ofNat 0), ([(.ofNat 1, 4), (.negSucc 0, 9)], .ofNat 0, .ofNat 0)]), [none, some (false, 118)])
theorem sg_fe5_ok : sg_chk zK ex_mt k9 0 tX12_feed 4 12 sg_fe5 [] [sg_fe5_a] = true := by decide +kernel
def sg_fe6 : sg_Cu := (47, 0, [(0, .inr (some (false, 118)))], ([.inr 7733250], [([(.ofNat 1, 0)], .ofNat 0, .ofNat 940)]), [])
def sg_fe6_p0 : sx_Po := (0, true, [], [([(.ofNat 1, 0), (.negSucc 0, 1)], .ofNat 0, .ofNat 0)])
theorem sg_fe6_ok : sg_chk zK ex_mt k9 0 tX12_feed 4 12 sg_fe6 [sg_fe6_p0] [] = true := by decide +kernel
def sg_ap1 : sg_Cu := (0, 0, [(0, .inr (some (false, 1)))], ([.inl 1, .inr 65537], [([(.ofNat 1, 0)], .negSucc 2147483647, .ofNat 2147483647), ([(.ofNat 1, 1)], .ofNat 0, .ofNat 939)]), [])
def sg_ap1_a : sg_Cu := (36, 0, [(0, .inr (some (false, 1)))], ([.inl 1, .inl 2, .inr 65537], [([(.ofNat 1, 5)], .ofNat 24, .ofNat 24), ([(.ofNat 1, 0), (.negSucc 0, 6)], .ofNat 0, .ofNat 0), ([(.ofNat 1, 1), (.negSucc 0, 7)], .ofNat 0, .ofNat 0), ([(.ofNat 1, 0), (.negSucc 0, 2)], .ofNat 0, .ofNat 0), ([(.ofNat 1, 3)], .ofNat 24, .ofNat 24)]), [none, none, none, some (false, 2)])
theorem sg_ap1_ok : sg_chk zK ex_mt k9 0 tX10_append 21 5 sg_ap1 [] [sg_ap1_a] = true := by decide +kernel
def sg_ap2_24 : sg_Cu := (39, 0, [(0, .inr (some (false, 1)))], ([.inl 1, .inl 2, .inr 65537], [([(.ofNat 1, 0)], .negSucc 2147483647, .ofNat 2147483647), ([(.ofNat 1, 1)], .ofNat 24, .ofNat 24), ([(.ofNat 1, 2)], .ofNat 0, .ofNat 938)]), [])
def sg_ap2_24_a : sg_Cu := (36, 262144, [(0, .inr (some (false, 1)))], ([.inl 1, .inl 2, .inr 65537], [([(.ofNat 1, 6)], .ofNat 16, .ofNat 16), ([(.ofNat 1, 0), (.negSucc 0, 7)], .ofNat 0, .ofNat 0), ([(.ofNat 1, 2), (.negSucc 0, 8)], .negSucc 0, .negSucc 0), ([(.ofNat 1, 2), (.negSucc 0, 5)], .negSucc 0, .negSucc 0), ([(.ofNat 1, 0), (.negSucc 0, 3)], .ofNat 0, .ofNat 0), ([(.ofNat 1, 4)], .ofNat 16, .ofNat 16)]), [none, none, none, some (false, 2)])
theorem sg_ap2_24_ok : sg_chk zK ex_mt k9 0 tX10_append 27 5 sg_ap2_24 [] [sg_ap2_24_a] = true := by decide +kernel
def sg_ap2_16 : sg_Cu := (39, 0, [(0, .inr (some (false, 1)))], ([.inl 1, .inl 2, .inr 65537], [([(.ofNat 1, 0)], .negSucc 2147483647, .ofNat 2147483647), ([(.ofNat 1, 1)], .ofNat 16, .ofNat 16), ([(.ofNat 1, 2)], .ofNat 0, .ofNat 938)]), [])
def sg_ap2_16_a : sg_Cu := (36, 262144, [(0, .inr (some (false, 1)))], ([.inl 1, .inl 2, .inr 65537], [([(.ofNat 1, 6)], .ofNat 8, .ofNat 8), ([(.ofNat 1, 0), (.negSucc 0, 7)], .ofNat 0, .ofNat 0), ([(.ofNat 1, 2), (.negSucc 0, 8)], .negSucc 0, .negSucc 0), ([(.ofNat 1, 2), (.negSucc 0, 5)], .negSucc 0, .negSucc 0), ([(.ofNat 1, 0), (.negSucc 0, 3)], .ofNat 0, .ofNat 0), ([(.ofNat 1, 4)], .ofNat 8, .ofNat 8)]), [none, none, none, some (false, 2)])
theorem sg_ap2_16_ok : sg_chk zK ex_mt k9 0 tX10_append 27 5 sg_ap2_16 [] [sg_ap2_16_a] = true := by decide +kernel
def sg_ap2_8 : sg_Cu := (39, 0, [(0, .inr (some (false, 1)))], ([.inl 1, .inl 2, .inr 65537], [([(.ofNat 1, 0)], .negSucc 2147483647, .ofNat 2147483647), ([(.ofNat 1, 1)], .ofNat 8, .ofNat 8), ([(.ofNat 1, 2)], .ofNat 0, .ofNat 938)]), [])
def sg_ap2_8_a : sg_Cu := (36, 262144, [(0, .inr (some (false, 1)))], ([.inl 1, .inl 2, .inr 65537], [([(.ofNat 1, 6)], .ofNat 0, .ofNat 0), ([(.ofNat 1, 0), (.negSucc 0, 7)], .ofNat 0, .ofNat 0), ([(.ofNat 1, 2), (.negSucc 0, 8)], .negSucc 0, .negSucc 0), ([(.ofNat 1, 2), (.negSucc 0, 5)], .negSucc 0, .negSucc 0), ([(.ofNat 1, 0), (.negSucc 0, 3)], .ofNat 0, .ofNat 0), ([(.ofNat 1, 4)], .ofNat 0, .ofNat 0)]), [none, none, none, some (false, 2)])
theorem sg_ap2_8_ok : sg_chk zK ex_mt k9 0 tX10_append 27 5 sg_ap2_8 [] [sg_ap2_8_a] = true := by decide +kernel
def sg_ap3 : sg_Cu := (39, 0, [(0, .inr (some (false, 1)))], ([.inl 1, .inl 2, .inr 65537], [([(.ofNat 1, 0)], .negSucc 2147483647, .ofNat 2147483647), ([(.ofNat 1, 1)], .ofNat 0, .ofNat 0), ([(.ofNat 1, 2)], .ofNat 0, .ofNat 939)]), [])
def sg_ap3_p0 : sx_Po := (262144, false, [65537], [([(.ofNat 1, 2), (.negSucc 0, 3)], .negSucc 0, .negSucc 0)])
theorem sg_ap3_ok : sg_chk zK ex_mt k9 0 tX10_append 12 5 sg_ap3 [sg_ap3_p0] [] = true := by decide +kernel
def sg_xe0 : sg_Cu := (0, 0, [(0, .inr (some (false, 0)))], ([.inl 1, .inl 2, .inl 3, .inl 4, .inl 5, .inr 65537], [([(.ofNat 1, 0)], .negSucc 2147483647, .ofNat 2147483647), ([(.ofNat 1, 1)], .negSucc 2147483647, .ofNat 2147483647), ([(.ofNat 1, 2)], .negSucc 2147483647, .ofNat 2147483647), ([(.ofNat 1, 3)], .negSucc 2147483647, .ofNat 2147483647), ([(.ofNat 1, 4)], .negSucc 2147483647, .ofNat 2147483647), ([(.ofNat 1, 5)], .ofNat 921, .ofNat 940)]), [])
def sg_xe0_p0 : sx_Po := (0, true, [], [([(.ofNat 1, 6)], .negSucc 0, .negSucc 0)])
theorem sg_xe0_ok : sg_chk zK ex_mt k9 0 tX11_feed 15 12 sg_xe0 [sg_xe0_p0] [] = true := by decide +kernel
def sg_xe1 : sg_Cu := (0, 0, [(0, .inr (some (false, 0)))], ([.inl 1, .inl 2, .inl 3, .inl 4, .inl 5, .inr 65537], [([(.ofNat 1, 0)], .negSucc 2147483647, .ofNat 2147483647), ([(.ofNat 1, 1)], .negSucc 2147483647, .ofNat 2147483647), ([(.ofNat 1, 2)], .negSucc 2147483647, .ofNat 2147483647), ([(.ofNat 1, 3)], .negSucc 2147483647, .ofNat 2147483647), ([(.ofNat 1, 4)], .negSucc 2147483647, .ofNat 2147483647), ([(.ofNat 1, 5)], .ofNat 0, .ofNat 920)]), [])
def sg_xe1_a : sg_Cu := (17, 0, [(0, .inr (some (false, 0)))], ([.inl 1, .inl 2, .inl 3, .inl 4, .inl 5], [([(.ofNat 1, 0), (.negSucc 0, 11)], .ofNat 0, .ofNat 0), ([(.ofNat 1, 0), (.negSucc 0, 6)], .ofNat 0, .ofNat 0), ([(.ofNat 1, 1), (.negSucc 0, 7)], .ofNat 0, .ofNat 0), ([(.ofNat 1, 2), (.negSucc 0, 8)], .ofNat 0, .ofNat 0), ([(.ofNat 1, 3), (.negSucc 0, 9)], .ofNat 0, .ofNat 0), ([(.ofNat 1, 4), (.negSucc 0, 10)], .ofNat 0, .ofNat 0)]), [none, some (false, 1)])
theorem sg_xe1_ok : sg_chk zK ex_mt k9 0 tX11_feed 18 12 sg_xe1 [] [sg_xe1_a] = true := by decide +kernel
def sg_xe2 : sg_Cu := (20, 0, [(0, .inr (some (false, 0)))], ([.inl 1, .inl 2, .inl 3, .inl 4, .inl 5], [([(.ofNat 1, 0)], .negSucc 2147483647, .ofNat 2147483647), ([(.ofNat 1, 1)], .negSucc 2147483647, .ofNat 2147483647), ([(.ofNat 1, 2)], .negSucc 2147483647, .ofNat 2147483647), ([(.ofNat 1, 3)], .negSucc 2147483647, .ofNat 2147483647), ([(.ofNat 1, 4)], .negSucc 2147483647, .ofNat 2147483647)]), [])
def sg_xe2_a : sg_Cu := (25, 0, [(0, .inr (some (false, 0)))], ([.inl 1, .inl 2, .inl 3, .inl 4, .inl 5], [([(.ofNat 1, 1), (.negSucc 0, 10)], .ofNat 0, .ofNat 0), ([(.ofNat 1, 0), (.negSucc 0, 5)], .ofNat 0, .ofNat 0), ([(.ofNat 1, 1), (.negSucc 0, 6)], .ofNat 0, .ofNat 0), ([(.ofNat 1, 2), (.negSucc 0, 7)], .ofNat 0, .ofNat 0), ([(.ofNat 1, 3), (.negSucc 0, 8)], .ofNat 0, .ofNat 0), ([(.ofNat 1, 4), (.negSucc 0, 9)], .ofNat 0, .ofNat 0)]), [none, some (false, 1)])
theorem sg_xe2_ok : sg_chk zK ex_mt k9 0 tX11_feed 5 12 sg_xe2 [] [sg_xe2_a] = true := by decide +kernel
def sg_xe3 : sg_Cu := (28, 0, [(0, .inr (some (false, 0)))], ([.inl 1, .inl 2, .inl 3, .inl 4, .inl 5], [([(.ofNat 1, 0)], .negSucc 2147483647, .ofNat 2147483647), ([(.ofNat 1, 1)], .negSucc 2147483647, .ofNat 2147483647), ([(.ofNat 1, 2)], .negSucc 2147483647, .ofNat 2147483647), ([(.ofNat 1, 3)], .negSucc 2147483647, .ofNat 2147483647), ([(.ofNat 1, 4)], .negSucc 2147483647, .ofNat 2147483647)]), [])
def sg_xe3_a : sg_Cu := (33, 0, [(0, .inr (some (false, 0)))], ([.inl 1, .inl 2, .inl 3, .inl 4, .inl 5], [([(.ofNat 1, 2), (.negSucc 0, 10)], .ofNat 0, .ofNat 0), ([(.ofNat 1, 0), (.negSucc 0, 5)], .ofNat 0, .ofNat 0), ([(.ofNat 1, 1), (.negSucc 0, 6)], .ofNat 0, .ofNat 0), ([(.ofNat 1, 2), (.negSucc 0, 7)], .ofNat 0, .ofNat 0), ([(.ofNat 1, 3), (.negSucc 0, 8)], .ofNat 0, .ofNat 0), ([(.ofNat 1, 4), (.negSucc 0, 9)], .ofNat 0, .ofNat 0)]), [none, some (false, 1)])
theorem sg_xe3_ok : sg_chk zK ex_mt k9 0 tX11_feed 5 12 sg_xe3 [] [sg_xe3_a] = true := by decide +kernel
def sg_xe4 : sg_Cu := (36, 0, [(0, .inr (some (false, 0)))], ([.inl 1, .inl 2, .inl 3, .inl 4, .inl 5], [([(.ofNat 1, 0)], .negSucc 2147483647, .ofNat 2147483647), ([(.ofNat 1, 1)], .negSucc 2147483647, .ofNat 2147483647), ([(.ofNat 1, 2)], .negSucc 2147483647, .ofNat 2147483647), ([(.ofNat 1, 3)], .negSucc 2147483647, .ofNat 2147483647), ([(.ofNat 1, 4)], .negSucc 2147483647, .ofNat 2147483647)]), [])
def sg_xe4_a : sg_Cu := (42, 0, [(0, .inr (some (false, 0)))], ([.inl 1, .inl 2, .inl 3, .inl 4, .inl 5], [([(.ofNat 1, 3), (.negSucc 0, 10)], .ofNat 0, .ofNat 0), ([(.ofNat 1, 0), (.negSucc 0, 5)], .ofNat 0, .ofNat 0), ([(.ofNat 1, 1), (.negSucc 0, 6)], .ofNat 0, .ofNat 0), ([(.ofNat 1, 2), (.negSucc 0, 7)], .ofNat 0, .ofNat 0), ([(.ofNat 1, 3), (.negSucc 0, 8)], .ofNat 0, .ofNat 0), ([(.ofNat 1, 4), (.negSucc 0, 9)], .ofNat 0, .ofNat 0)]), [none, some (false, 1)])
theorem sg_xe4_ok : sg_chk zK ex_mt k9 0 tX11_feed 5 12 sg_xe4 [] [sg_xe4_a] = true := by decide +kernel
def sg_xe5 : sg_Cu := (45, 0, [(0, .inr (some (false, 0)))], ([.inl 1, .inl 2, .inl 3, .inl 4, .inl 5], [([(.ofNat 1, 0)], .negSucc 2147483647, .ofNat 2147483647), ([(.ofNat 1, 1)], .negSucc 2147483647, .ofNat 2147483647), ([(.ofNat 1, 2)], .negSucc 2147483647, .ofNat 2147483647), ([(.ofNat 1, 3)], .negSucc 2147483647, .ofNat 2147483647), ([(.ofNat 1, 4)], .negSucc 2147483647, .ofNat 2147483647)]), [])
def sg_xe5_a : sg_Cu := (51, 0, [(0, .inr (some (false, 0)))], ([.inl 1, .inl 2, .inl 3, .inl 4, .inl 5], [([(.ofNat 1, 4), (.negSucc 0, 10)], .ofNat 0, .ofNat 0), ([(.ofNat 1, 0), (.negSucc 0, 5)], .ofNat 0, .ofNat 0), ([(.ofNat 1, 1), (.negSucc 0, 6)], .ofNat 0, .ofNat 0), ([(.ofNat 1, 2), (.negSucc 0, 7)], .ofNat 0, .ofNat 0), ([(.ofNat 1, 3), (.negSucc 0, 8)], .ofNat 0, .ofNat 0), ([(.ofNat 1, 4), (.negSucc 0, 9)], .ofNat 0, .ofNat 0)]), [none, some (false, 1)])
theorem sg_xe5_ok : sg_chk zK ex_mt k9 0 tX11_feed 5 12 sg_xe5 [] [sg_xe5_a] = true := by decide +kernel
def sg_xe6 : sg_Cu := (54, 0, [(0, .inr (some (false, 0)))], ([.inr 65537], [([(.ofNat 1, 0)], .ofNat 0, .ofNat 940)]), [])
def sg_xe6_p0 : sx_Po := (0, true, [], [([(.ofNat 1, 0), (.negSucc 0, 1)], .ofNat 0, .ofNat 0)])
theorem sg_xe6_ok : sg_chk zK ex_mt k9 0 tX11_feed 5 12 sg_xe6 [sg_xe6_p0] [] = true := by decide +kernel
section HR
variable {g : am_C} {L : Nat} {xs : Nat → Int32}
theorem sg_fo1_run (G : sx_G0 g L xs zK hd_T ex_mt) (hct : ∀ (mi : Nat) (T2 : ex_T) (c' : sx_Ct), ex_mt mi = some T2 → c' ∈ k9 mi → c'.1 < 0 → sx_Holds g zK hd_T T2 c') {σ : am_S} {lw : List (Nat × Value)} {post : Option (Option Value) → am_S → Prop} (hM : sx_M zK hd_T σ 0 0 σ) (hl : (0, Value.ref 118) ∈ lw) {m1 : Int32} (hl1 : (1, Value.int m1) ∈ lw) (bp118_2 : 0 ≤ (σ.2.1 118 2).toInt ∧ (σ.2.1 118 2).toInt ≤ 939) (cuta : ∀ (lw' : List (Nat × Value)) (m1' : Int32) (m2' : Int32) (n0' : Int32) (n1' : Int32) (n2' : Int32) (σ' : am_S), (0, Value.ref 118) ∈ lw' → (1, Value.int m1') ∈ lw' → (2, Value.int m2') ∈ lw' → (24 ≤ 1 * n0'.toInt + 0 ∧ 1 * n0'.toInt + 0 ≤ 24) → (0 ≤ 1 * m1.toInt + ((-1) * n1'.toInt + 0) ∧ 1 * m1.toInt + ((-1) * n1'.toInt + 0) ≤ 0) → (0 ≤ 1 * (σ.2.1 118 2).toInt + ((-1) * n2'.toInt + 0) ∧ 1 * (σ.2.1 118 2).toInt + ((-1) * n2'.toInt + 0) ≤ 0) → (0 ≤ 1 * m1.toInt + ((-1) * m1'.toInt + 0) ∧ 1 * m1.toInt + ((-1) * m1'.toInt + 0) ≤ 0) → (24 ≤ 1 * m2'.toInt + 0 ∧ 1 * m2'.toInt + 0 ≤ 24) → sx_M zK hd_T σ 0 0 σ' → am_K g 5 tX12_four.1 0 0 17 lw' [.int n0', .int n1', .int n2', .ref 119] σ' post) : am_K g 5 tX12_four.1 0 0 0 lw [] σ post := by
  refine sg_seg (sw := []) (vs := [m1.toInt, (σ.2.1 118 2).toInt]) (ws := []) G (mi := 107) rfl hct sg_fo1_ok ⟨⟨m1, hl1, rfl⟩, ⟨rfl, trivial⟩⟩ (hd_refs hl) trivial (hd_p1 rfl (Int32.le_toInt _) (Int32.toInt_le _) (hd_p1 rfl bp118_2.1 bp118_2.2 hd_p0)) hM ?_ ?_
  · intro r σ' hq
    cases r with
    | none => exact hq.elim
    | some v =>
      obtain ⟨p, hp, hM2, ks, hk, hv⟩ := hq
      cases hp
  · intro u hu
    simp only [List.mem_cons, List.not_mem_nil, or_false] at hu
    rcases hu with rfl
    · intro lw' sw' vs' ws' σ' ⟨h1_0, h2, h3_0, h4, h5⟩
      obtain ⟨m1', vs1, rfl, hm1, h1_1⟩ := hd_srcl h1_0
      obtain ⟨m2', vs2, rfl, hm2, h1_2⟩ := hd_srcl h1_1
      obtain ⟨vs3, rfl, h1_3⟩ := hd_srcs h1_2
      obtain rfl := hd_src0 h1_3
      obtain ⟨n0', sw1, ws1, rfl, rfl, h3_1⟩ := hd_sti h3_0
      obtain ⟨n1', sw2, ws2, rfl, rfl, h3_2⟩ := hd_sti h3_1
      obtain ⟨n2', sw3, ws3, rfl, rfl, h3_3⟩ := hd_sti h3_2
      obtain ⟨sw4, rfl, h3_4⟩ := hd_str h3_3
      obtain ⟨rfl, rfl⟩ := hd_st0 h3_4
      have hr9 := hd_ref0 h2
      obtain ⟨v0, e0, l0, u0⟩ := h4 _ (List.mem_cons_self)
      have g0 : 1 * n0'.toInt + 0 = v0 := Option.some.inj e0
      obtain ⟨v1, e1, l1, u1⟩ := h4 _ (List.mem_cons_of_mem _ (List.mem_cons_self))
      have g1 : 1 * m1.toInt + ((-1) * n1'.toInt + 0) = v1 := Option.some.inj e1
      obtain ⟨v2, e2, l2, u2⟩ := h4 _ (List.mem_cons_of_mem _ (List.mem_cons_of_mem _ (List.mem_cons_self)))
      have g2 : 1 * (σ.2.1 118 2).toInt + ((-1) * n2'.toInt + 0) = v2 := Option.some.inj e2
      obtain ⟨v3, e3, l3, u3⟩ := h4 _ (List.mem_cons_of_mem _ (List.mem_cons_of_mem _ (List.mem_cons_of_mem _ (List.mem_cons_self))))
      have g3 : 1 * m1.toInt + ((-1) * m1'.toInt + 0) = v3 := Option.some.inj e3
      obtain ⟨v4, e4, l4, u4⟩ := h4 _ (List.mem_cons_of_mem _ (List.mem_cons_of_mem _ (List.mem_cons_of_mem _ (List.mem_cons_of_mem _ (List.mem_cons_self)))))
      have g4 : 1 * m2'.toInt + 0 = v4 := Option.some.inj e4
      exact cuta _ _ _ _ _ _ _ hr9 hm1 hm2 ⟨by rw [g0]; exact l0, by rw [g0]; exact u0⟩ ⟨by rw [g1]; exact l1, by rw [g1]; exact u1⟩ ⟨by rw [g2]; exact l2, by rw [g2]; exact u2⟩ ⟨by rw [g3]; exact l3, by rw [g3]; exact u3⟩ ⟨by rw [g4]; exact l4, by rw [g4]; exact u4⟩ h5
theorem sg_fo2_24_run (G : sx_G0 g L xs zK hd_T ex_mt) (hct : ∀ (mi : Nat) (T2 : ex_T) (c' : sx_Ct), ex_mt mi = some T2 → c' ∈ k9 mi → c'.1 < 0 → sx_Holds g zK hd_T T2 c') {σ : am_S} {lw : List (Nat × Value)} {post : Option (Option Value) → am_S → Prop} (hM : sx_M zK hd_T σ 0 0 σ) (hl : (0, Value.ref 118) ∈ lw) {m1 : Int32} (hl1 : (1, Value.int m1) ∈ lw) {m2 : Int32} (hl2 : (2, Value.int m2) ∈ lw) (bl2 : 24 ≤ m2.toInt ∧ m2.toInt ≤ 24) (bp118_2 : 0 ≤ (σ.2.1 118 2).toInt ∧ (σ.2.1 118 2).toInt ≤ 938) (cuta : ∀ (lw' : List (Nat × Value)) (m1' : Int32) (m2' : Int32) (n0' : Int32) (n1' : Int32) (n2' : Int32) (σ' : am_S), (0, Value.ref 118) ∈ lw' → (1, Value.int m1') ∈ lw' → (2, Value.int m2') ∈ lw' → (16 ≤ 1 * n0'.toInt + 0 ∧ 1 * n0'.toInt + 0 ≤ 16) → (0 ≤ 1 * m1.toInt + ((-1) * n1'.toInt + 0) ∧ 1 * m1.toInt + ((-1) * n1'.toInt + 0) ≤ 0) → ((-1) ≤ 1 * (σ.2.1 118 2).toInt + ((-1) * n2'.toInt + 0) ∧ 1 * (σ.2.1 118 2).toInt + ((-1) * n2'.toInt + 0) ≤ (-1)) → ((-1) ≤ 1 * (σ.2.1 118 2).toInt + ((-1) * (σ'.2.1 118 2).toInt + 0) ∧ 1 * (σ.2.1 118 2).toInt + ((-1) * (σ'.2.1 118 2).toInt + 0) ≤ (-1)) → (0 ≤ 1 * m1.toInt + ((-1) * m1'.toInt + 0) ∧ 1 * m1.toInt + ((-1) * m1'.toInt + 0) ≤ 0) → (16 ≤ 1 * m2'.toInt + 0 ∧ 1 * m2'.toInt + 0 ≤ 16) → sx_M zK hd_T σ 4697085165547666455778961193578674054751365097816639741414581943064418050229216886927397996769537406063869952 0 σ' → am_K g 5 tX12_four.1 0 0 17 lw' [.int n0', .int n1', .int n2', .ref 119] σ' post) : am_K g 5 tX12_four.1 0 0 20 lw [] σ post := by
  refine sg_seg (sw := []) (vs := [m1.toInt, m2.toInt, (σ.2.1 118 2).toInt]) (ws := []) G (mi := 107) rfl hct sg_fo2_24_ok ⟨⟨m1, hl1, rfl⟩, ⟨⟨m2, hl2, rfl⟩, ⟨rfl, trivial⟩⟩⟩ (hd_refs hl) trivial (hd_p1 rfl (Int32.le_toInt _) (Int32.toInt_le _) (hd_p1 rfl bl2.1 bl2.2 (hd_p1 rfl bp118_2.1 bp118_2.2 hd_p0))) hM ?_ ?_
  · intro r σ' hq
    cases r with
    | none => exact hq.elim
    | some v =>
      obtain ⟨p, hp, hM2, ks, hk, hv⟩ := hq
      cases hp
  · intro u hu
    simp only [List.mem_cons, List.not_mem_nil, or_false] at hu
    rcases hu with rfl
    · intro lw' sw' vs' ws' σ' ⟨h1_0, h2, h3_0, h4, h5⟩
      obtain ⟨m1', vs1, rfl, hm1, h1_1⟩ := hd_srcl h1_0
      obtain ⟨m2', vs2, rfl, hm2, h1_2⟩ := hd_srcl h1_1
      obtain ⟨vs3, rfl, h1_3⟩ := hd_srcs h1_2
      obtain rfl := hd_src0 h1_3
      obtain ⟨n0', sw1, ws1, rfl, rfl, h3_1⟩ := hd_sti h3_0
      obtain ⟨n1', sw2, ws2, rfl, rfl, h3_2⟩ := hd_sti h3_1
      obtain ⟨n2', sw3, ws3, rfl, rfl, h3_3⟩ := hd_sti h3_2
      obtain ⟨sw4, rfl, h3_4⟩ := hd_str h3_3
      obtain ⟨rfl, rfl⟩ := hd_st0 h3_4
      have hr9 := hd_ref0 h2
      obtain ⟨v0, e0, l0, u0⟩ := h4 _ (List.mem_cons_self)
      have g0 : 1 * n0'.toInt + 0 = v0 := Option.some.inj e0
      obtain ⟨v1, e1, l1, u1⟩ := h4 _ (List.mem_cons_of_mem _ (List.mem_cons_self))
      have g1 : 1 * m1.toInt + ((-1) * n1'.toInt + 0) = v1 := Option.some.inj e1
      obtain ⟨v2, e2, l2, u2⟩ := h4 _ (List.mem_cons_of_mem _ (List.mem_cons_of_mem _ (List.mem_cons_self)))
      have g2 : 1 * (σ.2.1 118 2).toInt + ((-1) * n2'.toInt + 0) = v2 := Option.some.inj e2
      obtain ⟨v3, e3, l3, u3⟩ := h4 _ (List.mem_cons_of_mem _ (List.mem_cons_of_mem _ (List.mem_cons_of_mem _ (List.mem_cons_self))))
      have g3 : 1 * (σ.2.1 118 2).toInt + ((-1) * (σ'.2.1 118 2).toInt + 0) = v3 := Option.some.inj e3
      obtain ⟨v4, e4, l4, u4⟩ := h4 _ (List.mem_cons_of_mem _ (List.mem_cons_of_mem _ (List.mem_cons_of_mem _ (List.mem_cons_of_mem _ (List.mem_cons_self)))))
      have g4 : 1 * m1.toInt + ((-1) * m1'.toInt + 0) = v4 := Option.some.inj e4
      obtain ⟨v5, e5, l5, u5⟩ := h4 _ (List.mem_cons_of_mem _ (List.mem_cons_of_mem _ (List.mem_cons_of_mem _ (List.mem_cons_of_mem _ (List.mem_cons_of_mem _ (List.mem_cons_self))))))
      have g5 : 1 * m2'.toInt + 0 = v5 := Option.some.inj e5
      exact cuta _ _ _ _ _ _ _ hr9 hm1 hm2 ⟨by rw [g0]; exact l0, by rw [g0]; exact u0⟩ ⟨by rw [g1]; exact l1, by rw [g1]; exact u1⟩ ⟨by rw [g2]; exact l2, by rw [g2]; exact u2⟩ ⟨by rw [g3]; exact l3, by rw [g3]; exact u3⟩ ⟨by rw [g4]; exact l4, by rw [g4]; exact u4⟩ ⟨by rw [g5]; exact l5, by rw [g5]; exact u5⟩ h5
theorem sg_fo2_16_run (G : sx_G0 g L xs zK hd_T ex_mt) (hct : ∀ (mi : Nat) (T2 : ex_T) (c' : sx_Ct), ex_mt mi = some T2 → c' ∈ k9 mi → c'.1 < 0 → sx_Holds g zK hd_T T2 c') {σ : am_S} {lw : List (Nat × Value)} {post : Option (Option Value) → am_S → Prop} (hM : sx_M zK hd_T σ 0 0 σ) (hl : (0, Value.ref 118) ∈ lw) {m1 : Int32} (hl1 : (1, Value.int m1) ∈ lw) {m2 : Int32} (hl2 : (2, Value.int m2) ∈ lw) (bl2 : 16 ≤ m2.toInt ∧ m2.toInt ≤ 16) (bp118_2 : 0 ≤ (σ.2.1 118 2).toInt ∧ (σ.2.1 118 2).toInt ≤ 938) (cuta : ∀ (lw' : List (Nat × Value)) (m1' : Int32) (m2' : Int32) (n0' : Int32) (n1' : Int32) (n2' : Int32) (σ' : am_S), (0, Value.ref 118) ∈ lw' → (1, Value.int m1') ∈ lw' → (2, Value.int m2') ∈ lw' → (8 ≤ 1 * n0'.toInt + 0 ∧ 1 * n0'.toInt + 0 ≤ 8) → (0 ≤ 1 * m1.toInt + ((-1) * n1'.toInt + 0) ∧ 1 * m1.toInt + ((-1) * n1'.toInt + 0) ≤ 0) → ((-1) ≤ 1 * (σ.2.1 118 2).toInt + ((-1) * n2'.toInt + 0) ∧ 1 * (σ.2.1 118 2).toInt + ((-1) * n2'.toInt + 0) ≤ (-1)) → ((-1) ≤ 1 * (σ.2.1 118 2).toInt + ((-1) * (σ'.2.1 118 2).toInt + 0) ∧ 1 * (σ.2.1 118 2).toInt + ((-1) * (σ'.2.1 118 2).toInt + 0) ≤ (-1)) → (0 ≤ 1 * m1.toInt + ((-1) * m1'.toInt + 0) ∧ 1 * m1.toInt + ((-1) * m1'.toInt + 0) ≤ 0) → (8 ≤ 1 * m2'.toInt + 0 ∧ 1 * m2'.toInt + 0 ≤ 8) → sx_M zK hd_T σ 4697085165547666455778961193578674054751365097816639741414581943064418050229216886927397996769537406063869952 0 σ' → am_K g 5 tX12_four.1 0 0 17 lw' [.int n0', .int n1', .int n2', .ref 119] σ' post) : am_K g 5 tX12_four.1 0 0 20 lw [] σ post := by
  refine sg_seg (sw := []) (vs := [m1.toInt, m2.toInt, (σ.2.1 118 2).toInt]) (ws := []) G (mi := 107) rfl hct sg_fo2_16_ok ⟨⟨m1, hl1, rfl⟩, ⟨⟨m2, hl2, rfl⟩, ⟨rfl, trivial⟩⟩⟩ (hd_refs hl) trivial (hd_p1 rfl (Int32.le_toInt _) (Int32.toInt_le _) (hd_p1 rfl bl2.1 bl2.2 (hd_p1 rfl bp118_2.1 bp118_2.2 hd_p0))) hM ?_ ?_
  · intro r σ' hq
    cases r with
    | none => exact hq.elim
    | some v =>
      obtain ⟨p, hp, hM2, ks, hk, hv⟩ := hq
      cases hp
  · intro u hu
    simp only [List.mem_cons, List.not_mem_nil, or_false] at hu
    rcases hu with rfl
    · intro lw' sw' vs' ws' σ' ⟨h1_0, h2, h3_0, h4, h5⟩
      obtain ⟨m1', vs1, rfl, hm1, h1_1⟩ := hd_srcl h1_0
      obtain ⟨m2', vs2, rfl, hm2, h1_2⟩ := hd_srcl h1_1
      obtain ⟨vs3, rfl, h1_3⟩ := hd_srcs h1_2
      obtain rfl := hd_src0 h1_3
      obtain ⟨n0', sw1, ws1, rfl, rfl, h3_1⟩ := hd_sti h3_0
      obtain ⟨n1', sw2, ws2, rfl, rfl, h3_2⟩ := hd_sti h3_1
      obtain ⟨n2', sw3, ws3, rfl, rfl, h3_3⟩ := hd_sti h3_2
      obtain ⟨sw4, rfl, h3_4⟩ := hd_str h3_3
      obtain ⟨rfl, rfl⟩ := hd_st0 h3_4
      have hr9 := hd_ref0 h2
      obtain ⟨v0, e0, l0, u0⟩ := h4 _ (List.mem_cons_self)
      have g0 : 1 * n0'.toInt + 0 = v0 := Option.some.inj e0
      obtain ⟨v1, e1, l1, u1⟩ := h4 _ (List.mem_cons_of_mem _ (List.mem_cons_self))
      have g1 : 1 * m1.toInt + ((-1) * n1'.toInt + 0) = v1 := Option.some.inj e1
      obtain ⟨v2, e2, l2, u2⟩ := h4 _ (List.mem_cons_of_mem _ (List.mem_cons_of_mem _ (List.mem_cons_self)))
      have g2 : 1 * (σ.2.1 118 2).toInt + ((-1) * n2'.toInt + 0) = v2 := Option.some.inj e2
      obtain ⟨v3, e3, l3, u3⟩ := h4 _ (List.mem_cons_of_mem _ (List.mem_cons_of_mem _ (List.mem_cons_of_mem _ (List.mem_cons_self))))
      have g3 : 1 * (σ.2.1 118 2).toInt + ((-1) * (σ'.2.1 118 2).toInt + 0) = v3 := Option.some.inj e3
      obtain ⟨v4, e4, l4, u4⟩ := h4 _ (List.mem_cons_of_mem _ (List.mem_cons_of_mem _ (List.mem_cons_of_mem _ (List.mem_cons_of_mem _ (List.mem_cons_self)))))
      have g4 : 1 * m1.toInt + ((-1) * m1'.toInt + 0) = v4 := Option.some.inj e4
      obtain ⟨v5, e5, l5, u5⟩ := h4 _ (List.mem_cons_of_mem _ (List.mem_cons_of_mem _ (List.mem_cons_of_mem _ (List.mem_cons_of_mem _ (List.mem_cons_of_mem _ (List.mem_cons_self))))))
      have g5 : 1 * m2'.toInt + 0 = v5 := Option.some.inj e5
      exact cuta _ _ _ _ _ _ _ hr9 hm1 hm2 ⟨by rw [g0]; exact l0, by rw [g0]; exact u0⟩ ⟨by rw [g1]; exact l1, by rw [g1]; exact u1⟩ ⟨by rw [g2]; exact l2, by rw [g2]; exact u2⟩ ⟨by rw [g3]; exact l3, by rw [g3]; exact u3⟩ ⟨by rw [g4]; exact l4, by rw [g4]; exact u4⟩ ⟨by rw [g5]; exact l5, by rw [g5]; exact u5⟩ h5
theorem sg_fo2_8_run (G : sx_G0 g L xs zK hd_T ex_mt) (hct : ∀ (mi : Nat) (T2 : ex_T) (c' : sx_Ct), ex_mt mi = some T2 → c' ∈ k9 mi → c'.1 < 0 → sx_Holds g zK hd_T T2 c') {σ : am_S} {lw : List (Nat × Value)} {post : Option (Option Value) → am_S → Prop} (hM : sx_M zK hd_T σ 0 0 σ) (hl : (0, Value.ref 118) ∈ lw) {m1 : Int32} (hl1 : (1, Value.int m1) ∈ lw) {m2 : Int32} (hl2 : (2, Value.int m2) ∈ lw) (bl2 : 8 ≤ m2.toInt ∧ m2.toInt ≤ 8) (bp118_2 : 0 ≤ (σ.2.1 118 2).toInt ∧ (σ.2.1 118 2).toInt ≤ 938) (cuta : ∀ (lw' : List (Nat × Value)) (m1' : Int32) (m2' : Int32) (n0' : Int32) (n1' : Int32) (n2' : Int32) (σ' : am_S), (0, Value.ref 118) ∈ lw' → (1, Value.int m1') ∈ lw' → (2, Value.int m2') ∈ lw' → (0 ≤ 1 * n0'.toInt + 0 ∧ 1 * n0'.toInt + 0 ≤ 0) → (0 ≤ 1 * m1.toInt + ((-1) * n1'.toInt + 0) ∧ 1 * m1.toInt + ((-1) * n1'.toInt + 0) ≤ 0) → ((-1) ≤ 1 * (σ.2.1 118 2).toInt + ((-1) * n2'.toInt + 0) ∧ 1 * (σ.2.1 118 2).toInt + ((-1) * n2'.toInt + 0) ≤ (-1)) → ((-1) ≤ 1 * (σ.2.1 118 2).toInt + ((-1) * (σ'.2.1 118 2).toInt + 0) ∧ 1 * (σ.2.1 118 2).toInt + ((-1) * (σ'.2.1 118 2).toInt + 0) ≤ (-1)) → (0 ≤ 1 * m1.toInt + ((-1) * m1'.toInt + 0) ∧ 1 * m1.toInt + ((-1) * m1'.toInt + 0) ≤ 0) → (0 ≤ 1 * m2'.toInt + 0 ∧ 1 * m2'.toInt + 0 ≤ 0) → sx_M zK hd_T σ 4697085165547666455778961193578674054751365097816639741414581943064418050229216886927397996769537406063869952 0 σ' → am_K g 5 tX12_four.1 0 0 17 lw' [.int n0', .int n1', .int n2', .ref 119] σ' post) : am_K g 5 tX12_four.1 0 0 20 lw [] σ post := by
  refine sg_seg (sw := []) (vs := [m1.toInt, m2.toInt, (σ.2.1 118 2).toInt]) (ws := []) G (mi := 107) rfl hct sg_fo2_8_ok ⟨⟨m1, hl1, rfl⟩, ⟨⟨m2, hl2, rfl⟩, ⟨rfl, trivial⟩⟩⟩ (hd_refs hl) trivial (hd_p1 rfl (Int32.le_toInt _) (Int32.toInt_le _) (hd_p1 rfl bl2.1 bl2.2 (hd_p1 rfl bp118_2.1 bp118_2.2 hd_p0))) hM ?_ ?_
  · intro r σ' hq
    cases r with
    | none => exact hq.elim
    | some v =>
      obtain ⟨p, hp, hM2, ks, hk, hv⟩ := hq
      cases hp
  · intro u hu
    simp only [List.mem_cons, List.not_mem_nil, or_false] at hu
    rcases hu with rfl
    · intro lw' sw' vs' ws' σ' ⟨h1_0, h2, h3_0, h4, h5⟩
      obtain ⟨m1', vs1, rfl, hm1, h1_1⟩ := hd_srcl h1_0
      obtain ⟨m2', vs2, rfl, hm2, h1_2⟩ := hd_srcl h1_1
      obtain ⟨vs3, rfl, h1_3⟩ := hd_srcs h1_2
      obtain rfl := hd_src0 h1_3
      obtain ⟨n0', sw1, ws1, rfl, rfl, h3_1⟩ := hd_sti h3_0
      obtain ⟨n1', sw2, ws2, rfl, rfl, h3_2⟩ := hd_sti h3_1
      obtain ⟨n2', sw3, ws3, rfl, rfl, h3_3⟩ := hd_sti h3_2
      obtain ⟨sw4, rfl, h3_4⟩ := hd_str h3_3
      obtain ⟨rfl, rfl⟩ := hd_st0 h3_4
      have hr9 := hd_ref0 h2
      obtain ⟨v0, e0, l0, u0⟩ := h4 _ (List.mem_cons_self)
      have g0 : 1 * n0'.toInt + 0 = v0 := Option.some.inj e0
      obtain ⟨v1, e1, l1, u1⟩ := h4 _ (List.mem_cons_of_mem _ (List.mem_cons_self))
      have g1 : 1 * m1.toInt + ((-1) * n1'.toInt + 0) = v1 := Option.some.inj e1
      obtain ⟨v2, e2, l2, u2⟩ := h4 _ (List.mem_cons_of_mem _ (List.mem_cons_of_mem _ (List.mem_cons_self)))
      have g2 : 1 * (σ.2.1 118 2).toInt + ((-1) * n2'.toInt + 0) = v2 := Option.some.inj e2
      obtain ⟨v3, e3, l3, u3⟩ := h4 _ (List.mem_cons_of_mem _ (List.mem_cons_of_mem _ (List.mem_cons_of_mem _ (List.mem_cons_self))))
      have g3 : 1 * (σ.2.1 118 2).toInt + ((-1) * (σ'.2.1 118 2).toInt + 0) = v3 := Option.some.inj e3
      obtain ⟨v4, e4, l4, u4⟩ := h4 _ (List.mem_cons_of_mem _ (List.mem_cons_of_mem _ (List.mem_cons_of_mem _ (List.mem_cons_of_mem _ (List.mem_cons_self)))))
      have g4 : 1 * m1.toInt + ((-1) * m1'.toInt + 0) = v4 := Option.some.inj e4
      obtain ⟨v5, e5, l5, u5⟩ := h4 _ (List.mem_cons_of_mem _ (List.mem_cons_of_mem _ (List.mem_cons_of_mem _ (List.mem_cons_of_mem _ (List.mem_cons_of_mem _ (List.mem_cons_self))))))
      have g5 : 1 * m2'.toInt + 0 = v5 := Option.some.inj e5
      exact cuta _ _ _ _ _ _ _ hr9 hm1 hm2 ⟨by rw [g0]; exact l0, by rw [g0]; exact u0⟩ ⟨by rw [g1]; exact l1, by rw [g1]; exact u1⟩ ⟨by rw [g2]; exact l2, by rw [g2]; exact u2⟩ ⟨by rw [g3]; exact l3, by rw [g3]; exact u3⟩ ⟨by rw [g4]; exact l4, by rw [g4]; exact u4⟩ ⟨by rw [g5]; exact l5, by rw [g5]; exact u5⟩ h5
theorem sg_fo3_run (G : sx_G0 g L xs zK hd_T ex_mt) (hct : ∀ (mi : Nat) (T2 : ex_T) (c' : sx_Ct), ex_mt mi = some T2 → c' ∈ k9 mi → c'.1 < 0 → sx_Holds g zK hd_T T2 c') {σ : am_S} {lw : List (Nat × Value)} {post : Option (Option Value) → am_S → Prop} (hM : sx_M zK hd_T σ 0 0 σ) (hl : (0, Value.ref 118) ∈ lw) {m1 : Int32} (hl1 : (1, Value.int m1) ∈ lw) {m2 : Int32} (hl2 : (2, Value.int m2) ∈ lw) (bl2 : 0 ≤ m2.toInt ∧ m2.toInt ≤ 0) (bp118_2 : 0 ≤ (σ.2.1 118 2).toInt ∧ (σ.2.1 118 2).toInt ≤ 939) (ret0 : ∀ (σ' : am_S), ((-1) ≤ 1 * (σ.2.1 118 2).toInt + ((-1) * (σ'.2.1 118 2).toInt + 0) ∧ 1 * (σ.2.1 118 2).toInt + ((-1) * (σ'.2.1 118 2).toInt + 0) ≤ (-1)) → sx_M zK hd_T σ 4697085165547666455778961193578674054751365097816639741414581943064418050229216886927397996769537406063869952 0 σ' → post (some none) σ') : am_K g 5 tX12_four.1 0 0 20 lw [] σ post := by
  refine sg_seg (sw := []) (vs := [m1.toInt, m2.toInt, (σ.2.1 118 2).toInt]) (ws := []) G (mi := 107) rfl hct sg_fo3_ok ⟨⟨m1, hl1, rfl⟩, ⟨⟨m2, hl2, rfl⟩, ⟨rfl, trivial⟩⟩⟩ (hd_refs hl) trivial (hd_p1 rfl (Int32.le_toInt _) (Int32.toInt_le _) (hd_p1 rfl bl2.1 bl2.2 (hd_p1 rfl bp118_2.1 bp118_2.2 hd_p0))) hM ?_ ?_
  · intro r σ' hq
    cases r with
    | none => exact hq.elim
    | some v =>
      obtain ⟨p, hp, hM2, ks, hk, hv⟩ := hq
      simp only [List.mem_cons, List.not_mem_nil, or_false] at hp
      rcases hp with rfl
      · obtain ⟨ks0, rfl, hk1⟩ := hd_keyc hk; obtain rfl := hd_keys hk1
        cases v with
        | some w9 => exact hv.elim
        | none =>
          have hP := hv
          obtain ⟨v0, e0, l0, u0⟩ := hP _ (List.mem_cons_self)
          have g0 : 1 * (σ.2.1 118 2).toInt + ((-1) * (σ'.2.1 118 2).toInt + 0) = v0 := Option.some.inj e0
          exact ret0 _ ⟨by rw [g0]; exact l0, by rw [g0]; exact u0⟩ hM2
  · intro u hu
    cases hu
theorem sg_fe0_run (G : sx_G0 g L xs zK hd_T ex_mt) (hct : ∀ (mi : Nat) (T2 : ex_T) (c' : sx_Ct), ex_mt mi = some T2 → c' ∈ k9 mi → c'.1 < 0 → sx_Holds g zK hd_T T2 c') {σ : am_S} {lw : List (Nat × Value)} {post : Option (Option Value) → am_S → Prop} (hM : sx_M zK hd_T σ 0 0 σ) (hl : (0, Value.ref 118) ∈ lw) {m1 : Int32} (hl1 : (1, Value.int m1) ∈ lw) {m2 : Int32} (hl2 : (2, Value.int m2) ∈ lw) {m3 : Int32} (hl3 : (3, Value.int m3) ∈ lw) {m4 : Int32} (hl4 : (4, Value.int m4) ∈ lw) {m5 : Int32} (hl5 : (5, Value.int m5) ∈ lw) (bp118_2 : 921 ≤ (σ.2.1 118 2).toInt ∧ (σ.2.1 118 2).toInt ≤ 940) (ret0 : ∀ (r : Int32) (σ' : am_S), ((-1) ≤ 1 * r.toInt + 0 ∧ 1 * r.toInt + 0 ≤ (-1)) → sx_M zK hd_T σ 1174271291386916613944740298394668513687841274454159935353645485766104512557304221731849499192384351515967488 0 σ' → post (some (some (.int r))) σ') : am_K g 12 tX12_feed.1 0 0 0 lw [] σ post := by
  refine sg_seg (sw := []) (vs := [m1.toInt, m2.toInt, m3.toInt, m4.toInt, m5.toInt, (σ.2.1 118 2).toInt]) (ws := []) G (mi := 106) rfl hct sg_fe0_ok ⟨⟨m1, hl1, rfl⟩, ⟨⟨m2, hl2, rfl⟩, ⟨⟨m3, hl3, rfl⟩, ⟨⟨m4, hl4, rfl⟩, ⟨⟨m5, hl5, rfl⟩, ⟨rfl, trivial⟩⟩⟩⟩⟩⟩ (hd_refs hl) trivial (hd_p1 rfl (Int32.le_toInt _) (Int32.toInt_le _) (hd_p1 rfl (Int32.le_toInt _) (Int32.toInt_le _) (hd_p1 rfl (Int32.le_toInt _) (Int32.toInt_le _) (hd_p1 rfl (Int32.le_toInt _) (Int32.toInt_le _) (hd_p1 rfl (Int32.le_toInt _) (Int32.toInt_le _) (hd_p1 rfl bp118_2.1 bp118_2.2 hd_p0)))))) hM ?_ ?_
  · intro r σ' hq
    cases r with
    | none => exact hq.elim
    | some v =>
      obtain ⟨p, hp, hM2, ks, hk, hv⟩ := hq
      simp only [List.mem_cons, List.not_mem_nil, or_false] at hp
      rcases hp with rfl
      · obtain rfl := hd_keys hk
        cases v with
        | none => exact hv.elim
        | some w9 =>
          obtain ⟨r, rfl, hP⟩ := hv
          obtain ⟨v0, e0, l0, u0⟩ := hP _ (List.mem_cons_self)
          have g0 : 1 * r.toInt + 0 = v0 := Option.some.inj e0
          exact ret0 r _ ⟨by rw [g0]; exact l0, by rw [g0]; exact u0⟩ hM2
  · intro u hu
    cases hu
theorem sg_fe1_run (G : sx_G0 g L xs zK hd_T ex_mt) (hct : ∀ (mi : Nat) (T2 : ex_T) (c' : sx_Ct), ex_mt mi = some T2 → c' ∈ k9 mi → c'.1 < 0 → sx_Holds g zK hd_T T2 c') {σ : am_S} {lw : List (Nat × Value)} {post : Option (Option Value) → am_S → Prop} (hM : sx_M zK hd_T σ 0 0 σ) (hl : (0, Value.ref 118) ∈ lw) {m1 : Int32} (hl1 : (1, Value.int m1) ∈ lw) {m2 : Int32} (hl2 : (2, Value.int m2) ∈ lw) {m3 : Int32} (hl3 : (3, Value.int m3) ∈ lw) {m4 : Int32} (hl4 : (4, Value.int m4) ∈ lw) {m5 : Int32} (hl5 : (5, Value.int m5) ∈ lw) (bp118_2 : 0 ≤ (σ.2.1 118 2).toInt ∧ (σ.2.1 118 2).toInt ≤ 920) (cuta : ∀ (lw' : List (Nat × Value)) (m1' : Int32) (m2' : Int32) (m3' : Int32) (m4' : Int32) (m5' : Int32) (n0' : Int32) (σ' : am_S), (0, Value.ref 118) ∈ lw' → (1, Value.int m1') ∈ lw' → (2, Value.int m2') ∈ lw' → (3, Value.int m3') ∈ lw' → (4, Value.int m4') ∈ lw' → (5, Value.int m5') ∈ lw' → (0 ≤ 1 * m1.toInt + ((-1) * n0'.toInt + 0) ∧ 1 * m1.toInt + ((-1) * n0'.toInt + 0) ≤ 0) → (0 ≤ 1 * m1.toInt + ((-1) * m1'.toInt + 0) ∧ 1 * m1.toInt + ((-1) * m1'.toInt + 0) ≤ 0) → (0 ≤ 1 * m2.toInt + ((-1) * m2'.toInt + 0) ∧ 1 * m2.toInt + ((-1) * m2'.toInt + 0) ≤ 0) → (0 ≤ 1 * m3.toInt + ((-1) * m3'.toInt + 0) ∧ 1 * m3.toInt + ((-1) * m3'.toInt + 0) ≤ 0) → (0 ≤ 1 * m4.toInt + ((-1) * m4'.toInt + 0) ∧ 1 * m4.toInt + ((-1) * m4'.toInt + 0) ≤ 0) → (0 ≤ 1 * m5.toInt + ((-1) * m5'.toInt + 0) ∧ 1 * m5.toInt + ((-1) * m5'.toInt + 0) ≤ 0) → sx_M zK hd_T σ 1174271291386916613944740298394668513687841274454159935353645485766104512557304221731849499192384351515967488 0 σ' → am_K g 12 tX12_feed.1 0 0 22 lw' [.int n0', .ref 118] σ' post) : am_K g 12 tX12_feed.1 0 0 0 lw [] σ post := by
  refine sg_seg (sw := []) (vs := [m1.toInt, m2.toInt, m3.toInt, m4.toInt, m5.toInt, (σ.2.1 118 2).toInt]) (ws := []) G (mi := 106) rfl hct sg_fe1_ok ⟨⟨m1, hl1, rfl⟩, ⟨⟨m2, hl2, rfl⟩, ⟨⟨m3, hl3, rfl⟩, ⟨⟨m4, hl4, rfl⟩, ⟨⟨m5, hl5, rfl⟩, ⟨rfl, trivial⟩⟩⟩⟩⟩⟩ (hd_refs hl) trivial (hd_p1 rfl (Int32.le_toInt _) (Int32.toInt_le _) (hd_p1 rfl (Int32.le_toInt _) (Int32.toInt_le _) (hd_p1 rfl (Int32.le_toInt _) (Int32.toInt_le _) (hd_p1 rfl (Int32.le_toInt _) (Int32.toInt_le _) (hd_p1 rfl (Int32.le_toInt _) (Int32.toInt_le _) (hd_p1 rfl bp118_2.1 bp118_2.2 hd_p0)))))) hM ?_ ?_
  · intro r σ' hq
    cases r with
    | none => exact hq.elim
    | some v =>
      obtain ⟨p, hp, hM2, ks, hk, hv⟩ := hq
      cases hp
  · intro u hu
    simp only [List.mem_cons, List.not_mem_nil, or_false] at hu
    rcases hu with rfl
    · intro lw' sw' vs' ws' σ' ⟨h1_0, h2, h3_0, h4, h5⟩
      obtain ⟨m1', vs1, rfl, hm1, h1_1⟩ := hd_srcl h1_0
      obtain ⟨m2', vs2, rfl, hm2, h1_2⟩ := hd_srcl h1_1
      obtain ⟨m3', vs3, rfl, hm3, h1_3⟩ := hd_srcl h1_2
      obtain ⟨m4', vs4, rfl, hm4, h1_4⟩ := hd_srcl h1_3
      obtain ⟨m5', vs5, rfl, hm5, h1_5⟩ := hd_srcl h1_4
      obtain rfl := hd_src0 h1_5
      obtain ⟨n0', sw1, ws1, rfl, rfl, h3_1⟩ := hd_sti h3_0
      obtain ⟨sw2, rfl, h3_2⟩ := hd_str h3_1
      obtain ⟨rfl, rfl⟩ := hd_st0 h3_2
      have hr9 := hd_ref0 h2
      obtain ⟨v0, e0, l0, u0⟩ := h4 _ (List.mem_cons_self)
      have g0 : 1 * m1.toInt + ((-1) * n0'.toInt + 0) = v0 := Option.some.inj e0
      obtain ⟨v1, e1, l1, u1⟩ := h4 _ (List.mem_cons_of_mem _ (List.mem_cons_self))
      have g1 : 1 * m1.toInt + ((-1) * m1'.toInt + 0) = v1 := Option.some.inj e1
      obtain ⟨v2, e2, l2, u2⟩ := h4 _ (List.mem_cons_of_mem _ (List.mem_cons_of_mem _ (List.mem_cons_self)))
      have g2 : 1 * m2.toInt + ((-1) * m2'.toInt + 0) = v2 := Option.some.inj e2
      obtain ⟨v3, e3, l3, u3⟩ := h4 _ (List.mem_cons_of_mem _ (List.mem_cons_of_mem _ (List.mem_cons_of_mem _ (List.mem_cons_self))))
      have g3 : 1 * m3.toInt + ((-1) * m3'.toInt + 0) = v3 := Option.some.inj e3
      obtain ⟨v4, e4, l4, u4⟩ := h4 _ (List.mem_cons_of_mem _ (List.mem_cons_of_mem _ (List.mem_cons_of_mem _ (List.mem_cons_of_mem _ (List.mem_cons_self)))))
      have g4 : 1 * m4.toInt + ((-1) * m4'.toInt + 0) = v4 := Option.some.inj e4
      obtain ⟨v5, e5, l5, u5⟩ := h4 _ (List.mem_cons_of_mem _ (List.mem_cons_of_mem _ (List.mem_cons_of_mem _ (List.mem_cons_of_mem _ (List.mem_cons_of_mem _ (List.mem_cons_self))))))
      have g5 : 1 * m5.toInt + ((-1) * m5'.toInt + 0) = v5 := Option.some.inj e5
      exact cuta _ _ _ _ _ _ _ _ hr9 hm1 hm2 hm3 hm4 hm5 ⟨by rw [g0]; exact l0, by rw [g0]; exact u0⟩ ⟨by rw [g1]; exact l1, by rw [g1]; exact u1⟩ ⟨by rw [g2]; exact l2, by rw [g2]; exact u2⟩ ⟨by rw [g3]; exact l3, by rw [g3]; exact u3⟩ ⟨by rw [g4]; exact l4, by rw [g4]; exact u4⟩ ⟨by rw [g5]; exact l5, by rw [g5]; exact u5⟩ h5
theorem sg_fe2_run (G : sx_G0 g L xs zK hd_T ex_mt) (hct : ∀ (mi : Nat) (T2 : ex_T) (c' : sx_Ct), ex_mt mi = some T2 → c' ∈ k9 mi → c'.1 < 0 → sx_Holds g zK hd_T T2 c') {σ : am_S} {lw : List (Nat × Value)} {post : Option (Option Value) → am_S → Prop} (hM : sx_M zK hd_T σ 0 0 σ) (hl : (0, Value.ref 118) ∈ lw) {m1 : Int32} (hl1 : (1, Value.int m1) ∈ lw) {m2 : Int32} (hl2 : (2, Value.int m2) ∈ lw) {m3 : Int32} (hl3 : (3, Value.int m3) ∈ lw) {m4 : Int32} (hl4 : (4, Value.int m4) ∈ lw) {m5 : Int32} (hl5 : (5, Value.int m5) ∈ lw) (cuta : ∀ (lw' : List (Nat × Value)) (m1' : Int32) (m2' : Int32) (m3' : Int32) (m4' : Int32) (m5' : Int32) (n0' : Int32) (σ' : am_S), (0, Value.ref 118) ∈ lw' → (1, Value.int m1') ∈ lw' → (2, Value.int m2') ∈ lw' → (3, Value.int m3') ∈ lw' → (4, Value.int m4') ∈ lw' → (5, Value.int m5') ∈ lw' → (0 ≤ 1 * m2.toInt + ((-1) * n0'.toInt + 0) ∧ 1 * m2.toInt + ((-1) * n0'.toInt + 0) ≤ 0) → (0 ≤ 1 * m1.toInt + ((-1) * m1'.toInt + 0) ∧ 1 * m1.toInt + ((-1) * m1'.toInt + 0) ≤ 0) → (0 ≤ 1 * m2.toInt + ((-1) * m2'.toInt + 0) ∧ 1 * m2.toInt + ((-1) * m2'.toInt + 0) ≤ 0) → (0 ≤ 1 * m3.toInt + ((-1) * m3'.toInt + 0) ∧ 1 * m3.toInt + ((-1) * m3'.toInt + 0) ≤ 0) → (0 ≤ 1 * m4.toInt + ((-1) * m4'.toInt + 0) ∧ 1 * m4.toInt + ((-1) * m4'.toInt + 0) ≤ 0) → (0 ≤ 1 * m5.toInt + ((-1) * m5'.toInt + 0) ∧ 1 * m5.toInt + ((-1) * m5'.toInt + 0) ≤ 0) → sx_M zK hd_T σ 0 0 σ' → am_K g 12 tX12_feed.1 0 0 27 lw' [.int n0', .ref 118] σ' post) : am_K g 12 tX12_feed.1 0 0 25 lw [] σ post := by
  refine sg_seg (sw := []) (vs := [m1.toInt, m2.toInt, m3.toInt, m4.toInt, m5.toInt]) (ws := []) G (mi := 106) rfl hct sg_fe2_ok ⟨⟨m1, hl1, rfl⟩, ⟨⟨m2, hl2, rfl⟩, ⟨⟨m3, hl3, rfl⟩, ⟨⟨m4, hl4, rfl⟩, ⟨⟨m5, hl5, rfl⟩, trivial⟩⟩⟩⟩⟩ (hd_refs hl) trivial (hd_p1 rfl (Int32.le_toInt _) (Int32.toInt_le _) (hd_p1 rfl (Int32.le_toInt _) (Int32.toInt_le _) (hd_p1 rfl (Int32.le_toInt _) (Int32.toInt_le _) (hd_p1 rfl (Int32.le_toInt _) (Int32.toInt_le _) (hd_p1 rfl (Int32.le_toInt _) (Int32.toInt_le _) hd_p0))))) hM ?_ ?_
  · intro r σ' hq
    cases r with
    | none => exact hq.elim
    | some v =>
      obtain ⟨p, hp, hM2, ks, hk, hv⟩ := hq
      cases hp
  · intro u hu
    simp only [List.mem_cons, List.not_mem_nil, or_false] at hu
    rcases hu with rfl
    · intro lw' sw' vs' ws' σ' ⟨h1_0, h2, h3_0, h4, h5⟩
      obtain ⟨m1', vs1, rfl, hm1, h1_1⟩ := hd_srcl h1_0
      obtain ⟨m2', vs2, rfl, hm2, h1_2⟩ := hd_srcl h1_1
      obtain ⟨m3', vs3, rfl, hm3, h1_3⟩ := hd_srcl h1_2
      obtain ⟨m4', vs4, rfl, hm4, h1_4⟩ := hd_srcl h1_3
      obtain ⟨m5', vs5, rfl, hm5, h1_5⟩ := hd_srcl h1_4
      obtain rfl := hd_src0 h1_5
      obtain ⟨n0', sw1, ws1, rfl, rfl, h3_1⟩ := hd_sti h3_0
      obtain ⟨sw2, rfl, h3_2⟩ := hd_str h3_1
      obtain ⟨rfl, rfl⟩ := hd_st0 h3_2
      have hr9 := hd_ref0 h2
      obtain ⟨v0, e0, l0, u0⟩ := h4 _ (List.mem_cons_self)
      have g0 : 1 * m2.toInt + ((-1) * n0'.toInt + 0) = v0 := Option.some.inj e0
      obtain ⟨v1, e1, l1, u1⟩ := h4 _ (List.mem_cons_of_mem _ (List.mem_cons_self))
      have g1 : 1 * m1.toInt + ((-1) * m1'.toInt + 0) = v1 := Option.some.inj e1
      obtain ⟨v2, e2, l2, u2⟩ := h4 _ (List.mem_cons_of_mem _ (List.mem_cons_of_mem _ (List.mem_cons_self)))
      have g2 : 1 * m2.toInt + ((-1) * m2'.toInt + 0) = v2 := Option.some.inj e2
      obtain ⟨v3, e3, l3, u3⟩ := h4 _ (List.mem_cons_of_mem _ (List.mem_cons_of_mem _ (List.mem_cons_of_mem _ (List.mem_cons_self))))
      have g3 : 1 * m3.toInt + ((-1) * m3'.toInt + 0) = v3 := Option.some.inj e3
      obtain ⟨v4, e4, l4, u4⟩ := h4 _ (List.mem_cons_of_mem _ (List.mem_cons_of_mem _ (List.mem_cons_of_mem _ (List.mem_cons_of_mem _ (List.mem_cons_self)))))
      have g4 : 1 * m4.toInt + ((-1) * m4'.toInt + 0) = v4 := Option.some.inj e4
      obtain ⟨v5, e5, l5, u5⟩ := h4 _ (List.mem_cons_of_mem _ (List.mem_cons_of_mem _ (List.mem_cons_of_mem _ (List.mem_cons_of_mem _ (List.mem_cons_of_mem _ (List.mem_cons_self))))))
      have g5 : 1 * m5.toInt + ((-1) * m5'.toInt + 0) = v5 := Option.some.inj e5
      exact cuta _ _ _ _ _ _ _ _ hr9 hm1 hm2 hm3 hm4 hm5 ⟨by rw [g0]; exact l0, by rw [g0]; exact u0⟩ ⟨by rw [g1]; exact l1, by rw [g1]; exact u1⟩ ⟨by rw [g2]; exact l2, by rw [g2]; exact u2⟩ ⟨by rw [g3]; exact l3, by rw [g3]; exact u3⟩ ⟨by rw [g4]; exact l4, by rw [g4]; exact u4⟩ ⟨by rw [g5]; exact l5, by rw [g5]; exact u5⟩ h5
theorem sg_fe3_run (G : sx_G0 g L xs zK hd_T ex_mt) (hct : ∀ (mi : Nat) (T2 : ex_T) (c' : sx_Ct), ex_mt mi = some T2 → c' ∈ k9 mi → c'.1 < 0 → sx_Holds g zK hd_T T2 c') {σ : am_S} {lw : List (Nat × Value)} {post : Option (Option Value) → am_S → Prop} (hM : sx_M zK hd_T σ 0 0 σ) (hl : (0, Value.ref 118) ∈ lw) {m1 : Int32} (hl1 : (1, Value.int m1) ∈ lw) {m2 : Int32} (hl2 : (2, Value.int m2) ∈ lw) {m3 : Int32} (hl3 : (3, Value.int m3) ∈ lw) {m4 : Int32} (hl4 : (4, Value.int m4) ∈ lw) {m5 : Int32} (hl5 : (5, Value.int m5) ∈ lw) (cuta : ∀ (lw' : List (Nat × Value)) (m1' : Int32) (m2' : Int32) (m3' : Int32) (m4' : Int32) (m5' : Int32) (n0' : Int32) (σ' : am_S), (0, Value.ref 118) ∈ lw' → (1, Value.int m1') ∈ lw' → (2, Value.int m2') ∈ lw' → (3, Value.int m3') ∈ lw' → (4, Value.int m4') ∈ lw' → (5, Value.int m5') ∈ lw' → (0 ≤ 1 * m3.toInt + ((-1) * n0'.toInt + 0) ∧ 1 * m3.toInt + ((-1) * n0'.toInt + 0) ≤ 0) → (0 ≤ 1 * m1.toInt + ((-1) * m1'.toInt + 0) ∧ 1 * m1.toInt + ((-1) * m1'.toInt + 0) ≤ 0) → (0 ≤ 1 * m2.toInt + ((-1) * m2'.toInt + 0) ∧ 1 * m2.toInt + ((-1) * m2'.toInt + 0) ≤ 0) → (0 ≤ 1 * m3.toInt + ((-1) * m3'.toInt + 0) ∧ 1 * m3.toInt + ((-1) * m3'.toInt + 0) ≤ 0) → (0 ≤ 1 * m4.toInt + ((-1) * m4'.toInt + 0) ∧ 1 * m4.toInt + ((-1) * m4'.toInt + 0) ≤ 0) → (0 ≤ 1 * m5.toInt + ((-1) * m5'.toInt + 0) ∧ 1 * m5.toInt + ((-1) * m5'.toInt + 0) ≤ 0) → sx_M zK hd_T σ 0 0 σ' → am_K g 12 tX12_feed.1 0 0 32 lw' [.int n0', .ref 118] σ' post) : am_K g 12 tX12_feed.1 0 0 30 lw [] σ post := by
  refine sg_seg (sw := []) (vs := [m1.toInt, m2.toInt, m3.toInt, m4.toInt, m5.toInt]) (ws := []) G (mi := 106) rfl hct sg_fe3_ok ⟨⟨m1, hl1, rfl⟩, ⟨⟨m2, hl2, rfl⟩, ⟨⟨m3, hl3, rfl⟩, ⟨⟨m4, hl4, rfl⟩, ⟨⟨m5, hl5, rfl⟩, trivial⟩⟩⟩⟩⟩ (hd_refs hl) trivial (hd_p1 rfl (Int32.le_toInt _) (Int32.toInt_le _) (hd_p1 rfl (Int32.le_toInt _) (Int32.toInt_le _) (hd_p1 rfl (Int32.le_toInt _) (Int32.toInt_le _) (hd_p1 rfl (Int32.le_toInt _) (Int32.toInt_le _) (hd_p1 rfl (Int32.le_toInt _) (Int32.toInt_le _) hd_p0))))) hM ?_ ?_
  · intro r σ' hq
    cases r with
    | none => exact hq.elim
    | some v =>
      obtain ⟨p, hp, hM2, ks, hk, hv⟩ := hq
      cases hp
  · intro u hu
    simp only [List.mem_cons, List.not_mem_nil, or_false] at hu
    rcases hu with rfl
    · intro lw' sw' vs' ws' σ' ⟨h1_0, h2, h3_0, h4, h5⟩
      obtain ⟨m1', vs1, rfl, hm1, h1_1⟩ := hd_srcl h1_0
      obtain ⟨m2', vs2, rfl, hm2, h1_2⟩ := hd_srcl h1_1
      obtain ⟨m3', vs3, rfl, hm3, h1_3⟩ := hd_srcl h1_2
      obtain ⟨m4', vs4, rfl, hm4, h1_4⟩ := hd_srcl h1_3
      obtain ⟨m5', vs5, rfl, hm5, h1_5⟩ := hd_srcl h1_4
      obtain rfl := hd_src0 h1_5
      obtain ⟨n0', sw1, ws1, rfl, rfl, h3_1⟩ := hd_sti h3_0
      obtain ⟨sw2, rfl, h3_2⟩ := hd_str h3_1
      obtain ⟨rfl, rfl⟩ := hd_st0 h3_2
      have hr9 := hd_ref0 h2
      obtain ⟨v0, e0, l0, u0⟩ := h4 _ (List.mem_cons_self)
      have g0 : 1 * m3.toInt + ((-1) * n0'.toInt + 0) = v0 := Option.some.inj e0
      obtain ⟨v1, e1, l1, u1⟩ := h4 _ (List.mem_cons_of_mem _ (List.mem_cons_self))
      have g1 : 1 * m1.toInt + ((-1) * m1'.toInt + 0) = v1 := Option.some.inj e1
      obtain ⟨v2, e2, l2, u2⟩ := h4 _ (List.mem_cons_of_mem _ (List.mem_cons_of_mem _ (List.mem_cons_self)))
      have g2 : 1 * m2.toInt + ((-1) * m2'.toInt + 0) = v2 := Option.some.inj e2
      obtain ⟨v3, e3, l3, u3⟩ := h4 _ (List.mem_cons_of_mem _ (List.mem_cons_of_mem _ (List.mem_cons_of_mem _ (List.mem_cons_self))))
      have g3 : 1 * m3.toInt + ((-1) * m3'.toInt + 0) = v3 := Option.some.inj e3
      obtain ⟨v4, e4, l4, u4⟩ := h4 _ (List.mem_cons_of_mem _ (List.mem_cons_of_mem _ (List.mem_cons_of_mem _ (List.mem_cons_of_mem _ (List.mem_cons_self)))))
      have g4 : 1 * m4.toInt + ((-1) * m4'.toInt + 0) = v4 := Option.some.inj e4
      obtain ⟨v5, e5, l5, u5⟩ := h4 _ (List.mem_cons_of_mem _ (List.mem_cons_of_mem _ (List.mem_cons_of_mem _ (List.mem_cons_of_mem _ (List.mem_cons_of_mem _ (List.mem_cons_self))))))
      have g5 : 1 * m5.toInt + ((-1) * m5'.toInt + 0) = v5 := Option.some.inj e5
      exact cuta _ _ _ _ _ _ _ _ hr9 hm1 hm2 hm3 hm4 hm5 ⟨by rw [g0]; exact l0, by rw [g0]; exact u0⟩ ⟨by rw [g1]; exact l1, by rw [g1]; exact u1⟩ ⟨by rw [g2]; exact l2, by rw [g2]; exact u2⟩ ⟨by rw [g3]; exact l3, by rw [g3]; exact u3⟩ ⟨by rw [g4]; exact l4, by rw [g4]; exact u4⟩ ⟨by rw [g5]; exact l5, by rw [g5]; exact u5⟩ h5
theorem sg_fe4_run (G : sx_G0 g L xs zK hd_T ex_mt) (hct : ∀ (mi : Nat) (T2 : ex_T) (c' : sx_Ct), ex_mt mi = some T2 → c' ∈ k9 mi → c'.1 < 0 → sx_Holds g zK hd_T T2 c') {σ : am_S} {lw : List (Nat × Value)} {post : Option (Option Value) → am_S → Prop} (hM : sx_M zK hd_T σ 0 0 σ) (hl : (0, Value.ref 118) ∈ lw) {m1 : Int32} (hl1 : (1, Value.int m1) ∈ lw) {m2 : Int32} (hl2 : (2, Value.int m2) ∈ lw) {m3 : Int32} (hl3 : (3, Value.int m3) ∈ lw) {m4 : Int32} (hl4 : (4, Value.int m4) ∈ lw) {m5 : Int32} (hl5 : (5, Value.int m5) ∈ lw) (cuta : ∀ (lw' : List (Nat × Value)) (m1' : Int32) (m2' : Int32) (m3' : Int32) (m4' : Int32) (m5' : Int32) (n0' : Int32) (σ' : am_S), (0, Value.ref 118) ∈ lw' → (1, Value.int m1') ∈ lw' → (2, Value.int m2') ∈ lw' → (3, Value.int m3') ∈ lw' → (4, Value.int m4') ∈ lw' → (5, Value.int m5') ∈ lw' → (0 ≤ 1 * m4.toInt + ((-1) * n0'.toInt + 0) ∧ 1 * m4.toInt + ((-1) * n0'.toInt + 0) ≤ 0) → (0 ≤ 1 * m1.toInt + ((-1) * m1'.toInt + 0) ∧ 1 * m1.toInt + ((-1) * m1'.toInt + 0) ≤ 0) → (0 ≤ 1 * m2.toInt + ((-1) * m2'.toInt + 0) ∧ 1 * m2.toInt + ((-1) * m2'.toInt + 0) ≤ 0) → (0 ≤ 1 * m3.toInt + ((-1) * m3'.toInt + 0) ∧ 1 * m3.toInt + ((-1) * m3'.toInt + 0) ≤ 0) → (0 ≤ 1 * m4.toInt + ((-1) * m4'.toInt + 0) ∧ 1 * m4.toInt + ((-1) * m4'.toInt + 0) ≤ 0) → (0 ≤ 1 * m5.toInt + ((-1) * m5'.toInt + 0) ∧ 1 * m5.toInt + ((-1) * m5'.toInt + 0) ≤ 0) → sx_M zK hd_T σ 0 0 σ' → am_K g 12 tX12_feed.1 0 0 38 lw' [.int n0', .ref 118] σ' post) : am_K g 12 tX12_feed.1 0 0 35 lw [] σ post := by
  refine sg_seg (sw := []) (vs := [m1.toInt, m2.toInt, m3.toInt, m4.toInt, m5.toInt]) (ws := []) G (mi := 106) rfl hct sg_fe4_ok ⟨⟨m1, hl1, rfl⟩, ⟨⟨m2, hl2, rfl⟩, ⟨⟨m3, hl3, rfl⟩, ⟨⟨m4, hl4, rfl⟩, ⟨⟨m5, hl5, rfl⟩, trivial⟩⟩⟩⟩⟩ (hd_refs hl) trivial (hd_p1 rfl (Int32.le_toInt _) (Int32.toInt_le _) (hd_p1 rfl (Int32.le_toInt _) (Int32.toInt_le _) (hd_p1 rfl (Int32.le_toInt _) (Int32.toInt_le _) (hd_p1 rfl (Int32.le_toInt _) (Int32.toInt_le _) (hd_p1 rfl (Int32.le_toInt _) (Int32.toInt_le _) hd_p0))))) hM ?_ ?_
  · intro r σ' hq
    cases r with
    | none => exact hq.elim
    | some v =>
      obtain ⟨p, hp, hM2, ks, hk, hv⟩ := hq
      cases hp
  · intro u hu
    simp only [List.mem_cons, List.not_mem_nil, or_false] at hu
    rcases hu with rfl
    · intro lw' sw' vs' ws' σ' ⟨h1_0, h2, h3_0, h4, h5⟩
      obtain ⟨m1', vs1, rfl, hm1, h1_1⟩ := hd_srcl h1_0
      obtain ⟨m2', vs2, rfl, hm2, h1_2⟩ := hd_srcl h1_1
      obtain ⟨m3', vs3, rfl, hm3, h1_3⟩ := hd_srcl h1_2
      obtain ⟨m4', vs4, rfl, hm4, h1_4⟩ := hd_srcl h1_3
      obtain ⟨m5', vs5, rfl, hm5, h1_5⟩ := hd_srcl h1_4
      obtain rfl := hd_src0 h1_5
      obtain ⟨n0', sw1, ws1, rfl, rfl, h3_1⟩ := hd_sti h3_0
      obtain ⟨sw2, rfl, h3_2⟩ := hd_str h3_1
      obtain ⟨rfl, rfl⟩ := hd_st0 h3_2
      have hr9 := hd_ref0 h2
      obtain ⟨v0, e0, l0, u0⟩ := h4 _ (List.mem_cons_self)
      have g0 : 1 * m4.toInt + ((-1) * n0'.toInt + 0) = v0 := Option.some.inj e0
      obtain ⟨v1, e1, l1, u1⟩ := h4 _ (List.mem_cons_of_mem _ (List.mem_cons_self))
      have g1 : 1 * m1.toInt + ((-1) * m1'.toInt + 0) = v1 := Option.some.inj e1
      obtain ⟨v2, e2, l2, u2⟩ := h4 _ (List.mem_cons_of_mem _ (List.mem_cons_of_mem _ (List.mem_cons_self)))
      have g2 : 1 * m2.toInt + ((-1) * m2'.toInt + 0) = v2 := Option.some.inj e2
      obtain ⟨v3, e3, l3, u3⟩ := h4 _ (List.mem_cons_of_mem _ (List.mem_cons_of_mem _ (List.mem_cons_of_mem _ (List.mem_cons_self))))
      have g3 : 1 * m3.toInt + ((-1) * m3'.toInt + 0) = v3 := Option.some.inj e3
      obtain ⟨v4, e4, l4, u4⟩ := h4 _ (List.mem_cons_of_mem _ (List.mem_cons_of_mem _ (List.mem_cons_of_mem _ (List.mem_cons_of_mem _ (List.mem_cons_self)))))
      have g4 : 1 * m4.toInt + ((-1) * m4'.toInt + 0) = v4 := Option.some.inj e4
      obtain ⟨v5, e5, l5, u5⟩ := h4 _ (List.mem_cons_of_mem _ (List.mem_cons_of_mem _ (List.mem_cons_of_mem _ (List.mem_cons_of_mem _ (List.mem_cons_of_mem _ (List.mem_cons_self))))))
      have g5 : 1 * m5.toInt + ((-1) * m5'.toInt + 0) = v5 := Option.some.inj e5
      exact cuta _ _ _ _ _ _ _ _ hr9 hm1 hm2 hm3 hm4 hm5 ⟨by rw [g0]; exact l0, by rw [g0]; exact u0⟩ ⟨by rw [g1]; exact l1, by rw [g1]; exact u1⟩ ⟨by rw [g2]; exact l2, by rw [g2]; exact u2⟩ ⟨by rw [g3]; exact l3, by rw [g3]; exact u3⟩ ⟨by rw [g4]; exact l4, by rw [g4]; exact u4⟩ ⟨by rw [g5]; exact l5, by rw [g5]; exact u5⟩ h5
theorem sg_fe5_run (G : sx_G0 g L xs zK hd_T ex_mt) (hct : ∀ (mi : Nat) (T2 : ex_T) (c' : sx_Ct), ex_mt mi = some T2 → c' ∈ k9 mi → c'.1 < 0 → sx_Holds g zK hd_T T2 c') {σ : am_S} {lw : List (Nat × Value)} {post : Option (Option Value) → am_S → Prop} (hM : sx_M zK hd_T σ 0 0 σ) (hl : (0, Value.ref 118) ∈ lw) {m1 : Int32} (hl1 : (1, Value.int m1) ∈ lw) {m2 : Int32} (hl2 : (2, Value.int m2) ∈ lw) {m3 : Int32} (hl3 : (3, Value.int m3) ∈ lw) {m4 : Int32} (hl4 : (4, Value.int m4) ∈ lw) {m5 : Int32} (hl5 : (5, Value.int m5) ∈ lw) (cuta : ∀ (lw' : List (Nat × Value)) (m1' : Int32) (m2' : Int32) (m3' : Int32) (m4' : Int32) (m5' : Int32) (n0' : Int32) (σ' : am_S), (0, Value.ref 118) ∈ lw' → (1, Value.int m1') ∈ lw' → (2, Value.int m2') ∈ lw' → (3, Value.int m3') ∈ lw' → (4, Value.int m4') ∈ lw' → (5, Value.int m5') ∈ lw' → (0 ≤ 1 * m5.toInt + ((-1) * n0'.toInt + 0) ∧ 1 * m5.toInt + ((-1) * n0'.toInt + 0) ≤ 0) → (0 ≤ 1 * m1.toInt + ((-1) * m1'.toInt + 0) ∧ 1 * m1.toInt + ((-1) * m1'.toInt + 0) ≤ 0) → (0 ≤ 1 * m2.toInt + ((-1) * m2'.toInt + 0) ∧ 1 * m2.toInt + ((-1) * m2'.toInt + 0) ≤ 0) → (0 ≤ 1 * m3.toInt + ((-1) * m3'.toInt + 0) ∧ 1 * m3.toInt + ((-1) * m3'.toInt + 0) ≤ 0) → (0 ≤ 1 * m4.toInt + ((-1) * m4'.toInt + 0) ∧ 1 * m4.toInt + ((-1) * m4'.toInt + 0) ≤ 0) → (0 ≤ 1 * m5.toInt + ((-1) * m5'.toInt + 0) ∧ 1 * m5.toInt + ((-1) * m5'.toInt + 0) ≤ 0) → sx_M zK hd_T σ 0 0 σ' → am_K g 12 tX12_feed.1 0 0 44 lw' [.int n0', .ref 118] σ' post) : am_K g 12 tX12_feed.1 0 0 41 lw [] σ post := by
  refine sg_seg (sw := []) (vs := [m1.toInt, m2.toInt, m3.toInt, m4.toInt, m5.toInt]) (ws := []) G (mi := 106) rfl hct sg_fe5_ok ⟨⟨m1, hl1, rfl⟩, ⟨⟨m2, hl2, rfl⟩, ⟨⟨m3, hl3, rfl⟩, ⟨⟨m4, hl4, rfl⟩, ⟨⟨m5, hl5, rfl⟩, trivial⟩⟩⟩⟩⟩ (hd_refs hl) trivial (hd_p1 rfl (Int32.le_toInt _) (Int32.toInt_le _) (hd_p1 rfl (Int32.le_toInt _) (Int32.toInt_le _) (hd_p1 rfl (Int32.le_toInt _) (Int32.toInt_le _) (hd_p1 rfl (Int32.le_toInt _) (Int32.toInt_le _) (hd_p1 rfl (Int32.le_toInt _) (Int32.toInt_le _) hd_p0))))) hM ?_ ?_
  · intro r σ' hq
    cases r with
    | none => exact hq.elim
    | some v =>
      obtain ⟨p, hp, hM2, ks, hk, hv⟩ := hq
      cases hp
  · intro u hu
    simp only [List.mem_cons, List.not_mem_nil, or_false] at hu
    rcases hu with rfl
    · intro lw' sw' vs' ws' σ' ⟨h1_0, h2, h3_0, h4, h5⟩
      obtain ⟨m1', vs1, rfl, hm1, h1_1⟩ := hd_srcl h1_0
      obtain ⟨m2', vs2, rfl, hm2, h1_2⟩ := hd_srcl h1_1
      obtain ⟨m3', vs3, rfl, hm3, h1_3⟩ := hd_srcl h1_2
      obtain ⟨m4', vs4, rfl, hm4, h1_4⟩ := hd_srcl h1_3
      obtain ⟨m5', vs5, rfl, hm5, h1_5⟩ := hd_srcl h1_4
      obtain rfl := hd_src0 h1_5
      obtain ⟨n0', sw1, ws1, rfl, rfl, h3_1⟩ := hd_sti h3_0
      obtain ⟨sw2, rfl, h3_2⟩ := hd_str h3_1
      obtain ⟨rfl, rfl⟩ := hd_st0 h3_2
      have hr9 := hd_ref0 h2
      obtain ⟨v0, e0, l0, u0⟩ := h4 _ (List.mem_cons_self)
      have g0 : 1 * m5.toInt + ((-1) * n0'.toInt + 0) = v0 := Option.some.inj e0
      obtain ⟨v1, e1, l1, u1⟩ := h4 _ (List.mem_cons_of_mem _ (List.mem_cons_self))
      have g1 : 1 * m1.toInt + ((-1) * m1'.toInt + 0) = v1 := Option.some.inj e1
      obtain ⟨v2, e2, l2, u2⟩ := h4 _ (List.mem_cons_of_mem _ (List.mem_cons_of_mem _ (List.mem_cons_self)))
      have g2 : 1 * m2.toInt + ((-1) * m2'.toInt + 0) = v2 := Option.some.inj e2
      obtain ⟨v3, e3, l3, u3⟩ := h4 _ (List.mem_cons_of_mem _ (List.mem_cons_of_mem _ (List.mem_cons_of_mem _ (List.mem_cons_self))))
      have g3 : 1 * m3.toInt + ((-1) * m3'.toInt + 0) = v3 := Option.some.inj e3
      obtain ⟨v4, e4, l4, u4⟩ := h4 _ (List.mem_cons_of_mem _ (List.mem_cons_of_mem _ (List.mem_cons_of_mem _ (List.mem_cons_of_mem _ (List.mem_cons_self)))))
      have g4 : 1 * m4.toInt + ((-1) * m4'.toInt + 0) = v4 := Option.some.inj e4
      obtain ⟨v5, e5, l5, u5⟩ := h4 _ (List.mem_cons_of_mem _ (List.mem_cons_of_mem _ (List.mem_cons_of_mem _ (List.mem_cons_of_mem _ (List.mem_cons_of_mem _ (List.mem_cons_self))))))
      have g5 : 1 * m5.toInt + ((-1) * m5'.toInt + 0) = v5 := Option.some.inj e5
      exact cuta _ _ _ _ _ _ _ _ hr9 hm1 hm2 hm3 hm4 hm5 ⟨by rw [g0]; exact l0, by rw [g0]; exact u0⟩ ⟨by rw [g1]; exact l1, by rw [g1]; exact u1⟩ ⟨by rw [g2]; exact l2, by rw [g2]; exact u2⟩ ⟨by rw [g3]; exact l3, by rw [g3]; exact u3⟩ ⟨by rw [g4]; exact l4, by rw [g4]; exact u4⟩ ⟨by rw [g5]; exact l5, by rw [g5]; exact u5⟩ h5
theorem sg_fe6_run (G : sx_G0 g L xs zK hd_T ex_mt) (hct : ∀ (mi : Nat) (T2 : ex_T) (c' : sx_Ct), ex_mt mi = some T2 → c' ∈ k9 mi → c'.1 < 0 → sx_Holds g zK hd_T T2 c') {σ : am_S} {lw : List (Nat × Value)} {post : Option (Option Value) → am_S → Prop} (hM : sx_M zK hd_T σ 0 0 σ) (hl : (0, Value.ref 118) ∈ lw)  (ret0 : ∀ (r : Int32) (σ' : am_S), (0 ≤ 1 * (σ.2.1 118 2).toInt + ((-1) * r.toInt + 0) ∧ 1 * (σ.2.1 118 2).toInt + ((-1) * r.toInt + 0) ≤ 0) → sx_M zK hd_T σ 0 0 σ' → post (some (some (.int r))) σ') : am_K g 12 tX12_feed.1 0 0 47 lw [] σ post := by
  refine sg_seg (sw := []) (vs := [(σ.2.1 118 2).toInt]) (ws := []) G (mi := 106) rfl hct sg_fe6_ok ⟨rfl, trivial⟩ (hd_refs hl) trivial (hd_p1 rfl (hd_kd_118_2 hM).1 (hd_kd_118_2 hM).2 hd_p0) hM ?_ ?_
  · intro r σ' hq
    cases r with
    | none => exact hq.elim
    | some v =>
      obtain ⟨p, hp, hM2, ks, hk, hv⟩ := hq
      simp only [List.mem_cons, List.not_mem_nil, or_false] at hp
      rcases hp with rfl
      · obtain rfl := hd_keys hk
        cases v with
        | none => exact hv.elim
        | some w9 =>
          obtain ⟨r, rfl, hP⟩ := hv
          obtain ⟨v0, e0, l0, u0⟩ := hP _ (List.mem_cons_self)
          have g0 : 1 * (σ.2.1 118 2).toInt + ((-1) * r.toInt + 0) = v0 := Option.some.inj e0
          exact ret0 r _ ⟨by rw [g0]; exact l0, by rw [g0]; exact u0⟩ hM2
  · intro u hu
    cases hu
theorem sg_ap1_run (G : sx_G0 g L xs zK hd_T ex_mt) (hct : ∀ (mi : Nat) (T2 : ex_T) (c' : sx_Ct), ex_mt mi = some T2 → c' ∈ k9 mi → c'.1 < 0 → sx_Holds g zK hd_T T2 c') {σ : am_S} {lw : List (Nat × Value)} {post : Option (Option Value) → am_S → Prop} (hM : sx_M zK hd_T σ 0 0 σ) (hl : (0, Value.ref 1) ∈ lw) {m1 : Int32} (hl1 : (1, Value.int m1) ∈ lw) (bp1_1 : 0 ≤ (σ.2.1 1 1).toInt ∧ (σ.2.1 1 1).toInt ≤ 939) (cuta : ∀ (lw' : List (Nat × Value)) (m1' : Int32) (m2' : Int32) (n0' : Int32) (n1' : Int32) (n2' : Int32) (σ' : am_S), (0, Value.ref 1) ∈ lw' → (1, Value.int m1') ∈ lw' → (2, Value.int m2') ∈ lw' → (24 ≤ 1 * n0'.toInt + 0 ∧ 1 * n0'.toInt + 0 ≤ 24) → (0 ≤ 1 * m1.toInt + ((-1) * n1'.toInt + 0) ∧ 1 * m1.toInt + ((-1) * n1'.toInt + 0) ≤ 0) → (0 ≤ 1 * (σ.2.1 1 1).toInt + ((-1) * n2'.toInt + 0) ∧ 1 * (σ.2.1 1 1).toInt + ((-1) * n2'.toInt + 0) ≤ 0) → (0 ≤ 1 * m1.toInt + ((-1) * m1'.toInt + 0) ∧ 1 * m1.toInt + ((-1) * m1'.toInt + 0) ≤ 0) → (24 ≤ 1 * m2'.toInt + 0 ∧ 1 * m2'.toInt + 0 ≤ 24) → sx_M zK hd_T σ 0 0 σ' → am_K g 5 tX10_append.1 0 0 36 lw' [.int n0', .int n1', .int n2', .ref 2] σ' post) : am_K g 5 tX10_append.1 0 0 0 lw [] σ post := by
  refine sg_seg (sw := []) (vs := [m1.toInt, (σ.2.1 1 1).toInt]) (ws := []) G (mi := 15) rfl hct sg_ap1_ok ⟨⟨m1, hl1, rfl⟩, ⟨rfl, trivial⟩⟩ (hd_refs hl) trivial (hd_p1 rfl (Int32.le_toInt _) (Int32.toInt_le _) (hd_p1 rfl bp1_1.1 bp1_1.2 hd_p0)) hM ?_ ?_
  · intro r σ' hq
    cases r with
    | none => exact hq.elim
    | some v =>
      obtain ⟨p, hp, hM2, ks, hk, hv⟩ := hq
      cases hp
  · intro u hu
    simp only [List.mem_cons, List.not_mem_nil, or_false] at hu
    rcases hu with rfl
    · intro lw' sw' vs' ws' σ' ⟨h1_0, h2, h3_0, h4, h5⟩
      obtain ⟨m1', vs1, rfl, hm1, h1_1⟩ := hd_srcl h1_0
      obtain ⟨m2', vs2, rfl, hm2, h1_2⟩ := hd_srcl h1_1
      obtain ⟨vs3, rfl, h1_3⟩ := hd_srcs h1_2
      obtain rfl := hd_src0 h1_3
      obtain ⟨n0', sw1, ws1, rfl, rfl, h3_1⟩ := hd_sti h3_0
      obtain ⟨n1', sw2, ws2, rfl, rfl, h3_2⟩ := hd_sti h3_1
      obtain ⟨n2', sw3, ws3, rfl, rfl, h3_3⟩ := hd_sti h3_2
      obtain ⟨sw4, rfl, h3_4⟩ := hd_str h3_3
      obtain ⟨rfl, rfl⟩ := hd_st0 h3_4
      have hr9 := hd_ref0 h2
      obtain ⟨v0, e0, l0, u0⟩ := h4 _ (List.mem_cons_self)
      have g0 : 1 * n0'.toInt + 0 = v0 := Option.some.inj e0
      obtain ⟨v1, e1, l1, u1⟩ := h4 _ (List.mem_cons_of_mem _ (List.mem_cons_self))
      have g1 : 1 * m1.toInt + ((-1) * n1'.toInt + 0) = v1 := Option.some.inj e1
      obtain ⟨v2, e2, l2, u2⟩ := h4 _ (List.mem_cons_of_mem _ (List.mem_cons_of_mem _ (List.mem_cons_self)))
      have g2 : 1 * (σ.2.1 1 1).toInt + ((-1) * n2'.toInt + 0) = v2 := Option.some.inj e2
      obtain ⟨v3, e3, l3, u3⟩ := h4 _ (List.mem_cons_of_mem _ (List.mem_cons_of_mem _ (List.mem_cons_of_mem _ (List.mem_cons_self))))
      have g3 : 1 * m1.toInt + ((-1) * m1'.toInt + 0) = v3 := Option.some.inj e3
      obtain ⟨v4, e4, l4, u4⟩ := h4 _ (List.mem_cons_of_mem _ (List.mem_cons_of_mem _ (List.mem_cons_of_mem _ (List.mem_cons_of_mem _ (List.mem_cons_self)))))
      have g4 : 1 * m2'.toInt + 0 = v4 := Option.some.inj e4
      exact cuta _ _ _ _ _ _ _ hr9 hm1 hm2 ⟨by rw [g0]; exact l0, by rw [g0]; exact u0⟩ ⟨by rw [g1]; exact l1, by rw [g1]; exact u1⟩ ⟨by rw [g2]; exact l2, by rw [g2]; exact u2⟩ ⟨by rw [g3]; exact l3, by rw [g3]; exact u3⟩ ⟨by rw [g4]; exact l4, by rw [g4]; exact u4⟩ h5
theorem sg_ap2_24_run (G : sx_G0 g L xs zK hd_T ex_mt) (hct : ∀ (mi : Nat) (T2 : ex_T) (c' : sx_Ct), ex_mt mi = some T2 → c' ∈ k9 mi → c'.1 < 0 → sx_Holds g zK hd_T T2 c') {σ : am_S} {lw : List (Nat × Value)} {post : Option (Option Value) → am_S → Prop} (hM : sx_M zK hd_T σ 0 0 σ) (hl : (0, Value.ref 1) ∈ lw) {m1 : Int32} (hl1 : (1, Value.int m1) ∈ lw) {m2 : Int32} (hl2 : (2, Value.int m2) ∈ lw) (bl2 : 24 ≤ m2.toInt ∧ m2.toInt ≤ 24) (bp1_1 : 0 ≤ (σ.2.1 1 1).toInt ∧ (σ.2.1 1 1).toInt ≤ 938) (cuta : ∀ (lw' : List (Nat × Value)) (m1' : Int32) (m2' : Int32) (n0' : Int32) (n1' : Int32) (n2' : Int32) (σ' : am_S), (0, Value.ref 1) ∈ lw' → (1, Value.int m1') ∈ lw' → (2, Value.int m2') ∈ lw' → (16 ≤ 1 * n0'.toInt + 0 ∧ 1 * n0'.toInt + 0 ≤ 16) → (0 ≤ 1 * m1.toInt + ((-1) * n1'.toInt + 0) ∧ 1 * m1.toInt + ((-1) * n1'.toInt + 0) ≤ 0) → ((-1) ≤ 1 * (σ.2.1 1 1).toInt + ((-1) * n2'.toInt + 0) ∧ 1 * (σ.2.1 1 1).toInt + ((-1) * n2'.toInt + 0) ≤ (-1)) → ((-1) ≤ 1 * (σ.2.1 1 1).toInt + ((-1) * (σ'.2.1 1 1).toInt + 0) ∧ 1 * (σ.2.1 1 1).toInt + ((-1) * (σ'.2.1 1 1).toInt + 0) ≤ (-1)) → (0 ≤ 1 * m1.toInt + ((-1) * m1'.toInt + 0) ∧ 1 * m1.toInt + ((-1) * m1'.toInt + 0) ≤ 0) → (16 ≤ 1 * m2'.toInt + 0 ∧ 1 * m2'.toInt + 0 ≤ 16) → sx_M zK hd_T σ 262144 0 σ' → am_K g 5 tX10_append.1 0 0 36 lw' [.int n0', .int n1', .int n2', .ref 2] σ' post) : am_K g 5 tX10_append.1 0 0 39 lw [] σ post := by
  refine sg_seg (sw := []) (vs := [m1.toInt, m2.toInt, (σ.2.1 1 1).toInt]) (ws := []) G (mi := 15) rfl hct sg_ap2_24_ok ⟨⟨m1, hl1, rfl⟩, ⟨⟨m2, hl2, rfl⟩, ⟨rfl, trivial⟩⟩⟩ (hd_refs hl) trivial (hd_p1 rfl (Int32.le_toInt _) (Int32.toInt_le _) (hd_p1 rfl bl2.1 bl2.2 (hd_p1 rfl bp1_1.1 bp1_1.2 hd_p0))) hM ?_ ?_
  · intro r σ' hq
    cases r with
    | none => exact hq.elim
    | some v =>
      obtain ⟨p, hp, hM2, ks, hk, hv⟩ := hq
      cases hp
  · intro u hu
    simp only [List.mem_cons, List.not_mem_nil, or_false] at hu
    rcases hu with rfl
    · intro lw' sw' vs' ws' σ' ⟨h1_0, h2, h3_0, h4, h5⟩
      obtain ⟨m1', vs1, rfl, hm1, h1_1⟩ := hd_srcl h1_0
      obtain ⟨m2', vs2, rfl, hm2, h1_2⟩ := hd_srcl h1_1
      obtain ⟨vs3, rfl, h1_3⟩ := hd_srcs h1_2
      obtain rfl := hd_src0 h1_3
      obtain ⟨n0', sw1, ws1, rfl, rfl, h3_1⟩ := hd_sti h3_0
      obtain ⟨n1', sw2, ws2, rfl, rfl, h3_2⟩ := hd_sti h3_1
      obtain ⟨n2', sw3, ws3, rfl, rfl, h3_3⟩ := hd_sti h3_2
      obtain ⟨sw4, rfl, h3_4⟩ := hd_str h3_3
      obtain ⟨rfl, rfl⟩ := hd_st0 h3_4
      have hr9 := hd_ref0 h2
      obtain ⟨v0, e0, l0, u0⟩ := h4 _ (List.mem_cons_self)
      have g0 : 1 * n0'.toInt + 0 = v0 := Option.some.inj e0
      obtain ⟨v1, e1, l1, u1⟩ := h4 _ (List.mem_cons_of_mem _ (List.mem_cons_self))
      have g1 : 1 * m1.toInt + ((-1) * n1'.toInt + 0) = v1 := Option.some.inj e1
      obtain ⟨v2, e2, l2, u2⟩ := h4 _ (List.mem_cons_of_mem _ (List.mem_cons_of_mem _ (List.mem_cons_self)))
      have g2 : 1 * (σ.2.1 1 1).toInt + ((-1) * n2'.toInt + 0) = v2 := Option.some.inj e2
      obtain ⟨v3, e3, l3, u3⟩ := h4 _ (List.mem_cons_of_mem _ (List.mem_cons_of_mem _ (List.mem_cons_of_mem _ (List.mem_cons_self))))
      have g3 : 1 * (σ.2.1 1 1).toInt + ((-1) * (σ'.2.1 1 1).toInt + 0) = v3 := Option.some.inj e3
      obtain ⟨v4, e4, l4, u4⟩ := h4 _ (List.mem_cons_of_mem _ (List.mem_cons_of_mem _ (List.mem_cons_of_mem _ (List.mem_cons_of_mem _ (List.mem_cons_self)))))
      have g4 : 1 * m1.toInt + ((-1) * m1'.toInt + 0) = v4 := Option.some.inj e4
      obtain ⟨v5, e5, l5, u5⟩ := h4 _ (List.mem_cons_of_mem _ (List.mem_cons_of_mem _ (List.mem_cons_of_mem _ (List.mem_cons_of_mem _ (List.mem_cons_of_mem _ (List.mem_cons_self))))))
      have g5 : 1 * m2'.toInt + 0 = v5 := Option.some.inj e5
      exact cuta _ _ _ _ _ _ _ hr9 hm1 hm2 ⟨by rw [g0]; exact l0, by rw [g0]; exact u0⟩ ⟨by rw [g1]; exact l1, by rw [g1]; exact u1⟩ ⟨by rw [g2]; exact l2, by rw [g2]; exact u2⟩ ⟨by rw [g3]; exact l3, by rw [g3]; exact u3⟩ ⟨by rw [g4]; exact l4, by rw [g4]; exact u4⟩ ⟨by rw [g5]; exact l5, by rw [g5]; exact u5⟩ h5
theorem sg_ap2_16_run (G : sx_G0 g L xs zK hd_T ex_mt) (hct : ∀ (mi : Nat) (T2 : ex_T) (c' : sx_Ct), ex_mt mi = some T2 → c' ∈ k9 mi → c'.1 < 0 → sx_Holds g zK hd_T T2 c') {σ : am_S} {lw : List (Nat × Value)} {post : Option (Option Value) → am_S → Prop} (hM : sx_M zK hd_T σ 0 0 σ) (hl : (0, Value.ref 1) ∈ lw) {m1 : Int32} (hl1 : (1, Value.int m1) ∈ lw) {m2 : Int32} (hl2 : (2, Value.int m2) ∈ lw) (bl2 : 16 ≤ m2.toInt ∧ m2.toInt ≤ 16) (bp1_1 : 0 ≤ (σ.2.1 1 1).toInt ∧ (σ.2.1 1 1).toInt ≤ 938) (cuta : ∀ (lw' : List (Nat × Value)) (m1' : Int32) (m2' : Int32) (n0' : Int32) (n1' : Int32) (n2' : Int32) (σ' : am_S), (0, Value.ref 1) ∈ lw' → (1, Value.int m1') ∈ lw' → (2, Value.int m2') ∈ lw' → (8 ≤ 1 * n0'.toInt + 0 ∧ 1 * n0'.toInt + 0 ≤ 8) → (0 ≤ 1 * m1.toInt + ((-1) * n1'.toInt + 0) ∧ 1 * m1.toInt + ((-1) * n1'.toInt + 0) ≤ 0) → ((-1) ≤ 1 * (σ.2.1 1 1).toInt + ((-1) * n2'.toInt + 0) ∧ 1 * (σ.2.1 1 1).toInt + ((-1) * n2'.toInt + 0) ≤ (-1)) → ((-1) ≤ 1 * (σ.2.1 1 1).toInt + ((-1) * (σ'.2.1 1 1).toInt + 0) ∧ 1 * (σ.2.1 1 1).toInt + ((-1) * (σ'.2.1 1 1).toInt + 0) ≤ (-1)) → (0 ≤ 1 * m1.toInt + ((-1) * m1'.toInt + 0) ∧ 1 * m1.toInt + ((-1) * m1'.toInt + 0) ≤ 0) → (8 ≤ 1 * m2'.toInt + 0 ∧ 1 * m2'.toInt + 0 ≤ 8) → sx_M zK hd_T σ 262144 0 σ' → am_K g 5 tX10_append.1 0 0 36 lw' [.int n0', .int n1', .int n2', .ref 2] σ' post) : am_K g 5 tX10_append.1 0 0 39 lw [] σ post := by
  refine sg_seg (sw := []) (vs := [m1.toInt, m2.toInt, (σ.2.1 1 1).toInt]) (ws := []) G (mi := 15) rfl hct sg_ap2_16_ok ⟨⟨m1, hl1, rfl⟩, ⟨⟨m2, hl2, rfl⟩, ⟨rfl, trivial⟩⟩⟩ (hd_refs hl) trivial (hd_p1 rfl (Int32.le_toInt _) (Int32.toInt_le _) (hd_p1 rfl bl2.1 bl2.2 (hd_p1 rfl bp1_1.1 bp1_1.2 hd_p0))) hM ?_ ?_
  · intro r σ' hq
    cases r with
    | none => exact hq.elim
    | some v =>
      obtain ⟨p, hp, hM2, ks, hk, hv⟩ := hq
      cases hp
  · intro u hu
    simp only [List.mem_cons, List.not_mem_nil, or_false] at hu
    rcases hu with rfl
    · intro lw' sw' vs' ws' σ' ⟨h1_0, h2, h3_0, h4, h5⟩
      obtain ⟨m1', vs1, rfl, hm1, h1_1⟩ := hd_srcl h1_0
      obtain ⟨m2', vs2, rfl, hm2, h1_2⟩ := hd_srcl h1_1
      obtain ⟨vs3, rfl, h1_3⟩ := hd_srcs h1_2
      obtain rfl := hd_src0 h1_3
      obtain ⟨n0', sw1, ws1, rfl, rfl, h3_1⟩ := hd_sti h3_0
      obtain ⟨n1', sw2, ws2, rfl, rfl, h3_2⟩ := hd_sti h3_1
      obtain ⟨n2', sw3, ws3, rfl, rfl, h3_3⟩ := hd_sti h3_2
      obtain ⟨sw4, rfl, h3_4⟩ := hd_str h3_3
      obtain ⟨rfl, rfl⟩ := hd_st0 h3_4
      have hr9 := hd_ref0 h2
      obtain ⟨v0, e0, l0, u0⟩ := h4 _ (List.mem_cons_self)
      have g0 : 1 * n0'.toInt + 0 = v0 := Option.some.inj e0
      obtain ⟨v1, e1, l1, u1⟩ := h4 _ (List.mem_cons_of_mem _ (List.mem_cons_self))
      have g1 : 1 * m1.toInt + ((-1) * n1'.toInt + 0) = v1 := Option.some.inj e1
      obtain ⟨v2, e2, l2, u2⟩ := h4 _ (List.mem_cons_of_mem _ (List.mem_cons_of_mem _ (List.mem_cons_self)))
      have g2 : 1 * (σ.2.1 1 1).toInt + ((-1) * n2'.toInt + 0) = v2 := Option.some.inj e2
      obtain ⟨v3, e3, l3, u3⟩ := h4 _ (List.mem_cons_of_mem _ (List.mem_cons_of_mem _ (List.mem_cons_of_mem _ (List.mem_cons_self))))
      have g3 : 1 * (σ.2.1 1 1).toInt + ((-1) * (σ'.2.1 1 1).toInt + 0) = v3 := Option.some.inj e3
      obtain ⟨v4, e4, l4, u4⟩ := h4 _ (List.mem_cons_of_mem _ (List.mem_cons_of_mem _ (List.mem_cons_of_mem _ (List.mem_cons_of_mem _ (List.mem_cons_self)))))
      have g4 : 1 * m1.toInt + ((-1) * m1'.toInt + 0) = v4 := Option.some.inj e4
      obtain ⟨v5, e5, l5, u5⟩ := h4 _ (List.mem_cons_of_mem _ (List.mem_cons_of_mem _ (List.mem_cons_of_mem _ (List.mem_cons_of_mem _ (List.mem_cons_of_mem _ (List.mem_cons_self))))))
      have g5 : 1 * m2'.toInt + 0 = v5 := Option.some.inj e5
      exact cuta _ _ _ _ _ _ _ hr9 hm1 hm2 ⟨by rw [g0]; exact l0, by rw [g0]; exact u0⟩ ⟨by rw [g1]; exact l1, by rw [g1]; exact u1⟩ ⟨by rw [g2]; exact l2, by rw [g2]; exact u2⟩ ⟨by rw [g3]; exact l3, by rw [g3]; exact u3⟩ ⟨by rw [g4]; exact l4, by rw [g4]; exact u4⟩ ⟨by rw [g5]; exact l5, by rw [g5]; exact u5⟩ h5
theorem sg_ap2_8_run (G : sx_G0 g L xs zK hd_T ex_mt) (hct : ∀ (mi : Nat) (T2 : ex_T) (c' : sx_Ct), ex_mt mi = some T2 → c' ∈ k9 mi → c'.1 < 0 → sx_Holds g zK hd_T T2 c') {σ : am_S} {lw : List (Nat × Value)} {post : Option (Option Value) → am_S → Prop} (hM : sx_M zK hd_T σ 0 0 σ) (hl : (0, Value.ref 1) ∈ lw) {m1 : Int32} (hl1 : (1, Value.int m1) ∈ lw) {m2 : Int32} (hl2 : (2, Value.int m2) ∈ lw) (bl2 : 8 ≤ m2.toInt ∧ m2.toInt ≤ 8) (bp1_1 : 0 ≤ (σ.2.1 1 1).toInt ∧ (σ.2.1 1 1).toInt ≤ 938) (cuta : ∀ (lw' : List (Nat × Value)) (m1' : Int32) (m2' : Int32) (n0' : Int32) (n1' : Int32) (n2' : Int32) (σ' : am_S), (0, Value.ref 1) ∈ lw' → (1, Value.int m1') ∈ lw' → (2, Value.int m2') ∈ lw' → (0 ≤ 1 * n0'.toInt + 0 ∧ 1 * n0'.toInt + 0 ≤ 0) → (0 ≤ 1 * m1.toInt + ((-1) * n1'.toInt + 0) ∧ 1 * m1.toInt + ((-1) * n1'.toInt + 0) ≤ 0) → ((-1) ≤ 1 * (σ.2.1 1 1).toInt + ((-1) * n2'.toInt + 0) ∧ 1 * (σ.2.1 1 1).toInt + ((-1) * n2'.toInt + 0) ≤ (-1)) → ((-1) ≤ 1 * (σ.2.1 1 1).toInt + ((-1) * (σ'.2.1 1 1).toInt + 0) ∧ 1 * (σ.2.1 1 1).toInt + ((-1) * (σ'.2.1 1 1).toInt + 0) ≤ (-1)) → (0 ≤ 1 * m1.toInt + ((-1) * m1'.toInt + 0) ∧ 1 * m1.toInt + ((-1) * m1'.toInt + 0) ≤ 0) → (0 ≤ 1 * m2'.toInt + 0 ∧ 1 * m2'.toInt + 0 ≤ 0) → sx_M zK hd_T σ 262144 0 σ' → am_K g 5 tX10_append.1 0 0 36 lw' [.int n0', .int n1', .int n2', .ref 2] σ' post) : am_K g 5 tX10_append.1 0 0 39 lw [] σ post := by
  refine sg_seg (sw := []) (vs := [m1.toInt, m2.toInt, (σ.2.1 1 1).toInt]) (ws := []) G (mi := 15) rfl hct sg_ap2_8_ok ⟨⟨m1, hl1, rfl⟩, ⟨⟨m2, hl2, rfl⟩, ⟨rfl, trivial⟩⟩⟩ (hd_refs hl) trivial (hd_p1 rfl (Int32.le_toInt _) (Int32.toInt_le _) (hd_p1 rfl bl2.1 bl2.2 (hd_p1 rfl bp1_1.1 bp1_1.2 hd_p0))) hM ?_ ?_
  · intro r σ' hq
    cases r with
    | none => exact hq.elim
    | some v =>
      obtain ⟨p, hp, hM2, ks, hk, hv⟩ := hq
      cases hp
  · intro u hu
    simp only [List.mem_cons, List.not_mem_nil, or_false] at hu
    rcases hu with rfl
    · intro lw' sw' vs' ws' σ' ⟨h1_0, h2, h3_0, h4, h5⟩
      obtain ⟨m1', vs1, rfl, hm1, h1_1⟩ := hd_srcl h1_0
      obtain ⟨m2', vs2, rfl, hm2, h1_2⟩ := hd_srcl h1_1
      obtain ⟨vs3, rfl, h1_3⟩ := hd_srcs h1_2
      obtain rfl := hd_src0 h1_3
      obtain ⟨n0', sw1, ws1, rfl, rfl, h3_1⟩ := hd_sti h3_0
      obtain ⟨n1', sw2, ws2, rfl, rfl, h3_2⟩ := hd_sti h3_1
      obtain ⟨n2', sw3, ws3, rfl, rfl, h3_3⟩ := hd_sti h3_2
      obtain ⟨sw4, rfl, h3_4⟩ := hd_str h3_3
      obtain ⟨rfl, rfl⟩ := hd_st0 h3_4
      have hr9 := hd_ref0 h2
      obtain ⟨v0, e0, l0, u0⟩ := h4 _ (List.mem_cons_self)
      have g0 : 1 * n0'.toInt + 0 = v0 := Option.some.inj e0
      obtain ⟨v1, e1, l1, u1⟩ := h4 _ (List.mem_cons_of_mem _ (List.mem_cons_self))
      have g1 : 1 * m1.toInt + ((-1) * n1'.toInt + 0) = v1 := Option.some.inj e1
      obtain ⟨v2, e2, l2, u2⟩ := h4 _ (List.mem_cons_of_mem _ (List.mem_cons_of_mem _ (List.mem_cons_self)))
      have g2 : 1 * (σ.2.1 1 1).toInt + ((-1) * n2'.toInt + 0) = v2 := Option.some.inj e2
      obtain ⟨v3, e3, l3, u3⟩ := h4 _ (List.mem_cons_of_mem _ (List.mem_cons_of_mem _ (List.mem_cons_of_mem _ (List.mem_cons_self))))
      have g3 : 1 * (σ.2.1 1 1).toInt + ((-1) * (σ'.2.1 1 1).toInt + 0) = v3 := Option.some.inj e3
      obtain ⟨v4, e4, l4, u4⟩ := h4 _ (List.mem_cons_of_mem _ (List.mem_cons_of_mem _ (List.mem_cons_of_mem _ (List.mem_cons_of_mem _ (List.mem_cons_self)))))
      have g4 : 1 * m1.toInt + ((-1) * m1'.toInt + 0) = v4 := Option.some.inj e4
      obtain ⟨v5, e5, l5, u5⟩ := h4 _ (List.mem_cons_of_mem _ (List.mem_cons_of_mem _ (List.mem_cons_of_mem _ (List.mem_cons_of_mem _ (List.mem_cons_of_mem _ (List.mem_cons_self))))))
      have g5 : 1 * m2'.toInt + 0 = v5 := Option.some.inj e5
      exact cuta _ _ _ _ _ _ _ hr9 hm1 hm2 ⟨by rw [g0]; exact l0, by rw [g0]; exact u0⟩ ⟨by rw [g1]; exact l1, by rw [g1]; exact u1⟩ ⟨by rw [g2]; exact l2, by rw [g2]; exact u2⟩ ⟨by rw [g3]; exact l3, by rw [g3]; exact u3⟩ ⟨by rw [g4]; exact l4, by rw [g4]; exact u4⟩ ⟨by rw [g5]; exact l5, by rw [g5]; exact u5⟩ h5
theorem sg_ap3_run (G : sx_G0 g L xs zK hd_T ex_mt) (hct : ∀ (mi : Nat) (T2 : ex_T) (c' : sx_Ct), ex_mt mi = some T2 → c' ∈ k9 mi → c'.1 < 0 → sx_Holds g zK hd_T T2 c') {σ : am_S} {lw : List (Nat × Value)} {post : Option (Option Value) → am_S → Prop} (hM : sx_M zK hd_T σ 0 0 σ) (hl : (0, Value.ref 1) ∈ lw) {m1 : Int32} (hl1 : (1, Value.int m1) ∈ lw) {m2 : Int32} (hl2 : (2, Value.int m2) ∈ lw) (bl2 : 0 ≤ m2.toInt ∧ m2.toInt ≤ 0) (bp1_1 : 0 ≤ (σ.2.1 1 1).toInt ∧ (σ.2.1 1 1).toInt ≤ 939) (ret0 : ∀ (σ' : am_S), ((-1) ≤ 1 * (σ.2.1 1 1).toInt + ((-1) * (σ'.2.1 1 1).toInt + 0) ∧ 1 * (σ.2.1 1 1).toInt + ((-1) * (σ'.2.1 1 1).toInt + 0) ≤ (-1)) → sx_M zK hd_T σ 262144 0 σ' → post (some none) σ') : am_K g 5 tX10_append.1 0 0 39 lw [] σ post := by
  refine sg_seg (sw := []) (vs := [m1.toInt, m2.toInt, (σ.2.1 1 1).toInt]) (ws := []) G (mi := 15) rfl hct sg_ap3_ok ⟨⟨m1, hl1, rfl⟩, ⟨⟨m2, hl2, rfl⟩, ⟨rfl, trivial⟩⟩⟩ (hd_refs hl) trivial (hd_p1 rfl (Int32.le_toInt _) (Int32.toInt_le _) (hd_p1 rfl bl2.1 bl2.2 (hd_p1 rfl bp1_1.1 bp1_1.2 hd_p0))) hM ?_ ?_
  · intro r σ' hq
    cases r with
    | none => exact hq.elim
    | some v =>
      obtain ⟨p, hp, hM2, ks, hk, hv⟩ := hq
      simp only [List.mem_cons, List.not_mem_nil, or_false] at hp
      rcases hp with rfl
      · obtain ⟨ks0, rfl, hk1⟩ := hd_keyc hk; obtain rfl := hd_keys hk1
        cases v with
        | some w9 => exact hv.elim
        | none =>
          have hP := hv
          obtain ⟨v0, e0, l0, u0⟩ := hP _ (List.mem_cons_self)
          have g0 : 1 * (σ.2.1 1 1).toInt + ((-1) * (σ'.2.1 1 1).toInt + 0) = v0 := Option.some.inj e0
          exact ret0 _ ⟨by rw [g0]; exact l0, by rw [g0]; exact u0⟩ hM2
  · intro u hu
    cases hu
theorem sg_xe0_run (G : sx_G0 g L xs zK hd_T ex_mt) (hct : ∀ (mi : Nat) (T2 : ex_T) (c' : sx_Ct), ex_mt mi = some T2 → c' ∈ k9 mi → c'.1 < 0 → sx_Holds g zK hd_T T2 c') {σ : am_S} {lw : List (Nat × Value)} {post : Option (Option Value) → am_S → Prop} (hM : sx_M zK hd_T σ 0 0 σ) (hl : (0, Value.ref 0) ∈ lw) {m1 : Int32} (hl1 : (1, Value.int m1) ∈ lw) {m2 : Int32} (hl2 : (2, Value.int m2) ∈ lw) {m3 : Int32} (hl3 : (3, Value.int m3) ∈ lw) {m4 : Int32} (hl4 : (4, Value.int m4) ∈ lw) {m5 : Int32} (hl5 : (5, Value.int m5) ∈ lw) (bp1_1 : 921 ≤ (σ.2.1 1 1).toInt ∧ (σ.2.1 1 1).toInt ≤ 940) (ret0 : ∀ (r : Int32) (σ' : am_S), ((-1) ≤ 1 * r.toInt + 0 ∧ 1 * r.toInt + 0 ≤ (-1)) → sx_M zK hd_T σ 0 0 σ' → post (some (some (.int r))) σ') : am_K g 12 tX11_feed.1 0 0 0 lw [] σ post := by
  refine sg_seg (sw := []) (vs := [m1.toInt, m2.toInt, m3.toInt, m4.toInt, m5.toInt, (σ.2.1 1 1).toInt]) (ws := []) G (mi := 34) rfl hct sg_xe0_ok ⟨⟨m1, hl1, rfl⟩, ⟨⟨m2, hl2, rfl⟩, ⟨⟨m3, hl3, rfl⟩, ⟨⟨m4, hl4, rfl⟩, ⟨⟨m5, hl5, rfl⟩, ⟨rfl, trivial⟩⟩⟩⟩⟩⟩ (hd_refs hl) trivial (hd_p1 rfl (Int32.le_toInt _) (Int32.toInt_le _) (hd_p1 rfl (Int32.le_toInt _) (Int32.toInt_le _) (hd_p1 rfl (Int32.le_toInt _) (Int32.toInt_le _) (hd_p1 rfl (Int32.le_toInt _) (Int32.toInt_le _) (hd_p1 rfl (Int32.le_toInt _) (Int32.toInt_le _) (hd_p1 rfl bp1_1.1 bp1_1.2 hd_p0)))))) hM ?_ ?_
  · intro r σ' hq
    cases r with
    | none => exact hq.elim
    | some v =>
      obtain ⟨p, hp, hM2, ks, hk, hv⟩ := hq
      simp only [List.mem_cons, List.not_mem_nil, or_false] at hp
      rcases hp with rfl
      · obtain rfl := hd_keys hk
        cases v with
        | none => exact hv.elim
        | some w9 =>
          obtain ⟨r, rfl, hP⟩ := hv
          obtain ⟨v0, e0, l0, u0⟩ := hP _ (List.mem_cons_self)
          have g0 : 1 * r.toInt + 0 = v0 := Option.some.inj e0
          exact ret0 r _ ⟨by rw [g0]; exact l0, by rw [g0]; exact u0⟩ hM2
  · intro u hu
    cases hu
theorem sg_xe1_run (G : sx_G0 g L xs zK hd_T ex_mt) (hct : ∀ (mi : Nat) (T2 : ex_T) (c' : sx_Ct), ex_mt mi = some T2 → c' ∈ k9 mi → c'.1 < 0 → sx_Holds g zK hd_T T2 c') {σ : am_S} {lw : List (Nat × Value)} {post : Option (Option Value) → am_S → Prop} (hM : sx_M zK hd_T σ 0 0 σ) (hl : (0, Value.ref 0) ∈ lw) {m1 : Int32} (hl1 : (1, Value.int m1) ∈ lw) {m2 : Int32} (hl2 : (2, Value.int m2) ∈ lw) {m3 : Int32} (hl3 : (3, Value.int m3) ∈ lw) {m4 : Int32} (hl4 : (4, Value.int m4) ∈ lw) {m5 : Int32} (hl5 : (5, Value.int m5) ∈ lw) (bp1_1 : 0 ≤ (σ.2.1 1 1).toInt ∧ (σ.2.1 1 1).toInt ≤ 920) (cuta : ∀ (lw' : List (Nat × Value)) (m1' : Int32) (m2' : Int32) (m3' : Int32) (m4' : Int32) (m5' : Int32) (n0' : Int32) (σ' : am_S), (0, Value.ref 0) ∈ lw' → (1, Value.int m1') ∈ lw' → (2, Value.int m2') ∈ lw' → (3, Value.int m3') ∈ lw' → (4, Value.int m4') ∈ lw' → (5, Value.int m5') ∈ lw' → (0 ≤ 1 * m1.toInt + ((-1) * n0'.toInt + 0) ∧ 1 * m1.toInt + ((-1) * n0'.toInt + 0) ≤ 0) → (0 ≤ 1 * m1.toInt + ((-1) * m1'.toInt + 0) ∧ 1 * m1.toInt + ((-1) * m1'.toInt + 0) ≤ 0) → (0 ≤ 1 * m2.toInt + ((-1) * m2'.toInt + 0) ∧ 1 * m2.toInt + ((-1) * m2'.toInt + 0) ≤ 0) → (0 ≤ 1 * m3.toInt + ((-1) * m3'.toInt + 0) ∧ 1 * m3.toInt + ((-1) * m3'.toInt + 0) ≤ 0) → (0 ≤ 1 * m4.toInt + ((-1) * m4'.toInt + 0) ∧ 1 * m4.toInt + ((-1) * m4'.toInt + 0) ≤ 0) → (0 ≤ 1 * m5.toInt + ((-1) * m5'.toInt + 0) ∧ 1 * m5.toInt + ((-1) * m5'.toInt + 0) ≤ 0) → sx_M zK hd_T σ 0 0 σ' → am_K g 12 tX11_feed.1 0 0 17 lw' [.int n0', .ref 1] σ' post) : am_K g 12 tX11_feed.1 0 0 0 lw [] σ post := by
  refine sg_seg (sw := []) (vs := [m1.toInt, m2.toInt, m3.toInt, m4.toInt, m5.toInt, (σ.2.1 1 1).toInt]) (ws := []) G (mi := 34) rfl hct sg_xe1_ok ⟨⟨m1, hl1, rfl⟩, ⟨⟨m2, hl2, rfl⟩, ⟨⟨m3, hl3, rfl⟩, ⟨⟨m4, hl4, rfl⟩, ⟨⟨m5, hl5, rfl⟩, ⟨rfl, trivial⟩⟩⟩⟩⟩⟩ (hd_refs hl) trivial (hd_p1 rfl (Int32.le_toInt _) (Int32.toInt_le _) (hd_p1 rfl (Int32.le_toInt _) (Int32.toInt_le _) (hd_p1 rfl (Int32.le_toInt _) (Int32.toInt_le _) (hd_p1 rfl (Int32.le_toInt _) (Int32.toInt_le _) (hd_p1 rfl (Int32.le_toInt _) (Int32.toInt_le _) (hd_p1 rfl bp1_1.1 bp1_1.2 hd_p0)))))) hM ?_ ?_
  · intro r σ' hq
    cases r with
    | none => exact hq.elim
    | some v =>
      obtain ⟨p, hp, hM2, ks, hk, hv⟩ := hq
      cases hp
  · intro u hu
    simp only [List.mem_cons, List.not_mem_nil, or_false] at hu
    rcases hu with rfl
    · intro lw' sw' vs' ws' σ' ⟨h1_0, h2, h3_0, h4, h5⟩
      obtain ⟨m1', vs1, rfl, hm1, h1_1⟩ := hd_srcl h1_0
      obtain ⟨m2', vs2, rfl, hm2, h1_2⟩ := hd_srcl h1_1
      obtain ⟨m3', vs3, rfl, hm3, h1_3⟩ := hd_srcl h1_2
      obtain ⟨m4', vs4, rfl, hm4, h1_4⟩ := hd_srcl h1_3
      obtain ⟨m5', vs5, rfl, hm5, h1_5⟩ := hd_srcl h1_4
      obtain rfl := hd_src0 h1_5
      obtain ⟨n0', sw1, ws1, rfl, rfl, h3_1⟩ := hd_sti h3_0
      obtain ⟨sw2, rfl, h3_2⟩ := hd_str h3_1
      obtain ⟨rfl, rfl⟩ := hd_st0 h3_2
      have hr9 := hd_ref0 h2
      obtain ⟨v0, e0, l0, u0⟩ := h4 _ (List.mem_cons_self)
      have g0 : 1 * m1.toInt + ((-1) * n0'.toInt + 0) = v0 := Option.some.inj e0
      obtain ⟨v1, e1, l1, u1⟩ := h4 _ (List.mem_cons_of_mem _ (List.mem_cons_self))
      have g1 : 1 * m1.toInt + ((-1) * m1'.toInt + 0) = v1 := Option.some.inj e1
      obtain ⟨v2, e2, l2, u2⟩ := h4 _ (List.mem_cons_of_mem _ (List.mem_cons_of_mem _ (List.mem_cons_self)))
      have g2 : 1 * m2.toInt + ((-1) * m2'.toInt + 0) = v2 := Option.some.inj e2
      obtain ⟨v3, e3, l3, u3⟩ := h4 _ (List.mem_cons_of_mem _ (List.mem_cons_of_mem _ (List.mem_cons_of_mem _ (List.mem_cons_self))))
      have g3 : 1 * m3.toInt + ((-1) * m3'.toInt + 0) = v3 := Option.some.inj e3
      obtain ⟨v4, e4, l4, u4⟩ := h4 _ (List.mem_cons_of_mem _ (List.mem_cons_of_mem _ (List.mem_cons_of_mem _ (List.mem_cons_of_mem _ (List.mem_cons_self)))))
      have g4 : 1 * m4.toInt + ((-1) * m4'.toInt + 0) = v4 := Option.some.inj e4
      obtain ⟨v5, e5, l5, u5⟩ := h4 _ (List.mem_cons_of_mem _ (List.mem_cons_of_mem _ (List.mem_cons_of_mem _ (List.mem_cons_of_mem _ (List.mem_cons_of_mem _ (List.mem_cons_self))))))
      have g5 : 1 * m5.toInt + ((-1) * m5'.toInt + 0) = v5 := Option.some.inj e5
      exact cuta _ _ _ _ _ _ _ _ hr9 hm1 hm2 hm3 hm4 hm5 ⟨by rw [g0]; exact l0, by rw [g0]; exact u0⟩ ⟨by rw [g1]; exact l1, by rw [g1]; exact u1⟩ ⟨by rw [g2]; exact l2, by rw [g2]; exact u2⟩ ⟨by rw [g3]; exact l3, by rw [g3]; exact u3⟩ ⟨by rw [g4]; exact l4, by rw [g4]; exact u4⟩ ⟨by rw [g5]; exact l5, by rw [g5]; exact u5⟩ h5
theorem sg_xe2_run (G : sx_G0 g L xs zK hd_T ex_mt) (hct : ∀ (mi : Nat) (T2 : ex_T) (c' : sx_Ct), ex_mt mi = some T2 → c' ∈ k9 mi → c'.1 < 0 → sx_Holds g zK hd_T T2 c') {σ : am_S} {lw : List (Nat × Value)} {post : Option (Option Value) → am_S → Prop} (hM : sx_M zK hd_T σ 0 0 σ) (hl : (0, Value.ref 0) ∈ lw) {m1 : Int32} (hl1 : (1, Value.int m1) ∈ lw) {m2 : Int32} (hl2 : (2, Value.int m2) ∈ lw) {m3 : Int32} (hl3 : (3, Value.int m3) ∈ lw) {m4 : Int32} (hl4 : (4, Value.int m4) ∈ lw) {m5 : Int32} (hl5 : (5, Value.int m5) ∈ lw) (cuta : ∀ (lw' : List (Nat × Value)) (m1' : Int32) (m2' : Int32) (m3' : Int32) (m4' : Int32) (m5' : Int32) (n0' : Int32) (σ' : am_S), (0, Value.ref 0) ∈ lw' → (1, Value.int m1') ∈ lw' → (2, Value.int m2') ∈ lw' → (3, Value.int m3') ∈ lw' → (4, Value.int m4') ∈ lw' → (5, Value.int m5') ∈ lw' → (0 ≤ 1 * m2.toInt + ((-1) * n0'.toInt + 0) ∧ 1 * m2.toInt + ((-1) * n0'.toInt + 0) ≤ 0) → (0 ≤ 1 * m1.toInt + ((-1) * m1'.toInt + 0) ∧ 1 * m1.toInt + ((-1) * m1'.toInt + 0) ≤ 0) → (0 ≤ 1 * m2.toInt + ((-1) * m2'.toInt + 0) ∧ 1 * m2.toInt + ((-1) * m2'.toInt + 0) ≤ 0) → (0 ≤ 1 * m3.toInt + ((-1) * m3'.toInt + 0) ∧ 1 * m3.toInt + ((-1) * m3'.toInt + 0) ≤ 0) → (0 ≤ 1 * m4.toInt + ((-1) * m4'.toInt + 0) ∧ 1 * m4.toInt + ((-1) * m4'.toInt + 0) ≤ 0) → (0 ≤ 1 * m5.toInt + ((-1) * m5'.toInt + 0) ∧ 1 * m5.toInt + ((-1) * m5'.toInt + 0) ≤ 0) → sx_M zK hd_T σ 0 0 σ' → am_K g 12 tX11_feed.1 0 0 25 lw' [.int n0', .ref 1] σ' post) : am_K g 12 tX11_feed.1 0 0 20 lw [] σ post := by
  refine sg_seg (sw := []) (vs := [m1.toInt, m2.toInt, m3.toInt, m4.toInt, m5.toInt]) (ws := []) G (mi := 34) rfl hct sg_xe2_ok ⟨⟨m1, hl1, rfl⟩, ⟨⟨m2, hl2, rfl⟩, ⟨⟨m3, hl3, rfl⟩, ⟨⟨m4, hl4, rfl⟩, ⟨⟨m5, hl5, rfl⟩, trivial⟩⟩⟩⟩⟩ (hd_refs hl) trivial (hd_p1 rfl (Int32.le_toInt _) (Int32.toInt_le _) (hd_p1 rfl (Int32.le_toInt _) (Int32.toInt_le _) (hd_p1 rfl (Int32.le_toInt _) (Int32.toInt_le _) (hd_p1 rfl (Int32.le_toInt _) (Int32.toInt_le _) (hd_p1 rfl (Int32.le_toInt _) (Int32.toInt_le _) hd_p0))))) hM ?_ ?_
  · intro r σ' hq
    cases r with
    | none => exact hq.elim
    | some v =>
      obtain ⟨p, hp, hM2, ks, hk, hv⟩ := hq
      cases hp
  · intro u hu
    simp only [List.mem_cons, List.not_mem_nil, or_false] at hu
    rcases hu with rfl
    · intro lw' sw' vs' ws' σ' ⟨h1_0, h2, h3_0, h4, h5⟩
      obtain ⟨m1', vs1, rfl, hm1, h1_1⟩ := hd_srcl h1_0
      obtain ⟨m2', vs2, rfl, hm2, h1_2⟩ := hd_srcl h1_1
      obtain ⟨m3', vs3, rfl, hm3, h1_3⟩ := hd_srcl h1_2
      obtain ⟨m4', vs4, rfl, hm4, h1_4⟩ := hd_srcl h1_3
      obtain ⟨m5', vs5, rfl, hm5, h1_5⟩ := hd_srcl h1_4
      obtain rfl := hd_src0 h1_5
      obtain ⟨n0', sw1, ws1, rfl, rfl, h3_1⟩ := hd_sti h3_0
      obtain ⟨sw2, rfl, h3_2⟩ := hd_str h3_1
      obtain ⟨rfl, rfl⟩ := hd_st0 h3_2
      have hr9 := hd_ref0 h2
      obtain ⟨v0, e0, l0, u0⟩ := h4 _ (List.mem_cons_self)
      have g0 : 1 * m2.toInt + ((-1) * n0'.toInt + 0) = v0 := Option.some.inj e0
      obtain ⟨v1, e1, l1, u1⟩ := h4 _ (List.mem_cons_of_mem _ (List.mem_cons_self))
      have g1 : 1 * m1.toInt + ((-1) * m1'.toInt + 0) = v1 := Option.some.inj e1
      obtain ⟨v2, e2, l2, u2⟩ := h4 _ (List.mem_cons_of_mem _ (List.mem_cons_of_mem _ (List.mem_cons_self)))
      have g2 : 1 * m2.toInt + ((-1) * m2'.toInt + 0) = v2 := Option.some.inj e2
      obtain ⟨v3, e3, l3, u3⟩ := h4 _ (List.mem_cons_of_mem _ (List.mem_cons_of_mem _ (List.mem_cons_of_mem _ (List.mem_cons_self))))
      have g3 : 1 * m3.toInt + ((-1) * m3'.toInt + 0) = v3 := Option.some.inj e3
      obtain ⟨v4, e4, l4, u4⟩ := h4 _ (List.mem_cons_of_mem _ (List.mem_cons_of_mem _ (List.mem_cons_of_mem _ (List.mem_cons_of_mem _ (List.mem_cons_self)))))
      have g4 : 1 * m4.toInt + ((-1) * m4'.toInt + 0) = v4 := Option.some.inj e4
      obtain ⟨v5, e5, l5, u5⟩ := h4 _ (List.mem_cons_of_mem _ (List.mem_cons_of_mem _ (List.mem_cons_of_mem _ (List.mem_cons_of_mem _ (List.mem_cons_of_mem _ (List.mem_cons_self))))))
      have g5 : 1 * m5.toInt + ((-1) * m5'.toInt + 0) = v5 := Option.some.inj e5
      exact cuta _ _ _ _ _ _ _ _ hr9 hm1 hm2 hm3 hm4 hm5 ⟨by rw [g0]; exact l0, by rw [g0]; exact u0⟩ ⟨by rw [g1]; exact l1, by rw [g1]; exact u1⟩ ⟨by rw [g2]; exact l2, by rw [g2]; exact u2⟩ ⟨by rw [g3]; exact l3, by rw [g3]; exact u3⟩ ⟨by rw [g4]; exact l4, by rw [g4]; exact u4⟩ ⟨by rw [g5]; exact l5, by rw [g5]; exact u5⟩ h5
theorem sg_xe3_run (G : sx_G0 g L xs zK hd_T ex_mt) (hct : ∀ (mi : Nat) (T2 : ex_T) (c' : sx_Ct), ex_mt mi = some T2 → c' ∈ k9 mi → c'.1 < 0 → sx_Holds g zK hd_T T2 c') {σ : am_S} {lw : List (Nat × Value)} {post : Option (Option Value) → am_S → Prop} (hM : sx_M zK hd_T σ 0 0 σ) (hl : (0, Value.ref 0) ∈ lw) {m1 : Int32} (hl1 : (1, Value.int m1) ∈ lw) {m2 : Int32} (hl2 : (2, Value.int m2) ∈ lw) {m3 : Int32} (hl3 : (3, Value.int m3) ∈ lw) {m4 : Int32} (hl4 : (4, Value.int m4) ∈ lw) {m5 : Int32} (hl5 : (5, Value.int m5) ∈ lw) (cuta : ∀ (lw' : List (Nat × Value)) (m1' : Int32) (m2' : Int32) (m3' : Int32) (m4' : Int32) (m5' : Int32) (n0' : Int32) (σ' : am_S), (0, Value.ref 0) ∈ lw' → (1, Value.int m1') ∈ lw' → (2, Value.int m2') ∈ lw' → (3, Value.int m3') ∈ lw' → (4, Value.int m4') ∈ lw' → (5, Value.int m5') ∈ lw' → (0 ≤ 1 * m3.toInt + ((-1) * n0'.toInt + 0) ∧ 1 * m3.toInt + ((-1) * n0'.toInt + 0) ≤ 0) → (0 ≤ 1 * m1.toInt + ((-1) * m1'.toInt + 0) ∧ 1 * m1.toInt + ((-1) * m1'.toInt + 0) ≤ 0) → (0 ≤ 1 * m2.toInt + ((-1) * m2'.toInt + 0) ∧ 1 * m2.toInt + ((-1) * m2'.toInt + 0) ≤ 0) → (0 ≤ 1 * m3.toInt + ((-1) * m3'.toInt + 0) ∧ 1 * m3.toInt + ((-1) * m3'.toInt + 0) ≤ 0) → (0 ≤ 1 * m4.toInt + ((-1) * m4'.toInt + 0) ∧ 1 * m4.toInt + ((-1) * m4'.toInt + 0) ≤ 0) → (0 ≤ 1 * m5.toInt + ((-1) * m5'.toInt + 0) ∧ 1 * m5.toInt + ((-1) * m5'.toInt + 0) ≤ 0) → sx_M zK hd_T σ 0 0 σ' → am_K g 12 tX11_feed.1 0 0 33 lw' [.int n0', .ref 1] σ' post) : am_K g 12 tX11_feed.1 0 0 28 lw [] σ post := by
  refine sg_seg (sw := []) (vs := [m1.toInt, m2.toInt, m3.toInt, m4.toInt, m5.toInt]) (ws := []) G (mi := 34) rfl hct sg_xe3_ok ⟨⟨m1, hl1, rfl⟩, ⟨⟨m2, hl2, rfl⟩, ⟨⟨m3, hl3, rfl⟩, ⟨⟨m4, hl4, rfl⟩, ⟨⟨m5, hl5, rfl⟩, trivial⟩⟩⟩⟩⟩ (hd_refs hl) trivial (hd_p1 rfl (Int32.le_toInt _) (Int32.toInt_le _) (hd_p1 rfl (Int32.le_toInt _) (Int32.toInt_le _) (hd_p1 rfl (Int32.le_toInt _) (Int32.toInt_le _) (hd_p1 rfl (Int32.le_toInt _) (Int32.toInt_le _) (hd_p1 rfl (Int32.le_toInt _) (Int32.toInt_le _) hd_p0))))) hM ?_ ?_
  · intro r σ' hq
    cases r with
    | none => exact hq.elim
    | some v =>
      obtain ⟨p, hp, hM2, ks, hk, hv⟩ := hq
      cases hp
  · intro u hu
    simp only [List.mem_cons, List.not_mem_nil, or_false] at hu
    rcases hu with rfl
    · intro lw' sw' vs' ws' σ' ⟨h1_0, h2, h3_0, h4, h5⟩
      obtain ⟨m1', vs1, rfl, hm1, h1_1⟩ := hd_srcl h1_0
      obtain ⟨m2', vs2, rfl, hm2, h1_2⟩ := hd_srcl h1_1
      obtain ⟨m3', vs3, rfl, hm3, h1_3⟩ := hd_srcl h1_2
      obtain ⟨m4', vs4, rfl, hm4, h1_4⟩ := hd_srcl h1_3
      obtain ⟨m5', vs5, rfl, hm5, h1_5⟩ := hd_srcl h1_4
      obtain rfl := hd_src0 h1_5
      obtain ⟨n0', sw1, ws1, rfl, rfl, h3_1⟩ := hd_sti h3_0
      obtain ⟨sw2, rfl, h3_2⟩ := hd_str h3_1
      obtain ⟨rfl, rfl⟩ := hd_st0 h3_2
      have hr9 := hd_ref0 h2
      obtain ⟨v0, e0, l0, u0⟩ := h4 _ (List.mem_cons_self)
      have g0 : 1 * m3.toInt + ((-1) * n0'.toInt + 0) = v0 := Option.some.inj e0
      obtain ⟨v1, e1, l1, u1⟩ := h4 _ (List.mem_cons_of_mem _ (List.mem_cons_self))
      have g1 : 1 * m1.toInt + ((-1) * m1'.toInt + 0) = v1 := Option.some.inj e1
      obtain ⟨v2, e2, l2, u2⟩ := h4 _ (List.mem_cons_of_mem _ (List.mem_cons_of_mem _ (List.mem_cons_self)))
      have g2 : 1 * m2.toInt + ((-1) * m2'.toInt + 0) = v2 := Option.some.inj e2
      obtain ⟨v3, e3, l3, u3⟩ := h4 _ (List.mem_cons_of_mem _ (List.mem_cons_of_mem _ (List.mem_cons_of_mem _ (List.mem_cons_self))))
      have g3 : 1 * m3.toInt + ((-1) * m3'.toInt + 0) = v3 := Option.some.inj e3
      obtain ⟨v4, e4, l4, u4⟩ := h4 _ (List.mem_cons_of_mem _ (List.mem_cons_of_mem _ (List.mem_cons_of_mem _ (List.mem_cons_of_mem _ (List.mem_cons_self)))))
      have g4 : 1 * m4.toInt + ((-1) * m4'.toInt + 0) = v4 := Option.some.inj e4
      obtain ⟨v5, e5, l5, u5⟩ := h4 _ (List.mem_cons_of_mem _ (List.mem_cons_of_mem _ (List.mem_cons_of_mem _ (List.mem_cons_of_mem _ (List.mem_cons_of_mem _ (List.mem_cons_self))))))
      have g5 : 1 * m5.toInt + ((-1) * m5'.toInt + 0) = v5 := Option.some.inj e5
      exact cuta _ _ _ _ _ _ _ _ hr9 hm1 hm2 hm3 hm4 hm5 ⟨by rw [g0]; exact l0, by rw [g0]; exact u0⟩ ⟨by rw [g1]; exact l1, by rw [g1]; exact u1⟩ ⟨by rw [g2]; exact l2, by rw [g2]; exact u2⟩ ⟨by rw [g3]; exact l3, by rw [g3]; exact u3⟩ ⟨by rw [g4]; exact l4, by rw [g4]; exact u4⟩ ⟨by rw [g5]; exact l5, by rw [g5]; exact u5⟩ h5
theorem sg_xe4_run (G : sx_G0 g L xs zK hd_T ex_mt) (hct : ∀ (mi : Nat) (T2 : ex_T) (c' : sx_Ct), ex_mt mi = some T2 → c' ∈ k9 mi → c'.1 < 0 → sx_Holds g zK hd_T T2 c') {σ : am_S} {lw : List (Nat × Value)} {post : Option (Option Value) → am_S → Prop} (hM : sx_M zK hd_T σ 0 0 σ) (hl : (0, Value.ref 0) ∈ lw) {m1 : Int32} (hl1 : (1, Value.int m1) ∈ lw) {m2 : Int32} (hl2 : (2, Value.int m2) ∈ lw) {m3 : Int32} (hl3 : (3, Value.int m3) ∈ lw) {m4 : Int32} (hl4 : (4, Value.int m4) ∈ lw) {m5 : Int32} (hl5 : (5, Value.int m5) ∈ lw) (cuta : ∀ (lw' : List (Nat × Value)) (m1' : Int32) (m2' : Int32) (m3' : Int32) (m4' : Int32) (m5' : Int32) (n0' : Int32) (σ' : am_S), (0, Value.ref 0) ∈ lw' → (1, Value.int m1') ∈ lw' → (2, Value.int m2') ∈ lw' → (3, Value.int m3') ∈ lw' → (4, Value.int m4') ∈ lw' → (5, Value.int m5') ∈ lw' → (0 ≤ 1 * m4.toInt + ((-1) * n0'.toInt + 0) ∧ 1 * m4.toInt + ((-1) * n0'.toInt + 0) ≤ 0) → (0 ≤ 1 * m1.toInt + ((-1) * m1'.toInt + 0) ∧ 1 * m1.toInt + ((-1) * m1'.toInt + 0) ≤ 0) → (0 ≤ 1 * m2.toInt + ((-1) * m2'.toInt + 0) ∧ 1 * m2.toInt + ((-1) * m2'.toInt + 0) ≤ 0) → (0 ≤ 1 * m3.toInt + ((-1) * m3'.toInt + 0) ∧ 1 * m3.toInt + ((-1) * m3'.toInt + 0) ≤ 0) → (0 ≤ 1 * m4.toInt + ((-1) * m4'.toInt + 0) ∧ 1 * m4.toInt + ((-1) * m4'.toInt + 0) ≤ 0) → (0 ≤ 1 * m5.toInt + ((-1) * m5'.toInt + 0) ∧ 1 * m5.toInt + ((-1) * m5'.toInt + 0) ≤ 0) → sx_M zK hd_T σ 0 0 σ' → am_K g 12 tX11_feed.1 0 0 42 lw' [.int n0', .ref 1] σ' post) : am_K g 12 tX11_feed.1 0 0 36 lw [] σ post := by
  refine sg_seg (sw := []) (vs := [m1.toInt, m2.toInt, m3.toInt, m4.toInt, m5.toInt]) (ws := []) G (mi := 34) rfl hct sg_xe4_ok ⟨⟨m1, hl1, rfl⟩, ⟨⟨m2, hl2, rfl⟩, ⟨⟨m3, hl3, rfl⟩, ⟨⟨m4, hl4, rfl⟩, ⟨⟨m5, hl5, rfl⟩, trivial⟩⟩⟩⟩⟩ (hd_refs hl) trivial (hd_p1 rfl (Int32.le_toInt _) (Int32.toInt_le _) (hd_p1 rfl (Int32.le_toInt _) (Int32.toInt_le _) (hd_p1 rfl (Int32.le_toInt _) (Int32.toInt_le _) (hd_p1 rfl (Int32.le_toInt _) (Int32.toInt_le _) (hd_p1 rfl (Int32.le_toInt _) (Int32.toInt_le _) hd_p0))))) hM ?_ ?_
  · intro r σ' hq
    cases r with
    | none => exact hq.elim
    | some v =>
      obtain ⟨p, hp, hM2, ks, hk, hv⟩ := hq
      cases hp
  · intro u hu
    simp only [List.mem_cons, List.not_mem_nil, or_false] at hu
    rcases hu with rfl
    · intro lw' sw' vs' ws' σ' ⟨h1_0, h2, h3_0, h4, h5⟩
      obtain ⟨m1', vs1, rfl, hm1, h1_1⟩ := hd_srcl h1_0
      obtain ⟨m2', vs2, rfl, hm2, h1_2⟩ := hd_srcl h1_1
      obtain ⟨m3', vs3, rfl, hm3, h1_3⟩ := hd_srcl h1_2
      obtain ⟨m4', vs4, rfl, hm4, h1_4⟩ := hd_srcl h1_3
      obtain ⟨m5', vs5, rfl, hm5, h1_5⟩ := hd_srcl h1_4
      obtain rfl := hd_src0 h1_5
      obtain ⟨n0', sw1, ws1, rfl, rfl, h3_1⟩ := hd_sti h3_0
      obtain ⟨sw2, rfl, h3_2⟩ := hd_str h3_1
      obtain ⟨rfl, rfl⟩ := hd_st0 h3_2
      have hr9 := hd_ref0 h2
      obtain ⟨v0, e0, l0, u0⟩ := h4 _ (List.mem_cons_self)
      have g0 : 1 * m4.toInt + ((-1) * n0'.toInt + 0) = v0 := Option.some.inj e0
      obtain ⟨v1, e1, l1, u1⟩ := h4 _ (List.mem_cons_of_mem _ (List.mem_cons_self))
      have g1 : 1 * m1.toInt + ((-1) * m1'.toInt + 0) = v1 := Option.some.inj e1
      obtain ⟨v2, e2, l2, u2⟩ := h4 _ (List.mem_cons_of_mem _ (List.mem_cons_of_mem _ (List.mem_cons_self)))
      have g2 : 1 * m2.toInt + ((-1) * m2'.toInt + 0) = v2 := Option.some.inj e2
      obtain ⟨v3, e3, l3, u3⟩ := h4 _ (List.mem_cons_of_mem _ (List.mem_cons_of_mem _ (List.mem_cons_of_mem _ (List.mem_cons_self))))
      have g3 : 1 * m3.toInt + ((-1) * m3'.toInt + 0) = v3 := Option.some.inj e3
      obtain ⟨v4, e4, l4, u4⟩ := h4 _ (List.mem_cons_of_mem _ (List.mem_cons_of_mem _ (List.mem_cons_of_mem _ (List.mem_cons_of_mem _ (List.mem_cons_self)))))
      have g4 : 1 * m4.toInt + ((-1) * m4'.toInt + 0) = v4 := Option.some.inj e4
      obtain ⟨v5, e5, l5, u5⟩ := h4 _ (List.mem_cons_of_mem _ (List.mem_cons_of_mem _ (List.mem_cons_of_mem _ (List.mem_cons_of_mem _ (List.mem_cons_of_mem _ (List.mem_cons_self))))))
      have g5 : 1 * m5.toInt + ((-1) * m5'.toInt + 0) = v5 := Option.some.inj e5
      exact cuta _ _ _ _ _ _ _ _ hr9 hm1 hm2 hm3 hm4 hm5 ⟨by rw [g0]; exact l0, by rw [g0]; exact u0⟩ ⟨by rw [g1]; exact l1, by rw [g1]; exact u1⟩ ⟨by rw [g2]; exact l2, by rw [g2]; exact u2⟩ ⟨by rw [g3]; exact l3, by rw [g3]; exact u3⟩ ⟨by rw [g4]; exact l4, by rw [g4]; exact u4⟩ ⟨by rw [g5]; exact l5, by rw [g5]; exact u5⟩ h5
theorem sg_xe5_run (G : sx_G0 g L xs zK hd_T ex_mt) (hct : ∀ (mi : Nat) (T2 : ex_T) (c' : sx_Ct), ex_mt mi = some T2 → c' ∈ k9 mi → c'.1 < 0 → sx_Holds g zK hd_T T2 c') {σ : am_S} {lw : List (Nat × Value)} {post : Option (Option Value) → am_S → Prop} (hM : sx_M zK hd_T σ 0 0 σ) (hl : (0, Value.ref 0) ∈ lw) {m1 : Int32} (hl1 : (1, Value.int m1) ∈ lw) {m2 : Int32} (hl2 : (2, Value.int m2) ∈ lw) {m3 : Int32} (hl3 : (3, Value.int m3) ∈ lw) {m4 : Int32} (hl4 : (4, Value.int m4) ∈ lw) {m5 : Int32} (hl5 : (5, Value.int m5) ∈ lw) (cuta : ∀ (lw' : List (Nat × Value)) (m1' : Int32) (m2' : Int32) (m3' : Int32) (m4' : Int32) (m5' : Int32) (n0' : Int32) (σ' : am_S), (0, Value.ref 0) ∈ lw' → (1, Value.int m1') ∈ lw' → (2, Value.int m2') ∈ lw' → (3, Value.int m3') ∈ lw' → (4, Value.int m4') ∈ lw' → (5, Value.int m5') ∈ lw' → (0 ≤ 1 * m5.toInt + ((-1) * n0'.toInt + 0) ∧ 1 * m5.toInt + ((-1) * n0'.toInt + 0) ≤ 0) → (0 ≤ 1 * m1.toInt + ((-1) * m1'.toInt + 0) ∧ 1 * m1.toInt + ((-1) * m1'.toInt + 0) ≤ 0) → (0 ≤ 1 * m2.toInt + ((-1) * m2'.toInt + 0) ∧ 1 * m2.toInt + ((-1) * m2'.toInt + 0) ≤ 0) → (0 ≤ 1 * m3.toInt + ((-1) * m3'.toInt + 0) ∧ 1 * m3.toInt + ((-1) * m3'.toInt + 0) ≤ 0) → (0 ≤ 1 * m4.toInt + ((-1) * m4'.toInt + 0) ∧ 1 * m4.toInt + ((-1) * m4'.toInt + 0) ≤ 0) → (0 ≤ 1 * m5.toInt + ((-1) * m5'.toInt + 0) ∧ 1 * m5.toInt + ((-1) * m5'.toInt + 0) ≤ 0) → sx_M zK hd_T σ 0 0 σ' → am_K g 12 tX11_feed.1 0 0 51 lw' [.int n0', .ref 1] σ' post) : am_K g 12 tX11_feed.1 0 0 45 lw [] σ post := by
  refine sg_seg (sw := []) (vs := [m1.toInt, m2.toInt, m3.toInt, m4.toInt, m5.toInt]) (ws := []) G (mi := 34) rfl hct sg_xe5_ok ⟨⟨m1, hl1, rfl⟩, ⟨⟨m2, hl2, rfl⟩, ⟨⟨m3, hl3, rfl⟩, ⟨⟨m4, hl4, rfl⟩, ⟨⟨m5, hl5, rfl⟩, trivial⟩⟩⟩⟩⟩ (hd_refs hl) trivial (hd_p1 rfl (Int32.le_toInt _) (Int32.toInt_le _) (hd_p1 rfl (Int32.le_toInt _) (Int32.toInt_le _) (hd_p1 rfl (Int32.le_toInt _) (Int32.toInt_le _) (hd_p1 rfl (Int32.le_toInt _) (Int32.toInt_le _) (hd_p1 rfl (Int32.le_toInt _) (Int32.toInt_le _) hd_p0))))) hM ?_ ?_
  · intro r σ' hq
    cases r with
    | none => exact hq.elim
    | some v =>
      obtain ⟨p, hp, hM2, ks, hk, hv⟩ := hq
      cases hp
  · intro u hu
    simp only [List.mem_cons, List.not_mem_nil, or_false] at hu
    rcases hu with rfl
    · intro lw' sw' vs' ws' σ' ⟨h1_0, h2, h3_0, h4, h5⟩
      obtain ⟨m1', vs1, rfl, hm1, h1_1⟩ := hd_srcl h1_0
      obtain ⟨m2', vs2, rfl, hm2, h1_2⟩ := hd_srcl h1_1
      obtain ⟨m3', vs3, rfl, hm3, h1_3⟩ := hd_srcl h1_2
      obtain ⟨m4', vs4, rfl, hm4, h1_4⟩ := hd_srcl h1_3
      obtain ⟨m5', vs5, rfl, hm5, h1_5⟩ := hd_srcl h1_4
      obtain rfl := hd_src0 h1_5
      obtain ⟨n0', sw1, ws1, rfl, rfl, h3_1⟩ := hd_sti h3_0
      obtain ⟨sw2, rfl, h3_2⟩ := hd_str h3_1
      obtain ⟨rfl, rfl⟩ := hd_st0 h3_2
      have hr9 := hd_ref0 h2
      obtain ⟨v0, e0, l0, u0⟩ := h4 _ (List.mem_cons_self)
      have g0 : 1 * m5.toInt + ((-1) * n0'.toInt + 0) = v0 := Option.some.inj e0
      obtain ⟨v1, e1, l1, u1⟩ := h4 _ (List.mem_cons_of_mem _ (List.mem_cons_self))
      have g1 : 1 * m1.toInt + ((-1) * m1'.toInt + 0) = v1 := Option.some.inj e1
      obtain ⟨v2, e2, l2, u2⟩ := h4 _ (List.mem_cons_of_mem _ (List.mem_cons_of_mem _ (List.mem_cons_self)))
      have g2 : 1 * m2.toInt + ((-1) * m2'.toInt + 0) = v2 := Option.some.inj e2
      obtain ⟨v3, e3, l3, u3⟩ := h4 _ (List.mem_cons_of_mem _ (List.mem_cons_of_mem _ (List.mem_cons_of_mem _ (List.mem_cons_self))))
      have g3 : 1 * m3.toInt + ((-1) * m3'.toInt + 0) = v3 := Option.some.inj e3
      obtain ⟨v4, e4, l4, u4⟩ := h4 _ (List.mem_cons_of_mem _ (List.mem_cons_of_mem _ (List.mem_cons_of_mem _ (List.mem_cons_of_mem _ (List.mem_cons_self)))))
      have g4 : 1 * m4.toInt + ((-1) * m4'.toInt + 0) = v4 := Option.some.inj e4
      obtain ⟨v5, e5, l5, u5⟩ := h4 _ (List.mem_cons_of_mem _ (List.mem_cons_of_mem _ (List.mem_cons_of_mem _ (List.mem_cons_of_mem _ (List.mem_cons_of_mem _ (List.mem_cons_self))))))
      have g5 : 1 * m5.toInt + ((-1) * m5'.toInt + 0) = v5 := Option.some.inj e5
      exact cuta _ _ _ _ _ _ _ _ hr9 hm1 hm2 hm3 hm4 hm5 ⟨by rw [g0]; exact l0, by rw [g0]; exact u0⟩ ⟨by rw [g1]; exact l1, by rw [g1]; exact u1⟩ ⟨by rw [g2]; exact l2, by rw [g2]; exact u2⟩ ⟨by rw [g3]; exact l3, by rw [g3]; exact u3⟩ ⟨by rw [g4]; exact l4, by rw [g4]; exact u4⟩ ⟨by rw [g5]; exact l5, by rw [g5]; exact u5⟩ h5
theorem sg_xe6_run (G : sx_G0 g L xs zK hd_T ex_mt) (hct : ∀ (mi : Nat) (T2 : ex_T) (c' : sx_Ct), ex_mt mi = some T2 → c' ∈ k9 mi → c'.1 < 0 → sx_Holds g zK hd_T T2 c') {σ : am_S} {lw : List (Nat × Value)} {post : Option (Option Value) → am_S → Prop} (hM : sx_M zK hd_T σ 0 0 σ) (hl : (0, Value.ref 0) ∈ lw)  (ret0 : ∀ (r : Int32) (σ' : am_S), (0 ≤ 1 * (σ.2.1 1 1).toInt + ((-1) * r.toInt + 0) ∧ 1 * (σ.2.1 1 1).toInt + ((-1) * r.toInt + 0) ≤ 0) → sx_M zK hd_T σ 0 0 σ' → post (some (some (.int r))) σ') : am_K g 12 tX11_feed.1 0 0 54 lw [] σ post := by
  refine sg_seg (sw := []) (vs := [(σ.2.1 1 1).toInt]) (ws := []) G (mi := 34) rfl hct sg_xe6_ok ⟨rfl, trivial⟩ (hd_refs hl) trivial (hd_p1 rfl (hd_kd_1_1 hM).1 (hd_kd_1_1 hM).2 hd_p0) hM ?_ ?_
  · intro r σ' hq
    cases r with
    | none => exact hq.elim
    | some v =>
      obtain ⟨p, hp, hM2, ks, hk, hv⟩ := hq
      simp only [List.mem_cons, List.not_mem_nil, or_false] at hp
      rcases hp with rfl
      · obtain rfl := hd_keys hk
        cases v with
        | none => exact hv.elim
        | some w9 =>
          obtain ⟨r, rfl, hP⟩ := hv
          obtain ⟨v0, e0, l0, u0⟩ := hP _ (List.mem_cons_self)
          have g0 : 1 * (σ.2.1 1 1).toInt + ((-1) * r.toInt + 0) = v0 := Option.some.inj e0
          exact ret0 r _ ⟨by rw [g0]; exact l0, by rw [g0]; exact u0⟩ hM2
  · intro u hu
    cases hu
end HR
