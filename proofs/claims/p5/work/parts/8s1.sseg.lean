/-! segments of SENTENCE (written by a program) -/
def sg_kc1 : sg_Cu := (0, 0, [(0, .inr (some (false, 118)))], ([.inl 1, .inl 2, .inl 3, .inr 7733287], [([(.ofNat 1, 0)], .negSucc 2147483647, .ofNat 2147483647), ([(.ofNat 1, 1)], .negSucc 2147483647, .ofNat 2147483647), ([(.ofNat 1, 2)], .negSucc 2147483647, .ofNat 2147483647), ([(.ofNat 1, 3)], .ofNat 0, .ofNat 40)]), [])
def sg_kc1_a : sg_Cu := (11, 0, [(0, .inr (some (false, 118)))], ([.inl 1, .inl 2, .inl 3, .inr 7733287], [([(.ofNat 1, 0), (.negSucc 0, 8)], .ofNat 0, .ofNat 0), ([(.ofNat 3, 3), (.negSucc 0, 9)], .ofNat 0, .ofNat 0), ([(.ofNat 1, 0), (.negSucc 0, 4)], .ofNat 0, .ofNat 0), ([(.ofNat 1, 1), (.negSucc 0, 5)], .ofNat 0, .ofNat 0), ([(.ofNat 1, 2), (.negSucc 0, 6)], .ofNat 0, .ofNat 0), ([(.ofNat 1, 3), (.negSucc 0, 7)], .ofNat 0, .ofNat 0)]), [none, none, some (false, 122)])
theorem sg_kc1_ok : sg_chk zK ex_mt k9 0 tX12_code 9 5 sg_kc1 [] [sg_kc1_a] = true := by decide +kernel
def sg_kc2 : sg_Cu := (12, 0, [(0, .inr (some (false, 118)))], ([.inl 1, .inl 2, .inl 3, .inr 7733287], [([(.ofNat 1, 0)], .negSucc 2147483647, .ofNat 2147483647), ([(.ofNat 1, 1)], .negSucc 2147483647, .ofNat 2147483647), ([(.ofNat 1, 2)], .negSucc 2147483647, .ofNat 2147483647), ([(.ofNat 1, 3)], .ofNat 0, .ofNat 40)]), [])
def sg_kc2_a : sg_Cu := (25, 0, [(0, .inr (some (false, 118)))], ([.inl 1, .inl 2, .inl 3, .inr 7733287], [([(.ofNat 1, 1), (.negSucc 0, 8)], .ofNat 0, .ofNat 0), ([(.ofNat 3, 3), (.negSucc 0, 9)], .negSucc 0, .negSucc 0), ([(.ofNat 1, 0), (.negSucc 0, 4)], .ofNat 0, .ofNat 0), ([(.ofNat 1, 1), (.negSucc 0, 5)], .ofNat 0, .ofNat 0), ([(.ofNat 1, 2), (.negSucc 0, 6)], .ofNat 0, .ofNat 0), ([(.ofNat 1, 3), (.negSucc 0, 7)], .ofNat 0, .ofNat 0)]), [none, none, some (false, 122)])
theorem sg_kc2_ok : sg_chk zK ex_mt k9 0 tX12_code 11 5 sg_kc2 [] [sg_kc2_a] = true := by decide +kernel
def sg_kc3 : sg_Cu := (26, 0, [(0, .inr (some (false, 118)))], ([.inl 1, .inl 2, .inl 3, .inr 7733287], [([(.ofNat 1, 0)], .negSucc 2147483647, .ofNat 2147483647), ([(.ofNat 1, 1)], .negSucc 2147483647, .ofNat 2147483647), ([(.ofNat 1, 2)], .negSucc 2147483647, .ofNat 2147483647), ([(.ofNat 1, 3)], .ofNat 0, .ofNat 40)]), [])
def sg_kc3_a : sg_Cu := (39, 0, [(0, .inr (some (false, 118)))], ([.inl 1, .inl 2, .inl 3, .inr 7733287], [([(.ofNat 1, 2), (.negSucc 0, 8)], .ofNat 0, .ofNat 0), ([(.ofNat 3, 3), (.negSucc 0, 9)], .negSucc 1, .negSucc 1), ([(.ofNat 1, 3), (.negSucc 0, 7)], .ofNat 0, .ofNat 0)]), [none, none, some (false, 122)])
theorem sg_kc3_ok : sg_chk zK ex_mt k9 0 tX12_code 11 5 sg_kc3 [] [sg_kc3_a] = true := by decide +kernel
def sg_kc4 : sg_Cu := (40, 0, [(0, .inr (some (false, 118)))], ([.inr 7733287], [([(.ofNat 1, 0)], .ofNat 0, .ofNat 39)]), [])
def sg_kc4_p0 : sx_Po := (645562469521727147413979793000752968582426448207305878207664839135161905504210298657411338320034457858975792993186873344, false, [7733287], [([(.ofNat 1, 0), (.negSucc 0, 1)], .negSucc 0, .negSucc 0)])
theorem sg_kc4_ok : sg_chk zK ex_mt k9 0 tX12_code 8 5 sg_kc4 [sg_kc4_p0] [] = true := by decide +kernel
def sg_kn1z : sg_Cu := (0, 0, [(0, .inr (some (false, 118)))], ([.inr 7733289], [([(.ofNat 1, 0)], .ofNat 0, .ofNat 0)]), [])
def sg_kn1z_p0 : sx_Po := (0, false, [], [])
theorem sg_kn1z_ok : sg_chk zK ex_mt k9 0 tX12_nots 5 20 sg_kn1z [sg_kn1z_p0] [] = true := by decide +kernel
def sg_kn1 : sg_Cu := (0, 0, [(0, .inr (some (false, 118)))], ([.inr 7733289], [([(.ofNat 1, 0)], .ofNat 1, .ofNat 40)]), [])
def sg_kn1_a : sg_Cu := (17, 0, [(0, .inr (some (false, 118)))], ([], [([(.ofNat 1, 0), (.negSucc 0, 1)], .ofNat 1, .ofNat 1)]), [none, some (false, 134)])
theorem sg_kn1_ok : sg_chk zK ex_mt k9 0 tX12_nots 11 20 sg_kn1 [] [sg_kn1_a] = true := by decide +kernel
def sg_kn2 : sg_Cu := (18, 0, [(0, .inr (some (false, 118)))], ([.inr 7733289, .inr 7733290], [([(.ofNat 1, 0)], .ofNat 1, .ofNat 40), ([(.ofNat 1, 1)], .ofNat 1, .ofNat 40), ([(.ofNat 1, 2)], .ofNat 20, .ofNat 20)]), [none])
def sg_kn2_a : sg_Cu := (48, 7746749634260725768967757516009035622989117378487670538491978069621942866050523583888936059840413494307709515918242480128, [(0, .inr (some (false, 118)))], ([.inr 7733289, .inr 7733290], [([(.ofNat 1, 5)], .ofNat 0, .ofNat 0), ([(.ofNat 1, 6)], .ofNat 0, .ofNat 0), ([(.ofNat 1, 7)], .ofNat 20, .ofNat 20), ([(.ofNat 1, 0), (.negSucc 0, 3)], .ofNat 1, .ofNat 1), ([(.ofNat 1, 1), (.negSucc 0, 4)], .ofNat 1, .ofNat 1)]), [none, none, none, some (false, 118)])
theorem sg_kn2_ok : sg_chk zK ex_mt k9 0 tX12_nots 20 20 sg_kn2 [] [sg_kn2_a] = true := by decide +kernel
def sg_kn3 : sg_Cu := (18, 0, [(0, .inr (some (false, 118)))], ([], [([(.ofNat 1, 0)], .ofNat 21, .ofNat 23)]), [none])
def sg_kn3_p0 : sx_Po := (0, false, [], [])
theorem sg_kn3_ok : sg_chk zK ex_mt k9 0 tX12_nots 4 20 sg_kn3 [sg_kn3_p0] [] = true := by decide +kernel
def sg_kj1z : sg_Cu := (0, 0, [(0, .inr (some (false, 118)))], ([.inl 1, .inr 7733289], [([(.ofNat 1, 0)], .negSucc 2147483647, .ofNat 2147483647), ([(.ofNat 1, 1)], .ofNat 0, .ofNat 0)]), [])
def sg_kj1z_p0 : sx_Po := (0, false, [], [])
theorem sg_kj1z_ok : sg_chk zK ex_mt k9 0 tX12_joins 5 20 sg_kj1z [sg_kj1z_p0] [] = true := by decide +kernel
def sg_kj1 : sg_Cu := (0, 0, [(0, .inr (some (false, 118)))], ([.inl 1, .inr 7733289], [([(.ofNat 1, 0)], .negSucc 2147483647, .ofNat 2147483647), ([(.ofNat 1, 1)], .ofNat 1, .ofNat 40)]), [])
def sg_kj1_a : sg_Cu := (17, 0, [(0, .inr (some (false, 118)))], ([.inl 1], [([(.ofNat 1, 1), (.negSucc 0, 3)], .ofNat 1, .ofNat 1), ([(.ofNat 1, 0), (.negSucc 0, 2)], .ofNat 0, .ofNat 0)]), [none, some (false, 134)])
theorem sg_kj1_ok : sg_chk zK ex_mt k9 0 tX12_joins 11 20 sg_kj1 [] [sg_kj1_a] = true := by decide +kernel
def sg_kj2 : sg_Cu := (18, 0, [(0, .inr (some (false, 118)))], ([.inl 1, .inr 7733289], [([(.ofNat 1, 0)], .negSucc 2147483647, .ofNat 2147483647), ([(.ofNat 1, 1)], .ofNat 1, .ofNat 40), ([(.ofNat 1, 2)], .ofNat 21, .ofNat 21)]), [none])
def sg_kj2_a : sg_Cu := (64, 2582249878086908589655919172003011874329705792829223512830659356540647622016841194629645353280137831435903171972747493376, [(0, .inr (some (false, 118)))], ([.inl 1, .inr 7733289], [([(.ofNat 1, 1), (.negSucc 0, 4)], .ofNat 1, .ofNat 1), ([(.ofNat 1, 1), (.negSucc 0, 5)], .ofNat 1, .ofNat 1), ([(.ofNat 1, 0), (.negSucc 0, 3)], .ofNat 0, .ofNat 0)]), [none, some (false, 134), some (false, 118)])
theorem sg_kj2_ok : sg_chk zK ex_mt k9 0 tX12_joins 15 20 sg_kj2 [] [sg_kj2_a] = true := by decide +kernel
def sg_kj3 : sg_Cu := (18, 0, [(0, .inr (some (false, 118)))], ([.inl 1, .inr 7733289], [([(.ofNat 1, 0)], .negSucc 2147483647, .ofNat 2147483647), ([(.ofNat 1, 1)], .ofNat 1, .ofNat 40), ([(.ofNat 1, 2)], .ofNat 20, .ofNat 20)]), [none])
def sg_kj3_a : sg_Cu := (33, 0, [(0, .inr (some (false, 118)))], ([.inl 1], [([(.ofNat 1, 1), (.negSucc 0, 4)], .ofNat 1, .ofNat 1), ([(.ofNat 1, 0), (.negSucc 0, 3)], .ofNat 0, .ofNat 0)]), [none, some (false, 134)])
theorem sg_kj3_ok : sg_chk zK ex_mt k9 0 tX12_joins 10 20 sg_kj3 [] [sg_kj3_a] = true := by decide +kernel
def sg_kj4 : sg_Cu := (18, 0, [(0, .inr (some (false, 118)))], ([.inl 1, .inr 7733289], [([(.ofNat 1, 0)], .negSucc 2147483647, .ofNat 2147483647), ([(.ofNat 1, 1)], .ofNat 1, .ofNat 40), ([(.ofNat 1, 2)], .ofNat 22, .ofNat 23)]), [none])
def sg_kj4_a : sg_Cu := (33, 0, [(0, .inr (some (false, 118)))], ([.inl 1], [([(.ofNat 1, 1), (.negSucc 0, 4)], .ofNat 1, .ofNat 1), ([(.ofNat 1, 0), (.negSucc 0, 3)], .ofNat 0, .ofNat 0)]), [none, some (false, 134)])
theorem sg_kj4_ok : sg_chk zK ex_mt k9 0 tX12_joins 10 20 sg_kj4 [] [sg_kj4_a] = true := by decide +kernel
def sg_kj5 : sg_Cu := (34, 0, [(0, .inr (some (false, 118)))], ([.inl 1, .inr 7733289], [([(.ofNat 1, 0)], .ofNat 22, .ofNat 22), ([(.ofNat 1, 1)], .ofNat 1, .ofNat 40), ([(.ofNat 1, 2)], .ofNat 22, .ofNat 22)]), [none])
def sg_kj5_a : sg_Cu := (64, 2582249878086908589655919172003011874329705792829223512830659356540647622016841194629645353280137831435903171972747493376, [(0, .inr (some (false, 118)))], ([.inl 1, .inr 7733289], [([(.ofNat 1, 1), (.negSucc 0, 4)], .ofNat 1, .ofNat 1), ([(.ofNat 1, 1), (.negSucc 0, 5)], .ofNat 1, .ofNat 1), ([(.ofNat 1, 0), (.negSucc 0, 3)], .ofNat 0, .ofNat 0)]), [none, some (false, 134), some (false, 118)])
theorem sg_kj5_ok : sg_chk zK ex_mt k9 0 tX12_joins 18 20 sg_kj5 [] [sg_kj5_a] = true := by decide +kernel
def sg_kj6 : sg_Cu := (34, 0, [(0, .inr (some (false, 118)))], ([.inl 1], [([(.ofNat 1, 0)], .ofNat 21, .ofNat 21), ([(.ofNat 1, 1)], .ofNat 22, .ofNat 22)]), [none])
def sg_kj6_p0 : sx_Po := (0, false, [], [])
theorem sg_kj6_ok : sg_chk zK ex_mt k9 0 tX12_joins 7 20 sg_kj6 [sg_kj6_p0] [] = true := by decide +kernel
def sg_kj7 : sg_Cu := (34, 0, [(0, .inr (some (false, 118)))], ([.inl 1], [([(.ofNat 1, 0)], .negSucc 2147483647, .ofNat 2147483647), ([(.ofNat 1, 1)], .ofNat 20, .ofNat 20)]), [none])
def sg_kj7_p0 : sx_Po := (0, false, [], [])
theorem sg_kj7_ok : sg_chk zK ex_mt k9 0 tX12_joins 4 20 sg_kj7 [sg_kj7_p0] [] = true := by decide +kernel
def sg_kj8 : sg_Cu := (34, 0, [(0, .inr (some (false, 118)))], ([.inl 1], [([(.ofNat 1, 0)], .negSucc 2147483647, .ofNat 2147483647), ([(.ofNat 1, 1)], .ofNat 23, .ofNat 23)]), [none])
def sg_kj8_p0 : sx_Po := (0, false, [], [])
theorem sg_kj8_ok : sg_chk zK ex_mt k9 0 tX12_joins 4 20 sg_kj8 [sg_kj8_p0] [] = true := by decide +kernel
def sg_kj9 : sg_Cu := (65, 0, [(0, .inr (some (false, 118)))], ([.inl 1], [([(.ofNat 1, 0)], .negSucc 2147483647, .ofNat 2147483647), ([(.ofNat 1, 1)], .negSucc 2147483647, .ofNat 2147483647)]), [none, some (false, 118)])
def sg_kj9_a : sg_Cu := (67, 0, [(0, .inr (some (false, 118)))], ([.inl 1], [([(.ofNat 1, 3)], .ofNat 0, .ofNat 0), ([(.ofNat 1, 4)], .ofNat 0, .ofNat 0), ([(.ofNat 1, 1), (.negSucc 0, 5)], .ofNat 0, .ofNat 0), ([(.ofNat 1, 0), (.negSucc 0, 2)], .ofNat 0, .ofNat 0)]), [none, none, none, some (false, 118)])
theorem sg_kj9_ok : sg_chk zK ex_mt k9 0 tX12_joins 4 20 sg_kj9 [] [sg_kj9_a] = true := by decide +kernel
def sg_ks1 : sg_Cu := (0, 0, [(0, .inr (some (false, 118)))], ([.inr 7733250], [([(.ofNat 1, 0)], .ofNat 0, .ofNat 940)]), [])
def sg_ks1_a : sg_Cu := (43, 20012436564864802537649596397909283708706419137892236262507791959663655264658179800515183229874022110462997635850072752128, [(0, .inr (some (false, 118)))], ([.inr 7733250, .inr 7733251, .inr 7733252, .inr 7733253, .inr 7733261, .inr 7733287, .inr 7733288, .inr 7733289, .inr 7733290, .inr 7733291], [([(.ofNat 1, 1)], .ofNat 0, .ofNat 0), ([(.ofNat 1, 0), (.negSucc 0, 2)], .ofNat 0, .ofNat 0), ([(.ofNat 1, 3)], .ofNat 0, .ofNat 0), ([(.ofNat 1, 4)], .ofNat 200, .ofNat 200), ([(.ofNat 1, 5)], .ofNat 0, .ofNat 0), ([(.ofNat 1, 6)], .ofNat 0, .ofNat 0), ([(.ofNat 1, 7)], .ofNat 0, .ofNat 0), ([(.ofNat 1, 8)], .ofNat 0, .ofNat 0), ([(.ofNat 1, 9)], .ofNat 1, .ofNat 1), ([(.ofNat 1, 10)], .ofNat 0, .ofNat 0)]), [some (false, 118)])
theorem sg_ks1_ok : sg_chk zK ex_mt k9 0 tX12_sentence 41 30 sg_ks1 [] [sg_ks1_a] = true := by decide +kernel
def sg_ks2 : sg_Cu := (46, 0, [(0, .inr (some (false, 118)))], ([], []), [])
def sg_ks2_a : sg_Cu := (48, 0, [(0, .inr (some (false, 118)))], ([.inl 1], [([(.ofNat 1, 0)], .ofNat 1, .ofNat 1)]), [])
theorem sg_ks2_ok : sg_chk zK ex_mt k9 0 tX12_sentence 4 30 sg_ks2 [] [sg_ks2_a] = true := by decide +kernel
def sg_ks3a : sg_Cu := (48, 0, [(0, .inr (some (false, 118)))], ([.inl 1, .inr 7733291, .inr 7733257], [([(.ofNat 1, 0)], .ofNat 1, .ofNat 1), ([(.ofNat 1, 1)], .ofNat 1, .ofNat 1), ([(.ofNat 1, 2)], .ofNat 0, .ofNat 0)]), [])
def sg_ks3a_a : sg_Cu := (67, 0, [(0, .inr (some (false, 118)))], ([.inl 1], [([(.ofNat 1, 3)], .ofNat 1, .ofNat 1)]), [some (false, 118)])
theorem sg_ks3a_ok : sg_chk zK ex_mt k9 0 tX12_sentence 11 30 sg_ks3a [] [sg_ks3a_a] = true := by decide +kernel
def sg_ks3b : sg_Cu := (48, 0, [(0, .inr (some (false, 118)))], ([.inl 1, .inr 7733291, .inr 7733257], [([(.ofNat 1, 0)], .ofNat 1, .ofNat 1), ([(.ofNat 1, 1)], .ofNat 1, .ofNat 1), ([(.ofNat 1, 2)], .ofNat 1, .ofNat 4)]), [])
def sg_ks3b_a : sg_Cu := (109, 0, [(0, .inr (some (false, 118)))], ([.inl 1], [([(.ofNat 1, 3)], .ofNat 1, .ofNat 1)]), [some (false, 118)])
theorem sg_ks3b_ok : sg_chk zK ex_mt k9 0 tX12_sentence 14 30 sg_ks3b [] [sg_ks3b_a] = true := by decide +kernel
def sg_ks3c : sg_Cu := (48, 0, [(0, .inr (some (false, 118)))], ([.inl 1, .inr 7733291], [([(.ofNat 1, 0)], .ofNat 1, .ofNat 1), ([(.ofNat 1, 1)], .ofNat 0, .ofNat 0)]), [])
def sg_ks3c_a : sg_Cu := (119, 0, [(0, .inr (some (false, 118)))], ([.inl 1], [([(.ofNat 1, 2)], .ofNat 1, .ofNat 1)]), [some (false, 118)])
theorem sg_ks3c_ok : sg_chk zK ex_mt k9 0 tX12_sentence 11 30 sg_ks3c [] [sg_ks3c_a] = true := by decide +kernel
def sg_ks4 : sg_Cu := (70, 0, [(0, .inr (some (false, 118)))], ([.inl 1], [([(.ofNat 1, 0)], .negSucc 2147483647, .ofNat 2147483647)]), [])
def sg_ks4_a : sg_Cu := (73, 0, [(0, .inr (some (false, 118)))], ([], [([(.ofNat 1, 1)], .ofNat 22, .ofNat 22)]), [none, some (false, 118)])
theorem sg_ks4_ok : sg_chk zK ex_mt k9 0 tX12_sentence 4 30 sg_ks4 [] [sg_ks4_a] = true := by decide +kernel
def sg_ks5a : sg_Cu := (76, 0, [(0, .inr (some (false, 118)))], ([.inr 7733289, .inr 7733258], [([(.ofNat 1, 0)], .ofNat 1, .ofNat 40), ([(.ofNat 1, 1)], .ofNat 0, .ofNat 940)]), [])
def sg_ks5a_p0 : sx_Po := (28858891257124862704305937573347373392392387160985434571251191458187784500608308553281933292152037822856416985088, true, [7733261], [([(.ofNat 1, 1), (.ofNat 1, 2)], .negSucc 0, .negSucc 0), ([(.ofNat 1, 3)], .ofNat 1, .ofNat 1)])
theorem sg_ks5a_ok : sg_chk zK ex_mt k9 0 tX12_sentence 22 30 sg_ks5a [sg_ks5a_p0] [] = true := by decide +kernel
def sg_ks5b : sg_Cu := (76, 0, [(0, .inr (some (false, 118)))], ([.inr 7733289, .inr 7733287], [([(.ofNat 1, 0)], .ofNat 0, .ofNat 0), ([(.ofNat 1, 1)], .ofNat 0, .ofNat 40)]), [])
def sg_ks5b_a : sg_Cu := (142, 0, [(0, .inr (some (false, 118)))], ([], [([(.ofNat 1, 1), (.negSucc 0, 2)], .ofNat 0, .ofNat 0), ([(.ofNat 1, 3)], .ofNat 96, .ofNat 96)]), [none, none, some (false, 120)])
theorem sg_ks5b_ok : sg_chk zK ex_mt k9 0 tX12_sentence 15 30 sg_ks5b [] [sg_ks5b_a] = true := by decide +kernel
def sg_ks6a : sg_Cu := (112, 0, [(0, .inr (some (false, 118)))], ([.inl 1, .inr 7733262], [([(.ofNat 1, 0)], .ofNat 1, .ofNat 1), ([(.ofNat 1, 1)], .ofNat 0, .ofNat 940), ([(.ofNat 1, 2)], .ofNat 0, .ofNat 0)]), [none])
def sg_ks6a_p0 : sx_Po := (0, true, [], [([(.ofNat 1, 1), (.ofNat 1, 3)], .negSucc 0, .negSucc 0)])
theorem sg_ks6a_ok : sg_chk zK ex_mt k9 0 tX12_sentence 8 30 sg_ks6a [sg_ks6a_p0] [] = true := by decide +kernel
def sg_ks6b : sg_Cu := (112, 0, [(0, .inr (some (false, 118)))], ([.inl 1], [([(.ofNat 1, 0)], .ofNat 1, .ofNat 1), ([(.ofNat 1, 1)], .ofNat 1, .ofNat 1)]), [none])
def sg_ks6b_a : sg_Cu := (48, 0, [(0, .inr (some (false, 118)))], ([.inl 1], [([(.ofNat 1, 2)], .ofNat 1, .ofNat 1)]), [])
theorem sg_ks6b_ok : sg_chk zK ex_mt k9 0 tX12_sentence 3 30 sg_ks6b [] [sg_ks6b_a] = true := by decide +kernel
def sg_ks7a : sg_Cu := (122, 0, [(0, .inr (some (false, 118)))], ([.inl 1, .inr 7733262], [([(.ofNat 1, 0)], .ofNat 1, .ofNat 1), ([(.ofNat 1, 1)], .ofNat 0, .ofNat 940), ([(.ofNat 1, 2)], .ofNat 0, .ofNat 0)]), [none])
def sg_ks7a_p0 : sx_Po := (0, true, [], [([(.ofNat 1, 1), (.ofNat 1, 3)], .negSucc 0, .negSucc 0)])
theorem sg_ks7a_ok : sg_chk zK ex_mt k9 0 tX12_sentence 7 30 sg_ks7a [sg_ks7a_p0] [] = true := by decide +kernel
def sg_ks7b : sg_Cu := (122, 0, [(0, .inr (some (false, 118)))], ([.inl 1], [([(.ofNat 1, 0)], .ofNat 1, .ofNat 1), ([(.ofNat 1, 1)], .ofNat 1, .ofNat 1)]), [none])
def sg_ks7b_a : sg_Cu := (48, 0, [(0, .inr (some (false, 118)))], ([.inl 1], [([(.ofNat 1, 2)], .ofNat 1, .ofNat 1)]), [])
theorem sg_ks7b_ok : sg_chk zK ex_mt k9 0 tX12_sentence 3 30 sg_ks7b [] [sg_ks7b_a] = true := by decide +kernel
def sg_ks8 : sg_Cu := (143, 0, [(0, .inr (some (false, 118)))], ([], []), [])
def sg_ks8_a : sg_Cu := (145, 0, [(0, .inr (some (false, 118)))], ([.inl 2], [([(.ofNat 1, 0)], .ofNat 0, .ofNat 0)]), [])
theorem sg_ks8_ok : sg_chk zK ex_mt k9 0 tX12_sentence 4 30 sg_ks8 [] [sg_ks8_a] = true := by decide +kernel
def sg_ks9 : sg_Cu := (145, 0, [(0, .inr (some (false, 118)))], ([.inl 2, .inr 7733287], [([(.ofNat 1, 0)], .ofNat 0, .ofNat 120), ([(.ofNat 1, 1)], .ofNat 0, .ofNat 40), ([(.ofNat 1, 0), (.negSucc 2, 1)], .negSucc 4611686018427387903, .negSucc 0)]), [])
def sg_ks9_a : sg_Cu := (168, 0, [(0, .inr (some (false, 118)))], ([.inl 2], [([(.ofNat 1, 0), (.negSucc 0, 3)], .ofNat 0, .ofNat 0), ([(.ofNat 1, 0), (.negSucc 0, 4)], .negSucc 96, .negSucc 96), ([(.ofNat 1, 0), (.negSucc 0, 2)], .ofNat 0, .ofNat 0)]), [none, some (false, 122), none, some (false, 120)])
theorem sg_ks9_ok : sg_chk zK ex_mt k9 0 tX12_sentence 16 30 sg_ks9 [] [sg_ks9_a] = true := by decide +kernel
def sg_ks9z : sg_Cu := (145, 0, [(0, .inr (some (false, 118)))], ([.inl 2, .inr 7733287, .inr 7733288], [([(.ofNat 1, 0)], .ofNat 0, .ofNat 120), ([(.ofNat 1, 1)], .ofNat 0, .ofNat 40), ([(.ofNat 1, 2)], .ofNat 0, .ofNat 20), ([(.ofNat 1, 0), (.negSucc 2, 1)], .ofNat 0, .ofNat 4611686018427387904)]), [])
def sg_ks9z_p0 : sx_Po := (0, true, [], [([(.ofNat 1, 2), (.negSucc 0, 3)], .ofNat 0, .ofNat 0)])
theorem sg_ks9z_ok : sg_chk zK ex_mt k9 0 tX12_sentence 10 30 sg_ks9z [sg_ks9z_p0] [] = true := by decide +kernel
def sg_ksa : sg_Cu := (170, 0, [(0, .inr (some (false, 118)))], ([.inl 2], [([(.ofNat 1, 0)], .ofNat 0, .ofNat 119)]), [])
def sg_ksa_a : sg_Cu := (145, 0, [(0, .inr (some (false, 118)))], ([.inl 2], [([(.ofNat 1, 0), (.negSucc 0, 1)], .negSucc 0, .negSucc 0)]), [])
theorem sg_ksa_ok : sg_chk zK ex_mt k9 0 tX12_sentence 4 30 sg_ksa [] [sg_ksa_a] = true := by decide +kernel
def sg_op1a : sg_Cu := (7, 0, [(0, .inr (some (false, 118)))], ([.inr 7733257, .inr 7733260], [([(.ofNat 1, 0)], .ofNat 3, .ofNat 3), ([(.ofNat 1, 1)], .ofNat 40, .ofNat 40), ([(.ofNat 1, 2)], .ofNat 0, .ofNat 1)]), [none])
def sg_op1a_a : sg_Cu := (16, 0, [(0, .inr (some (false, 118)))], ([.inl 1, .inl 2], [([(.ofNat 1, 2), (.negSucc 0, 3)], .ofNat 0, .ofNat 0), ([(.ofNat 1, 4)], .ofNat 1, .ofNat 1)]), [some (false, 118)])
theorem sg_op1a_ok : sg_chk zK ex_mt k9 0 tX12_operand 19 20 sg_op1a [] [sg_op1a_a] = true := by decide +kernel
def sg_op1b : sg_Cu := (7, 0, [(0, .inr (some (false, 118)))], ([.inr 7733257, .inr 7733260], [([(.ofNat 1, 0)], .ofNat 3, .ofNat 3), ([(.ofNat 1, 1)], .negSucc 2147483647, .ofNat 39), ([(.ofNat 1, 2)], .ofNat 0, .ofNat 1)]), [none])
def sg_op1b_a : sg_Cu := (16, 0, [(0, .inr (some (false, 118)))], ([.inl 1, .inl 2], [([(.ofNat 1, 2), (.negSucc 0, 3)], .ofNat 0, .ofNat 0), ([(.ofNat 1, 4)], .ofNat 0, .ofNat 0)]), [some (false, 118)])
theorem sg_op1b_ok : sg_chk zK ex_mt k9 0 tX12_operand 18 20 sg_op1b [] [sg_op1b_a] = true := by decide +kernel
def sg_op1c : sg_Cu := (7, 0, [(0, .inr (some (false, 118)))], ([.inr 7733257, .inr 7733260], [([(.ofNat 1, 0)], .ofNat 3, .ofNat 3), ([(.ofNat 1, 1)], .ofNat 41, .ofNat 2147483647), ([(.ofNat 1, 2)], .ofNat 0, .ofNat 1)]), [none])
def sg_op1c_a : sg_Cu := (16, 0, [(0, .inr (some (false, 118)))], ([.inl 1, .inl 2], [([(.ofNat 1, 2), (.negSucc 0, 3)], .ofNat 0, .ofNat 0), ([(.ofNat 1, 4)], .ofNat 0, .ofNat 0)]), [some (false, 118)])
theorem sg_op1c_ok : sg_chk zK ex_mt k9 0 tX12_operand 18 20 sg_op1c [] [sg_op1c_a] = true := by decide +kernel
def sg_op1d : sg_Cu := (7, 0, [(0, .inr (some (false, 118)))], ([.inr 7733257, .inr 7733260], [([(.ofNat 1, 0)], .ofNat 0, .ofNat 2), ([(.ofNat 1, 1)], .negSucc 2147483647, .ofNat 2147483647), ([(.ofNat 1, 2)], .ofNat 0, .ofNat 1)]), [none])
def sg_op1d_a : sg_Cu := (16, 0, [(0, .inr (some (false, 118)))], ([.inl 1, .inl 2], [([(.ofNat 1, 2), (.negSucc 0, 3)], .ofNat 0, .ofNat 0), ([(.ofNat 1, 4)], .ofNat 0, .ofNat 0)]), [some (false, 118)])
theorem sg_op1d_ok : sg_chk zK ex_mt k9 0 tX12_operand 14 20 sg_op1d [] [sg_op1d_a] = true := by decide +kernel
def sg_op1e : sg_Cu := (7, 0, [(0, .inr (some (false, 118)))], ([.inr 7733257, .inr 7733260], [([(.ofNat 1, 0)], .ofNat 4, .ofNat 4), ([(.ofNat 1, 1)], .negSucc 2147483647, .ofNat 2147483647), ([(.ofNat 1, 2)], .ofNat 0, .ofNat 1)]), [none])
def sg_op1e_a : sg_Cu := (16, 0, [(0, .inr (some (false, 118)))], ([.inl 1, .inl 2], [([(.ofNat 1, 2), (.negSucc 0, 3)], .ofNat 0, .ofNat 0), ([(.ofNat 1, 4)], .ofNat 0, .ofNat 0)]), [some (false, 118)])
theorem sg_op1e_ok : sg_chk zK ex_mt k9 0 tX12_operand 14 20 sg_op1e [] [sg_op1e_a] = true := by decide +kernel
def sg_op2z : sg_Cu := (19, 0, [(0, .inr (some (false, 118)))], ([.inl 1, .inl 2, .inr 7733258], [([(.ofNat 1, 0)], .ofNat 0, .ofNat 0), ([(.ofNat 1, 1)], .ofNat 0, .ofNat 0), ([(.ofNat 1, 2)], .negSucc 2147483647, .ofNat 2147483647), ([(.ofNat 1, 3)], .negSucc 0, .negSucc 0)]), [none])
def sg_op2z_p0 : sx_Po := (28858891257124862704305937573347373392392387160985434571251191458187784500608308553281933292152037822856416985088, true, [7733261, 7733262], [([(.ofNat 1, 4)], .ofNat 0, .ofNat 0), ([(.ofNat 1, 5)], .ofNat 1, .ofNat 1), ([(.ofNat 1, 2), (.negSucc 0, 6)], .ofNat 0, .ofNat 0)])
theorem sg_op2z_ok : sg_chk zK ex_mt k9 0 tX12_operand 21 20 sg_op2z [sg_op2z_p0] [] = true := by decide +kernel
def sg_op3a4 : sg_Cu := (19, 0, [(0, .inr (some (false, 118)))], ([.inl 1, .inl 2, .inr 7733258, .inr 7733288], [([(.ofNat 1, 0)], .ofNat 1, .ofNat 1), ([(.ofNat 1, 1)], .ofNat 0, .ofNat 1), ([(.ofNat 1, 2)], .negSucc 2147483647, .ofNat 2147483647), ([(.ofNat 1, 3)], .ofNat 20, .ofNat 20), ([(.ofNat 1, 4)], .negSucc 0, .negSucc 0)]), [none])
def sg_op3a4_p0 : sx_Po := (28858891257124862704305937573347373392392387160985434571251191458187784500608308553281933292152037822856416985088, true, [7733261, 7733262], [([(.ofNat 1, 5)], .ofNat 0, .ofNat 0), ([(.ofNat 1, 6)], .ofNat 4, .ofNat 4), ([(.ofNat 1, 2), (.negSucc 0, 7)], .ofNat 0, .ofNat 0)])
theorem sg_op3a4_ok : sg_chk zK ex_mt k9 0 tX12_operand 21 20 sg_op3a4 [sg_op3a4_p0] [] = true := by decide +kernel
def sg_op3a5 : sg_Cu := (19, 0, [(0, .inr (some (false, 118)))], ([.inl 1, .inl 2, .inr 7733258, .inr 7733288, .inr 7733290], [([(.ofNat 1, 0)], .ofNat 1, .ofNat 1), ([(.ofNat 1, 1)], .ofNat 0, .ofNat 1), ([(.ofNat 1, 2)], .negSucc 2147483647, .ofNat 2147483647), ([(.ofNat 1, 3)], .ofNat 0, .ofNat 19), ([(.ofNat 1, 4)], .ofNat 9, .ofNat 1000), ([(.ofNat 1, 5)], .negSucc 0, .negSucc 0)]), [none])
def sg_op3a5_p0 : sx_Po := (28858891257124862704305937573347373392392387160985434571251191458187784500608308553281933292152037822856416985088, true, [7733261, 7733262], [([(.ofNat 1, 6)], .ofNat 0, .ofNat 0), ([(.ofNat 1, 7)], .ofNat 4, .ofNat 4), ([(.ofNat 1, 2), (.negSucc 0, 8)], .ofNat 0, .ofNat 0)])
theorem sg_op3a5_ok : sg_chk zK ex_mt k9 0 tX12_operand 25 20 sg_op3a5 [sg_op3a5_p0] [] = true := by decide +kernel
def sg_op3a : sg_Cu := (19, 0, [(0, .inr (some (false, 118)))], ([.inl 1, .inl 2, .inr 7733288, .inr 7733290], [([(.ofNat 1, 0)], .ofNat 1, .ofNat 1), ([(.ofNat 1, 1)], .ofNat 0, .ofNat 1), ([(.ofNat 1, 2)], .ofNat 0, .ofNat 19), ([(.ofNat 1, 3)], .ofNat 0, .ofNat 8), ([(.ofNat 1, 4)], .negSucc 0, .negSucc 0)]), [none])
def sg_op3a_a : sg_Cu := (73, 1291124939043454294827959586001505937164852896414611756415329678270323811008420597314822676640068915717951585986373746688, [(0, .inr (some (false, 118)))], ([.inl 1, .inl 2, .inl 3, .inr 7733288], [([(.ofNat 1, 0), (.negSucc 0, 5)], .ofNat 0, .ofNat 0), ([(.ofNat 1, 1), (.negSucc 0, 6)], .ofNat 0, .ofNat 0), ([(.ofNat 1, 4), (.negSucc 0, 7)], .ofNat 0, .ofNat 0), ([(.ofNat 1, 2), (.negSucc 0, 8)], .negSucc 0, .negSucc 0)]), [some (false, 118)])
theorem sg_op3a_ok : sg_chk zK ex_mt k9 0 tX12_operand 20 20 sg_op3a [] [sg_op3a_a] = true := by decide +kernel
def sg_op3b4 : sg_Cu := (19, 0, [(0, .inr (some (false, 118)))], ([.inl 1, .inl 2, .inr 7733258, .inr 7733288], [([(.ofNat 1, 0)], .ofNat 0, .ofNat 0), ([(.ofNat 1, 1)], .ofNat 1, .ofNat 1), ([(.ofNat 1, 2)], .negSucc 2147483647, .ofNat 2147483647), ([(.ofNat 1, 3)], .ofNat 20, .ofNat 20), ([(.ofNat 1, 4)], .negSucc 0, .negSucc 0)]), [none])
def sg_op3b4_p0 : sx_Po := (28858891257124862704305937573347373392392387160985434571251191458187784500608308553281933292152037822856416985088, true, [7733261, 7733262], [([(.ofNat 1, 5)], .ofNat 0, .ofNat 0), ([(.ofNat 1, 6)], .ofNat 4, .ofNat 4), ([(.ofNat 1, 2), (.negSucc 0, 7)], .ofNat 0, .ofNat 0)])
theorem sg_op3b4_ok : sg_chk zK ex_mt k9 0 tX12_operand 23 20 sg_op3b4 [sg_op3b4_p0] [] = true := by decide +kernel
def sg_op3b5 : sg_Cu := (19, 0, [(0, .inr (some (false, 118)))], ([.inl 1, .inl 2, .inr 7733258, .inr 7733288, .inr 7733290], [([(.ofNat 1, 0)], .ofNat 0, .ofNat 0), ([(.ofNat 1, 1)], .ofNat 1, .ofNat 1), ([(.ofNat 1, 2)], .negSucc 2147483647, .ofNat 2147483647), ([(.ofNat 1, 3)], .ofNat 0, .ofNat 19), ([(.ofNat 1, 4)], .ofNat 9, .ofNat 1000), ([(.ofNat 1, 5)], .negSucc 0, .negSucc 0)]), [none])
def sg_op3b5_p0 : sx_Po := (28858891257124862704305937573347373392392387160985434571251191458187784500608308553281933292152037822856416985088, true, [7733261, 7733262], [([(.ofNat 1, 6)], .ofNat 0, .ofNat 0), ([(.ofNat 1, 7)], .ofNat 4, .ofNat 4), ([(.ofNat 1, 2), (.negSucc 0, 8)], .ofNat 0, .ofNat 0)])
theorem sg_op3b5_ok : sg_chk zK ex_mt k9 0 tX12_operand 27 20 sg_op3b5 [sg_op3b5_p0] [] = true := by decide +kernel
def sg_op3b : sg_Cu := (19, 0, [(0, .inr (some (false, 118)))], ([.inl 1, .inl 2, .inr 7733288, .inr 7733290], [([(.ofNat 1, 0)], .ofNat 0, .ofNat 0), ([(.ofNat 1, 1)], .ofNat 1, .ofNat 1), ([(.ofNat 1, 2)], .ofNat 0, .ofNat 19), ([(.ofNat 1, 3)], .ofNat 0, .ofNat 8), ([(.ofNat 1, 4)], .negSucc 0, .negSucc 0)]), [none])
def sg_op3b_a : sg_Cu := (73, 1291124939043454294827959586001505937164852896414611756415329678270323811008420597314822676640068915717951585986373746688, [(0, .inr (some (false, 118)))], ([.inl 1, .inl 2, .inl 3, .inr 7733288], [([(.ofNat 1, 0), (.negSucc 0, 5)], .ofNat 0, .ofNat 0), ([(.ofNat 1, 1), (.negSucc 0, 6)], .ofNat 0, .ofNat 0), ([(.ofNat 1, 4), (.negSucc 0, 7)], .ofNat 0, .ofNat 0), ([(.ofNat 1, 2), (.negSucc 0, 8)], .negSucc 0, .negSucc 0)]), [some (false, 118)])
theorem sg_op3b_ok : sg_chk zK ex_mt k9 0 tX12_operand 22 20 sg_op3b [] [sg_op3b_a] = true := by decide +kernel
def sg_op3c4 : sg_Cu := (19, 0, [(0, .inr (some (false, 118)))], ([.inl 1, .inl 2, .inr 7733258, .inr 7733288], [([(.ofNat 1, 0)], .ofNat 0, .ofNat 0), ([(.ofNat 1, 1)], .ofNat 0, .ofNat 0), ([(.ofNat 1, 2)], .negSucc 2147483647, .ofNat 2147483647), ([(.ofNat 1, 3)], .ofNat 20, .ofNat 20), ([(.ofNat 1, 4)], .ofNat 0, .ofNat 6)]), [none])
def sg_op3c4_p0 : sx_Po := (28858891257124862704305937573347373392392387160985434571251191458187784500608308553281933292152037822856416985088, true, [7733261, 7733262], [([(.ofNat 1, 5)], .ofNat 0, .ofNat 0), ([(.ofNat 1, 6)], .ofNat 4, .ofNat 4), ([(.ofNat 1, 2), (.negSucc 0, 7)], .ofNat 0, .ofNat 0)])
theorem sg_op3c4_ok : sg_chk zK ex_mt k9 0 tX12_operand 25 20 sg_op3c4 [sg_op3c4_p0] [] = true := by decide +kernel
def sg_op3c5 : sg_Cu := (19, 0, [(0, .inr (some (false, 118)))], ([.inl 1, .inl 2, .inr 7733258, .inr 7733288, .inr 7733290], [([(.ofNat 1, 0)], .ofNat 0, .ofNat 0), ([(.ofNat 1, 1)], .ofNat 0, .ofNat 0), ([(.ofNat 1, 2)], .negSucc 2147483647, .ofNat 2147483647), ([(.ofNat 1, 3)], .ofNat 0, .ofNat 19), ([(.ofNat 1, 4)], .ofNat 9, .ofNat 1000), ([(.ofNat 1, 5)], .ofNat 0, .ofNat 6)]), [none])
def sg_op3c5_p0 : sx_Po := (28858891257124862704305937573347373392392387160985434571251191458187784500608308553281933292152037822856416985088, true, [7733261, 7733262], [([(.ofNat 1, 6)], .ofNat 0, .ofNat 0), ([(.ofNat 1, 7)], .ofNat 4, .ofNat 4), ([(.ofNat 1, 2), (.negSucc 0, 8)], .ofNat 0, .ofNat 0)])
theorem sg_op3c5_ok : sg_chk zK ex_mt k9 0 tX12_operand 29 20 sg_op3c5 [sg_op3c5_p0] [] = true := by decide +kernel
def sg_op3c : sg_Cu := (19, 0, [(0, .inr (some (false, 118)))], ([.inl 1, .inl 2, .inr 7733288, .inr 7733290], [([(.ofNat 1, 0)], .ofNat 0, .ofNat 0), ([(.ofNat 1, 1)], .ofNat 0, .ofNat 0), ([(.ofNat 1, 2)], .ofNat 0, .ofNat 19), ([(.ofNat 1, 3)], .ofNat 0, .ofNat 8), ([(.ofNat 1, 4)], .ofNat 0, .ofNat 6)]), [none])
def sg_op3c_a : sg_Cu := (73, 1291124939043454294827959586001505937164852896414611756415329678270323811008420597314822676640068915717951585986373746688, [(0, .inr (some (false, 118)))], ([.inl 1, .inl 2, .inl 3, .inr 7733288], [([(.ofNat 1, 0), (.negSucc 0, 5)], .ofNat 0, .ofNat 0), ([(.ofNat 1, 1), (.negSucc 0, 6)], .ofNat 0, .ofNat 0), ([(.ofNat 1, 4), (.negSucc 0, 7)], .ofNat 0, .ofNat 0), ([(.ofNat 1, 2), (.negSucc 0, 8)], .negSucc 0, .negSucc 0)]), [some (false, 118)])
theorem sg_op3c_ok : sg_chk zK ex_mt k9 0 tX12_operand 24 20 sg_op3c [] [sg_op3c_a] = true := by decide +kernel
def sg_op4n : sg_Cu := (76, 0, [(0, .inr (some (false, 118)))], ([.inl 1, .inl 2, .inr 7733289], [([(.ofNat 1, 0)], .ofNat 1, .ofNat 1), ([(.ofNat 1, 1)], .negSucc 2147483647, .ofNat 2147483647), ([(.ofNat 1, 2)], .ofNat 0, .ofNat 40)]), [])
def sg_op4n_a : sg_Cu := (103, 0, [(0, .inr (some (false, 118)))], ([], [([(.ofNat 1, 3)], .ofNat 20, .ofNat 20), ([(.ofNat 1, 2), (.negSucc 0, 4)], .ofNat 0, .ofNat 0)]), [none, none, some (false, 134)])
theorem sg_op4n_ok : sg_chk zK ex_mt k9 0 tX12_operand 12 20 sg_op4n [] [sg_op4n_a] = true := by decide +kernel
def sg_op4o : sg_Cu := (76, 0, [(0, .inr (some (false, 118)))], ([.inl 1, .inl 2, .inr 7733289], [([(.ofNat 1, 0)], .ofNat 0, .ofNat 0), ([(.ofNat 1, 1)], .ofNat 1, .ofNat 1), ([(.ofNat 1, 2)], .ofNat 0, .ofNat 40)]), [])
def sg_op4o_a : sg_Cu := (103, 0, [(0, .inr (some (false, 118)))], ([], [([(.ofNat 1, 3)], .ofNat 23, .ofNat 23), ([(.ofNat 1, 2), (.negSucc 0, 4)], .ofNat 0, .ofNat 0)]), [none, none, some (false, 134)])
theorem sg_op4o_ok : sg_chk zK ex_mt k9 0 tX12_operand 13 20 sg_op4o [] [sg_op4o_a] = true := by decide +kernel
def sg_op4l : sg_Cu := (76, 0, [(0, .inr (some (false, 118)))], ([.inl 1, .inl 2, .inl 3], [([(.ofNat 1, 0)], .ofNat 0, .ofNat 0), ([(.ofNat 1, 1)], .ofNat 0, .ofNat 0), ([(.ofNat 1, 2)], .ofNat 0, .ofNat 2)]), [])
def sg_op4l_a : sg_Cu := (140, 10328999512347634358623676688012047497318823171316894051322637426162590488067364778518581413120551325743612687890989973504, [(0, .inr (some (false, 118)))], ([.inr 7733291], [([(.ofNat 1, 4)], .ofNat 0, .ofNat 0), ([(.ofNat 1, 5)], .ofNat 0, .ofNat 0), ([(.ofNat 1, 2), (.negSucc 0, 6)], .ofNat 0, .ofNat 0), ([(.ofNat 1, 3)], .ofNat 1, .ofNat 1)]), [none, none, none, some (false, 118)])
theorem sg_op4l_ok : sg_chk zK ex_mt k9 0 tX12_operand 16 20 sg_op4l [] [sg_op4l_a] = true := by decide +kernel
def sg_op5 : sg_Cu := (104, 0, [(0, .inr (some (false, 118)))], ([.inr 7733289, .inr 7733290], [([(.ofNat 1, 0)], .ofNat 0, .ofNat 39), ([(.ofNat 1, 1)], .ofNat 0, .ofNat 1000)]), [])
def sg_op5_p0 : sx_Po := (7746749634260725768967757516009035622989117378487670538491978069621942866050523583888936059840413494307709515918242480128, true, [7733289, 7733290], [([(.ofNat 1, 2)], .ofNat 1, .ofNat 1), ([(.ofNat 1, 0), (.negSucc 0, 3)], .negSucc 0, .negSucc 0), ([(.ofNat 1, 1), (.negSucc 0, 4)], .negSucc 0, .negSucc 0)])
theorem sg_op5_ok : sg_chk zK ex_mt k9 0 tX12_operand 15 20 sg_op5 [sg_op5_p0] [] = true := by decide +kernel
def sg_op6 : sg_Cu := (143, 0, [(0, .inr (some (false, 118)))], ([], []), [])
def sg_op6_p0 : sx_Po := (0, true, [], [([(.ofNat 1, 0)], .ofNat 1, .ofNat 1)])
theorem sg_op6_ok : sg_chk zK ex_mt k9 0 tX12_operand 3 20 sg_op6 [sg_op6_p0] [] = true := by decide +kernel
def sg_op7a : sg_Cu := (76, 0, [(0, .inr (some (false, 118)))], ([.inl 1, .inl 2, .inl 3, .inr 7733257, .inr 7733258], [([(.ofNat 1, 0)], .ofNat 0, .ofNat 0), ([(.ofNat 1, 1)], .ofNat 0, .ofNat 0), ([(.ofNat 1, 2)], .ofNat 3, .ofNat 6), ([(.ofNat 1, 3)], .ofNat 0, .ofNat 2), ([(.ofNat 1, 4)], .negSucc 2147483647, .ofNat 2147483647)]), [])
def sg_op7a_p0 : sx_Po := (10328999541206525615748539392317985070666196563709281212308071997413781946255149279126889966402484617895650510747406958592, true, [7733261, 7733262], [([(.ofNat 1, 5)], .ofNat 0, .ofNat 0), ([(.ofNat 1, 6)], .ofNat 1, .ofNat 1), ([(.ofNat 1, 4), (.negSucc 0, 7)], .ofNat 0, .ofNat 0)])
theorem sg_op7a_ok : sg_chk zK ex_mt k9 0 tX12_operand 28 20 sg_op7a [sg_op7a_p0] [] = true := by decide +kernel
def sg_op7b : sg_Cu := (76, 0, [(0, .inr (some (false, 118)))], ([.inl 1, .inl 2, .inl 3, .inr 7733257, .inr 7733258], [([(.ofNat 1, 0)], .ofNat 0, .ofNat 0), ([(.ofNat 1, 1)], .ofNat 0, .ofNat 0), ([(.ofNat 1, 2)], .ofNat 3, .ofNat 6), ([(.ofNat 1, 3)], .ofNat 4, .ofNat 4), ([(.ofNat 1, 4)], .negSucc 2147483647, .ofNat 2147483647)]), [])
def sg_op7b_p0 : sx_Po := (10328999541206525615748539392317985070666196563709281212308071997413781946255149279126889966402484617895650510747406958592, true, [7733261, 7733262], [([(.ofNat 1, 5)], .ofNat 0, .ofNat 0), ([(.ofNat 1, 6)], .ofNat 1, .ofNat 1), ([(.ofNat 1, 4), (.negSucc 0, 7)], .ofNat 0, .ofNat 0)])
theorem sg_op7b_ok : sg_chk zK ex_mt k9 0 tX12_operand 28 20 sg_op7b [sg_op7b_p0] [] = true := by decide +kernel
def sg_op7c : sg_Cu := (76, 0, [(0, .inr (some (false, 118)))], ([.inl 1, .inl 2, .inl 3, .inr 7733257, .inr 7733260, .inr 7733258], [([(.ofNat 1, 0)], .ofNat 0, .ofNat 0), ([(.ofNat 1, 1)], .ofNat 0, .ofNat 0), ([(.ofNat 1, 2)], .ofNat 3, .ofNat 6), ([(.ofNat 1, 3)], .ofNat 3, .ofNat 3), ([(.ofNat 1, 4)], .negSucc 2147483647, .ofNat 59), ([(.ofNat 1, 5)], .negSucc 2147483647, .ofNat 2147483647)]), [])
def sg_op7c_p0 : sx_Po := (10328999541206525615748539392317985070666196563709281212308071997413781946255149279126889966402484617895650510747406958592, true, [7733261, 7733262], [([(.ofNat 1, 6)], .ofNat 0, .ofNat 0), ([(.ofNat 1, 7)], .ofNat 1, .ofNat 1), ([(.ofNat 1, 5), (.negSucc 0, 8)], .ofNat 0, .ofNat 0)])
theorem sg_op7c_ok : sg_chk zK ex_mt k9 0 tX12_operand 32 20 sg_op7c [sg_op7c_p0] [] = true := by decide +kernel
def sg_op7d : sg_Cu := (76, 0, [(0, .inr (some (false, 118)))], ([.inl 1, .inl 2, .inl 3, .inr 7733257, .inr 7733260, .inr 7733258], [([(.ofNat 1, 0)], .ofNat 0, .ofNat 0), ([(.ofNat 1, 1)], .ofNat 0, .ofNat 0), ([(.ofNat 1, 2)], .ofNat 3, .ofNat 6), ([(.ofNat 1, 3)], .ofNat 3, .ofNat 3), ([(.ofNat 1, 4)], .ofNat 63, .ofNat 2147483647), ([(.ofNat 1, 5)], .negSucc 2147483647, .ofNat 2147483647)]), [])
def sg_op7d_p0 : sx_Po := (10328999541206525615748539392317985070666196563709281212308071997413781946255149279126889966402484617895650510747406958592, true, [7733261, 7733262], [([(.ofNat 1, 6)], .ofNat 0, .ofNat 0), ([(.ofNat 1, 7)], .ofNat 1, .ofNat 1), ([(.ofNat 1, 5), (.negSucc 0, 8)], .ofNat 0, .ofNat 0)])
theorem sg_op7d_ok : sg_chk zK ex_mt k9 0 tX12_operand 36 20 sg_op7d [sg_op7d_p0] [] = true := by decide +kernel
def sg_op7e : sg_Cu := (76, 0, [(0, .inr (some (false, 118)))], ([.inl 1, .inl 2, .inl 3, .inr 7733257, .inr 7733260], [([(.ofNat 1, 0)], .ofNat 0, .ofNat 0), ([(.ofNat 1, 1)], .ofNat 0, .ofNat 0), ([(.ofNat 1, 2)], .ofNat 3, .ofNat 6), ([(.ofNat 1, 3)], .ofNat 3, .ofNat 3), ([(.ofNat 1, 4)], .ofNat 60, .ofNat 62)]), [])
def sg_op7e_a : sg_Cu := (184, 10328999512347634358623676688012047497318823171316894051322637426162590488067364778518581413120551325743612687890989973504, [(0, .inr (some (false, 118)))], ([.inl 3, .inl 4, .inr 7733291], [([(.ofNat 1, 2), (.negSucc 0, 5)], .ofNat 0, .ofNat 0), ([(.ofNat 1, 4), (.negSucc 0, 6)], .ofNat 0, .ofNat 0), ([(.ofNat 1, 7)], .ofNat 1, .ofNat 1)]), [some (false, 118)])
theorem sg_op7e_ok : sg_chk zK ex_mt k9 0 tX12_operand 28 20 sg_op7e [] [sg_op7e_a] = true := by decide +kernel
def sg_op8a : sg_Cu := (187, 0, [(0, .inr (some (false, 118)))], ([.inr 7733257, .inr 7733258], [([(.ofNat 1, 0)], .ofNat 0, .ofNat 1), ([(.ofNat 1, 1)], .negSucc 2147483647, .ofNat 2147483647)]), [])
def sg_op8a_p0 : sx_Po := (28858891257124862704305937573347373392392387160985434571251191458187784500608308553281933292152037822856416985088, true, [7733261, 7733262], [([(.ofNat 1, 2)], .ofNat 0, .ofNat 0), ([(.ofNat 1, 3)], .ofNat 1, .ofNat 1), ([(.ofNat 1, 1), (.negSucc 0, 4)], .ofNat 0, .ofNat 0)])
theorem sg_op8a_ok : sg_chk zK ex_mt k9 0 tX12_operand 18 20 sg_op8a [sg_op8a_p0] [] = true := by decide +kernel
def sg_op8b : sg_Cu := (187, 0, [(0, .inr (some (false, 118)))], ([.inr 7733257, .inr 7733258], [([(.ofNat 1, 0)], .ofNat 3, .ofNat 4), ([(.ofNat 1, 1)], .negSucc 2147483647, .ofNat 2147483647)]), [])
def sg_op8b_p0 : sx_Po := (28858891257124862704305937573347373392392387160985434571251191458187784500608308553281933292152037822856416985088, true, [7733261, 7733262], [([(.ofNat 1, 2)], .ofNat 0, .ofNat 0), ([(.ofNat 1, 3)], .ofNat 1, .ofNat 1), ([(.ofNat 1, 1), (.negSucc 0, 4)], .ofNat 0, .ofNat 0)])
theorem sg_op8b_ok : sg_chk zK ex_mt k9 0 tX12_operand 18 20 sg_op8b [sg_op8b_p0] [] = true := by decide +kernel
def sg_op8 : sg_Cu := (187, 0, [(0, .inr (some (false, 118)))], ([.inl 3, .inl 4, .inr 7733257, .inr 7733260], [([(.ofNat 1, 0)], .negSucc 2147483647, .ofNat 2147483647), ([(.ofNat 1, 1)], .negSucc 2147483647, .ofNat 2147483647), ([(.ofNat 1, 2)], .ofNat 2, .ofNat 2), ([(.ofNat 1, 3)], .negSucc 2147483647, .ofNat 2147483647)]), [])
def sg_op8_a : sg_Cu := (209, 0, [(0, .inr (some (false, 118)))], ([], [([(.ofNat 1, 3), (.negSucc 0, 4)], .ofNat 0, .ofNat 0), ([(.ofNat 1, 1), (.negSucc 0, 5)], .ofNat 0, .ofNat 0), ([(.ofNat 1, 0), (.negSucc 0, 6)], .ofNat 0, .ofNat 0)]), [none, none, none, some (false, 118)])
theorem sg_op8_ok : sg_chk zK ex_mt k9 0 tX12_operand 11 20 sg_op8 [] [sg_op8_a] = true := by decide +kernel
def sg_op9 : sg_Cu := (212, 0, [(0, .inr (some (false, 118)))], ([], []), [])
def sg_op9_a : sg_Cu := (213, 0, [(0, .inr (some (false, 118)))], ([], []), [some (false, 118)])
theorem sg_op9_ok : sg_chk zK ex_mt k9 0 tX12_operand 3 20 sg_op9 [] [sg_op9_a] = true := by decide +kernel
def sg_opz : sg_Cu := (216, 0, [(0, .inr (some (false, 118)))], ([], []), [])
def sg_opz_p0 : sx_Po := (0, true, [], [([(.ofNat 1, 0)], .ofNat 1, .ofNat 1)])
theorem sg_opz_ok : sg_chk zK ex_mt k9 0 tX12_operand 3 20 sg_opz [sg_opz_p0] [] = true := by decide +kernel
def sg_be1 : sg_Cu := (4, 0, [(0, .inr (some (false, 118)))], ([], []), [])
def sg_be1_a : sg_Cu := (5, 0, [(0, .inr (some (false, 118)))], ([], []), [some (false, 118)])
theorem sg_be1_ok : sg_chk zK ex_mt k9 0 tX12_behind 3 25 sg_be1 [] [sg_be1_a] = true := by decide +kernel
def sg_be2y : sg_Cu := (11, 0, [(0, .inr (some (false, 118)))], ([], [([(.ofNat 1, 0)], .ofNat 1, .ofNat 1)]), [none])
def sg_be2y_a : sg_Cu := (26, 0, [(0, .inr (some (false, 118)))], ([], []), [some (false, 118), some (false, 118)])
theorem sg_be2y_ok : sg_chk zK ex_mt k9 0 tX12_behind 5 25 sg_be2y [] [sg_be2y_a] = true := by decide +kernel
def sg_be2n : sg_Cu := (11, 0, [(0, .inr (some (false, 118)))], ([], [([(.ofNat 1, 0)], .ofNat 0, .ofNat 0)]), [none])
def sg_be2n_a : sg_Cu := (15, 0, [(0, .inr (some (false, 118)))], ([], []), [some (false, 118)])
theorem sg_be2n_ok : sg_chk zK ex_mt k9 0 tX12_behind 4 25 sg_be2n [] [sg_be2n_a] = true := by decide +kernel
def sg_be3y : sg_Cu := (21, 0, [(0, .inr (some (false, 118)))], ([], [([(.ofNat 1, 0)], .ofNat 1, .ofNat 1)]), [none])
def sg_be3y_a : sg_Cu := (26, 0, [(0, .inr (some (false, 118)))], ([], []), [some (false, 118), some (false, 118)])
theorem sg_be3y_ok : sg_chk zK ex_mt k9 0 tX12_behind 5 25 sg_be3y [] [sg_be3y_a] = true := by decide +kernel
def sg_be3n : sg_Cu := (21, 0, [(0, .inr (some (false, 118)))], ([], [([(.ofNat 1, 0)], .ofNat 0, .ofNat 0)]), [none])
def sg_be3n_a : sg_Cu := (95, 0, [(0, .inr (some (false, 118)))], ([], [([(.ofNat 1, 1)], .ofNat 22, .ofNat 22)]), [none, some (false, 118)])
theorem sg_be3n_ok : sg_chk zK ex_mt k9 0 tX12_behind 5 25 sg_be3n [] [sg_be3n_a] = true := by decide +kernel
def sg_be4y : sg_Cu := (32, 0, [(0, .inr (some (false, 118)))], ([], [([(.ofNat 1, 0)], .ofNat 1, .ofNat 1)]), [none, some (false, 118)])
def sg_be4y_a : sg_Cu := (42, 0, [(0, .inr (some (false, 118)))], ([], [([(.ofNat 1, 1)], .ofNat 21, .ofNat 21)]), [none, some (false, 118)])
theorem sg_be4y_ok : sg_chk zK ex_mt k9 0 tX12_behind 5 25 sg_be4y [] [sg_be4y_a] = true := by decide +kernel
def sg_be4n : sg_Cu := (32, 0, [(0, .inr (some (false, 118)))], ([], [([(.ofNat 1, 0)], .ofNat 0, .ofNat 0)]), [none, some (false, 118)])
def sg_be4n_a : sg_Cu := (42, 0, [(0, .inr (some (false, 118)))], ([], [([(.ofNat 1, 1)], .ofNat 22, .ofNat 22)]), [none, some (false, 118)])
theorem sg_be4n_ok : sg_chk zK ex_mt k9 0 tX12_behind 4 25 sg_be4n [] [sg_be4n_a] = true := by decide +kernel
def sg_be5 : sg_Cu := (45, 0, [(0, .inr (some (false, 118)))], ([.inr 7733289], [([(.ofNat 1, 0)], .ofNat 0, .ofNat 40)]), [])
def sg_be5_a : sg_Cu := (54, 0, [(0, .inr (some (false, 118)))], ([], [([(.ofNat 1, 0), (.negSucc 0, 1)], .ofNat 0, .ofNat 0)]), [some (false, 118), none, some (false, 134)])
theorem sg_be5_ok : sg_chk zK ex_mt k9 0 tX12_behind 7 25 sg_be5 [] [sg_be5_a] = true := by decide +kernel
def sg_be6y : sg_Cu := (60, 0, [(0, .inr (some (false, 118)))], ([], [([(.ofNat 1, 0)], .ofNat 1, .ofNat 1), ([(.ofNat 1, 1)], .negSucc 2147483647, .ofNat 2147483647)]), [none, none, some (false, 134)])
def sg_be6y_a : sg_Cu := (70, 0, [(0, .inr (some (false, 118)))], ([], [([(.ofNat 1, 2)], .ofNat 21, .ofNat 21), ([(.ofNat 1, 1), (.negSucc 0, 3)], .ofNat 0, .ofNat 0)]), [none, none, some (false, 134)])
theorem sg_be6y_ok : sg_chk zK ex_mt k9 0 tX12_behind 5 25 sg_be6y [] [sg_be6y_a] = true := by decide +kernel
def sg_be6n : sg_Cu := (60, 0, [(0, .inr (some (false, 118)))], ([], [([(.ofNat 1, 0)], .ofNat 0, .ofNat 0), ([(.ofNat 1, 1)], .negSucc 2147483647, .ofNat 2147483647)]), [none, none, some (false, 134)])
def sg_be6n_a : sg_Cu := (70, 0, [(0, .inr (some (false, 118)))], ([], [([(.ofNat 1, 2)], .ofNat 22, .ofNat 22), ([(.ofNat 1, 1), (.negSucc 0, 3)], .ofNat 0, .ofNat 0)]), [none, none, some (false, 134)])
theorem sg_be6n_ok : sg_chk zK ex_mt k9 0 tX12_behind 4 25 sg_be6n [] [sg_be6n_a] = true := by decide +kernel
def sg_be7 : sg_Cu := (71, 0, [(0, .inr (some (false, 118)))], ([.inr 7733289], [([(.ofNat 1, 0)], .ofNat 0, .ofNat 39)]), [])
def sg_be7_a : sg_Cu := (87, 12911249390434542948279595860015059371648528964146117564153296782703238110084205973148226766400689157179515859863737466880, [(0, .inr (some (false, 118)))], ([.inr 7733289, .inr 7733291], [([(.ofNat 1, 0), (.negSucc 0, 1)], .negSucc 0, .negSucc 0), ([(.ofNat 1, 2)], .ofNat 0, .ofNat 0)]), [some (false, 118)])
theorem sg_be7_ok : sg_chk zK ex_mt k9 0 tX12_behind 12 25 sg_be7 [] [sg_be7_a] = true := by decide +kernel
def sg_be8 : sg_Cu := (90, 0, [(0, .inr (some (false, 118)))], ([], []), [])
def sg_be8_p0 : sx_Po := (0, true, [], [([(.ofNat 1, 0)], .ofNat 1, .ofNat 1)])
theorem sg_be8_ok : sg_chk zK ex_mt k9 0 tX12_behind 3 25 sg_be8 [sg_be8_p0] [] = true := by decide +kernel
def sg_be9a : sg_Cu := (98, 0, [(0, .inr (some (false, 118)))], ([.inr 7733257, .inr 7733260, .inr 7733258], [([(.ofNat 1, 0)], .ofNat 3, .ofNat 3), ([(.ofNat 1, 1)], .negSucc 2147483647, .ofNat 40), ([(.ofNat 1, 2)], .negSucc 2147483647, .ofNat 2147483647)]), [])
def sg_be9a_p0 : sx_Po := (28858891257124862704305937573347373392392387160985434571251191458187784500608308553281933292152037822856416985088, true, [7733261, 7733262], [([(.ofNat 1, 3)], .ofNat 0, .ofNat 0), ([(.ofNat 1, 4)], .ofNat 1, .ofNat 1), ([(.ofNat 1, 2), (.negSucc 0, 5)], .ofNat 0, .ofNat 0)])
theorem sg_be9a_ok : sg_chk zK ex_mt k9 0 tX12_behind 28 25 sg_be9a [sg_be9a_p0] [] = true := by decide +kernel
def sg_be9b : sg_Cu := (98, 0, [(0, .inr (some (false, 118)))], ([.inr 7733257, .inr 7733260, .inr 7733258], [([(.ofNat 1, 0)], .ofNat 3, .ofNat 3), ([(.ofNat 1, 1)], .ofNat 42, .ofNat 2147483647), ([(.ofNat 1, 2)], .negSucc 2147483647, .ofNat 2147483647)]), [])
def sg_be9b_p0 : sx_Po := (28858891257124862704305937573347373392392387160985434571251191458187784500608308553281933292152037822856416985088, true, [7733261, 7733262], [([(.ofNat 1, 3)], .ofNat 0, .ofNat 0), ([(.ofNat 1, 4)], .ofNat 1, .ofNat 1), ([(.ofNat 1, 2), (.negSucc 0, 5)], .ofNat 0, .ofNat 0)])
theorem sg_be9b_ok : sg_chk zK ex_mt k9 0 tX12_behind 28 25 sg_be9b [sg_be9b_p0] [] = true := by decide +kernel
def sg_be9c : sg_Cu := (98, 0, [(0, .inr (some (false, 118)))], ([.inr 7733257, .inr 7733260, .inr 7733258], [([(.ofNat 1, 0)], .ofNat 0, .ofNat 2), ([(.ofNat 1, 1)], .negSucc 2147483647, .ofNat 2147483647), ([(.ofNat 1, 2)], .negSucc 2147483647, .ofNat 2147483647)]), [])
def sg_be9c_p0 : sx_Po := (28858891257124862704305937573347373392392387160985434571251191458187784500608308553281933292152037822856416985088, true, [7733261, 7733262], [([(.ofNat 1, 3)], .ofNat 0, .ofNat 0), ([(.ofNat 1, 4)], .ofNat 1, .ofNat 1), ([(.ofNat 1, 2), (.negSucc 0, 5)], .ofNat 0, .ofNat 0)])
theorem sg_be9c_ok : sg_chk zK ex_mt k9 0 tX12_behind 24 25 sg_be9c [sg_be9c_p0] [] = true := by decide +kernel
def sg_be9d : sg_Cu := (98, 0, [(0, .inr (some (false, 118)))], ([.inr 7733257, .inr 7733260, .inr 7733258], [([(.ofNat 1, 0)], .ofNat 4, .ofNat 4), ([(.ofNat 1, 1)], .negSucc 2147483647, .ofNat 2147483647), ([(.ofNat 1, 2)], .negSucc 2147483647, .ofNat 2147483647)]), [])
def sg_be9d_p0 : sx_Po := (28858891257124862704305937573347373392392387160985434571251191458187784500608308553281933292152037822856416985088, true, [7733261, 7733262], [([(.ofNat 1, 3)], .ofNat 0, .ofNat 0), ([(.ofNat 1, 4)], .ofNat 1, .ofNat 1), ([(.ofNat 1, 2), (.negSucc 0, 5)], .ofNat 0, .ofNat 0)])
theorem sg_be9d_ok : sg_chk zK ex_mt k9 0 tX12_behind 24 25 sg_be9d [sg_be9d_p0] [] = true := by decide +kernel
def sg_be9e : sg_Cu := (98, 0, [(0, .inr (some (false, 118)))], ([.inr 7733257, .inr 7733260, .inr 7733258, .inr 7733289], [([(.ofNat 1, 0)], .ofNat 3, .ofNat 3), ([(.ofNat 1, 1)], .ofNat 41, .ofNat 41), ([(.ofNat 1, 2)], .negSucc 2147483647, .ofNat 2147483647), ([(.ofNat 1, 3)], .ofNat 0, .ofNat 0)]), [])
def sg_be9e_p0 : sx_Po := (28858891257124862704305937573347373392392387160985434571251191458187784500608308553281933292152037822856416985088, true, [7733261, 7733262], [([(.ofNat 1, 4)], .ofNat 0, .ofNat 0), ([(.ofNat 1, 5)], .ofNat 1, .ofNat 1), ([(.ofNat 1, 2), (.negSucc 0, 6)], .ofNat 0, .ofNat 0)])
theorem sg_be9e_ok : sg_chk zK ex_mt k9 0 tX12_behind 32 25 sg_be9e [sg_be9e_p0] [] = true := by decide +kernel
def sg_be9f : sg_Cu := (98, 0, [(0, .inr (some (false, 118)))], ([.inr 7733257, .inr 7733260, .inr 7733289, .inr 7733290], [([(.ofNat 1, 0)], .ofNat 3, .ofNat 3), ([(.ofNat 1, 1)], .ofNat 41, .ofNat 41), ([(.ofNat 1, 2)], .ofNat 1, .ofNat 40), ([(.ofNat 1, 3)], .ofNat 1, .ofNat 1000)]), [])
def sg_be9f_a : sg_Cu := (141, 7746749634260725768967757516009035622989117378487670538491978069621942866050523583888936059840413494307709515918242480128, [(0, .inr (some (false, 118)))], ([.inr 7733289, .inr 7733290], [([(.ofNat 1, 2), (.negSucc 0, 4)], .ofNat 1, .ofNat 1), ([(.ofNat 1, 3), (.negSucc 0, 5)], .ofNat 1, .ofNat 1)]), [some (false, 118)])
theorem sg_be9f_ok : sg_chk zK ex_mt k9 0 tX12_behind 33 25 sg_be9f [] [sg_be9f_a] = true := by decide +kernel
def sg_beg : sg_Cu := (144, 0, [(0, .inr (some (false, 118)))], ([], []), [])
def sg_beg_p0 : sx_Po := (0, true, [], [([(.ofNat 1, 0)], .ofNat 1, .ofNat 1)])
theorem sg_beg_ok : sg_chk zK ex_mt k9 0 tX12_behind 3 25 sg_beg [sg_beg_p0] [] = true := by decide +kernel
section HR
variable {g : am_C} {L : Nat} {xs : Nat → Int32}
theorem sg_kc1_run (G : sx_G0 g L xs zK hd_T ex_mt) (hct : ∀ (mi : Nat) (T2 : ex_T) (c' : sx_Ct), ex_mt mi = some T2 → c' ∈ k9 mi → c'.1 < 0 → sx_Holds g zK hd_T T2 c') {σ : am_S} {lw : List (Nat × Value)} {post : Option (Option Value) → am_S → Prop} (hM : sx_M zK hd_T σ 0 0 σ) (hl : (0, Value.ref 118) ∈ lw) {m1 : Int32} (hl1 : (1, Value.int m1) ∈ lw) {m2 : Int32} (hl2 : (2, Value.int m2) ∈ lw) {m3 : Int32} (hl3 : (3, Value.int m3) ∈ lw) (cuta : ∀ (lw' : List (Nat × Value)) (m1' : Int32) (m2' : Int32) (m3' : Int32) (n0' : Int32) (n1' : Int32) (σ' : am_S), (0, Value.ref 118) ∈ lw' → (1, Value.int m1') ∈ lw' → (2, Value.int m2') ∈ lw' → (3, Value.int m3') ∈ lw' → (0 ≤ 1 * m1.toInt + ((-1) * n0'.toInt + 0) ∧ 1 * m1.toInt + ((-1) * n0'.toInt + 0) ≤ 0) → (0 ≤ 3 * (σ.2.1 118 39).toInt + ((-1) * n1'.toInt + 0) ∧ 3 * (σ.2.1 118 39).toInt + ((-1) * n1'.toInt + 0) ≤ 0) → (0 ≤ 1 * m1.toInt + ((-1) * m1'.toInt + 0) ∧ 1 * m1.toInt + ((-1) * m1'.toInt + 0) ≤ 0) → (0 ≤ 1 * m2.toInt + ((-1) * m2'.toInt + 0) ∧ 1 * m2.toInt + ((-1) * m2'.toInt + 0) ≤ 0) → (0 ≤ 1 * m3.toInt + ((-1) * m3'.toInt + 0) ∧ 1 * m3.toInt + ((-1) * m3'.toInt + 0) ≤ 0) → (0 ≤ 1 * (σ.2.1 118 39).toInt + ((-1) * (σ'.2.1 118 39).toInt + 0) ∧ 1 * (σ.2.1 118 39).toInt + ((-1) * (σ'.2.1 118 39).toInt + 0) ≤ 0) → sx_M zK hd_T σ 0 0 σ' → am_K g 5 tX12_code.1 0 0 11 lw' [.int n0', .int n1', .ref 122] σ' post) : am_K g 5 tX12_code.1 0 0 0 lw [] σ post := by
  refine sg_seg (sw := []) (vs := [m1.toInt, m2.toInt, m3.toInt, (σ.2.1 118 39).toInt]) (ws := []) G (mi := 91) rfl hct sg_kc1_ok ⟨⟨m1, hl1, rfl⟩, ⟨⟨m2, hl2, rfl⟩, ⟨⟨m3, hl3, rfl⟩, ⟨rfl, trivial⟩⟩⟩⟩ (hd_refs hl) trivial (hd_p1 rfl (Int32.le_toInt _) (Int32.toInt_le _) (hd_p1 rfl (Int32.le_toInt _) (Int32.toInt_le _) (hd_p1 rfl (Int32.le_toInt _) (Int32.toInt_le _) (hd_p1 rfl (hd_kd_118_39 hM).1 (hd_kd_118_39 hM).2 hd_p0)))) hM ?_ ?_
  · intro r σ' hq
    cases r with
    | none => exact hq.elim
    | some v =>
      obtain ⟨p, hp, hM2, ks, hk, hv⟩ := hq
      cases hp
  · intro u hu
    simp only [List.mem_cons, List.not_mem_nil, or_false] at hu
    rcases hu with rfl
    · intro lw' sw' vs' ws' σ' ⟨h1_0, h2, h3_0, h4, h5⟩
      obtain ⟨m1', vs1, rfl, hm1, h1_1⟩ := hd_srcl h1_0
      obtain ⟨m2', vs2, rfl, hm2, h1_2⟩ := hd_srcl h1_1
      obtain ⟨m3', vs3, rfl, hm3, h1_3⟩ := hd_srcl h1_2
      obtain ⟨vs4, rfl, h1_4⟩ := hd_srcs h1_3
      obtain rfl := hd_src0 h1_4
      obtain ⟨n0', sw1, ws1, rfl, rfl, h3_1⟩ := hd_sti h3_0
      obtain ⟨n1', sw2, ws2, rfl, rfl, h3_2⟩ := hd_sti h3_1
      obtain ⟨sw3, rfl, h3_3⟩ := hd_str h3_2
      obtain ⟨rfl, rfl⟩ := hd_st0 h3_3
      have hr9 := hd_ref0 h2
      obtain ⟨v0, e0, l0, u0⟩ := h4 _ (List.mem_cons_self)
      have g0 : 1 * m1.toInt + ((-1) * n0'.toInt + 0) = v0 := Option.some.inj e0
      obtain ⟨v1, e1, l1, u1⟩ := h4 _ (List.mem_cons_of_mem _ (List.mem_cons_self))
      have g1 : 3 * (σ.2.1 118 39).toInt + ((-1) * n1'.toInt + 0) = v1 := Option.some.inj e1
      obtain ⟨v2, e2, l2, u2⟩ := h4 _ (List.mem_cons_of_mem _ (List.mem_cons_of_mem _ (List.mem_cons_self)))
      have g2 : 1 * m1.toInt + ((-1) * m1'.toInt + 0) = v2 := Option.some.inj e2
      obtain ⟨v3, e3, l3, u3⟩ := h4 _ (List.mem_cons_of_mem _ (List.mem_cons_of_mem _ (List.mem_cons_of_mem _ (List.mem_cons_self))))
      have g3 : 1 * m2.toInt + ((-1) * m2'.toInt + 0) = v3 := Option.some.inj e3
      obtain ⟨v4, e4, l4, u4⟩ := h4 _ (List.mem_cons_of_mem _ (List.mem_cons_of_mem _ (List.mem_cons_of_mem _ (List.mem_cons_of_mem _ (List.mem_cons_self)))))
      have g4 : 1 * m3.toInt + ((-1) * m3'.toInt + 0) = v4 := Option.some.inj e4
      obtain ⟨v5, e5, l5, u5⟩ := h4 _ (List.mem_cons_of_mem _ (List.mem_cons_of_mem _ (List.mem_cons_of_mem _ (List.mem_cons_of_mem _ (List.mem_cons_of_mem _ (List.mem_cons_self))))))
      have g5 : 1 * (σ.2.1 118 39).toInt + ((-1) * (σ'.2.1 118 39).toInt + 0) = v5 := Option.some.inj e5
      exact cuta _ _ _ _ _ _ _ hr9 hm1 hm2 hm3 ⟨by rw [g0]; exact l0, by rw [g0]; exact u0⟩ ⟨by rw [g1]; exact l1, by rw [g1]; exact u1⟩ ⟨by rw [g2]; exact l2, by rw [g2]; exact u2⟩ ⟨by rw [g3]; exact l3, by rw [g3]; exact u3⟩ ⟨by rw [g4]; exact l4, by rw [g4]; exact u4⟩ ⟨by rw [g5]; exact l5, by rw [g5]; exact u5⟩ h5
theorem sg_kc2_run (G : sx_G0 g L xs zK hd_T ex_mt) (hct : ∀ (mi : Nat) (T2 : ex_T) (c' : sx_Ct), ex_mt mi = some T2 → c' ∈ k9 mi → c'.1 < 0 → sx_Holds g zK hd_T T2 c') {σ : am_S} {lw : List (Nat × Value)} {post : Option (Option Value) → am_S → Prop} (hM : sx_M zK hd_T σ 0 0 σ) (hl : (0, Value.ref 118) ∈ lw) {m1 : Int32} (hl1 : (1, Value.int m1) ∈ lw) {m2 : Int32} (hl2 : (2, Value.int m2) ∈ lw) {m3 : Int32} (hl3 : (3, Value.int m3) ∈ lw) (cuta : ∀ (lw' : List (Nat × Value)) (m1' : Int32) (m2' : Int32) (m3' : Int32) (n0' : Int32) (n1' : Int32) (σ' : am_S), (0, Value.ref 118) ∈ lw' → (1, Value.int m1') ∈ lw' → (2, Value.int m2') ∈ lw' → (3, Value.int m3') ∈ lw' → (0 ≤ 1 * m2.toInt + ((-1) * n0'.toInt + 0) ∧ 1 * m2.toInt + ((-1) * n0'.toInt + 0) ≤ 0) → ((-1) ≤ 3 * (σ.2.1 118 39).toInt + ((-1) * n1'.toInt + 0) ∧ 3 * (σ.2.1 118 39).toInt + ((-1) * n1'.toInt + 0) ≤ (-1)) → (0 ≤ 1 * m1.toInt + ((-1) * m1'.toInt + 0) ∧ 1 * m1.toInt + ((-1) * m1'.toInt + 0) ≤ 0) → (0 ≤ 1 * m2.toInt + ((-1) * m2'.toInt + 0) ∧ 1 * m2.toInt + ((-1) * m2'.toInt + 0) ≤ 0) → (0 ≤ 1 * m3.toInt + ((-1) * m3'.toInt + 0) ∧ 1 * m3.toInt + ((-1) * m3'.toInt + 0) ≤ 0) → (0 ≤ 1 * (σ.2.1 118 39).toInt + ((-1) * (σ'.2.1 118 39).toInt + 0) ∧ 1 * (σ.2.1 118 39).toInt + ((-1) * (σ'.2.1 118 39).toInt + 0) ≤ 0) → sx_M zK hd_T σ 0 0 σ' → am_K g 5 tX12_code.1 0 0 25 lw' [.int n0', .int n1', .ref 122] σ' post) : am_K g 5 tX12_code.1 0 0 12 lw [] σ post := by
  refine sg_seg (sw := []) (vs := [m1.toInt, m2.toInt, m3.toInt, (σ.2.1 118 39).toInt]) (ws := []) G (mi := 91) rfl hct sg_kc2_ok ⟨⟨m1, hl1, rfl⟩, ⟨⟨m2, hl2, rfl⟩, ⟨⟨m3, hl3, rfl⟩, ⟨rfl, trivial⟩⟩⟩⟩ (hd_refs hl) trivial (hd_p1 rfl (Int32.le_toInt _) (Int32.toInt_le _) (hd_p1 rfl (Int32.le_toInt _) (Int32.toInt_le _) (hd_p1 rfl (Int32.le_toInt _) (Int32.toInt_le _) (hd_p1 rfl (hd_kd_118_39 hM).1 (hd_kd_118_39 hM).2 hd_p0)))) hM ?_ ?_
  · intro r σ' hq
    cases r with
    | none => exact hq.elim
    | some v =>
      obtain ⟨p, hp, hM2, ks, hk, hv⟩ := hq
      cases hp
  · intro u hu
    simp only [List.mem_cons, List.not_mem_nil, or_false] at hu
    rcases hu with rfl
    · intro lw' sw' vs' ws' σ' ⟨h1_0, h2, h3_0, h4, h5⟩
      obtain ⟨m1', vs1, rfl, hm1, h1_1⟩ := hd_srcl h1_0
      obtain ⟨m2', vs2, rfl, hm2, h1_2⟩ := hd_srcl h1_1
      obtain ⟨m3', vs3, rfl, hm3, h1_3⟩ := hd_srcl h1_2
      obtain ⟨vs4, rfl, h1_4⟩ := hd_srcs h1_3
      obtain rfl := hd_src0 h1_4
      obtain ⟨n0', sw1, ws1, rfl, rfl, h3_1⟩ := hd_sti h3_0
      obtain ⟨n1', sw2, ws2, rfl, rfl, h3_2⟩ := hd_sti h3_1
      obtain ⟨sw3, rfl, h3_3⟩ := hd_str h3_2
      obtain ⟨rfl, rfl⟩ := hd_st0 h3_3
      have hr9 := hd_ref0 h2
      obtain ⟨v0, e0, l0, u0⟩ := h4 _ (List.mem_cons_self)
      have g0 : 1 * m2.toInt + ((-1) * n0'.toInt + 0) = v0 := Option.some.inj e0
      obtain ⟨v1, e1, l1, u1⟩ := h4 _ (List.mem_cons_of_mem _ (List.mem_cons_self))
      have g1 : 3 * (σ.2.1 118 39).toInt + ((-1) * n1'.toInt + 0) = v1 := Option.some.inj e1
      obtain ⟨v2, e2, l2, u2⟩ := h4 _ (List.mem_cons_of_mem _ (List.mem_cons_of_mem _ (List.mem_cons_self)))
      have g2 : 1 * m1.toInt + ((-1) * m1'.toInt + 0) = v2 := Option.some.inj e2
      obtain ⟨v3, e3, l3, u3⟩ := h4 _ (List.mem_cons_of_mem _ (List.mem_cons_of_mem _ (List.mem_cons_of_mem _ (List.mem_cons_self))))
      have g3 : 1 * m2.toInt + ((-1) * m2'.toInt + 0) = v3 := Option.some.inj e3
      obtain ⟨v4, e4, l4, u4⟩ := h4 _ (List.mem_cons_of_mem _ (List.mem_cons_of_mem _ (List.mem_cons_of_mem _ (List.mem_cons_of_mem _ (List.mem_cons_self)))))
      have g4 : 1 * m3.toInt + ((-1) * m3'.toInt + 0) = v4 := Option.some.inj e4
      obtain ⟨v5, e5, l5, u5⟩ := h4 _ (List.mem_cons_of_mem _ (List.mem_cons_of_mem _ (List.mem_cons_of_mem _ (List.mem_cons_of_mem _ (List.mem_cons_of_mem _ (List.mem_cons_self))))))
      have g5 : 1 * (σ.2.1 118 39).toInt + ((-1) * (σ'.2.1 118 39).toInt + 0) = v5 := Option.some.inj e5
      exact cuta _ _ _ _ _ _ _ hr9 hm1 hm2 hm3 ⟨by rw [g0]; exact l0, by rw [g0]; exact u0⟩ ⟨by rw [g1]; exact l1, by rw [g1]; exact u1⟩ ⟨by rw [g2]; exact l2, by rw [g2]; exact u2⟩ ⟨by rw [g3]; exact l3, by rw [g3]; exact u3⟩ ⟨by rw [g4]; exact l4, by rw [g4]; exact u4⟩ ⟨by rw [g5]; exact l5, by rw [g5]; exact u5⟩ h5
theorem sg_kc3_run (G : sx_G0 g L xs zK hd_T ex_mt) (hct : ∀ (mi : Nat) (T2 : ex_T) (c' : sx_Ct), ex_mt mi = some T2 → c' ∈ k9 mi → c'.1 < 0 → sx_Holds g zK hd_T T2 c') {σ : am_S} {lw : List (Nat × Value)} {post : Option (Option Value) → am_S → Prop} (hM : sx_M zK hd_T σ 0 0 σ) (hl : (0, Value.ref 118) ∈ lw) {m1 : Int32} (hl1 : (1, Value.int m1) ∈ lw) {m2 : Int32} (hl2 : (2, Value.int m2) ∈ lw) {m3 : Int32} (hl3 : (3, Value.int m3) ∈ lw) (cuta : ∀ (lw' : List (Nat × Value)) (m1' : Int32) (m2' : Int32) (m3' : Int32) (n0' : Int32) (n1' : Int32) (σ' : am_S), (0, Value.ref 118) ∈ lw' → (1, Value.int m1') ∈ lw' → (2, Value.int m2') ∈ lw' → (3, Value.int m3') ∈ lw' → (0 ≤ 1 * m3.toInt + ((-1) * n0'.toInt + 0) ∧ 1 * m3.toInt + ((-1) * n0'.toInt + 0) ≤ 0) → ((-2) ≤ 3 * (σ.2.1 118 39).toInt + ((-1) * n1'.toInt + 0) ∧ 3 * (σ.2.1 118 39).toInt + ((-1) * n1'.toInt + 0) ≤ (-2)) → (0 ≤ 1 * (σ.2.1 118 39).toInt + ((-1) * (σ'.2.1 118 39).toInt + 0) ∧ 1 * (σ.2.1 118 39).toInt + ((-1) * (σ'.2.1 118 39).toInt + 0) ≤ 0) → sx_M zK hd_T σ 0 0 σ' → am_K g 5 tX12_code.1 0 0 39 lw' [.int n0', .int n1', .ref 122] σ' post) : am_K g 5 tX12_code.1 0 0 26 lw [] σ post := by
  refine sg_seg (sw := []) (vs := [m1.toInt, m2.toInt, m3.toInt, (σ.2.1 118 39).toInt]) (ws := []) G (mi := 91) rfl hct sg_kc3_ok ⟨⟨m1, hl1, rfl⟩, ⟨⟨m2, hl2, rfl⟩, ⟨⟨m3, hl3, rfl⟩, ⟨rfl, trivial⟩⟩⟩⟩ (hd_refs hl) trivial (hd_p1 rfl (Int32.le_toInt _) (Int32.toInt_le _) (hd_p1 rfl (Int32.le_toInt _) (Int32.toInt_le _) (hd_p1 rfl (Int32.le_toInt _) (Int32.toInt_le _) (hd_p1 rfl (hd_kd_118_39 hM).1 (hd_kd_118_39 hM).2 hd_p0)))) hM ?_ ?_
  · intro r σ' hq
    cases r with
    | none => exact hq.elim
    | some v =>
      obtain ⟨p, hp, hM2, ks, hk, hv⟩ := hq
      cases hp
  · intro u hu
    simp only [List.mem_cons, List.not_mem_nil, or_false] at hu
    rcases hu with rfl
    · intro lw' sw' vs' ws' σ' ⟨h1_0, h2, h3_0, h4, h5⟩
      obtain ⟨m1', vs1, rfl, hm1, h1_1⟩ := hd_srcl h1_0
      obtain ⟨m2', vs2, rfl, hm2, h1_2⟩ := hd_srcl h1_1
      obtain ⟨m3', vs3, rfl, hm3, h1_3⟩ := hd_srcl h1_2
      obtain ⟨vs4, rfl, h1_4⟩ := hd_srcs h1_3
      obtain rfl := hd_src0 h1_4
      obtain ⟨n0', sw1, ws1, rfl, rfl, h3_1⟩ := hd_sti h3_0
      obtain ⟨n1', sw2, ws2, rfl, rfl, h3_2⟩ := hd_sti h3_1
      obtain ⟨sw3, rfl, h3_3⟩ := hd_str h3_2
      obtain ⟨rfl, rfl⟩ := hd_st0 h3_3
      have hr9 := hd_ref0 h2
      obtain ⟨v0, e0, l0, u0⟩ := h4 _ (List.mem_cons_self)
      have g0 : 1 * m3.toInt + ((-1) * n0'.toInt + 0) = v0 := Option.some.inj e0
      obtain ⟨v1, e1, l1, u1⟩ := h4 _ (List.mem_cons_of_mem _ (List.mem_cons_self))
      have g1 : 3 * (σ.2.1 118 39).toInt + ((-1) * n1'.toInt + 0) = v1 := Option.some.inj e1
      obtain ⟨v2, e2, l2, u2⟩ := h4 _ (List.mem_cons_of_mem _ (List.mem_cons_of_mem _ (List.mem_cons_self)))
      have g2 : 1 * (σ.2.1 118 39).toInt + ((-1) * (σ'.2.1 118 39).toInt + 0) = v2 := Option.some.inj e2
      exact cuta _ _ _ _ _ _ _ hr9 hm1 hm2 hm3 ⟨by rw [g0]; exact l0, by rw [g0]; exact u0⟩ ⟨by rw [g1]; exact l1, by rw [g1]; exact u1⟩ ⟨by rw [g2]; exact l2, by rw [g2]; exact u2⟩ h5
theorem sg_kc4_run (G : sx_G0 g L xs zK hd_T ex_mt) (hct : ∀ (mi : Nat) (T2 : ex_T) (c' : sx_Ct), ex_mt mi = some T2 → c' ∈ k9 mi → c'.1 < 0 → sx_Holds g zK hd_T T2 c') {σ : am_S} {lw : List (Nat × Value)} {post : Option (Option Value) → am_S → Prop} (hM : sx_M zK hd_T σ 0 0 σ) (hl : (0, Value.ref 118) ∈ lw) (bp118_39 : 0 ≤ (σ.2.1 118 39).toInt ∧ (σ.2.1 118 39).toInt ≤ 39) (ret0 : ∀ (σ' : am_S), ((-1) ≤ 1 * (σ.2.1 118 39).toInt + ((-1) * (σ'.2.1 118 39).toInt + 0) ∧ 1 * (σ.2.1 118 39).toInt + ((-1) * (σ'.2.1 118 39).toInt + 0) ≤ (-1)) → sx_M zK hd_T σ 645562469521727147413979793000752968582426448207305878207664839135161905504210298657411338320034457858975792993186873344 0 σ' → post (some none) σ') : am_K g 5 tX12_code.1 0 0 40 lw [] σ post := by
  refine sg_seg (sw := []) (vs := [(σ.2.1 118 39).toInt]) (ws := []) G (mi := 91) rfl hct sg_kc4_ok ⟨rfl, trivial⟩ (hd_refs hl) trivial (hd_p1 rfl bp118_39.1 bp118_39.2 hd_p0) hM ?_ ?_
  · intro r σ' hq
    cases r with
    | none => exact hq.elim
    | some v =>
      obtain ⟨p, hp, hM2, ks, hk, hv⟩ := hq
      simp only [List.mem_cons, List.not_mem_nil, or_false] at hp
      rcases hp with rfl
      · obtain ⟨ks0, rfl, hk1⟩ := hd_keyc hk; obtain rfl := hd_keys hk1
        cases v with
        | some w9 => exact hv.elim
        | none =>
          have hP := hv
          obtain ⟨v0, e0, l0, u0⟩ := hP _ (List.mem_cons_self)
          have g0 : 1 * (σ.2.1 118 39).toInt + ((-1) * (σ'.2.1 118 39).toInt + 0) = v0 := Option.some.inj e0
          exact ret0 _ ⟨by rw [g0]; exact l0, by rw [g0]; exact u0⟩ hM2
  · intro u hu
    cases hu
theorem sg_kn1z_run (G : sx_G0 g L xs zK hd_T ex_mt) (hct : ∀ (mi : Nat) (T2 : ex_T) (c' : sx_Ct), ex_mt mi = some T2 → c' ∈ k9 mi → c'.1 < 0 → sx_Holds g zK hd_T T2 c') {σ : am_S} {lw : List (Nat × Value)} {post : Option (Option Value) → am_S → Prop} (hM : sx_M zK hd_T σ 0 0 σ) (hl : (0, Value.ref 118) ∈ lw) (bp118_41 : 0 ≤ (σ.2.1 118 41).toInt ∧ (σ.2.1 118 41).toInt ≤ 0) (ret0 : ∀ (σ' : am_S), sx_M zK hd_T σ 0 0 σ' → post (some none) σ') : am_K g 20 tX12_nots.1 0 0 0 lw [] σ post := by
  refine sg_seg (sw := []) (vs := [(σ.2.1 118 41).toInt]) (ws := []) G (mi := 142) rfl hct sg_kn1z_ok ⟨rfl, trivial⟩ (hd_refs hl) trivial (hd_p1 rfl bp118_41.1 bp118_41.2 hd_p0) hM ?_ ?_
  · intro r σ' hq
    cases r with
    | none => exact hq.elim
    | some v =>
      obtain ⟨p, hp, hM2, ks, hk, hv⟩ := hq
      simp only [List.mem_cons, List.not_mem_nil, or_false] at hp
      rcases hp with rfl
      · obtain rfl := hd_keys hk
        cases v with
        | some w9 => exact hv.elim
        | none =>
          have hP := hv
          exact ret0 _  hM2
  · intro u hu
    cases hu
theorem sg_kn1_run (G : sx_G0 g L xs zK hd_T ex_mt) (hct : ∀ (mi : Nat) (T2 : ex_T) (c' : sx_Ct), ex_mt mi = some T2 → c' ∈ k9 mi → c'.1 < 0 → sx_Holds g zK hd_T T2 c') {σ : am_S} {lw : List (Nat × Value)} {post : Option (Option Value) → am_S → Prop} (hM : sx_M zK hd_T σ 0 0 σ) (hl : (0, Value.ref 118) ∈ lw) (bp118_41 : 1 ≤ (σ.2.1 118 41).toInt ∧ (σ.2.1 118 41).toInt ≤ 40) (cuta : ∀ (lw' : List (Nat × Value)) (n0' : Int32) (σ' : am_S), (0, Value.ref 118) ∈ lw' → (1 ≤ 1 * (σ.2.1 118 41).toInt + ((-1) * n0'.toInt + 0) ∧ 1 * (σ.2.1 118 41).toInt + ((-1) * n0'.toInt + 0) ≤ 1) → sx_M zK hd_T σ 0 0 σ' → am_K g 20 tX12_nots.1 0 0 17 lw' [.int n0', .ref 134] σ' post) : am_K g 20 tX12_nots.1 0 0 0 lw [] σ post := by
  refine sg_seg (sw := []) (vs := [(σ.2.1 118 41).toInt]) (ws := []) G (mi := 142) rfl hct sg_kn1_ok ⟨rfl, trivial⟩ (hd_refs hl) trivial (hd_p1 rfl bp118_41.1 bp118_41.2 hd_p0) hM ?_ ?_
  · intro r σ' hq
    cases r with
    | none => exact hq.elim
    | some v =>
      obtain ⟨p, hp, hM2, ks, hk, hv⟩ := hq
      cases hp
  · intro u hu
    simp only [List.mem_cons, List.not_mem_nil, or_false] at hu
    rcases hu with rfl
    · intro lw' sw' vs' ws' σ' ⟨h1_0, h2, h3_0, h4, h5⟩
      obtain rfl := hd_src0 h1_0
      obtain ⟨n0', sw1, ws1, rfl, rfl, h3_1⟩ := hd_sti h3_0
      obtain ⟨sw2, rfl, h3_2⟩ := hd_str h3_1
      obtain ⟨rfl, rfl⟩ := hd_st0 h3_2
      have hr9 := hd_ref0 h2
      obtain ⟨v0, e0, l0, u0⟩ := h4 _ (List.mem_cons_self)
      have g0 : 1 * (σ.2.1 118 41).toInt + ((-1) * n0'.toInt + 0) = v0 := Option.some.inj e0
      exact cuta _ _ _ hr9  ⟨by rw [g0]; exact l0, by rw [g0]; exact u0⟩ h5
theorem sg_kn2_run (G : sx_G0 g L xs zK hd_T ex_mt) (hct : ∀ (mi : Nat) (T2 : ex_T) (c' : sx_Ct), ex_mt mi = some T2 → c' ∈ k9 mi → c'.1 < 0 → sx_Holds g zK hd_T T2 c') {σ : am_S} {lw : List (Nat × Value)} {post : Option (Option Value) → am_S → Prop} (hM : sx_M zK hd_T σ 0 0 σ) (hl : (0, Value.ref 118) ∈ lw) (bp118_41 : 1 ≤ (σ.2.1 118 41).toInt ∧ (σ.2.1 118 41).toInt ≤ 40) (bp118_42 : 1 ≤ (σ.2.1 118 42).toInt ∧ (σ.2.1 118 42).toInt ≤ 40) {n0 : Int32} (bk0 : 20 ≤ n0.toInt ∧ n0.toInt ≤ 20) (cuta : ∀ (lw' : List (Nat × Value)) (n0' : Int32) (n1' : Int32) (n2' : Int32) (σ' : am_S), (0, Value.ref 118) ∈ lw' → (0 ≤ 1 * n0'.toInt + 0 ∧ 1 * n0'.toInt + 0 ≤ 0) → (0 ≤ 1 * n1'.toInt + 0 ∧ 1 * n1'.toInt + 0 ≤ 0) → (20 ≤ 1 * n2'.toInt + 0 ∧ 1 * n2'.toInt + 0 ≤ 20) → (1 ≤ 1 * (σ.2.1 118 41).toInt + ((-1) * (σ'.2.1 118 41).toInt + 0) ∧ 1 * (σ.2.1 118 41).toInt + ((-1) * (σ'.2.1 118 41).toInt + 0) ≤ 1) → (1 ≤ 1 * (σ.2.1 118 42).toInt + ((-1) * (σ'.2.1 118 42).toInt + 0) ∧ 1 * (σ.2.1 118 42).toInt + ((-1) * (σ'.2.1 118 42).toInt + 0) ≤ 1) → sx_M zK hd_T σ 7746749634260725768967757516009035622989117378487670538491978069621942866050523583888936059840413494307709515918242480128 0 σ' → am_K g 20 tX12_nots.1 0 0 48 lw' [.int n0', .int n1', .int n2', .ref 118] σ' post) : am_K g 20 tX12_nots.1 0 0 18 lw [.int n0] σ post := by
  refine sg_seg (sw := [.int n0]) (vs := [(σ.2.1 118 41).toInt, (σ.2.1 118 42).toInt]) (ws := [n0.toInt]) G (mi := 142) rfl hct sg_kn2_ok ⟨rfl, ⟨rfl, trivial⟩⟩ (hd_refs hl) ⟨⟨n0, rfl, rfl⟩, trivial⟩ (hd_p1 rfl bp118_41.1 bp118_41.2 (hd_p1 rfl bp118_42.1 bp118_42.2 (hd_p1 rfl bk0.1 bk0.2 hd_p0))) hM ?_ ?_
  · intro r σ' hq
    cases r with
    | none => exact hq.elim
    | some v =>
      obtain ⟨p, hp, hM2, ks, hk, hv⟩ := hq
      cases hp
  · intro u hu
    simp only [List.mem_cons, List.not_mem_nil, or_false] at hu
    rcases hu with rfl
    · intro lw' sw' vs' ws' σ' ⟨h1_0, h2, h3_0, h4, h5⟩
      obtain ⟨vs1, rfl, h1_1⟩ := hd_srcs h1_0
      obtain ⟨vs2, rfl, h1_2⟩ := hd_srcs h1_1
      obtain rfl := hd_src0 h1_2
      obtain ⟨n0', sw1, ws1, rfl, rfl, h3_1⟩ := hd_sti h3_0
      obtain ⟨n1', sw2, ws2, rfl, rfl, h3_2⟩ := hd_sti h3_1
      obtain ⟨n2', sw3, ws3, rfl, rfl, h3_3⟩ := hd_sti h3_2
      obtain ⟨sw4, rfl, h3_4⟩ := hd_str h3_3
      obtain ⟨rfl, rfl⟩ := hd_st0 h3_4
      have hr9 := hd_ref0 h2
      obtain ⟨v0, e0, l0, u0⟩ := h4 _ (List.mem_cons_self)
      have g0 : 1 * n0'.toInt + 0 = v0 := Option.some.inj e0
      obtain ⟨v1, e1, l1, u1⟩ := h4 _ (List.mem_cons_of_mem _ (List.mem_cons_self))
      have g1 : 1 * n1'.toInt + 0 = v1 := Option.some.inj e1
      obtain ⟨v2, e2, l2, u2⟩ := h4 _ (List.mem_cons_of_mem _ (List.mem_cons_of_mem _ (List.mem_cons_self)))
      have g2 : 1 * n2'.toInt + 0 = v2 := Option.some.inj e2
      obtain ⟨v3, e3, l3, u3⟩ := h4 _ (List.mem_cons_of_mem _ (List.mem_cons_of_mem _ (List.mem_cons_of_mem _ (List.mem_cons_self))))
      have g3 : 1 * (σ.2.1 118 41).toInt + ((-1) * (σ'.2.1 118 41).toInt + 0) = v3 := Option.some.inj e3
      obtain ⟨v4, e4, l4, u4⟩ := h4 _ (List.mem_cons_of_mem _ (List.mem_cons_of_mem _ (List.mem_cons_of_mem _ (List.mem_cons_of_mem _ (List.mem_cons_self)))))
      have g4 : 1 * (σ.2.1 118 42).toInt + ((-1) * (σ'.2.1 118 42).toInt + 0) = v4 := Option.some.inj e4
      exact cuta _ _ _ _ _ hr9  ⟨by rw [g0]; exact l0, by rw [g0]; exact u0⟩ ⟨by rw [g1]; exact l1, by rw [g1]; exact u1⟩ ⟨by rw [g2]; exact l2, by rw [g2]; exact u2⟩ ⟨by rw [g3]; exact l3, by rw [g3]; exact u3⟩ ⟨by rw [g4]; exact l4, by rw [g4]; exact u4⟩ h5
theorem sg_kn3_run (G : sx_G0 g L xs zK hd_T ex_mt) (hct : ∀ (mi : Nat) (T2 : ex_T) (c' : sx_Ct), ex_mt mi = some T2 → c' ∈ k9 mi → c'.1 < 0 → sx_Holds g zK hd_T T2 c') {σ : am_S} {lw : List (Nat × Value)} {post : Option (Option Value) → am_S → Prop} (hM : sx_M zK hd_T σ 0 0 σ) (hl : (0, Value.ref 118) ∈ lw) {n0 : Int32} (bk0 : 21 ≤ n0.toInt ∧ n0.toInt ≤ 23) (ret0 : ∀ (σ' : am_S), sx_M zK hd_T σ 0 0 σ' → post (some none) σ') : am_K g 20 tX12_nots.1 0 0 18 lw [.int n0] σ post := by
  refine sg_seg (sw := [.int n0]) (vs := []) (ws := [n0.toInt]) G (mi := 142) rfl hct sg_kn3_ok trivial (hd_refs hl) ⟨⟨n0, rfl, rfl⟩, trivial⟩ (hd_p1 rfl bk0.1 bk0.2 hd_p0) hM ?_ ?_
  · intro r σ' hq
    cases r with
    | none => exact hq.elim
    | some v =>
      obtain ⟨p, hp, hM2, ks, hk, hv⟩ := hq
      simp only [List.mem_cons, List.not_mem_nil, or_false] at hp
      rcases hp with rfl
      · obtain rfl := hd_keys hk
        cases v with
        | some w9 => exact hv.elim
        | none =>
          have hP := hv
          exact ret0 _  hM2
  · intro u hu
    cases hu
theorem sg_kj1z_run (G : sx_G0 g L xs zK hd_T ex_mt) (hct : ∀ (mi : Nat) (T2 : ex_T) (c' : sx_Ct), ex_mt mi = some T2 → c' ∈ k9 mi → c'.1 < 0 → sx_Holds g zK hd_T T2 c') {σ : am_S} {lw : List (Nat × Value)} {post : Option (Option Value) → am_S → Prop} (hM : sx_M zK hd_T σ 0 0 σ) (hl : (0, Value.ref 118) ∈ lw) {m1 : Int32} (hl1 : (1, Value.int m1) ∈ lw) (bp118_41 : 0 ≤ (σ.2.1 118 41).toInt ∧ (σ.2.1 118 41).toInt ≤ 0) (ret0 : ∀ (σ' : am_S), sx_M zK hd_T σ 0 0 σ' → post (some none) σ') : am_K g 20 tX12_joins.1 0 0 0 lw [] σ post := by
  refine sg_seg (sw := []) (vs := [m1.toInt, (σ.2.1 118 41).toInt]) (ws := []) G (mi := 127) rfl hct sg_kj1z_ok ⟨⟨m1, hl1, rfl⟩, ⟨rfl, trivial⟩⟩ (hd_refs hl) trivial (hd_p1 rfl (Int32.le_toInt _) (Int32.toInt_le _) (hd_p1 rfl bp118_41.1 bp118_41.2 hd_p0)) hM ?_ ?_
  · intro r σ' hq
    cases r with
    | none => exact hq.elim
    | some v =>
      obtain ⟨p, hp, hM2, ks, hk, hv⟩ := hq
      simp only [List.mem_cons, List.not_mem_nil, or_false] at hp
      rcases hp with rfl
      · obtain rfl := hd_keys hk
        cases v with
        | some w9 => exact hv.elim
        | none =>
          have hP := hv
          exact ret0 _  hM2
  · intro u hu
    cases hu
theorem sg_kj1_run (G : sx_G0 g L xs zK hd_T ex_mt) (hct : ∀ (mi : Nat) (T2 : ex_T) (c' : sx_Ct), ex_mt mi = some T2 → c' ∈ k9 mi → c'.1 < 0 → sx_Holds g zK hd_T T2 c') {σ : am_S} {lw : List (Nat × Value)} {post : Option (Option Value) → am_S → Prop} (hM : sx_M zK hd_T σ 0 0 σ) (hl : (0, Value.ref 118) ∈ lw) {m1 : Int32} (hl1 : (1, Value.int m1) ∈ lw) (bp118_41 : 1 ≤ (σ.2.1 118 41).toInt ∧ (σ.2.1 118 41).toInt ≤ 40) (cuta : ∀ (lw' : List (Nat × Value)) (m1' : Int32) (n0' : Int32) (σ' : am_S), (0, Value.ref 118) ∈ lw' → (1, Value.int m1') ∈ lw' → (1 ≤ 1 * (σ.2.1 118 41).toInt + ((-1) * n0'.toInt + 0) ∧ 1 * (σ.2.1 118 41).toInt + ((-1) * n0'.toInt + 0) ≤ 1) → (0 ≤ 1 * m1.toInt + ((-1) * m1'.toInt + 0) ∧ 1 * m1.toInt + ((-1) * m1'.toInt + 0) ≤ 0) → sx_M zK hd_T σ 0 0 σ' → am_K g 20 tX12_joins.1 0 0 17 lw' [.int n0', .ref 134] σ' post) : am_K g 20 tX12_joins.1 0 0 0 lw [] σ post := by
  refine sg_seg (sw := []) (vs := [m1.toInt, (σ.2.1 118 41).toInt]) (ws := []) G (mi := 127) rfl hct sg_kj1_ok ⟨⟨m1, hl1, rfl⟩, ⟨rfl, trivial⟩⟩ (hd_refs hl) trivial (hd_p1 rfl (Int32.le_toInt _) (Int32.toInt_le _) (hd_p1 rfl bp118_41.1 bp118_41.2 hd_p0)) hM ?_ ?_
  · intro r σ' hq
    cases r with
    | none => exact hq.elim
    | some v =>
      obtain ⟨p, hp, hM2, ks, hk, hv⟩ := hq
      cases hp
  · intro u hu
    simp only [List.mem_cons, List.not_mem_nil, or_false] at hu
    rcases hu with rfl
    · intro lw' sw' vs' ws' σ' ⟨h1_0, h2, h3_0, h4, h5⟩
      obtain ⟨m1', vs1, rfl, hm1, h1_1⟩ := hd_srcl h1_0
      obtain rfl := hd_src0 h1_1
      obtain ⟨n0', sw1, ws1, rfl, rfl, h3_1⟩ := hd_sti h3_0
      obtain ⟨sw2, rfl, h3_2⟩ := hd_str h3_1
      obtain ⟨rfl, rfl⟩ := hd_st0 h3_2
      have hr9 := hd_ref0 h2
      obtain ⟨v0, e0, l0, u0⟩ := h4 _ (List.mem_cons_self)
      have g0 : 1 * (σ.2.1 118 41).toInt + ((-1) * n0'.toInt + 0) = v0 := Option.some.inj e0
      obtain ⟨v1, e1, l1, u1⟩ := h4 _ (List.mem_cons_of_mem _ (List.mem_cons_self))
      have g1 : 1 * m1.toInt + ((-1) * m1'.toInt + 0) = v1 := Option.some.inj e1
      exact cuta _ _ _ _ hr9 hm1 ⟨by rw [g0]; exact l0, by rw [g0]; exact u0⟩ ⟨by rw [g1]; exact l1, by rw [g1]; exact u1⟩ h5
theorem sg_kj2_run (G : sx_G0 g L xs zK hd_T ex_mt) (hct : ∀ (mi : Nat) (T2 : ex_T) (c' : sx_Ct), ex_mt mi = some T2 → c' ∈ k9 mi → c'.1 < 0 → sx_Holds g zK hd_T T2 c') {σ : am_S} {lw : List (Nat × Value)} {post : Option (Option Value) → am_S → Prop} (hM : sx_M zK hd_T σ 0 0 σ) (hl : (0, Value.ref 118) ∈ lw) {m1 : Int32} (hl1 : (1, Value.int m1) ∈ lw) (bp118_41 : 1 ≤ (σ.2.1 118 41).toInt ∧ (σ.2.1 118 41).toInt ≤ 40) {n0 : Int32} (bk0 : 21 ≤ n0.toInt ∧ n0.toInt ≤ 21) (cuta : ∀ (lw' : List (Nat × Value)) (m1' : Int32) (n0' : Int32) (σ' : am_S), (0, Value.ref 118) ∈ lw' → (1, Value.int m1') ∈ lw' → (1 ≤ 1 * (σ.2.1 118 41).toInt + ((-1) * (σ'.2.1 118 41).toInt + 0) ∧ 1 * (σ.2.1 118 41).toInt + ((-1) * (σ'.2.1 118 41).toInt + 0) ≤ 1) → (1 ≤ 1 * (σ.2.1 118 41).toInt + ((-1) * n0'.toInt + 0) ∧ 1 * (σ.2.1 118 41).toInt + ((-1) * n0'.toInt + 0) ≤ 1) → (0 ≤ 1 * m1.toInt + ((-1) * m1'.toInt + 0) ∧ 1 * m1.toInt + ((-1) * m1'.toInt + 0) ≤ 0) → sx_M zK hd_T σ 2582249878086908589655919172003011874329705792829223512830659356540647622016841194629645353280137831435903171972747493376 0 σ' → am_K g 20 tX12_joins.1 0 0 64 lw' [.int n0', .ref 134, .ref 118] σ' post) : am_K g 20 tX12_joins.1 0 0 18 lw [.int n0] σ post := by
  refine sg_seg (sw := [.int n0]) (vs := [m1.toInt, (σ.2.1 118 41).toInt]) (ws := [n0.toInt]) G (mi := 127) rfl hct sg_kj2_ok ⟨⟨m1, hl1, rfl⟩, ⟨rfl, trivial⟩⟩ (hd_refs hl) ⟨⟨n0, rfl, rfl⟩, trivial⟩ (hd_p1 rfl (Int32.le_toInt _) (Int32.toInt_le _) (hd_p1 rfl bp118_41.1 bp118_41.2 (hd_p1 rfl bk0.1 bk0.2 hd_p0))) hM ?_ ?_
  · intro r σ' hq
    cases r with
    | none => exact hq.elim
    | some v =>
      obtain ⟨p, hp, hM2, ks, hk, hv⟩ := hq
      cases hp
  · intro u hu
    simp only [List.mem_cons, List.not_mem_nil, or_false] at hu
    rcases hu with rfl
    · intro lw' sw' vs' ws' σ' ⟨h1_0, h2, h3_0, h4, h5⟩
      obtain ⟨m1', vs1, rfl, hm1, h1_1⟩ := hd_srcl h1_0
      obtain ⟨vs2, rfl, h1_2⟩ := hd_srcs h1_1
      obtain rfl := hd_src0 h1_2
      obtain ⟨n0', sw1, ws1, rfl, rfl, h3_1⟩ := hd_sti h3_0
      obtain ⟨sw2, rfl, h3_2⟩ := hd_str h3_1
      obtain ⟨sw3, rfl, h3_3⟩ := hd_str h3_2
      obtain ⟨rfl, rfl⟩ := hd_st0 h3_3
      have hr9 := hd_ref0 h2
      obtain ⟨v0, e0, l0, u0⟩ := h4 _ (List.mem_cons_self)
      have g0 : 1 * (σ.2.1 118 41).toInt + ((-1) * (σ'.2.1 118 41).toInt + 0) = v0 := Option.some.inj e0
      obtain ⟨v1, e1, l1, u1⟩ := h4 _ (List.mem_cons_of_mem _ (List.mem_cons_self))
      have g1 : 1 * (σ.2.1 118 41).toInt + ((-1) * n0'.toInt + 0) = v1 := Option.some.inj e1
      obtain ⟨v2, e2, l2, u2⟩ := h4 _ (List.mem_cons_of_mem _ (List.mem_cons_of_mem _ (List.mem_cons_self)))
      have g2 : 1 * m1.toInt + ((-1) * m1'.toInt + 0) = v2 := Option.some.inj e2
      exact cuta _ _ _ _ hr9 hm1 ⟨by rw [g0]; exact l0, by rw [g0]; exact u0⟩ ⟨by rw [g1]; exact l1, by rw [g1]; exact u1⟩ ⟨by rw [g2]; exact l2, by rw [g2]; exact u2⟩ h5
theorem sg_kj3_run (G : sx_G0 g L xs zK hd_T ex_mt) (hct : ∀ (mi : Nat) (T2 : ex_T) (c' : sx_Ct), ex_mt mi = some T2 → c' ∈ k9 mi → c'.1 < 0 → sx_Holds g zK hd_T T2 c') {σ : am_S} {lw : List (Nat × Value)} {post : Option (Option Value) → am_S → Prop} (hM : sx_M zK hd_T σ 0 0 σ) (hl : (0, Value.ref 118) ∈ lw) {m1 : Int32} (hl1 : (1, Value.int m1) ∈ lw) (bp118_41 : 1 ≤ (σ.2.1 118 41).toInt ∧ (σ.2.1 118 41).toInt ≤ 40) {n0 : Int32} (bk0 : 20 ≤ n0.toInt ∧ n0.toInt ≤ 20) (cuta : ∀ (lw' : List (Nat × Value)) (m1' : Int32) (n0' : Int32) (σ' : am_S), (0, Value.ref 118) ∈ lw' → (1, Value.int m1') ∈ lw' → (1 ≤ 1 * (σ.2.1 118 41).toInt + ((-1) * n0'.toInt + 0) ∧ 1 * (σ.2.1 118 41).toInt + ((-1) * n0'.toInt + 0) ≤ 1) → (0 ≤ 1 * m1.toInt + ((-1) * m1'.toInt + 0) ∧ 1 * m1.toInt + ((-1) * m1'.toInt + 0) ≤ 0) → sx_M zK hd_T σ 0 0 σ' → am_K g 20 tX12_joins.1 0 0 33 lw' [.int n0', .ref 134] σ' post) : am_K g 20 tX12_joins.1 0 0 18 lw [.int n0] σ post := by
  refine sg_seg (sw := [.int n0]) (vs := [m1.toInt, (σ.2.1 118 41).toInt]) (ws := [n0.toInt]) G (mi := 127) rfl hct sg_kj3_ok ⟨⟨m1, hl1, rfl⟩, ⟨rfl, trivial⟩⟩ (hd_refs hl) ⟨⟨n0, rfl, rfl⟩, trivial⟩ (hd_p1 rfl (Int32.le_toInt _) (Int32.toInt_le _) (hd_p1 rfl bp118_41.1 bp118_41.2 (hd_p1 rfl bk0.1 bk0.2 hd_p0))) hM ?_ ?_
  · intro r σ' hq
    cases r with
    | none => exact hq.elim
    | some v =>
      obtain ⟨p, hp, hM2, ks, hk, hv⟩ := hq
      cases hp
  · intro u hu
    simp only [List.mem_cons, List.not_mem_nil, or_false] at hu
    rcases hu with rfl
    · intro lw' sw' vs' ws' σ' ⟨h1_0, h2, h3_0, h4, h5⟩
      obtain ⟨m1', vs1, rfl, hm1, h1_1⟩ := hd_srcl h1_0
      obtain rfl := hd_src0 h1_1
      obtain ⟨n0', sw1, ws1, rfl, rfl, h3_1⟩ := hd_sti h3_0
      obtain ⟨sw2, rfl, h3_2⟩ := hd_str h3_1
      obtain ⟨rfl, rfl⟩ := hd_st0 h3_2
      have hr9 := hd_ref0 h2
      obtain ⟨v0, e0, l0, u0⟩ := h4 _ (List.mem_cons_self)
      have g0 : 1 * (σ.2.1 118 41).toInt + ((-1) * n0'.toInt + 0) = v0 := Option.some.inj e0
      obtain ⟨v1, e1, l1, u1⟩ := h4 _ (List.mem_cons_of_mem _ (List.mem_cons_self))
      have g1 : 1 * m1.toInt + ((-1) * m1'.toInt + 0) = v1 := Option.some.inj e1
      exact cuta _ _ _ _ hr9 hm1 ⟨by rw [g0]; exact l0, by rw [g0]; exact u0⟩ ⟨by rw [g1]; exact l1, by rw [g1]; exact u1⟩ h5
theorem sg_kj4_run (G : sx_G0 g L xs zK hd_T ex_mt) (hct : ∀ (mi : Nat) (T2 : ex_T) (c' : sx_Ct), ex_mt mi = some T2 → c' ∈ k9 mi → c'.1 < 0 → sx_Holds g zK hd_T T2 c') {σ : am_S} {lw : List (Nat × Value)} {post : Option (Option Value) → am_S → Prop} (hM : sx_M zK hd_T σ 0 0 σ) (hl : (0, Value.ref 118) ∈ lw) {m1 : Int32} (hl1 : (1, Value.int m1) ∈ lw) (bp118_41 : 1 ≤ (σ.2.1 118 41).toInt ∧ (σ.2.1 118 41).toInt ≤ 40) {n0 : Int32} (bk0 : 22 ≤ n0.toInt ∧ n0.toInt ≤ 23) (cuta : ∀ (lw' : List (Nat × Value)) (m1' : Int32) (n0' : Int32) (σ' : am_S), (0, Value.ref 118) ∈ lw' → (1, Value.int m1') ∈ lw' → (1 ≤ 1 * (σ.2.1 118 41).toInt + ((-1) * n0'.toInt + 0) ∧ 1 * (σ.2.1 118 41).toInt + ((-1) * n0'.toInt + 0) ≤ 1) → (0 ≤ 1 * m1.toInt + ((-1) * m1'.toInt + 0) ∧ 1 * m1.toInt + ((-1) * m1'.toInt + 0) ≤ 0) → sx_M zK hd_T σ 0 0 σ' → am_K g 20 tX12_joins.1 0 0 33 lw' [.int n0', .ref 134] σ' post) : am_K g 20 tX12_joins.1 0 0 18 lw [.int n0] σ post := by
  refine sg_seg (sw := [.int n0]) (vs := [m1.toInt, (σ.2.1 118 41).toInt]) (ws := [n0.toInt]) G (mi := 127) rfl hct sg_kj4_ok ⟨⟨m1, hl1, rfl⟩, ⟨rfl, trivial⟩⟩ (hd_refs hl) ⟨⟨n0, rfl, rfl⟩, trivial⟩ (hd_p1 rfl (Int32.le_toInt _) (Int32.toInt_le _) (hd_p1 rfl bp118_41.1 bp118_41.2 (hd_p1 rfl bk0.1 bk0.2 hd_p0))) hM ?_ ?_
  · intro r σ' hq
    cases r with
    | none => exact hq.elim
    | some v =>
      obtain ⟨p, hp, hM2, ks, hk, hv⟩ := hq
      cases hp
  · intro u hu
    simp only [List.mem_cons, List.not_mem_nil, or_false] at hu
    rcases hu with rfl
    · intro lw' sw' vs' ws' σ' ⟨h1_0, h2, h3_0, h4, h5⟩
      obtain ⟨m1', vs1, rfl, hm1, h1_1⟩ := hd_srcl h1_0
      obtain rfl := hd_src0 h1_1
      obtain ⟨n0', sw1, ws1, rfl, rfl, h3_1⟩ := hd_sti h3_0
      obtain ⟨sw2, rfl, h3_2⟩ := hd_str h3_1
      obtain ⟨rfl, rfl⟩ := hd_st0 h3_2
      have hr9 := hd_ref0 h2
      obtain ⟨v0, e0, l0, u0⟩ := h4 _ (List.mem_cons_self)
      have g0 : 1 * (σ.2.1 118 41).toInt + ((-1) * n0'.toInt + 0) = v0 := Option.some.inj e0
      obtain ⟨v1, e1, l1, u1⟩ := h4 _ (List.mem_cons_of_mem _ (List.mem_cons_self))
      have g1 : 1 * m1.toInt + ((-1) * m1'.toInt + 0) = v1 := Option.some.inj e1
      exact cuta _ _ _ _ hr9 hm1 ⟨by rw [g0]; exact l0, by rw [g0]; exact u0⟩ ⟨by rw [g1]; exact l1, by rw [g1]; exact u1⟩ h5
theorem sg_kj5_run (G : sx_G0 g L xs zK hd_T ex_mt) (hct : ∀ (mi : Nat) (T2 : ex_T) (c' : sx_Ct), ex_mt mi = some T2 → c' ∈ k9 mi → c'.1 < 0 → sx_Holds g zK hd_T T2 c') {σ : am_S} {lw : List (Nat × Value)} {post : Option (Option Value) → am_S → Prop} (hM : sx_M zK hd_T σ 0 0 σ) (hl : (0, Value.ref 118) ∈ lw) {m1 : Int32} (hl1 : (1, Value.int m1) ∈ lw) (bl1 : 22 ≤ m1.toInt ∧ m1.toInt ≤ 22) (bp118_41 : 1 ≤ (σ.2.1 118 41).toInt ∧ (σ.2.1 118 41).toInt ≤ 40) {n0 : Int32} (bk0 : 22 ≤ n0.toInt ∧ n0.toInt ≤ 22) (cuta : ∀ (lw' : List (Nat × Value)) (m1' : Int32) (n0' : Int32) (σ' : am_S), (0, Value.ref 118) ∈ lw' → (1, Value.int m1') ∈ lw' → (1 ≤ 1 * (σ.2.1 118 41).toInt + ((-1) * (σ'.2.1 118 41).toInt + 0) ∧ 1 * (σ.2.1 118 41).toInt + ((-1) * (σ'.2.1 118 41).toInt + 0) ≤ 1) → (1 ≤ 1 * (σ.2.1 118 41).toInt + ((-1) * n0'.toInt + 0) ∧ 1 * (σ.2.1 118 41).toInt + ((-1) * n0'.toInt + 0) ≤ 1) → (0 ≤ 1 * m1.toInt + ((-1) * m1'.toInt + 0) ∧ 1 * m1.toInt + ((-1) * m1'.toInt + 0) ≤ 0) → sx_M zK hd_T σ 2582249878086908589655919172003011874329705792829223512830659356540647622016841194629645353280137831435903171972747493376 0 σ' → am_K g 20 tX12_joins.1 0 0 64 lw' [.int n0', .ref 134, .ref 118] σ' post) : am_K g 20 tX12_joins.1 0 0 34 lw [.int n0] σ post := by
  refine sg_seg (sw := [.int n0]) (vs := [m1.toInt, (σ.2.1 118 41).toInt]) (ws := [n0.toInt]) G (mi := 127) rfl hct sg_kj5_ok ⟨⟨m1, hl1, rfl⟩, ⟨rfl, trivial⟩⟩ (hd_refs hl) ⟨⟨n0, rfl, rfl⟩, trivial⟩ (hd_p1 rfl bl1.1 bl1.2 (hd_p1 rfl bp118_41.1 bp118_41.2 (hd_p1 rfl bk0.1 bk0.2 hd_p0))) hM ?_ ?_
  · intro r σ' hq
    cases r with
    | none => exact hq.elim
    | some v =>
      obtain ⟨p, hp, hM2, ks, hk, hv⟩ := hq
      cases hp
  · intro u hu
    simp only [List.mem_cons, List.not_mem_nil, or_false] at hu
    rcases hu with rfl
    · intro lw' sw' vs' ws' σ' ⟨h1_0, h2, h3_0, h4, h5⟩
      obtain ⟨m1', vs1, rfl, hm1, h1_1⟩ := hd_srcl h1_0
      obtain ⟨vs2, rfl, h1_2⟩ := hd_srcs h1_1
      obtain rfl := hd_src0 h1_2
      obtain ⟨n0', sw1, ws1, rfl, rfl, h3_1⟩ := hd_sti h3_0
      obtain ⟨sw2, rfl, h3_2⟩ := hd_str h3_1
      obtain ⟨sw3, rfl, h3_3⟩ := hd_str h3_2
      obtain ⟨rfl, rfl⟩ := hd_st0 h3_3
      have hr9 := hd_ref0 h2
      obtain ⟨v0, e0, l0, u0⟩ := h4 _ (List.mem_cons_self)
      have g0 : 1 * (σ.2.1 118 41).toInt + ((-1) * (σ'.2.1 118 41).toInt + 0) = v0 := Option.some.inj e0
      obtain ⟨v1, e1, l1, u1⟩ := h4 _ (List.mem_cons_of_mem _ (List.mem_cons_self))
      have g1 : 1 * (σ.2.1 118 41).toInt + ((-1) * n0'.toInt + 0) = v1 := Option.some.inj e1
      obtain ⟨v2, e2, l2, u2⟩ := h4 _ (List.mem_cons_of_mem _ (List.mem_cons_of_mem _ (List.mem_cons_self)))
      have g2 : 1 * m1.toInt + ((-1) * m1'.toInt + 0) = v2 := Option.some.inj e2
      exact cuta _ _ _ _ hr9 hm1 ⟨by rw [g0]; exact l0, by rw [g0]; exact u0⟩ ⟨by rw [g1]; exact l1, by rw [g1]; exact u1⟩ ⟨by rw [g2]; exact l2, by rw [g2]; exact u2⟩ h5
theorem sg_kj6_run (G : sx_G0 g L xs zK hd_T ex_mt) (hct : ∀ (mi : Nat) (T2 : ex_T) (c' : sx_Ct), ex_mt mi = some T2 → c' ∈ k9 mi → c'.1 < 0 → sx_Holds g zK hd_T T2 c') {σ : am_S} {lw : List (Nat × Value)} {post : Option (Option Value) → am_S → Prop} (hM : sx_M zK hd_T σ 0 0 σ) (hl : (0, Value.ref 118) ∈ lw) {m1 : Int32} (hl1 : (1, Value.int m1) ∈ lw) (bl1 : 21 ≤ m1.toInt ∧ m1.toInt ≤ 21) {n0 : Int32} (bk0 : 22 ≤ n0.toInt ∧ n0.toInt ≤ 22) (ret0 : ∀ (σ' : am_S), sx_M zK hd_T σ 0 0 σ' → post (some none) σ') : am_K g 20 tX12_joins.1 0 0 34 lw [.int n0] σ post := by
  refine sg_seg (sw := [.int n0]) (vs := [m1.toInt]) (ws := [n0.toInt]) G (mi := 127) rfl hct sg_kj6_ok ⟨⟨m1, hl1, rfl⟩, trivial⟩ (hd_refs hl) ⟨⟨n0, rfl, rfl⟩, trivial⟩ (hd_p1 rfl bl1.1 bl1.2 (hd_p1 rfl bk0.1 bk0.2 hd_p0)) hM ?_ ?_
  · intro r σ' hq
    cases r with
    | none => exact hq.elim
    | some v =>
      obtain ⟨p, hp, hM2, ks, hk, hv⟩ := hq
      simp only [List.mem_cons, List.not_mem_nil, or_false] at hp
      rcases hp with rfl
      · obtain rfl := hd_keys hk
        cases v with
        | some w9 => exact hv.elim
        | none =>
          have hP := hv
          exact ret0 _  hM2
  · intro u hu
    cases hu
theorem sg_kj7_run (G : sx_G0 g L xs zK hd_T ex_mt) (hct : ∀ (mi : Nat) (T2 : ex_T) (c' : sx_Ct), ex_mt mi = some T2 → c' ∈ k9 mi → c'.1 < 0 → sx_Holds g zK hd_T T2 c') {σ : am_S} {lw : List (Nat × Value)} {post : Option (Option Value) → am_S → Prop} (hM : sx_M zK hd_T σ 0 0 σ) (hl : (0, Value.ref 118) ∈ lw) {m1 : Int32} (hl1 : (1, Value.int m1) ∈ lw) {n0 : Int32} (bk0 : 20 ≤ n0.toInt ∧ n0.toInt ≤ 20) (ret0 : ∀ (σ' : am_S), sx_M zK hd_T σ 0 0 σ' → post (some none) σ') : am_K g 20 tX12_joins.1 0 0 34 lw [.int n0] σ post := by
  refine sg_seg (sw := [.int n0]) (vs := [m1.toInt]) (ws := [n0.toInt]) G (mi := 127) rfl hct sg_kj7_ok ⟨⟨m1, hl1, rfl⟩, trivial⟩ (hd_refs hl) ⟨⟨n0, rfl, rfl⟩, trivial⟩ (hd_p1 rfl (Int32.le_toInt _) (Int32.toInt_le _) (hd_p1 rfl bk0.1 bk0.2 hd_p0)) hM ?_ ?_
  · intro r σ' hq
    cases r with
    | none => exact hq.elim
    | some v =>
      obtain ⟨p, hp, hM2, ks, hk, hv⟩ := hq
      simp only [List.mem_cons, List.not_mem_nil, or_false] at hp
      rcases hp with rfl
      · obtain rfl := hd_keys hk
        cases v with
        | some w9 => exact hv.elim
        | none =>
          have hP := hv
          exact ret0 _  hM2
  · intro u hu
    cases hu
theorem sg_kj8_run (G : sx_G0 g L xs zK hd_T ex_mt) (hct : ∀ (mi : Nat) (T2 : ex_T) (c' : sx_Ct), ex_mt mi = some T2 → c' ∈ k9 mi → c'.1 < 0 → sx_Holds g zK hd_T T2 c') {σ : am_S} {lw : List (Nat × Value)} {post : Option (Option Value) → am_S → Prop} (hM : sx_M zK hd_T σ 0 0 σ) (hl : (0, Value.ref 118) ∈ lw) {m1 : Int32} (hl1 : (1, Value.int m1) ∈ lw) {n0 : Int32} (bk0 : 23 ≤ n0.toInt ∧ n0.toInt ≤ 23) (ret0 : ∀ (σ' : am_S), sx_M zK hd_T σ 0 0 σ' → post (some none) σ') : am_K g 20 tX12_joins.1 0 0 34 lw [.int n0] σ post := by
  refine sg_seg (sw := [.int n0]) (vs := [m1.toInt]) (ws := [n0.toInt]) G (mi := 127) rfl hct sg_kj8_ok ⟨⟨m1, hl1, rfl⟩, trivial⟩ (hd_refs hl) ⟨⟨n0, rfl, rfl⟩, trivial⟩ (hd_p1 rfl (Int32.le_toInt _) (Int32.toInt_le _) (hd_p1 rfl bk0.1 bk0.2 hd_p0)) hM ?_ ?_
  · intro r σ' hq
    cases r with
    | none => exact hq.elim
    | some v =>
      obtain ⟨p, hp, hM2, ks, hk, hv⟩ := hq
      simp only [List.mem_cons, List.not_mem_nil, or_false] at hp
      rcases hp with rfl
      · obtain rfl := hd_keys hk
        cases v with
        | some w9 => exact hv.elim
        | none =>
          have hP := hv
          exact ret0 _  hM2
  · intro u hu
    cases hu
theorem sg_kj9_run (G : sx_G0 g L xs zK hd_T ex_mt) (hct : ∀ (mi : Nat) (T2 : ex_T) (c' : sx_Ct), ex_mt mi = some T2 → c' ∈ k9 mi → c'.1 < 0 → sx_Holds g zK hd_T T2 c') {σ : am_S} {lw : List (Nat × Value)} {post : Option (Option Value) → am_S → Prop} (hM : sx_M zK hd_T σ 0 0 σ) (hl : (0, Value.ref 118) ∈ lw) {m1 : Int32} (hl1 : (1, Value.int m1) ∈ lw) {n0 : Int32} (cuta : ∀ (lw' : List (Nat × Value)) (m1' : Int32) (n0' : Int32) (n1' : Int32) (n2' : Int32) (σ' : am_S), (0, Value.ref 118) ∈ lw' → (1, Value.int m1') ∈ lw' → (0 ≤ 1 * n0'.toInt + 0 ∧ 1 * n0'.toInt + 0 ≤ 0) → (0 ≤ 1 * n1'.toInt + 0 ∧ 1 * n1'.toInt + 0 ≤ 0) → (0 ≤ 1 * n0.toInt + ((-1) * n2'.toInt + 0) ∧ 1 * n0.toInt + ((-1) * n2'.toInt + 0) ≤ 0) → (0 ≤ 1 * m1.toInt + ((-1) * m1'.toInt + 0) ∧ 1 * m1.toInt + ((-1) * m1'.toInt + 0) ≤ 0) → sx_M zK hd_T σ 0 0 σ' → am_K g 20 tX12_joins.1 0 0 67 lw' [.int n0', .int n1', .int n2', .ref 118] σ' post) : am_K g 20 tX12_joins.1 0 0 65 lw [.int n0, .ref 118] σ post := by
  refine sg_seg (sw := [.int n0, .ref 118]) (vs := [m1.toInt]) (ws := [n0.toInt]) G (mi := 127) rfl hct sg_kj9_ok ⟨⟨m1, hl1, rfl⟩, trivial⟩ (hd_refs hl) ⟨⟨n0, rfl, rfl⟩, ⟨rfl, trivial⟩⟩ (hd_p1 rfl (Int32.le_toInt _) (Int32.toInt_le _) (hd_p1 rfl (Int32.le_toInt _) (Int32.toInt_le _) hd_p0)) hM ?_ ?_
  · intro r σ' hq
    cases r with
    | none => exact hq.elim
    | some v =>
      obtain ⟨p, hp, hM2, ks, hk, hv⟩ := hq
      cases hp
  · intro u hu
    simp only [List.mem_cons, List.not_mem_nil, or_false] at hu
    rcases hu with rfl
    · intro lw' sw' vs' ws' σ' ⟨h1_0, h2, h3_0, h4, h5⟩
      obtain ⟨m1', vs1, rfl, hm1, h1_1⟩ := hd_srcl h1_0
      obtain rfl := hd_src0 h1_1
      obtain ⟨n0', sw1, ws1, rfl, rfl, h3_1⟩ := hd_sti h3_0
      obtain ⟨n1', sw2, ws2, rfl, rfl, h3_2⟩ := hd_sti h3_1
      obtain ⟨n2', sw3, ws3, rfl, rfl, h3_3⟩ := hd_sti h3_2
      obtain ⟨sw4, rfl, h3_4⟩ := hd_str h3_3
      obtain ⟨rfl, rfl⟩ := hd_st0 h3_4
      have hr9 := hd_ref0 h2
      obtain ⟨v0, e0, l0, u0⟩ := h4 _ (List.mem_cons_self)
      have g0 : 1 * n0'.toInt + 0 = v0 := Option.some.inj e0
      obtain ⟨v1, e1, l1, u1⟩ := h4 _ (List.mem_cons_of_mem _ (List.mem_cons_self))
      have g1 : 1 * n1'.toInt + 0 = v1 := Option.some.inj e1
      obtain ⟨v2, e2, l2, u2⟩ := h4 _ (List.mem_cons_of_mem _ (List.mem_cons_of_mem _ (List.mem_cons_self)))
      have g2 : 1 * n0.toInt + ((-1) * n2'.toInt + 0) = v2 := Option.some.inj e2
      obtain ⟨v3, e3, l3, u3⟩ := h4 _ (List.mem_cons_of_mem _ (List.mem_cons_of_mem _ (List.mem_cons_of_mem _ (List.mem_cons_self))))
      have g3 : 1 * m1.toInt + ((-1) * m1'.toInt + 0) = v3 := Option.some.inj e3
      exact cuta _ _ _ _ _ _ hr9 hm1 ⟨by rw [g0]; exact l0, by rw [g0]; exact u0⟩ ⟨by rw [g1]; exact l1, by rw [g1]; exact u1⟩ ⟨by rw [g2]; exact l2, by rw [g2]; exact u2⟩ ⟨by rw [g3]; exact l3, by rw [g3]; exact u3⟩ h5
theorem sg_ks1_run (G : sx_G0 g L xs zK hd_T ex_mt) (hct : ∀ (mi : Nat) (T2 : ex_T) (c' : sx_Ct), ex_mt mi = some T2 → c' ∈ k9 mi → c'.1 < 0 → sx_Holds g zK hd_T T2 c') {σ : am_S} {lw : List (Nat × Value)} {post : Option (Option Value) → am_S → Prop} (hM : sx_M zK hd_T σ 0 0 σ) (hl : (0, Value.ref 118) ∈ lw)  (cuta : ∀ (lw' : List (Nat × Value))  (σ' : am_S), (0, Value.ref 118) ∈ lw' → (0 ≤ 1 * (σ'.2.1 118 2).toInt + 0 ∧ 1 * (σ'.2.1 118 2).toInt + 0 ≤ 0) → (0 ≤ 1 * (σ.2.1 118 2).toInt + ((-1) * (σ'.2.1 118 3).toInt + 0) ∧ 1 * (σ.2.1 118 2).toInt + ((-1) * (σ'.2.1 118 3).toInt + 0) ≤ 0) → (0 ≤ 1 * (σ'.2.1 118 4).toInt + 0 ∧ 1 * (σ'.2.1 118 4).toInt + 0 ≤ 0) → (200 ≤ 1 * (σ'.2.1 118 5).toInt + 0 ∧ 1 * (σ'.2.1 118 5).toInt + 0 ≤ 200) → (0 ≤ 1 * (σ'.2.1 118 13).toInt + 0 ∧ 1 * (σ'.2.1 118 13).toInt + 0 ≤ 0) → (0 ≤ 1 * (σ'.2.1 118 39).toInt + 0 ∧ 1 * (σ'.2.1 118 39).toInt + 0 ≤ 0) → (0 ≤ 1 * (σ'.2.1 118 40).toInt + 0 ∧ 1 * (σ'.2.1 118 40).toInt + 0 ≤ 0) → (0 ≤ 1 * (σ'.2.1 118 41).toInt + 0 ∧ 1 * (σ'.2.1 118 41).toInt + 0 ≤ 0) → (1 ≤ 1 * (σ'.2.1 118 42).toInt + 0 ∧ 1 * (σ'.2.1 118 42).toInt + 0 ≤ 1) → (0 ≤ 1 * (σ'.2.1 118 43).toInt + 0 ∧ 1 * (σ'.2.1 118 43).toInt + 0 ≤ 0) → sx_M zK hd_T σ 20012436564864802537649596397909283708706419137892236262507791959663655264658179800515183229874022110462997635850072752128 0 σ' → am_K g 30 tX12_sentence.1 0 0 43 lw' [.ref 118] σ' post) : am_K g 30 tX12_sentence.1 0 0 0 lw [] σ post := by
  refine sg_seg (sw := []) (vs := [(σ.2.1 118 2).toInt]) (ws := []) G (mi := 167) rfl hct sg_ks1_ok ⟨rfl, trivial⟩ (hd_refs hl) trivial (hd_p1 rfl (hd_kd_118_2 hM).1 (hd_kd_118_2 hM).2 hd_p0) hM ?_ ?_
  · intro r σ' hq
    cases r with
    | none => exact hq.elim
    | some v =>
      obtain ⟨p, hp, hM2, ks, hk, hv⟩ := hq
      cases hp
  · intro u hu
    simp only [List.mem_cons, List.not_mem_nil, or_false] at hu
    rcases hu with rfl
    · intro lw' sw' vs' ws' σ' ⟨h1_0, h2, h3_0, h4, h5⟩
      obtain ⟨vs1, rfl, h1_1⟩ := hd_srcs h1_0
      obtain ⟨vs2, rfl, h1_2⟩ := hd_srcs h1_1
      obtain ⟨vs3, rfl, h1_3⟩ := hd_srcs h1_2
      obtain ⟨vs4, rfl, h1_4⟩ := hd_srcs h1_3
      obtain ⟨vs5, rfl, h1_5⟩ := hd_srcs h1_4
      obtain ⟨vs6, rfl, h1_6⟩ := hd_srcs h1_5
      obtain ⟨vs7, rfl, h1_7⟩ := hd_srcs h1_6
      obtain ⟨vs8, rfl, h1_8⟩ := hd_srcs h1_7
      obtain ⟨vs9, rfl, h1_9⟩ := hd_srcs h1_8
      obtain ⟨vs10, rfl, h1_10⟩ := hd_srcs h1_9
      obtain rfl := hd_src0 h1_10
      obtain ⟨sw1, rfl, h3_1⟩ := hd_str h3_0
      obtain ⟨rfl, rfl⟩ := hd_st0 h3_1
      have hr9 := hd_ref0 h2
      obtain ⟨v0, e0, l0, u0⟩ := h4 _ (List.mem_cons_self)
      have g0 : 1 * (σ'.2.1 118 2).toInt + 0 = v0 := Option.some.inj e0
      obtain ⟨v1, e1, l1, u1⟩ := h4 _ (List.mem_cons_of_mem _ (List.mem_cons_self))
      have g1 : 1 * (σ.2.1 118 2).toInt + ((-1) * (σ'.2.1 118 3).toInt + 0) = v1 := Option.some.inj e1
      obtain ⟨v2, e2, l2, u2⟩ := h4 _ (List.mem_cons_of_mem _ (List.mem_cons_of_mem _ (List.mem_cons_self)))
      have g2 : 1 * (σ'.2.1 118 4).toInt + 0 = v2 := Option.some.inj e2
      obtain ⟨v3, e3, l3, u3⟩ := h4 _ (List.mem_cons_of_mem _ (List.mem_cons_of_mem _ (List.mem_cons_of_mem _ (List.mem_cons_self))))
      have g3 : 1 * (σ'.2.1 118 5).toInt + 0 = v3 := Option.some.inj e3
      obtain ⟨v4, e4, l4, u4⟩ := h4 _ (List.mem_cons_of_mem _ (List.mem_cons_of_mem _ (List.mem_cons_of_mem _ (List.mem_cons_of_mem _ (List.mem_cons_self)))))
      have g4 : 1 * (σ'.2.1 118 13).toInt + 0 = v4 := Option.some.inj e4
      obtain ⟨v5, e5, l5, u5⟩ := h4 _ (List.mem_cons_of_mem _ (List.mem_cons_of_mem _ (List.mem_cons_of_mem _ (List.mem_cons_of_mem _ (List.mem_cons_of_mem _ (List.mem_cons_self))))))
      have g5 : 1 * (σ'.2.1 118 39).toInt + 0 = v5 := Option.some.inj e5
      obtain ⟨v6, e6, l6, u6⟩ := h4 _ (List.mem_cons_of_mem _ (List.mem_cons_of_mem _ (List.mem_cons_of_mem _ (List.mem_cons_of_mem _ (List.mem_cons_of_mem _ (List.mem_cons_of_mem _ (List.mem_cons_self)))))))
      have g6 : 1 * (σ'.2.1 118 40).toInt + 0 = v6 := Option.some.inj e6
      obtain ⟨v7, e7, l7, u7⟩ := h4 _ (List.mem_cons_of_mem _ (List.mem_cons_of_mem _ (List.mem_cons_of_mem _ (List.mem_cons_of_mem _ (List.mem_cons_of_mem _ (List.mem_cons_of_mem _ (List.mem_cons_of_mem _ (List.mem_cons_self))))))))
      have g7 : 1 * (σ'.2.1 118 41).toInt + 0 = v7 := Option.some.inj e7
      obtain ⟨v8, e8, l8, u8⟩ := h4 _ (List.mem_cons_of_mem _ (List.mem_cons_of_mem _ (List.mem_cons_of_mem _ (List.mem_cons_of_mem _ (List.mem_cons_of_mem _ (List.mem_cons_of_mem _ (List.mem_cons_of_mem _ (List.mem_cons_of_mem _ (List.mem_cons_self)))))))))
      have g8 : 1 * (σ'.2.1 118 42).toInt + 0 = v8 := Option.some.inj e8
      obtain ⟨v9, e9, l9, u9⟩ := h4 _ (List.mem_cons_of_mem _ (List.mem_cons_of_mem _ (List.mem_cons_of_mem _ (List.mem_cons_of_mem _ (List.mem_cons_of_mem _ (List.mem_cons_of_mem _ (List.mem_cons_of_mem _ (List.mem_cons_of_mem _ (List.mem_cons_of_mem _ (List.mem_cons_self))))))))))
      have g9 : 1 * (σ'.2.1 118 43).toInt + 0 = v9 := Option.some.inj e9
      exact cuta _  _ hr9  ⟨by rw [g0]; exact l0, by rw [g0]; exact u0⟩ ⟨by rw [g1]; exact l1, by rw [g1]; exact u1⟩ ⟨by rw [g2]; exact l2, by rw [g2]; exact u2⟩ ⟨by rw [g3]; exact l3, by rw [g3]; exact u3⟩ ⟨by rw [g4]; exact l4, by rw [g4]; exact u4⟩ ⟨by rw [g5]; exact l5, by rw [g5]; exact u5⟩ ⟨by rw [g6]; exact l6, by rw [g6]; exact u6⟩ ⟨by rw [g7]; exact l7, by rw [g7]; exact u7⟩ ⟨by rw [g8]; exact l8, by rw [g8]; exact u8⟩ ⟨by rw [g9]; exact l9, by rw [g9]; exact u9⟩ h5
theorem sg_ks2_run (G : sx_G0 g L xs zK hd_T ex_mt) (hct : ∀ (mi : Nat) (T2 : ex_T) (c' : sx_Ct), ex_mt mi = some T2 → c' ∈ k9 mi → c'.1 < 0 → sx_Holds g zK hd_T T2 c') {σ : am_S} {lw : List (Nat × Value)} {post : Option (Option Value) → am_S → Prop} (hM : sx_M zK hd_T σ 0 0 σ) (hl : (0, Value.ref 118) ∈ lw)  (cuta : ∀ (lw' : List (Nat × Value)) (m1' : Int32) (σ' : am_S), (0, Value.ref 118) ∈ lw' → (1, Value.int m1') ∈ lw' → (1 ≤ 1 * m1'.toInt + 0 ∧ 1 * m1'.toInt + 0 ≤ 1) → sx_M zK hd_T σ 0 0 σ' → am_K g 30 tX12_sentence.1 0 0 48 lw' [] σ' post) : am_K g 30 tX12_sentence.1 0 0 46 lw [] σ post := by
  refine sg_seg (sw := []) (vs := []) (ws := []) G (mi := 167) rfl hct sg_ks2_ok trivial (hd_refs hl) trivial hd_p0 hM ?_ ?_
  · intro r σ' hq
    cases r with
    | none => exact hq.elim
    | some v =>
      obtain ⟨p, hp, hM2, ks, hk, hv⟩ := hq
      cases hp
  · intro u hu
    simp only [List.mem_cons, List.not_mem_nil, or_false] at hu
    rcases hu with rfl
    · intro lw' sw' vs' ws' σ' ⟨h1_0, h2, h3_0, h4, h5⟩
      obtain ⟨m1', vs1, rfl, hm1, h1_1⟩ := hd_srcl h1_0
      obtain rfl := hd_src0 h1_1
      obtain ⟨rfl, rfl⟩ := hd_st0 h3_0
      have hr9 := hd_ref0 h2
      obtain ⟨v0, e0, l0, u0⟩ := h4 _ (List.mem_cons_self)
      have g0 : 1 * m1'.toInt + 0 = v0 := Option.some.inj e0
      exact cuta _ _ _ hr9 hm1 ⟨by rw [g0]; exact l0, by rw [g0]; exact u0⟩ h5
theorem sg_ks3a_run (G : sx_G0 g L xs zK hd_T ex_mt) (hct : ∀ (mi : Nat) (T2 : ex_T) (c' : sx_Ct), ex_mt mi = some T2 → c' ∈ k9 mi → c'.1 < 0 → sx_Holds g zK hd_T T2 c') {σ : am_S} {lw : List (Nat × Value)} {post : Option (Option Value) → am_S → Prop} (hM : sx_M zK hd_T σ 0 0 σ) (hl : (0, Value.ref 118) ∈ lw) {m1 : Int32} (hl1 : (1, Value.int m1) ∈ lw) (bl1 : 1 ≤ m1.toInt ∧ m1.toInt ≤ 1) (bp118_43 : 1 ≤ (σ.2.1 118 43).toInt ∧ (σ.2.1 118 43).toInt ≤ 1) (bp118_9 : 0 ≤ (σ.2.1 118 9).toInt ∧ (σ.2.1 118 9).toInt ≤ 0) (cuta : ∀ (lw' : List (Nat × Value)) (m1' : Int32) (σ' : am_S), (0, Value.ref 118) ∈ lw' → (1, Value.int m1') ∈ lw' → (1 ≤ 1 * m1'.toInt + 0 ∧ 1 * m1'.toInt + 0 ≤ 1) → sx_M zK hd_T σ 0 0 σ' → am_K g 30 tX12_sentence.1 0 0 67 lw' [.ref 118] σ' post) : am_K g 30 tX12_sentence.1 0 0 48 lw [] σ post := by
  refine sg_seg (sw := []) (vs := [m1.toInt, (σ.2.1 118 43).toInt, (σ.2.1 118 9).toInt]) (ws := []) G (mi := 167) rfl hct sg_ks3a_ok ⟨⟨m1, hl1, rfl⟩, ⟨rfl, ⟨rfl, trivial⟩⟩⟩ (hd_refs hl) trivial (hd_p1 rfl bl1.1 bl1.2 (hd_p1 rfl bp118_43.1 bp118_43.2 (hd_p1 rfl bp118_9.1 bp118_9.2 hd_p0))) hM ?_ ?_
  · intro r σ' hq
    cases r with
    | none => exact hq.elim
    | some v =>
      obtain ⟨p, hp, hM2, ks, hk, hv⟩ := hq
      cases hp
  · intro u hu
    simp only [List.mem_cons, List.not_mem_nil, or_false] at hu
    rcases hu with rfl
    · intro lw' sw' vs' ws' σ' ⟨h1_0, h2, h3_0, h4, h5⟩
      obtain ⟨m1', vs1, rfl, hm1, h1_1⟩ := hd_srcl h1_0
      obtain rfl := hd_src0 h1_1
      obtain ⟨sw1, rfl, h3_1⟩ := hd_str h3_0
      obtain ⟨rfl, rfl⟩ := hd_st0 h3_1
      have hr9 := hd_ref0 h2
      obtain ⟨v0, e0, l0, u0⟩ := h4 _ (List.mem_cons_self)
      have g0 : 1 * m1'.toInt + 0 = v0 := Option.some.inj e0
      exact cuta _ _ _ hr9 hm1 ⟨by rw [g0]; exact l0, by rw [g0]; exact u0⟩ h5
theorem sg_ks3b_run (G : sx_G0 g L xs zK hd_T ex_mt) (hct : ∀ (mi : Nat) (T2 : ex_T) (c' : sx_Ct), ex_mt mi = some T2 → c' ∈ k9 mi → c'.1 < 0 → sx_Holds g zK hd_T T2 c') {σ : am_S} {lw : List (Nat × Value)} {post : Option (Option Value) → am_S → Prop} (hM : sx_M zK hd_T σ 0 0 σ) (hl : (0, Value.ref 118) ∈ lw) {m1 : Int32} (hl1 : (1, Value.int m1) ∈ lw) (bl1 : 1 ≤ m1.toInt ∧ m1.toInt ≤ 1) (bp118_43 : 1 ≤ (σ.2.1 118 43).toInt ∧ (σ.2.1 118 43).toInt ≤ 1) (bp118_9 : 1 ≤ (σ.2.1 118 9).toInt ∧ (σ.2.1 118 9).toInt ≤ 4) (cuta : ∀ (lw' : List (Nat × Value)) (m1' : Int32) (σ' : am_S), (0, Value.ref 118) ∈ lw' → (1, Value.int m1') ∈ lw' → (1 ≤ 1 * m1'.toInt + 0 ∧ 1 * m1'.toInt + 0 ≤ 1) → sx_M zK hd_T σ 0 0 σ' → am_K g 30 tX12_sentence.1 0 0 109 lw' [.ref 118] σ' post) : am_K g 30 tX12_sentence.1 0 0 48 lw [] σ post := by
  refine sg_seg (sw := []) (vs := [m1.toInt, (σ.2.1 118 43).toInt, (σ.2.1 118 9).toInt]) (ws := []) G (mi := 167) rfl hct sg_ks3b_ok ⟨⟨m1, hl1, rfl⟩, ⟨rfl, ⟨rfl, trivial⟩⟩⟩ (hd_refs hl) trivial (hd_p1 rfl bl1.1 bl1.2 (hd_p1 rfl bp118_43.1 bp118_43.2 (hd_p1 rfl bp118_9.1 bp118_9.2 hd_p0))) hM ?_ ?_
  · intro r σ' hq
    cases r with
    | none => exact hq.elim
    | some v =>
      obtain ⟨p, hp, hM2, ks, hk, hv⟩ := hq
      cases hp
  · intro u hu
    simp only [List.mem_cons, List.not_mem_nil, or_false] at hu
    rcases hu with rfl
    · intro lw' sw' vs' ws' σ' ⟨h1_0, h2, h3_0, h4, h5⟩
      obtain ⟨m1', vs1, rfl, hm1, h1_1⟩ := hd_srcl h1_0
      obtain rfl := hd_src0 h1_1
      obtain ⟨sw1, rfl, h3_1⟩ := hd_str h3_0
      obtain ⟨rfl, rfl⟩ := hd_st0 h3_1
      have hr9 := hd_ref0 h2
      obtain ⟨v0, e0, l0, u0⟩ := h4 _ (List.mem_cons_self)
      have g0 : 1 * m1'.toInt + 0 = v0 := Option.some.inj e0
      exact cuta _ _ _ hr9 hm1 ⟨by rw [g0]; exact l0, by rw [g0]; exact u0⟩ h5
theorem sg_ks3c_run (G : sx_G0 g L xs zK hd_T ex_mt) (hct : ∀ (mi : Nat) (T2 : ex_T) (c' : sx_Ct), ex_mt mi = some T2 → c' ∈ k9 mi → c'.1 < 0 → sx_Holds g zK hd_T T2 c') {σ : am_S} {lw : List (Nat × Value)} {post : Option (Option Value) → am_S → Prop} (hM : sx_M zK hd_T σ 0 0 σ) (hl : (0, Value.ref 118) ∈ lw) {m1 : Int32} (hl1 : (1, Value.int m1) ∈ lw) (bl1 : 1 ≤ m1.toInt ∧ m1.toInt ≤ 1) (bp118_43 : 0 ≤ (σ.2.1 118 43).toInt ∧ (σ.2.1 118 43).toInt ≤ 0) (cuta : ∀ (lw' : List (Nat × Value)) (m1' : Int32) (σ' : am_S), (0, Value.ref 118) ∈ lw' → (1, Value.int m1') ∈ lw' → (1 ≤ 1 * m1'.toInt + 0 ∧ 1 * m1'.toInt + 0 ≤ 1) → sx_M zK hd_T σ 0 0 σ' → am_K g 30 tX12_sentence.1 0 0 119 lw' [.ref 118] σ' post) : am_K g 30 tX12_sentence.1 0 0 48 lw [] σ post := by
  refine sg_seg (sw := []) (vs := [m1.toInt, (σ.2.1 118 43).toInt]) (ws := []) G (mi := 167) rfl hct sg_ks3c_ok ⟨⟨m1, hl1, rfl⟩, ⟨rfl, trivial⟩⟩ (hd_refs hl) trivial (hd_p1 rfl bl1.1 bl1.2 (hd_p1 rfl bp118_43.1 bp118_43.2 hd_p0)) hM ?_ ?_
  · intro r σ' hq
    cases r with
    | none => exact hq.elim
    | some v =>
      obtain ⟨p, hp, hM2, ks, hk, hv⟩ := hq
      cases hp
  · intro u hu
    simp only [List.mem_cons, List.not_mem_nil, or_false] at hu
    rcases hu with rfl
    · intro lw' sw' vs' ws' σ' ⟨h1_0, h2, h3_0, h4, h5⟩
      obtain ⟨m1', vs1, rfl, hm1, h1_1⟩ := hd_srcl h1_0
      obtain rfl := hd_src0 h1_1
      obtain ⟨sw1, rfl, h3_1⟩ := hd_str h3_0
      obtain ⟨rfl, rfl⟩ := hd_st0 h3_1
      have hr9 := hd_ref0 h2
      obtain ⟨v0, e0, l0, u0⟩ := h4 _ (List.mem_cons_self)
      have g0 : 1 * m1'.toInt + 0 = v0 := Option.some.inj e0
      exact cuta _ _ _ hr9 hm1 ⟨by rw [g0]; exact l0, by rw [g0]; exact u0⟩ h5
theorem sg_ks4_run (G : sx_G0 g L xs zK hd_T ex_mt) (hct : ∀ (mi : Nat) (T2 : ex_T) (c' : sx_Ct), ex_mt mi = some T2 → c' ∈ k9 mi → c'.1 < 0 → sx_Holds g zK hd_T T2 c') {σ : am_S} {lw : List (Nat × Value)} {post : Option (Option Value) → am_S → Prop} (hM : sx_M zK hd_T σ 0 0 σ) (hl : (0, Value.ref 118) ∈ lw) {m1 : Int32} (hl1 : (1, Value.int m1) ∈ lw) (cuta : ∀ (lw' : List (Nat × Value)) (n0' : Int32) (σ' : am_S), (0, Value.ref 118) ∈ lw' → (22 ≤ 1 * n0'.toInt + 0 ∧ 1 * n0'.toInt + 0 ≤ 22) → sx_M zK hd_T σ 0 0 σ' → am_K g 30 tX12_sentence.1 0 0 73 lw' [.int n0', .ref 118] σ' post) : am_K g 30 tX12_sentence.1 0 0 70 lw [] σ post := by
  refine sg_seg (sw := []) (vs := [m1.toInt]) (ws := []) G (mi := 167) rfl hct sg_ks4_ok ⟨⟨m1, hl1, rfl⟩, trivial⟩ (hd_refs hl) trivial (hd_p1 rfl (Int32.le_toInt _) (Int32.toInt_le _) hd_p0) hM ?_ ?_
  · intro r σ' hq
    cases r with
    | none => exact hq.elim
    | some v =>
      obtain ⟨p, hp, hM2, ks, hk, hv⟩ := hq
      cases hp
  · intro u hu
    simp only [List.mem_cons, List.not_mem_nil, or_false] at hu
    rcases hu with rfl
    · intro lw' sw' vs' ws' σ' ⟨h1_0, h2, h3_0, h4, h5⟩
      obtain rfl := hd_src0 h1_0
      obtain ⟨n0', sw1, ws1, rfl, rfl, h3_1⟩ := hd_sti h3_0
      obtain ⟨sw2, rfl, h3_2⟩ := hd_str h3_1
      obtain ⟨rfl, rfl⟩ := hd_st0 h3_2
      have hr9 := hd_ref0 h2
      obtain ⟨v0, e0, l0, u0⟩ := h4 _ (List.mem_cons_self)
      have g0 : 1 * n0'.toInt + 0 = v0 := Option.some.inj e0
      exact cuta _ _ _ hr9  ⟨by rw [g0]; exact l0, by rw [g0]; exact u0⟩ h5
theorem sg_ks5a_run (G : sx_G0 g L xs zK hd_T ex_mt) (hct : ∀ (mi : Nat) (T2 : ex_T) (c' : sx_Ct), ex_mt mi = some T2 → c' ∈ k9 mi → c'.1 < 0 → sx_Holds g zK hd_T T2 c') {σ : am_S} {lw : List (Nat × Value)} {post : Option (Option Value) → am_S → Prop} (hM : sx_M zK hd_T σ 0 0 σ) (hl : (0, Value.ref 118) ∈ lw) (bp118_41 : 1 ≤ (σ.2.1 118 41).toInt ∧ (σ.2.1 118 41).toInt ≤ 40) (bp118_10 : 0 ≤ (σ.2.1 118 10).toInt ∧ (σ.2.1 118 10).toInt ≤ 940) (ret0 : ∀ (r : Int32) (σ' : am_S), ((-1) ≤ 1 * (σ.2.1 118 10).toInt + (1 * r.toInt + 0) ∧ 1 * (σ.2.1 118 10).toInt + (1 * r.toInt + 0) ≤ (-1)) → (1 ≤ 1 * (σ'.2.1 118 13).toInt + 0 ∧ 1 * (σ'.2.1 118 13).toInt + 0 ≤ 1) → sx_M zK hd_T σ 28858891257124862704305937573347373392392387160985434571251191458187784500608308553281933292152037822856416985088 0 σ' → post (some (some (.int r))) σ') : am_K g 30 tX12_sentence.1 0 0 76 lw [] σ post := by
  refine sg_seg (sw := []) (vs := [(σ.2.1 118 41).toInt, (σ.2.1 118 10).toInt]) (ws := []) G (mi := 167) rfl hct sg_ks5a_ok ⟨rfl, ⟨rfl, trivial⟩⟩ (hd_refs hl) trivial (hd_p1 rfl bp118_41.1 bp118_41.2 (hd_p1 rfl bp118_10.1 bp118_10.2 hd_p0)) hM ?_ ?_
  · intro r σ' hq
    cases r with
    | none => exact hq.elim
    | some v =>
      obtain ⟨p, hp, hM2, ks, hk, hv⟩ := hq
      simp only [List.mem_cons, List.not_mem_nil, or_false] at hp
      rcases hp with rfl
      · obtain ⟨ks0, rfl, hk1⟩ := hd_keyc hk; obtain rfl := hd_keys hk1
        cases v with
        | none => exact hv.elim
        | some w9 =>
          obtain ⟨r, rfl, hP⟩ := hv
          obtain ⟨v0, e0, l0, u0⟩ := hP _ (List.mem_cons_self)
          have g0 : 1 * (σ.2.1 118 10).toInt + (1 * r.toInt + 0) = v0 := Option.some.inj e0
          obtain ⟨v1, e1, l1, u1⟩ := hP _ (List.mem_cons_of_mem _ (List.mem_cons_self))
          have g1 : 1 * (σ'.2.1 118 13).toInt + 0 = v1 := Option.some.inj e1
          exact ret0 r _ ⟨by rw [g0]; exact l0, by rw [g0]; exact u0⟩ ⟨by rw [g1]; exact l1, by rw [g1]; exact u1⟩ hM2
  · intro u hu
    cases hu
theorem sg_ks5b_run (G : sx_G0 g L xs zK hd_T ex_mt) (hct : ∀ (mi : Nat) (T2 : ex_T) (c' : sx_Ct), ex_mt mi = some T2 → c' ∈ k9 mi → c'.1 < 0 → sx_Holds g zK hd_T T2 c') {σ : am_S} {lw : List (Nat × Value)} {post : Option (Option Value) → am_S → Prop} (hM : sx_M zK hd_T σ 0 0 σ) (hl : (0, Value.ref 118) ∈ lw) (bp118_41 : 0 ≤ (σ.2.1 118 41).toInt ∧ (σ.2.1 118 41).toInt ≤ 0) (cuta : ∀ (lw' : List (Nat × Value)) (n0' : Int32) (n1' : Int32) (σ' : am_S), (0, Value.ref 118) ∈ lw' → (0 ≤ 1 * (σ.2.1 118 39).toInt + ((-1) * n0'.toInt + 0) ∧ 1 * (σ.2.1 118 39).toInt + ((-1) * n0'.toInt + 0) ≤ 0) → (96 ≤ 1 * n1'.toInt + 0 ∧ 1 * n1'.toInt + 0 ≤ 96) → sx_M zK hd_T σ 0 0 σ' → am_K g 30 tX12_sentence.1 0 0 142 lw' [.int n0', .int n1', .ref 120] σ' post) : am_K g 30 tX12_sentence.1 0 0 76 lw [] σ post := by
  refine sg_seg (sw := []) (vs := [(σ.2.1 118 41).toInt, (σ.2.1 118 39).toInt]) (ws := []) G (mi := 167) rfl hct sg_ks5b_ok ⟨rfl, ⟨rfl, trivial⟩⟩ (hd_refs hl) trivial (hd_p1 rfl bp118_41.1 bp118_41.2 (hd_p1 rfl (hd_kd_118_39 hM).1 (hd_kd_118_39 hM).2 hd_p0)) hM ?_ ?_
  · intro r σ' hq
    cases r with
    | none => exact hq.elim
    | some v =>
      obtain ⟨p, hp, hM2, ks, hk, hv⟩ := hq
      cases hp
  · intro u hu
    simp only [List.mem_cons, List.not_mem_nil, or_false] at hu
    rcases hu with rfl
    · intro lw' sw' vs' ws' σ' ⟨h1_0, h2, h3_0, h4, h5⟩
      obtain rfl := hd_src0 h1_0
      obtain ⟨n0', sw1, ws1, rfl, rfl, h3_1⟩ := hd_sti h3_0
      obtain ⟨n1', sw2, ws2, rfl, rfl, h3_2⟩ := hd_sti h3_1
      obtain ⟨sw3, rfl, h3_3⟩ := hd_str h3_2
      obtain ⟨rfl, rfl⟩ := hd_st0 h3_3
      have hr9 := hd_ref0 h2
      obtain ⟨v0, e0, l0, u0⟩ := h4 _ (List.mem_cons_self)
      have g0 : 1 * (σ.2.1 118 39).toInt + ((-1) * n0'.toInt + 0) = v0 := Option.some.inj e0
      obtain ⟨v1, e1, l1, u1⟩ := h4 _ (List.mem_cons_of_mem _ (List.mem_cons_self))
      have g1 : 1 * n1'.toInt + 0 = v1 := Option.some.inj e1
      exact cuta _ _ _ _ hr9  ⟨by rw [g0]; exact l0, by rw [g0]; exact u0⟩ ⟨by rw [g1]; exact l1, by rw [g1]; exact u1⟩ h5
theorem sg_ks6a_run (G : sx_G0 g L xs zK hd_T ex_mt) (hct : ∀ (mi : Nat) (T2 : ex_T) (c' : sx_Ct), ex_mt mi = some T2 → c' ∈ k9 mi → c'.1 < 0 → sx_Holds g zK hd_T T2 c') {σ : am_S} {lw : List (Nat × Value)} {post : Option (Option Value) → am_S → Prop} (hM : sx_M zK hd_T σ 0 0 σ) (hl : (0, Value.ref 118) ∈ lw) {m1 : Int32} (hl1 : (1, Value.int m1) ∈ lw) (bl1 : 1 ≤ m1.toInt ∧ m1.toInt ≤ 1) (bp118_14 : 0 ≤ (σ.2.1 118 14).toInt ∧ (σ.2.1 118 14).toInt ≤ 940) {n0 : Int32} (bk0 : 0 ≤ n0.toInt ∧ n0.toInt ≤ 0) (ret0 : ∀ (r : Int32) (σ' : am_S), ((-1) ≤ 1 * (σ.2.1 118 14).toInt + (1 * r.toInt + 0) ∧ 1 * (σ.2.1 118 14).toInt + (1 * r.toInt + 0) ≤ (-1)) → sx_M zK hd_T σ 0 0 σ' → post (some (some (.int r))) σ') : am_K g 30 tX12_sentence.1 0 0 112 lw [.int n0] σ post := by
  refine sg_seg (sw := [.int n0]) (vs := [m1.toInt, (σ.2.1 118 14).toInt]) (ws := [n0.toInt]) G (mi := 167) rfl hct sg_ks6a_ok ⟨⟨m1, hl1, rfl⟩, ⟨rfl, trivial⟩⟩ (hd_refs hl) ⟨⟨n0, rfl, rfl⟩, trivial⟩ (hd_p1 rfl bl1.1 bl1.2 (hd_p1 rfl bp118_14.1 bp118_14.2 (hd_p1 rfl bk0.1 bk0.2 hd_p0))) hM ?_ ?_
  · intro r σ' hq
    cases r with
    | none => exact hq.elim
    | some v =>
      obtain ⟨p, hp, hM2, ks, hk, hv⟩ := hq
      simp only [List.mem_cons, List.not_mem_nil, or_false] at hp
      rcases hp with rfl
      · obtain rfl := hd_keys hk
        cases v with
        | none => exact hv.elim
        | some w9 =>
          obtain ⟨r, rfl, hP⟩ := hv
          obtain ⟨v0, e0, l0, u0⟩ := hP _ (List.mem_cons_self)
          have g0 : 1 * (σ.2.1 118 14).toInt + (1 * r.toInt + 0) = v0 := Option.some.inj e0
          exact ret0 r _ ⟨by rw [g0]; exact l0, by rw [g0]; exact u0⟩ hM2
  · intro u hu
    cases hu
theorem sg_ks6b_run (G : sx_G0 g L xs zK hd_T ex_mt) (hct : ∀ (mi : Nat) (T2 : ex_T) (c' : sx_Ct), ex_mt mi = some T2 → c' ∈ k9 mi → c'.1 < 0 → sx_Holds g zK hd_T T2 c') {σ : am_S} {lw : List (Nat × Value)} {post : Option (Option Value) → am_S → Prop} (hM : sx_M zK hd_T σ 0 0 σ) (hl : (0, Value.ref 118) ∈ lw) {m1 : Int32} (hl1 : (1, Value.int m1) ∈ lw) (bl1 : 1 ≤ m1.toInt ∧ m1.toInt ≤ 1) {n0 : Int32} (bk0 : 1 ≤ n0.toInt ∧ n0.toInt ≤ 1) (cuta : ∀ (lw' : List (Nat × Value)) (m1' : Int32) (σ' : am_S), (0, Value.ref 118) ∈ lw' → (1, Value.int m1') ∈ lw' → (1 ≤ 1 * m1'.toInt + 0 ∧ 1 * m1'.toInt + 0 ≤ 1) → sx_M zK hd_T σ 0 0 σ' → am_K g 30 tX12_sentence.1 0 0 48 lw' [] σ' post) : am_K g 30 tX12_sentence.1 0 0 112 lw [.int n0] σ post := by
  refine sg_seg (sw := [.int n0]) (vs := [m1.toInt]) (ws := [n0.toInt]) G (mi := 167) rfl hct sg_ks6b_ok ⟨⟨m1, hl1, rfl⟩, trivial⟩ (hd_refs hl) ⟨⟨n0, rfl, rfl⟩, trivial⟩ (hd_p1 rfl bl1.1 bl1.2 (hd_p1 rfl bk0.1 bk0.2 hd_p0)) hM ?_ ?_
  · intro r σ' hq
    cases r with
    | none => exact hq.elim
    | some v =>
      obtain ⟨p, hp, hM2, ks, hk, hv⟩ := hq
      cases hp
  · intro u hu
    simp only [List.mem_cons, List.not_mem_nil, or_false] at hu
    rcases hu with rfl
    · intro lw' sw' vs' ws' σ' ⟨h1_0, h2, h3_0, h4, h5⟩
      obtain ⟨m1', vs1, rfl, hm1, h1_1⟩ := hd_srcl h1_0
      obtain rfl := hd_src0 h1_1
      obtain ⟨rfl, rfl⟩ := hd_st0 h3_0
      have hr9 := hd_ref0 h2
      obtain ⟨v0, e0, l0, u0⟩ := h4 _ (List.mem_cons_self)
      have g0 : 1 * m1'.toInt + 0 = v0 := Option.some.inj e0
      exact cuta _ _ _ hr9 hm1 ⟨by rw [g0]; exact l0, by rw [g0]; exact u0⟩ h5
theorem sg_ks7a_run (G : sx_G0 g L xs zK hd_T ex_mt) (hct : ∀ (mi : Nat) (T2 : ex_T) (c' : sx_Ct), ex_mt mi = some T2 → c' ∈ k9 mi → c'.1 < 0 → sx_Holds g zK hd_T T2 c') {σ : am_S} {lw : List (Nat × Value)} {post : Option (Option Value) → am_S → Prop} (hM : sx_M zK hd_T σ 0 0 σ) (hl : (0, Value.ref 118) ∈ lw) {m1 : Int32} (hl1 : (1, Value.int m1) ∈ lw) (bl1 : 1 ≤ m1.toInt ∧ m1.toInt ≤ 1) (bp118_14 : 0 ≤ (σ.2.1 118 14).toInt ∧ (σ.2.1 118 14).toInt ≤ 940) {n0 : Int32} (bk0 : 0 ≤ n0.toInt ∧ n0.toInt ≤ 0) (ret0 : ∀ (r : Int32) (σ' : am_S), ((-1) ≤ 1 * (σ.2.1 118 14).toInt + (1 * r.toInt + 0) ∧ 1 * (σ.2.1 118 14).toInt + (1 * r.toInt + 0) ≤ (-1)) → sx_M zK hd_T σ 0 0 σ' → post (some (some (.int r))) σ') : am_K g 30 tX12_sentence.1 0 0 122 lw [.int n0] σ post := by
  refine sg_seg (sw := [.int n0]) (vs := [m1.toInt, (σ.2.1 118 14).toInt]) (ws := [n0.toInt]) G (mi := 167) rfl hct sg_ks7a_ok ⟨⟨m1, hl1, rfl⟩, ⟨rfl, trivial⟩⟩ (hd_refs hl) ⟨⟨n0, rfl, rfl⟩, trivial⟩ (hd_p1 rfl bl1.1 bl1.2 (hd_p1 rfl bp118_14.1 bp118_14.2 (hd_p1 rfl bk0.1 bk0.2 hd_p0))) hM ?_ ?_
  · intro r σ' hq
    cases r with
    | none => exact hq.elim
    | some v =>
      obtain ⟨p, hp, hM2, ks, hk, hv⟩ := hq
      simp only [List.mem_cons, List.not_mem_nil, or_false] at hp
      rcases hp with rfl
      · obtain rfl := hd_keys hk
        cases v with
        | none => exact hv.elim
        | some w9 =>
          obtain ⟨r, rfl, hP⟩ := hv
          obtain ⟨v0, e0, l0, u0⟩ := hP _ (List.mem_cons_self)
          have g0 : 1 * (σ.2.1 118 14).toInt + (1 * r.toInt + 0) = v0 := Option.some.inj e0
          exact ret0 r _ ⟨by rw [g0]; exact l0, by rw [g0]; exact u0⟩ hM2
  · intro u hu
    cases hu
theorem sg_ks7b_run (G : sx_G0 g L xs zK hd_T ex_mt) (hct : ∀ (mi : Nat) (T2 : ex_T) (c' : sx_Ct), ex_mt mi = some T2 → c' ∈ k9 mi → c'.1 < 0 → sx_Holds g zK hd_T T2 c') {σ : am_S} {lw : List (Nat × Value)} {post : Option (Option Value) → am_S → Prop} (hM : sx_M zK hd_T σ 0 0 σ) (hl : (0, Value.ref 118) ∈ lw) {m1 : Int32} (hl1 : (1, Value.int m1) ∈ lw) (bl1 : 1 ≤ m1.toInt ∧ m1.toInt ≤ 1) {n0 : Int32} (bk0 : 1 ≤ n0.toInt ∧ n0.toInt ≤ 1) (cuta : ∀ (lw' : List (Nat × Value)) (m1' : Int32) (σ' : am_S), (0, Value.ref 118) ∈ lw' → (1, Value.int m1') ∈ lw' → (1 ≤ 1 * m1'.toInt + 0 ∧ 1 * m1'.toInt + 0 ≤ 1) → sx_M zK hd_T σ 0 0 σ' → am_K g 30 tX12_sentence.1 0 0 48 lw' [] σ' post) : am_K g 30 tX12_sentence.1 0 0 122 lw [.int n0] σ post := by
  refine sg_seg (sw := [.int n0]) (vs := [m1.toInt]) (ws := [n0.toInt]) G (mi := 167) rfl hct sg_ks7b_ok ⟨⟨m1, hl1, rfl⟩, trivial⟩ (hd_refs hl) ⟨⟨n0, rfl, rfl⟩, trivial⟩ (hd_p1 rfl bl1.1 bl1.2 (hd_p1 rfl bk0.1 bk0.2 hd_p0)) hM ?_ ?_
  · intro r σ' hq
    cases r with
    | none => exact hq.elim
    | some v =>
      obtain ⟨p, hp, hM2, ks, hk, hv⟩ := hq
      cases hp
  · intro u hu
    simp only [List.mem_cons, List.not_mem_nil, or_false] at hu
    rcases hu with rfl
    · intro lw' sw' vs' ws' σ' ⟨h1_0, h2, h3_0, h4, h5⟩
      obtain ⟨m1', vs1, rfl, hm1, h1_1⟩ := hd_srcl h1_0
      obtain rfl := hd_src0 h1_1
      obtain ⟨rfl, rfl⟩ := hd_st0 h3_0
      have hr9 := hd_ref0 h2
      obtain ⟨v0, e0, l0, u0⟩ := h4 _ (List.mem_cons_self)
      have g0 : 1 * m1'.toInt + 0 = v0 := Option.some.inj e0
      exact cuta _ _ _ hr9 hm1 ⟨by rw [g0]; exact l0, by rw [g0]; exact u0⟩ h5
theorem sg_ks8_run (G : sx_G0 g L xs zK hd_T ex_mt) (hct : ∀ (mi : Nat) (T2 : ex_T) (c' : sx_Ct), ex_mt mi = some T2 → c' ∈ k9 mi → c'.1 < 0 → sx_Holds g zK hd_T T2 c') {σ : am_S} {lw : List (Nat × Value)} {post : Option (Option Value) → am_S → Prop} (hM : sx_M zK hd_T σ 0 0 σ) (hl : (0, Value.ref 118) ∈ lw)  (cuta : ∀ (lw' : List (Nat × Value)) (m2' : Int32) (σ' : am_S), (0, Value.ref 118) ∈ lw' → (2, Value.int m2') ∈ lw' → (0 ≤ 1 * m2'.toInt + 0 ∧ 1 * m2'.toInt + 0 ≤ 0) → sx_M zK hd_T σ 0 0 σ' → am_K g 30 tX12_sentence.1 0 0 145 lw' [] σ' post) : am_K g 30 tX12_sentence.1 0 0 143 lw [] σ post := by
  refine sg_seg (sw := []) (vs := []) (ws := []) G (mi := 167) rfl hct sg_ks8_ok trivial (hd_refs hl) trivial hd_p0 hM ?_ ?_
  · intro r σ' hq
    cases r with
    | none => exact hq.elim
    | some v =>
      obtain ⟨p, hp, hM2, ks, hk, hv⟩ := hq
      cases hp
  · intro u hu
    simp only [List.mem_cons, List.not_mem_nil, or_false] at hu
    rcases hu with rfl
    · intro lw' sw' vs' ws' σ' ⟨h1_0, h2, h3_0, h4, h5⟩
      obtain ⟨m2', vs1, rfl, hm2, h1_1⟩ := hd_srcl h1_0
      obtain rfl := hd_src0 h1_1
      obtain ⟨rfl, rfl⟩ := hd_st0 h3_0
      have hr9 := hd_ref0 h2
      obtain ⟨v0, e0, l0, u0⟩ := h4 _ (List.mem_cons_self)
      have g0 : 1 * m2'.toInt + 0 = v0 := Option.some.inj e0
      exact cuta _ _ _ hr9 hm2 ⟨by rw [g0]; exact l0, by rw [g0]; exact u0⟩ h5
theorem sg_ks9_run (G : sx_G0 g L xs zK hd_T ex_mt) (hct : ∀ (mi : Nat) (T2 : ex_T) (c' : sx_Ct), ex_mt mi = some T2 → c' ∈ k9 mi → c'.1 < 0 → sx_Holds g zK hd_T T2 c') {σ : am_S} {lw : List (Nat × Value)} {post : Option (Option Value) → am_S → Prop} (hM : sx_M zK hd_T σ 0 0 σ) (hl : (0, Value.ref 118) ∈ lw) {m2 : Int32} (hl2 : (2, Value.int m2) ∈ lw) (bl2 : 0 ≤ m2.toInt ∧ m2.toInt ≤ 120) (bf0 : (-4611686018427387904) ≤ 1 * m2.toInt + ((-3) * (σ.2.1 118 39).toInt + 0) ∧ 1 * m2.toInt + ((-3) * (σ.2.1 118 39).toInt + 0) ≤ (-1)) (cuta : ∀ (lw' : List (Nat × Value)) (m2' : Int32) (n0' : Int32) (n1' : Int32) (σ' : am_S), (0, Value.ref 118) ∈ lw' → (2, Value.int m2') ∈ lw' → (0 ≤ 1 * m2.toInt + ((-1) * n0'.toInt + 0) ∧ 1 * m2.toInt + ((-1) * n0'.toInt + 0) ≤ 0) → ((-97) ≤ 1 * m2.toInt + ((-1) * n1'.toInt + 0) ∧ 1 * m2.toInt + ((-1) * n1'.toInt + 0) ≤ (-97)) → (0 ≤ 1 * m2.toInt + ((-1) * m2'.toInt + 0) ∧ 1 * m2.toInt + ((-1) * m2'.toInt + 0) ≤ 0) → sx_M zK hd_T σ 0 0 σ' → am_K g 30 tX12_sentence.1 0 0 168 lw' [.int n0', .ref 122, .int n1', .ref 120] σ' post) : am_K g 30 tX12_sentence.1 0 0 145 lw [] σ post := by
  refine sg_seg (sw := []) (vs := [m2.toInt, (σ.2.1 118 39).toInt]) (ws := []) G (mi := 167) rfl hct sg_ks9_ok ⟨⟨m2, hl2, rfl⟩, ⟨rfl, trivial⟩⟩ (hd_refs hl) trivial (hd_p1 rfl bl2.1 bl2.2 (hd_p1 rfl (hd_kd_118_39 hM).1 (hd_kd_118_39 hM).2 (hd_pf rfl bf0.1 bf0.2 hd_p0))) hM ?_ ?_
  · intro r σ' hq
    cases r with
    | none => exact hq.elim
    | some v =>
      obtain ⟨p, hp, hM2, ks, hk, hv⟩ := hq
      cases hp
  · intro u hu
    simp only [List.mem_cons, List.not_mem_nil, or_false] at hu
    rcases hu with rfl
    · intro lw' sw' vs' ws' σ' ⟨h1_0, h2, h3_0, h4, h5⟩
      obtain ⟨m2', vs1, rfl, hm2, h1_1⟩ := hd_srcl h1_0
      obtain rfl := hd_src0 h1_1
      obtain ⟨n0', sw1, ws1, rfl, rfl, h3_1⟩ := hd_sti h3_0
      obtain ⟨sw2, rfl, h3_2⟩ := hd_str h3_1
      obtain ⟨n1', sw3, ws3, rfl, rfl, h3_3⟩ := hd_sti h3_2
      obtain ⟨sw4, rfl, h3_4⟩ := hd_str h3_3
      obtain ⟨rfl, rfl⟩ := hd_st0 h3_4
      have hr9 := hd_ref0 h2
      obtain ⟨v0, e0, l0, u0⟩ := h4 _ (List.mem_cons_self)
      have g0 : 1 * m2.toInt + ((-1) * n0'.toInt + 0) = v0 := Option.some.inj e0
      obtain ⟨v1, e1, l1, u1⟩ := h4 _ (List.mem_cons_of_mem _ (List.mem_cons_self))
      have g1 : 1 * m2.toInt + ((-1) * n1'.toInt + 0) = v1 := Option.some.inj e1
      obtain ⟨v2, e2, l2, u2⟩ := h4 _ (List.mem_cons_of_mem _ (List.mem_cons_of_mem _ (List.mem_cons_self)))
      have g2 : 1 * m2.toInt + ((-1) * m2'.toInt + 0) = v2 := Option.some.inj e2
      exact cuta _ _ _ _ _ hr9 hm2 ⟨by rw [g0]; exact l0, by rw [g0]; exact u0⟩ ⟨by rw [g1]; exact l1, by rw [g1]; exact u1⟩ ⟨by rw [g2]; exact l2, by rw [g2]; exact u2⟩ h5
theorem sg_ks9z_run (G : sx_G0 g L xs zK hd_T ex_mt) (hct : ∀ (mi : Nat) (T2 : ex_T) (c' : sx_Ct), ex_mt mi = some T2 → c' ∈ k9 mi → c'.1 < 0 → sx_Holds g zK hd_T T2 c') {σ : am_S} {lw : List (Nat × Value)} {post : Option (Option Value) → am_S → Prop} (hM : sx_M zK hd_T σ 0 0 σ) (hl : (0, Value.ref 118) ∈ lw) {m2 : Int32} (hl2 : (2, Value.int m2) ∈ lw) (bl2 : 0 ≤ m2.toInt ∧ m2.toInt ≤ 120) (bf0 : 0 ≤ 1 * m2.toInt + ((-3) * (σ.2.1 118 39).toInt + 0) ∧ 1 * m2.toInt + ((-3) * (σ.2.1 118 39).toInt + 0) ≤ 4611686018427387904) (ret0 : ∀ (r : Int32) (σ' : am_S), (0 ≤ 1 * (σ.2.1 118 40).toInt + ((-1) * r.toInt + 0) ∧ 1 * (σ.2.1 118 40).toInt + ((-1) * r.toInt + 0) ≤ 0) → sx_M zK hd_T σ 0 0 σ' → post (some (some (.int r))) σ') : am_K g 30 tX12_sentence.1 0 0 145 lw [] σ post := by
  refine sg_seg (sw := []) (vs := [m2.toInt, (σ.2.1 118 39).toInt, (σ.2.1 118 40).toInt]) (ws := []) G (mi := 167) rfl hct sg_ks9z_ok ⟨⟨m2, hl2, rfl⟩, ⟨rfl, ⟨rfl, trivial⟩⟩⟩ (hd_refs hl) trivial (hd_p1 rfl bl2.1 bl2.2 (hd_p1 rfl (hd_kd_118_39 hM).1 (hd_kd_118_39 hM).2 (hd_p1 rfl (hd_kd_118_40 hM).1 (hd_kd_118_40 hM).2 (hd_pf rfl bf0.1 bf0.2 hd_p0)))) hM ?_ ?_
  · intro r σ' hq
    cases r with
    | none => exact hq.elim
    | some v =>
      obtain ⟨p, hp, hM2, ks, hk, hv⟩ := hq
      simp only [List.mem_cons, List.not_mem_nil, or_false] at hp
      rcases hp with rfl
      · obtain rfl := hd_keys hk
        cases v with
        | none => exact hv.elim
        | some w9 =>
          obtain ⟨r, rfl, hP⟩ := hv
          obtain ⟨v0, e0, l0, u0⟩ := hP _ (List.mem_cons_self)
          have g0 : 1 * (σ.2.1 118 40).toInt + ((-1) * r.toInt + 0) = v0 := Option.some.inj e0
          exact ret0 r _ ⟨by rw [g0]; exact l0, by rw [g0]; exact u0⟩ hM2
  · intro u hu
    cases hu
theorem sg_ksa_run (G : sx_G0 g L xs zK hd_T ex_mt) (hct : ∀ (mi : Nat) (T2 : ex_T) (c' : sx_Ct), ex_mt mi = some T2 → c' ∈ k9 mi → c'.1 < 0 → sx_Holds g zK hd_T T2 c') {σ : am_S} {lw : List (Nat × Value)} {post : Option (Option Value) → am_S → Prop} (hM : sx_M zK hd_T σ 0 0 σ) (hl : (0, Value.ref 118) ∈ lw) {m2 : Int32} (hl2 : (2, Value.int m2) ∈ lw) (bl2 : 0 ≤ m2.toInt ∧ m2.toInt ≤ 119) (cuta : ∀ (lw' : List (Nat × Value)) (m2' : Int32) (σ' : am_S), (0, Value.ref 118) ∈ lw' → (2, Value.int m2') ∈ lw' → ((-1) ≤ 1 * m2.toInt + ((-1) * m2'.toInt + 0) ∧ 1 * m2.toInt + ((-1) * m2'.toInt + 0) ≤ (-1)) → sx_M zK hd_T σ 0 0 σ' → am_K g 30 tX12_sentence.1 0 0 145 lw' [] σ' post) : am_K g 30 tX12_sentence.1 0 0 170 lw [] σ post := by
  refine sg_seg (sw := []) (vs := [m2.toInt]) (ws := []) G (mi := 167) rfl hct sg_ksa_ok ⟨⟨m2, hl2, rfl⟩, trivial⟩ (hd_refs hl) trivial (hd_p1 rfl bl2.1 bl2.2 hd_p0) hM ?_ ?_
  · intro r σ' hq
    cases r with
    | none => exact hq.elim
    | some v =>
      obtain ⟨p, hp, hM2, ks, hk, hv⟩ := hq
      cases hp
  · intro u hu
    simp only [List.mem_cons, List.not_mem_nil, or_false] at hu
    rcases hu with rfl
    · intro lw' sw' vs' ws' σ' ⟨h1_0, h2, h3_0, h4, h5⟩
      obtain ⟨m2', vs1, rfl, hm2, h1_1⟩ := hd_srcl h1_0
      obtain rfl := hd_src0 h1_1
      obtain ⟨rfl, rfl⟩ := hd_st0 h3_0
      have hr9 := hd_ref0 h2
      obtain ⟨v0, e0, l0, u0⟩ := h4 _ (List.mem_cons_self)
      have g0 : 1 * m2.toInt + ((-1) * m2'.toInt + 0) = v0 := Option.some.inj e0
      exact cuta _ _ _ hr9 hm2 ⟨by rw [g0]; exact l0, by rw [g0]; exact u0⟩ h5
theorem sg_op1a_run (G : sx_G0 g L xs zK hd_T ex_mt) (hct : ∀ (mi : Nat) (T2 : ex_T) (c' : sx_Ct), ex_mt mi = some T2 → c' ∈ k9 mi → c'.1 < 0 → sx_Holds g zK hd_T T2 c') {σ : am_S} {lw : List (Nat × Value)} {post : Option (Option Value) → am_S → Prop} (hM : sx_M zK hd_T σ 0 0 σ) (hl : (0, Value.ref 118) ∈ lw) (bp118_9 : 3 ≤ (σ.2.1 118 9).toInt ∧ (σ.2.1 118 9).toInt ≤ 3) (bp118_12 : 40 ≤ (σ.2.1 118 12).toInt ∧ (σ.2.1 118 12).toInt ≤ 40) {n0 : Int32} (bk0 : 0 ≤ n0.toInt ∧ n0.toInt ≤ 1) (cuta : ∀ (lw' : List (Nat × Value)) (m1' : Int32) (m2' : Int32) (σ' : am_S), (0, Value.ref 118) ∈ lw' → (1, Value.int m1') ∈ lw' → (2, Value.int m2') ∈ lw' → (0 ≤ 1 * n0.toInt + ((-1) * m1'.toInt + 0) ∧ 1 * n0.toInt + ((-1) * m1'.toInt + 0) ≤ 0) → (1 ≤ 1 * m2'.toInt + 0 ∧ 1 * m2'.toInt + 0 ≤ 1) → sx_M zK hd_T σ 0 0 σ' → am_K g 20 tX12_operand.1 0 0 16 lw' [.ref 118] σ' post) : am_K g 20 tX12_operand.1 0 0 7 lw [.int n0] σ post := by
  refine sg_seg (sw := [.int n0]) (vs := [(σ.2.1 118 9).toInt, (σ.2.1 118 12).toInt]) (ws := [n0.toInt]) G (mi := 146) rfl hct sg_op1a_ok ⟨rfl, ⟨rfl, trivial⟩⟩ (hd_refs hl) ⟨⟨n0, rfl, rfl⟩, trivial⟩ (hd_p1 rfl bp118_9.1 bp118_9.2 (hd_p1 rfl bp118_12.1 bp118_12.2 (hd_p1 rfl bk0.1 bk0.2 hd_p0))) hM ?_ ?_
  · intro r σ' hq
    cases r with
    | none => exact hq.elim
    | some v =>
      obtain ⟨p, hp, hM2, ks, hk, hv⟩ := hq
      cases hp
  · intro u hu
    simp only [List.mem_cons, List.not_mem_nil, or_false] at hu
    rcases hu with rfl
    · intro lw' sw' vs' ws' σ' ⟨h1_0, h2, h3_0, h4, h5⟩
      obtain ⟨m1', vs1, rfl, hm1, h1_1⟩ := hd_srcl h1_0
      obtain ⟨m2', vs2, rfl, hm2, h1_2⟩ := hd_srcl h1_1
      obtain rfl := hd_src0 h1_2
      obtain ⟨sw1, rfl, h3_1⟩ := hd_str h3_0
      obtain ⟨rfl, rfl⟩ := hd_st0 h3_1
      have hr9 := hd_ref0 h2
      obtain ⟨v0, e0, l0, u0⟩ := h4 _ (List.mem_cons_self)
      have g0 : 1 * n0.toInt + ((-1) * m1'.toInt + 0) = v0 := Option.some.inj e0
      obtain ⟨v1, e1, l1, u1⟩ := h4 _ (List.mem_cons_of_mem _ (List.mem_cons_self))
      have g1 : 1 * m2'.toInt + 0 = v1 := Option.some.inj e1
      exact cuta _ _ _ _ hr9 hm1 hm2 ⟨by rw [g0]; exact l0, by rw [g0]; exact u0⟩ ⟨by rw [g1]; exact l1, by rw [g1]; exact u1⟩ h5
theorem sg_op1b_run (G : sx_G0 g L xs zK hd_T ex_mt) (hct : ∀ (mi : Nat) (T2 : ex_T) (c' : sx_Ct), ex_mt mi = some T2 → c' ∈ k9 mi → c'.1 < 0 → sx_Holds g zK hd_T T2 c') {σ : am_S} {lw : List (Nat × Value)} {post : Option (Option Value) → am_S → Prop} (hM : sx_M zK hd_T σ 0 0 σ) (hl : (0, Value.ref 118) ∈ lw) (bp118_9 : 3 ≤ (σ.2.1 118 9).toInt ∧ (σ.2.1 118 9).toInt ≤ 3) (bp118_12 : (-2147483648) ≤ (σ.2.1 118 12).toInt ∧ (σ.2.1 118 12).toInt ≤ 39) {n0 : Int32} (bk0 : 0 ≤ n0.toInt ∧ n0.toInt ≤ 1) (cuta : ∀ (lw' : List (Nat × Value)) (m1' : Int32) (m2' : Int32) (σ' : am_S), (0, Value.ref 118) ∈ lw' → (1, Value.int m1') ∈ lw' → (2, Value.int m2') ∈ lw' → (0 ≤ 1 * n0.toInt + ((-1) * m1'.toInt + 0) ∧ 1 * n0.toInt + ((-1) * m1'.toInt + 0) ≤ 0) → (0 ≤ 1 * m2'.toInt + 0 ∧ 1 * m2'.toInt + 0 ≤ 0) → sx_M zK hd_T σ 0 0 σ' → am_K g 20 tX12_operand.1 0 0 16 lw' [.ref 118] σ' post) : am_K g 20 tX12_operand.1 0 0 7 lw [.int n0] σ post := by
  refine sg_seg (sw := [.int n0]) (vs := [(σ.2.1 118 9).toInt, (σ.2.1 118 12).toInt]) (ws := [n0.toInt]) G (mi := 146) rfl hct sg_op1b_ok ⟨rfl, ⟨rfl, trivial⟩⟩ (hd_refs hl) ⟨⟨n0, rfl, rfl⟩, trivial⟩ (hd_p1 rfl bp118_9.1 bp118_9.2 (hd_p1 rfl bp118_12.1 bp118_12.2 (hd_p1 rfl bk0.1 bk0.2 hd_p0))) hM ?_ ?_
  · intro r σ' hq
    cases r with
    | none => exact hq.elim
    | some v =>
      obtain ⟨p, hp, hM2, ks, hk, hv⟩ := hq
      cases hp
  · intro u hu
    simp only [List.mem_cons, List.not_mem_nil, or_false] at hu
    rcases hu with rfl
    · intro lw' sw' vs' ws' σ' ⟨h1_0, h2, h3_0, h4, h5⟩
      obtain ⟨m1', vs1, rfl, hm1, h1_1⟩ := hd_srcl h1_0
      obtain ⟨m2', vs2, rfl, hm2, h1_2⟩ := hd_srcl h1_1
      obtain rfl := hd_src0 h1_2
      obtain ⟨sw1, rfl, h3_1⟩ := hd_str h3_0
      obtain ⟨rfl, rfl⟩ := hd_st0 h3_1
      have hr9 := hd_ref0 h2
      obtain ⟨v0, e0, l0, u0⟩ := h4 _ (List.mem_cons_self)
      have g0 : 1 * n0.toInt + ((-1) * m1'.toInt + 0) = v0 := Option.some.inj e0
      obtain ⟨v1, e1, l1, u1⟩ := h4 _ (List.mem_cons_of_mem _ (List.mem_cons_self))
      have g1 : 1 * m2'.toInt + 0 = v1 := Option.some.inj e1
      exact cuta _ _ _ _ hr9 hm1 hm2 ⟨by rw [g0]; exact l0, by rw [g0]; exact u0⟩ ⟨by rw [g1]; exact l1, by rw [g1]; exact u1⟩ h5
theorem sg_op1c_run (G : sx_G0 g L xs zK hd_T ex_mt) (hct : ∀ (mi : Nat) (T2 : ex_T) (c' : sx_Ct), ex_mt mi = some T2 → c' ∈ k9 mi → c'.1 < 0 → sx_Holds g zK hd_T T2 c') {σ : am_S} {lw : List (Nat × Value)} {post : Option (Option Value) → am_S → Prop} (hM : sx_M zK hd_T σ 0 0 σ) (hl : (0, Value.ref 118) ∈ lw) (bp118_9 : 3 ≤ (σ.2.1 118 9).toInt ∧ (σ.2.1 118 9).toInt ≤ 3) (bp118_12 : 41 ≤ (σ.2.1 118 12).toInt ∧ (σ.2.1 118 12).toInt ≤ 2147483647) {n0 : Int32} (bk0 : 0 ≤ n0.toInt ∧ n0.toInt ≤ 1) (cuta : ∀ (lw' : List (Nat × Value)) (m1' : Int32) (m2' : Int32) (σ' : am_S), (0, Value.ref 118) ∈ lw' → (1, Value.int m1') ∈ lw' → (2, Value.int m2') ∈ lw' → (0 ≤ 1 * n0.toInt + ((-1) * m1'.toInt + 0) ∧ 1 * n0.toInt + ((-1) * m1'.toInt + 0) ≤ 0) → (0 ≤ 1 * m2'.toInt + 0 ∧ 1 * m2'.toInt + 0 ≤ 0) → sx_M zK hd_T σ 0 0 σ' → am_K g 20 tX12_operand.1 0 0 16 lw' [.ref 118] σ' post) : am_K g 20 tX12_operand.1 0 0 7 lw [.int n0] σ post := by
  refine sg_seg (sw := [.int n0]) (vs := [(σ.2.1 118 9).toInt, (σ.2.1 118 12).toInt]) (ws := [n0.toInt]) G (mi := 146) rfl hct sg_op1c_ok ⟨rfl, ⟨rfl, trivial⟩⟩ (hd_refs hl) ⟨⟨n0, rfl, rfl⟩, trivial⟩ (hd_p1 rfl bp118_9.1 bp118_9.2 (hd_p1 rfl bp118_12.1 bp118_12.2 (hd_p1 rfl bk0.1 bk0.2 hd_p0))) hM ?_ ?_
  · intro r σ' hq
    cases r with
    | none => exact hq.elim
    | some v =>
      obtain ⟨p, hp, hM2, ks, hk, hv⟩ := hq
      cases hp
  · intro u hu
    simp only [List.mem_cons, List.not_mem_nil, or_false] at hu
    rcases hu with rfl
    · intro lw' sw' vs' ws' σ' ⟨h1_0, h2, h3_0, h4, h5⟩
      obtain ⟨m1', vs1, rfl, hm1, h1_1⟩ := hd_srcl h1_0
      obtain ⟨m2', vs2, rfl, hm2, h1_2⟩ := hd_srcl h1_1
      obtain rfl := hd_src0 h1_2
      obtain ⟨sw1, rfl, h3_1⟩ := hd_str h3_0
      obtain ⟨rfl, rfl⟩ := hd_st0 h3_1
      have hr9 := hd_ref0 h2
      obtain ⟨v0, e0, l0, u0⟩ := h4 _ (List.mem_cons_self)
      have g0 : 1 * n0.toInt + ((-1) * m1'.toInt + 0) = v0 := Option.some.inj e0
      obtain ⟨v1, e1, l1, u1⟩ := h4 _ (List.mem_cons_of_mem _ (List.mem_cons_self))
      have g1 : 1 * m2'.toInt + 0 = v1 := Option.some.inj e1
      exact cuta _ _ _ _ hr9 hm1 hm2 ⟨by rw [g0]; exact l0, by rw [g0]; exact u0⟩ ⟨by rw [g1]; exact l1, by rw [g1]; exact u1⟩ h5
theorem sg_op1d_run (G : sx_G0 g L xs zK hd_T ex_mt) (hct : ∀ (mi : Nat) (T2 : ex_T) (c' : sx_Ct), ex_mt mi = some T2 → c' ∈ k9 mi → c'.1 < 0 → sx_Holds g zK hd_T T2 c') {σ : am_S} {lw : List (Nat × Value)} {post : Option (Option Value) → am_S → Prop} (hM : sx_M zK hd_T σ 0 0 σ) (hl : (0, Value.ref 118) ∈ lw) (bp118_9 : 0 ≤ (σ.2.1 118 9).toInt ∧ (σ.2.1 118 9).toInt ≤ 2) {n0 : Int32} (bk0 : 0 ≤ n0.toInt ∧ n0.toInt ≤ 1) (cuta : ∀ (lw' : List (Nat × Value)) (m1' : Int32) (m2' : Int32) (σ' : am_S), (0, Value.ref 118) ∈ lw' → (1, Value.int m1') ∈ lw' → (2, Value.int m2') ∈ lw' → (0 ≤ 1 * n0.toInt + ((-1) * m1'.toInt + 0) ∧ 1 * n0.toInt + ((-1) * m1'.toInt + 0) ≤ 0) → (0 ≤ 1 * m2'.toInt + 0 ∧ 1 * m2'.toInt + 0 ≤ 0) → sx_M zK hd_T σ 0 0 σ' → am_K g 20 tX12_operand.1 0 0 16 lw' [.ref 118] σ' post) : am_K g 20 tX12_operand.1 0 0 7 lw [.int n0] σ post := by
  refine sg_seg (sw := [.int n0]) (vs := [(σ.2.1 118 9).toInt, (σ.2.1 118 12).toInt]) (ws := [n0.toInt]) G (mi := 146) rfl hct sg_op1d_ok ⟨rfl, ⟨rfl, trivial⟩⟩ (hd_refs hl) ⟨⟨n0, rfl, rfl⟩, trivial⟩ (hd_p1 rfl bp118_9.1 bp118_9.2 (hd_p1 rfl (hd_kd_118_12 hM).1 (hd_kd_118_12 hM).2 (hd_p1 rfl bk0.1 bk0.2 hd_p0))) hM ?_ ?_
  · intro r σ' hq
    cases r with
    | none => exact hq.elim
    | some v =>
      obtain ⟨p, hp, hM2, ks, hk, hv⟩ := hq
      cases hp
  · intro u hu
    simp only [List.mem_cons, List.not_mem_nil, or_false] at hu
    rcases hu with rfl
    · intro lw' sw' vs' ws' σ' ⟨h1_0, h2, h3_0, h4, h5⟩
      obtain ⟨m1', vs1, rfl, hm1, h1_1⟩ := hd_srcl h1_0
      obtain ⟨m2', vs2, rfl, hm2, h1_2⟩ := hd_srcl h1_1
      obtain rfl := hd_src0 h1_2
      obtain ⟨sw1, rfl, h3_1⟩ := hd_str h3_0
      obtain ⟨rfl, rfl⟩ := hd_st0 h3_1
      have hr9 := hd_ref0 h2
      obtain ⟨v0, e0, l0, u0⟩ := h4 _ (List.mem_cons_self)
      have g0 : 1 * n0.toInt + ((-1) * m1'.toInt + 0) = v0 := Option.some.inj e0
      obtain ⟨v1, e1, l1, u1⟩ := h4 _ (List.mem_cons_of_mem _ (List.mem_cons_self))
      have g1 : 1 * m2'.toInt + 0 = v1 := Option.some.inj e1
      exact cuta _ _ _ _ hr9 hm1 hm2 ⟨by rw [g0]; exact l0, by rw [g0]; exact u0⟩ ⟨by rw [g1]; exact l1, by rw [g1]; exact u1⟩ h5
theorem sg_op1e_run (G : sx_G0 g L xs zK hd_T ex_mt) (hct : ∀ (mi : Nat) (T2 : ex_T) (c' : sx_Ct), ex_mt mi = some T2 → c' ∈ k9 mi → c'.1 < 0 → sx_Holds g zK hd_T T2 c') {σ : am_S} {lw : List (Nat × Value)} {post : Option (Option Value) → am_S → Prop} (hM : sx_M zK hd_T σ 0 0 σ) (hl : (0, Value.ref 118) ∈ lw) (bp118_9 : 4 ≤ (σ.2.1 118 9).toInt ∧ (σ.2.1 118 9).toInt ≤ 4) {n0 : Int32} (bk0 : 0 ≤ n0.toInt ∧ n0.toInt ≤ 1) (cuta : ∀ (lw' : List (Nat × Value)) (m1' : Int32) (m2' : Int32) (σ' : am_S), (0, Value.ref 118) ∈ lw' → (1, Value.int m1') ∈ lw' → (2, Value.int m2') ∈ lw' → (0 ≤ 1 * n0.toInt + ((-1) * m1'.toInt + 0) ∧ 1 * n0.toInt + ((-1) * m1'.toInt + 0) ≤ 0) → (0 ≤ 1 * m2'.toInt + 0 ∧ 1 * m2'.toInt + 0 ≤ 0) → sx_M zK hd_T σ 0 0 σ' → am_K g 20 tX12_operand.1 0 0 16 lw' [.ref 118] σ' post) : am_K g 20 tX12_operand.1 0 0 7 lw [.int n0] σ post := by
  refine sg_seg (sw := [.int n0]) (vs := [(σ.2.1 118 9).toInt, (σ.2.1 118 12).toInt]) (ws := [n0.toInt]) G (mi := 146) rfl hct sg_op1e_ok ⟨rfl, ⟨rfl, trivial⟩⟩ (hd_refs hl) ⟨⟨n0, rfl, rfl⟩, trivial⟩ (hd_p1 rfl bp118_9.1 bp118_9.2 (hd_p1 rfl (hd_kd_118_12 hM).1 (hd_kd_118_12 hM).2 (hd_p1 rfl bk0.1 bk0.2 hd_p0))) hM ?_ ?_
  · intro r σ' hq
    cases r with
    | none => exact hq.elim
    | some v =>
      obtain ⟨p, hp, hM2, ks, hk, hv⟩ := hq
      cases hp
  · intro u hu
    simp only [List.mem_cons, List.not_mem_nil, or_false] at hu
    rcases hu with rfl
    · intro lw' sw' vs' ws' σ' ⟨h1_0, h2, h3_0, h4, h5⟩
      obtain ⟨m1', vs1, rfl, hm1, h1_1⟩ := hd_srcl h1_0
      obtain ⟨m2', vs2, rfl, hm2, h1_2⟩ := hd_srcl h1_1
      obtain rfl := hd_src0 h1_2
      obtain ⟨sw1, rfl, h3_1⟩ := hd_str h3_0
      obtain ⟨rfl, rfl⟩ := hd_st0 h3_1
      have hr9 := hd_ref0 h2
      obtain ⟨v0, e0, l0, u0⟩ := h4 _ (List.mem_cons_self)
      have g0 : 1 * n0.toInt + ((-1) * m1'.toInt + 0) = v0 := Option.some.inj e0
      obtain ⟨v1, e1, l1, u1⟩ := h4 _ (List.mem_cons_of_mem _ (List.mem_cons_self))
      have g1 : 1 * m2'.toInt + 0 = v1 := Option.some.inj e1
      exact cuta _ _ _ _ hr9 hm1 hm2 ⟨by rw [g0]; exact l0, by rw [g0]; exact u0⟩ ⟨by rw [g1]; exact l1, by rw [g1]; exact u1⟩ h5
theorem sg_op2z_run (G : sx_G0 g L xs zK hd_T ex_mt) (hct : ∀ (mi : Nat) (T2 : ex_T) (c' : sx_Ct), ex_mt mi = some T2 → c' ∈ k9 mi → c'.1 < 0 → sx_Holds g zK hd_T T2 c') {σ : am_S} {lw : List (Nat × Value)} {post : Option (Option Value) → am_S → Prop} (hM : sx_M zK hd_T σ 0 0 σ) (hl : (0, Value.ref 118) ∈ lw) {m1 : Int32} (hl1 : (1, Value.int m1) ∈ lw) (bl1 : 0 ≤ m1.toInt ∧ m1.toInt ≤ 0) {m2 : Int32} (hl2 : (2, Value.int m2) ∈ lw) (bl2 : 0 ≤ m2.toInt ∧ m2.toInt ≤ 0) {n0 : Int32} (bk0 : (-1) ≤ n0.toInt ∧ n0.toInt ≤ (-1)) (ret0 : ∀ (r : Int32) (σ' : am_S), (0 ≤ 1 * r.toInt + 0 ∧ 1 * r.toInt + 0 ≤ 0) → (1 ≤ 1 * (σ'.2.1 118 13).toInt + 0 ∧ 1 * (σ'.2.1 118 13).toInt + 0 ≤ 1) → (0 ≤ 1 * (σ.2.1 118 10).toInt + ((-1) * (σ'.2.1 118 14).toInt + 0) ∧ 1 * (σ.2.1 118 10).toInt + ((-1) * (σ'.2.1 118 14).toInt + 0) ≤ 0) → sx_M zK hd_T σ 28858891257124862704305937573347373392392387160985434571251191458187784500608308553281933292152037822856416985088 0 σ' → post (some (some (.int r))) σ') : am_K g 20 tX12_operand.1 0 0 19 lw [.int n0] σ post := by
  refine sg_seg (sw := [.int n0]) (vs := [m1.toInt, m2.toInt, (σ.2.1 118 10).toInt]) (ws := [n0.toInt]) G (mi := 146) rfl hct sg_op2z_ok ⟨⟨m1, hl1, rfl⟩, ⟨⟨m2, hl2, rfl⟩, ⟨rfl, trivial⟩⟩⟩ (hd_refs hl) ⟨⟨n0, rfl, rfl⟩, trivial⟩ (hd_p1 rfl bl1.1 bl1.2 (hd_p1 rfl bl2.1 bl2.2 (hd_p1 rfl (hd_kd_118_10 hM).1 (hd_kd_118_10 hM).2 (hd_p1 rfl bk0.1 bk0.2 hd_p0)))) hM ?_ ?_
  · intro r σ' hq
    cases r with
    | none => exact hq.elim
    | some v =>
      obtain ⟨p, hp, hM2, ks, hk, hv⟩ := hq
      simp only [List.mem_cons, List.not_mem_nil, or_false] at hp
      rcases hp with rfl
      · obtain ⟨ks0, rfl, hk1⟩ := hd_keyc hk; obtain ⟨ks1, rfl, hk2⟩ := hd_keyc hk1; obtain rfl := hd_keys hk2
        cases v with
        | none => exact hv.elim
        | some w9 =>
          obtain ⟨r, rfl, hP⟩ := hv
          obtain ⟨v0, e0, l0, u0⟩ := hP _ (List.mem_cons_self)
          have g0 : 1 * r.toInt + 0 = v0 := Option.some.inj e0
          obtain ⟨v1, e1, l1, u1⟩ := hP _ (List.mem_cons_of_mem _ (List.mem_cons_self))
          have g1 : 1 * (σ'.2.1 118 13).toInt + 0 = v1 := Option.some.inj e1
          obtain ⟨v2, e2, l2, u2⟩ := hP _ (List.mem_cons_of_mem _ (List.mem_cons_of_mem _ (List.mem_cons_self)))
          have g2 : 1 * (σ.2.1 118 10).toInt + ((-1) * (σ'.2.1 118 14).toInt + 0) = v2 := Option.some.inj e2
          exact ret0 r _ ⟨by rw [g0]; exact l0, by rw [g0]; exact u0⟩ ⟨by rw [g1]; exact l1, by rw [g1]; exact u1⟩ ⟨by rw [g2]; exact l2, by rw [g2]; exact u2⟩ hM2
  · intro u hu
    cases hu
theorem sg_op3a4_run (G : sx_G0 g L xs zK hd_T ex_mt) (hct : ∀ (mi : Nat) (T2 : ex_T) (c' : sx_Ct), ex_mt mi = some T2 → c' ∈ k9 mi → c'.1 < 0 → sx_Holds g zK hd_T T2 c') {σ : am_S} {lw : List (Nat × Value)} {post : Option (Option Value) → am_S → Prop} (hM : sx_M zK hd_T σ 0 0 σ) (hl : (0, Value.ref 118) ∈ lw) {m1 : Int32} (hl1 : (1, Value.int m1) ∈ lw) (bl1 : 1 ≤ m1.toInt ∧ m1.toInt ≤ 1) {m2 : Int32} (hl2 : (2, Value.int m2) ∈ lw) (bl2 : 0 ≤ m2.toInt ∧ m2.toInt ≤ 1) (bp118_40 : 20 ≤ (σ.2.1 118 40).toInt ∧ (σ.2.1 118 40).toInt ≤ 20) {n0 : Int32} (bk0 : (-1) ≤ n0.toInt ∧ n0.toInt ≤ (-1)) (ret0 : ∀ (r : Int32) (σ' : am_S), (0 ≤ 1 * r.toInt + 0 ∧ 1 * r.toInt + 0 ≤ 0) → (4 ≤ 1 * (σ'.2.1 118 13).toInt + 0 ∧ 1 * (σ'.2.1 118 13).toInt + 0 ≤ 4) → (0 ≤ 1 * (σ.2.1 118 10).toInt + ((-1) * (σ'.2.1 118 14).toInt + 0) ∧ 1 * (σ.2.1 118 10).toInt + ((-1) * (σ'.2.1 118 14).toInt + 0) ≤ 0) → sx_M zK hd_T σ 28858891257124862704305937573347373392392387160985434571251191458187784500608308553281933292152037822856416985088 0 σ' → post (some (some (.int r))) σ') : am_K g 20 tX12_operand.1 0 0 19 lw [.int n0] σ post := by
  refine sg_seg (sw := [.int n0]) (vs := [m1.toInt, m2.toInt, (σ.2.1 118 10).toInt, (σ.2.1 118 40).toInt]) (ws := [n0.toInt]) G (mi := 146) rfl hct sg_op3a4_ok ⟨⟨m1, hl1, rfl⟩, ⟨⟨m2, hl2, rfl⟩, ⟨rfl, ⟨rfl, trivial⟩⟩⟩⟩ (hd_refs hl) ⟨⟨n0, rfl, rfl⟩, trivial⟩ (hd_p1 rfl bl1.1 bl1.2 (hd_p1 rfl bl2.1 bl2.2 (hd_p1 rfl (hd_kd_118_10 hM).1 (hd_kd_118_10 hM).2 (hd_p1 rfl bp118_40.1 bp118_40.2 (hd_p1 rfl bk0.1 bk0.2 hd_p0))))) hM ?_ ?_
  · intro r σ' hq
    cases r with
    | none => exact hq.elim
    | some v =>
      obtain ⟨p, hp, hM2, ks, hk, hv⟩ := hq
      simp only [List.mem_cons, List.not_mem_nil, or_false] at hp
      rcases hp with rfl
      · obtain ⟨ks0, rfl, hk1⟩ := hd_keyc hk; obtain ⟨ks1, rfl, hk2⟩ := hd_keyc hk1; obtain rfl := hd_keys hk2
        cases v with
        | none => exact hv.elim
        | some w9 =>
          obtain ⟨r, rfl, hP⟩ := hv
          obtain ⟨v0, e0, l0, u0⟩ := hP _ (List.mem_cons_self)
          have g0 : 1 * r.toInt + 0 = v0 := Option.some.inj e0
          obtain ⟨v1, e1, l1, u1⟩ := hP _ (List.mem_cons_of_mem _ (List.mem_cons_self))
          have g1 : 1 * (σ'.2.1 118 13).toInt + 0 = v1 := Option.some.inj e1
          obtain ⟨v2, e2, l2, u2⟩ := hP _ (List.mem_cons_of_mem _ (List.mem_cons_of_mem _ (List.mem_cons_self)))
          have g2 : 1 * (σ.2.1 118 10).toInt + ((-1) * (σ'.2.1 118 14).toInt + 0) = v2 := Option.some.inj e2
          exact ret0 r _ ⟨by rw [g0]; exact l0, by rw [g0]; exact u0⟩ ⟨by rw [g1]; exact l1, by rw [g1]; exact u1⟩ ⟨by rw [g2]; exact l2, by rw [g2]; exact u2⟩ hM2
  · intro u hu
    cases hu
theorem sg_op3a5_run (G : sx_G0 g L xs zK hd_T ex_mt) (hct : ∀ (mi : Nat) (T2 : ex_T) (c' : sx_Ct), ex_mt mi = some T2 → c' ∈ k9 mi → c'.1 < 0 → sx_Holds g zK hd_T T2 c') {σ : am_S} {lw : List (Nat × Value)} {post : Option (Option Value) → am_S → Prop} (hM : sx_M zK hd_T σ 0 0 σ) (hl : (0, Value.ref 118) ∈ lw) {m1 : Int32} (hl1 : (1, Value.int m1) ∈ lw) (bl1 : 1 ≤ m1.toInt ∧ m1.toInt ≤ 1) {m2 : Int32} (hl2 : (2, Value.int m2) ∈ lw) (bl2 : 0 ≤ m2.toInt ∧ m2.toInt ≤ 1) (bp118_40 : 0 ≤ (σ.2.1 118 40).toInt ∧ (σ.2.1 118 40).toInt ≤ 19) (bp118_42 : 9 ≤ (σ.2.1 118 42).toInt ∧ (σ.2.1 118 42).toInt ≤ 1000) {n0 : Int32} (bk0 : (-1) ≤ n0.toInt ∧ n0.toInt ≤ (-1)) (ret0 : ∀ (r : Int32) (σ' : am_S), (0 ≤ 1 * r.toInt + 0 ∧ 1 * r.toInt + 0 ≤ 0) → (4 ≤ 1 * (σ'.2.1 118 13).toInt + 0 ∧ 1 * (σ'.2.1 118 13).toInt + 0 ≤ 4) → (0 ≤ 1 * (σ.2.1 118 10).toInt + ((-1) * (σ'.2.1 118 14).toInt + 0) ∧ 1 * (σ.2.1 118 10).toInt + ((-1) * (σ'.2.1 118 14).toInt + 0) ≤ 0) → sx_M zK hd_T σ 28858891257124862704305937573347373392392387160985434571251191458187784500608308553281933292152037822856416985088 0 σ' → post (some (some (.int r))) σ') : am_K g 20 tX12_operand.1 0 0 19 lw [.int n0] σ post := by
  refine sg_seg (sw := [.int n0]) (vs := [m1.toInt, m2.toInt, (σ.2.1 118 10).toInt, (σ.2.1 118 40).toInt, (σ.2.1 118 42).toInt]) (ws := [n0.toInt]) G (mi := 146) rfl hct sg_op3a5_ok ⟨⟨m1, hl1, rfl⟩, ⟨⟨m2, hl2, rfl⟩, ⟨rfl, ⟨rfl, ⟨rfl, trivial⟩⟩⟩⟩⟩ (hd_refs hl) ⟨⟨n0, rfl, rfl⟩, trivial⟩ (hd_p1 rfl bl1.1 bl1.2 (hd_p1 rfl bl2.1 bl2.2 (hd_p1 rfl (hd_kd_118_10 hM).1 (hd_kd_118_10 hM).2 (hd_p1 rfl bp118_40.1 bp118_40.2 (hd_p1 rfl bp118_42.1 bp118_42.2 (hd_p1 rfl bk0.1 bk0.2 hd_p0)))))) hM ?_ ?_
  · intro r σ' hq
    cases r with
    | none => exact hq.elim
    | some v =>
      obtain ⟨p, hp, hM2, ks, hk, hv⟩ := hq
      simp only [List.mem_cons, List.not_mem_nil, or_false] at hp
      rcases hp with rfl
      · obtain ⟨ks0, rfl, hk1⟩ := hd_keyc hk; obtain ⟨ks1, rfl, hk2⟩ := hd_keyc hk1; obtain rfl := hd_keys hk2
        cases v with
        | none => exact hv.elim
        | some w9 =>
          obtain ⟨r, rfl, hP⟩ := hv
          obtain ⟨v0, e0, l0, u0⟩ := hP _ (List.mem_cons_self)
          have g0 : 1 * r.toInt + 0 = v0 := Option.some.inj e0
          obtain ⟨v1, e1, l1, u1⟩ := hP _ (List.mem_cons_of_mem _ (List.mem_cons_self))
          have g1 : 1 * (σ'.2.1 118 13).toInt + 0 = v1 := Option.some.inj e1
          obtain ⟨v2, e2, l2, u2⟩ := hP _ (List.mem_cons_of_mem _ (List.mem_cons_of_mem _ (List.mem_cons_self)))
          have g2 : 1 * (σ.2.1 118 10).toInt + ((-1) * (σ'.2.1 118 14).toInt + 0) = v2 := Option.some.inj e2
          exact ret0 r _ ⟨by rw [g0]; exact l0, by rw [g0]; exact u0⟩ ⟨by rw [g1]; exact l1, by rw [g1]; exact u1⟩ ⟨by rw [g2]; exact l2, by rw [g2]; exact u2⟩ hM2
  · intro u hu
    cases hu
theorem sg_op3a_run (G : sx_G0 g L xs zK hd_T ex_mt) (hct : ∀ (mi : Nat) (T2 : ex_T) (c' : sx_Ct), ex_mt mi = some T2 → c' ∈ k9 mi → c'.1 < 0 → sx_Holds g zK hd_T T2 c') {σ : am_S} {lw : List (Nat × Value)} {post : Option (Option Value) → am_S → Prop} (hM : sx_M zK hd_T σ 0 0 σ) (hl : (0, Value.ref 118) ∈ lw) {m1 : Int32} (hl1 : (1, Value.int m1) ∈ lw) (bl1 : 1 ≤ m1.toInt ∧ m1.toInt ≤ 1) {m2 : Int32} (hl2 : (2, Value.int m2) ∈ lw) (bl2 : 0 ≤ m2.toInt ∧ m2.toInt ≤ 1) (bp118_40 : 0 ≤ (σ.2.1 118 40).toInt ∧ (σ.2.1 118 40).toInt ≤ 19) (bp118_42 : 0 ≤ (σ.2.1 118 42).toInt ∧ (σ.2.1 118 42).toInt ≤ 8) {n0 : Int32} (bk0 : (-1) ≤ n0.toInt ∧ n0.toInt ≤ (-1)) (cuta : ∀ (lw' : List (Nat × Value)) (m1' : Int32) (m2' : Int32) (m3' : Int32) (σ' : am_S), (0, Value.ref 118) ∈ lw' → (1, Value.int m1') ∈ lw' → (2, Value.int m2') ∈ lw' → (3, Value.int m3') ∈ lw' → (0 ≤ 1 * m1.toInt + ((-1) * m1'.toInt + 0) ∧ 1 * m1.toInt + ((-1) * m1'.toInt + 0) ≤ 0) → (0 ≤ 1 * m2.toInt + ((-1) * m2'.toInt + 0) ∧ 1 * m2.toInt + ((-1) * m2'.toInt + 0) ≤ 0) → (0 ≤ 1 * n0.toInt + ((-1) * m3'.toInt + 0) ∧ 1 * n0.toInt + ((-1) * m3'.toInt + 0) ≤ 0) → ((-1) ≤ 1 * (σ.2.1 118 40).toInt + ((-1) * (σ'.2.1 118 40).toInt + 0) ∧ 1 * (σ.2.1 118 40).toInt + ((-1) * (σ'.2.1 118 40).toInt + 0) ≤ (-1)) → sx_M zK hd_T σ 1291124939043454294827959586001505937164852896414611756415329678270323811008420597314822676640068915717951585986373746688 0 σ' → am_K g 20 tX12_operand.1 0 0 73 lw' [.ref 118] σ' post) : am_K g 20 tX12_operand.1 0 0 19 lw [.int n0] σ post := by
  refine sg_seg (sw := [.int n0]) (vs := [m1.toInt, m2.toInt, (σ.2.1 118 40).toInt, (σ.2.1 118 42).toInt]) (ws := [n0.toInt]) G (mi := 146) rfl hct sg_op3a_ok ⟨⟨m1, hl1, rfl⟩, ⟨⟨m2, hl2, rfl⟩, ⟨rfl, ⟨rfl, trivial⟩⟩⟩⟩ (hd_refs hl) ⟨⟨n0, rfl, rfl⟩, trivial⟩ (hd_p1 rfl bl1.1 bl1.2 (hd_p1 rfl bl2.1 bl2.2 (hd_p1 rfl bp118_40.1 bp118_40.2 (hd_p1 rfl bp118_42.1 bp118_42.2 (hd_p1 rfl bk0.1 bk0.2 hd_p0))))) hM ?_ ?_
  · intro r σ' hq
    cases r with
    | none => exact hq.elim
    | some v =>
      obtain ⟨p, hp, hM2, ks, hk, hv⟩ := hq
      cases hp
  · intro u hu
    simp only [List.mem_cons, List.not_mem_nil, or_false] at hu
    rcases hu with rfl
    · intro lw' sw' vs' ws' σ' ⟨h1_0, h2, h3_0, h4, h5⟩
      obtain ⟨m1', vs1, rfl, hm1, h1_1⟩ := hd_srcl h1_0
      obtain ⟨m2', vs2, rfl, hm2, h1_2⟩ := hd_srcl h1_1
      obtain ⟨m3', vs3, rfl, hm3, h1_3⟩ := hd_srcl h1_2
      obtain ⟨vs4, rfl, h1_4⟩ := hd_srcs h1_3
      obtain rfl := hd_src0 h1_4
      obtain ⟨sw1, rfl, h3_1⟩ := hd_str h3_0
      obtain ⟨rfl, rfl⟩ := hd_st0 h3_1
      have hr9 := hd_ref0 h2
      obtain ⟨v0, e0, l0, u0⟩ := h4 _ (List.mem_cons_self)
      have g0 : 1 * m1.toInt + ((-1) * m1'.toInt + 0) = v0 := Option.some.inj e0
      obtain ⟨v1, e1, l1, u1⟩ := h4 _ (List.mem_cons_of_mem _ (List.mem_cons_self))
      have g1 : 1 * m2.toInt + ((-1) * m2'.toInt + 0) = v1 := Option.some.inj e1
      obtain ⟨v2, e2, l2, u2⟩ := h4 _ (List.mem_cons_of_mem _ (List.mem_cons_of_mem _ (List.mem_cons_self)))
      have g2 : 1 * n0.toInt + ((-1) * m3'.toInt + 0) = v2 := Option.some.inj e2
      obtain ⟨v3, e3, l3, u3⟩ := h4 _ (List.mem_cons_of_mem _ (List.mem_cons_of_mem _ (List.mem_cons_of_mem _ (List.mem_cons_self))))
      have g3 : 1 * (σ.2.1 118 40).toInt + ((-1) * (σ'.2.1 118 40).toInt + 0) = v3 := Option.some.inj e3
      exact cuta _ _ _ _ _ hr9 hm1 hm2 hm3 ⟨by rw [g0]; exact l0, by rw [g0]; exact u0⟩ ⟨by rw [g1]; exact l1, by rw [g1]; exact u1⟩ ⟨by rw [g2]; exact l2, by rw [g2]; exact u2⟩ ⟨by rw [g3]; exact l3, by rw [g3]; exact u3⟩ h5
theorem sg_op3b4_run (G : sx_G0 g L xs zK hd_T ex_mt) (hct : ∀ (mi : Nat) (T2 : ex_T) (c' : sx_Ct), ex_mt mi = some T2 → c' ∈ k9 mi → c'.1 < 0 → sx_Holds g zK hd_T T2 c') {σ : am_S} {lw : List (Nat × Value)} {post : Option (Option Value) → am_S → Prop} (hM : sx_M zK hd_T σ 0 0 σ) (hl : (0, Value.ref 118) ∈ lw) {m1 : Int32} (hl1 : (1, Value.int m1) ∈ lw) (bl1 : 0 ≤ m1.toInt ∧ m1.toInt ≤ 0) {m2 : Int32} (hl2 : (2, Value.int m2) ∈ lw) (bl2 : 1 ≤ m2.toInt ∧ m2.toInt ≤ 1) (bp118_40 : 20 ≤ (σ.2.1 118 40).toInt ∧ (σ.2.1 118 40).toInt ≤ 20) {n0 : Int32} (bk0 : (-1) ≤ n0.toInt ∧ n0.toInt ≤ (-1)) (ret0 : ∀ (r : Int32) (σ' : am_S), (0 ≤ 1 * r.toInt + 0 ∧ 1 * r.toInt + 0 ≤ 0) → (4 ≤ 1 * (σ'.2.1 118 13).toInt + 0 ∧ 1 * (σ'.2.1 118 13).toInt + 0 ≤ 4) → (0 ≤ 1 * (σ.2.1 118 10).toInt + ((-1) * (σ'.2.1 118 14).toInt + 0) ∧ 1 * (σ.2.1 118 10).toInt + ((-1) * (σ'.2.1 118 14).toInt + 0) ≤ 0) → sx_M zK hd_T σ 28858891257124862704305937573347373392392387160985434571251191458187784500608308553281933292152037822856416985088 0 σ' → post (some (some (.int r))) σ') : am_K g 20 tX12_operand.1 0 0 19 lw [.int n0] σ post := by
  refine sg_seg (sw := [.int n0]) (vs := [m1.toInt, m2.toInt, (σ.2.1 118 10).toInt, (σ.2.1 118 40).toInt]) (ws := [n0.toInt]) G (mi := 146) rfl hct sg_op3b4_ok ⟨⟨m1, hl1, rfl⟩, ⟨⟨m2, hl2, rfl⟩, ⟨rfl, ⟨rfl, trivial⟩⟩⟩⟩ (hd_refs hl) ⟨⟨n0, rfl, rfl⟩, trivial⟩ (hd_p1 rfl bl1.1 bl1.2 (hd_p1 rfl bl2.1 bl2.2 (hd_p1 rfl (hd_kd_118_10 hM).1 (hd_kd_118_10 hM).2 (hd_p1 rfl bp118_40.1 bp118_40.2 (hd_p1 rfl bk0.1 bk0.2 hd_p0))))) hM ?_ ?_
  · intro r σ' hq
    cases r with
    | none => exact hq.elim
    | some v =>
      obtain ⟨p, hp, hM2, ks, hk, hv⟩ := hq
      simp only [List.mem_cons, List.not_mem_nil, or_false] at hp
      rcases hp with rfl
      · obtain ⟨ks0, rfl, hk1⟩ := hd_keyc hk; obtain ⟨ks1, rfl, hk2⟩ := hd_keyc hk1; obtain rfl := hd_keys hk2
        cases v with
        | none => exact hv.elim
        | some w9 =>
          obtain ⟨r, rfl, hP⟩ := hv
          obtain ⟨v0, e0, l0, u0⟩ := hP _ (List.mem_cons_self)
          have g0 : 1 * r.toInt + 0 = v0 := Option.some.inj e0
          obtain ⟨v1, e1, l1, u1⟩ := hP _ (List.mem_cons_of_mem _ (List.mem_cons_self))
          have g1 : 1 * (σ'.2.1 118 13).toInt + 0 = v1 := Option.some.inj e1
          obtain ⟨v2, e2, l2, u2⟩ := hP _ (List.mem_cons_of_mem _ (List.mem_cons_of_mem _ (List.mem_cons_self)))
          have g2 : 1 * (σ.2.1 118 10).toInt + ((-1) * (σ'.2.1 118 14).toInt + 0) = v2 := Option.some.inj e2
          exact ret0 r _ ⟨by rw [g0]; exact l0, by rw [g0]; exact u0⟩ ⟨by rw [g1]; exact l1, by rw [g1]; exact u1⟩ ⟨by rw [g2]; exact l2, by rw [g2]; exact u2⟩ hM2
  · intro u hu
    cases hu
theorem sg_op3b5_run (G : sx_G0 g L xs zK hd_T ex_mt) (hct : ∀ (mi : Nat) (T2 : ex_T) (c' : sx_Ct), ex_mt mi = some T2 → c' ∈ k9 mi → c'.1 < 0 → sx_Holds g zK hd_T T2 c') {σ : am_S} {lw : List (Nat × Value)} {post : Option (Option Value) → am_S → Prop} (hM : sx_M zK hd_T σ 0 0 σ) (hl : (0, Value.ref 118) ∈ lw) {m1 : Int32} (hl1 : (1, Value.int m1) ∈ lw) (bl1 : 0 ≤ m1.toInt ∧ m1.toInt ≤ 0) {m2 : Int32} (hl2 : (2, Value.int m2) ∈ lw) (bl2 : 1 ≤ m2.toInt ∧ m2.toInt ≤ 1) (bp118_40 : 0 ≤ (σ.2.1 118 40).toInt ∧ (σ.2.1 118 40).toInt ≤ 19) (bp118_42 : 9 ≤ (σ.2.1 118 42).toInt ∧ (σ.2.1 118 42).toInt ≤ 1000) {n0 : Int32} (bk0 : (-1) ≤ n0.toInt ∧ n0.toInt ≤ (-1)) (ret0 : ∀ (r : Int32) (σ' : am_S), (0 ≤ 1 * r.toInt + 0 ∧ 1 * r.toInt + 0 ≤ 0) → (4 ≤ 1 * (σ'.2.1 118 13).toInt + 0 ∧ 1 * (σ'.2.1 118 13).toInt + 0 ≤ 4) → (0 ≤ 1 * (σ.2.1 118 10).toInt + ((-1) * (σ'.2.1 118 14).toInt + 0) ∧ 1 * (σ.2.1 118 10).toInt + ((-1) * (σ'.2.1 118 14).toInt + 0) ≤ 0) → sx_M zK hd_T σ 28858891257124862704305937573347373392392387160985434571251191458187784500608308553281933292152037822856416985088 0 σ' → post (some (some (.int r))) σ') : am_K g 20 tX12_operand.1 0 0 19 lw [.int n0] σ post := by
  refine sg_seg (sw := [.int n0]) (vs := [m1.toInt, m2.toInt, (σ.2.1 118 10).toInt, (σ.2.1 118 40).toInt, (σ.2.1 118 42).toInt]) (ws := [n0.toInt]) G (mi := 146) rfl hct sg_op3b5_ok ⟨⟨m1, hl1, rfl⟩, ⟨⟨m2, hl2, rfl⟩, ⟨rfl, ⟨rfl, ⟨rfl, trivial⟩⟩⟩⟩⟩ (hd_refs hl) ⟨⟨n0, rfl, rfl⟩, trivial⟩ (hd_p1 rfl bl1.1 bl1.2 (hd_p1 rfl bl2.1 bl2.2 (hd_p1 rfl (hd_kd_118_10 hM).1 (hd_kd_118_10 hM).2 (hd_p1 rfl bp118_40.1 bp118_40.2 (hd_p1 rfl bp118_42.1 bp118_42.2 (hd_p1 rfl bk0.1 bk0.2 hd_p0)))))) hM ?_ ?_
  · intro r σ' hq
    cases r with
    | none => exact hq.elim
    | some v =>
      obtain ⟨p, hp, hM2, ks, hk, hv⟩ := hq
      simp only [List.mem_cons, List.not_mem_nil, or_false] at hp
      rcases hp with rfl
      · obtain ⟨ks0, rfl, hk1⟩ := hd_keyc hk; obtain ⟨ks1, rfl, hk2⟩ := hd_keyc hk1; obtain rfl := hd_keys hk2
        cases v with
        | none => exact hv.elim
        | some w9 =>
          obtain ⟨r, rfl, hP⟩ := hv
          obtain ⟨v0, e0, l0, u0⟩ := hP _ (List.mem_cons_self)
          have g0 : 1 * r.toInt + 0 = v0 := Option.some.inj e0
          obtain ⟨v1, e1, l1, u1⟩ := hP _ (List.mem_cons_of_mem _ (List.mem_cons_self))
          have g1 : 1 * (σ'.2.1 118 13).toInt + 0 = v1 := Option.some.inj e1
          obtain ⟨v2, e2, l2, u2⟩ := hP _ (List.mem_cons_of_mem _ (List.mem_cons_of_mem _ (List.mem_cons_self)))
          have g2 : 1 * (σ.2.1 118 10).toInt + ((-1) * (σ'.2.1 118 14).toInt + 0) = v2 := Option.some.inj e2
          exact ret0 r _ ⟨by rw [g0]; exact l0, by rw [g0]; exact u0⟩ ⟨by rw [g1]; exact l1, by rw [g1]; exact u1⟩ ⟨by rw [g2]; exact l2, by rw [g2]; exact u2⟩ hM2
  · intro u hu
    cases hu
theorem sg_op3b_run (G : sx_G0 g L xs zK hd_T ex_mt) (hct : ∀ (mi : Nat) (T2 : ex_T) (c' : sx_Ct), ex_mt mi = some T2 → c' ∈ k9 mi → c'.1 < 0 → sx_Holds g zK hd_T T2 c') {σ : am_S} {lw : List (Nat × Value)} {post : Option (Option Value) → am_S → Prop} (hM : sx_M zK hd_T σ 0 0 σ) (hl : (0, Value.ref 118) ∈ lw) {m1 : Int32} (hl1 : (1, Value.int m1) ∈ lw) (bl1 : 0 ≤ m1.toInt ∧ m1.toInt ≤ 0) {m2 : Int32} (hl2 : (2, Value.int m2) ∈ lw) (bl2 : 1 ≤ m2.toInt ∧ m2.toInt ≤ 1) (bp118_40 : 0 ≤ (σ.2.1 118 40).toInt ∧ (σ.2.1 118 40).toInt ≤ 19) (bp118_42 : 0 ≤ (σ.2.1 118 42).toInt ∧ (σ.2.1 118 42).toInt ≤ 8) {n0 : Int32} (bk0 : (-1) ≤ n0.toInt ∧ n0.toInt ≤ (-1)) (cuta : ∀ (lw' : List (Nat × Value)) (m1' : Int32) (m2' : Int32) (m3' : Int32) (σ' : am_S), (0, Value.ref 118) ∈ lw' → (1, Value.int m1') ∈ lw' → (2, Value.int m2') ∈ lw' → (3, Value.int m3') ∈ lw' → (0 ≤ 1 * m1.toInt + ((-1) * m1'.toInt + 0) ∧ 1 * m1.toInt + ((-1) * m1'.toInt + 0) ≤ 0) → (0 ≤ 1 * m2.toInt + ((-1) * m2'.toInt + 0) ∧ 1 * m2.toInt + ((-1) * m2'.toInt + 0) ≤ 0) → (0 ≤ 1 * n0.toInt + ((-1) * m3'.toInt + 0) ∧ 1 * n0.toInt + ((-1) * m3'.toInt + 0) ≤ 0) → ((-1) ≤ 1 * (σ.2.1 118 40).toInt + ((-1) * (σ'.2.1 118 40).toInt + 0) ∧ 1 * (σ.2.1 118 40).toInt + ((-1) * (σ'.2.1 118 40).toInt + 0) ≤ (-1)) → sx_M zK hd_T σ 1291124939043454294827959586001505937164852896414611756415329678270323811008420597314822676640068915717951585986373746688 0 σ' → am_K g 20 tX12_operand.1 0 0 73 lw' [.ref 118] σ' post) : am_K g 20 tX12_operand.1 0 0 19 lw [.int n0] σ post := by
  refine sg_seg (sw := [.int n0]) (vs := [m1.toInt, m2.toInt, (σ.2.1 118 40).toInt, (σ.2.1 118 42).toInt]) (ws := [n0.toInt]) G (mi := 146) rfl hct sg_op3b_ok ⟨⟨m1, hl1, rfl⟩, ⟨⟨m2, hl2, rfl⟩, ⟨rfl, ⟨rfl, trivial⟩⟩⟩⟩ (hd_refs hl) ⟨⟨n0, rfl, rfl⟩, trivial⟩ (hd_p1 rfl bl1.1 bl1.2 (hd_p1 rfl bl2.1 bl2.2 (hd_p1 rfl bp118_40.1 bp118_40.2 (hd_p1 rfl bp118_42.1 bp118_42.2 (hd_p1 rfl bk0.1 bk0.2 hd_p0))))) hM ?_ ?_
  · intro r σ' hq
    cases r with
    | none => exact hq.elim
    | some v =>
      obtain ⟨p, hp, hM2, ks, hk, hv⟩ := hq
      cases hp
  · intro u hu
    simp only [List.mem_cons, List.not_mem_nil, or_false] at hu
    rcases hu with rfl
    · intro lw' sw' vs' ws' σ' ⟨h1_0, h2, h3_0, h4, h5⟩
      obtain ⟨m1', vs1, rfl, hm1, h1_1⟩ := hd_srcl h1_0
      obtain ⟨m2', vs2, rfl, hm2, h1_2⟩ := hd_srcl h1_1
      obtain ⟨m3', vs3, rfl, hm3, h1_3⟩ := hd_srcl h1_2
      obtain ⟨vs4, rfl, h1_4⟩ := hd_srcs h1_3
      obtain rfl := hd_src0 h1_4
      obtain ⟨sw1, rfl, h3_1⟩ := hd_str h3_0
      obtain ⟨rfl, rfl⟩ := hd_st0 h3_1
      have hr9 := hd_ref0 h2
      obtain ⟨v0, e0, l0, u0⟩ := h4 _ (List.mem_cons_self)
      have g0 : 1 * m1.toInt + ((-1) * m1'.toInt + 0) = v0 := Option.some.inj e0
      obtain ⟨v1, e1, l1, u1⟩ := h4 _ (List.mem_cons_of_mem _ (List.mem_cons_self))
      have g1 : 1 * m2.toInt + ((-1) * m2'.toInt + 0) = v1 := Option.some.inj e1
      obtain ⟨v2, e2, l2, u2⟩ := h4 _ (List.mem_cons_of_mem _ (List.mem_cons_of_mem _ (List.mem_cons_self)))
      have g2 : 1 * n0.toInt + ((-1) * m3'.toInt + 0) = v2 := Option.some.inj e2
      obtain ⟨v3, e3, l3, u3⟩ := h4 _ (List.mem_cons_of_mem _ (List.mem_cons_of_mem _ (List.mem_cons_of_mem _ (List.mem_cons_self))))
      have g3 : 1 * (σ.2.1 118 40).toInt + ((-1) * (σ'.2.1 118 40).toInt + 0) = v3 := Option.some.inj e3
      exact cuta _ _ _ _ _ hr9 hm1 hm2 hm3 ⟨by rw [g0]; exact l0, by rw [g0]; exact u0⟩ ⟨by rw [g1]; exact l1, by rw [g1]; exact u1⟩ ⟨by rw [g2]; exact l2, by rw [g2]; exact u2⟩ ⟨by rw [g3]; exact l3, by rw [g3]; exact u3⟩ h5
theorem sg_op3c4_run (G : sx_G0 g L xs zK hd_T ex_mt) (hct : ∀ (mi : Nat) (T2 : ex_T) (c' : sx_Ct), ex_mt mi = some T2 → c' ∈ k9 mi → c'.1 < 0 → sx_Holds g zK hd_T T2 c') {σ : am_S} {lw : List (Nat × Value)} {post : Option (Option Value) → am_S → Prop} (hM : sx_M zK hd_T σ 0 0 σ) (hl : (0, Value.ref 118) ∈ lw) {m1 : Int32} (hl1 : (1, Value.int m1) ∈ lw) (bl1 : 0 ≤ m1.toInt ∧ m1.toInt ≤ 0) {m2 : Int32} (hl2 : (2, Value.int m2) ∈ lw) (bl2 : 0 ≤ m2.toInt ∧ m2.toInt ≤ 0) (bp118_40 : 20 ≤ (σ.2.1 118 40).toInt ∧ (σ.2.1 118 40).toInt ≤ 20) {n0 : Int32} (bk0 : 0 ≤ n0.toInt ∧ n0.toInt ≤ 6) (ret0 : ∀ (r : Int32) (σ' : am_S), (0 ≤ 1 * r.toInt + 0 ∧ 1 * r.toInt + 0 ≤ 0) → (4 ≤ 1 * (σ'.2.1 118 13).toInt + 0 ∧ 1 * (σ'.2.1 118 13).toInt + 0 ≤ 4) → (0 ≤ 1 * (σ.2.1 118 10).toInt + ((-1) * (σ'.2.1 118 14).toInt + 0) ∧ 1 * (σ.2.1 118 10).toInt + ((-1) * (σ'.2.1 118 14).toInt + 0) ≤ 0) → sx_M zK hd_T σ 28858891257124862704305937573347373392392387160985434571251191458187784500608308553281933292152037822856416985088 0 σ' → post (some (some (.int r))) σ') : am_K g 20 tX12_operand.1 0 0 19 lw [.int n0] σ post := by
  refine sg_seg (sw := [.int n0]) (vs := [m1.toInt, m2.toInt, (σ.2.1 118 10).toInt, (σ.2.1 118 40).toInt]) (ws := [n0.toInt]) G (mi := 146) rfl hct sg_op3c4_ok ⟨⟨m1, hl1, rfl⟩, ⟨⟨m2, hl2, rfl⟩, ⟨rfl, ⟨rfl, trivial⟩⟩⟩⟩ (hd_refs hl) ⟨⟨n0, rfl, rfl⟩, trivial⟩ (hd_p1 rfl bl1.1 bl1.2 (hd_p1 rfl bl2.1 bl2.2 (hd_p1 rfl (hd_kd_118_10 hM).1 (hd_kd_118_10 hM).2 (hd_p1 rfl bp118_40.1 bp118_40.2 (hd_p1 rfl bk0.1 bk0.2 hd_p0))))) hM ?_ ?_
  · intro r σ' hq
    cases r with
    | none => exact hq.elim
    | some v =>
      obtain ⟨p, hp, hM2, ks, hk, hv⟩ := hq
      simp only [List.mem_cons, List.not_mem_nil, or_false] at hp
      rcases hp with rfl
      · obtain ⟨ks0, rfl, hk1⟩ := hd_keyc hk; obtain ⟨ks1, rfl, hk2⟩ := hd_keyc hk1; obtain rfl := hd_keys hk2
        cases v with
        | none => exact hv.elim
        | some w9 =>
          obtain ⟨r, rfl, hP⟩ := hv
          obtain ⟨v0, e0, l0, u0⟩ := hP _ (List.mem_cons_self)
          have g0 : 1 * r.toInt + 0 = v0 := Option.some.inj e0
          obtain ⟨v1, e1, l1, u1⟩ := hP _ (List.mem_cons_of_mem _ (List.mem_cons_self))
          have g1 : 1 * (σ'.2.1 118 13).toInt + 0 = v1 := Option.some.inj e1
          obtain ⟨v2, e2, l2, u2⟩ := hP _ (List.mem_cons_of_mem _ (List.mem_cons_of_mem _ (List.mem_cons_self)))
          have g2 : 1 * (σ.2.1 118 10).toInt + ((-1) * (σ'.2.1 118 14).toInt + 0) = v2 := Option.some.inj e2
          exact ret0 r _ ⟨by rw [g0]; exact l0, by rw [g0]; exact u0⟩ ⟨by rw [g1]; exact l1, by rw [g1]; exact u1⟩ ⟨by rw [g2]; exact l2, by rw [g2]; exact u2⟩ hM2
  · intro u hu
    cases hu
theorem sg_op3c5_run (G : sx_G0 g L xs zK hd_T ex_mt) (hct : ∀ (mi : Nat) (T2 : ex_T) (c' : sx_Ct), ex_mt mi = some T2 → c' ∈ k9 mi → c'.1 < 0 → sx_Holds g zK hd_T T2 c') {σ : am_S} {lw : List (Nat × Value)} {post : Option (Option Value) → am_S → Prop} (hM : sx_M zK hd_T σ 0 0 σ) (hl : (0, Value.ref 118) ∈ lw) {m1 : Int32} (hl1 : (1, Value.int m1) ∈ lw) (bl1 : 0 ≤ m1.toInt ∧ m1.toInt ≤ 0) {m2 : Int32} (hl2 : (2, Value.int m2) ∈ lw) (bl2 : 0 ≤ m2.toInt ∧ m2.toInt ≤ 0) (bp118_40 : 0 ≤ (σ.2.1 118 40).toInt ∧ (σ.2.1 118 40).toInt ≤ 19) (bp118_42 : 9 ≤ (σ.2.1 118 42).toInt ∧ (σ.2.1 118 42).toInt ≤ 1000) {n0 : Int32} (bk0 : 0 ≤ n0.toInt ∧ n0.toInt ≤ 6) (ret0 : ∀ (r : Int32) (σ' : am_S), (0 ≤ 1 * r.toInt + 0 ∧ 1 * r.toInt + 0 ≤ 0) → (4 ≤ 1 * (σ'.2.1 118 13).toInt + 0 ∧ 1 * (σ'.2.1 118 13).toInt + 0 ≤ 4) → (0 ≤ 1 * (σ.2.1 118 10).toInt + ((-1) * (σ'.2.1 118 14).toInt + 0) ∧ 1 * (σ.2.1 118 10).toInt + ((-1) * (σ'.2.1 118 14).toInt + 0) ≤ 0) → sx_M zK hd_T σ 28858891257124862704305937573347373392392387160985434571251191458187784500608308553281933292152037822856416985088 0 σ' → post (some (some (.int r))) σ') : am_K g 20 tX12_operand.1 0 0 19 lw [.int n0] σ post := by
  refine sg_seg (sw := [.int n0]) (vs := [m1.toInt, m2.toInt, (σ.2.1 118 10).toInt, (σ.2.1 118 40).toInt, (σ.2.1 118 42).toInt]) (ws := [n0.toInt]) G (mi := 146) rfl hct sg_op3c5_ok ⟨⟨m1, hl1, rfl⟩, ⟨⟨m2, hl2, rfl⟩, ⟨rfl, ⟨rfl, ⟨rfl, trivial⟩⟩⟩⟩⟩ (hd_refs hl) ⟨⟨n0, rfl, rfl⟩, trivial⟩ (hd_p1 rfl bl1.1 bl1.2 (hd_p1 rfl bl2.1 bl2.2 (hd_p1 rfl (hd_kd_118_10 hM).1 (hd_kd_118_10 hM).2 (hd_p1 rfl bp118_40.1 bp118_40.2 (hd_p1 rfl bp118_42.1 bp118_42.2 (hd_p1 rfl bk0.1 bk0.2 hd_p0)))))) hM ?_ ?_
  · intro r σ' hq
    cases r with
    | none => exact hq.elim
    | some v =>
      obtain ⟨p, hp, hM2, ks, hk, hv⟩ := hq
      simp only [List.mem_cons, List.not_mem_nil, or_false] at hp
      rcases hp with rfl
      · obtain ⟨ks0, rfl, hk1⟩ := hd_keyc hk; obtain ⟨ks1, rfl, hk2⟩ := hd_keyc hk1; obtain rfl := hd_keys hk2
        cases v with
        | none => exact hv.elim
        | some w9 =>
          obtain ⟨r, rfl, hP⟩ := hv
          obtain ⟨v0, e0, l0, u0⟩ := hP _ (List.mem_cons_self)
          have g0 : 1 * r.toInt + 0 = v0 := Option.some.inj e0
          obtain ⟨v1, e1, l1, u1⟩ := hP _ (List.mem_cons_of_mem _ (List.mem_cons_self))
          have g1 : 1 * (σ'.2.1 118 13).toInt + 0 = v1 := Option.some.inj e1
          obtain ⟨v2, e2, l2, u2⟩ := hP _ (List.mem_cons_of_mem _ (List.mem_cons_of_mem _ (List.mem_cons_self)))
          have g2 : 1 * (σ.2.1 118 10).toInt + ((-1) * (σ'.2.1 118 14).toInt + 0) = v2 := Option.some.inj e2
          exact ret0 r _ ⟨by rw [g0]; exact l0, by rw [g0]; exact u0⟩ ⟨by rw [g1]; exact l1, by rw [g1]; exact u1⟩ ⟨by rw [g2]; exact l2, by rw [g2]; exact u2⟩ hM2
  · intro u hu
    cases hu
theorem sg_op3c_run (G : sx_G0 g L xs zK hd_T ex_mt) (hct : ∀ (mi : Nat) (T2 : ex_T) (c' : sx_Ct), ex_mt mi = some T2 → c' ∈ k9 mi → c'.1 < 0 → sx_Holds g zK hd_T T2 c') {σ : am_S} {lw : List (Nat × Value)} {post : Option (Option Value) → am_S → Prop} (hM : sx_M zK hd_T σ 0 0 σ) (hl : (0, Value.ref 118) ∈ lw) {m1 : Int32} (hl1 : (1, Value.int m1) ∈ lw) (bl1 : 0 ≤ m1.toInt ∧ m1.toInt ≤ 0) {m2 : Int32} (hl2 : (2, Value.int m2) ∈ lw) (bl2 : 0 ≤ m2.toInt ∧ m2.toInt ≤ 0) (bp118_40 : 0 ≤ (σ.2.1 118 40).toInt ∧ (σ.2.1 118 40).toInt ≤ 19) (bp118_42 : 0 ≤ (σ.2.1 118 42).toInt ∧ (σ.2.1 118 42).toInt ≤ 8) {n0 : Int32} (bk0 : 0 ≤ n0.toInt ∧ n0.toInt ≤ 6) (cuta : ∀ (lw' : List (Nat × Value)) (m1' : Int32) (m2' : Int32) (m3' : Int32) (σ' : am_S), (0, Value.ref 118) ∈ lw' → (1, Value.int m1') ∈ lw' → (2, Value.int m2') ∈ lw' → (3, Value.int m3') ∈ lw' → (0 ≤ 1 * m1.toInt + ((-1) * m1'.toInt + 0) ∧ 1 * m1.toInt + ((-1) * m1'.toInt + 0) ≤ 0) → (0 ≤ 1 * m2.toInt + ((-1) * m2'.toInt + 0) ∧ 1 * m2.toInt + ((-1) * m2'.toInt + 0) ≤ 0) → (0 ≤ 1 * n0.toInt + ((-1) * m3'.toInt + 0) ∧ 1 * n0.toInt + ((-1) * m3'.toInt + 0) ≤ 0) → ((-1) ≤ 1 * (σ.2.1 118 40).toInt + ((-1) * (σ'.2.1 118 40).toInt + 0) ∧ 1 * (σ.2.1 118 40).toInt + ((-1) * (σ'.2.1 118 40).toInt + 0) ≤ (-1)) → sx_M zK hd_T σ 1291124939043454294827959586001505937164852896414611756415329678270323811008420597314822676640068915717951585986373746688 0 σ' → am_K g 20 tX12_operand.1 0 0 73 lw' [.ref 118] σ' post) : am_K g 20 tX12_operand.1 0 0 19 lw [.int n0] σ post := by
  refine sg_seg (sw := [.int n0]) (vs := [m1.toInt, m2.toInt, (σ.2.1 118 40).toInt, (σ.2.1 118 42).toInt]) (ws := [n0.toInt]) G (mi := 146) rfl hct sg_op3c_ok ⟨⟨m1, hl1, rfl⟩, ⟨⟨m2, hl2, rfl⟩, ⟨rfl, ⟨rfl, trivial⟩⟩⟩⟩ (hd_refs hl) ⟨⟨n0, rfl, rfl⟩, trivial⟩ (hd_p1 rfl bl1.1 bl1.2 (hd_p1 rfl bl2.1 bl2.2 (hd_p1 rfl bp118_40.1 bp118_40.2 (hd_p1 rfl bp118_42.1 bp118_42.2 (hd_p1 rfl bk0.1 bk0.2 hd_p0))))) hM ?_ ?_
  · intro r σ' hq
    cases r with
    | none => exact hq.elim
    | some v =>
      obtain ⟨p, hp, hM2, ks, hk, hv⟩ := hq
      cases hp
  · intro u hu
    simp only [List.mem_cons, List.not_mem_nil, or_false] at hu
    rcases hu with rfl
    · intro lw' sw' vs' ws' σ' ⟨h1_0, h2, h3_0, h4, h5⟩
      obtain ⟨m1', vs1, rfl, hm1, h1_1⟩ := hd_srcl h1_0
      obtain ⟨m2', vs2, rfl, hm2, h1_2⟩ := hd_srcl h1_1
      obtain ⟨m3', vs3, rfl, hm3, h1_3⟩ := hd_srcl h1_2
      obtain ⟨vs4, rfl, h1_4⟩ := hd_srcs h1_3
      obtain rfl := hd_src0 h1_4
      obtain ⟨sw1, rfl, h3_1⟩ := hd_str h3_0
      obtain ⟨rfl, rfl⟩ := hd_st0 h3_1
      have hr9 := hd_ref0 h2
      obtain ⟨v0, e0, l0, u0⟩ := h4 _ (List.mem_cons_self)
      have g0 : 1 * m1.toInt + ((-1) * m1'.toInt + 0) = v0 := Option.some.inj e0
      obtain ⟨v1, e1, l1, u1⟩ := h4 _ (List.mem_cons_of_mem _ (List.mem_cons_self))
      have g1 : 1 * m2.toInt + ((-1) * m2'.toInt + 0) = v1 := Option.some.inj e1
      obtain ⟨v2, e2, l2, u2⟩ := h4 _ (List.mem_cons_of_mem _ (List.mem_cons_of_mem _ (List.mem_cons_self)))
      have g2 : 1 * n0.toInt + ((-1) * m3'.toInt + 0) = v2 := Option.some.inj e2
      obtain ⟨v3, e3, l3, u3⟩ := h4 _ (List.mem_cons_of_mem _ (List.mem_cons_of_mem _ (List.mem_cons_of_mem _ (List.mem_cons_self))))
      have g3 : 1 * (σ.2.1 118 40).toInt + ((-1) * (σ'.2.1 118 40).toInt + 0) = v3 := Option.some.inj e3
      exact cuta _ _ _ _ _ hr9 hm1 hm2 hm3 ⟨by rw [g0]; exact l0, by rw [g0]; exact u0⟩ ⟨by rw [g1]; exact l1, by rw [g1]; exact u1⟩ ⟨by rw [g2]; exact l2, by rw [g2]; exact u2⟩ ⟨by rw [g3]; exact l3, by rw [g3]; exact u3⟩ h5
theorem sg_op4n_run (G : sx_G0 g L xs zK hd_T ex_mt) (hct : ∀ (mi : Nat) (T2 : ex_T) (c' : sx_Ct), ex_mt mi = some T2 → c' ∈ k9 mi → c'.1 < 0 → sx_Holds g zK hd_T T2 c') {σ : am_S} {lw : List (Nat × Value)} {post : Option (Option Value) → am_S → Prop} (hM : sx_M zK hd_T σ 0 0 σ) (hl : (0, Value.ref 118) ∈ lw) {m1 : Int32} (hl1 : (1, Value.int m1) ∈ lw) (bl1 : 1 ≤ m1.toInt ∧ m1.toInt ≤ 1) {m2 : Int32} (hl2 : (2, Value.int m2) ∈ lw) (cuta : ∀ (lw' : List (Nat × Value)) (n0' : Int32) (n1' : Int32) (σ' : am_S), (0, Value.ref 118) ∈ lw' → (20 ≤ 1 * n0'.toInt + 0 ∧ 1 * n0'.toInt + 0 ≤ 20) → (0 ≤ 1 * (σ.2.1 118 41).toInt + ((-1) * n1'.toInt + 0) ∧ 1 * (σ.2.1 118 41).toInt + ((-1) * n1'.toInt + 0) ≤ 0) → sx_M zK hd_T σ 0 0 σ' → am_K g 20 tX12_operand.1 0 0 103 lw' [.int n0', .int n1', .ref 134] σ' post) : am_K g 20 tX12_operand.1 0 0 76 lw [] σ post := by
  refine sg_seg (sw := []) (vs := [m1.toInt, m2.toInt, (σ.2.1 118 41).toInt]) (ws := []) G (mi := 146) rfl hct sg_op4n_ok ⟨⟨m1, hl1, rfl⟩, ⟨⟨m2, hl2, rfl⟩, ⟨rfl, trivial⟩⟩⟩ (hd_refs hl) trivial (hd_p1 rfl bl1.1 bl1.2 (hd_p1 rfl (Int32.le_toInt _) (Int32.toInt_le _) (hd_p1 rfl (hd_kd_118_41 hM).1 (hd_kd_118_41 hM).2 hd_p0))) hM ?_ ?_
  · intro r σ' hq
    cases r with
    | none => exact hq.elim
    | some v =>
      obtain ⟨p, hp, hM2, ks, hk, hv⟩ := hq
      cases hp
  · intro u hu
    simp only [List.mem_cons, List.not_mem_nil, or_false] at hu
    rcases hu with rfl
    · intro lw' sw' vs' ws' σ' ⟨h1_0, h2, h3_0, h4, h5⟩
      obtain rfl := hd_src0 h1_0
      obtain ⟨n0', sw1, ws1, rfl, rfl, h3_1⟩ := hd_sti h3_0
      obtain ⟨n1', sw2, ws2, rfl, rfl, h3_2⟩ := hd_sti h3_1
      obtain ⟨sw3, rfl, h3_3⟩ := hd_str h3_2
      obtain ⟨rfl, rfl⟩ := hd_st0 h3_3
      have hr9 := hd_ref0 h2
      obtain ⟨v0, e0, l0, u0⟩ := h4 _ (List.mem_cons_self)
      have g0 : 1 * n0'.toInt + 0 = v0 := Option.some.inj e0
      obtain ⟨v1, e1, l1, u1⟩ := h4 _ (List.mem_cons_of_mem _ (List.mem_cons_self))
      have g1 : 1 * (σ.2.1 118 41).toInt + ((-1) * n1'.toInt + 0) = v1 := Option.some.inj e1
      exact cuta _ _ _ _ hr9  ⟨by rw [g0]; exact l0, by rw [g0]; exact u0⟩ ⟨by rw [g1]; exact l1, by rw [g1]; exact u1⟩ h5
theorem sg_op4o_run (G : sx_G0 g L xs zK hd_T ex_mt) (hct : ∀ (mi : Nat) (T2 : ex_T) (c' : sx_Ct), ex_mt mi = some T2 → c' ∈ k9 mi → c'.1 < 0 → sx_Holds g zK hd_T T2 c') {σ : am_S} {lw : List (Nat × Value)} {post : Option (Option Value) → am_S → Prop} (hM : sx_M zK hd_T σ 0 0 σ) (hl : (0, Value.ref 118) ∈ lw) {m1 : Int32} (hl1 : (1, Value.int m1) ∈ lw) (bl1 : 0 ≤ m1.toInt ∧ m1.toInt ≤ 0) {m2 : Int32} (hl2 : (2, Value.int m2) ∈ lw) (bl2 : 1 ≤ m2.toInt ∧ m2.toInt ≤ 1) (cuta : ∀ (lw' : List (Nat × Value)) (n0' : Int32) (n1' : Int32) (σ' : am_S), (0, Value.ref 118) ∈ lw' → (23 ≤ 1 * n0'.toInt + 0 ∧ 1 * n0'.toInt + 0 ≤ 23) → (0 ≤ 1 * (σ.2.1 118 41).toInt + ((-1) * n1'.toInt + 0) ∧ 1 * (σ.2.1 118 41).toInt + ((-1) * n1'.toInt + 0) ≤ 0) → sx_M zK hd_T σ 0 0 σ' → am_K g 20 tX12_operand.1 0 0 103 lw' [.int n0', .int n1', .ref 134] σ' post) : am_K g 20 tX12_operand.1 0 0 76 lw [] σ post := by
  refine sg_seg (sw := []) (vs := [m1.toInt, m2.toInt, (σ.2.1 118 41).toInt]) (ws := []) G (mi := 146) rfl hct sg_op4o_ok ⟨⟨m1, hl1, rfl⟩, ⟨⟨m2, hl2, rfl⟩, ⟨rfl, trivial⟩⟩⟩ (hd_refs hl) trivial (hd_p1 rfl bl1.1 bl1.2 (hd_p1 rfl bl2.1 bl2.2 (hd_p1 rfl (hd_kd_118_41 hM).1 (hd_kd_118_41 hM).2 hd_p0))) hM ?_ ?_
  · intro r σ' hq
    cases r with
    | none => exact hq.elim
    | some v =>
      obtain ⟨p, hp, hM2, ks, hk, hv⟩ := hq
      cases hp
  · intro u hu
    simp only [List.mem_cons, List.not_mem_nil, or_false] at hu
    rcases hu with rfl
    · intro lw' sw' vs' ws' σ' ⟨h1_0, h2, h3_0, h4, h5⟩
      obtain rfl := hd_src0 h1_0
      obtain ⟨n0', sw1, ws1, rfl, rfl, h3_1⟩ := hd_sti h3_0
      obtain ⟨n1', sw2, ws2, rfl, rfl, h3_2⟩ := hd_sti h3_1
      obtain ⟨sw3, rfl, h3_3⟩ := hd_str h3_2
      obtain ⟨rfl, rfl⟩ := hd_st0 h3_3
      have hr9 := hd_ref0 h2
      obtain ⟨v0, e0, l0, u0⟩ := h4 _ (List.mem_cons_self)
      have g0 : 1 * n0'.toInt + 0 = v0 := Option.some.inj e0
      obtain ⟨v1, e1, l1, u1⟩ := h4 _ (List.mem_cons_of_mem _ (List.mem_cons_self))
      have g1 : 1 * (σ.2.1 118 41).toInt + ((-1) * n1'.toInt + 0) = v1 := Option.some.inj e1
      exact cuta _ _ _ _ hr9  ⟨by rw [g0]; exact l0, by rw [g0]; exact u0⟩ ⟨by rw [g1]; exact l1, by rw [g1]; exact u1⟩ h5
theorem sg_op4l_run (G : sx_G0 g L xs zK hd_T ex_mt) (hct : ∀ (mi : Nat) (T2 : ex_T) (c' : sx_Ct), ex_mt mi = some T2 → c' ∈ k9 mi → c'.1 < 0 → sx_Holds g zK hd_T T2 c') {σ : am_S} {lw : List (Nat × Value)} {post : Option (Option Value) → am_S → Prop} (hM : sx_M zK hd_T σ 0 0 σ) (hl : (0, Value.ref 118) ∈ lw) {m1 : Int32} (hl1 : (1, Value.int m1) ∈ lw) (bl1 : 0 ≤ m1.toInt ∧ m1.toInt ≤ 0) {m2 : Int32} (hl2 : (2, Value.int m2) ∈ lw) (bl2 : 0 ≤ m2.toInt ∧ m2.toInt ≤ 0) {m3 : Int32} (hl3 : (3, Value.int m3) ∈ lw) (bl3 : 0 ≤ m3.toInt ∧ m3.toInt ≤ 2) (cuta : ∀ (lw' : List (Nat × Value)) (n0' : Int32) (n1' : Int32) (n2' : Int32) (σ' : am_S), (0, Value.ref 118) ∈ lw' → (0 ≤ 1 * n0'.toInt + 0 ∧ 1 * n0'.toInt + 0 ≤ 0) → (0 ≤ 1 * n1'.toInt + 0 ∧ 1 * n1'.toInt + 0 ≤ 0) → (0 ≤ 1 * m3.toInt + ((-1) * n2'.toInt + 0) ∧ 1 * m3.toInt + ((-1) * n2'.toInt + 0) ≤ 0) → (1 ≤ 1 * (σ'.2.1 118 43).toInt + 0 ∧ 1 * (σ'.2.1 118 43).toInt + 0 ≤ 1) → sx_M zK hd_T σ 10328999512347634358623676688012047497318823171316894051322637426162590488067364778518581413120551325743612687890989973504 0 σ' → am_K g 20 tX12_operand.1 0 0 140 lw' [.int n0', .int n1', .int n2', .ref 118] σ' post) : am_K g 20 tX12_operand.1 0 0 76 lw [] σ post := by
  refine sg_seg (sw := []) (vs := [m1.toInt, m2.toInt, m3.toInt]) (ws := []) G (mi := 146) rfl hct sg_op4l_ok ⟨⟨m1, hl1, rfl⟩, ⟨⟨m2, hl2, rfl⟩, ⟨⟨m3, hl3, rfl⟩, trivial⟩⟩⟩ (hd_refs hl) trivial (hd_p1 rfl bl1.1 bl1.2 (hd_p1 rfl bl2.1 bl2.2 (hd_p1 rfl bl3.1 bl3.2 hd_p0))) hM ?_ ?_
  · intro r σ' hq
    cases r with
    | none => exact hq.elim
    | some v =>
      obtain ⟨p, hp, hM2, ks, hk, hv⟩ := hq
      cases hp
  · intro u hu
    simp only [List.mem_cons, List.not_mem_nil, or_false] at hu
    rcases hu with rfl
    · intro lw' sw' vs' ws' σ' ⟨h1_0, h2, h3_0, h4, h5⟩
      obtain ⟨vs1, rfl, h1_1⟩ := hd_srcs h1_0
      obtain rfl := hd_src0 h1_1
      obtain ⟨n0', sw1, ws1, rfl, rfl, h3_1⟩ := hd_sti h3_0
      obtain ⟨n1', sw2, ws2, rfl, rfl, h3_2⟩ := hd_sti h3_1
      obtain ⟨n2', sw3, ws3, rfl, rfl, h3_3⟩ := hd_sti h3_2
      obtain ⟨sw4, rfl, h3_4⟩ := hd_str h3_3
      obtain ⟨rfl, rfl⟩ := hd_st0 h3_4
      have hr9 := hd_ref0 h2
      obtain ⟨v0, e0, l0, u0⟩ := h4 _ (List.mem_cons_self)
      have g0 : 1 * n0'.toInt + 0 = v0 := Option.some.inj e0
      obtain ⟨v1, e1, l1, u1⟩ := h4 _ (List.mem_cons_of_mem _ (List.mem_cons_self))
      have g1 : 1 * n1'.toInt + 0 = v1 := Option.some.inj e1
      obtain ⟨v2, e2, l2, u2⟩ := h4 _ (List.mem_cons_of_mem _ (List.mem_cons_of_mem _ (List.mem_cons_self)))
      have g2 : 1 * m3.toInt + ((-1) * n2'.toInt + 0) = v2 := Option.some.inj e2
      obtain ⟨v3, e3, l3, u3⟩ := h4 _ (List.mem_cons_of_mem _ (List.mem_cons_of_mem _ (List.mem_cons_of_mem _ (List.mem_cons_self))))
      have g3 : 1 * (σ'.2.1 118 43).toInt + 0 = v3 := Option.some.inj e3
      exact cuta _ _ _ _ _ hr9  ⟨by rw [g0]; exact l0, by rw [g0]; exact u0⟩ ⟨by rw [g1]; exact l1, by rw [g1]; exact u1⟩ ⟨by rw [g2]; exact l2, by rw [g2]; exact u2⟩ ⟨by rw [g3]; exact l3, by rw [g3]; exact u3⟩ h5
theorem sg_op5_run (G : sx_G0 g L xs zK hd_T ex_mt) (hct : ∀ (mi : Nat) (T2 : ex_T) (c' : sx_Ct), ex_mt mi = some T2 → c' ∈ k9 mi → c'.1 < 0 → sx_Holds g zK hd_T T2 c') {σ : am_S} {lw : List (Nat × Value)} {post : Option (Option Value) → am_S → Prop} (hM : sx_M zK hd_T σ 0 0 σ) (hl : (0, Value.ref 118) ∈ lw) (bp118_41 : 0 ≤ (σ.2.1 118 41).toInt ∧ (σ.2.1 118 41).toInt ≤ 39) (bp118_42 : 0 ≤ (σ.2.1 118 42).toInt ∧ (σ.2.1 118 42).toInt ≤ 1000) (ret0 : ∀ (r : Int32) (σ' : am_S), (1 ≤ 1 * r.toInt + 0 ∧ 1 * r.toInt + 0 ≤ 1) → ((-1) ≤ 1 * (σ.2.1 118 41).toInt + ((-1) * (σ'.2.1 118 41).toInt + 0) ∧ 1 * (σ.2.1 118 41).toInt + ((-1) * (σ'.2.1 118 41).toInt + 0) ≤ (-1)) → ((-1) ≤ 1 * (σ.2.1 118 42).toInt + ((-1) * (σ'.2.1 118 42).toInt + 0) ∧ 1 * (σ.2.1 118 42).toInt + ((-1) * (σ'.2.1 118 42).toInt + 0) ≤ (-1)) → sx_M zK hd_T σ 7746749634260725768967757516009035622989117378487670538491978069621942866050523583888936059840413494307709515918242480128 0 σ' → post (some (some (.int r))) σ') : am_K g 20 tX12_operand.1 0 0 104 lw [] σ post := by
  refine sg_seg (sw := []) (vs := [(σ.2.1 118 41).toInt, (σ.2.1 118 42).toInt]) (ws := []) G (mi := 146) rfl hct sg_op5_ok ⟨rfl, ⟨rfl, trivial⟩⟩ (hd_refs hl) trivial (hd_p1 rfl bp118_41.1 bp118_41.2 (hd_p1 rfl bp118_42.1 bp118_42.2 hd_p0)) hM ?_ ?_
  · intro r σ' hq
    cases r with
    | none => exact hq.elim
    | some v =>
      obtain ⟨p, hp, hM2, ks, hk, hv⟩ := hq
      simp only [List.mem_cons, List.not_mem_nil, or_false] at hp
      rcases hp with rfl
      · obtain ⟨ks0, rfl, hk1⟩ := hd_keyc hk; obtain ⟨ks1, rfl, hk2⟩ := hd_keyc hk1; obtain rfl := hd_keys hk2
        cases v with
        | none => exact hv.elim
        | some w9 =>
          obtain ⟨r, rfl, hP⟩ := hv
          obtain ⟨v0, e0, l0, u0⟩ := hP _ (List.mem_cons_self)
          have g0 : 1 * r.toInt + 0 = v0 := Option.some.inj e0
          obtain ⟨v1, e1, l1, u1⟩ := hP _ (List.mem_cons_of_mem _ (List.mem_cons_self))
          have g1 : 1 * (σ.2.1 118 41).toInt + ((-1) * (σ'.2.1 118 41).toInt + 0) = v1 := Option.some.inj e1
          obtain ⟨v2, e2, l2, u2⟩ := hP _ (List.mem_cons_of_mem _ (List.mem_cons_of_mem _ (List.mem_cons_self)))
          have g2 : 1 * (σ.2.1 118 42).toInt + ((-1) * (σ'.2.1 118 42).toInt + 0) = v2 := Option.some.inj e2
          exact ret0 r _ ⟨by rw [g0]; exact l0, by rw [g0]; exact u0⟩ ⟨by rw [g1]; exact l1, by rw [g1]; exact u1⟩ ⟨by rw [g2]; exact l2, by rw [g2]; exact u2⟩ hM2
  · intro u hu
    cases hu
theorem sg_op6_run (G : sx_G0 g L xs zK hd_T ex_mt) (hct : ∀ (mi : Nat) (T2 : ex_T) (c' : sx_Ct), ex_mt mi = some T2 → c' ∈ k9 mi → c'.1 < 0 → sx_Holds g zK hd_T T2 c') {σ : am_S} {lw : List (Nat × Value)} {post : Option (Option Value) → am_S → Prop} (hM : sx_M zK hd_T σ 0 0 σ) (hl : (0, Value.ref 118) ∈ lw)  (ret0 : ∀ (r : Int32) (σ' : am_S), (1 ≤ 1 * r.toInt + 0 ∧ 1 * r.toInt + 0 ≤ 1) → sx_M zK hd_T σ 0 0 σ' → post (some (some (.int r))) σ') : am_K g 20 tX12_operand.1 0 0 143 lw [] σ post := by
  refine sg_seg (sw := []) (vs := []) (ws := []) G (mi := 146) rfl hct sg_op6_ok trivial (hd_refs hl) trivial hd_p0 hM ?_ ?_
  · intro r σ' hq
    cases r with
    | none => exact hq.elim
    | some v =>
      obtain ⟨p, hp, hM2, ks, hk, hv⟩ := hq
      simp only [List.mem_cons, List.not_mem_nil, or_false] at hp
      rcases hp with rfl
      · obtain rfl := hd_keys hk
        cases v with
        | none => exact hv.elim
        | some w9 =>
          obtain ⟨r, rfl, hP⟩ := hv
          obtain ⟨v0, e0, l0, u0⟩ := hP _ (List.mem_cons_self)
          have g0 : 1 * r.toInt + 0 = v0 := Option.some.inj e0
          exact ret0 r _ ⟨by rw [g0]; exact l0, by rw [g0]; exact u0⟩ hM2
  · intro u hu
    cases hu
theorem sg_op7a_run (G : sx_G0 g L xs zK hd_T ex_mt) (hct : ∀ (mi : Nat) (T2 : ex_T) (c' : sx_Ct), ex_mt mi = some T2 → c' ∈ k9 mi → c'.1 < 0 → sx_Holds g zK hd_T T2 c') {σ : am_S} {lw : List (Nat × Value)} {post : Option (Option Value) → am_S → Prop} (hM : sx_M zK hd_T σ 0 0 σ) (hl : (0, Value.ref 118) ∈ lw) {m1 : Int32} (hl1 : (1, Value.int m1) ∈ lw) (bl1 : 0 ≤ m1.toInt ∧ m1.toInt ≤ 0) {m2 : Int32} (hl2 : (2, Value.int m2) ∈ lw) (bl2 : 0 ≤ m2.toInt ∧ m2.toInt ≤ 0) {m3 : Int32} (hl3 : (3, Value.int m3) ∈ lw) (bl3 : 3 ≤ m3.toInt ∧ m3.toInt ≤ 6) (bp118_9 : 0 ≤ (σ.2.1 118 9).toInt ∧ (σ.2.1 118 9).toInt ≤ 2) (ret0 : ∀ (r : Int32) (σ' : am_S), (0 ≤ 1 * r.toInt + 0 ∧ 1 * r.toInt + 0 ≤ 0) → (1 ≤ 1 * (σ'.2.1 118 13).toInt + 0 ∧ 1 * (σ'.2.1 118 13).toInt + 0 ≤ 1) → (0 ≤ 1 * (σ.2.1 118 10).toInt + ((-1) * (σ'.2.1 118 14).toInt + 0) ∧ 1 * (σ.2.1 118 10).toInt + ((-1) * (σ'.2.1 118 14).toInt + 0) ≤ 0) → sx_M zK hd_T σ 10328999541206525615748539392317985070666196563709281212308071997413781946255149279126889966402484617895650510747406958592 0 σ' → post (some (some (.int r))) σ') : am_K g 20 tX12_operand.1 0 0 76 lw [] σ post := by
  refine sg_seg (sw := []) (vs := [m1.toInt, m2.toInt, m3.toInt, (σ.2.1 118 9).toInt, (σ.2.1 118 10).toInt]) (ws := []) G (mi := 146) rfl hct sg_op7a_ok ⟨⟨m1, hl1, rfl⟩, ⟨⟨m2, hl2, rfl⟩, ⟨⟨m3, hl3, rfl⟩, ⟨rfl, ⟨rfl, trivial⟩⟩⟩⟩⟩ (hd_refs hl) trivial (hd_p1 rfl bl1.1 bl1.2 (hd_p1 rfl bl2.1 bl2.2 (hd_p1 rfl bl3.1 bl3.2 (hd_p1 rfl bp118_9.1 bp118_9.2 (hd_p1 rfl (hd_kd_118_10 hM).1 (hd_kd_118_10 hM).2 hd_p0))))) hM ?_ ?_
  · intro r σ' hq
    cases r with
    | none => exact hq.elim
    | some v =>
      obtain ⟨p, hp, hM2, ks, hk, hv⟩ := hq
      simp only [List.mem_cons, List.not_mem_nil, or_false] at hp
      rcases hp with rfl
      · obtain ⟨ks0, rfl, hk1⟩ := hd_keyc hk; obtain ⟨ks1, rfl, hk2⟩ := hd_keyc hk1; obtain rfl := hd_keys hk2
        cases v with
        | none => exact hv.elim
        | some w9 =>
          obtain ⟨r, rfl, hP⟩ := hv
          obtain ⟨v0, e0, l0, u0⟩ := hP _ (List.mem_cons_self)
          have g0 : 1 * r.toInt + 0 = v0 := Option.some.inj e0
          obtain ⟨v1, e1, l1, u1⟩ := hP _ (List.mem_cons_of_mem _ (List.mem_cons_self))
          have g1 : 1 * (σ'.2.1 118 13).toInt + 0 = v1 := Option.some.inj e1
          obtain ⟨v2, e2, l2, u2⟩ := hP _ (List.mem_cons_of_mem _ (List.mem_cons_of_mem _ (List.mem_cons_self)))
          have g2 : 1 * (σ.2.1 118 10).toInt + ((-1) * (σ'.2.1 118 14).toInt + 0) = v2 := Option.some.inj e2
          exact ret0 r _ ⟨by rw [g0]; exact l0, by rw [g0]; exact u0⟩ ⟨by rw [g1]; exact l1, by rw [g1]; exact u1⟩ ⟨by rw [g2]; exact l2, by rw [g2]; exact u2⟩ hM2
  · intro u hu
    cases hu
theorem sg_op7b_run (G : sx_G0 g L xs zK hd_T ex_mt) (hct : ∀ (mi : Nat) (T2 : ex_T) (c' : sx_Ct), ex_mt mi = some T2 → c' ∈ k9 mi → c'.1 < 0 → sx_Holds g zK hd_T T2 c') {σ : am_S} {lw : List (Nat × Value)} {post : Option (Option Value) → am_S → Prop} (hM : sx_M zK hd_T σ 0 0 σ) (hl : (0, Value.ref 118) ∈ lw) {m1 : Int32} (hl1 : (1, Value.int m1) ∈ lw) (bl1 : 0 ≤ m1.toInt ∧ m1.toInt ≤ 0) {m2 : Int32} (hl2 : (2, Value.int m2) ∈ lw) (bl2 : 0 ≤ m2.toInt ∧ m2.toInt ≤ 0) {m3 : Int32} (hl3 : (3, Value.int m3) ∈ lw) (bl3 : 3 ≤ m3.toInt ∧ m3.toInt ≤ 6) (bp118_9 : 4 ≤ (σ.2.1 118 9).toInt ∧ (σ.2.1 118 9).toInt ≤ 4) (ret0 : ∀ (r : Int32) (σ' : am_S), (0 ≤ 1 * r.toInt + 0 ∧ 1 * r.toInt + 0 ≤ 0) → (1 ≤ 1 * (σ'.2.1 118 13).toInt + 0 ∧ 1 * (σ'.2.1 118 13).toInt + 0 ≤ 1) → (0 ≤ 1 * (σ.2.1 118 10).toInt + ((-1) * (σ'.2.1 118 14).toInt + 0) ∧ 1 * (σ.2.1 118 10).toInt + ((-1) * (σ'.2.1 118 14).toInt + 0) ≤ 0) → sx_M zK hd_T σ 10328999541206525615748539392317985070666196563709281212308071997413781946255149279126889966402484617895650510747406958592 0 σ' → post (some (some (.int r))) σ') : am_K g 20 tX12_operand.1 0 0 76 lw [] σ post := by
  refine sg_seg (sw := []) (vs := [m1.toInt, m2.toInt, m3.toInt, (σ.2.1 118 9).toInt, (σ.2.1 118 10).toInt]) (ws := []) G (mi := 146) rfl hct sg_op7b_ok ⟨⟨m1, hl1, rfl⟩, ⟨⟨m2, hl2, rfl⟩, ⟨⟨m3, hl3, rfl⟩, ⟨rfl, ⟨rfl, trivial⟩⟩⟩⟩⟩ (hd_refs hl) trivial (hd_p1 rfl bl1.1 bl1.2 (hd_p1 rfl bl2.1 bl2.2 (hd_p1 rfl bl3.1 bl3.2 (hd_p1 rfl bp118_9.1 bp118_9.2 (hd_p1 rfl (hd_kd_118_10 hM).1 (hd_kd_118_10 hM).2 hd_p0))))) hM ?_ ?_
  · intro r σ' hq
    cases r with
    | none => exact hq.elim
    | some v =>
      obtain ⟨p, hp, hM2, ks, hk, hv⟩ := hq
      simp only [List.mem_cons, List.not_mem_nil, or_false] at hp
      rcases hp with rfl
      · obtain ⟨ks0, rfl, hk1⟩ := hd_keyc hk; obtain ⟨ks1, rfl, hk2⟩ := hd_keyc hk1; obtain rfl := hd_keys hk2
        cases v with
        | none => exact hv.elim
        | some w9 =>
          obtain ⟨r, rfl, hP⟩ := hv
          obtain ⟨v0, e0, l0, u0⟩ := hP _ (List.mem_cons_self)
          have g0 : 1 * r.toInt + 0 = v0 := Option.some.inj e0
          obtain ⟨v1, e1, l1, u1⟩ := hP _ (List.mem_cons_of_mem _ (List.mem_cons_self))
          have g1 : 1 * (σ'.2.1 118 13).toInt + 0 = v1 := Option.some.inj e1
          obtain ⟨v2, e2, l2, u2⟩ := hP _ (List.mem_cons_of_mem _ (List.mem_cons_of_mem _ (List.mem_cons_self)))
          have g2 : 1 * (σ.2.1 118 10).toInt + ((-1) * (σ'.2.1 118 14).toInt + 0) = v2 := Option.some.inj e2
          exact ret0 r _ ⟨by rw [g0]; exact l0, by rw [g0]; exact u0⟩ ⟨by rw [g1]; exact l1, by rw [g1]; exact u1⟩ ⟨by rw [g2]; exact l2, by rw [g2]; exact u2⟩ hM2
  · intro u hu
    cases hu
theorem sg_op7c_run (G : sx_G0 g L xs zK hd_T ex_mt) (hct : ∀ (mi : Nat) (T2 : ex_T) (c' : sx_Ct), ex_mt mi = some T2 → c' ∈ k9 mi → c'.1 < 0 → sx_Holds g zK hd_T T2 c') {σ : am_S} {lw : List (Nat × Value)} {post : Option (Option Value) → am_S → Prop} (hM : sx_M zK hd_T σ 0 0 σ) (hl : (0, Value.ref 118) ∈ lw) {m1 : Int32} (hl1 : (1, Value.int m1) ∈ lw) (bl1 : 0 ≤ m1.toInt ∧ m1.toInt ≤ 0) {m2 : Int32} (hl2 : (2, Value.int m2) ∈ lw) (bl2 : 0 ≤ m2.toInt ∧ m2.toInt ≤ 0) {m3 : Int32} (hl3 : (3, Value.int m3) ∈ lw) (bl3 : 3 ≤ m3.toInt ∧ m3.toInt ≤ 6) (bp118_9 : 3 ≤ (σ.2.1 118 9).toInt ∧ (σ.2.1 118 9).toInt ≤ 3) (bp118_12 : (-2147483648) ≤ (σ.2.1 118 12).toInt ∧ (σ.2.1 118 12).toInt ≤ 59) (ret0 : ∀ (r : Int32) (σ' : am_S), (0 ≤ 1 * r.toInt + 0 ∧ 1 * r.toInt + 0 ≤ 0) → (1 ≤ 1 * (σ'.2.1 118 13).toInt + 0 ∧ 1 * (σ'.2.1 118 13).toInt + 0 ≤ 1) → (0 ≤ 1 * (σ.2.1 118 10).toInt + ((-1) * (σ'.2.1 118 14).toInt + 0) ∧ 1 * (σ.2.1 118 10).toInt + ((-1) * (σ'.2.1 118 14).toInt + 0) ≤ 0) → sx_M zK hd_T σ 10328999541206525615748539392317985070666196563709281212308071997413781946255149279126889966402484617895650510747406958592 0 σ' → post (some (some (.int r))) σ') : am_K g 20 tX12_operand.1 0 0 76 lw [] σ post := by
  refine sg_seg (sw := []) (vs := [m1.toInt, m2.toInt, m3.toInt, (σ.2.1 118 9).toInt, (σ.2.1 118 12).toInt, (σ.2.1 118 10).toInt]) (ws := []) G (mi := 146) rfl hct sg_op7c_ok ⟨⟨m1, hl1, rfl⟩, ⟨⟨m2, hl2, rfl⟩, ⟨⟨m3, hl3, rfl⟩, ⟨rfl, ⟨rfl, ⟨rfl, trivial⟩⟩⟩⟩⟩⟩ (hd_refs hl) trivial (hd_p1 rfl bl1.1 bl1.2 (hd_p1 rfl bl2.1 bl2.2 (hd_p1 rfl bl3.1 bl3.2 (hd_p1 rfl bp118_9.1 bp118_9.2 (hd_p1 rfl bp118_12.1 bp118_12.2 (hd_p1 rfl (hd_kd_118_10 hM).1 (hd_kd_118_10 hM).2 hd_p0)))))) hM ?_ ?_
  · intro r σ' hq
    cases r with
    | none => exact hq.elim
    | some v =>
      obtain ⟨p, hp, hM2, ks, hk, hv⟩ := hq
      simp only [List.mem_cons, List.not_mem_nil, or_false] at hp
      rcases hp with rfl
      · obtain ⟨ks0, rfl, hk1⟩ := hd_keyc hk; obtain ⟨ks1, rfl, hk2⟩ := hd_keyc hk1; obtain rfl := hd_keys hk2
        cases v with
        | none => exact hv.elim
        | some w9 =>
          obtain ⟨r, rfl, hP⟩ := hv
          obtain ⟨v0, e0, l0, u0⟩ := hP _ (List.mem_cons_self)
          have g0 : 1 * r.toInt + 0 = v0 := Option.some.inj e0
          obtain ⟨v1, e1, l1, u1⟩ := hP _ (List.mem_cons_of_mem _ (List.mem_cons_self))
          have g1 : 1 * (σ'.2.1 118 13).toInt + 0 = v1 := Option.some.inj e1
          obtain ⟨v2, e2, l2, u2⟩ := hP _ (List.mem_cons_of_mem _ (List.mem_cons_of_mem _ (List.mem_cons_self)))
          have g2 : 1 * (σ.2.1 118 10).toInt + ((-1) * (σ'.2.1 118 14).toInt + 0) = v2 := Option.some.inj e2
          exact ret0 r _ ⟨by rw [g0]; exact l0, by rw [g0]; exact u0⟩ ⟨by rw [g1]; exact l1, by rw [g1]; exact u1⟩ ⟨by rw [g2]; exact l2, by rw [g2]; exact u2⟩ hM2
  · intro u hu
    cases hu
theorem sg_op7d_run (G : sx_G0 g L xs zK hd_T ex_mt) (hct : ∀ (mi : Nat) (T2 : ex_T) (c' : sx_Ct), ex_mt mi = some T2 → c' ∈ k9 mi → c'.1 < 0 → sx_Holds g zK hd_T T2 c') {σ : am_S} {lw : List (Nat × Value)} {post : Option (Option Value) → am_S → Prop} (hM : sx_M zK hd_T σ 0 0 σ) (hl : (0, Value.ref 118) ∈ lw) {m1 : Int32} (hl1 : (1, Value.int m1) ∈ lw) (bl1 : 0 ≤ m1.toInt ∧ m1.toInt ≤ 0) {m2 : Int32} (hl2 : (2, Value.int m2) ∈ lw) (bl2 : 0 ≤ m2.toInt ∧ m2.toInt ≤ 0) {m3 : Int32} (hl3 : (3, Value.int m3) ∈ lw) (bl3 : 3 ≤ m3.toInt ∧ m3.toInt ≤ 6) (bp118_9 : 3 ≤ (σ.2.1 118 9).toInt ∧ (σ.2.1 118 9).toInt ≤ 3) (bp118_12 : 63 ≤ (σ.2.1 118 12).toInt ∧ (σ.2.1 118 12).toInt ≤ 2147483647) (ret0 : ∀ (r : Int32) (σ' : am_S), (0 ≤ 1 * r.toInt + 0 ∧ 1 * r.toInt + 0 ≤ 0) → (1 ≤ 1 * (σ'.2.1 118 13).toInt + 0 ∧ 1 * (σ'.2.1 118 13).toInt + 0 ≤ 1) → (0 ≤ 1 * (σ.2.1 118 10).toInt + ((-1) * (σ'.2.1 118 14).toInt + 0) ∧ 1 * (σ.2.1 118 10).toInt + ((-1) * (σ'.2.1 118 14).toInt + 0) ≤ 0) → sx_M zK hd_T σ 10328999541206525615748539392317985070666196563709281212308071997413781946255149279126889966402484617895650510747406958592 0 σ' → post (some (some (.int r))) σ') : am_K g 20 tX12_operand.1 0 0 76 lw [] σ post := by
  refine sg_seg (sw := []) (vs := [m1.toInt, m2.toInt, m3.toInt, (σ.2.1 118 9).toInt, (σ.2.1 118 12).toInt, (σ.2.1 118 10).toInt]) (ws := []) G (mi := 146) rfl hct sg_op7d_ok ⟨⟨m1, hl1, rfl⟩, ⟨⟨m2, hl2, rfl⟩, ⟨⟨m3, hl3, rfl⟩, ⟨rfl, ⟨rfl, ⟨rfl, trivial⟩⟩⟩⟩⟩⟩ (hd_refs hl) trivial (hd_p1 rfl bl1.1 bl1.2 (hd_p1 rfl bl2.1 bl2.2 (hd_p1 rfl bl3.1 bl3.2 (hd_p1 rfl bp118_9.1 bp118_9.2 (hd_p1 rfl bp118_12.1 bp118_12.2 (hd_p1 rfl (hd_kd_118_10 hM).1 (hd_kd_118_10 hM).2 hd_p0)))))) hM ?_ ?_
  · intro r σ' hq
    cases r with
    | none => exact hq.elim
    | some v =>
      obtain ⟨p, hp, hM2, ks, hk, hv⟩ := hq
      simp only [List.mem_cons, List.not_mem_nil, or_false] at hp
      rcases hp with rfl
      · obtain ⟨ks0, rfl, hk1⟩ := hd_keyc hk; obtain ⟨ks1, rfl, hk2⟩ := hd_keyc hk1; obtain rfl := hd_keys hk2
        cases v with
        | none => exact hv.elim
        | some w9 =>
          obtain ⟨r, rfl, hP⟩ := hv
          obtain ⟨v0, e0, l0, u0⟩ := hP _ (List.mem_cons_self)
          have g0 : 1 * r.toInt + 0 = v0 := Option.some.inj e0
          obtain ⟨v1, e1, l1, u1⟩ := hP _ (List.mem_cons_of_mem _ (List.mem_cons_self))
          have g1 : 1 * (σ'.2.1 118 13).toInt + 0 = v1 := Option.some.inj e1
          obtain ⟨v2, e2, l2, u2⟩ := hP _ (List.mem_cons_of_mem _ (List.mem_cons_of_mem _ (List.mem_cons_self)))
          have g2 : 1 * (σ.2.1 118 10).toInt + ((-1) * (σ'.2.1 118 14).toInt + 0) = v2 := Option.some.inj e2
          exact ret0 r _ ⟨by rw [g0]; exact l0, by rw [g0]; exact u0⟩ ⟨by rw [g1]; exact l1, by rw [g1]; exact u1⟩ ⟨by rw [g2]; exact l2, by rw [g2]; exact u2⟩ hM2
  · intro u hu
    cases hu
theorem sg_op7e_run (G : sx_G0 g L xs zK hd_T ex_mt) (hct : ∀ (mi : Nat) (T2 : ex_T) (c' : sx_Ct), ex_mt mi = some T2 → c' ∈ k9 mi → c'.1 < 0 → sx_Holds g zK hd_T T2 c') {σ : am_S} {lw : List (Nat × Value)} {post : Option (Option Value) → am_S → Prop} (hM : sx_M zK hd_T σ 0 0 σ) (hl : (0, Value.ref 118) ∈ lw) {m1 : Int32} (hl1 : (1, Value.int m1) ∈ lw) (bl1 : 0 ≤ m1.toInt ∧ m1.toInt ≤ 0) {m2 : Int32} (hl2 : (2, Value.int m2) ∈ lw) (bl2 : 0 ≤ m2.toInt ∧ m2.toInt ≤ 0) {m3 : Int32} (hl3 : (3, Value.int m3) ∈ lw) (bl3 : 3 ≤ m3.toInt ∧ m3.toInt ≤ 6) (bp118_9 : 3 ≤ (σ.2.1 118 9).toInt ∧ (σ.2.1 118 9).toInt ≤ 3) (bp118_12 : 60 ≤ (σ.2.1 118 12).toInt ∧ (σ.2.1 118 12).toInt ≤ 62) (cuta : ∀ (lw' : List (Nat × Value)) (m3' : Int32) (m4' : Int32) (σ' : am_S), (0, Value.ref 118) ∈ lw' → (3, Value.int m3') ∈ lw' → (4, Value.int m4') ∈ lw' → (0 ≤ 1 * m3.toInt + ((-1) * m3'.toInt + 0) ∧ 1 * m3.toInt + ((-1) * m3'.toInt + 0) ≤ 0) → (0 ≤ 1 * (σ.2.1 118 12).toInt + ((-1) * m4'.toInt + 0) ∧ 1 * (σ.2.1 118 12).toInt + ((-1) * m4'.toInt + 0) ≤ 0) → (1 ≤ 1 * (σ'.2.1 118 43).toInt + 0 ∧ 1 * (σ'.2.1 118 43).toInt + 0 ≤ 1) → sx_M zK hd_T σ 10328999512347634358623676688012047497318823171316894051322637426162590488067364778518581413120551325743612687890989973504 0 σ' → am_K g 20 tX12_operand.1 0 0 184 lw' [.ref 118] σ' post) : am_K g 20 tX12_operand.1 0 0 76 lw [] σ post := by
  refine sg_seg (sw := []) (vs := [m1.toInt, m2.toInt, m3.toInt, (σ.2.1 118 9).toInt, (σ.2.1 118 12).toInt]) (ws := []) G (mi := 146) rfl hct sg_op7e_ok ⟨⟨m1, hl1, rfl⟩, ⟨⟨m2, hl2, rfl⟩, ⟨⟨m3, hl3, rfl⟩, ⟨rfl, ⟨rfl, trivial⟩⟩⟩⟩⟩ (hd_refs hl) trivial (hd_p1 rfl bl1.1 bl1.2 (hd_p1 rfl bl2.1 bl2.2 (hd_p1 rfl bl3.1 bl3.2 (hd_p1 rfl bp118_9.1 bp118_9.2 (hd_p1 rfl bp118_12.1 bp118_12.2 hd_p0))))) hM ?_ ?_
  · intro r σ' hq
    cases r with
    | none => exact hq.elim
    | some v =>
      obtain ⟨p, hp, hM2, ks, hk, hv⟩ := hq
      cases hp
  · intro u hu
    simp only [List.mem_cons, List.not_mem_nil, or_false] at hu
    rcases hu with rfl
    · intro lw' sw' vs' ws' σ' ⟨h1_0, h2, h3_0, h4, h5⟩
      obtain ⟨m3', vs1, rfl, hm3, h1_1⟩ := hd_srcl h1_0
      obtain ⟨m4', vs2, rfl, hm4, h1_2⟩ := hd_srcl h1_1
      obtain ⟨vs3, rfl, h1_3⟩ := hd_srcs h1_2
      obtain rfl := hd_src0 h1_3
      obtain ⟨sw1, rfl, h3_1⟩ := hd_str h3_0
      obtain ⟨rfl, rfl⟩ := hd_st0 h3_1
      have hr9 := hd_ref0 h2
      obtain ⟨v0, e0, l0, u0⟩ := h4 _ (List.mem_cons_self)
      have g0 : 1 * m3.toInt + ((-1) * m3'.toInt + 0) = v0 := Option.some.inj e0
      obtain ⟨v1, e1, l1, u1⟩ := h4 _ (List.mem_cons_of_mem _ (List.mem_cons_self))
      have g1 : 1 * (σ.2.1 118 12).toInt + ((-1) * m4'.toInt + 0) = v1 := Option.some.inj e1
      obtain ⟨v2, e2, l2, u2⟩ := h4 _ (List.mem_cons_of_mem _ (List.mem_cons_of_mem _ (List.mem_cons_self)))
      have g2 : 1 * (σ'.2.1 118 43).toInt + 0 = v2 := Option.some.inj e2
      exact cuta _ _ _ _ hr9 hm3 hm4 ⟨by rw [g0]; exact l0, by rw [g0]; exact u0⟩ ⟨by rw [g1]; exact l1, by rw [g1]; exact u1⟩ ⟨by rw [g2]; exact l2, by rw [g2]; exact u2⟩ h5
theorem sg_op8a_run (G : sx_G0 g L xs zK hd_T ex_mt) (hct : ∀ (mi : Nat) (T2 : ex_T) (c' : sx_Ct), ex_mt mi = some T2 → c' ∈ k9 mi → c'.1 < 0 → sx_Holds g zK hd_T T2 c') {σ : am_S} {lw : List (Nat × Value)} {post : Option (Option Value) → am_S → Prop} (hM : sx_M zK hd_T σ 0 0 σ) (hl : (0, Value.ref 118) ∈ lw) (bp118_9 : 0 ≤ (σ.2.1 118 9).toInt ∧ (σ.2.1 118 9).toInt ≤ 1) (ret0 : ∀ (r : Int32) (σ' : am_S), (0 ≤ 1 * r.toInt + 0 ∧ 1 * r.toInt + 0 ≤ 0) → (1 ≤ 1 * (σ'.2.1 118 13).toInt + 0 ∧ 1 * (σ'.2.1 118 13).toInt + 0 ≤ 1) → (0 ≤ 1 * (σ.2.1 118 10).toInt + ((-1) * (σ'.2.1 118 14).toInt + 0) ∧ 1 * (σ.2.1 118 10).toInt + ((-1) * (σ'.2.1 118 14).toInt + 0) ≤ 0) → sx_M zK hd_T σ 28858891257124862704305937573347373392392387160985434571251191458187784500608308553281933292152037822856416985088 0 σ' → post (some (some (.int r))) σ') : am_K g 20 tX12_operand.1 0 0 187 lw [] σ post := by
  refine sg_seg (sw := []) (vs := [(σ.2.1 118 9).toInt, (σ.2.1 118 10).toInt]) (ws := []) G (mi := 146) rfl hct sg_op8a_ok ⟨rfl, ⟨rfl, trivial⟩⟩ (hd_refs hl) trivial (hd_p1 rfl bp118_9.1 bp118_9.2 (hd_p1 rfl (hd_kd_118_10 hM).1 (hd_kd_118_10 hM).2 hd_p0)) hM ?_ ?_
  · intro r σ' hq
    cases r with
    | none => exact hq.elim
    | some v =>
      obtain ⟨p, hp, hM2, ks, hk, hv⟩ := hq
      simp only [List.mem_cons, List.not_mem_nil, or_false] at hp
      rcases hp with rfl
      · obtain ⟨ks0, rfl, hk1⟩ := hd_keyc hk; obtain ⟨ks1, rfl, hk2⟩ := hd_keyc hk1; obtain rfl := hd_keys hk2
        cases v with
        | none => exact hv.elim
        | some w9 =>
          obtain ⟨r, rfl, hP⟩ := hv
          obtain ⟨v0, e0, l0, u0⟩ := hP _ (List.mem_cons_self)
          have g0 : 1 * r.toInt + 0 = v0 := Option.some.inj e0
          obtain ⟨v1, e1, l1, u1⟩ := hP _ (List.mem_cons_of_mem _ (List.mem_cons_self))
          have g1 : 1 * (σ'.2.1 118 13).toInt + 0 = v1 := Option.some.inj e1
          obtain ⟨v2, e2, l2, u2⟩ := hP _ (List.mem_cons_of_mem _ (List.mem_cons_of_mem _ (List.mem_cons_self)))
          have g2 : 1 * (σ.2.1 118 10).toInt + ((-1) * (σ'.2.1 118 14).toInt + 0) = v2 := Option.some.inj e2
          exact ret0 r _ ⟨by rw [g0]; exact l0, by rw [g0]; exact u0⟩ ⟨by rw [g1]; exact l1, by rw [g1]; exact u1⟩ ⟨by rw [g2]; exact l2, by rw [g2]; exact u2⟩ hM2
  · intro u hu
    cases hu
theorem sg_op8b_run (G : sx_G0 g L xs zK hd_T ex_mt) (hct : ∀ (mi : Nat) (T2 : ex_T) (c' : sx_Ct), ex_mt mi = some T2 → c' ∈ k9 mi → c'.1 < 0 → sx_Holds g zK hd_T T2 c') {σ : am_S} {lw : List (Nat × Value)} {post : Option (Option Value) → am_S → Prop} (hM : sx_M zK hd_T σ 0 0 σ) (hl : (0, Value.ref 118) ∈ lw) (bp118_9 : 3 ≤ (σ.2.1 118 9).toInt ∧ (σ.2.1 118 9).toInt ≤ 4) (ret0 : ∀ (r : Int32) (σ' : am_S), (0 ≤ 1 * r.toInt + 0 ∧ 1 * r.toInt + 0 ≤ 0) → (1 ≤ 1 * (σ'.2.1 118 13).toInt + 0 ∧ 1 * (σ'.2.1 118 13).toInt + 0 ≤ 1) → (0 ≤ 1 * (σ.2.1 118 10).toInt + ((-1) * (σ'.2.1 118 14).toInt + 0) ∧ 1 * (σ.2.1 118 10).toInt + ((-1) * (σ'.2.1 118 14).toInt + 0) ≤ 0) → sx_M zK hd_T σ 28858891257124862704305937573347373392392387160985434571251191458187784500608308553281933292152037822856416985088 0 σ' → post (some (some (.int r))) σ') : am_K g 20 tX12_operand.1 0 0 187 lw [] σ post := by
  refine sg_seg (sw := []) (vs := [(σ.2.1 118 9).toInt, (σ.2.1 118 10).toInt]) (ws := []) G (mi := 146) rfl hct sg_op8b_ok ⟨rfl, ⟨rfl, trivial⟩⟩ (hd_refs hl) trivial (hd_p1 rfl bp118_9.1 bp118_9.2 (hd_p1 rfl (hd_kd_118_10 hM).1 (hd_kd_118_10 hM).2 hd_p0)) hM ?_ ?_
  · intro r σ' hq
    cases r with
    | none => exact hq.elim
    | some v =>
      obtain ⟨p, hp, hM2, ks, hk, hv⟩ := hq
      simp only [List.mem_cons, List.not_mem_nil, or_false] at hp
      rcases hp with rfl
      · obtain ⟨ks0, rfl, hk1⟩ := hd_keyc hk; obtain ⟨ks1, rfl, hk2⟩ := hd_keyc hk1; obtain rfl := hd_keys hk2
        cases v with
        | none => exact hv.elim
        | some w9 =>
          obtain ⟨r, rfl, hP⟩ := hv
          obtain ⟨v0, e0, l0, u0⟩ := hP _ (List.mem_cons_self)
          have g0 : 1 * r.toInt + 0 = v0 := Option.some.inj e0
          obtain ⟨v1, e1, l1, u1⟩ := hP _ (List.mem_cons_of_mem _ (List.mem_cons_self))
          have g1 : 1 * (σ'.2.1 118 13).toInt + 0 = v1 := Option.some.inj e1
          obtain ⟨v2, e2, l2, u2⟩ := hP _ (List.mem_cons_of_mem _ (List.mem_cons_of_mem _ (List.mem_cons_self)))
          have g2 : 1 * (σ.2.1 118 10).toInt + ((-1) * (σ'.2.1 118 14).toInt + 0) = v2 := Option.some.inj e2
          exact ret0 r _ ⟨by rw [g0]; exact l0, by rw [g0]; exact u0⟩ ⟨by rw [g1]; exact l1, by rw [g1]; exact u1⟩ ⟨by rw [g2]; exact l2, by rw [g2]; exact u2⟩ hM2
  · intro u hu
    cases hu
theorem sg_op8_run (G : sx_G0 g L xs zK hd_T ex_mt) (hct : ∀ (mi : Nat) (T2 : ex_T) (c' : sx_Ct), ex_mt mi = some T2 → c' ∈ k9 mi → c'.1 < 0 → sx_Holds g zK hd_T T2 c') {σ : am_S} {lw : List (Nat × Value)} {post : Option (Option Value) → am_S → Prop} (hM : sx_M zK hd_T σ 0 0 σ) (hl : (0, Value.ref 118) ∈ lw) {m3 : Int32} (hl3 : (3, Value.int m3) ∈ lw) {m4 : Int32} (hl4 : (4, Value.int m4) ∈ lw) (bp118_9 : 2 ≤ (σ.2.1 118 9).toInt ∧ (σ.2.1 118 9).toInt ≤ 2) (cuta : ∀ (lw' : List (Nat × Value)) (n0' : Int32) (n1' : Int32) (n2' : Int32) (σ' : am_S), (0, Value.ref 118) ∈ lw' → (0 ≤ 1 * (σ.2.1 118 12).toInt + ((-1) * n0'.toInt + 0) ∧ 1 * (σ.2.1 118 12).toInt + ((-1) * n0'.toInt + 0) ≤ 0) → (0 ≤ 1 * m4.toInt + ((-1) * n1'.toInt + 0) ∧ 1 * m4.toInt + ((-1) * n1'.toInt + 0) ≤ 0) → (0 ≤ 1 * m3.toInt + ((-1) * n2'.toInt + 0) ∧ 1 * m3.toInt + ((-1) * n2'.toInt + 0) ≤ 0) → sx_M zK hd_T σ 0 0 σ' → am_K g 20 tX12_operand.1 0 0 209 lw' [.int n0', .int n1', .int n2', .ref 118] σ' post) : am_K g 20 tX12_operand.1 0 0 187 lw [] σ post := by
  refine sg_seg (sw := []) (vs := [m3.toInt, m4.toInt, (σ.2.1 118 9).toInt, (σ.2.1 118 12).toInt]) (ws := []) G (mi := 146) rfl hct sg_op8_ok ⟨⟨m3, hl3, rfl⟩, ⟨⟨m4, hl4, rfl⟩, ⟨rfl, ⟨rfl, trivial⟩⟩⟩⟩ (hd_refs hl) trivial (hd_p1 rfl (Int32.le_toInt _) (Int32.toInt_le _) (hd_p1 rfl (Int32.le_toInt _) (Int32.toInt_le _) (hd_p1 rfl bp118_9.1 bp118_9.2 (hd_p1 rfl (hd_kd_118_12 hM).1 (hd_kd_118_12 hM).2 hd_p0)))) hM ?_ ?_
  · intro r σ' hq
    cases r with
    | none => exact hq.elim
    | some v =>
      obtain ⟨p, hp, hM2, ks, hk, hv⟩ := hq
      cases hp
  · intro u hu
    simp only [List.mem_cons, List.not_mem_nil, or_false] at hu
    rcases hu with rfl
    · intro lw' sw' vs' ws' σ' ⟨h1_0, h2, h3_0, h4, h5⟩
      obtain rfl := hd_src0 h1_0
      obtain ⟨n0', sw1, ws1, rfl, rfl, h3_1⟩ := hd_sti h3_0
      obtain ⟨n1', sw2, ws2, rfl, rfl, h3_2⟩ := hd_sti h3_1
      obtain ⟨n2', sw3, ws3, rfl, rfl, h3_3⟩ := hd_sti h3_2
      obtain ⟨sw4, rfl, h3_4⟩ := hd_str h3_3
      obtain ⟨rfl, rfl⟩ := hd_st0 h3_4
      have hr9 := hd_ref0 h2
      obtain ⟨v0, e0, l0, u0⟩ := h4 _ (List.mem_cons_self)
      have g0 : 1 * (σ.2.1 118 12).toInt + ((-1) * n0'.toInt + 0) = v0 := Option.some.inj e0
      obtain ⟨v1, e1, l1, u1⟩ := h4 _ (List.mem_cons_of_mem _ (List.mem_cons_self))
      have g1 : 1 * m4.toInt + ((-1) * n1'.toInt + 0) = v1 := Option.some.inj e1
      obtain ⟨v2, e2, l2, u2⟩ := h4 _ (List.mem_cons_of_mem _ (List.mem_cons_of_mem _ (List.mem_cons_self)))
      have g2 : 1 * m3.toInt + ((-1) * n2'.toInt + 0) = v2 := Option.some.inj e2
      exact cuta _ _ _ _ _ hr9  ⟨by rw [g0]; exact l0, by rw [g0]; exact u0⟩ ⟨by rw [g1]; exact l1, by rw [g1]; exact u1⟩ ⟨by rw [g2]; exact l2, by rw [g2]; exact u2⟩ h5
theorem sg_op9_run (G : sx_G0 g L xs zK hd_T ex_mt) (hct : ∀ (mi : Nat) (T2 : ex_T) (c' : sx_Ct), ex_mt mi = some T2 → c' ∈ k9 mi → c'.1 < 0 → sx_Holds g zK hd_T T2 c') {σ : am_S} {lw : List (Nat × Value)} {post : Option (Option Value) → am_S → Prop} (hM : sx_M zK hd_T σ 0 0 σ) (hl : (0, Value.ref 118) ∈ lw)  (cuta : ∀ (lw' : List (Nat × Value))  (σ' : am_S), (0, Value.ref 118) ∈ lw' → sx_M zK hd_T σ 0 0 σ' → am_K g 20 tX12_operand.1 0 0 213 lw' [.ref 118] σ' post) : am_K g 20 tX12_operand.1 0 0 212 lw [] σ post := by
  refine sg_seg (sw := []) (vs := []) (ws := []) G (mi := 146) rfl hct sg_op9_ok trivial (hd_refs hl) trivial hd_p0 hM ?_ ?_
  · intro r σ' hq
    cases r with
    | none => exact hq.elim
    | some v =>
      obtain ⟨p, hp, hM2, ks, hk, hv⟩ := hq
      cases hp
  · intro u hu
    simp only [List.mem_cons, List.not_mem_nil, or_false] at hu
    rcases hu with rfl
    · intro lw' sw' vs' ws' σ' ⟨h1_0, h2, h3_0, h4, h5⟩
      obtain rfl := hd_src0 h1_0
      obtain ⟨sw1, rfl, h3_1⟩ := hd_str h3_0
      obtain ⟨rfl, rfl⟩ := hd_st0 h3_1
      have hr9 := hd_ref0 h2
      exact cuta _  _ hr9   h5
theorem sg_opz_run (G : sx_G0 g L xs zK hd_T ex_mt) (hct : ∀ (mi : Nat) (T2 : ex_T) (c' : sx_Ct), ex_mt mi = some T2 → c' ∈ k9 mi → c'.1 < 0 → sx_Holds g zK hd_T T2 c') {σ : am_S} {lw : List (Nat × Value)} {post : Option (Option Value) → am_S → Prop} (hM : sx_M zK hd_T σ 0 0 σ) (hl : (0, Value.ref 118) ∈ lw)  (ret0 : ∀ (r : Int32) (σ' : am_S), (1 ≤ 1 * r.toInt + 0 ∧ 1 * r.toInt + 0 ≤ 1) → sx_M zK hd_T σ 0 0 σ' → post (some (some (.int r))) σ') : am_K g 20 tX12_operand.1 0 0 216 lw [] σ post := by
  refine sg_seg (sw := []) (vs := []) (ws := []) G (mi := 146) rfl hct sg_opz_ok trivial (hd_refs hl) trivial hd_p0 hM ?_ ?_
  · intro r σ' hq
    cases r with
    | none => exact hq.elim
    | some v =>
      obtain ⟨p, hp, hM2, ks, hk, hv⟩ := hq
      simp only [List.mem_cons, List.not_mem_nil, or_false] at hp
      rcases hp with rfl
      · obtain rfl := hd_keys hk
        cases v with
        | none => exact hv.elim
        | some w9 =>
          obtain ⟨r, rfl, hP⟩ := hv
          obtain ⟨v0, e0, l0, u0⟩ := hP _ (List.mem_cons_self)
          have g0 : 1 * r.toInt + 0 = v0 := Option.some.inj e0
          exact ret0 r _ ⟨by rw [g0]; exact l0, by rw [g0]; exact u0⟩ hM2
  · intro u hu
    cases hu
theorem sg_be1_run (G : sx_G0 g L xs zK hd_T ex_mt) (hct : ∀ (mi : Nat) (T2 : ex_T) (c' : sx_Ct), ex_mt mi = some T2 → c' ∈ k9 mi → c'.1 < 0 → sx_Holds g zK hd_T T2 c') {σ : am_S} {lw : List (Nat × Value)} {post : Option (Option Value) → am_S → Prop} (hM : sx_M zK hd_T σ 0 0 σ) (hl : (0, Value.ref 118) ∈ lw)  (cuta : ∀ (lw' : List (Nat × Value))  (σ' : am_S), (0, Value.ref 118) ∈ lw' → sx_M zK hd_T σ 0 0 σ' → am_K g 25 tX12_behind.1 0 0 5 lw' [.ref 118] σ' post) : am_K g 25 tX12_behind.1 0 0 4 lw [] σ post := by
  refine sg_seg (sw := []) (vs := []) (ws := []) G (mi := 77) rfl hct sg_be1_ok trivial (hd_refs hl) trivial hd_p0 hM ?_ ?_
  · intro r σ' hq
    cases r with
    | none => exact hq.elim
    | some v =>
      obtain ⟨p, hp, hM2, ks, hk, hv⟩ := hq
      cases hp
  · intro u hu
    simp only [List.mem_cons, List.not_mem_nil, or_false] at hu
    rcases hu with rfl
    · intro lw' sw' vs' ws' σ' ⟨h1_0, h2, h3_0, h4, h5⟩
      obtain rfl := hd_src0 h1_0
      obtain ⟨sw1, rfl, h3_1⟩ := hd_str h3_0
      obtain ⟨rfl, rfl⟩ := hd_st0 h3_1
      have hr9 := hd_ref0 h2
      exact cuta _  _ hr9   h5
theorem sg_be2y_run (G : sx_G0 g L xs zK hd_T ex_mt) (hct : ∀ (mi : Nat) (T2 : ex_T) (c' : sx_Ct), ex_mt mi = some T2 → c' ∈ k9 mi → c'.1 < 0 → sx_Holds g zK hd_T T2 c') {σ : am_S} {lw : List (Nat × Value)} {post : Option (Option Value) → am_S → Prop} (hM : sx_M zK hd_T σ 0 0 σ) (hl : (0, Value.ref 118) ∈ lw) {n0 : Int32} (bk0 : 1 ≤ n0.toInt ∧ n0.toInt ≤ 1) (cuta : ∀ (lw' : List (Nat × Value))  (σ' : am_S), (0, Value.ref 118) ∈ lw' → sx_M zK hd_T σ 0 0 σ' → am_K g 25 tX12_behind.1 0 0 26 lw' [.ref 118, .ref 118] σ' post) : am_K g 25 tX12_behind.1 0 0 11 lw [.int n0] σ post := by
  refine sg_seg (sw := [.int n0]) (vs := []) (ws := [n0.toInt]) G (mi := 77) rfl hct sg_be2y_ok trivial (hd_refs hl) ⟨⟨n0, rfl, rfl⟩, trivial⟩ (hd_p1 rfl bk0.1 bk0.2 hd_p0) hM ?_ ?_
  · intro r σ' hq
    cases r with
    | none => exact hq.elim
    | some v =>
      obtain ⟨p, hp, hM2, ks, hk, hv⟩ := hq
      cases hp
  · intro u hu
    simp only [List.mem_cons, List.not_mem_nil, or_false] at hu
    rcases hu with rfl
    · intro lw' sw' vs' ws' σ' ⟨h1_0, h2, h3_0, h4, h5⟩
      obtain rfl := hd_src0 h1_0
      obtain ⟨sw1, rfl, h3_1⟩ := hd_str h3_0
      obtain ⟨sw2, rfl, h3_2⟩ := hd_str h3_1
      obtain ⟨rfl, rfl⟩ := hd_st0 h3_2
      have hr9 := hd_ref0 h2
      exact cuta _  _ hr9   h5
theorem sg_be2n_run (G : sx_G0 g L xs zK hd_T ex_mt) (hct : ∀ (mi : Nat) (T2 : ex_T) (c' : sx_Ct), ex_mt mi = some T2 → c' ∈ k9 mi → c'.1 < 0 → sx_Holds g zK hd_T T2 c') {σ : am_S} {lw : List (Nat × Value)} {post : Option (Option Value) → am_S → Prop} (hM : sx_M zK hd_T σ 0 0 σ) (hl : (0, Value.ref 118) ∈ lw) {n0 : Int32} (bk0 : 0 ≤ n0.toInt ∧ n0.toInt ≤ 0) (cuta : ∀ (lw' : List (Nat × Value))  (σ' : am_S), (0, Value.ref 118) ∈ lw' → sx_M zK hd_T σ 0 0 σ' → am_K g 25 tX12_behind.1 0 0 15 lw' [.ref 118] σ' post) : am_K g 25 tX12_behind.1 0 0 11 lw [.int n0] σ post := by
  refine sg_seg (sw := [.int n0]) (vs := []) (ws := [n0.toInt]) G (mi := 77) rfl hct sg_be2n_ok trivial (hd_refs hl) ⟨⟨n0, rfl, rfl⟩, trivial⟩ (hd_p1 rfl bk0.1 bk0.2 hd_p0) hM ?_ ?_
  · intro r σ' hq
    cases r with
    | none => exact hq.elim
    | some v =>
      obtain ⟨p, hp, hM2, ks, hk, hv⟩ := hq
      cases hp
  · intro u hu
    simp only [List.mem_cons, List.not_mem_nil, or_false] at hu
    rcases hu with rfl
    · intro lw' sw' vs' ws' σ' ⟨h1_0, h2, h3_0, h4, h5⟩
      obtain rfl := hd_src0 h1_0
      obtain ⟨sw1, rfl, h3_1⟩ := hd_str h3_0
      obtain ⟨rfl, rfl⟩ := hd_st0 h3_1
      have hr9 := hd_ref0 h2
      exact cuta _  _ hr9   h5
theorem sg_be3y_run (G : sx_G0 g L xs zK hd_T ex_mt) (hct : ∀ (mi : Nat) (T2 : ex_T) (c' : sx_Ct), ex_mt mi = some T2 → c' ∈ k9 mi → c'.1 < 0 → sx_Holds g zK hd_T T2 c') {σ : am_S} {lw : List (Nat × Value)} {post : Option (Option Value) → am_S → Prop} (hM : sx_M zK hd_T σ 0 0 σ) (hl : (0, Value.ref 118) ∈ lw) {n0 : Int32} (bk0 : 1 ≤ n0.toInt ∧ n0.toInt ≤ 1) (cuta : ∀ (lw' : List (Nat × Value))  (σ' : am_S), (0, Value.ref 118) ∈ lw' → sx_M zK hd_T σ 0 0 σ' → am_K g 25 tX12_behind.1 0 0 26 lw' [.ref 118, .ref 118] σ' post) : am_K g 25 tX12_behind.1 0 0 21 lw [.int n0] σ post := by
  refine sg_seg (sw := [.int n0]) (vs := []) (ws := [n0.toInt]) G (mi := 77) rfl hct sg_be3y_ok trivial (hd_refs hl) ⟨⟨n0, rfl, rfl⟩, trivial⟩ (hd_p1 rfl bk0.1 bk0.2 hd_p0) hM ?_ ?_
  · intro r σ' hq
    cases r with
    | none => exact hq.elim
    | some v =>
      obtain ⟨p, hp, hM2, ks, hk, hv⟩ := hq
      cases hp
  · intro u hu
    simp only [List.mem_cons, List.not_mem_nil, or_false] at hu
    rcases hu with rfl
    · intro lw' sw' vs' ws' σ' ⟨h1_0, h2, h3_0, h4, h5⟩
      obtain rfl := hd_src0 h1_0
      obtain ⟨sw1, rfl, h3_1⟩ := hd_str h3_0
      obtain ⟨sw2, rfl, h3_2⟩ := hd_str h3_1
      obtain ⟨rfl, rfl⟩ := hd_st0 h3_2
      have hr9 := hd_ref0 h2
      exact cuta _  _ hr9   h5
theorem sg_be3n_run (G : sx_G0 g L xs zK hd_T ex_mt) (hct : ∀ (mi : Nat) (T2 : ex_T) (c' : sx_Ct), ex_mt mi = some T2 → c' ∈ k9 mi → c'.1 < 0 → sx_Holds g zK hd_T T2 c') {σ : am_S} {lw : List (Nat × Value)} {post : Option (Option Value) → am_S → Prop} (hM : sx_M zK hd_T σ 0 0 σ) (hl : (0, Value.ref 118) ∈ lw) {n0 : Int32} (bk0 : 0 ≤ n0.toInt ∧ n0.toInt ≤ 0) (cuta : ∀ (lw' : List (Nat × Value)) (n0' : Int32) (σ' : am_S), (0, Value.ref 118) ∈ lw' → (22 ≤ 1 * n0'.toInt + 0 ∧ 1 * n0'.toInt + 0 ≤ 22) → sx_M zK hd_T σ 0 0 σ' → am_K g 25 tX12_behind.1 0 0 95 lw' [.int n0', .ref 118] σ' post) : am_K g 25 tX12_behind.1 0 0 21 lw [.int n0] σ post := by
  refine sg_seg (sw := [.int n0]) (vs := []) (ws := [n0.toInt]) G (mi := 77) rfl hct sg_be3n_ok trivial (hd_refs hl) ⟨⟨n0, rfl, rfl⟩, trivial⟩ (hd_p1 rfl bk0.1 bk0.2 hd_p0) hM ?_ ?_
  · intro r σ' hq
    cases r with
    | none => exact hq.elim
    | some v =>
      obtain ⟨p, hp, hM2, ks, hk, hv⟩ := hq
      cases hp
  · intro u hu
    simp only [List.mem_cons, List.not_mem_nil, or_false] at hu
    rcases hu with rfl
    · intro lw' sw' vs' ws' σ' ⟨h1_0, h2, h3_0, h4, h5⟩
      obtain rfl := hd_src0 h1_0
      obtain ⟨n0', sw1, ws1, rfl, rfl, h3_1⟩ := hd_sti h3_0
      obtain ⟨sw2, rfl, h3_2⟩ := hd_str h3_1
      obtain ⟨rfl, rfl⟩ := hd_st0 h3_2
      have hr9 := hd_ref0 h2
      obtain ⟨v0, e0, l0, u0⟩ := h4 _ (List.mem_cons_self)
      have g0 : 1 * n0'.toInt + 0 = v0 := Option.some.inj e0
      exact cuta _ _ _ hr9  ⟨by rw [g0]; exact l0, by rw [g0]; exact u0⟩ h5
theorem sg_be4y_run (G : sx_G0 g L xs zK hd_T ex_mt) (hct : ∀ (mi : Nat) (T2 : ex_T) (c' : sx_Ct), ex_mt mi = some T2 → c' ∈ k9 mi → c'.1 < 0 → sx_Holds g zK hd_T T2 c') {σ : am_S} {lw : List (Nat × Value)} {post : Option (Option Value) → am_S → Prop} (hM : sx_M zK hd_T σ 0 0 σ) (hl : (0, Value.ref 118) ∈ lw) {n0 : Int32} (bk0 : 1 ≤ n0.toInt ∧ n0.toInt ≤ 1) (cuta : ∀ (lw' : List (Nat × Value)) (n0' : Int32) (σ' : am_S), (0, Value.ref 118) ∈ lw' → (21 ≤ 1 * n0'.toInt + 0 ∧ 1 * n0'.toInt + 0 ≤ 21) → sx_M zK hd_T σ 0 0 σ' → am_K g 25 tX12_behind.1 0 0 42 lw' [.int n0', .ref 118] σ' post) : am_K g 25 tX12_behind.1 0 0 32 lw [.int n0, .ref 118] σ post := by
  refine sg_seg (sw := [.int n0, .ref 118]) (vs := []) (ws := [n0.toInt]) G (mi := 77) rfl hct sg_be4y_ok trivial (hd_refs hl) ⟨⟨n0, rfl, rfl⟩, ⟨rfl, trivial⟩⟩ (hd_p1 rfl bk0.1 bk0.2 hd_p0) hM ?_ ?_
  · intro r σ' hq
    cases r with
    | none => exact hq.elim
    | some v =>
      obtain ⟨p, hp, hM2, ks, hk, hv⟩ := hq
      cases hp
  · intro u hu
    simp only [List.mem_cons, List.not_mem_nil, or_false] at hu
    rcases hu with rfl
    · intro lw' sw' vs' ws' σ' ⟨h1_0, h2, h3_0, h4, h5⟩
      obtain rfl := hd_src0 h1_0
      obtain ⟨n0', sw1, ws1, rfl, rfl, h3_1⟩ := hd_sti h3_0
      obtain ⟨sw2, rfl, h3_2⟩ := hd_str h3_1
      obtain ⟨rfl, rfl⟩ := hd_st0 h3_2
      have hr9 := hd_ref0 h2
      obtain ⟨v0, e0, l0, u0⟩ := h4 _ (List.mem_cons_self)
      have g0 : 1 * n0'.toInt + 0 = v0 := Option.some.inj e0
      exact cuta _ _ _ hr9  ⟨by rw [g0]; exact l0, by rw [g0]; exact u0⟩ h5
theorem sg_be4n_run (G : sx_G0 g L xs zK hd_T ex_mt) (hct : ∀ (mi : Nat) (T2 : ex_T) (c' : sx_Ct), ex_mt mi = some T2 → c' ∈ k9 mi → c'.1 < 0 → sx_Holds g zK hd_T T2 c') {σ : am_S} {lw : List (Nat × Value)} {post : Option (Option Value) → am_S → Prop} (hM : sx_M zK hd_T σ 0 0 σ) (hl : (0, Value.ref 118) ∈ lw) {n0 : Int32} (bk0 : 0 ≤ n0.toInt ∧ n0.toInt ≤ 0) (cuta : ∀ (lw' : List (Nat × Value)) (n0' : Int32) (σ' : am_S), (0, Value.ref 118) ∈ lw' → (22 ≤ 1 * n0'.toInt + 0 ∧ 1 * n0'.toInt + 0 ≤ 22) → sx_M zK hd_T σ 0 0 σ' → am_K g 25 tX12_behind.1 0 0 42 lw' [.int n0', .ref 118] σ' post) : am_K g 25 tX12_behind.1 0 0 32 lw [.int n0, .ref 118] σ post := by
  refine sg_seg (sw := [.int n0, .ref 118]) (vs := []) (ws := [n0.toInt]) G (mi := 77) rfl hct sg_be4n_ok trivial (hd_refs hl) ⟨⟨n0, rfl, rfl⟩, ⟨rfl, trivial⟩⟩ (hd_p1 rfl bk0.1 bk0.2 hd_p0) hM ?_ ?_
  · intro r σ' hq
    cases r with
    | none => exact hq.elim
    | some v =>
      obtain ⟨p, hp, hM2, ks, hk, hv⟩ := hq
      cases hp
  · intro u hu
    simp only [List.mem_cons, List.not_mem_nil, or_false] at hu
    rcases hu with rfl
    · intro lw' sw' vs' ws' σ' ⟨h1_0, h2, h3_0, h4, h5⟩
      obtain rfl := hd_src0 h1_0
      obtain ⟨n0', sw1, ws1, rfl, rfl, h3_1⟩ := hd_sti h3_0
      obtain ⟨sw2, rfl, h3_2⟩ := hd_str h3_1
      obtain ⟨rfl, rfl⟩ := hd_st0 h3_2
      have hr9 := hd_ref0 h2
      obtain ⟨v0, e0, l0, u0⟩ := h4 _ (List.mem_cons_self)
      have g0 : 1 * n0'.toInt + 0 = v0 := Option.some.inj e0
      exact cuta _ _ _ hr9  ⟨by rw [g0]; exact l0, by rw [g0]; exact u0⟩ h5
theorem sg_be5_run (G : sx_G0 g L xs zK hd_T ex_mt) (hct : ∀ (mi : Nat) (T2 : ex_T) (c' : sx_Ct), ex_mt mi = some T2 → c' ∈ k9 mi → c'.1 < 0 → sx_Holds g zK hd_T T2 c') {σ : am_S} {lw : List (Nat × Value)} {post : Option (Option Value) → am_S → Prop} (hM : sx_M zK hd_T σ 0 0 σ) (hl : (0, Value.ref 118) ∈ lw)  (cuta : ∀ (lw' : List (Nat × Value)) (n0' : Int32) (σ' : am_S), (0, Value.ref 118) ∈ lw' → (0 ≤ 1 * (σ.2.1 118 41).toInt + ((-1) * n0'.toInt + 0) ∧ 1 * (σ.2.1 118 41).toInt + ((-1) * n0'.toInt + 0) ≤ 0) → sx_M zK hd_T σ 0 0 σ' → am_K g 25 tX12_behind.1 0 0 54 lw' [.ref 118, .int n0', .ref 134] σ' post) : am_K g 25 tX12_behind.1 0 0 45 lw [] σ post := by
  refine sg_seg (sw := []) (vs := [(σ.2.1 118 41).toInt]) (ws := []) G (mi := 77) rfl hct sg_be5_ok ⟨rfl, trivial⟩ (hd_refs hl) trivial (hd_p1 rfl (hd_kd_118_41 hM).1 (hd_kd_118_41 hM).2 hd_p0) hM ?_ ?_
  · intro r σ' hq
    cases r with
    | none => exact hq.elim
    | some v =>
      obtain ⟨p, hp, hM2, ks, hk, hv⟩ := hq
      cases hp
  · intro u hu
    simp only [List.mem_cons, List.not_mem_nil, or_false] at hu
    rcases hu with rfl
    · intro lw' sw' vs' ws' σ' ⟨h1_0, h2, h3_0, h4, h5⟩
      obtain rfl := hd_src0 h1_0
      obtain ⟨sw1, rfl, h3_1⟩ := hd_str h3_0
      obtain ⟨n0', sw2, ws2, rfl, rfl, h3_2⟩ := hd_sti h3_1
      obtain ⟨sw3, rfl, h3_3⟩ := hd_str h3_2
      obtain ⟨rfl, rfl⟩ := hd_st0 h3_3
      have hr9 := hd_ref0 h2
      obtain ⟨v0, e0, l0, u0⟩ := h4 _ (List.mem_cons_self)
      have g0 : 1 * (σ.2.1 118 41).toInt + ((-1) * n0'.toInt + 0) = v0 := Option.some.inj e0
      exact cuta _ _ _ hr9  ⟨by rw [g0]; exact l0, by rw [g0]; exact u0⟩ h5
theorem sg_be6y_run (G : sx_G0 g L xs zK hd_T ex_mt) (hct : ∀ (mi : Nat) (T2 : ex_T) (c' : sx_Ct), ex_mt mi = some T2 → c' ∈ k9 mi → c'.1 < 0 → sx_Holds g zK hd_T T2 c') {σ : am_S} {lw : List (Nat × Value)} {post : Option (Option Value) → am_S → Prop} (hM : sx_M zK hd_T σ 0 0 σ) (hl : (0, Value.ref 118) ∈ lw) {n0 : Int32} (bk0 : 1 ≤ n0.toInt ∧ n0.toInt ≤ 1) {n1 : Int32} (cuta : ∀ (lw' : List (Nat × Value)) (n0' : Int32) (n1' : Int32) (σ' : am_S), (0, Value.ref 118) ∈ lw' → (21 ≤ 1 * n0'.toInt + 0 ∧ 1 * n0'.toInt + 0 ≤ 21) → (0 ≤ 1 * n1.toInt + ((-1) * n1'.toInt + 0) ∧ 1 * n1.toInt + ((-1) * n1'.toInt + 0) ≤ 0) → sx_M zK hd_T σ 0 0 σ' → am_K g 25 tX12_behind.1 0 0 70 lw' [.int n0', .int n1', .ref 134] σ' post) : am_K g 25 tX12_behind.1 0 0 60 lw [.int n0, .int n1, .ref 134] σ post := by
  refine sg_seg (sw := [.int n0, .int n1, .ref 134]) (vs := []) (ws := [n0.toInt, n1.toInt]) G (mi := 77) rfl hct sg_be6y_ok trivial (hd_refs hl) ⟨⟨n0, rfl, rfl⟩, ⟨⟨n1, rfl, rfl⟩, ⟨rfl, trivial⟩⟩⟩ (hd_p1 rfl bk0.1 bk0.2 (hd_p1 rfl (Int32.le_toInt _) (Int32.toInt_le _) hd_p0)) hM ?_ ?_
  · intro r σ' hq
    cases r with
    | none => exact hq.elim
    | some v =>
      obtain ⟨p, hp, hM2, ks, hk, hv⟩ := hq
      cases hp
  · intro u hu
    simp only [List.mem_cons, List.not_mem_nil, or_false] at hu
    rcases hu with rfl
    · intro lw' sw' vs' ws' σ' ⟨h1_0, h2, h3_0, h4, h5⟩
      obtain rfl := hd_src0 h1_0
      obtain ⟨n0', sw1, ws1, rfl, rfl, h3_1⟩ := hd_sti h3_0
      obtain ⟨n1', sw2, ws2, rfl, rfl, h3_2⟩ := hd_sti h3_1
      obtain ⟨sw3, rfl, h3_3⟩ := hd_str h3_2
      obtain ⟨rfl, rfl⟩ := hd_st0 h3_3
      have hr9 := hd_ref0 h2
      obtain ⟨v0, e0, l0, u0⟩ := h4 _ (List.mem_cons_self)
      have g0 : 1 * n0'.toInt + 0 = v0 := Option.some.inj e0
      obtain ⟨v1, e1, l1, u1⟩ := h4 _ (List.mem_cons_of_mem _ (List.mem_cons_self))
      have g1 : 1 * n1.toInt + ((-1) * n1'.toInt + 0) = v1 := Option.some.inj e1
      exact cuta _ _ _ _ hr9  ⟨by rw [g0]; exact l0, by rw [g0]; exact u0⟩ ⟨by rw [g1]; exact l1, by rw [g1]; exact u1⟩ h5
theorem sg_be6n_run (G : sx_G0 g L xs zK hd_T ex_mt) (hct : ∀ (mi : Nat) (T2 : ex_T) (c' : sx_Ct), ex_mt mi = some T2 → c' ∈ k9 mi → c'.1 < 0 → sx_Holds g zK hd_T T2 c') {σ : am_S} {lw : List (Nat × Value)} {post : Option (Option Value) → am_S → Prop} (hM : sx_M zK hd_T σ 0 0 σ) (hl : (0, Value.ref 118) ∈ lw) {n0 : Int32} (bk0 : 0 ≤ n0.toInt ∧ n0.toInt ≤ 0) {n1 : Int32} (cuta : ∀ (lw' : List (Nat × Value)) (n0' : Int32) (n1' : Int32) (σ' : am_S), (0, Value.ref 118) ∈ lw' → (22 ≤ 1 * n0'.toInt + 0 ∧ 1 * n0'.toInt + 0 ≤ 22) → (0 ≤ 1 * n1.toInt + ((-1) * n1'.toInt + 0) ∧ 1 * n1.toInt + ((-1) * n1'.toInt + 0) ≤ 0) → sx_M zK hd_T σ 0 0 σ' → am_K g 25 tX12_behind.1 0 0 70 lw' [.int n0', .int n1', .ref 134] σ' post) : am_K g 25 tX12_behind.1 0 0 60 lw [.int n0, .int n1, .ref 134] σ post := by
  refine sg_seg (sw := [.int n0, .int n1, .ref 134]) (vs := []) (ws := [n0.toInt, n1.toInt]) G (mi := 77) rfl hct sg_be6n_ok trivial (hd_refs hl) ⟨⟨n0, rfl, rfl⟩, ⟨⟨n1, rfl, rfl⟩, ⟨rfl, trivial⟩⟩⟩ (hd_p1 rfl bk0.1 bk0.2 (hd_p1 rfl (Int32.le_toInt _) (Int32.toInt_le _) hd_p0)) hM ?_ ?_
  · intro r σ' hq
    cases r with
    | none => exact hq.elim
    | some v =>
      obtain ⟨p, hp, hM2, ks, hk, hv⟩ := hq
      cases hp
  · intro u hu
    simp only [List.mem_cons, List.not_mem_nil, or_false] at hu
    rcases hu with rfl
    · intro lw' sw' vs' ws' σ' ⟨h1_0, h2, h3_0, h4, h5⟩
      obtain rfl := hd_src0 h1_0
      obtain ⟨n0', sw1, ws1, rfl, rfl, h3_1⟩ := hd_sti h3_0
      obtain ⟨n1', sw2, ws2, rfl, rfl, h3_2⟩ := hd_sti h3_1
      obtain ⟨sw3, rfl, h3_3⟩ := hd_str h3_2
      obtain ⟨rfl, rfl⟩ := hd_st0 h3_3
      have hr9 := hd_ref0 h2
      obtain ⟨v0, e0, l0, u0⟩ := h4 _ (List.mem_cons_self)
      have g0 : 1 * n0'.toInt + 0 = v0 := Option.some.inj e0
      obtain ⟨v1, e1, l1, u1⟩ := h4 _ (List.mem_cons_of_mem _ (List.mem_cons_self))
      have g1 : 1 * n1.toInt + ((-1) * n1'.toInt + 0) = v1 := Option.some.inj e1
      exact cuta _ _ _ _ hr9  ⟨by rw [g0]; exact l0, by rw [g0]; exact u0⟩ ⟨by rw [g1]; exact l1, by rw [g1]; exact u1⟩ h5
theorem sg_be7_run (G : sx_G0 g L xs zK hd_T ex_mt) (hct : ∀ (mi : Nat) (T2 : ex_T) (c' : sx_Ct), ex_mt mi = some T2 → c' ∈ k9 mi → c'.1 < 0 → sx_Holds g zK hd_T T2 c') {σ : am_S} {lw : List (Nat × Value)} {post : Option (Option Value) → am_S → Prop} (hM : sx_M zK hd_T σ 0 0 σ) (hl : (0, Value.ref 118) ∈ lw) (bp118_41 : 0 ≤ (σ.2.1 118 41).toInt ∧ (σ.2.1 118 41).toInt ≤ 39) (cuta : ∀ (lw' : List (Nat × Value))  (σ' : am_S), (0, Value.ref 118) ∈ lw' → ((-1) ≤ 1 * (σ.2.1 118 41).toInt + ((-1) * (σ'.2.1 118 41).toInt + 0) ∧ 1 * (σ.2.1 118 41).toInt + ((-1) * (σ'.2.1 118 41).toInt + 0) ≤ (-1)) → (0 ≤ 1 * (σ'.2.1 118 43).toInt + 0 ∧ 1 * (σ'.2.1 118 43).toInt + 0 ≤ 0) → sx_M zK hd_T σ 12911249390434542948279595860015059371648528964146117564153296782703238110084205973148226766400689157179515859863737466880 0 σ' → am_K g 25 tX12_behind.1 0 0 87 lw' [.ref 118] σ' post) : am_K g 25 tX12_behind.1 0 0 71 lw [] σ post := by
  refine sg_seg (sw := []) (vs := [(σ.2.1 118 41).toInt]) (ws := []) G (mi := 77) rfl hct sg_be7_ok ⟨rfl, trivial⟩ (hd_refs hl) trivial (hd_p1 rfl bp118_41.1 bp118_41.2 hd_p0) hM ?_ ?_
  · intro r σ' hq
    cases r with
    | none => exact hq.elim
    | some v =>
      obtain ⟨p, hp, hM2, ks, hk, hv⟩ := hq
      cases hp
  · intro u hu
    simp only [List.mem_cons, List.not_mem_nil, or_false] at hu
    rcases hu with rfl
    · intro lw' sw' vs' ws' σ' ⟨h1_0, h2, h3_0, h4, h5⟩
      obtain ⟨vs1, rfl, h1_1⟩ := hd_srcs h1_0
      obtain ⟨vs2, rfl, h1_2⟩ := hd_srcs h1_1
      obtain rfl := hd_src0 h1_2
      obtain ⟨sw1, rfl, h3_1⟩ := hd_str h3_0
      obtain ⟨rfl, rfl⟩ := hd_st0 h3_1
      have hr9 := hd_ref0 h2
      obtain ⟨v0, e0, l0, u0⟩ := h4 _ (List.mem_cons_self)
      have g0 : 1 * (σ.2.1 118 41).toInt + ((-1) * (σ'.2.1 118 41).toInt + 0) = v0 := Option.some.inj e0
      obtain ⟨v1, e1, l1, u1⟩ := h4 _ (List.mem_cons_of_mem _ (List.mem_cons_self))
      have g1 : 1 * (σ'.2.1 118 43).toInt + 0 = v1 := Option.some.inj e1
      exact cuta _  _ hr9  ⟨by rw [g0]; exact l0, by rw [g0]; exact u0⟩ ⟨by rw [g1]; exact l1, by rw [g1]; exact u1⟩ h5
theorem sg_be8_run (G : sx_G0 g L xs zK hd_T ex_mt) (hct : ∀ (mi : Nat) (T2 : ex_T) (c' : sx_Ct), ex_mt mi = some T2 → c' ∈ k9 mi → c'.1 < 0 → sx_Holds g zK hd_T T2 c') {σ : am_S} {lw : List (Nat × Value)} {post : Option (Option Value) → am_S → Prop} (hM : sx_M zK hd_T σ 0 0 σ) (hl : (0, Value.ref 118) ∈ lw)  (ret0 : ∀ (r : Int32) (σ' : am_S), (1 ≤ 1 * r.toInt + 0 ∧ 1 * r.toInt + 0 ≤ 1) → sx_M zK hd_T σ 0 0 σ' → post (some (some (.int r))) σ') : am_K g 25 tX12_behind.1 0 0 90 lw [] σ post := by
  refine sg_seg (sw := []) (vs := []) (ws := []) G (mi := 77) rfl hct sg_be8_ok trivial (hd_refs hl) trivial hd_p0 hM ?_ ?_
  · intro r σ' hq
    cases r with
    | none => exact hq.elim
    | some v =>
      obtain ⟨p, hp, hM2, ks, hk, hv⟩ := hq
      simp only [List.mem_cons, List.not_mem_nil, or_false] at hp
      rcases hp with rfl
      · obtain rfl := hd_keys hk
        cases v with
        | none => exact hv.elim
        | some w9 =>
          obtain ⟨r, rfl, hP⟩ := hv
          obtain ⟨v0, e0, l0, u0⟩ := hP _ (List.mem_cons_self)
          have g0 : 1 * r.toInt + 0 = v0 := Option.some.inj e0
          exact ret0 r _ ⟨by rw [g0]; exact l0, by rw [g0]; exact u0⟩ hM2
  · intro u hu
    cases hu
theorem sg_be9a_run (G : sx_G0 g L xs zK hd_T ex_mt) (hct : ∀ (mi : Nat) (T2 : ex_T) (c' : sx_Ct), ex_mt mi = some T2 → c' ∈ k9 mi → c'.1 < 0 → sx_Holds g zK hd_T T2 c') {σ : am_S} {lw : List (Nat × Value)} {post : Option (Option Value) → am_S → Prop} (hM : sx_M zK hd_T σ 0 0 σ) (hl : (0, Value.ref 118) ∈ lw) (bp118_9 : 3 ≤ (σ.2.1 118 9).toInt ∧ (σ.2.1 118 9).toInt ≤ 3) (bp118_12 : (-2147483648) ≤ (σ.2.1 118 12).toInt ∧ (σ.2.1 118 12).toInt ≤ 40) (ret0 : ∀ (r : Int32) (σ' : am_S), (0 ≤ 1 * r.toInt + 0 ∧ 1 * r.toInt + 0 ≤ 0) → (1 ≤ 1 * (σ'.2.1 118 13).toInt + 0 ∧ 1 * (σ'.2.1 118 13).toInt + 0 ≤ 1) → (0 ≤ 1 * (σ.2.1 118 10).toInt + ((-1) * (σ'.2.1 118 14).toInt + 0) ∧ 1 * (σ.2.1 118 10).toInt + ((-1) * (σ'.2.1 118 14).toInt + 0) ≤ 0) → sx_M zK hd_T σ 28858891257124862704305937573347373392392387160985434571251191458187784500608308553281933292152037822856416985088 0 σ' → post (some (some (.int r))) σ') : am_K g 25 tX12_behind.1 0 0 98 lw [] σ post := by
  refine sg_seg (sw := []) (vs := [(σ.2.1 118 9).toInt, (σ.2.1 118 12).toInt, (σ.2.1 118 10).toInt]) (ws := []) G (mi := 77) rfl hct sg_be9a_ok ⟨rfl, ⟨rfl, ⟨rfl, trivial⟩⟩⟩ (hd_refs hl) trivial (hd_p1 rfl bp118_9.1 bp118_9.2 (hd_p1 rfl bp118_12.1 bp118_12.2 (hd_p1 rfl (hd_kd_118_10 hM).1 (hd_kd_118_10 hM).2 hd_p0))) hM ?_ ?_
  · intro r σ' hq
    cases r with
    | none => exact hq.elim
    | some v =>
      obtain ⟨p, hp, hM2, ks, hk, hv⟩ := hq
      simp only [List.mem_cons, List.not_mem_nil, or_false] at hp
      rcases hp with rfl
      · obtain ⟨ks0, rfl, hk1⟩ := hd_keyc hk; obtain ⟨ks1, rfl, hk2⟩ := hd_keyc hk1; obtain rfl := hd_keys hk2
        cases v with
        | none => exact hv.elim
        | some w9 =>
          obtain ⟨r, rfl, hP⟩ := hv
          obtain ⟨v0, e0, l0, u0⟩ := hP _ (List.mem_cons_self)
          have g0 : 1 * r.toInt + 0 = v0 := Option.some.inj e0
          obtain ⟨v1, e1, l1, u1⟩ := hP _ (List.mem_cons_of_mem _ (List.mem_cons_self))
          have g1 : 1 * (σ'.2.1 118 13).toInt + 0 = v1 := Option.some.inj e1
          obtain ⟨v2, e2, l2, u2⟩ := hP _ (List.mem_cons_of_mem _ (List.mem_cons_of_mem _ (List.mem_cons_self)))
          have g2 : 1 * (σ.2.1 118 10).toInt + ((-1) * (σ'.2.1 118 14).toInt + 0) = v2 := Option.some.inj e2
          exact ret0 r _ ⟨by rw [g0]; exact l0, by rw [g0]; exact u0⟩ ⟨by rw [g1]; exact l1, by rw [g1]; exact u1⟩ ⟨by rw [g2]; exact l2, by rw [g2]; exact u2⟩ hM2
  · intro u hu
    cases hu
theorem sg_be9b_run (G : sx_G0 g L xs zK hd_T ex_mt) (hct : ∀ (mi : Nat) (T2 : ex_T) (c' : sx_Ct), ex_mt mi = some T2 → c' ∈ k9 mi → c'.1 < 0 → sx_Holds g zK hd_T T2 c') {σ : am_S} {lw : List (Nat × Value)} {post : Option (Option Value) → am_S → Prop} (hM : sx_M zK hd_T σ 0 0 σ) (hl : (0, Value.ref 118) ∈ lw) (bp118_9 : 3 ≤ (σ.2.1 118 9).toInt ∧ (σ.2.1 118 9).toInt ≤ 3) (bp118_12 : 42 ≤ (σ.2.1 118 12).toInt ∧ (σ.2.1 118 12).toInt ≤ 2147483647) (ret0 : ∀ (r : Int32) (σ' : am_S), (0 ≤ 1 * r.toInt + 0 ∧ 1 * r.toInt + 0 ≤ 0) → (1 ≤ 1 * (σ'.2.1 118 13).toInt + 0 ∧ 1 * (σ'.2.1 118 13).toInt + 0 ≤ 1) → (0 ≤ 1 * (σ.2.1 118 10).toInt + ((-1) * (σ'.2.1 118 14).toInt + 0) ∧ 1 * (σ.2.1 118 10).toInt + ((-1) * (σ'.2.1 118 14).toInt + 0) ≤ 0) → sx_M zK hd_T σ 28858891257124862704305937573347373392392387160985434571251191458187784500608308553281933292152037822856416985088 0 σ' → post (some (some (.int r))) σ') : am_K g 25 tX12_behind.1 0 0 98 lw [] σ post := by
  refine sg_seg (sw := []) (vs := [(σ.2.1 118 9).toInt, (σ.2.1 118 12).toInt, (σ.2.1 118 10).toInt]) (ws := []) G (mi := 77) rfl hct sg_be9b_ok ⟨rfl, ⟨rfl, ⟨rfl, trivial⟩⟩⟩ (hd_refs hl) trivial (hd_p1 rfl bp118_9.1 bp118_9.2 (hd_p1 rfl bp118_12.1 bp118_12.2 (hd_p1 rfl (hd_kd_118_10 hM).1 (hd_kd_118_10 hM).2 hd_p0))) hM ?_ ?_
  · intro r σ' hq
    cases r with
    | none => exact hq.elim
    | some v =>
      obtain ⟨p, hp, hM2, ks, hk, hv⟩ := hq
      simp only [List.mem_cons, List.not_mem_nil, or_false] at hp
      rcases hp with rfl
      · obtain ⟨ks0, rfl, hk1⟩ := hd_keyc hk; obtain ⟨ks1, rfl, hk2⟩ := hd_keyc hk1; obtain rfl := hd_keys hk2
        cases v with
        | none => exact hv.elim
        | some w9 =>
          obtain ⟨r, rfl, hP⟩ := hv
          obtain ⟨v0, e0, l0, u0⟩ := hP _ (List.mem_cons_self)
          have g0 : 1 * r.toInt + 0 = v0 := Option.some.inj e0
          obtain ⟨v1, e1, l1, u1⟩ := hP _ (List.mem_cons_of_mem _ (List.mem_cons_self))
          have g1 : 1 * (σ'.2.1 118 13).toInt + 0 = v1 := Option.some.inj e1
          obtain ⟨v2, e2, l2, u2⟩ := hP _ (List.mem_cons_of_mem _ (List.mem_cons_of_mem _ (List.mem_cons_self)))
          have g2 : 1 * (σ.2.1 118 10).toInt + ((-1) * (σ'.2.1 118 14).toInt + 0) = v2 := Option.some.inj e2
          exact ret0 r _ ⟨by rw [g0]; exact l0, by rw [g0]; exact u0⟩ ⟨by rw [g1]; exact l1, by rw [g1]; exact u1⟩ ⟨by rw [g2]; exact l2, by rw [g2]; exact u2⟩ hM2
  · intro u hu
    cases hu
theorem sg_be9c_run (G : sx_G0 g L xs zK hd_T ex_mt) (hct : ∀ (mi : Nat) (T2 : ex_T) (c' : sx_Ct), ex_mt mi = some T2 → c' ∈ k9 mi → c'.1 < 0 → sx_Holds g zK hd_T T2 c') {σ : am_S} {lw : List (Nat × Value)} {post : Option (Option Value) → am_S → Prop} (hM : sx_M zK hd_T σ 0 0 σ) (hl : (0, Value.ref 118) ∈ lw) (bp118_9 : 0 ≤ (σ.2.1 118 9).toInt ∧ (σ.2.1 118 9).toInt ≤ 2) (ret0 : ∀ (r : Int32) (σ' : am_S), (0 ≤ 1 * r.toInt + 0 ∧ 1 * r.toInt + 0 ≤ 0) → (1 ≤ 1 * (σ'.2.1 118 13).toInt + 0 ∧ 1 * (σ'.2.1 118 13).toInt + 0 ≤ 1) → (0 ≤ 1 * (σ.2.1 118 10).toInt + ((-1) * (σ'.2.1 118 14).toInt + 0) ∧ 1 * (σ.2.1 118 10).toInt + ((-1) * (σ'.2.1 118 14).toInt + 0) ≤ 0) → sx_M zK hd_T σ 28858891257124862704305937573347373392392387160985434571251191458187784500608308553281933292152037822856416985088 0 σ' → post (some (some (.int r))) σ') : am_K g 25 tX12_behind.1 0 0 98 lw [] σ post := by
  refine sg_seg (sw := []) (vs := [(σ.2.1 118 9).toInt, (σ.2.1 118 12).toInt, (σ.2.1 118 10).toInt]) (ws := []) G (mi := 77) rfl hct sg_be9c_ok ⟨rfl, ⟨rfl, ⟨rfl, trivial⟩⟩⟩ (hd_refs hl) trivial (hd_p1 rfl bp118_9.1 bp118_9.2 (hd_p1 rfl (hd_kd_118_12 hM).1 (hd_kd_118_12 hM).2 (hd_p1 rfl (hd_kd_118_10 hM).1 (hd_kd_118_10 hM).2 hd_p0))) hM ?_ ?_
  · intro r σ' hq
    cases r with
    | none => exact hq.elim
    | some v =>
      obtain ⟨p, hp, hM2, ks, hk, hv⟩ := hq
      simp only [List.mem_cons, List.not_mem_nil, or_false] at hp
      rcases hp with rfl
      · obtain ⟨ks0, rfl, hk1⟩ := hd_keyc hk; obtain ⟨ks1, rfl, hk2⟩ := hd_keyc hk1; obtain rfl := hd_keys hk2
        cases v with
        | none => exact hv.elim
        | some w9 =>
          obtain ⟨r, rfl, hP⟩ := hv
          obtain ⟨v0, e0, l0, u0⟩ := hP _ (List.mem_cons_self)
          have g0 : 1 * r.toInt + 0 = v0 := Option.some.inj e0
          obtain ⟨v1, e1, l1, u1⟩ := hP _ (List.mem_cons_of_mem _ (List.mem_cons_self))
          have g1 : 1 * (σ'.2.1 118 13).toInt + 0 = v1 := Option.some.inj e1
          obtain ⟨v2, e2, l2, u2⟩ := hP _ (List.mem_cons_of_mem _ (List.mem_cons_of_mem _ (List.mem_cons_self)))
          have g2 : 1 * (σ.2.1 118 10).toInt + ((-1) * (σ'.2.1 118 14).toInt + 0) = v2 := Option.some.inj e2
          exact ret0 r _ ⟨by rw [g0]; exact l0, by rw [g0]; exact u0⟩ ⟨by rw [g1]; exact l1, by rw [g1]; exact u1⟩ ⟨by rw [g2]; exact l2, by rw [g2]; exact u2⟩ hM2
  · intro u hu
    cases hu
theorem sg_be9d_run (G : sx_G0 g L xs zK hd_T ex_mt) (hct : ∀ (mi : Nat) (T2 : ex_T) (c' : sx_Ct), ex_mt mi = some T2 → c' ∈ k9 mi → c'.1 < 0 → sx_Holds g zK hd_T T2 c') {σ : am_S} {lw : List (Nat × Value)} {post : Option (Option Value) → am_S → Prop} (hM : sx_M zK hd_T σ 0 0 σ) (hl : (0, Value.ref 118) ∈ lw) (bp118_9 : 4 ≤ (σ.2.1 118 9).toInt ∧ (σ.2.1 118 9).toInt ≤ 4) (ret0 : ∀ (r : Int32) (σ' : am_S), (0 ≤ 1 * r.toInt + 0 ∧ 1 * r.toInt + 0 ≤ 0) → (1 ≤ 1 * (σ'.2.1 118 13).toInt + 0 ∧ 1 * (σ'.2.1 118 13).toInt + 0 ≤ 1) → (0 ≤ 1 * (σ.2.1 118 10).toInt + ((-1) * (σ'.2.1 118 14).toInt + 0) ∧ 1 * (σ.2.1 118 10).toInt + ((-1) * (σ'.2.1 118 14).toInt + 0) ≤ 0) → sx_M zK hd_T σ 28858891257124862704305937573347373392392387160985434571251191458187784500608308553281933292152037822856416985088 0 σ' → post (some (some (.int r))) σ') : am_K g 25 tX12_behind.1 0 0 98 lw [] σ post := by
  refine sg_seg (sw := []) (vs := [(σ.2.1 118 9).toInt, (σ.2.1 118 12).toInt, (σ.2.1 118 10).toInt]) (ws := []) G (mi := 77) rfl hct sg_be9d_ok ⟨rfl, ⟨rfl, ⟨rfl, trivial⟩⟩⟩ (hd_refs hl) trivial (hd_p1 rfl bp118_9.1 bp118_9.2 (hd_p1 rfl (hd_kd_118_12 hM).1 (hd_kd_118_12 hM).2 (hd_p1 rfl (hd_kd_118_10 hM).1 (hd_kd_118_10 hM).2 hd_p0))) hM ?_ ?_
  · intro r σ' hq
    cases r with
    | none => exact hq.elim
    | some v =>
      obtain ⟨p, hp, hM2, ks, hk, hv⟩ := hq
      simp only [List.mem_cons, List.not_mem_nil, or_false] at hp
      rcases hp with rfl
      · obtain ⟨ks0, rfl, hk1⟩ := hd_keyc hk; obtain ⟨ks1, rfl, hk2⟩ := hd_keyc hk1; obtain rfl := hd_keys hk2
        cases v with
        | none => exact hv.elim
        | some w9 =>
          obtain ⟨r, rfl, hP⟩ := hv
          obtain ⟨v0, e0, l0, u0⟩ := hP _ (List.mem_cons_self)
          have g0 : 1 * r.toInt + 0 = v0 := Option.some.inj e0
          obtain ⟨v1, e1, l1, u1⟩ := hP _ (List.mem_cons_of_mem _ (List.mem_cons_self))
          have g1 : 1 * (σ'.2.1 118 13).toInt + 0 = v1 := Option.some.inj e1
          obtain ⟨v2, e2, l2, u2⟩ := hP _ (List.mem_cons_of_mem _ (List.mem_cons_of_mem _ (List.mem_cons_self)))
          have g2 : 1 * (σ.2.1 118 10).toInt + ((-1) * (σ'.2.1 118 14).toInt + 0) = v2 := Option.some.inj e2
          exact ret0 r _ ⟨by rw [g0]; exact l0, by rw [g0]; exact u0⟩ ⟨by rw [g1]; exact l1, by rw [g1]; exact u1⟩ ⟨by rw [g2]; exact l2, by rw [g2]; exact u2⟩ hM2
  · intro u hu
    cases hu
theorem sg_be9e_run (G : sx_G0 g L xs zK hd_T ex_mt) (hct : ∀ (mi : Nat) (T2 : ex_T) (c' : sx_Ct), ex_mt mi = some T2 → c' ∈ k9 mi → c'.1 < 0 → sx_Holds g zK hd_T T2 c') {σ : am_S} {lw : List (Nat × Value)} {post : Option (Option Value) → am_S → Prop} (hM : sx_M zK hd_T σ 0 0 σ) (hl : (0, Value.ref 118) ∈ lw) (bp118_9 : 3 ≤ (σ.2.1 118 9).toInt ∧ (σ.2.1 118 9).toInt ≤ 3) (bp118_12 : 41 ≤ (σ.2.1 118 12).toInt ∧ (σ.2.1 118 12).toInt ≤ 41) (bp118_41 : 0 ≤ (σ.2.1 118 41).toInt ∧ (σ.2.1 118 41).toInt ≤ 0) (ret0 : ∀ (r : Int32) (σ' : am_S), (0 ≤ 1 * r.toInt + 0 ∧ 1 * r.toInt + 0 ≤ 0) → (1 ≤ 1 * (σ'.2.1 118 13).toInt + 0 ∧ 1 * (σ'.2.1 118 13).toInt + 0 ≤ 1) → (0 ≤ 1 * (σ.2.1 118 10).toInt + ((-1) * (σ'.2.1 118 14).toInt + 0) ∧ 1 * (σ.2.1 118 10).toInt + ((-1) * (σ'.2.1 118 14).toInt + 0) ≤ 0) → sx_M zK hd_T σ 28858891257124862704305937573347373392392387160985434571251191458187784500608308553281933292152037822856416985088 0 σ' → post (some (some (.int r))) σ') : am_K g 25 tX12_behind.1 0 0 98 lw [] σ post := by
  refine sg_seg (sw := []) (vs := [(σ.2.1 118 9).toInt, (σ.2.1 118 12).toInt, (σ.2.1 118 10).toInt, (σ.2.1 118 41).toInt]) (ws := []) G (mi := 77) rfl hct sg_be9e_ok ⟨rfl, ⟨rfl, ⟨rfl, ⟨rfl, trivial⟩⟩⟩⟩ (hd_refs hl) trivial (hd_p1 rfl bp118_9.1 bp118_9.2 (hd_p1 rfl bp118_12.1 bp118_12.2 (hd_p1 rfl (hd_kd_118_10 hM).1 (hd_kd_118_10 hM).2 (hd_p1 rfl bp118_41.1 bp118_41.2 hd_p0)))) hM ?_ ?_
  · intro r σ' hq
    cases r with
    | none => exact hq.elim
    | some v =>
      obtain ⟨p, hp, hM2, ks, hk, hv⟩ := hq
      simp only [List.mem_cons, List.not_mem_nil, or_false] at hp
      rcases hp with rfl
      · obtain ⟨ks0, rfl, hk1⟩ := hd_keyc hk; obtain ⟨ks1, rfl, hk2⟩ := hd_keyc hk1; obtain rfl := hd_keys hk2
        cases v with
        | none => exact hv.elim
        | some w9 =>
          obtain ⟨r, rfl, hP⟩ := hv
          obtain ⟨v0, e0, l0, u0⟩ := hP _ (List.mem_cons_self)
          have g0 : 1 * r.toInt + 0 = v0 := Option.some.inj e0
          obtain ⟨v1, e1, l1, u1⟩ := hP _ (List.mem_cons_of_mem _ (List.mem_cons_self))
          have g1 : 1 * (σ'.2.1 118 13).toInt + 0 = v1 := Option.some.inj e1
          obtain ⟨v2, e2, l2, u2⟩ := hP _ (List.mem_cons_of_mem _ (List.mem_cons_of_mem _ (List.mem_cons_self)))
          have g2 : 1 * (σ.2.1 118 10).toInt + ((-1) * (σ'.2.1 118 14).toInt + 0) = v2 := Option.some.inj e2
          exact ret0 r _ ⟨by rw [g0]; exact l0, by rw [g0]; exact u0⟩ ⟨by rw [g1]; exact l1, by rw [g1]; exact u1⟩ ⟨by rw [g2]; exact l2, by rw [g2]; exact u2⟩ hM2
  · intro u hu
    cases hu
theorem sg_be9f_run (G : sx_G0 g L xs zK hd_T ex_mt) (hct : ∀ (mi : Nat) (T2 : ex_T) (c' : sx_Ct), ex_mt mi = some T2 → c' ∈ k9 mi → c'.1 < 0 → sx_Holds g zK hd_T T2 c') {σ : am_S} {lw : List (Nat × Value)} {post : Option (Option Value) → am_S → Prop} (hM : sx_M zK hd_T σ 0 0 σ) (hl : (0, Value.ref 118) ∈ lw) (bp118_9 : 3 ≤ (σ.2.1 118 9).toInt ∧ (σ.2.1 118 9).toInt ≤ 3) (bp118_12 : 41 ≤ (σ.2.1 118 12).toInt ∧ (σ.2.1 118 12).toInt ≤ 41) (bp118_41 : 1 ≤ (σ.2.1 118 41).toInt ∧ (σ.2.1 118 41).toInt ≤ 40) (bp118_42 : 1 ≤ (σ.2.1 118 42).toInt ∧ (σ.2.1 118 42).toInt ≤ 1000) (cuta : ∀ (lw' : List (Nat × Value))  (σ' : am_S), (0, Value.ref 118) ∈ lw' → (1 ≤ 1 * (σ.2.1 118 41).toInt + ((-1) * (σ'.2.1 118 41).toInt + 0) ∧ 1 * (σ.2.1 118 41).toInt + ((-1) * (σ'.2.1 118 41).toInt + 0) ≤ 1) → (1 ≤ 1 * (σ.2.1 118 42).toInt + ((-1) * (σ'.2.1 118 42).toInt + 0) ∧ 1 * (σ.2.1 118 42).toInt + ((-1) * (σ'.2.1 118 42).toInt + 0) ≤ 1) → sx_M zK hd_T σ 7746749634260725768967757516009035622989117378487670538491978069621942866050523583888936059840413494307709515918242480128 0 σ' → am_K g 25 tX12_behind.1 0 0 141 lw' [.ref 118] σ' post) : am_K g 25 tX12_behind.1 0 0 98 lw [] σ post := by
  refine sg_seg (sw := []) (vs := [(σ.2.1 118 9).toInt, (σ.2.1 118 12).toInt, (σ.2.1 118 41).toInt, (σ.2.1 118 42).toInt]) (ws := []) G (mi := 77) rfl hct sg_be9f_ok ⟨rfl, ⟨rfl, ⟨rfl, ⟨rfl, trivial⟩⟩⟩⟩ (hd_refs hl) trivial (hd_p1 rfl bp118_9.1 bp118_9.2 (hd_p1 rfl bp118_12.1 bp118_12.2 (hd_p1 rfl bp118_41.1 bp118_41.2 (hd_p1 rfl bp118_42.1 bp118_42.2 hd_p0)))) hM ?_ ?_
  · intro r σ' hq
    cases r with
    | none => exact hq.elim
    | some v =>
      obtain ⟨p, hp, hM2, ks, hk, hv⟩ := hq
      cases hp
  · intro u hu
    simp only [List.mem_cons, List.not_mem_nil, or_false] at hu
    rcases hu with rfl
    · intro lw' sw' vs' ws' σ' ⟨h1_0, h2, h3_0, h4, h5⟩
      obtain ⟨vs1, rfl, h1_1⟩ := hd_srcs h1_0
      obtain ⟨vs2, rfl, h1_2⟩ := hd_srcs h1_1
      obtain rfl := hd_src0 h1_2
      obtain ⟨sw1, rfl, h3_1⟩ := hd_str h3_0
      obtain ⟨rfl, rfl⟩ := hd_st0 h3_1
      have hr9 := hd_ref0 h2
      obtain ⟨v0, e0, l0, u0⟩ := h4 _ (List.mem_cons_self)
      have g0 : 1 * (σ.2.1 118 41).toInt + ((-1) * (σ'.2.1 118 41).toInt + 0) = v0 := Option.some.inj e0
      obtain ⟨v1, e1, l1, u1⟩ := h4 _ (List.mem_cons_of_mem _ (List.mem_cons_self))
      have g1 : 1 * (σ.2.1 118 42).toInt + ((-1) * (σ'.2.1 118 42).toInt + 0) = v1 := Option.some.inj e1
      exact cuta _  _ hr9  ⟨by rw [g0]; exact l0, by rw [g0]; exact u0⟩ ⟨by rw [g1]; exact l1, by rw [g1]; exact u1⟩ h5
theorem sg_beg_run (G : sx_G0 g L xs zK hd_T ex_mt) (hct : ∀ (mi : Nat) (T2 : ex_T) (c' : sx_Ct), ex_mt mi = some T2 → c' ∈ k9 mi → c'.1 < 0 → sx_Holds g zK hd_T T2 c') {σ : am_S} {lw : List (Nat × Value)} {post : Option (Option Value) → am_S → Prop} (hM : sx_M zK hd_T σ 0 0 σ) (hl : (0, Value.ref 118) ∈ lw)  (ret0 : ∀ (r : Int32) (σ' : am_S), (1 ≤ 1 * r.toInt + 0 ∧ 1 * r.toInt + 0 ≤ 1) → sx_M zK hd_T σ 0 0 σ' → post (some (some (.int r))) σ') : am_K g 25 tX12_behind.1 0 0 144 lw [] σ post := by
  refine sg_seg (sw := []) (vs := []) (ws := []) G (mi := 77) rfl hct sg_beg_ok trivial (hd_refs hl) trivial hd_p0 hM ?_ ?_
  · intro r σ' hq
    cases r with
    | none => exact hq.elim
    | some v =>
      obtain ⟨p, hp, hM2, ks, hk, hv⟩ := hq
      simp only [List.mem_cons, List.not_mem_nil, or_false] at hp
      rcases hp with rfl
      · obtain rfl := hd_keys hk
        cases v with
        | none => exact hv.elim
        | some w9 =>
          obtain ⟨r, rfl, hP⟩ := hv
          obtain ⟨v0, e0, l0, u0⟩ := hP _ (List.mem_cons_self)
          have g0 : 1 * r.toInt + 0 = v0 := Option.some.inj e0
          exact ret0 r _ ⟨by rw [g0]; exact l0, by rw [g0]; exact u0⟩ hM2
  · intro u hu
    cases hu
end HR
