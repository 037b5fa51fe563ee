/-! segments of sentence and of what it calls (written by a program) -/
def sg_n1 : sg_Cu := (0, 0, [(0, .inr (some (false, 118)))], ([.inr 7733289], [([(.ofNat 1, 0)], .ofNat 0, .ofNat 40)]), [])
def sg_n1_a : sg_Cu := (17, 0, [(0, .inr (some (false, 118)))], ([.inr 7733289], [([(.ofNat 1, 0), (.negSucc 0, 2)], .ofNat 1, .ofNat 1), ([(.ofNat 1, 0)], .ofNat 1, .ofNat 40), ([(.ofNat 1, 0), (.negSucc 0, 1)], .ofNat 0, .ofNat 0)]), [none, some (false, 134)])
def sg_n1_p0 : sx_Po := (0, false, [], [])
theorem sg_n1_ok : sg_chk z9 ex_mt k9 60 tX12_nots 11 20 sg_n1 [sg_n1_p0] [sg_n1_a] = true := by decide +kernel
def sg_n2 : sg_Cu := (18, 0, [(0, .inr (some (false, 118)))], ([.inr 7733289], [([(.ofNat 1, 0)], .ofNat 1, .ofNat 40), ([(.ofNat 1, 1)], .ofNat 20, .ofNat 20)]), [none])
def sg_n2_a : sg_Cu := (48, 7746749634260725768967757516009035622989117378487670538491978069621942866050523583888936059840413494307709515918242480128, [(0, .inr (some (false, 118)))], ([.inr 7733289], [([(.ofNat 1, 3)], .ofNat 0, .ofNat 0), ([(.ofNat 1, 4)], .ofNat 0, .ofNat 0), ([(.ofNat 1, 5)], .ofNat 20, .ofNat 20), ([(.ofNat 1, 0), (.negSucc 0, 2)], .ofNat 1, .ofNat 1)]), [none, none, none, some (false, 118)])
theorem sg_n2_ok : sg_chk z9 ex_mt k9 60 tX12_nots 20 20 sg_n2 [] [sg_n2_a] = true := by decide +kernel
def sg_n3 : sg_Cu := (18, 0, [(0, .inr (some (false, 118)))], ([], [([(.ofNat 1, 0)], .ofNat 21, .ofNat 23)]), [none])
def sg_n3_p0 : sx_Po := (0, false, [], [])
theorem sg_n3_ok : sg_chk z9 ex_mt k9 60 tX12_nots 4 20 sg_n3 [sg_n3_p0] [] = true := by decide +kernel
def sg_j1 : sg_Cu := (0, 0, [(0, .inr (some (false, 118)))], ([.inl 1, .inr 7733289], [([(.ofNat 1, 0)], .negSucc 2147483647, .ofNat 2147483647), ([(.ofNat 1, 1)], .ofNat 0, .ofNat 40)]), [])
def sg_j1_a : sg_Cu := (17, 0, [(0, .inr (some (false, 118)))], ([.inl 1, .inr 7733289], [([(.ofNat 1, 1), (.negSucc 0, 4)], .ofNat 1, .ofNat 1), ([(.ofNat 1, 1)], .ofNat 1, .ofNat 40), ([(.ofNat 1, 1), (.negSucc 0, 3)], .ofNat 0, .ofNat 0), ([(.ofNat 1, 0), (.negSucc 0, 2)], .ofNat 0, .ofNat 0)]), [none, some (false, 134)])
def sg_j1_p0 : sx_Po := (0, false, [], [([(.ofNat 1, 1)], .ofNat 0, .ofNat 0)])
theorem sg_j1_ok : sg_chk z9 ex_mt k9 60 tX12_joins 11 20 sg_j1 [sg_j1_p0] [sg_j1_a] = true := by decide +kernel
def sg_j2 : sg_Cu := (18, 0, [(0, .inr (some (false, 118)))], ([.inl 1, .inr 7733289], [([(.ofNat 1, 0)], .negSucc 2147483647, .ofNat 2147483647), ([(.ofNat 1, 1)], .ofNat 1, .ofNat 40), ([(.ofNat 1, 2)], .ofNat 21, .ofNat 21)]), [none])
def sg_j2_a : sg_Cu := (64, 2582249878086908589655919172003011874329705792829223512830659356540647622016841194629645353280137831435903171972747493376, [(0, .inr (some (false, 118)))], ([.inl 1, .inr 7733289], [([(.ofNat 1, 1), (.negSucc 0, 4)], .ofNat 1, .ofNat 1), ([(.ofNat 1, 1), (.negSucc 0, 5)], .ofNat 1, .ofNat 1), ([(.ofNat 1, 0), (.negSucc 0, 3)], .ofNat 0, .ofNat 0)]), [none, some (false, 134), some (false, 118)])
theorem sg_j2_ok : sg_chk z9 ex_mt k9 60 tX12_joins 15 20 sg_j2 [] [sg_j2_a] = true := by decide +kernel
def sg_j3 : sg_Cu := (18, 0, [(0, .inr (some (false, 118)))], ([.inl 1, .inr 7733289], [([(.ofNat 1, 0)], .negSucc 2147483647, .ofNat 2147483647), ([(.ofNat 1, 1)], .ofNat 1, .ofNat 40), ([(.ofNat 1, 2)], .ofNat 20, .ofNat 20)]), [none])
def sg_j3_a : sg_Cu := (33, 0, [(0, .inr (some (false, 118)))], ([.inl 1, .inr 7733289], [([(.ofNat 1, 1), (.negSucc 0, 5)], .ofNat 1, .ofNat 1), ([(.ofNat 1, 1), (.negSucc 0, 4)], .ofNat 0, .ofNat 0), ([(.ofNat 1, 0), (.negSucc 0, 3)], .ofNat 0, .ofNat 0)]), [none, some (false, 134)])
theorem sg_j3_ok : sg_chk z9 ex_mt k9 60 tX12_joins 10 20 sg_j3 [] [sg_j3_a] = true := by decide +kernel
def sg_j4 : sg_Cu := (18, 0, [(0, .inr (some (false, 118)))], ([.inl 1, .inr 7733289], [([(.ofNat 1, 0)], .negSucc 2147483647, .ofNat 2147483647), ([(.ofNat 1, 1)], .ofNat 1, .ofNat 40), ([(.ofNat 1, 2)], .ofNat 22, .ofNat 23)]), [none])
def sg_j4_a : sg_Cu := (33, 0, [(0, .inr (some (false, 118)))], ([.inl 1, .inr 7733289], [([(.ofNat 1, 1), (.negSucc 0, 5)], .ofNat 1, .ofNat 1), ([(.ofNat 1, 1), (.negSucc 0, 4)], .ofNat 0, .ofNat 0), ([(.ofNat 1, 0), (.negSucc 0, 3)], .ofNat 0, .ofNat 0)]), [none, some (false, 134)])
theorem sg_j4_ok : sg_chk z9 ex_mt k9 60 tX12_joins 10 20 sg_j4 [] [sg_j4_a] = true := by decide +kernel
def sg_j5 : sg_Cu := (34, 0, [(0, .inr (some (false, 118)))], ([.inl 1, .inr 7733289], [([(.ofNat 1, 0)], .ofNat 22, .ofNat 22), ([(.ofNat 1, 1)], .ofNat 1, .ofNat 40), ([(.ofNat 1, 2)], .ofNat 22, .ofNat 22)]), [none])
def sg_j5_a : sg_Cu := (64, 2582249878086908589655919172003011874329705792829223512830659356540647622016841194629645353280137831435903171972747493376, [(0, .inr (some (false, 118)))], ([.inl 1, .inr 7733289], [([(.ofNat 1, 1), (.negSucc 0, 4)], .ofNat 1, .ofNat 1), ([(.ofNat 1, 1), (.negSucc 0, 5)], .ofNat 1, .ofNat 1), ([(.ofNat 1, 0), (.negSucc 0, 3)], .ofNat 0, .ofNat 0)]), [none, some (false, 134), some (false, 118)])
theorem sg_j5_ok : sg_chk z9 ex_mt k9 60 tX12_joins 18 20 sg_j5 [] [sg_j5_a] = true := by decide +kernel
def sg_j6 : sg_Cu := (34, 0, [(0, .inr (some (false, 118)))], ([.inl 1, .inr 7733289], [([(.ofNat 1, 0)], .ofNat 21, .ofNat 21), ([(.ofNat 1, 1)], .ofNat 1, .ofNat 40), ([(.ofNat 1, 2)], .ofNat 22, .ofNat 22)]), [none])
def sg_j6_p0 : sx_Po := (0, false, [], [])
theorem sg_j6_ok : sg_chk z9 ex_mt k9 60 tX12_joins 7 20 sg_j6 [sg_j6_p0] [] = true := by decide +kernel
def sg_j7 : sg_Cu := (34, 0, [(0, .inr (some (false, 118)))], ([.inl 1], [([(.ofNat 1, 0)], .negSucc 2147483647, .ofNat 2147483647), ([(.ofNat 1, 1)], .ofNat 20, .ofNat 20)]), [none])
def sg_j7_p0 : sx_Po := (0, false, [], [])
theorem sg_j7_ok : sg_chk z9 ex_mt k9 60 tX12_joins 4 20 sg_j7 [sg_j7_p0] [] = true := by decide +kernel
def sg_j8 : sg_Cu := (34, 0, [(0, .inr (some (false, 118)))], ([.inl 1], [([(.ofNat 1, 0)], .negSucc 2147483647, .ofNat 2147483647), ([(.ofNat 1, 1)], .ofNat 23, .ofNat 23)]), [none])
def sg_j8_p0 : sx_Po := (0, false, [], [])
theorem sg_j8_ok : sg_chk z9 ex_mt k9 60 tX12_joins 4 20 sg_j8 [sg_j8_p0] [] = true := by decide +kernel
def sg_j9 : sg_Cu := (65, 0, [(0, .inr (some (false, 118)))], ([.inl 1], [([(.ofNat 1, 0)], .negSucc 2147483647, .ofNat 2147483647), ([(.ofNat 1, 1)], .negSucc 2147483647, .ofNat 2147483647)]), [none, some (false, 118)])
def sg_j9_a : sg_Cu := (67, 0, [(0, .inr (some (false, 118)))], ([.inl 1], [([(.ofNat 1, 3)], .ofNat 0, .ofNat 0), ([(.ofNat 1, 4)], .ofNat 0, .ofNat 0), ([(.ofNat 1, 1), (.negSucc 0, 5)], .ofNat 0, .ofNat 0), ([(.ofNat 1, 0), (.negSucc 0, 2)], .ofNat 0, .ofNat 0)]), [none, none, none, some (false, 118)])
theorem sg_j9_ok : sg_chk z9 ex_mt k9 60 tX12_joins 4 20 sg_j9 [] [sg_j9_a] = true := by decide +kernel
def sg_c1 : sg_Cu := (0, 0, [(0, .inr (some (false, 118)))], ([.inl 1, .inl 2, .inl 3, .inr 7733287], [([(.ofNat 1, 0)], .negSucc 2147483647, .ofNat 2147483647), ([(.ofNat 1, 1)], .negSucc 2147483647, .ofNat 2147483647), ([(.ofNat 1, 2)], .negSucc 2147483647, .ofNat 2147483647), ([(.ofNat 1, 3)], .ofNat 0, .ofNat 40)]), [])
def sg_c1_a : sg_Cu := (11, 0, [(0, .inr (some (false, 118)))], ([.inl 1, .inl 2, .inl 3, .inr 7733287], [([(.ofNat 1, 0), (.negSucc 0, 8)], .ofNat 0, .ofNat 0), ([(.ofNat 3, 3), (.negSucc 0, 9)], .ofNat 0, .ofNat 0), ([(.ofNat 1, 0), (.negSucc 0, 4)], .ofNat 0, .ofNat 0), ([(.ofNat 1, 1), (.negSucc 0, 5)], .ofNat 0, .ofNat 0), ([(.ofNat 1, 2), (.negSucc 0, 6)], .ofNat 0, .ofNat 0)]), [none, none, some (false, 122)])
theorem sg_c1_ok : sg_chk z9 ex_mt k9 60 tX12_code 9 5 sg_c1 [] [sg_c1_a] = true := by decide +kernel
def sg_c2 : sg_Cu := (12, 0, [(0, .inr (some (false, 118)))], ([.inl 1, .inl 2, .inl 3, .inr 7733287], [([(.ofNat 1, 0)], .negSucc 2147483647, .ofNat 2147483647), ([(.ofNat 1, 1)], .negSucc 2147483647, .ofNat 2147483647), ([(.ofNat 1, 2)], .negSucc 2147483647, .ofNat 2147483647), ([(.ofNat 1, 3)], .ofNat 0, .ofNat 40)]), [])
def sg_c2_a : sg_Cu := (25, 0, [(0, .inr (some (false, 118)))], ([.inl 1, .inl 2, .inl 3, .inr 7733287], [([(.ofNat 1, 1), (.negSucc 0, 8)], .ofNat 0, .ofNat 0), ([(.ofNat 3, 3), (.negSucc 0, 9)], .negSucc 0, .negSucc 0), ([(.ofNat 1, 0), (.negSucc 0, 4)], .ofNat 0, .ofNat 0), ([(.ofNat 1, 1), (.negSucc 0, 5)], .ofNat 0, .ofNat 0), ([(.ofNat 1, 2), (.negSucc 0, 6)], .ofNat 0, .ofNat 0)]), [none, none, some (false, 122)])
theorem sg_c2_ok : sg_chk z9 ex_mt k9 60 tX12_code 11 5 sg_c2 [] [sg_c2_a] = true := by decide +kernel
def sg_c3 : sg_Cu := (26, 0, [(0, .inr (some (false, 118)))], ([.inl 1, .inl 2, .inl 3, .inr 7733287], [([(.ofNat 1, 0)], .negSucc 2147483647, .ofNat 2147483647), ([(.ofNat 1, 1)], .negSucc 2147483647, .ofNat 2147483647), ([(.ofNat 1, 2)], .negSucc 2147483647, .ofNat 2147483647), ([(.ofNat 1, 3)], .ofNat 0, .ofNat 40)]), [])
def sg_c3_a : sg_Cu := (39, 0, [(0, .inr (some (false, 118)))], ([.inl 1, .inl 2, .inl 3, .inr 7733287], [([(.ofNat 1, 2), (.negSucc 0, 8)], .ofNat 0, .ofNat 0), ([(.ofNat 3, 3), (.negSucc 0, 9)], .negSucc 1, .negSucc 1)]), [none, none, some (false, 122)])
theorem sg_c3_ok : sg_chk z9 ex_mt k9 60 tX12_code 11 5 sg_c3 [] [sg_c3_a] = true := by decide +kernel
def sg_c4 : sg_Cu := (40, 0, [(0, .inr (some (false, 118)))], ([.inr 7733287], [([(.ofNat 1, 0)], .ofNat 0, .ofNat 39)]), [])
def sg_c4_p0 : sx_Po := (645562469521727147413979793000752968582426448207305878207664839135161905504210298657411338320034457858975792993186873344, false, [7733287], [([(.ofNat 1, 0), (.negSucc 0, 1)], .negSucc 0, .negSucc 0)])
theorem sg_c4_ok : sg_chk z9 ex_mt k9 60 tX12_code 8 5 sg_c4 [sg_c4_p0] [] = true := by decide +kernel
def sg_o1 : sg_Cu := (0, 0, [(0, .inr (some (false, 118)))], ([.inr 7733288, .inr 7733289], [([(.ofNat 1, 0)], .ofNat 0, .ofNat 20), ([(.ofNat 1, 1)], .ofNat 0, .ofNat 40)]), [])
def sg_o1_a : sg_Cu := (103, 8452712498170643941637436558664265704301557216577944354047371344426782440907597751590676094202515006314790319892114058862117560952042968596008623655408324355482267590137423016546624510096433278626143964735993559007120432153489348747370186347360966285335158849617067507712, [(0, .inr (some (false, 118)))], ([.inr 7733288], [([(.ofNat 1, 3)], .ofNat 20, .ofNat 20), ([(.ofNat 1, 1), (.negSucc 0, 4)], .ofNat 0, .ofNat 0), ([(.ofNat 1, 0), (.negSucc 0, 2)], .negSucc 0, .negSucc 0), ([(.ofNat 1, 0)], .ofNat 0, .ofNat 19)]), [none, none, some (false, 134)])
def sg_o1_a2 : sg_Cu := (103, 8452712498170643941637436558664265704301557216577944354047371344426782440907597751590676094202515006314790319892114058862117560952042968596008623655408324355482267590137423016546624510096433278626143964735993559007120432153489348747370186347360966285335158849617067507712, [(0, .inr (some (false, 118)))], ([.inr 7733288], [([(.ofNat 1, 3)], .ofNat 23, .ofNat 23), ([(.ofNat 1, 1), (.negSucc 0, 4)], .ofNat 0, .ofNat 0), ([(.ofNat 1, 0), (.negSucc 0, 2)], .negSucc 0, .negSucc 0), ([(.ofNat 1, 0)], .ofNat 0, .ofNat 19)]), [none, none, some (false, 134)])
def sg_o1_b : sg_Cu := (126, 8452712498170643941637436558664265704301557216577944354047371344426782440907597751590676094202515006314790319892114058862117560952042968596008623655408324355482267590137423016546624510096433278626143964735993559007120432153489348747370186347360966285335158849617067507712, [(0, .inr (some (false, 118)))], ([.inl 3, .inr 7733288], [([(.ofNat 1, 2)], .ofNat 0, .ofNat 6), ([(.ofNat 1, 0), (.negSucc 0, 3)], .negSucc 0, .negSucc 0), ([(.ofNat 1, 0)], .ofNat 0, .ofNat 19)]), [])
def sg_o1_p0 : sx_Po := (28858891257124862704305937573347373392392387160985434571251191458187784500608308553281933292152037822856416985088, true, [], [([(.ofNat 1, 2)], .ofNat 0, .ofNat 0)])
theorem sg_o1_ok : sg_chk z9 ex_mt k9 60 tX12_operand 168 25 sg_o1 [sg_o1_p0] [sg_o1_a, sg_o1_a2, sg_o1_b] = true := by decide +kernel
def sg_o2 : sg_Cu := (104, 0, [(0, .inr (some (false, 118)))], ([.inr 7733289], [([(.ofNat 1, 0)], .ofNat 0, .ofNat 39)]), [])
def sg_o2_p0 : sx_Po := (7746749634260725768967757516009035622989117378487670538491978069621942866050523583888936059840413494307709515918242480128, true, [7733289], [([(.ofNat 1, 1)], .ofNat 1, .ofNat 1), ([(.ofNat 1, 0), (.negSucc 0, 2)], .negSucc 0, .negSucc 0)])
theorem sg_o2_ok : sg_chk z9 ex_mt k9 60 tX12_operand 15 25 sg_o2 [sg_o2_p0] [] = true := by decide +kernel
def sg_o3 : sg_Cu := (126, 0, [(0, .inr (some (false, 118)))], ([.inl 3], [([(.ofNat 1, 0)], .ofNat 0, .ofNat 6)]), [])
def sg_o3_a : sg_Cu := (140, 10328999512347634358623676688012047497318823171316894051322637426162590488067364778518581413120551325743612687890989973504, [(0, .inr (some (false, 118)))], ([.inr 7733291], [([(.ofNat 1, 2)], .ofNat 0, .ofNat 0), ([(.ofNat 1, 3)], .ofNat 0, .ofNat 0), ([(.ofNat 1, 4)], .ofNat 0, .ofNat 2), ([(.ofNat 1, 1)], .ofNat 1, .ofNat 1)]), [none, none, none, some (false, 118)])
def sg_o3_b : sg_Cu := (209, 8452712498170643941637436558664265704301557216577944354047371344426782440907597751590676094202515006314790319892114058862117560952042968596008623655417362230055571770201218733648635051656587248901046247030900866755012698830548292928573945083841448695360819951521683734528, [(0, .inr (some (false, 118)))], ([.inr 7733291], [([(.ofNat 1, 4)], .ofNat 3, .ofNat 6), ([(.ofNat 1, 1)], .ofNat 1, .ofNat 1)]), [none, none, none, some (false, 118)])
def sg_o3_p0 : sx_Po := (8452712498170643941637436558664265704301557216577944354047371344426782440907597751590676094202515006314790319892114058862117560952042968596008623655417362230084430661458343596352940989229934622293438634191886301326263890288736077429182253637123381987512857774378100719616, true, [], [([(.ofNat 1, 1)], .ofNat 0, .ofNat 0)])
theorem sg_o3_ok : sg_chk z9 ex_mt k9 60 tX12_operand 41 25 sg_o3 [sg_o3_p0] [sg_o3_a, sg_o3_b] = true := by decide +kernel
def sg_o4 : sg_Cu := (143, 0, [(0, .inr (some (false, 118)))], ([], []), [])
def sg_o4_p0 : sx_Po := (0, true, [], [([(.ofNat 1, 0)], .ofNat 1, .ofNat 1)])
theorem sg_o4_ok : sg_chk z9 ex_mt k9 60 tX12_operand 3 25 sg_o4 [sg_o4_p0] [] = true := by decide +kernel
def sg_o5 : sg_Cu := (212, 0, [(0, .inr (some (false, 118)))], ([], []), [])
def sg_o5_p0 : sx_Po := (8452712498170643941637436558664265704301557216577944354047371344426782440907597751590676094202515006314790319892114058862117560952042968596008623655407033230543224135842595056960623004159268425729729352979578229328850108342480928150055363670720897369617207263630693761024, true, [], [([(.ofNat 1, 0)], .ofNat 1, .ofNat 1)])
theorem sg_o5_ok : sg_chk z9 ex_mt k9 60 tX12_operand 5 25 sg_o5 [sg_o5_p0] [] = true := by decide +kernel
def sg_b1 : sg_Cu := (0, 0, [(0, .inr (some (false, 118)))], ([], []), [])
def sg_b1_a : sg_Cu := (1, 0, [(0, .inr (some (false, 118)))], ([], []), [some (false, 118)])
theorem sg_b1_ok : sg_chk z9 ex_mt k9 60 tX12_behind 3 25 sg_b1 [] [sg_b1_a] = true := by decide +kernel
def sg_b2 : sg_Cu := (4, 0, [(0, .inr (some (false, 118)))], ([], []), [])
def sg_b2_a : sg_Cu := (42, 0, [(0, .inr (some (false, 118)))], ([], [([(.ofNat 1, 0)], .ofNat 21, .ofNat 22)]), [none, some (false, 118)])
def sg_b2_b : sg_Cu := (95, 0, [(0, .inr (some (false, 118)))], ([], [([(.ofNat 1, 0)], .ofNat 22, .ofNat 22)]), [none, some (false, 118)])
theorem sg_b2_ok : sg_chk z9 ex_mt k9 60 tX12_behind 52 25 sg_b2 [] [sg_b2_a, sg_b2_b] = true := by decide +kernel
def sg_b3 : sg_Cu := (45, 0, [(0, .inr (some (false, 118)))], ([.inr 7733289], [([(.ofNat 1, 0)], .ofNat 0, .ofNat 40)]), [])
def sg_b3_a : sg_Cu := (70, 0, [(0, .inr (some (false, 118)))], ([.inr 7733289], [([(.ofNat 1, 2)], .ofNat 21, .ofNat 22), ([(.ofNat 1, 0), (.negSucc 0, 3)], .ofNat 0, .ofNat 0), ([(.ofNat 1, 0), (.negSucc 0, 1)], .ofNat 0, .ofNat 0)]), [none, none, some (false, 134)])
theorem sg_b3_ok : sg_chk z9 ex_mt k9 60 tX12_behind 24 25 sg_b3 [] [sg_b3_a] = true := by decide +kernel
def sg_b4 : sg_Cu := (71, 0, [(0, .inr (some (false, 118)))], ([.inr 7733289], [([(.ofNat 1, 0)], .ofNat 0, .ofNat 39)]), [])
def sg_b4_p0 : sx_Po := (8452712498170643941637436558664265704301557216577944354047371344426782440907597751590676094202515006314790319892114058862117560952042968596008623655419944479933658678790874652820638063530916954693875470543731526111553346452565134123203590437121586526796723123494431227904, true, [7733289, 7733291], [([(.ofNat 1, 1)], .ofNat 1, .ofNat 1), ([(.ofNat 1, 0), (.negSucc 0, 2)], .negSucc 0, .negSucc 0), ([(.ofNat 1, 3)], .ofNat 0, .ofNat 0)])
theorem sg_b4_ok : sg_chk z9 ex_mt k9 60 tX12_behind 14 25 sg_b4 [sg_b4_p0] [] = true := by decide +kernel
def sg_b5 : sg_Cu := (98, 0, [(0, .inr (some (false, 118)))], ([.inr 7733289], [([(.ofNat 1, 0)], .ofNat 0, .ofNat 40)]), [])
def sg_b5_p0 : sx_Po := (28858891257124862704305937573347373392392387160985434571251191458187784500608308553281933292152037822856416985088, true, [], [([(.ofNat 1, 1)], .ofNat 0, .ofNat 0)])
def sg_b5_p1 : sx_Po := (8452712498170643941637436558664265704301557216577944354047371344426782440907597751590676094202515006314790319892114058862117560952042968596008623655414779980177484861611562814476632039782257543108217023518070207398472051208531451733944299730561310863924916779548936241152, true, [7733289], [([(.ofNat 1, 1)], .ofNat 1, .ofNat 1), ([(.ofNat 1, 0), (.negSucc 0, 2)], .ofNat 1, .ofNat 1), ([(.ofNat 1, 0)], .ofNat 1, .ofNat 40)])
theorem sg_b5_ok : sg_chk z9 ex_mt k9 60 tX12_behind 35 25 sg_b5 [sg_b5_p0, sg_b5_p1] [] = true := by decide +kernel
def sg_s1 : sg_Cu := (0, 0, [(0, .inr (some (false, 118)))], ([], []), [])
def sg_s1_a : sg_Cu := (48, 8452712498170643941637436558664265704301557216577944354047371344426782440907597751590676094202515006314790319892114058862117560952042968596008623655427045667108070150039582462692709172023200530171402583781694754729548105279366850278369630033047209888093126749856511033344, [(0, .inr (some (false, 118)))], ([.inl 1, .inr 7733287, .inr 7733289, .inr 7733288, .inr 7733291, .inr 7733250], [([(.ofNat 1, 0)], .ofNat 1, .ofNat 1), ([(.ofNat 1, 1)], .ofNat 0, .ofNat 0), ([(.ofNat 1, 2)], .ofNat 0, .ofNat 0), ([(.ofNat 1, 3)], .ofNat 0, .ofNat 0), ([(.ofNat 1, 4)], .ofNat 0, .ofNat 0), ([(.ofNat 1, 5)], .ofNat 0, .ofNat 0)]), [])
theorem sg_s1_ok : sg_chk z9 ex_mt k9 60 tX12_sentence 44 30 sg_s1 [] [sg_s1_a] = true := by decide +kernel
def sg_s2 : sg_Cu := (48, 0, [(0, .inr (some (false, 118)))], ([.inl 1, .inr 7733291], [([(.ofNat 1, 0)], .ofNat 1, .ofNat 1), ([(.ofNat 1, 1)], .ofNat 0, .ofNat 1)]), [])
def sg_s2_a : sg_Cu := (67, 0, [(0, .inr (some (false, 118)))], ([.inl 1], [([(.ofNat 1, 1)], .ofNat 1, .ofNat 1)]), [some (false, 118)])
def sg_s2_b : sg_Cu := (109, 0, [(0, .inr (some (false, 118)))], ([.inl 1], [([(.ofNat 1, 1)], .ofNat 1, .ofNat 1), ([(.ofNat 1, 2)], .ofNat 1, .ofNat 1)]), [some (false, 118)])
def sg_s2_c : sg_Cu := (119, 0, [(0, .inr (some (false, 118)))], ([.inl 1], [([(.ofNat 1, 1)], .ofNat 0, .ofNat 0), ([(.ofNat 1, 2)], .ofNat 1, .ofNat 1)]), [some (false, 118)])
theorem sg_s2_ok : sg_chk z9 ex_mt k9 60 tX12_sentence 14 30 sg_s2 [] [sg_s2_a, sg_s2_b, sg_s2_c] = true := by decide +kernel
def sg_s3 : sg_Cu := (70, 0, [(0, .inr (some (false, 118)))], ([.inl 1], [([(.ofNat 1, 0)], .negSucc 2147483647, .ofNat 2147483647)]), [])
def sg_s3_a : sg_Cu := (73, 0, [(0, .inr (some (false, 118)))], ([], [([(.ofNat 1, 1)], .ofNat 22, .ofNat 22)]), [none, some (false, 118)])
theorem sg_s3_ok : sg_chk z9 ex_mt k9 60 tX12_sentence 4 30 sg_s3 [] [sg_s3_a] = true := by decide +kernel
def sg_s4 : sg_Cu := (76, 0, [(0, .inr (some (false, 118)))], ([.inr 7733289, .inr 7733287], [([(.ofNat 1, 0)], .ofNat 0, .ofNat 40), ([(.ofNat 1, 1)], .ofNat 0, .ofNat 40)]), [])
def sg_s4_a : sg_Cu := (142, 0, [(0, .inr (some (false, 118)))], ([.inr 7733289, .inr 7733287], [([(.ofNat 1, 0)], .ofNat 0, .ofNat 0), ([(.ofNat 1, 1), (.negSucc 0, 4)], .ofNat 0, .ofNat 0), ([(.ofNat 1, 5)], .ofNat 96, .ofNat 96), ([(.ofNat 1, 0), (.negSucc 0, 2)], .ofNat 0, .ofNat 0), ([(.ofNat 1, 1), (.negSucc 0, 3)], .ofNat 0, .ofNat 0)]), [none, none, some (false, 120)])
def sg_s4_p0 : sx_Po := (28858891257124862704305937573347373392392387160985434571251191458187784500608308553281933292152037822856416985088, true, [], [])
theorem sg_s4_ok : sg_chk z9 ex_mt k9 60 tX12_sentence 22 30 sg_s4 [sg_s4_p0] [sg_s4_a] = true := by decide +kernel
def sg_s5 : sg_Cu := (112, 0, [(0, .inr (some (false, 118)))], ([.inl 1], [([(.ofNat 1, 0)], .ofNat 1, .ofNat 1), ([(.ofNat 1, 1)], .ofNat 0, .ofNat 1)]), [none])
def sg_s5_a : sg_Cu := (48, 0, [(0, .inr (some (false, 118)))], ([.inl 1], [([(.ofNat 1, 2)], .ofNat 1, .ofNat 1), ([(.ofNat 1, 1)], .ofNat 1, .ofNat 1)]), [])
def sg_s5_p0 : sx_Po := (0, true, [], [])
theorem sg_s5_ok : sg_chk z9 ex_mt k9 60 tX12_sentence 8 30 sg_s5 [sg_s5_p0] [sg_s5_a] = true := by decide +kernel
def sg_s6 : sg_Cu := (122, 0, [(0, .inr (some (false, 118)))], ([.inl 1], [([(.ofNat 1, 0)], .ofNat 1, .ofNat 1), ([(.ofNat 1, 1)], .ofNat 0, .ofNat 1)]), [none])
def sg_s6_a : sg_Cu := (48, 0, [(0, .inr (some (false, 118)))], ([.inl 1], [([(.ofNat 1, 2)], .ofNat 1, .ofNat 1), ([(.ofNat 1, 1)], .ofNat 1, .ofNat 1)]), [])
def sg_s6_p0 : sx_Po := (0, true, [], [])
theorem sg_s6_ok : sg_chk z9 ex_mt k9 60 tX12_sentence 7 30 sg_s6 [sg_s6_p0] [sg_s6_a] = true := by decide +kernel
def sg_s7 : sg_Cu := (143, 0, [(0, .inr (some (false, 118)))], ([], []), [])
def sg_s7_a : sg_Cu := (145, 0, [(0, .inr (some (false, 118)))], ([.inl 2], [([(.ofNat 1, 0)], .ofNat 0, .ofNat 0)]), [])
theorem sg_s7_ok : sg_chk zK ex_mt k9 0 tX12_sentence 4 30 sg_s7 [] [sg_s7_a] = true := by decide +kernel
def sg_s8 : sg_Cu := (145, 0, [(0, .inr (some (false, 118)))], ([.inl 2, .inr 7733287], [([(.ofNat 1, 0)], .ofNat 0, .ofNat 120), ([(.ofNat 1, 1)], .ofNat 0, .ofNat 40)]), [])
def sg_s8_a : sg_Cu := (168, 0, [(0, .inr (some (false, 118)))], ([.inl 2, .inr 7733287], [([(.ofNat 1, 0), (.negSucc 0, 4)], .ofNat 0, .ofNat 0), ([(.ofNat 1, 0), (.negSucc 0, 5)], .negSucc 96, .negSucc 96), ([(.ofNat 1, 0), (.negSucc 2, 1)], .negSucc 4611686018427387903, .negSucc 0), ([(.ofNat 1, 0), (.negSucc 0, 2)], .ofNat 0, .ofNat 0), ([(.ofNat 1, 1), (.negSucc 0, 3)], .ofNat 0, .ofNat 0)]), [none, some (false, 122), none, some (false, 120)])
def sg_s8_p0 : sx_Po := (0, true, [], [([(.ofNat 1, 0), (.negSucc 2, 1)], .ofNat 0, .ofNat 4611686018427387904)])
theorem sg_s8_ok : sg_chk zK ex_mt k9 0 tX12_sentence 16 30 sg_s8 [sg_s8_p0] [sg_s8_a] = true := by decide +kernel
def sg_s9 : sg_Cu := (170, 0, [(0, .inr (some (false, 118)))], ([.inl 2], [([(.ofNat 1, 0)], .ofNat 0, .ofNat 119)]), [])
def sg_s9_a : sg_Cu := (145, 0, [(0, .inr (some (false, 118)))], ([.inl 2], [([(.ofNat 1, 0), (.negSucc 0, 1)], .negSucc 0, .negSucc 0)]), [])
theorem sg_s9_ok : sg_chk zK ex_mt k9 0 tX12_sentence 4 30 sg_s9 [] [sg_s9_a] = true := by decide +kernel
def sg_qe : sg_Cu := (0, 0, [(0, .inr (some (false, 118)))], ([.inl 1], [([(.ofNat 1, 0)], .ofNat 0, .ofNat 9)]), [])
def sg_qe_u : sg_Cu := (4, 0, [(0, .inr (some (false, 118)))], ([.inl 1, .inl 2, .inl 3], [([(.ofNat 1, 0), (.negSucc 0, 1)], .ofNat 0, .ofNat 0), ([(.ofNat 1, 2)], .ofNat 0, .ofNat 0), ([(.ofNat 1, 3)], .ofNat 0, .ofNat 0)]), [])
theorem sg_qe_ok : sg_chk z9 ex_mt k9 50 tX12_isSaid 6 12 sg_qe [] [sg_qe_u] = true := by decide +kernel
def sg_qx : sg_Cu := (4, 0, [(0, .inr (some (false, 118)))], ([.inl 1, .inl 2, .inl 3, .inr 7864416], [([(.ofNat 1, 0)], .negSucc 2147483647, .ofNat 2147483647), ([(.ofNat 1, 1)], .negSucc 2147483647, .ofNat 2147483647), ([(.ofNat 1, 2)], .ofNat 0, .ofNat 40), ([(.ofNat 1, 3)], .ofNat 0, .ofNat 40), ([(.ofNat 1, 2), (.negSucc 0, 3)], .ofNat 0, .ofNat 2147483647)]), [])
def sg_qx_p0 : sx_Po := (0, true, [], [([(.ofNat 1, 4)], .ofNat 0, .ofNat 1)])
theorem sg_qx_ok : sg_chk z9 ex_mt k9 50 tX12_isSaid 12 12 sg_qx [sg_qx_p0] [] = true := by decide +kernel
def sg_ql : sg_Cu := (197, 0, [(0, .inr (some (false, 118)))], ([.inl 1, .inl 2, .inl 3], [([(.ofNat 1, 0)], .ofNat 0, .ofNat 9), ([(.ofNat 1, 1)], .ofNat 0, .ofNat 39), ([(.ofNat 1, 2)], .ofNat 0, .ofNat 39), ([(.ofNat 1, 3)], .negSucc 2147483647, .ofNat 2147483647), ([(.ofNat 1, 4)], .negSucc 2147483647, .ofNat 2147483647), ([(.ofNat 1, 5)], .negSucc 2147483647, .ofNat 2147483647), ([(.ofNat 1, 6)], .ofNat 0, .ofNat 9), ([(.ofNat 1, 7)], .ofNat 0, .ofNat 39)]), [none, none, none, none, some (false, 118), none, some (false, 135)])
def sg_ql_u : sg_Cu := (4, 99895953610111751404211111353381321783955140565279076827493022708011895642232499843849795298031743077114461795885011932654335221737225129801285632, [(0, .inr (some (false, 118)))], ([.inl 1, .inl 2, .inl 3], [([(.ofNat 1, 0), (.negSucc 0, 8)], .ofNat 0, .ofNat 0), ([(.ofNat 1, 1), (.negSucc 0, 9)], .negSucc 0, .negSucc 0), ([(.ofNat 1, 2), (.negSucc 0, 10)], .negSucc 0, .negSucc 0)]), [])
theorem sg_ql_ok : sg_chk z9 ex_mt k9 50 tX12_isSaid 46 12 sg_ql [] [sg_ql_u] = true := by decide +kernel
def sg_i1 : sg_Cu := (0, 0, [(0, .inr (some (false, 118)))], ([.inl 1, .inr 8978432, .inr 8978433], [([(.ofNat 1, 0)], .negSucc 2147483647, .ofNat 2147483647), ([(.ofNat 1, 1)], .ofNat 0, .ofNat 1), ([(.ofNat 1, 2)], .ofNat 0, .ofNat 1)]), [])
def sg_i1_a : sg_Cu := (18, 1174271291386916613944740298394668513687841274454159935353645485766104512557304221731849499192384351515967488, [(0, .inr (some (false, 118)))], ([.inl 1, .inl 2], [([(.ofNat 1, 4)], .ofNat 0, .ofNat 0), ([(.ofNat 1, 0), (.negSucc 0, 3)], .ofNat 0, .ofNat 0), ([(.ofNat 1, 0)], .ofNat 0, .ofNat 1)]), [])
def sg_i1_p0 : sx_Po := (1174271291386916613944740298394668513687841274454159935353645485766104512557304221731849499192384351515967488, true, [], [([(.ofNat 1, 3)], .ofNat 0, .ofNat 0), ([(.ofNat 1, 0)], .negSucc 2147483647, .negSucc 0)])
def sg_i1_p1 : sx_Po := (1174271291386916613944740298394668513687841274454159935353645485766104512557304221731849499192384351515967488, true, [], [([(.ofNat 1, 3)], .ofNat 0, .ofNat 0), ([(.ofNat 1, 0)], .ofNat 2, .ofNat 2147483647)])
theorem sg_i1_ok : sg_chk z9 ex_mt k9 60 tX12_image 21 12 sg_i1 [sg_i1_p0, sg_i1_p1] [sg_i1_a] = true := by decide +kernel
def sg_i2 : sg_Cu := (18, 0, [(0, .inr (some (false, 118)))], ([.inl 1, .inl 2], [([(.ofNat 1, 0)], .ofNat 0, .ofNat 1), ([(.ofNat 1, 1)], .ofNat 0, .ofNat 277)]), [])
def sg_i2_a : sg_Cu := (41, 0, [(0, .inr (some (false, 118)))], ([.inl 1, .inl 2], [([(.ofNat 1, 1), (.negSucc 0, 4)], .ofNat 0, .ofNat 0), ([(.ofNat 277, 0), (.ofNat 1, 1), (.negSucc 0, 5)], .ofNat 0, .ofNat 0), ([(.ofNat 1, 1)], .ofNat 0, .ofNat 276), ([(.ofNat 1, 0), (.negSucc 0, 2)], .ofNat 0, .ofNat 0), ([(.ofNat 1, 1), (.negSucc 0, 3)], .ofNat 0, .ofNat 0)]), [none, some (false, 120), none, some (false, 136)])
def sg_i2_b : sg_Cu := (49, 0, [(0, .inr (some (false, 118)))], ([.inl 1, .inl 2], [([(.ofNat 1, 1)], .ofNat 277, .ofNat 277), ([(.ofNat 1, 0), (.negSucc 0, 2)], .ofNat 0, .ofNat 0)]), [])
theorem sg_i2_ok : sg_chk zK ex_mt k9 0 tX12_image 15 12 sg_i2 [] [sg_i2_a, sg_i2_b] = true := by decide +kernel
def sg_i3 : sg_Cu := (43, 0, [(0, .inr (some (false, 118)))], ([.inl 1, .inl 2], [([(.ofNat 1, 0)], .ofNat 0, .ofNat 1), ([(.ofNat 1, 1)], .ofNat 0, .ofNat 276)]), [])
def sg_i3_a : sg_Cu := (18, 0, [(0, .inr (some (false, 118)))], ([.inl 1, .inl 2], [([(.ofNat 1, 0), (.negSucc 0, 2)], .ofNat 0, .ofNat 0), ([(.ofNat 1, 1), (.negSucc 0, 3)], .negSucc 0, .negSucc 0)]), [])
theorem sg_i3_ok : sg_chk zK ex_mt k9 0 tX12_image 4 12 sg_i3 [] [sg_i3_a] = true := by decide +kernel
def sg_i4 : sg_Cu := (49, 0, [(0, .inr (some (false, 118)))], ([.inl 1, .inr 8978432, .inr 8978433], [([(.ofNat 1, 0)], .ofNat 0, .ofNat 0), ([(.ofNat 1, 1)], .ofNat 0, .ofNat 1), ([(.ofNat 1, 2)], .ofNat 0, .ofNat 1)]), [])
def sg_i4_p0 : sx_Po := (14059105607947488696282932836518693308967803494693489478439861164411992439598399594747002144074658928593502845729752797260025831423419686528151609940203637047296, true, [8978432, 8978433], [([(.ofNat 1, 3)], .ofNat 1, .ofNat 1), ([(.ofNat 1, 4)], .ofNat 1, .ofNat 1), ([(.ofNat 1, 2), (.negSucc 0, 5)], .ofNat 0, .ofNat 0)])
theorem sg_i4_ok : sg_chk z9 ex_mt k9 60 tX12_image 8 12 sg_i4 [sg_i4_p0] [] = true := by decide +kernel
def sg_i5 : sg_Cu := (49, 0, [(0, .inr (some (false, 118)))], ([.inl 1, .inr 8978432, .inr 8978433], [([(.ofNat 1, 0)], .ofNat 1, .ofNat 1), ([(.ofNat 1, 1)], .ofNat 0, .ofNat 1), ([(.ofNat 1, 2)], .ofNat 0, .ofNat 1)]), [])
def sg_i5_p0 : sx_Po := (14059105607947488696282932836518693308967803494693489478439861164411992439598399594747002144074658928593502845729752797260025831423419686528151609940203637047296, true, [8978432, 8978433], [([(.ofNat 1, 3)], .ofNat 1, .ofNat 1), ([(.ofNat 1, 5)], .ofNat 1, .ofNat 1), ([(.ofNat 1, 1), (.negSucc 0, 4)], .ofNat 0, .ofNat 0)])
theorem sg_i5_ok : sg_chk z9 ex_mt k9 60 tX12_image 8 12 sg_i5 [sg_i5_p0] [] = true := by decide +kernel
def sg_r1 : sg_Cu := (0, 0, [(0, .inr (some (false, 118)))], ([.inl 1, .inr 8978432, .inr 8978433], [([(.ofNat 1, 0)], .negSucc 2147483647, .ofNat 2147483647), ([(.ofNat 1, 1)], .ofNat 0, .ofNat 1), ([(.ofNat 1, 2)], .ofNat 0, .ofNat 1)]), [])
def sg_r1_a : sg_Cu := (27, 1174271291386916613944740298394668513687841274454159935353645485766104512557304221731849499192384351515967488, [(0, .inr (some (false, 118)))], ([.inl 1, .inl 2], [([(.ofNat 1, 4)], .ofNat 0, .ofNat 0), ([(.ofNat 1, 0), (.negSucc 0, 3)], .ofNat 0, .ofNat 0), ([(.ofNat 1, 0)], .ofNat 0, .ofNat 0), ([(.ofNat 1, 1)], .ofNat 1, .ofNat 1)]), [])
def sg_r1_b : sg_Cu := (27, 1174271291386916613944740298394668513687841274454159935353645485766104512557304221731849499192384351515967488, [(0, .inr (some (false, 118)))], ([.inl 1, .inl 2], [([(.ofNat 1, 4)], .ofNat 0, .ofNat 0), ([(.ofNat 1, 0), (.negSucc 0, 3)], .ofNat 0, .ofNat 0), ([(.ofNat 1, 0)], .ofNat 1, .ofNat 1), ([(.ofNat 1, 2)], .ofNat 1, .ofNat 1)]), [])
def sg_r1_p0 : sx_Po := (1174271291386916613944740298394668513687841274454159935353645485766104512557304221731849499192384351515967488, true, [], [([(.ofNat 1, 3)], .ofNat 0, .ofNat 0), ([(.ofNat 1, 0)], .negSucc 2147483647, .negSucc 0)])
def sg_r1_p1 : sx_Po := (1174271291386916613944740298394668513687841274454159935353645485766104512557304221731849499192384351515967488, true, [], [([(.ofNat 1, 3)], .ofNat 0, .ofNat 0), ([(.ofNat 1, 0)], .ofNat 2, .ofNat 2147483647)])
def sg_r1_p2 : sx_Po := (1174271291386916613944740298394668513687841274454159935353645485766104512557304221731849499192384351515967488, true, [], [([(.ofNat 1, 3)], .ofNat 0, .ofNat 0), ([(.ofNat 1, 0)], .ofNat 0, .ofNat 0), ([(.ofNat 1, 1)], .ofNat 0, .ofNat 0)])
def sg_r1_p3 : sx_Po := (1174271291386916613944740298394668513687841274454159935353645485766104512557304221731849499192384351515967488, true, [], [([(.ofNat 1, 3)], .ofNat 0, .ofNat 0), ([(.ofNat 1, 0)], .ofNat 1, .ofNat 1), ([(.ofNat 1, 2)], .ofNat 0, .ofNat 0)])
theorem sg_r1_ok : sg_chk z9 ex_mt k9 60 tX12_restore 26 12 sg_r1 [sg_r1_p0, sg_r1_p1, sg_r1_p2, sg_r1_p3] [sg_r1_a, sg_r1_b] = true := by decide +kernel
def sg_r2 : sg_Cu := (27, 0, [(0, .inr (some (false, 118)))], ([.inl 1, .inl 2], [([(.ofNat 1, 0)], .ofNat 0, .ofNat 1), ([(.ofNat 1, 1)], .ofNat 0, .ofNat 277)]), [])
def sg_r2_a : sg_Cu := (50, 0, [(0, .inr (some (false, 118)))], ([.inl 1, .inl 2], [([(.ofNat 1, 1), (.negSucc 0, 5)], .ofNat 0, .ofNat 0), ([(.ofNat 277, 0), (.ofNat 1, 1), (.negSucc 0, 4)], .ofNat 0, .ofNat 0), ([(.ofNat 1, 1)], .ofNat 0, .ofNat 276), ([(.ofNat 1, 0), (.negSucc 0, 2)], .ofNat 0, .ofNat 0), ([(.ofNat 1, 1), (.negSucc 0, 3)], .ofNat 0, .ofNat 0)]), [none, some (false, 136), none, some (false, 120)])
def sg_r2_b : sg_Cu := (58, 0, [(0, .inr (some (false, 118)))], ([.inl 1, .inl 2], [([(.ofNat 1, 1)], .ofNat 277, .ofNat 277), ([(.ofNat 1, 0), (.negSucc 0, 2)], .ofNat 0, .ofNat 0)]), [])
theorem sg_r2_ok : sg_chk zK ex_mt k9 0 tX12_restore 15 12 sg_r2 [] [sg_r2_a, sg_r2_b] = true := by decide +kernel
def sg_r3 : sg_Cu := (52, 0, [(0, .inr (some (false, 118)))], ([.inl 1, .inl 2], [([(.ofNat 1, 0)], .ofNat 0, .ofNat 1), ([(.ofNat 1, 1)], .ofNat 0, .ofNat 276)]), [])
def sg_r3_a : sg_Cu := (27, 0, [(0, .inr (some (false, 118)))], ([.inl 1, .inl 2], [([(.ofNat 1, 0), (.negSucc 0, 2)], .ofNat 0, .ofNat 0), ([(.ofNat 1, 1), (.negSucc 0, 3)], .negSucc 0, .negSucc 0)]), [])
theorem sg_r3_ok : sg_chk zK ex_mt k9 0 tX12_restore 4 12 sg_r3 [] [sg_r3_a] = true := by decide +kernel
def sg_r4 : sg_Cu := (58, 0, [(0, .inr (some (false, 118)))], ([], []), [])
def sg_r4_p0 : sx_Po := (2462625387274654950767440006258975862817483704404090416746768337765357610718575663213391640930307227550414249394176, true, [], [([(.ofNat 1, 0)], .ofNat 1, .ofNat 1)])
theorem sg_r4_ok : sg_chk z9 ex_mt k9 60 tX12_restore 6 12 sg_r4 [sg_r4_p0] [] = true := by decide +kernel
section HR
variable {g : am_C} {L : Nat} {xs : Nat → Int32}
theorem hd_kd_118_39 {C9 : Nat → am_S → Prop} {cl : List sx_Cl} {cu : List (Nat × Nat × Nat × Nat)} {σe σ : am_S} {m : Nat} (h : sx_M (z9.1, z9.2.1, z9.2.2.1, z9.2.2.2.1, cl, cu, z9.2.2.2.2.2.2) C9 σe m 0 σ) : (0 : Int) ≤ (σ.2.1 118 39).toInt ∧ (σ.2.1 118 39).toInt ≤ 40 := h.2.2.1 118 39 _ _ 398 rfl
theorem hd_kd_118_40 {C9 : Nat → am_S → Prop} {cl : List sx_Cl} {cu : List (Nat × Nat × Nat × Nat)} {σe σ : am_S} {m : Nat} (h : sx_M (z9.1, z9.2.1, z9.2.2.1, z9.2.2.2.1, cl, cu, z9.2.2.2.2.2.2) C9 σe m 0 σ) : (0 : Int) ≤ (σ.2.1 118 40).toInt ∧ (σ.2.1 118 40).toInt ≤ 20 := h.2.2.1 118 40 _ _ 399 rfl
theorem hd_kd_118_41 {C9 : Nat → am_S → Prop} {cl : List sx_Cl} {cu : List (Nat × Nat × Nat × Nat)} {σe σ : am_S} {m : Nat} (h : sx_M (z9.1, z9.2.1, z9.2.2.1, z9.2.2.2.1, cl, cu, z9.2.2.2.2.2.2) C9 σe m 0 σ) : (0 : Int) ≤ (σ.2.1 118 41).toInt ∧ (σ.2.1 118 41).toInt ≤ 40 := h.2.2.1 118 41 _ _ 400 rfl
theorem hd_kd_118_43 {C9 : Nat → am_S → Prop} {cl : List sx_Cl} {cu : List (Nat × Nat × Nat × Nat)} {σe σ : am_S} {m : Nat} (h : sx_M (z9.1, z9.2.1, z9.2.2.1, z9.2.2.2.1, cl, cu, z9.2.2.2.2.2.2) C9 σe m 0 σ) : (0 : Int) ≤ (σ.2.1 118 43).toInt ∧ (σ.2.1 118 43).toInt ≤ 1 := h.2.2.1 118 43 _ _ 402 rfl
theorem hd_kd_120_96 {C9 : Nat → am_S → Prop} {cl : List sx_Cl} {cu : List (Nat × Nat × Nat × Nat)} {σe σ : am_S} {m : Nat} (h : sx_M (z9.1, z9.2.1, z9.2.2.1, z9.2.2.2.1, cl, cu, z9.2.2.2.2.2.2) C9 σe m 0 σ) : (0 : Int) ≤ (σ.2.1 120 96).toInt ∧ (σ.2.1 120 96).toInt ≤ 40 := h.2.2.1 120 96 _ _ 428 rfl
theorem hd_kd_137_0 {C9 : Nat → am_S → Prop} {cl : List sx_Cl} {cu : List (Nat × Nat × Nat × Nat)} {σe σ : am_S} {m : Nat} (h : sx_M (z9.1, z9.2.1, z9.2.2.1, z9.2.2.2.1, cl, cu, z9.2.2.2.2.2.2) C9 σe m 0 σ) : (0 : Int) ≤ (σ.2.1 137 0).toInt ∧ (σ.2.1 137 0).toInt ≤ 1 := h.2.2.1 137 0 _ _ 532 rfl
theorem hd_kd_137_1 {C9 : Nat → am_S → Prop} {cl : List sx_Cl} {cu : List (Nat × Nat × Nat × Nat)} {σe σ : am_S} {m : Nat} (h : sx_M (z9.1, z9.2.1, z9.2.2.1, z9.2.2.2.1, cl, cu, z9.2.2.2.2.2.2) C9 σe m 0 σ) : (0 : Int) ≤ (σ.2.1 137 1).toInt ∧ (σ.2.1 137 1).toInt ≤ 1 := h.2.2.1 137 1 _ _ 532 rfl
theorem sg_n1_run (G : sx_G0 g L xs z9 hd_C ex_mt) (hct : ∀ (mi : Nat) (T2 : ex_T) (c' : sx_Ct), ex_mt mi = some T2 → c' ∈ k9 mi → c'.1 < 60 → sx_Holds g z9 hd_C T2 c') {σ : am_S} {lw : List (Nat × Value)} {post : Option (Option Value) → am_S → Prop} (hM : sx_M z9 hd_C σ 0 0 σ) (hl : (0, Value.ref 118) ∈ lw)  (ret0 : ∀ (σ' : am_S), sx_M z9 hd_C σ 0 0 σ' → post (some none) σ') (cuta : ∀ (lw' : List (Nat × Value)) (n0' : Int32) (σ' : am_S), (0, Value.ref 118) ∈ lw' → (1 ≤ 1 * (σ.2.1 118 41).toInt + ((-1) * n0'.toInt + 0) ∧ 1 * (σ.2.1 118 41).toInt + ((-1) * n0'.toInt + 0) ≤ 1) → (1 ≤ 1 * (σ.2.1 118 41).toInt + 0 ∧ 1 * (σ.2.1 118 41).toInt + 0 ≤ 40) → (0 ≤ 1 * (σ.2.1 118 41).toInt + ((-1) * (σ'.2.1 118 41).toInt + 0) ∧ 1 * (σ.2.1 118 41).toInt + ((-1) * (σ'.2.1 118 41).toInt + 0) ≤ 0) → sx_M z9 hd_C σ 0 0 σ' → am_K g 20 tX12_nots.1 0 0 17 lw' [.int n0', .ref 134] σ' post) : am_K g 20 tX12_nots.1 0 0 0 lw [] σ post := by
  refine sg_seg (sw := []) (vs := [(σ.2.1 118 41).toInt]) (ws := []) G (mi := 142) rfl hct sg_n1_ok ⟨rfl, trivial⟩ (hd_refs hl) trivial (hd_p1 rfl (hd_kd_118_41 hM).1 (hd_kd_118_41 hM).2 hd_p0) hM ?_ ?_
  · intro r σ' hq
    cases r with
    | none => exact hq.elim
    | some v =>
      obtain ⟨p, hp, hM2, ks, hk, hv⟩ := hq
      simp only [List.mem_cons, List.not_mem_nil, or_false] at hp
      rcases hp with rfl
      · obtain rfl := hd_keys hk
        cases v with
        | some w9 => exact hv.elim
        | none =>
          have hP := hv
          exact ret0 _  hM2
  · intro u hu
    simp only [List.mem_cons, List.not_mem_nil, or_false] at hu
    rcases hu with rfl
    · intro lw' sw' vs' ws' σ' ⟨h1_0, h2, h3_0, h4, h5⟩
      obtain ⟨vs1, rfl, h1_1⟩ := hd_srcs h1_0
      obtain rfl := hd_src0 h1_1
      obtain ⟨n0', sw1, ws1, rfl, rfl, h3_1⟩ := hd_sti h3_0
      obtain ⟨sw2, rfl, h3_2⟩ := hd_str h3_1
      obtain ⟨rfl, rfl⟩ := hd_st0 h3_2
      have hr9 := hd_ref0 h2
      obtain ⟨v0, e0, l0, u0⟩ := h4 _ (List.mem_cons_self)
      have g0 : 1 * (σ.2.1 118 41).toInt + ((-1) * n0'.toInt + 0) = v0 := Option.some.inj e0
      obtain ⟨v1, e1, l1, u1⟩ := h4 _ (List.mem_cons_of_mem _ (List.mem_cons_self))
      have g1 : 1 * (σ.2.1 118 41).toInt + 0 = v1 := Option.some.inj e1
      obtain ⟨v2, e2, l2, u2⟩ := h4 _ (List.mem_cons_of_mem _ (List.mem_cons_of_mem _ (List.mem_cons_self)))
      have g2 : 1 * (σ.2.1 118 41).toInt + ((-1) * (σ'.2.1 118 41).toInt + 0) = v2 := Option.some.inj e2
      exact cuta _ _ _ hr9  ⟨by rw [g0]; exact l0, by rw [g0]; exact u0⟩ ⟨by rw [g1]; exact l1, by rw [g1]; exact u1⟩ ⟨by rw [g2]; exact l2, by rw [g2]; exact u2⟩ h5
theorem sg_n2_run (G : sx_G0 g L xs z9 hd_C ex_mt) (hct : ∀ (mi : Nat) (T2 : ex_T) (c' : sx_Ct), ex_mt mi = some T2 → c' ∈ k9 mi → c'.1 < 60 → sx_Holds g z9 hd_C T2 c') {σ : am_S} {lw : List (Nat × Value)} {post : Option (Option Value) → am_S → Prop} (hM : sx_M z9 hd_C σ 0 0 σ) (hl : (0, Value.ref 118) ∈ lw) (bp118_41 : 1 ≤ (σ.2.1 118 41).toInt ∧ (σ.2.1 118 41).toInt ≤ 40) {n0 : Int32} (bk0 : 20 ≤ n0.toInt ∧ n0.toInt ≤ 20) (cuta : ∀ (lw' : List (Nat × Value)) (n0' : Int32) (n1' : Int32) (n2' : Int32) (σ' : am_S), (0, Value.ref 118) ∈ lw' → (0 ≤ 1 * n0'.toInt + 0 ∧ 1 * n0'.toInt + 0 ≤ 0) → (0 ≤ 1 * n1'.toInt + 0 ∧ 1 * n1'.toInt + 0 ≤ 0) → (20 ≤ 1 * n2'.toInt + 0 ∧ 1 * n2'.toInt + 0 ≤ 20) → (1 ≤ 1 * (σ.2.1 118 41).toInt + ((-1) * (σ'.2.1 118 41).toInt + 0) ∧ 1 * (σ.2.1 118 41).toInt + ((-1) * (σ'.2.1 118 41).toInt + 0) ≤ 1) → sx_M z9 hd_C σ 7746749634260725768967757516009035622989117378487670538491978069621942866050523583888936059840413494307709515918242480128 0 σ' → am_K g 20 tX12_nots.1 0 0 48 lw' [.int n0', .int n1', .int n2', .ref 118] σ' post) : am_K g 20 tX12_nots.1 0 0 18 lw [.int n0] σ post := by
  refine sg_seg (sw := [.int n0]) (vs := [(σ.2.1 118 41).toInt]) (ws := [n0.toInt]) G (mi := 142) rfl hct sg_n2_ok ⟨rfl, trivial⟩ (hd_refs hl) ⟨⟨n0, rfl, rfl⟩, trivial⟩ (hd_p1 rfl bp118_41.1 bp118_41.2 (hd_p1 rfl bk0.1 bk0.2 hd_p0)) hM ?_ ?_
  · intro r σ' hq
    cases r with
    | none => exact hq.elim
    | some v =>
      obtain ⟨p, hp, hM2, ks, hk, hv⟩ := hq
      cases hp
  · intro u hu
    simp only [List.mem_cons, List.not_mem_nil, or_false] at hu
    rcases hu with rfl
    · intro lw' sw' vs' ws' σ' ⟨h1_0, h2, h3_0, h4, h5⟩
      obtain ⟨vs1, rfl, h1_1⟩ := hd_srcs h1_0
      obtain rfl := hd_src0 h1_1
      obtain ⟨n0', sw1, ws1, rfl, rfl, h3_1⟩ := hd_sti h3_0
      obtain ⟨n1', sw2, ws2, rfl, rfl, h3_2⟩ := hd_sti h3_1
      obtain ⟨n2', sw3, ws3, rfl, rfl, h3_3⟩ := hd_sti h3_2
      obtain ⟨sw4, rfl, h3_4⟩ := hd_str h3_3
      obtain ⟨rfl, rfl⟩ := hd_st0 h3_4
      have hr9 := hd_ref0 h2
      obtain ⟨v0, e0, l0, u0⟩ := h4 _ (List.mem_cons_self)
      have g0 : 1 * n0'.toInt + 0 = v0 := Option.some.inj e0
      obtain ⟨v1, e1, l1, u1⟩ := h4 _ (List.mem_cons_of_mem _ (List.mem_cons_self))
      have g1 : 1 * n1'.toInt + 0 = v1 := Option.some.inj e1
      obtain ⟨v2, e2, l2, u2⟩ := h4 _ (List.mem_cons_of_mem _ (List.mem_cons_of_mem _ (List.mem_cons_self)))
      have g2 : 1 * n2'.toInt + 0 = v2 := Option.some.inj e2
      obtain ⟨v3, e3, l3, u3⟩ := h4 _ (List.mem_cons_of_mem _ (List.mem_cons_of_mem _ (List.mem_cons_of_mem _ (List.mem_cons_self))))
      have g3 : 1 * (σ.2.1 118 41).toInt + ((-1) * (σ'.2.1 118 41).toInt + 0) = v3 := Option.some.inj e3
      exact cuta _ _ _ _ _ hr9  ⟨by rw [g0]; exact l0, by rw [g0]; exact u0⟩ ⟨by rw [g1]; exact l1, by rw [g1]; exact u1⟩ ⟨by rw [g2]; exact l2, by rw [g2]; exact u2⟩ ⟨by rw [g3]; exact l3, by rw [g3]; exact u3⟩ h5
theorem sg_n3_run (G : sx_G0 g L xs z9 hd_C ex_mt) (hct : ∀ (mi : Nat) (T2 : ex_T) (c' : sx_Ct), ex_mt mi = some T2 → c' ∈ k9 mi → c'.1 < 60 → sx_Holds g z9 hd_C T2 c') {σ : am_S} {lw : List (Nat × Value)} {post : Option (Option Value) → am_S → Prop} (hM : sx_M z9 hd_C σ 0 0 σ) (hl : (0, Value.ref 118) ∈ lw) {n0 : Int32} (bk0 : 21 ≤ n0.toInt ∧ n0.toInt ≤ 23) (ret0 : ∀ (σ' : am_S), sx_M z9 hd_C σ 0 0 σ' → post (some none) σ') : am_K g 20 tX12_nots.1 0 0 18 lw [.int n0] σ post := by
  refine sg_seg (sw := [.int n0]) (vs := []) (ws := [n0.toInt]) G (mi := 142) rfl hct sg_n3_ok trivial (hd_refs hl) ⟨⟨n0, rfl, rfl⟩, trivial⟩ (hd_p1 rfl bk0.1 bk0.2 hd_p0) hM ?_ ?_
  · intro r σ' hq
    cases r with
    | none => exact hq.elim
    | some v =>
      obtain ⟨p, hp, hM2, ks, hk, hv⟩ := hq
      simp only [List.mem_cons, List.not_mem_nil, or_false] at hp
      rcases hp with rfl
      · obtain rfl := hd_keys hk
        cases v with
        | some w9 => exact hv.elim
        | none =>
          have hP := hv
          exact ret0 _  hM2
  · intro u hu
    cases hu
theorem sg_j1_run (G : sx_G0 g L xs z9 hd_C ex_mt) (hct : ∀ (mi : Nat) (T2 : ex_T) (c' : sx_Ct), ex_mt mi = some T2 → c' ∈ k9 mi → c'.1 < 60 → sx_Holds g z9 hd_C T2 c') {σ : am_S} {lw : List (Nat × Value)} {post : Option (Option Value) → am_S → Prop} (hM : sx_M z9 hd_C σ 0 0 σ) (hl : (0, Value.ref 118) ∈ lw) {m1 : Int32} (hl1 : (1, Value.int m1) ∈ lw) (ret0 : ∀ (σ' : am_S), (0 ≤ 1 * (σ.2.1 118 41).toInt + 0 ∧ 1 * (σ.2.1 118 41).toInt + 0 ≤ 0) → sx_M z9 hd_C σ 0 0 σ' → post (some none) σ') (cuta : ∀ (lw' : List (Nat × Value)) (m1' : Int32) (n0' : Int32) (σ' : am_S), (0, Value.ref 118) ∈ lw' → (1, Value.int m1') ∈ lw' → (1 ≤ 1 * (σ.2.1 118 41).toInt + ((-1) * n0'.toInt + 0) ∧ 1 * (σ.2.1 118 41).toInt + ((-1) * n0'.toInt + 0) ≤ 1) → (1 ≤ 1 * (σ.2.1 118 41).toInt + 0 ∧ 1 * (σ.2.1 118 41).toInt + 0 ≤ 40) → (0 ≤ 1 * (σ.2.1 118 41).toInt + ((-1) * (σ'.2.1 118 41).toInt + 0) ∧ 1 * (σ.2.1 118 41).toInt + ((-1) * (σ'.2.1 118 41).toInt + 0) ≤ 0) → (0 ≤ 1 * m1.toInt + ((-1) * m1'.toInt + 0) ∧ 1 * m1.toInt + ((-1) * m1'.toInt + 0) ≤ 0) → sx_M z9 hd_C σ 0 0 σ' → am_K g 20 tX12_joins.1 0 0 17 lw' [.int n0', .ref 134] σ' post) : am_K g 20 tX12_joins.1 0 0 0 lw [] σ post := by
  refine sg_seg (sw := []) (vs := [m1.toInt, (σ.2.1 118 41).toInt]) (ws := []) G (mi := 127) rfl hct sg_j1_ok ⟨⟨m1, hl1, rfl⟩, ⟨rfl, trivial⟩⟩ (hd_refs hl) trivial (hd_p1 rfl (Int32.le_toInt _) (Int32.toInt_le _) (hd_p1 rfl (hd_kd_118_41 hM).1 (hd_kd_118_41 hM).2 hd_p0)) hM ?_ ?_
  · intro r σ' hq
    cases r with
    | none => exact hq.elim
    | some v =>
      obtain ⟨p, hp, hM2, ks, hk, hv⟩ := hq
      simp only [List.mem_cons, List.not_mem_nil, or_false] at hp
      rcases hp with rfl
      · obtain rfl := hd_keys hk
        cases v with
        | some w9 => exact hv.elim
        | none =>
          have hP := hv
          obtain ⟨v0, e0, l0, u0⟩ := hP _ (List.mem_cons_self)
          have g0 : 1 * (σ.2.1 118 41).toInt + 0 = v0 := Option.some.inj e0
          exact ret0 _ ⟨by rw [g0]; exact l0, by rw [g0]; exact u0⟩ hM2
  · intro u hu
    simp only [List.mem_cons, List.not_mem_nil, or_false] at hu
    rcases hu with rfl
    · intro lw' sw' vs' ws' σ' ⟨h1_0, h2, h3_0, h4, h5⟩
      obtain ⟨m1', vs1, rfl, hm1, h1_1⟩ := hd_srcl h1_0
      obtain ⟨vs2, rfl, h1_2⟩ := hd_srcs h1_1
      obtain rfl := hd_src0 h1_2
      obtain ⟨n0', sw1, ws1, rfl, rfl, h3_1⟩ := hd_sti h3_0
      obtain ⟨sw2, rfl, h3_2⟩ := hd_str h3_1
      obtain ⟨rfl, rfl⟩ := hd_st0 h3_2
      have hr9 := hd_ref0 h2
      obtain ⟨v0, e0, l0, u0⟩ := h4 _ (List.mem_cons_self)
      have g0 : 1 * (σ.2.1 118 41).toInt + ((-1) * n0'.toInt + 0) = v0 := Option.some.inj e0
      obtain ⟨v1, e1, l1, u1⟩ := h4 _ (List.mem_cons_of_mem _ (List.mem_cons_self))
      have g1 : 1 * (σ.2.1 118 41).toInt + 0 = v1 := Option.some.inj e1
      obtain ⟨v2, e2, l2, u2⟩ := h4 _ (List.mem_cons_of_mem _ (List.mem_cons_of_mem _ (List.mem_cons_self)))
      have g2 : 1 * (σ.2.1 118 41).toInt + ((-1) * (σ'.2.1 118 41).toInt + 0) = v2 := Option.some.inj e2
      obtain ⟨v3, e3, l3, u3⟩ := h4 _ (List.mem_cons_of_mem _ (List.mem_cons_of_mem _ (List.mem_cons_of_mem _ (List.mem_cons_self))))
      have g3 : 1 * m1.toInt + ((-1) * m1'.toInt + 0) = v3 := Option.some.inj e3
      exact cuta _ _ _ _ hr9 hm1 ⟨by rw [g0]; exact l0, by rw [g0]; exact u0⟩ ⟨by rw [g1]; exact l1, by rw [g1]; exact u1⟩ ⟨by rw [g2]; exact l2, by rw [g2]; exact u2⟩ ⟨by rw [g3]; exact l3, by rw [g3]; exact u3⟩ h5
theorem sg_j2_run (G : sx_G0 g L xs z9 hd_C ex_mt) (hct : ∀ (mi : Nat) (T2 : ex_T) (c' : sx_Ct), ex_mt mi = some T2 → c' ∈ k9 mi → c'.1 < 60 → sx_Holds g z9 hd_C T2 c') {σ : am_S} {lw : List (Nat × Value)} {post : Option (Option Value) → am_S → Prop} (hM : sx_M z9 hd_C σ 0 0 σ) (hl : (0, Value.ref 118) ∈ lw) {m1 : Int32} (hl1 : (1, Value.int m1) ∈ lw) (bp118_41 : 1 ≤ (σ.2.1 118 41).toInt ∧ (σ.2.1 118 41).toInt ≤ 40) {n0 : Int32} (bk0 : 21 ≤ n0.toInt ∧ n0.toInt ≤ 21) (cuta : ∀ (lw' : List (Nat × Value)) (m1' : Int32) (n0' : Int32) (σ' : am_S), (0, Value.ref 118) ∈ lw' → (1, Value.int m1') ∈ lw' → (1 ≤ 1 * (σ.2.1 118 41).toInt + ((-1) * (σ'.2.1 118 41).toInt + 0) ∧ 1 * (σ.2.1 118 41).toInt + ((-1) * (σ'.2.1 118 41).toInt + 0) ≤ 1) → (1 ≤ 1 * (σ.2.1 118 41).toInt + ((-1) * n0'.toInt + 0) ∧ 1 * (σ.2.1 118 41).toInt + ((-1) * n0'.toInt + 0) ≤ 1) → (0 ≤ 1 * m1.toInt + ((-1) * m1'.toInt + 0) ∧ 1 * m1.toInt + ((-1) * m1'.toInt + 0) ≤ 0) → sx_M z9 hd_C σ 2582249878086908589655919172003011874329705792829223512830659356540647622016841194629645353280137831435903171972747493376 0 σ' → am_K g 20 tX12_joins.1 0 0 64 lw' [.int n0', .ref 134, .ref 118] σ' post) : am_K g 20 tX12_joins.1 0 0 18 lw [.int n0] σ post := by
  refine sg_seg (sw := [.int n0]) (vs := [m1.toInt, (σ.2.1 118 41).toInt]) (ws := [n0.toInt]) G (mi := 127) rfl hct sg_j2_ok ⟨⟨m1, hl1, rfl⟩, ⟨rfl, trivial⟩⟩ (hd_refs hl) ⟨⟨n0, rfl, rfl⟩, trivial⟩ (hd_p1 rfl (Int32.le_toInt _) (Int32.toInt_le _) (hd_p1 rfl bp118_41.1 bp118_41.2 (hd_p1 rfl bk0.1 bk0.2 hd_p0))) hM ?_ ?_
  · intro r σ' hq
    cases r with
    | none => exact hq.elim
    | some v =>
      obtain ⟨p, hp, hM2, ks, hk, hv⟩ := hq
      cases hp
  · intro u hu
    simp only [List.mem_cons, List.not_mem_nil, or_false] at hu
    rcases hu with rfl
    · intro lw' sw' vs' ws' σ' ⟨h1_0, h2, h3_0, h4, h5⟩
      obtain ⟨m1', vs1, rfl, hm1, h1_1⟩ := hd_srcl h1_0
      obtain ⟨vs2, rfl, h1_2⟩ := hd_srcs h1_1
      obtain rfl := hd_src0 h1_2
      obtain ⟨n0', sw1, ws1, rfl, rfl, h3_1⟩ := hd_sti h3_0
      obtain ⟨sw2, rfl, h3_2⟩ := hd_str h3_1
      obtain ⟨sw3, rfl, h3_3⟩ := hd_str h3_2
      obtain ⟨rfl, rfl⟩ := hd_st0 h3_3
      have hr9 := hd_ref0 h2
      obtain ⟨v0, e0, l0, u0⟩ := h4 _ (List.mem_cons_self)
      have g0 : 1 * (σ.2.1 118 41).toInt + ((-1) * (σ'.2.1 118 41).toInt + 0) = v0 := Option.some.inj e0
      obtain ⟨v1, e1, l1, u1⟩ := h4 _ (List.mem_cons_of_mem _ (List.mem_cons_self))
      have g1 : 1 * (σ.2.1 118 41).toInt + ((-1) * n0'.toInt + 0) = v1 := Option.some.inj e1
      obtain ⟨v2, e2, l2, u2⟩ := h4 _ (List.mem_cons_of_mem _ (List.mem_cons_of_mem _ (List.mem_cons_self)))
      have g2 : 1 * m1.toInt + ((-1) * m1'.toInt + 0) = v2 := Option.some.inj e2
      exact cuta _ _ _ _ hr9 hm1 ⟨by rw [g0]; exact l0, by rw [g0]; exact u0⟩ ⟨by rw [g1]; exact l1, by rw [g1]; exact u1⟩ ⟨by rw [g2]; exact l2, by rw [g2]; exact u2⟩ h5
theorem sg_j3_run (G : sx_G0 g L xs z9 hd_C ex_mt) (hct : ∀ (mi : Nat) (T2 : ex_T) (c' : sx_Ct), ex_mt mi = some T2 → c' ∈ k9 mi → c'.1 < 60 → sx_Holds g z9 hd_C T2 c') {σ : am_S} {lw : List (Nat × Value)} {post : Option (Option Value) → am_S → Prop} (hM : sx_M z9 hd_C σ 0 0 σ) (hl : (0, Value.ref 118) ∈ lw) {m1 : Int32} (hl1 : (1, Value.int m1) ∈ lw) (bp118_41 : 1 ≤ (σ.2.1 118 41).toInt ∧ (σ.2.1 118 41).toInt ≤ 40) {n0 : Int32} (bk0 : 20 ≤ n0.toInt ∧ n0.toInt ≤ 20) (cuta : ∀ (lw' : List (Nat × Value)) (m1' : Int32) (n0' : Int32) (σ' : am_S), (0, Value.ref 118) ∈ lw' → (1, Value.int m1') ∈ lw' → (1 ≤ 1 * (σ.2.1 118 41).toInt + ((-1) * n0'.toInt + 0) ∧ 1 * (σ.2.1 118 41).toInt + ((-1) * n0'.toInt + 0) ≤ 1) → (0 ≤ 1 * (σ.2.1 118 41).toInt + ((-1) * (σ'.2.1 118 41).toInt + 0) ∧ 1 * (σ.2.1 118 41).toInt + ((-1) * (σ'.2.1 118 41).toInt + 0) ≤ 0) → (0 ≤ 1 * m1.toInt + ((-1) * m1'.toInt + 0) ∧ 1 * m1.toInt + ((-1) * m1'.toInt + 0) ≤ 0) → sx_M z9 hd_C σ 0 0 σ' → am_K g 20 tX12_joins.1 0 0 33 lw' [.int n0', .ref 134] σ' post) : am_K g 20 tX12_joins.1 0 0 18 lw [.int n0] σ post := by
  refine sg_seg (sw := [.int n0]) (vs := [m1.toInt, (σ.2.1 118 41).toInt]) (ws := [n0.toInt]) G (mi := 127) rfl hct sg_j3_ok ⟨⟨m1, hl1, rfl⟩, ⟨rfl, trivial⟩⟩ (hd_refs hl) ⟨⟨n0, rfl, rfl⟩, trivial⟩ (hd_p1 rfl (Int32.le_toInt _) (Int32.toInt_le _) (hd_p1 rfl bp118_41.1 bp118_41.2 (hd_p1 rfl bk0.1 bk0.2 hd_p0))) hM ?_ ?_
  · intro r σ' hq
    cases r with
    | none => exact hq.elim
    | some v =>
      obtain ⟨p, hp, hM2, ks, hk, hv⟩ := hq
      cases hp
  · intro u hu
    simp only [List.mem_cons, List.not_mem_nil, or_false] at hu
    rcases hu with rfl
    · intro lw' sw' vs' ws' σ' ⟨h1_0, h2, h3_0, h4, h5⟩
      obtain ⟨m1', vs1, rfl, hm1, h1_1⟩ := hd_srcl h1_0
      obtain ⟨vs2, rfl, h1_2⟩ := hd_srcs h1_1
      obtain rfl := hd_src0 h1_2
      obtain ⟨n0', sw1, ws1, rfl, rfl, h3_1⟩ := hd_sti h3_0
      obtain ⟨sw2, rfl, h3_2⟩ := hd_str h3_1
      obtain ⟨rfl, rfl⟩ := hd_st0 h3_2
      have hr9 := hd_ref0 h2
      obtain ⟨v0, e0, l0, u0⟩ := h4 _ (List.mem_cons_self)
      have g0 : 1 * (σ.2.1 118 41).toInt + ((-1) * n0'.toInt + 0) = v0 := Option.some.inj e0
      obtain ⟨v1, e1, l1, u1⟩ := h4 _ (List.mem_cons_of_mem _ (List.mem_cons_self))
      have g1 : 1 * (σ.2.1 118 41).toInt + ((-1) * (σ'.2.1 118 41).toInt + 0) = v1 := Option.some.inj e1
      obtain ⟨v2, e2, l2, u2⟩ := h4 _ (List.mem_cons_of_mem _ (List.mem_cons_of_mem _ (List.mem_cons_self)))
      have g2 : 1 * m1.toInt + ((-1) * m1'.toInt + 0) = v2 := Option.some.inj e2
      exact cuta _ _ _ _ hr9 hm1 ⟨by rw [g0]; exact l0, by rw [g0]; exact u0⟩ ⟨by rw [g1]; exact l1, by rw [g1]; exact u1⟩ ⟨by rw [g2]; exact l2, by rw [g2]; exact u2⟩ h5
theorem sg_j4_run (G : sx_G0 g L xs z9 hd_C ex_mt) (hct : ∀ (mi : Nat) (T2 : ex_T) (c' : sx_Ct), ex_mt mi = some T2 → c' ∈ k9 mi → c'.1 < 60 → sx_Holds g z9 hd_C T2 c') {σ : am_S} {lw : List (Nat × Value)} {post : Option (Option Value) → am_S → Prop} (hM : sx_M z9 hd_C σ 0 0 σ) (hl : (0, Value.ref 118) ∈ lw) {m1 : Int32} (hl1 : (1, Value.int m1) ∈ lw) (bp118_41 : 1 ≤ (σ.2.1 118 41).toInt ∧ (σ.2.1 118 41).toInt ≤ 40) {n0 : Int32} (bk0 : 22 ≤ n0.toInt ∧ n0.toInt ≤ 23) (cuta : ∀ (lw' : List (Nat × Value)) (m1' : Int32) (n0' : Int32) (σ' : am_S), (0, Value.ref 118) ∈ lw' → (1, Value.int m1') ∈ lw' → (1 ≤ 1 * (σ.2.1 118 41).toInt + ((-1) * n0'.toInt + 0) ∧ 1 * (σ.2.1 118 41).toInt + ((-1) * n0'.toInt + 0) ≤ 1) → (0 ≤ 1 * (σ.2.1 118 41).toInt + ((-1) * (σ'.2.1 118 41).toInt + 0) ∧ 1 * (σ.2.1 118 41).toInt + ((-1) * (σ'.2.1 118 41).toInt + 0) ≤ 0) → (0 ≤ 1 * m1.toInt + ((-1) * m1'.toInt + 0) ∧ 1 * m1.toInt + ((-1) * m1'.toInt + 0) ≤ 0) → sx_M z9 hd_C σ 0 0 σ' → am_K g 20 tX12_joins.1 0 0 33 lw' [.int n0', .ref 134] σ' post) : am_K g 20 tX12_joins.1 0 0 18 lw [.int n0] σ post := by
  refine sg_seg (sw := [.int n0]) (vs := [m1.toInt, (σ.2.1 118 41).toInt]) (ws := [n0.toInt]) G (mi := 127) rfl hct sg_j4_ok ⟨⟨m1, hl1, rfl⟩, ⟨rfl, trivial⟩⟩ (hd_refs hl) ⟨⟨n0, rfl, rfl⟩, trivial⟩ (hd_p1 rfl (Int32.le_toInt _) (Int32.toInt_le _) (hd_p1 rfl bp118_41.1 bp118_41.2 (hd_p1 rfl bk0.1 bk0.2 hd_p0))) hM ?_ ?_
  · intro r σ' hq
    cases r with
    | none => exact hq.elim
    | some v =>
      obtain ⟨p, hp, hM2, ks, hk, hv⟩ := hq
      cases hp
  · intro u hu
    simp only [List.mem_cons, List.not_mem_nil, or_false] at hu
    rcases hu with rfl
    · intro lw' sw' vs' ws' σ' ⟨h1_0, h2, h3_0, h4, h5⟩
      obtain ⟨m1', vs1, rfl, hm1, h1_1⟩ := hd_srcl h1_0
      obtain ⟨vs2, rfl, h1_2⟩ := hd_srcs h1_1
      obtain rfl := hd_src0 h1_2
      obtain ⟨n0', sw1, ws1, rfl, rfl, h3_1⟩ := hd_sti h3_0
      obtain ⟨sw2, rfl, h3_2⟩ := hd_str h3_1
      obtain ⟨rfl, rfl⟩ := hd_st0 h3_2
      have hr9 := hd_ref0 h2
      obtain ⟨v0, e0, l0, u0⟩ := h4 _ (List.mem_cons_self)
      have g0 : 1 * (σ.2.1 118 41).toInt + ((-1) * n0'.toInt + 0) = v0 := Option.some.inj e0
      obtain ⟨v1, e1, l1, u1⟩ := h4 _ (List.mem_cons_of_mem _ (List.mem_cons_self))
      have g1 : 1 * (σ.2.1 118 41).toInt + ((-1) * (σ'.2.1 118 41).toInt + 0) = v1 := Option.some.inj e1
      obtain ⟨v2, e2, l2, u2⟩ := h4 _ (List.mem_cons_of_mem _ (List.mem_cons_of_mem _ (List.mem_cons_self)))
      have g2 : 1 * m1.toInt + ((-1) * m1'.toInt + 0) = v2 := Option.some.inj e2
      exact cuta _ _ _ _ hr9 hm1 ⟨by rw [g0]; exact l0, by rw [g0]; exact u0⟩ ⟨by rw [g1]; exact l1, by rw [g1]; exact u1⟩ ⟨by rw [g2]; exact l2, by rw [g2]; exact u2⟩ h5
theorem sg_j5_run (G : sx_G0 g L xs z9 hd_C ex_mt) (hct : ∀ (mi : Nat) (T2 : ex_T) (c' : sx_Ct), ex_mt mi = some T2 → c' ∈ k9 mi → c'.1 < 60 → sx_Holds g z9 hd_C T2 c') {σ : am_S} {lw : List (Nat × Value)} {post : Option (Option Value) → am_S → Prop} (hM : sx_M z9 hd_C σ 0 0 σ) (hl : (0, Value.ref 118) ∈ lw) {m1 : Int32} (hl1 : (1, Value.int m1) ∈ lw) (bl1 : 22 ≤ m1.toInt ∧ m1.toInt ≤ 22) (bp118_41 : 1 ≤ (σ.2.1 118 41).toInt ∧ (σ.2.1 118 41).toInt ≤ 40) {n0 : Int32} (bk0 : 22 ≤ n0.toInt ∧ n0.toInt ≤ 22) (cuta : ∀ (lw' : List (Nat × Value)) (m1' : Int32) (n0' : Int32) (σ' : am_S), (0, Value.ref 118) ∈ lw' → (1, Value.int m1') ∈ lw' → (1 ≤ 1 * (σ.2.1 118 41).toInt + ((-1) * (σ'.2.1 118 41).toInt + 0) ∧ 1 * (σ.2.1 118 41).toInt + ((-1) * (σ'.2.1 118 41).toInt + 0) ≤ 1) → (1 ≤ 1 * (σ.2.1 118 41).toInt + ((-1) * n0'.toInt + 0) ∧ 1 * (σ.2.1 118 41).toInt + ((-1) * n0'.toInt + 0) ≤ 1) → (0 ≤ 1 * m1.toInt + ((-1) * m1'.toInt + 0) ∧ 1 * m1.toInt + ((-1) * m1'.toInt + 0) ≤ 0) → sx_M z9 hd_C σ 2582249878086908589655919172003011874329705792829223512830659356540647622016841194629645353280137831435903171972747493376 0 σ' → am_K g 20 tX12_joins.1 0 0 64 lw' [.int n0', .ref 134, .ref 118] σ' post) : am_K g 20 tX12_joins.1 0 0 34 lw [.int n0] σ post := by
  refine sg_seg (sw := [.int n0]) (vs := [m1.toInt, (σ.2.1 118 41).toInt]) (ws := [n0.toInt]) G (mi := 127) rfl hct sg_j5_ok ⟨⟨m1, hl1, rfl⟩, ⟨rfl, trivial⟩⟩ (hd_refs hl) ⟨⟨n0, rfl, rfl⟩, trivial⟩ (hd_p1 rfl bl1.1 bl1.2 (hd_p1 rfl bp118_41.1 bp118_41.2 (hd_p1 rfl bk0.1 bk0.2 hd_p0))) hM ?_ ?_
  · intro r σ' hq
    cases r with
    | none => exact hq.elim
    | some v =>
      obtain ⟨p, hp, hM2, ks, hk, hv⟩ := hq
      cases hp
  · intro u hu
    simp only [List.mem_cons, List.not_mem_nil, or_false] at hu
    rcases hu with rfl
    · intro lw' sw' vs' ws' σ' ⟨h1_0, h2, h3_0, h4, h5⟩
      obtain ⟨m1', vs1, rfl, hm1, h1_1⟩ := hd_srcl h1_0
      obtain ⟨vs2, rfl, h1_2⟩ := hd_srcs h1_1
      obtain rfl := hd_src0 h1_2
      obtain ⟨n0', sw1, ws1, rfl, rfl, h3_1⟩ := hd_sti h3_0
      obtain ⟨sw2, rfl, h3_2⟩ := hd_str h3_1
      obtain ⟨sw3, rfl, h3_3⟩ := hd_str h3_2
      obtain ⟨rfl, rfl⟩ := hd_st0 h3_3
      have hr9 := hd_ref0 h2
      obtain ⟨v0, e0, l0, u0⟩ := h4 _ (List.mem_cons_self)
      have g0 : 1 * (σ.2.1 118 41).toInt + ((-1) * (σ'.2.1 118 41).toInt + 0) = v0 := Option.some.inj e0
      obtain ⟨v1, e1, l1, u1⟩ := h4 _ (List.mem_cons_of_mem _ (List.mem_cons_self))
      have g1 : 1 * (σ.2.1 118 41).toInt + ((-1) * n0'.toInt + 0) = v1 := Option.some.inj e1
      obtain ⟨v2, e2, l2, u2⟩ := h4 _ (List.mem_cons_of_mem _ (List.mem_cons_of_mem _ (List.mem_cons_self)))
      have g2 : 1 * m1.toInt + ((-1) * m1'.toInt + 0) = v2 := Option.some.inj e2
      exact cuta _ _ _ _ hr9 hm1 ⟨by rw [g0]; exact l0, by rw [g0]; exact u0⟩ ⟨by rw [g1]; exact l1, by rw [g1]; exact u1⟩ ⟨by rw [g2]; exact l2, by rw [g2]; exact u2⟩ h5
theorem sg_j6_run (G : sx_G0 g L xs z9 hd_C ex_mt) (hct : ∀ (mi : Nat) (T2 : ex_T) (c' : sx_Ct), ex_mt mi = some T2 → c' ∈ k9 mi → c'.1 < 60 → sx_Holds g z9 hd_C T2 c') {σ : am_S} {lw : List (Nat × Value)} {post : Option (Option Value) → am_S → Prop} (hM : sx_M z9 hd_C σ 0 0 σ) (hl : (0, Value.ref 118) ∈ lw) {m1 : Int32} (hl1 : (1, Value.int m1) ∈ lw) (bl1 : 21 ≤ m1.toInt ∧ m1.toInt ≤ 21) (bp118_41 : 1 ≤ (σ.2.1 118 41).toInt ∧ (σ.2.1 118 41).toInt ≤ 40) {n0 : Int32} (bk0 : 22 ≤ n0.toInt ∧ n0.toInt ≤ 22) (ret0 : ∀ (σ' : am_S), sx_M z9 hd_C σ 0 0 σ' → post (some none) σ') : am_K g 20 tX12_joins.1 0 0 34 lw [.int n0] σ post := by
  refine sg_seg (sw := [.int n0]) (vs := [m1.toInt, (σ.2.1 118 41).toInt]) (ws := [n0.toInt]) G (mi := 127) rfl hct sg_j6_ok ⟨⟨m1, hl1, rfl⟩, ⟨rfl, trivial⟩⟩ (hd_refs hl) ⟨⟨n0, rfl, rfl⟩, trivial⟩ (hd_p1 rfl bl1.1 bl1.2 (hd_p1 rfl bp118_41.1 bp118_41.2 (hd_p1 rfl bk0.1 bk0.2 hd_p0))) hM ?_ ?_
  · intro r σ' hq
    cases r with
    | none => exact hq.elim
    | some v =>
      obtain ⟨p, hp, hM2, ks, hk, hv⟩ := hq
      simp only [List.mem_cons, List.not_mem_nil, or_false] at hp
      rcases hp with rfl
      · obtain rfl := hd_keys hk
        cases v with
        | some w9 => exact hv.elim
        | none =>
          have hP := hv
          exact ret0 _  hM2
  · intro u hu
    cases hu
theorem sg_j7_run (G : sx_G0 g L xs z9 hd_C ex_mt) (hct : ∀ (mi : Nat) (T2 : ex_T) (c' : sx_Ct), ex_mt mi = some T2 → c' ∈ k9 mi → c'.1 < 60 → sx_Holds g z9 hd_C T2 c') {σ : am_S} {lw : List (Nat × Value)} {post : Option (Option Value) → am_S → Prop} (hM : sx_M z9 hd_C σ 0 0 σ) (hl : (0, Value.ref 118) ∈ lw) {m1 : Int32} (hl1 : (1, Value.int m1) ∈ lw) {n0 : Int32} (bk0 : 20 ≤ n0.toInt ∧ n0.toInt ≤ 20) (ret0 : ∀ (σ' : am_S), sx_M z9 hd_C σ 0 0 σ' → post (some none) σ') : am_K g 20 tX12_joins.1 0 0 34 lw [.int n0] σ post := by
  refine sg_seg (sw := [.int n0]) (vs := [m1.toInt]) (ws := [n0.toInt]) G (mi := 127) rfl hct sg_j7_ok ⟨⟨m1, hl1, rfl⟩, trivial⟩ (hd_refs hl) ⟨⟨n0, rfl, rfl⟩, trivial⟩ (hd_p1 rfl (Int32.le_toInt _) (Int32.toInt_le _) (hd_p1 rfl bk0.1 bk0.2 hd_p0)) hM ?_ ?_
  · intro r σ' hq
    cases r with
    | none => exact hq.elim
    | some v =>
      obtain ⟨p, hp, hM2, ks, hk, hv⟩ := hq
      simp only [List.mem_cons, List.not_mem_nil, or_false] at hp
      rcases hp with rfl
      · obtain rfl := hd_keys hk
        cases v with
        | some w9 => exact hv.elim
        | none =>
          have hP := hv
          exact ret0 _  hM2
  · intro u hu
    cases hu
theorem sg_j8_run (G : sx_G0 g L xs z9 hd_C ex_mt) (hct : ∀ (mi : Nat) (T2 : ex_T) (c' : sx_Ct), ex_mt mi = some T2 → c' ∈ k9 mi → c'.1 < 60 → sx_Holds g z9 hd_C T2 c') {σ : am_S} {lw : List (Nat × Value)} {post : Option (Option Value) → am_S → Prop} (hM : sx_M z9 hd_C σ 0 0 σ) (hl : (0, Value.ref 118) ∈ lw) {m1 : Int32} (hl1 : (1, Value.int m1) ∈ lw) {n0 : Int32} (bk0 : 23 ≤ n0.toInt ∧ n0.toInt ≤ 23) (ret0 : ∀ (σ' : am_S), sx_M z9 hd_C σ 0 0 σ' → post (some none) σ') : am_K g 20 tX12_joins.1 0 0 34 lw [.int n0] σ post := by
  refine sg_seg (sw := [.int n0]) (vs := [m1.toInt]) (ws := [n0.toInt]) G (mi := 127) rfl hct sg_j8_ok ⟨⟨m1, hl1, rfl⟩, trivial⟩ (hd_refs hl) ⟨⟨n0, rfl, rfl⟩, trivial⟩ (hd_p1 rfl (Int32.le_toInt _) (Int32.toInt_le _) (hd_p1 rfl bk0.1 bk0.2 hd_p0)) hM ?_ ?_
  · intro r σ' hq
    cases r with
    | none => exact hq.elim
    | some v =>
      obtain ⟨p, hp, hM2, ks, hk, hv⟩ := hq
      simp only [List.mem_cons, List.not_mem_nil, or_false] at hp
      rcases hp with rfl
      · obtain rfl := hd_keys hk
        cases v with
        | some w9 => exact hv.elim
        | none =>
          have hP := hv
          exact ret0 _  hM2
  · intro u hu
    cases hu
theorem sg_j9_run (G : sx_G0 g L xs z9 hd_C ex_mt) (hct : ∀ (mi : Nat) (T2 : ex_T) (c' : sx_Ct), ex_mt mi = some T2 → c' ∈ k9 mi → c'.1 < 60 → sx_Holds g z9 hd_C T2 c') {σ : am_S} {lw : List (Nat × Value)} {post : Option (Option Value) → am_S → Prop} (hM : sx_M z9 hd_C σ 0 0 σ) (hl : (0, Value.ref 118) ∈ lw) {m1 : Int32} (hl1 : (1, Value.int m1) ∈ lw) {n0 : Int32} (cuta : ∀ (lw' : List (Nat × Value)) (m1' : Int32) (n0' : Int32) (n1' : Int32) (n2' : Int32) (σ' : am_S), (0, Value.ref 118) ∈ lw' → (1, Value.int m1') ∈ lw' → (0 ≤ 1 * n0'.toInt + 0 ∧ 1 * n0'.toInt + 0 ≤ 0) → (0 ≤ 1 * n1'.toInt + 0 ∧ 1 * n1'.toInt + 0 ≤ 0) → (0 ≤ 1 * n0.toInt + ((-1) * n2'.toInt + 0) ∧ 1 * n0.toInt + ((-1) * n2'.toInt + 0) ≤ 0) → (0 ≤ 1 * m1.toInt + ((-1) * m1'.toInt + 0) ∧ 1 * m1.toInt + ((-1) * m1'.toInt + 0) ≤ 0) → sx_M z9 hd_C σ 0 0 σ' → am_K g 20 tX12_joins.1 0 0 67 lw' [.int n0', .int n1', .int n2', .ref 118] σ' post) : am_K g 20 tX12_joins.1 0 0 65 lw [.int n0, .ref 118] σ post := by
  refine sg_seg (sw := [.int n0, .ref 118]) (vs := [m1.toInt]) (ws := [n0.toInt]) G (mi := 127) rfl hct sg_j9_ok ⟨⟨m1, hl1, rfl⟩, trivial⟩ (hd_refs hl) ⟨⟨n0, rfl, rfl⟩, ⟨rfl, trivial⟩⟩ (hd_p1 rfl (Int32.le_toInt _) (Int32.toInt_le _) (hd_p1 rfl (Int32.le_toInt _) (Int32.toInt_le _) hd_p0)) hM ?_ ?_
  · intro r σ' hq
    cases r with
    | none => exact hq.elim
    | some v =>
      obtain ⟨p, hp, hM2, ks, hk, hv⟩ := hq
      cases hp
  · intro u hu
    simp only [List.mem_cons, List.not_mem_nil, or_false] at hu
    rcases hu with rfl
    · intro lw' sw' vs' ws' σ' ⟨h1_0, h2, h3_0, h4, h5⟩
      obtain ⟨m1', vs1, rfl, hm1, h1_1⟩ := hd_srcl h1_0
      obtain rfl := hd_src0 h1_1
      obtain ⟨n0', sw1, ws1, rfl, rfl, h3_1⟩ := hd_sti h3_0
      obtain ⟨n1', sw2, ws2, rfl, rfl, h3_2⟩ := hd_sti h3_1
      obtain ⟨n2', sw3, ws3, rfl, rfl, h3_3⟩ := hd_sti h3_2
      obtain ⟨sw4, rfl, h3_4⟩ := hd_str h3_3
      obtain ⟨rfl, rfl⟩ := hd_st0 h3_4
      have hr9 := hd_ref0 h2
      obtain ⟨v0, e0, l0, u0⟩ := h4 _ (List.mem_cons_self)
      have g0 : 1 * n0'.toInt + 0 = v0 := Option.some.inj e0
      obtain ⟨v1, e1, l1, u1⟩ := h4 _ (List.mem_cons_of_mem _ (List.mem_cons_self))
      have g1 : 1 * n1'.toInt + 0 = v1 := Option.some.inj e1
      obtain ⟨v2, e2, l2, u2⟩ := h4 _ (List.mem_cons_of_mem _ (List.mem_cons_of_mem _ (List.mem_cons_self)))
      have g2 : 1 * n0.toInt + ((-1) * n2'.toInt + 0) = v2 := Option.some.inj e2
      obtain ⟨v3, e3, l3, u3⟩ := h4 _ (List.mem_cons_of_mem _ (List.mem_cons_of_mem _ (List.mem_cons_of_mem _ (List.mem_cons_self))))
      have g3 : 1 * m1.toInt + ((-1) * m1'.toInt + 0) = v3 := Option.some.inj e3
      exact cuta _ _ _ _ _ _ hr9 hm1 ⟨by rw [g0]; exact l0, by rw [g0]; exact u0⟩ ⟨by rw [g1]; exact l1, by rw [g1]; exact u1⟩ ⟨by rw [g2]; exact l2, by rw [g2]; exact u2⟩ ⟨by rw [g3]; exact l3, by rw [g3]; exact u3⟩ h5
theorem sg_c1_run (G : sx_G0 g L xs z9 hd_C ex_mt) (hct : ∀ (mi : Nat) (T2 : ex_T) (c' : sx_Ct), ex_mt mi = some T2 → c' ∈ k9 mi → c'.1 < 60 → sx_Holds g z9 hd_C T2 c') {σ : am_S} {lw : List (Nat × Value)} {post : Option (Option Value) → am_S → Prop} (hM : sx_M z9 hd_C σ 0 0 σ) (hl : (0, Value.ref 118) ∈ lw) {m1 : Int32} (hl1 : (1, Value.int m1) ∈ lw) {m2 : Int32} (hl2 : (2, Value.int m2) ∈ lw) {m3 : Int32} (hl3 : (3, Value.int m3) ∈ lw) (cuta : ∀ (lw' : List (Nat × Value)) (m1' : Int32) (m2' : Int32) (m3' : Int32) (n0' : Int32) (n1' : Int32) (σ' : am_S), (0, Value.ref 118) ∈ lw' → (1, Value.int m1') ∈ lw' → (2, Value.int m2') ∈ lw' → (3, Value.int m3') ∈ lw' → (0 ≤ 1 * m1.toInt + ((-1) * n0'.toInt + 0) ∧ 1 * m1.toInt + ((-1) * n0'.toInt + 0) ≤ 0) → (0 ≤ 3 * (σ.2.1 118 39).toInt + ((-1) * n1'.toInt + 0) ∧ 3 * (σ.2.1 118 39).toInt + ((-1) * n1'.toInt + 0) ≤ 0) → (0 ≤ 1 * m1.toInt + ((-1) * m1'.toInt + 0) ∧ 1 * m1.toInt + ((-1) * m1'.toInt + 0) ≤ 0) → (0 ≤ 1 * m2.toInt + ((-1) * m2'.toInt + 0) ∧ 1 * m2.toInt + ((-1) * m2'.toInt + 0) ≤ 0) → (0 ≤ 1 * m3.toInt + ((-1) * m3'.toInt + 0) ∧ 1 * m3.toInt + ((-1) * m3'.toInt + 0) ≤ 0) → sx_M z9 hd_C σ 0 0 σ' → am_K g 5 tX12_code.1 0 0 11 lw' [.int n0', .int n1', .ref 122] σ' post) : am_K g 5 tX12_code.1 0 0 0 lw [] σ post := by
  refine sg_seg (sw := []) (vs := [m1.toInt, m2.toInt, m3.toInt, (σ.2.1 118 39).toInt]) (ws := []) G (mi := 91) rfl hct sg_c1_ok ⟨⟨m1, hl1, rfl⟩, ⟨⟨m2, hl2, rfl⟩, ⟨⟨m3, hl3, rfl⟩, ⟨rfl, trivial⟩⟩⟩⟩ (hd_refs hl) trivial (hd_p1 rfl (Int32.le_toInt _) (Int32.toInt_le _) (hd_p1 rfl (Int32.le_toInt _) (Int32.toInt_le _) (hd_p1 rfl (Int32.le_toInt _) (Int32.toInt_le _) (hd_p1 rfl (hd_kd_118_39 hM).1 (hd_kd_118_39 hM).2 hd_p0)))) hM ?_ ?_
  · intro r σ' hq
    cases r with
    | none => exact hq.elim
    | some v =>
      obtain ⟨p, hp, hM2, ks, hk, hv⟩ := hq
      cases hp
  · intro u hu
    simp only [List.mem_cons, List.not_mem_nil, or_false] at hu
    rcases hu with rfl
    · intro lw' sw' vs' ws' σ' ⟨h1_0, h2, h3_0, h4, h5⟩
      obtain ⟨m1', vs1, rfl, hm1, h1_1⟩ := hd_srcl h1_0
      obtain ⟨m2', vs2, rfl, hm2, h1_2⟩ := hd_srcl h1_1
      obtain ⟨m3', vs3, rfl, hm3, h1_3⟩ := hd_srcl h1_2
      obtain ⟨vs4, rfl, h1_4⟩ := hd_srcs h1_3
      obtain rfl := hd_src0 h1_4
      obtain ⟨n0', sw1, ws1, rfl, rfl, h3_1⟩ := hd_sti h3_0
      obtain ⟨n1', sw2, ws2, rfl, rfl, h3_2⟩ := hd_sti h3_1
      obtain ⟨sw3, rfl, h3_3⟩ := hd_str h3_2
      obtain ⟨rfl, rfl⟩ := hd_st0 h3_3
      have hr9 := hd_ref0 h2
      obtain ⟨v0, e0, l0, u0⟩ := h4 _ (List.mem_cons_self)
      have g0 : 1 * m1.toInt + ((-1) * n0'.toInt + 0) = v0 := Option.some.inj e0
      obtain ⟨v1, e1, l1, u1⟩ := h4 _ (List.mem_cons_of_mem _ (List.mem_cons_self))
      have g1 : 3 * (σ.2.1 118 39).toInt + ((-1) * n1'.toInt + 0) = v1 := Option.some.inj e1
      obtain ⟨v2, e2, l2, u2⟩ := h4 _ (List.mem_cons_of_mem _ (List.mem_cons_of_mem _ (List.mem_cons_self)))
      have g2 : 1 * m1.toInt + ((-1) * m1'.toInt + 0) = v2 := Option.some.inj e2
      obtain ⟨v3, e3, l3, u3⟩ := h4 _ (List.mem_cons_of_mem _ (List.mem_cons_of_mem _ (List.mem_cons_of_mem _ (List.mem_cons_self))))
      have g3 : 1 * m2.toInt + ((-1) * m2'.toInt + 0) = v3 := Option.some.inj e3
      obtain ⟨v4, e4, l4, u4⟩ := h4 _ (List.mem_cons_of_mem _ (List.mem_cons_of_mem _ (List.mem_cons_of_mem _ (List.mem_cons_of_mem _ (List.mem_cons_self)))))
      have g4 : 1 * m3.toInt + ((-1) * m3'.toInt + 0) = v4 := Option.some.inj e4
      exact cuta _ _ _ _ _ _ _ hr9 hm1 hm2 hm3 ⟨by rw [g0]; exact l0, by rw [g0]; exact u0⟩ ⟨by rw [g1]; exact l1, by rw [g1]; exact u1⟩ ⟨by rw [g2]; exact l2, by rw [g2]; exact u2⟩ ⟨by rw [g3]; exact l3, by rw [g3]; exact u3⟩ ⟨by rw [g4]; exact l4, by rw [g4]; exact u4⟩ h5
theorem sg_c2_run (G : sx_G0 g L xs z9 hd_C ex_mt) (hct : ∀ (mi : Nat) (T2 : ex_T) (c' : sx_Ct), ex_mt mi = some T2 → c' ∈ k9 mi → c'.1 < 60 → sx_Holds g z9 hd_C T2 c') {σ : am_S} {lw : List (Nat × Value)} {post : Option (Option Value) → am_S → Prop} (hM : sx_M z9 hd_C σ 0 0 σ) (hl : (0, Value.ref 118) ∈ lw) {m1 : Int32} (hl1 : (1, Value.int m1) ∈ lw) {m2 : Int32} (hl2 : (2, Value.int m2) ∈ lw) {m3 : Int32} (hl3 : (3, Value.int m3) ∈ lw) (cuta : ∀ (lw' : List (Nat × Value)) (m1' : Int32) (m2' : Int32) (m3' : Int32) (n0' : Int32) (n1' : Int32) (σ' : am_S), (0, Value.ref 118) ∈ lw' → (1, Value.int m1') ∈ lw' → (2, Value.int m2') ∈ lw' → (3, Value.int m3') ∈ lw' → (0 ≤ 1 * m2.toInt + ((-1) * n0'.toInt + 0) ∧ 1 * m2.toInt + ((-1) * n0'.toInt + 0) ≤ 0) → ((-1) ≤ 3 * (σ.2.1 118 39).toInt + ((-1) * n1'.toInt + 0) ∧ 3 * (σ.2.1 118 39).toInt + ((-1) * n1'.toInt + 0) ≤ (-1)) → (0 ≤ 1 * m1.toInt + ((-1) * m1'.toInt + 0) ∧ 1 * m1.toInt + ((-1) * m1'.toInt + 0) ≤ 0) → (0 ≤ 1 * m2.toInt + ((-1) * m2'.toInt + 0) ∧ 1 * m2.toInt + ((-1) * m2'.toInt + 0) ≤ 0) → (0 ≤ 1 * m3.toInt + ((-1) * m3'.toInt + 0) ∧ 1 * m3.toInt + ((-1) * m3'.toInt + 0) ≤ 0) → sx_M z9 hd_C σ 0 0 σ' → am_K g 5 tX12_code.1 0 0 25 lw' [.int n0', .int n1', .ref 122] σ' post) : am_K g 5 tX12_code.1 0 0 12 lw [] σ post := by
  refine sg_seg (sw := []) (vs := [m1.toInt, m2.toInt, m3.toInt, (σ.2.1 118 39).toInt]) (ws := []) G (mi := 91) rfl hct sg_c2_ok ⟨⟨m1, hl1, rfl⟩, ⟨⟨m2, hl2, rfl⟩, ⟨⟨m3, hl3, rfl⟩, ⟨rfl, trivial⟩⟩⟩⟩ (hd_refs hl) trivial (hd_p1 rfl (Int32.le_toInt _) (Int32.toInt_le _) (hd_p1 rfl (Int32.le_toInt _) (Int32.toInt_le _) (hd_p1 rfl (Int32.le_toInt _) (Int32.toInt_le _) (hd_p1 rfl (hd_kd_118_39 hM).1 (hd_kd_118_39 hM).2 hd_p0)))) hM ?_ ?_
  · intro r σ' hq
    cases r with
    | none => exact hq.elim
    | some v =>
      obtain ⟨p, hp, hM2, ks, hk, hv⟩ := hq
      cases hp
  · intro u hu
    simp only [List.mem_cons, List.not_mem_nil, or_false] at hu
    rcases hu with rfl
    · intro lw' sw' vs' ws' σ' ⟨h1_0, h2, h3_0, h4, h5⟩
      obtain ⟨m1', vs1, rfl, hm1, h1_1⟩ := hd_srcl h1_0
      obtain ⟨m2', vs2, rfl, hm2, h1_2⟩ := hd_srcl h1_1
      obtain ⟨m3', vs3, rfl, hm3, h1_3⟩ := hd_srcl h1_2
      obtain ⟨vs4, rfl, h1_4⟩ := hd_srcs h1_3
      obtain rfl := hd_src0 h1_4
      obtain ⟨n0', sw1, ws1, rfl, rfl, h3_1⟩ := hd_sti h3_0
      obtain ⟨n1', sw2, ws2, rfl, rfl, h3_2⟩ := hd_sti h3_1
      obtain ⟨sw3, rfl, h3_3⟩ := hd_str h3_2
      obtain ⟨rfl, rfl⟩ := hd_st0 h3_3
      have hr9 := hd_ref0 h2
      obtain ⟨v0, e0, l0, u0⟩ := h4 _ (List.mem_cons_self)
      have g0 : 1 * m2.toInt + ((-1) * n0'.toInt + 0) = v0 := Option.some.inj e0
      obtain ⟨v1, e1, l1, u1⟩ := h4 _ (List.mem_cons_of_mem _ (List.mem_cons_self))
      have g1 : 3 * (σ.2.1 118 39).toInt + ((-1) * n1'.toInt + 0) = v1 := Option.some.inj e1
      obtain ⟨v2, e2, l2, u2⟩ := h4 _ (List.mem_cons_of_mem _ (List.mem_cons_of_mem _ (List.mem_cons_self)))
      have g2 : 1 * m1.toInt + ((-1) * m1'.toInt + 0) = v2 := Option.some.inj e2
      obtain ⟨v3, e3, l3, u3⟩ := h4 _ (List.mem_cons_of_mem _ (List.mem_cons_of_mem _ (List.mem_cons_of_mem _ (List.mem_cons_self))))
      have g3 : 1 * m2.toInt + ((-1) * m2'.toInt + 0) = v3 := Option.some.inj e3
      obtain ⟨v4, e4, l4, u4⟩ := h4 _ (List.mem_cons_of_mem _ (List.mem_cons_of_mem _ (List.mem_cons_of_mem _ (List.mem_cons_of_mem _ (List.mem_cons_self)))))
      have g4 : 1 * m3.toInt + ((-1) * m3'.toInt + 0) = v4 := Option.some.inj e4
      exact cuta _ _ _ _ _ _ _ hr9 hm1 hm2 hm3 ⟨by rw [g0]; exact l0, by rw [g0]; exact u0⟩ ⟨by rw [g1]; exact l1, by rw [g1]; exact u1⟩ ⟨by rw [g2]; exact l2, by rw [g2]; exact u2⟩ ⟨by rw [g3]; exact l3, by rw [g3]; exact u3⟩ ⟨by rw [g4]; exact l4, by rw [g4]; exact u4⟩ h5
theorem sg_c3_run (G : sx_G0 g L xs z9 hd_C ex_mt) (hct : ∀ (mi : Nat) (T2 : ex_T) (c' : sx_Ct), ex_mt mi = some T2 → c' ∈ k9 mi → c'.1 < 60 → sx_Holds g z9 hd_C T2 c') {σ : am_S} {lw : List (Nat × Value)} {post : Option (Option Value) → am_S → Prop} (hM : sx_M z9 hd_C σ 0 0 σ) (hl : (0, Value.ref 118) ∈ lw) {m1 : Int32} (hl1 : (1, Value.int m1) ∈ lw) {m2 : Int32} (hl2 : (2, Value.int m2) ∈ lw) {m3 : Int32} (hl3 : (3, Value.int m3) ∈ lw) (cuta : ∀ (lw' : List (Nat × Value)) (m1' : Int32) (m2' : Int32) (m3' : Int32) (n0' : Int32) (n1' : Int32) (σ' : am_S), (0, Value.ref 118) ∈ lw' → (1, Value.int m1') ∈ lw' → (2, Value.int m2') ∈ lw' → (3, Value.int m3') ∈ lw' → (0 ≤ 1 * m3.toInt + ((-1) * n0'.toInt + 0) ∧ 1 * m3.toInt + ((-1) * n0'.toInt + 0) ≤ 0) → ((-2) ≤ 3 * (σ.2.1 118 39).toInt + ((-1) * n1'.toInt + 0) ∧ 3 * (σ.2.1 118 39).toInt + ((-1) * n1'.toInt + 0) ≤ (-2)) → sx_M z9 hd_C σ 0 0 σ' → am_K g 5 tX12_code.1 0 0 39 lw' [.int n0', .int n1', .ref 122] σ' post) : am_K g 5 tX12_code.1 0 0 26 lw [] σ post := by
  refine sg_seg (sw := []) (vs := [m1.toInt, m2.toInt, m3.toInt, (σ.2.1 118 39).toInt]) (ws := []) G (mi := 91) rfl hct sg_c3_ok ⟨⟨m1, hl1, rfl⟩, ⟨⟨m2, hl2, rfl⟩, ⟨⟨m3, hl3, rfl⟩, ⟨rfl, trivial⟩⟩⟩⟩ (hd_refs hl) trivial (hd_p1 rfl (Int32.le_toInt _) (Int32.toInt_le _) (hd_p1 rfl (Int32.le_toInt _) (Int32.toInt_le _) (hd_p1 rfl (Int32.le_toInt _) (Int32.toInt_le _) (hd_p1 rfl (hd_kd_118_39 hM).1 (hd_kd_118_39 hM).2 hd_p0)))) hM ?_ ?_
  · intro r σ' hq
    cases r with
    | none => exact hq.elim
    | some v =>
      obtain ⟨p, hp, hM2, ks, hk, hv⟩ := hq
      cases hp
  · intro u hu
    simp only [List.mem_cons, List.not_mem_nil, or_false] at hu
    rcases hu with rfl
    · intro lw' sw' vs' ws' σ' ⟨h1_0, h2, h3_0, h4, h5⟩
      obtain ⟨m1', vs1, rfl, hm1, h1_1⟩ := hd_srcl h1_0
      obtain ⟨m2', vs2, rfl, hm2, h1_2⟩ := hd_srcl h1_1
      obtain ⟨m3', vs3, rfl, hm3, h1_3⟩ := hd_srcl h1_2
      obtain ⟨vs4, rfl, h1_4⟩ := hd_srcs h1_3
      obtain rfl := hd_src0 h1_4
      obtain ⟨n0', sw1, ws1, rfl, rfl, h3_1⟩ := hd_sti h3_0
      obtain ⟨n1', sw2, ws2, rfl, rfl, h3_2⟩ := hd_sti h3_1
      obtain ⟨sw3, rfl, h3_3⟩ := hd_str h3_2
      obtain ⟨rfl, rfl⟩ := hd_st0 h3_3
      have hr9 := hd_ref0 h2
      obtain ⟨v0, e0, l0, u0⟩ := h4 _ (List.mem_cons_self)
      have g0 : 1 * m3.toInt + ((-1) * n0'.toInt + 0) = v0 := Option.some.inj e0
      obtain ⟨v1, e1, l1, u1⟩ := h4 _ (List.mem_cons_of_mem _ (List.mem_cons_self))
      have g1 : 3 * (σ.2.1 118 39).toInt + ((-1) * n1'.toInt + 0) = v1 := Option.some.inj e1
      exact cuta _ _ _ _ _ _ _ hr9 hm1 hm2 hm3 ⟨by rw [g0]; exact l0, by rw [g0]; exact u0⟩ ⟨by rw [g1]; exact l1, by rw [g1]; exact u1⟩ h5
theorem sg_c4_run (G : sx_G0 g L xs z9 hd_C ex_mt) (hct : ∀ (mi : Nat) (T2 : ex_T) (c' : sx_Ct), ex_mt mi = some T2 → c' ∈ k9 mi → c'.1 < 60 → sx_Holds g z9 hd_C T2 c') {σ : am_S} {lw : List (Nat × Value)} {post : Option (Option Value) → am_S → Prop} (hM : sx_M z9 hd_C σ 0 0 σ) (hl : (0, Value.ref 118) ∈ lw) (bp118_39 : 0 ≤ (σ.2.1 118 39).toInt ∧ (σ.2.1 118 39).toInt ≤ 39) (ret0 : ∀ (σ' : am_S), ((-1) ≤ 1 * (σ.2.1 118 39).toInt + ((-1) * (σ'.2.1 118 39).toInt + 0) ∧ 1 * (σ.2.1 118 39).toInt + ((-1) * (σ'.2.1 118 39).toInt + 0) ≤ (-1)) → sx_M z9 hd_C σ 645562469521727147413979793000752968582426448207305878207664839135161905504210298657411338320034457858975792993186873344 0 σ' → post (some none) σ') : am_K g 5 tX12_code.1 0 0 40 lw [] σ post := by
  refine sg_seg (sw := []) (vs := [(σ.2.1 118 39).toInt]) (ws := []) G (mi := 91) rfl hct sg_c4_ok ⟨rfl, trivial⟩ (hd_refs hl) trivial (hd_p1 rfl bp118_39.1 bp118_39.2 hd_p0) hM ?_ ?_
  · intro r σ' hq
    cases r with
    | none => exact hq.elim
    | some v =>
      obtain ⟨p, hp, hM2, ks, hk, hv⟩ := hq
      simp only [List.mem_cons, List.not_mem_nil, or_false] at hp
      rcases hp with rfl
      · obtain ⟨ks0, rfl, hk1⟩ := hd_keyc hk; obtain rfl := hd_keys hk1
        cases v with
        | some w9 => exact hv.elim
        | none =>
          have hP := hv
          obtain ⟨v0, e0, l0, u0⟩ := hP _ (List.mem_cons_self)
          have g0 : 1 * (σ.2.1 118 39).toInt + ((-1) * (σ'.2.1 118 39).toInt + 0) = v0 := Option.some.inj e0
          exact ret0 _ ⟨by rw [g0]; exact l0, by rw [g0]; exact u0⟩ hM2
  · intro u hu
    cases hu
theorem sg_o1_run (G : sx_G0 g L xs z9 hd_C ex_mt) (hct : ∀ (mi : Nat) (T2 : ex_T) (c' : sx_Ct), ex_mt mi = some T2 → c' ∈ k9 mi → c'.1 < 60 → sx_Holds g z9 hd_C T2 c') {σ : am_S} {lw : List (Nat × Value)} {post : Option (Option Value) → am_S → Prop} (hM : sx_M z9 hd_C σ 0 0 σ) (hl : (0, Value.ref 118) ∈ lw)  (ret0 : ∀ (r : Int32) (σ' : am_S), (0 ≤ 1 * r.toInt + 0 ∧ 1 * r.toInt + 0 ≤ 0) → sx_M z9 hd_C σ 28858891257124862704305937573347373392392387160985434571251191458187784500608308553281933292152037822856416985088 0 σ' → post (some (some (.int r))) σ') (cuta : ∀ (lw' : List (Nat × Value)) (n0' : Int32) (n1' : Int32) (σ' : am_S), (0, Value.ref 118) ∈ lw' → (20 ≤ 1 * n0'.toInt + 0 ∧ 1 * n0'.toInt + 0 ≤ 20) → (0 ≤ 1 * (σ.2.1 118 41).toInt + ((-1) * n1'.toInt + 0) ∧ 1 * (σ.2.1 118 41).toInt + ((-1) * n1'.toInt + 0) ≤ 0) → ((-1) ≤ 1 * (σ.2.1 118 40).toInt + ((-1) * (σ'.2.1 118 40).toInt + 0) ∧ 1 * (σ.2.1 118 40).toInt + ((-1) * (σ'.2.1 118 40).toInt + 0) ≤ (-1)) → (0 ≤ 1 * (σ.2.1 118 40).toInt + 0 ∧ 1 * (σ.2.1 118 40).toInt + 0 ≤ 19) → sx_M z9 hd_C σ 8452712498170643941637436558664265704301557216577944354047371344426782440907597751590676094202515006314790319892114058862117560952042968596008623655408324355482267590137423016546624510096433278626143964735993559007120432153489348747370186347360966285335158849617067507712 0 σ' → am_K g 25 tX12_operand.1 0 0 103 lw' [.int n0', .int n1', .ref 134] σ' post) (cuta2 : ∀ (lw' : List (Nat × Value)) (n0' : Int32) (n1' : Int32) (σ' : am_S), (0, Value.ref 118) ∈ lw' → (23 ≤ 1 * n0'.toInt + 0 ∧ 1 * n0'.toInt + 0 ≤ 23) → (0 ≤ 1 * (σ.2.1 118 41).toInt + ((-1) * n1'.toInt + 0) ∧ 1 * (σ.2.1 118 41).toInt + ((-1) * n1'.toInt + 0) ≤ 0) → ((-1) ≤ 1 * (σ.2.1 118 40).toInt + ((-1) * (σ'.2.1 118 40).toInt + 0) ∧ 1 * (σ.2.1 118 40).toInt + ((-1) * (σ'.2.1 118 40).toInt + 0) ≤ (-1)) → (0 ≤ 1 * (σ.2.1 118 40).toInt + 0 ∧ 1 * (σ.2.1 118 40).toInt + 0 ≤ 19) → sx_M z9 hd_C σ 8452712498170643941637436558664265704301557216577944354047371344426782440907597751590676094202515006314790319892114058862117560952042968596008623655408324355482267590137423016546624510096433278626143964735993559007120432153489348747370186347360966285335158849617067507712 0 σ' → am_K g 25 tX12_operand.1 0 0 103 lw' [.int n0', .int n1', .ref 134] σ' post) (cutb : ∀ (lw' : List (Nat × Value)) (m3' : Int32) (σ' : am_S), (0, Value.ref 118) ∈ lw' → (3, Value.int m3') ∈ lw' → (0 ≤ 1 * m3'.toInt + 0 ∧ 1 * m3'.toInt + 0 ≤ 6) → ((-1) ≤ 1 * (σ.2.1 118 40).toInt + ((-1) * (σ'.2.1 118 40).toInt + 0) ∧ 1 * (σ.2.1 118 40).toInt + ((-1) * (σ'.2.1 118 40).toInt + 0) ≤ (-1)) → (0 ≤ 1 * (σ.2.1 118 40).toInt + 0 ∧ 1 * (σ.2.1 118 40).toInt + 0 ≤ 19) → sx_M z9 hd_C σ 8452712498170643941637436558664265704301557216577944354047371344426782440907597751590676094202515006314790319892114058862117560952042968596008623655408324355482267590137423016546624510096433278626143964735993559007120432153489348747370186347360966285335158849617067507712 0 σ' → am_K g 25 tX12_operand.1 0 0 126 lw' [] σ' post) : am_K g 25 tX12_operand.1 0 0 0 lw [] σ post := by
  refine sg_seg (sw := []) (vs := [(σ.2.1 118 40).toInt, (σ.2.1 118 41).toInt]) (ws := []) G (mi := 146) rfl hct sg_o1_ok ⟨rfl, ⟨rfl, trivial⟩⟩ (hd_refs hl) trivial (hd_p1 rfl (hd_kd_118_40 hM).1 (hd_kd_118_40 hM).2 (hd_p1 rfl (hd_kd_118_41 hM).1 (hd_kd_118_41 hM).2 hd_p0)) hM ?_ ?_
  · intro r σ' hq
    cases r with
    | none => exact hq.elim
    | some v =>
      obtain ⟨p, hp, hM2, ks, hk, hv⟩ := hq
      simp only [List.mem_cons, List.not_mem_nil, or_false] at hp
      rcases hp with rfl
      · obtain rfl := hd_keys hk
        cases v with
        | none => exact hv.elim
        | some w9 =>
          obtain ⟨r, rfl, hP⟩ := hv
          obtain ⟨v0, e0, l0, u0⟩ := hP _ (List.mem_cons_self)
          have g0 : 1 * r.toInt + 0 = v0 := Option.some.inj e0
          exact ret0 r _ ⟨by rw [g0]; exact l0, by rw [g0]; exact u0⟩ hM2
  · intro u hu
    simp only [List.mem_cons, List.not_mem_nil, or_false] at hu
    rcases hu with rfl | rfl | rfl
    · intro lw' sw' vs' ws' σ' ⟨h1_0, h2, h3_0, h4, h5⟩
      obtain ⟨vs1, rfl, h1_1⟩ := hd_srcs h1_0
      obtain rfl := hd_src0 h1_1
      obtain ⟨n0', sw1, ws1, rfl, rfl, h3_1⟩ := hd_sti h3_0
      obtain ⟨n1', sw2, ws2, rfl, rfl, h3_2⟩ := hd_sti h3_1
      obtain ⟨sw3, rfl, h3_3⟩ := hd_str h3_2
      obtain ⟨rfl, rfl⟩ := hd_st0 h3_3
      have hr9 := hd_ref0 h2
      obtain ⟨v0, e0, l0, u0⟩ := h4 _ (List.mem_cons_self)
      have g0 : 1 * n0'.toInt + 0 = v0 := Option.some.inj e0
      obtain ⟨v1, e1, l1, u1⟩ := h4 _ (List.mem_cons_of_mem _ (List.mem_cons_self))
      have g1 : 1 * (σ.2.1 118 41).toInt + ((-1) * n1'.toInt + 0) = v1 := Option.some.inj e1
      obtain ⟨v2, e2, l2, u2⟩ := h4 _ (List.mem_cons_of_mem _ (List.mem_cons_of_mem _ (List.mem_cons_self)))
      have g2 : 1 * (σ.2.1 118 40).toInt + ((-1) * (σ'.2.1 118 40).toInt + 0) = v2 := Option.some.inj e2
      obtain ⟨v3, e3, l3, u3⟩ := h4 _ (List.mem_cons_of_mem _ (List.mem_cons_of_mem _ (List.mem_cons_of_mem _ (List.mem_cons_self))))
      have g3 : 1 * (σ.2.1 118 40).toInt + 0 = v3 := Option.some.inj e3
      exact cuta _ _ _ _ hr9  ⟨by rw [g0]; exact l0, by rw [g0]; exact u0⟩ ⟨by rw [g1]; exact l1, by rw [g1]; exact u1⟩ ⟨by rw [g2]; exact l2, by rw [g2]; exact u2⟩ ⟨by rw [g3]; exact l3, by rw [g3]; exact u3⟩ h5
    · intro lw' sw' vs' ws' σ' ⟨h1_0, h2, h3_0, h4, h5⟩
      obtain ⟨vs1, rfl, h1_1⟩ := hd_srcs h1_0
      obtain rfl := hd_src0 h1_1
      obtain ⟨n0', sw1, ws1, rfl, rfl, h3_1⟩ := hd_sti h3_0
      obtain ⟨n1', sw2, ws2, rfl, rfl, h3_2⟩ := hd_sti h3_1
      obtain ⟨sw3, rfl, h3_3⟩ := hd_str h3_2
      obtain ⟨rfl, rfl⟩ := hd_st0 h3_3
      have hr9 := hd_ref0 h2
      obtain ⟨v0, e0, l0, u0⟩ := h4 _ (List.mem_cons_self)
      have g0 : 1 * n0'.toInt + 0 = v0 := Option.some.inj e0
      obtain ⟨v1, e1, l1, u1⟩ := h4 _ (List.mem_cons_of_mem _ (List.mem_cons_self))
      have g1 : 1 * (σ.2.1 118 41).toInt + ((-1) * n1'.toInt + 0) = v1 := Option.some.inj e1
      obtain ⟨v2, e2, l2, u2⟩ := h4 _ (List.mem_cons_of_mem _ (List.mem_cons_of_mem _ (List.mem_cons_self)))
      have g2 : 1 * (σ.2.1 118 40).toInt + ((-1) * (σ'.2.1 118 40).toInt + 0) = v2 := Option.some.inj e2
      obtain ⟨v3, e3, l3, u3⟩ := h4 _ (List.mem_cons_of_mem _ (List.mem_cons_of_mem _ (List.mem_cons_of_mem _ (List.mem_cons_self))))
      have g3 : 1 * (σ.2.1 118 40).toInt + 0 = v3 := Option.some.inj e3
      exact cuta2 _ _ _ _ hr9  ⟨by rw [g0]; exact l0, by rw [g0]; exact u0⟩ ⟨by rw [g1]; exact l1, by rw [g1]; exact u1⟩ ⟨by rw [g2]; exact l2, by rw [g2]; exact u2⟩ ⟨by rw [g3]; exact l3, by rw [g3]; exact u3⟩ h5
    · intro lw' sw' vs' ws' σ' ⟨h1_0, h2, h3_0, h4, h5⟩
      obtain ⟨m3', vs1, rfl, hm3, h1_1⟩ := hd_srcl h1_0
      obtain ⟨vs2, rfl, h1_2⟩ := hd_srcs h1_1
      obtain rfl := hd_src0 h1_2
      obtain ⟨rfl, rfl⟩ := hd_st0 h3_0
      have hr9 := hd_ref0 h2
      obtain ⟨v0, e0, l0, u0⟩ := h4 _ (List.mem_cons_self)
      have g0 : 1 * m3'.toInt + 0 = v0 := Option.some.inj e0
      obtain ⟨v1, e1, l1, u1⟩ := h4 _ (List.mem_cons_of_mem _ (List.mem_cons_self))
      have g1 : 1 * (σ.2.1 118 40).toInt + ((-1) * (σ'.2.1 118 40).toInt + 0) = v1 := Option.some.inj e1
      obtain ⟨v2, e2, l2, u2⟩ := h4 _ (List.mem_cons_of_mem _ (List.mem_cons_of_mem _ (List.mem_cons_self)))
      have g2 : 1 * (σ.2.1 118 40).toInt + 0 = v2 := Option.some.inj e2
      exact cutb _ _ _ hr9 hm3 ⟨by rw [g0]; exact l0, by rw [g0]; exact u0⟩ ⟨by rw [g1]; exact l1, by rw [g1]; exact u1⟩ ⟨by rw [g2]; exact l2, by rw [g2]; exact u2⟩ h5
theorem sg_o2_run (G : sx_G0 g L xs z9 hd_C ex_mt) (hct : ∀ (mi : Nat) (T2 : ex_T) (c' : sx_Ct), ex_mt mi = some T2 → c' ∈ k9 mi → c'.1 < 60 → sx_Holds g z9 hd_C T2 c') {σ : am_S} {lw : List (Nat × Value)} {post : Option (Option Value) → am_S → Prop} (hM : sx_M z9 hd_C σ 0 0 σ) (hl : (0, Value.ref 118) ∈ lw) (bp118_41 : 0 ≤ (σ.2.1 118 41).toInt ∧ (σ.2.1 118 41).toInt ≤ 39) (ret0 : ∀ (r : Int32) (σ' : am_S), (1 ≤ 1 * r.toInt + 0 ∧ 1 * r.toInt + 0 ≤ 1) → ((-1) ≤ 1 * (σ.2.1 118 41).toInt + ((-1) * (σ'.2.1 118 41).toInt + 0) ∧ 1 * (σ.2.1 118 41).toInt + ((-1) * (σ'.2.1 118 41).toInt + 0) ≤ (-1)) → sx_M z9 hd_C σ 7746749634260725768967757516009035622989117378487670538491978069621942866050523583888936059840413494307709515918242480128 0 σ' → post (some (some (.int r))) σ') : am_K g 25 tX12_operand.1 0 0 104 lw [] σ post := by
  refine sg_seg (sw := []) (vs := [(σ.2.1 118 41).toInt]) (ws := []) G (mi := 146) rfl hct sg_o2_ok ⟨rfl, trivial⟩ (hd_refs hl) trivial (hd_p1 rfl bp118_41.1 bp118_41.2 hd_p0) hM ?_ ?_
  · intro r σ' hq
    cases r with
    | none => exact hq.elim
    | some v =>
      obtain ⟨p, hp, hM2, ks, hk, hv⟩ := hq
      simp only [List.mem_cons, List.not_mem_nil, or_false] at hp
      rcases hp with rfl
      · obtain ⟨ks0, rfl, hk1⟩ := hd_keyc hk; obtain rfl := hd_keys hk1
        cases v with
        | none => exact hv.elim
        | some w9 =>
          obtain ⟨r, rfl, hP⟩ := hv
          obtain ⟨v0, e0, l0, u0⟩ := hP _ (List.mem_cons_self)
          have g0 : 1 * r.toInt + 0 = v0 := Option.some.inj e0
          obtain ⟨v1, e1, l1, u1⟩ := hP _ (List.mem_cons_of_mem _ (List.mem_cons_self))
          have g1 : 1 * (σ.2.1 118 41).toInt + ((-1) * (σ'.2.1 118 41).toInt + 0) = v1 := Option.some.inj e1
          exact ret0 r _ ⟨by rw [g0]; exact l0, by rw [g0]; exact u0⟩ ⟨by rw [g1]; exact l1, by rw [g1]; exact u1⟩ hM2
  · intro u hu
    cases hu
theorem sg_o3_run (G : sx_G0 g L xs z9 hd_C ex_mt) (hct : ∀ (mi : Nat) (T2 : ex_T) (c' : sx_Ct), ex_mt mi = some T2 → c' ∈ k9 mi → c'.1 < 60 → sx_Holds g z9 hd_C T2 c') {σ : am_S} {lw : List (Nat × Value)} {post : Option (Option Value) → am_S → Prop} (hM : sx_M z9 hd_C σ 0 0 σ) (hl : (0, Value.ref 118) ∈ lw) {m3 : Int32} (hl3 : (3, Value.int m3) ∈ lw) (bl3 : 0 ≤ m3.toInt ∧ m3.toInt ≤ 6) (ret0 : ∀ (r : Int32) (σ' : am_S), (0 ≤ 1 * r.toInt + 0 ∧ 1 * r.toInt + 0 ≤ 0) → sx_M z9 hd_C σ 8452712498170643941637436558664265704301557216577944354047371344426782440907597751590676094202515006314790319892114058862117560952042968596008623655417362230084430661458343596352940989229934622293438634191886301326263890288736077429182253637123381987512857774378100719616 0 σ' → post (some (some (.int r))) σ') (cuta : ∀ (lw' : List (Nat × Value)) (n0' : Int32) (n1' : Int32) (n2' : Int32) (σ' : am_S), (0, Value.ref 118) ∈ lw' → (0 ≤ 1 * n0'.toInt + 0 ∧ 1 * n0'.toInt + 0 ≤ 0) → (0 ≤ 1 * n1'.toInt + 0 ∧ 1 * n1'.toInt + 0 ≤ 0) → (0 ≤ 1 * n2'.toInt + 0 ∧ 1 * n2'.toInt + 0 ≤ 2) → (1 ≤ 1 * (σ'.2.1 118 43).toInt + 0 ∧ 1 * (σ'.2.1 118 43).toInt + 0 ≤ 1) → sx_M z9 hd_C σ 10328999512347634358623676688012047497318823171316894051322637426162590488067364778518581413120551325743612687890989973504 0 σ' → am_K g 25 tX12_operand.1 0 0 140 lw' [.int n0', .int n1', .int n2', .ref 118] σ' post) (cutb : ∀ (lw' : List (Nat × Value)) (n0' : Int32) (n1' : Int32) (n2' : Int32) (σ' : am_S), (0, Value.ref 118) ∈ lw' → (3 ≤ 1 * n2'.toInt + 0 ∧ 1 * n2'.toInt + 0 ≤ 6) → (1 ≤ 1 * (σ'.2.1 118 43).toInt + 0 ∧ 1 * (σ'.2.1 118 43).toInt + 0 ≤ 1) → sx_M z9 hd_C σ 8452712498170643941637436558664265704301557216577944354047371344426782440907597751590676094202515006314790319892114058862117560952042968596008623655417362230055571770201218733648635051656587248901046247030900866755012698830548292928573945083841448695360819951521683734528 0 σ' → am_K g 25 tX12_operand.1 0 0 209 lw' [.int n0', .int n1', .int n2', .ref 118] σ' post) : am_K g 25 tX12_operand.1 0 0 126 lw [] σ post := by
  refine sg_seg (sw := []) (vs := [m3.toInt]) (ws := []) G (mi := 146) rfl hct sg_o3_ok ⟨⟨m3, hl3, rfl⟩, trivial⟩ (hd_refs hl) trivial (hd_p1 rfl bl3.1 bl3.2 hd_p0) hM ?_ ?_
  · intro r σ' hq
    cases r with
    | none => exact hq.elim
    | some v =>
      obtain ⟨p, hp, hM2, ks, hk, hv⟩ := hq
      simp only [List.mem_cons, List.not_mem_nil, or_false] at hp
      rcases hp with rfl
      · obtain rfl := hd_keys hk
        cases v with
        | none => exact hv.elim
        | some w9 =>
          obtain ⟨r, rfl, hP⟩ := hv
          obtain ⟨v0, e0, l0, u0⟩ := hP _ (List.mem_cons_self)
          have g0 : 1 * r.toInt + 0 = v0 := Option.some.inj e0
          exact ret0 r _ ⟨by rw [g0]; exact l0, by rw [g0]; exact u0⟩ hM2
  · intro u hu
    simp only [List.mem_cons, List.not_mem_nil, or_false] at hu
    rcases hu with rfl | rfl
    · intro lw' sw' vs' ws' σ' ⟨h1_0, h2, h3_0, h4, h5⟩
      obtain ⟨vs1, rfl, h1_1⟩ := hd_srcs h1_0
      obtain rfl := hd_src0 h1_1
      obtain ⟨n0', sw1, ws1, rfl, rfl, h3_1⟩ := hd_sti h3_0
      obtain ⟨n1', sw2, ws2, rfl, rfl, h3_2⟩ := hd_sti h3_1
      obtain ⟨n2', sw3, ws3, rfl, rfl, h3_3⟩ := hd_sti h3_2
      obtain ⟨sw4, rfl, h3_4⟩ := hd_str h3_3
      obtain ⟨rfl, rfl⟩ := hd_st0 h3_4
      have hr9 := hd_ref0 h2
      obtain ⟨v0, e0, l0, u0⟩ := h4 _ (List.mem_cons_self)
      have g0 : 1 * n0'.toInt + 0 = v0 := Option.some.inj e0
      obtain ⟨v1, e1, l1, u1⟩ := h4 _ (List.mem_cons_of_mem _ (List.mem_cons_self))
      have g1 : 1 * n1'.toInt + 0 = v1 := Option.some.inj e1
      obtain ⟨v2, e2, l2, u2⟩ := h4 _ (List.mem_cons_of_mem _ (List.mem_cons_of_mem _ (List.mem_cons_self)))
      have g2 : 1 * n2'.toInt + 0 = v2 := Option.some.inj e2
      obtain ⟨v3, e3, l3, u3⟩ := h4 _ (List.mem_cons_of_mem _ (List.mem_cons_of_mem _ (List.mem_cons_of_mem _ (List.mem_cons_self))))
      have g3 : 1 * (σ'.2.1 118 43).toInt + 0 = v3 := Option.some.inj e3
      exact cuta _ _ _ _ _ hr9  ⟨by rw [g0]; exact l0, by rw [g0]; exact u0⟩ ⟨by rw [g1]; exact l1, by rw [g1]; exact u1⟩ ⟨by rw [g2]; exact l2, by rw [g2]; exact u2⟩ ⟨by rw [g3]; exact l3, by rw [g3]; exact u3⟩ h5
    · intro lw' sw' vs' ws' σ' ⟨h1_0, h2, h3_0, h4, h5⟩
      obtain ⟨vs1, rfl, h1_1⟩ := hd_srcs h1_0
      obtain rfl := hd_src0 h1_1
      obtain ⟨n0', sw1, ws1, rfl, rfl, h3_1⟩ := hd_sti h3_0
      obtain ⟨n1', sw2, ws2, rfl, rfl, h3_2⟩ := hd_sti h3_1
      obtain ⟨n2', sw3, ws3, rfl, rfl, h3_3⟩ := hd_sti h3_2
      obtain ⟨sw4, rfl, h3_4⟩ := hd_str h3_3
      obtain ⟨rfl, rfl⟩ := hd_st0 h3_4
      have hr9 := hd_ref0 h2
      obtain ⟨v0, e0, l0, u0⟩ := h4 _ (List.mem_cons_self)
      have g0 : 1 * n2'.toInt + 0 = v0 := Option.some.inj e0
      obtain ⟨v1, e1, l1, u1⟩ := h4 _ (List.mem_cons_of_mem _ (List.mem_cons_self))
      have g1 : 1 * (σ'.2.1 118 43).toInt + 0 = v1 := Option.some.inj e1
      exact cutb _ _ _ _ _ hr9  ⟨by rw [g0]; exact l0, by rw [g0]; exact u0⟩ ⟨by rw [g1]; exact l1, by rw [g1]; exact u1⟩ h5
theorem sg_o4_run (G : sx_G0 g L xs z9 hd_C ex_mt) (hct : ∀ (mi : Nat) (T2 : ex_T) (c' : sx_Ct), ex_mt mi = some T2 → c' ∈ k9 mi → c'.1 < 60 → sx_Holds g z9 hd_C T2 c') {σ : am_S} {lw : List (Nat × Value)} {post : Option (Option Value) → am_S → Prop} (hM : sx_M z9 hd_C σ 0 0 σ) (hl : (0, Value.ref 118) ∈ lw)  (ret0 : ∀ (r : Int32) (σ' : am_S), (1 ≤ 1 * r.toInt + 0 ∧ 1 * r.toInt + 0 ≤ 1) → sx_M z9 hd_C σ 0 0 σ' → post (some (some (.int r))) σ') : am_K g 25 tX12_operand.1 0 0 143 lw [] σ post := by
  refine sg_seg (sw := []) (vs := []) (ws := []) G (mi := 146) rfl hct sg_o4_ok trivial (hd_refs hl) trivial hd_p0 hM ?_ ?_
  · intro r σ' hq
    cases r with
    | none => exact hq.elim
    | some v =>
      obtain ⟨p, hp, hM2, ks, hk, hv⟩ := hq
      simp only [List.mem_cons, List.not_mem_nil, or_false] at hp
      rcases hp with rfl
      · obtain rfl := hd_keys hk
        cases v with
        | none => exact hv.elim
        | some w9 =>
          obtain ⟨r, rfl, hP⟩ := hv
          obtain ⟨v0, e0, l0, u0⟩ := hP _ (List.mem_cons_self)
          have g0 : 1 * r.toInt + 0 = v0 := Option.some.inj e0
          exact ret0 r _ ⟨by rw [g0]; exact l0, by rw [g0]; exact u0⟩ hM2
  · intro u hu
    cases hu
theorem sg_o5_run (G : sx_G0 g L xs z9 hd_C ex_mt) (hct : ∀ (mi : Nat) (T2 : ex_T) (c' : sx_Ct), ex_mt mi = some T2 → c' ∈ k9 mi → c'.1 < 60 → sx_Holds g z9 hd_C T2 c') {σ : am_S} {lw : List (Nat × Value)} {post : Option (Option Value) → am_S → Prop} (hM : sx_M z9 hd_C σ 0 0 σ) (hl : (0, Value.ref 118) ∈ lw)  (ret0 : ∀ (r : Int32) (σ' : am_S), (1 ≤ 1 * r.toInt + 0 ∧ 1 * r.toInt + 0 ≤ 1) → sx_M z9 hd_C σ 8452712498170643941637436558664265704301557216577944354047371344426782440907597751590676094202515006314790319892114058862117560952042968596008623655407033230543224135842595056960623004159268425729729352979578229328850108342480928150055363670720897369617207263630693761024 0 σ' → post (some (some (.int r))) σ') : am_K g 25 tX12_operand.1 0 0 212 lw [] σ post := by
  refine sg_seg (sw := []) (vs := []) (ws := []) G (mi := 146) rfl hct sg_o5_ok trivial (hd_refs hl) trivial hd_p0 hM ?_ ?_
  · intro r σ' hq
    cases r with
    | none => exact hq.elim
    | some v =>
      obtain ⟨p, hp, hM2, ks, hk, hv⟩ := hq
      simp only [List.mem_cons, List.not_mem_nil, or_false] at hp
      rcases hp with rfl
      · obtain rfl := hd_keys hk
        cases v with
        | none => exact hv.elim
        | some w9 =>
          obtain ⟨r, rfl, hP⟩ := hv
          obtain ⟨v0, e0, l0, u0⟩ := hP _ (List.mem_cons_self)
          have g0 : 1 * r.toInt + 0 = v0 := Option.some.inj e0
          exact ret0 r _ ⟨by rw [g0]; exact l0, by rw [g0]; exact u0⟩ hM2
  · intro u hu
    cases hu
theorem sg_b1_run (G : sx_G0 g L xs z9 hd_C ex_mt) (hct : ∀ (mi : Nat) (T2 : ex_T) (c' : sx_Ct), ex_mt mi = some T2 → c' ∈ k9 mi → c'.1 < 60 → sx_Holds g z9 hd_C T2 c') {σ : am_S} {lw : List (Nat × Value)} {post : Option (Option Value) → am_S → Prop} (hM : sx_M z9 hd_C σ 0 0 σ) (hl : (0, Value.ref 118) ∈ lw)  (cuta : ∀ (lw' : List (Nat × Value))  (σ' : am_S), (0, Value.ref 118) ∈ lw' → sx_M z9 hd_C σ 0 0 σ' → am_K g 25 tX12_behind.1 0 0 1 lw' [.ref 118] σ' post) : am_K g 25 tX12_behind.1 0 0 0 lw [] σ post := by
  refine sg_seg (sw := []) (vs := []) (ws := []) G (mi := 77) rfl hct sg_b1_ok trivial (hd_refs hl) trivial hd_p0 hM ?_ ?_
  · intro r σ' hq
    cases r with
    | none => exact hq.elim
    | some v =>
      obtain ⟨p, hp, hM2, ks, hk, hv⟩ := hq
      cases hp
  · intro u hu
    simp only [List.mem_cons, List.not_mem_nil, or_false] at hu
    rcases hu with rfl
    · intro lw' sw' vs' ws' σ' ⟨h1_0, h2, h3_0, h4, h5⟩
      obtain rfl := hd_src0 h1_0
      obtain ⟨sw1, rfl, h3_1⟩ := hd_str h3_0
      obtain ⟨rfl, rfl⟩ := hd_st0 h3_1
      have hr9 := hd_ref0 h2
      exact cuta _  _ hr9   h5
theorem sg_b2_run (G : sx_G0 g L xs z9 hd_C ex_mt) (hct : ∀ (mi : Nat) (T2 : ex_T) (c' : sx_Ct), ex_mt mi = some T2 → c' ∈ k9 mi → c'.1 < 60 → sx_Holds g z9 hd_C T2 c') {σ : am_S} {lw : List (Nat × Value)} {post : Option (Option Value) → am_S → Prop} (hM : sx_M z9 hd_C σ 0 0 σ) (hl : (0, Value.ref 118) ∈ lw)  (cuta : ∀ (lw' : List (Nat × Value)) (n0' : Int32) (σ' : am_S), (0, Value.ref 118) ∈ lw' → (21 ≤ 1 * n0'.toInt + 0 ∧ 1 * n0'.toInt + 0 ≤ 22) → sx_M z9 hd_C σ 0 0 σ' → am_K g 25 tX12_behind.1 0 0 42 lw' [.int n0', .ref 118] σ' post) (cutb : ∀ (lw' : List (Nat × Value)) (n0' : Int32) (σ' : am_S), (0, Value.ref 118) ∈ lw' → (22 ≤ 1 * n0'.toInt + 0 ∧ 1 * n0'.toInt + 0 ≤ 22) → sx_M z9 hd_C σ 0 0 σ' → am_K g 25 tX12_behind.1 0 0 95 lw' [.int n0', .ref 118] σ' post) : am_K g 25 tX12_behind.1 0 0 4 lw [] σ post := by
  refine sg_seg (sw := []) (vs := []) (ws := []) G (mi := 77) rfl hct sg_b2_ok trivial (hd_refs hl) trivial hd_p0 hM ?_ ?_
  · intro r σ' hq
    cases r with
    | none => exact hq.elim
    | some v =>
      obtain ⟨p, hp, hM2, ks, hk, hv⟩ := hq
      cases hp
  · intro u hu
    simp only [List.mem_cons, List.not_mem_nil, or_false] at hu
    rcases hu with rfl | rfl
    · intro lw' sw' vs' ws' σ' ⟨h1_0, h2, h3_0, h4, h5⟩
      obtain rfl := hd_src0 h1_0
      obtain ⟨n0', sw1, ws1, rfl, rfl, h3_1⟩ := hd_sti h3_0
      obtain ⟨sw2, rfl, h3_2⟩ := hd_str h3_1
      obtain ⟨rfl, rfl⟩ := hd_st0 h3_2
      have hr9 := hd_ref0 h2
      obtain ⟨v0, e0, l0, u0⟩ := h4 _ (List.mem_cons_self)
      have g0 : 1 * n0'.toInt + 0 = v0 := Option.some.inj e0
      exact cuta _ _ _ hr9  ⟨by rw [g0]; exact l0, by rw [g0]; exact u0⟩ h5
    · intro lw' sw' vs' ws' σ' ⟨h1_0, h2, h3_0, h4, h5⟩
      obtain rfl := hd_src0 h1_0
      obtain ⟨n0', sw1, ws1, rfl, rfl, h3_1⟩ := hd_sti h3_0
      obtain ⟨sw2, rfl, h3_2⟩ := hd_str h3_1
      obtain ⟨rfl, rfl⟩ := hd_st0 h3_2
      have hr9 := hd_ref0 h2
      obtain ⟨v0, e0, l0, u0⟩ := h4 _ (List.mem_cons_self)
      have g0 : 1 * n0'.toInt + 0 = v0 := Option.some.inj e0
      exact cutb _ _ _ hr9  ⟨by rw [g0]; exact l0, by rw [g0]; exact u0⟩ h5
theorem sg_b3_run (G : sx_G0 g L xs z9 hd_C ex_mt) (hct : ∀ (mi : Nat) (T2 : ex_T) (c' : sx_Ct), ex_mt mi = some T2 → c' ∈ k9 mi → c'.1 < 60 → sx_Holds g z9 hd_C T2 c') {σ : am_S} {lw : List (Nat × Value)} {post : Option (Option Value) → am_S → Prop} (hM : sx_M z9 hd_C σ 0 0 σ) (hl : (0, Value.ref 118) ∈ lw)  (cuta : ∀ (lw' : List (Nat × Value)) (n0' : Int32) (n1' : Int32) (σ' : am_S), (0, Value.ref 118) ∈ lw' → (21 ≤ 1 * n0'.toInt + 0 ∧ 1 * n0'.toInt + 0 ≤ 22) → (0 ≤ 1 * (σ.2.1 118 41).toInt + ((-1) * n1'.toInt + 0) ∧ 1 * (σ.2.1 118 41).toInt + ((-1) * n1'.toInt + 0) ≤ 0) → (0 ≤ 1 * (σ.2.1 118 41).toInt + ((-1) * (σ'.2.1 118 41).toInt + 0) ∧ 1 * (σ.2.1 118 41).toInt + ((-1) * (σ'.2.1 118 41).toInt + 0) ≤ 0) → sx_M z9 hd_C σ 0 0 σ' → am_K g 25 tX12_behind.1 0 0 70 lw' [.int n0', .int n1', .ref 134] σ' post) : am_K g 25 tX12_behind.1 0 0 45 lw [] σ post := by
  refine sg_seg (sw := []) (vs := [(σ.2.1 118 41).toInt]) (ws := []) G (mi := 77) rfl hct sg_b3_ok ⟨rfl, trivial⟩ (hd_refs hl) trivial (hd_p1 rfl (hd_kd_118_41 hM).1 (hd_kd_118_41 hM).2 hd_p0) hM ?_ ?_
  · intro r σ' hq
    cases r with
    | none => exact hq.elim
    | some v =>
      obtain ⟨p, hp, hM2, ks, hk, hv⟩ := hq
      cases hp
  · intro u hu
    simp only [List.mem_cons, List.not_mem_nil, or_false] at hu
    rcases hu with rfl
    · intro lw' sw' vs' ws' σ' ⟨h1_0, h2, h3_0, h4, h5⟩
      obtain ⟨vs1, rfl, h1_1⟩ := hd_srcs h1_0
      obtain rfl := hd_src0 h1_1
      obtain ⟨n0', sw1, ws1, rfl, rfl, h3_1⟩ := hd_sti h3_0
      obtain ⟨n1', sw2, ws2, rfl, rfl, h3_2⟩ := hd_sti h3_1
      obtain ⟨sw3, rfl, h3_3⟩ := hd_str h3_2
      obtain ⟨rfl, rfl⟩ := hd_st0 h3_3
      have hr9 := hd_ref0 h2
      obtain ⟨v0, e0, l0, u0⟩ := h4 _ (List.mem_cons_self)
      have g0 : 1 * n0'.toInt + 0 = v0 := Option.some.inj e0
      obtain ⟨v1, e1, l1, u1⟩ := h4 _ (List.mem_cons_of_mem _ (List.mem_cons_self))
      have g1 : 1 * (σ.2.1 118 41).toInt + ((-1) * n1'.toInt + 0) = v1 := Option.some.inj e1
      obtain ⟨v2, e2, l2, u2⟩ := h4 _ (List.mem_cons_of_mem _ (List.mem_cons_of_mem _ (List.mem_cons_self)))
      have g2 : 1 * (σ.2.1 118 41).toInt + ((-1) * (σ'.2.1 118 41).toInt + 0) = v2 := Option.some.inj e2
      exact cuta _ _ _ _ hr9  ⟨by rw [g0]; exact l0, by rw [g0]; exact u0⟩ ⟨by rw [g1]; exact l1, by rw [g1]; exact u1⟩ ⟨by rw [g2]; exact l2, by rw [g2]; exact u2⟩ h5
theorem sg_b4_run (G : sx_G0 g L xs z9 hd_C ex_mt) (hct : ∀ (mi : Nat) (T2 : ex_T) (c' : sx_Ct), ex_mt mi = some T2 → c' ∈ k9 mi → c'.1 < 60 → sx_Holds g z9 hd_C T2 c') {σ : am_S} {lw : List (Nat × Value)} {post : Option (Option Value) → am_S → Prop} (hM : sx_M z9 hd_C σ 0 0 σ) (hl : (0, Value.ref 118) ∈ lw) (bp118_41 : 0 ≤ (σ.2.1 118 41).toInt ∧ (σ.2.1 118 41).toInt ≤ 39) (ret0 : ∀ (r : Int32) (σ' : am_S), (1 ≤ 1 * r.toInt + 0 ∧ 1 * r.toInt + 0 ≤ 1) → ((-1) ≤ 1 * (σ.2.1 118 41).toInt + ((-1) * (σ'.2.1 118 41).toInt + 0) ∧ 1 * (σ.2.1 118 41).toInt + ((-1) * (σ'.2.1 118 41).toInt + 0) ≤ (-1)) → (0 ≤ 1 * (σ'.2.1 118 43).toInt + 0 ∧ 1 * (σ'.2.1 118 43).toInt + 0 ≤ 0) → sx_M z9 hd_C σ 8452712498170643941637436558664265704301557216577944354047371344426782440907597751590676094202515006314790319892114058862117560952042968596008623655419944479933658678790874652820638063530916954693875470543731526111553346452565134123203590437121586526796723123494431227904 0 σ' → post (some (some (.int r))) σ') : am_K g 25 tX12_behind.1 0 0 71 lw [] σ post := by
  refine sg_seg (sw := []) (vs := [(σ.2.1 118 41).toInt]) (ws := []) G (mi := 77) rfl hct sg_b4_ok ⟨rfl, trivial⟩ (hd_refs hl) trivial (hd_p1 rfl bp118_41.1 bp118_41.2 hd_p0) hM ?_ ?_
  · intro r σ' hq
    cases r with
    | none => exact hq.elim
    | some v =>
      obtain ⟨p, hp, hM2, ks, hk, hv⟩ := hq
      simp only [List.mem_cons, List.not_mem_nil, or_false] at hp
      rcases hp with rfl
      · obtain ⟨ks0, rfl, hk1⟩ := hd_keyc hk; obtain ⟨ks1, rfl, hk2⟩ := hd_keyc hk1; obtain rfl := hd_keys hk2
        cases v with
        | none => exact hv.elim
        | some w9 =>
          obtain ⟨r, rfl, hP⟩ := hv
          obtain ⟨v0, e0, l0, u0⟩ := hP _ (List.mem_cons_self)
          have g0 : 1 * r.toInt + 0 = v0 := Option.some.inj e0
          obtain ⟨v1, e1, l1, u1⟩ := hP _ (List.mem_cons_of_mem _ (List.mem_cons_self))
          have g1 : 1 * (σ.2.1 118 41).toInt + ((-1) * (σ'.2.1 118 41).toInt + 0) = v1 := Option.some.inj e1
          obtain ⟨v2, e2, l2, u2⟩ := hP _ (List.mem_cons_of_mem _ (List.mem_cons_of_mem _ (List.mem_cons_self)))
          have g2 : 1 * (σ'.2.1 118 43).toInt + 0 = v2 := Option.some.inj e2
          exact ret0 r _ ⟨by rw [g0]; exact l0, by rw [g0]; exact u0⟩ ⟨by rw [g1]; exact l1, by rw [g1]; exact u1⟩ ⟨by rw [g2]; exact l2, by rw [g2]; exact u2⟩ hM2
  · intro u hu
    cases hu
theorem sg_b5_run (G : sx_G0 g L xs z9 hd_C ex_mt) (hct : ∀ (mi : Nat) (T2 : ex_T) (c' : sx_Ct), ex_mt mi = some T2 → c' ∈ k9 mi → c'.1 < 60 → sx_Holds g z9 hd_C T2 c') {σ : am_S} {lw : List (Nat × Value)} {post : Option (Option Value) → am_S → Prop} (hM : sx_M z9 hd_C σ 0 0 σ) (hl : (0, Value.ref 118) ∈ lw)  (ret0 : ∀ (r : Int32) (σ' : am_S), (0 ≤ 1 * r.toInt + 0 ∧ 1 * r.toInt + 0 ≤ 0) → sx_M z9 hd_C σ 28858891257124862704305937573347373392392387160985434571251191458187784500608308553281933292152037822856416985088 0 σ' → post (some (some (.int r))) σ') (ret1 : ∀ (r : Int32) (σ' : am_S), (1 ≤ 1 * r.toInt + 0 ∧ 1 * r.toInt + 0 ≤ 1) → (1 ≤ 1 * (σ.2.1 118 41).toInt + ((-1) * (σ'.2.1 118 41).toInt + 0) ∧ 1 * (σ.2.1 118 41).toInt + ((-1) * (σ'.2.1 118 41).toInt + 0) ≤ 1) → (1 ≤ 1 * (σ.2.1 118 41).toInt + 0 ∧ 1 * (σ.2.1 118 41).toInt + 0 ≤ 40) → sx_M z9 hd_C σ 8452712498170643941637436558664265704301557216577944354047371344426782440907597751590676094202515006314790319892114058862117560952042968596008623655414779980177484861611562814476632039782257543108217023518070207398472051208531451733944299730561310863924916779548936241152 0 σ' → post (some (some (.int r))) σ') : am_K g 25 tX12_behind.1 0 0 98 lw [] σ post := by
  refine sg_seg (sw := []) (vs := [(σ.2.1 118 41).toInt]) (ws := []) G (mi := 77) rfl hct sg_b5_ok ⟨rfl, trivial⟩ (hd_refs hl) trivial (hd_p1 rfl (hd_kd_118_41 hM).1 (hd_kd_118_41 hM).2 hd_p0) hM ?_ ?_
  · intro r σ' hq
    cases r with
    | none => exact hq.elim
    | some v =>
      obtain ⟨p, hp, hM2, ks, hk, hv⟩ := hq
      simp only [List.mem_cons, List.not_mem_nil, or_false] at hp
      rcases hp with rfl | rfl
      · obtain rfl := hd_keys hk
        cases v with
        | none => exact hv.elim
        | some w9 =>
          obtain ⟨r, rfl, hP⟩ := hv
          obtain ⟨v0, e0, l0, u0⟩ := hP _ (List.mem_cons_self)
          have g0 : 1 * r.toInt + 0 = v0 := Option.some.inj e0
          exact ret0 r _ ⟨by rw [g0]; exact l0, by rw [g0]; exact u0⟩ hM2
      · obtain ⟨ks0, rfl, hk1⟩ := hd_keyc hk; obtain rfl := hd_keys hk1
        cases v with
        | none => exact hv.elim
        | some w9 =>
          obtain ⟨r, rfl, hP⟩ := hv
          obtain ⟨v0, e0, l0, u0⟩ := hP _ (List.mem_cons_self)
          have g0 : 1 * r.toInt + 0 = v0 := Option.some.inj e0
          obtain ⟨v1, e1, l1, u1⟩ := hP _ (List.mem_cons_of_mem _ (List.mem_cons_self))
          have g1 : 1 * (σ.2.1 118 41).toInt + ((-1) * (σ'.2.1 118 41).toInt + 0) = v1 := Option.some.inj e1
          obtain ⟨v2, e2, l2, u2⟩ := hP _ (List.mem_cons_of_mem _ (List.mem_cons_of_mem _ (List.mem_cons_self)))
          have g2 : 1 * (σ.2.1 118 41).toInt + 0 = v2 := Option.some.inj e2
          exact ret1 r _ ⟨by rw [g0]; exact l0, by rw [g0]; exact u0⟩ ⟨by rw [g1]; exact l1, by rw [g1]; exact u1⟩ ⟨by rw [g2]; exact l2, by rw [g2]; exact u2⟩ hM2
  · intro u hu
    cases hu
theorem sg_s1_run (G : sx_G0 g L xs z9 hd_C ex_mt) (hct : ∀ (mi : Nat) (T2 : ex_T) (c' : sx_Ct), ex_mt mi = some T2 → c' ∈ k9 mi → c'.1 < 60 → sx_Holds g z9 hd_C T2 c') {σ : am_S} {lw : List (Nat × Value)} {post : Option (Option Value) → am_S → Prop} (hM : sx_M z9 hd_C σ 0 0 σ) (hl : (0, Value.ref 118) ∈ lw)  (cuta : ∀ (lw' : List (Nat × Value)) (m1' : Int32) (σ' : am_S), (0, Value.ref 118) ∈ lw' → (1, Value.int m1') ∈ lw' → (1 ≤ 1 * m1'.toInt + 0 ∧ 1 * m1'.toInt + 0 ≤ 1) → (0 ≤ 1 * (σ'.2.1 118 39).toInt + 0 ∧ 1 * (σ'.2.1 118 39).toInt + 0 ≤ 0) → (0 ≤ 1 * (σ'.2.1 118 41).toInt + 0 ∧ 1 * (σ'.2.1 118 41).toInt + 0 ≤ 0) → (0 ≤ 1 * (σ'.2.1 118 40).toInt + 0 ∧ 1 * (σ'.2.1 118 40).toInt + 0 ≤ 0) → (0 ≤ 1 * (σ'.2.1 118 43).toInt + 0 ∧ 1 * (σ'.2.1 118 43).toInt + 0 ≤ 0) → (0 ≤ 1 * (σ'.2.1 118 2).toInt + 0 ∧ 1 * (σ'.2.1 118 2).toInt + 0 ≤ 0) → sx_M z9 hd_C σ 8452712498170643941637436558664265704301557216577944354047371344426782440907597751590676094202515006314790319892114058862117560952042968596008623655427045667108070150039582462692709172023200530171402583781694754729548105279366850278369630033047209888093126749856511033344 0 σ' → am_K g 30 tX12_sentence.1 0 0 48 lw' [] σ' post) : am_K g 30 tX12_sentence.1 0 0 0 lw [] σ post := by
  refine sg_seg (sw := []) (vs := []) (ws := []) G (mi := 167) rfl hct sg_s1_ok trivial (hd_refs hl) trivial hd_p0 hM ?_ ?_
  · intro r σ' hq
    cases r with
    | none => exact hq.elim
    | some v =>
      obtain ⟨p, hp, hM2, ks, hk, hv⟩ := hq
      cases hp
  · intro u hu
    simp only [List.mem_cons, List.not_mem_nil, or_false] at hu
    rcases hu with rfl
    · intro lw' sw' vs' ws' σ' ⟨h1_0, h2, h3_0, h4, h5⟩
      obtain ⟨m1', vs1, rfl, hm1, h1_1⟩ := hd_srcl h1_0
      obtain ⟨vs2, rfl, h1_2⟩ := hd_srcs h1_1
      obtain ⟨vs3, rfl, h1_3⟩ := hd_srcs h1_2
      obtain ⟨vs4, rfl, h1_4⟩ := hd_srcs h1_3
      obtain ⟨vs5, rfl, h1_5⟩ := hd_srcs h1_4
      obtain ⟨vs6, rfl, h1_6⟩ := hd_srcs h1_5
      obtain rfl := hd_src0 h1_6
      obtain ⟨rfl, rfl⟩ := hd_st0 h3_0
      have hr9 := hd_ref0 h2
      obtain ⟨v0, e0, l0, u0⟩ := h4 _ (List.mem_cons_self)
      have g0 : 1 * m1'.toInt + 0 = v0 := Option.some.inj e0
      obtain ⟨v1, e1, l1, u1⟩ := h4 _ (List.mem_cons_of_mem _ (List.mem_cons_self))
      have g1 : 1 * (σ'.2.1 118 39).toInt + 0 = v1 := Option.some.inj e1
      obtain ⟨v2, e2, l2, u2⟩ := h4 _ (List.mem_cons_of_mem _ (List.mem_cons_of_mem _ (List.mem_cons_self)))
      have g2 : 1 * (σ'.2.1 118 41).toInt + 0 = v2 := Option.some.inj e2
      obtain ⟨v3, e3, l3, u3⟩ := h4 _ (List.mem_cons_of_mem _ (List.mem_cons_of_mem _ (List.mem_cons_of_mem _ (List.mem_cons_self))))
      have g3 : 1 * (σ'.2.1 118 40).toInt + 0 = v3 := Option.some.inj e3
      obtain ⟨v4, e4, l4, u4⟩ := h4 _ (List.mem_cons_of_mem _ (List.mem_cons_of_mem _ (List.mem_cons_of_mem _ (List.mem_cons_of_mem _ (List.mem_cons_self)))))
      have g4 : 1 * (σ'.2.1 118 43).toInt + 0 = v4 := Option.some.inj e4
      obtain ⟨v5, e5, l5, u5⟩ := h4 _ (List.mem_cons_of_mem _ (List.mem_cons_of_mem _ (List.mem_cons_of_mem _ (List.mem_cons_of_mem _ (List.mem_cons_of_mem _ (List.mem_cons_self))))))
      have g5 : 1 * (σ'.2.1 118 2).toInt + 0 = v5 := Option.some.inj e5
      exact cuta _ _ _ hr9 hm1 ⟨by rw [g0]; exact l0, by rw [g0]; exact u0⟩ ⟨by rw [g1]; exact l1, by rw [g1]; exact u1⟩ ⟨by rw [g2]; exact l2, by rw [g2]; exact u2⟩ ⟨by rw [g3]; exact l3, by rw [g3]; exact u3⟩ ⟨by rw [g4]; exact l4, by rw [g4]; exact u4⟩ ⟨by rw [g5]; exact l5, by rw [g5]; exact u5⟩ h5
theorem sg_s2_run (G : sx_G0 g L xs z9 hd_C ex_mt) (hct : ∀ (mi : Nat) (T2 : ex_T) (c' : sx_Ct), ex_mt mi = some T2 → c' ∈ k9 mi → c'.1 < 60 → sx_Holds g z9 hd_C T2 c') {σ : am_S} {lw : List (Nat × Value)} {post : Option (Option Value) → am_S → Prop} (hM : sx_M z9 hd_C σ 0 0 σ) (hl : (0, Value.ref 118) ∈ lw) {m1 : Int32} (hl1 : (1, Value.int m1) ∈ lw) (bl1 : 1 ≤ m1.toInt ∧ m1.toInt ≤ 1) (cuta : ∀ (lw' : List (Nat × Value)) (m1' : Int32) (σ' : am_S), (0, Value.ref 118) ∈ lw' → (1, Value.int m1') ∈ lw' → (1 ≤ 1 * (σ.2.1 118 43).toInt + 0 ∧ 1 * (σ.2.1 118 43).toInt + 0 ≤ 1) → sx_M z9 hd_C σ 0 0 σ' → am_K g 30 tX12_sentence.1 0 0 67 lw' [.ref 118] σ' post) (cutb : ∀ (lw' : List (Nat × Value)) (m1' : Int32) (σ' : am_S), (0, Value.ref 118) ∈ lw' → (1, Value.int m1') ∈ lw' → (1 ≤ 1 * (σ.2.1 118 43).toInt + 0 ∧ 1 * (σ.2.1 118 43).toInt + 0 ≤ 1) → (1 ≤ 1 * m1'.toInt + 0 ∧ 1 * m1'.toInt + 0 ≤ 1) → sx_M z9 hd_C σ 0 0 σ' → am_K g 30 tX12_sentence.1 0 0 109 lw' [.ref 118] σ' post) (cutc : ∀ (lw' : List (Nat × Value)) (m1' : Int32) (σ' : am_S), (0, Value.ref 118) ∈ lw' → (1, Value.int m1') ∈ lw' → (0 ≤ 1 * (σ.2.1 118 43).toInt + 0 ∧ 1 * (σ.2.1 118 43).toInt + 0 ≤ 0) → (1 ≤ 1 * m1'.toInt + 0 ∧ 1 * m1'.toInt + 0 ≤ 1) → sx_M z9 hd_C σ 0 0 σ' → am_K g 30 tX12_sentence.1 0 0 119 lw' [.ref 118] σ' post) : am_K g 30 tX12_sentence.1 0 0 48 lw [] σ post := by
  refine sg_seg (sw := []) (vs := [m1.toInt, (σ.2.1 118 43).toInt]) (ws := []) G (mi := 167) rfl hct sg_s2_ok ⟨⟨m1, hl1, rfl⟩, ⟨rfl, trivial⟩⟩ (hd_refs hl) trivial (hd_p1 rfl bl1.1 bl1.2 (hd_p1 rfl (hd_kd_118_43 hM).1 (hd_kd_118_43 hM).2 hd_p0)) hM ?_ ?_
  · intro r σ' hq
    cases r with
    | none => exact hq.elim
    | some v =>
      obtain ⟨p, hp, hM2, ks, hk, hv⟩ := hq
      cases hp
  · intro u hu
    simp only [List.mem_cons, List.not_mem_nil, or_false] at hu
    rcases hu with rfl | rfl | rfl
    · intro lw' sw' vs' ws' σ' ⟨h1_0, h2, h3_0, h4, h5⟩
      obtain ⟨m1', vs1, rfl, hm1, h1_1⟩ := hd_srcl h1_0
      obtain rfl := hd_src0 h1_1
      obtain ⟨sw1, rfl, h3_1⟩ := hd_str h3_0
      obtain ⟨rfl, rfl⟩ := hd_st0 h3_1
      have hr9 := hd_ref0 h2
      obtain ⟨v0, e0, l0, u0⟩ := h4 _ (List.mem_cons_self)
      have g0 : 1 * (σ.2.1 118 43).toInt + 0 = v0 := Option.some.inj e0
      exact cuta _ _ _ hr9 hm1 ⟨by rw [g0]; exact l0, by rw [g0]; exact u0⟩ h5
    · intro lw' sw' vs' ws' σ' ⟨h1_0, h2, h3_0, h4, h5⟩
      obtain ⟨m1', vs1, rfl, hm1, h1_1⟩ := hd_srcl h1_0
      obtain rfl := hd_src0 h1_1
      obtain ⟨sw1, rfl, h3_1⟩ := hd_str h3_0
      obtain ⟨rfl, rfl⟩ := hd_st0 h3_1
      have hr9 := hd_ref0 h2
      obtain ⟨v0, e0, l0, u0⟩ := h4 _ (List.mem_cons_self)
      have g0 : 1 * (σ.2.1 118 43).toInt + 0 = v0 := Option.some.inj e0
      obtain ⟨v1, e1, l1, u1⟩ := h4 _ (List.mem_cons_of_mem _ (List.mem_cons_self))
      have g1 : 1 * m1'.toInt + 0 = v1 := Option.some.inj e1
      exact cutb _ _ _ hr9 hm1 ⟨by rw [g0]; exact l0, by rw [g0]; exact u0⟩ ⟨by rw [g1]; exact l1, by rw [g1]; exact u1⟩ h5
    · intro lw' sw' vs' ws' σ' ⟨h1_0, h2, h3_0, h4, h5⟩
      obtain ⟨m1', vs1, rfl, hm1, h1_1⟩ := hd_srcl h1_0
      obtain rfl := hd_src0 h1_1
      obtain ⟨sw1, rfl, h3_1⟩ := hd_str h3_0
      obtain ⟨rfl, rfl⟩ := hd_st0 h3_1
      have hr9 := hd_ref0 h2
      obtain ⟨v0, e0, l0, u0⟩ := h4 _ (List.mem_cons_self)
      have g0 : 1 * (σ.2.1 118 43).toInt + 0 = v0 := Option.some.inj e0
      obtain ⟨v1, e1, l1, u1⟩ := h4 _ (List.mem_cons_of_mem _ (List.mem_cons_self))
      have g1 : 1 * m1'.toInt + 0 = v1 := Option.some.inj e1
      exact cutc _ _ _ hr9 hm1 ⟨by rw [g0]; exact l0, by rw [g0]; exact u0⟩ ⟨by rw [g1]; exact l1, by rw [g1]; exact u1⟩ h5
theorem sg_s3_run (G : sx_G0 g L xs z9 hd_C ex_mt) (hct : ∀ (mi : Nat) (T2 : ex_T) (c' : sx_Ct), ex_mt mi = some T2 → c' ∈ k9 mi → c'.1 < 60 → sx_Holds g z9 hd_C T2 c') {σ : am_S} {lw : List (Nat × Value)} {post : Option (Option Value) → am_S → Prop} (hM : sx_M z9 hd_C σ 0 0 σ) (hl : (0, Value.ref 118) ∈ lw) {m1 : Int32} (hl1 : (1, Value.int m1) ∈ lw) (cuta : ∀ (lw' : List (Nat × Value)) (n0' : Int32) (σ' : am_S), (0, Value.ref 118) ∈ lw' → (22 ≤ 1 * n0'.toInt + 0 ∧ 1 * n0'.toInt + 0 ≤ 22) → sx_M z9 hd_C σ 0 0 σ' → am_K g 30 tX12_sentence.1 0 0 73 lw' [.int n0', .ref 118] σ' post) : am_K g 30 tX12_sentence.1 0 0 70 lw [] σ post := by
  refine sg_seg (sw := []) (vs := [m1.toInt]) (ws := []) G (mi := 167) rfl hct sg_s3_ok ⟨⟨m1, hl1, rfl⟩, trivial⟩ (hd_refs hl) trivial (hd_p1 rfl (Int32.le_toInt _) (Int32.toInt_le _) hd_p0) hM ?_ ?_
  · intro r σ' hq
    cases r with
    | none => exact hq.elim
    | some v =>
      obtain ⟨p, hp, hM2, ks, hk, hv⟩ := hq
      cases hp
  · intro u hu
    simp only [List.mem_cons, List.not_mem_nil, or_false] at hu
    rcases hu with rfl
    · intro lw' sw' vs' ws' σ' ⟨h1_0, h2, h3_0, h4, h5⟩
      obtain rfl := hd_src0 h1_0
      obtain ⟨n0', sw1, ws1, rfl, rfl, h3_1⟩ := hd_sti h3_0
      obtain ⟨sw2, rfl, h3_2⟩ := hd_str h3_1
      obtain ⟨rfl, rfl⟩ := hd_st0 h3_2
      have hr9 := hd_ref0 h2
      obtain ⟨v0, e0, l0, u0⟩ := h4 _ (List.mem_cons_self)
      have g0 : 1 * n0'.toInt + 0 = v0 := Option.some.inj e0
      exact cuta _ _ _ hr9  ⟨by rw [g0]; exact l0, by rw [g0]; exact u0⟩ h5
theorem sg_s4_run (G : sx_G0 g L xs z9 hd_C ex_mt) (hct : ∀ (mi : Nat) (T2 : ex_T) (c' : sx_Ct), ex_mt mi = some T2 → c' ∈ k9 mi → c'.1 < 60 → sx_Holds g z9 hd_C T2 c') {σ : am_S} {lw : List (Nat × Value)} {post : Option (Option Value) → am_S → Prop} (hM : sx_M z9 hd_C σ 0 0 σ) (hl : (0, Value.ref 118) ∈ lw)  (ret0 : ∀ (r : Int32) (σ' : am_S), sx_M z9 hd_C σ 28858891257124862704305937573347373392392387160985434571251191458187784500608308553281933292152037822856416985088 0 σ' → post (some (some (.int r))) σ') (cuta : ∀ (lw' : List (Nat × Value)) (n0' : Int32) (n1' : Int32) (σ' : am_S), (0, Value.ref 118) ∈ lw' → (0 ≤ 1 * (σ.2.1 118 41).toInt + 0 ∧ 1 * (σ.2.1 118 41).toInt + 0 ≤ 0) → (0 ≤ 1 * (σ.2.1 118 39).toInt + ((-1) * n0'.toInt + 0) ∧ 1 * (σ.2.1 118 39).toInt + ((-1) * n0'.toInt + 0) ≤ 0) → (96 ≤ 1 * n1'.toInt + 0 ∧ 1 * n1'.toInt + 0 ≤ 96) → (0 ≤ 1 * (σ.2.1 118 41).toInt + ((-1) * (σ'.2.1 118 41).toInt + 0) ∧ 1 * (σ.2.1 118 41).toInt + ((-1) * (σ'.2.1 118 41).toInt + 0) ≤ 0) → (0 ≤ 1 * (σ.2.1 118 39).toInt + ((-1) * (σ'.2.1 118 39).toInt + 0) ∧ 1 * (σ.2.1 118 39).toInt + ((-1) * (σ'.2.1 118 39).toInt + 0) ≤ 0) → sx_M z9 hd_C σ 0 0 σ' → am_K g 30 tX12_sentence.1 0 0 142 lw' [.int n0', .int n1', .ref 120] σ' post) : am_K g 30 tX12_sentence.1 0 0 76 lw [] σ post := by
  refine sg_seg (sw := []) (vs := [(σ.2.1 118 41).toInt, (σ.2.1 118 39).toInt]) (ws := []) G (mi := 167) rfl hct sg_s4_ok ⟨rfl, ⟨rfl, trivial⟩⟩ (hd_refs hl) trivial (hd_p1 rfl (hd_kd_118_41 hM).1 (hd_kd_118_41 hM).2 (hd_p1 rfl (hd_kd_118_39 hM).1 (hd_kd_118_39 hM).2 hd_p0)) hM ?_ ?_
  · intro r σ' hq
    cases r with
    | none => exact hq.elim
    | some v =>
      obtain ⟨p, hp, hM2, ks, hk, hv⟩ := hq
      simp only [List.mem_cons, List.not_mem_nil, or_false] at hp
      rcases hp with rfl
      · obtain rfl := hd_keys hk
        cases v with
        | none => exact hv.elim
        | some w9 =>
          obtain ⟨r, rfl, hP⟩ := hv
          exact ret0 r _  hM2
  · intro u hu
    simp only [List.mem_cons, List.not_mem_nil, or_false] at hu
    rcases hu with rfl
    · intro lw' sw' vs' ws' σ' ⟨h1_0, h2, h3_0, h4, h5⟩
      obtain ⟨vs1, rfl, h1_1⟩ := hd_srcs h1_0
      obtain ⟨vs2, rfl, h1_2⟩ := hd_srcs h1_1
      obtain rfl := hd_src0 h1_2
      obtain ⟨n0', sw1, ws1, rfl, rfl, h3_1⟩ := hd_sti h3_0
      obtain ⟨n1', sw2, ws2, rfl, rfl, h3_2⟩ := hd_sti h3_1
      obtain ⟨sw3, rfl, h3_3⟩ := hd_str h3_2
      obtain ⟨rfl, rfl⟩ := hd_st0 h3_3
      have hr9 := hd_ref0 h2
      obtain ⟨v0, e0, l0, u0⟩ := h4 _ (List.mem_cons_self)
      have g0 : 1 * (σ.2.1 118 41).toInt + 0 = v0 := Option.some.inj e0
      obtain ⟨v1, e1, l1, u1⟩ := h4 _ (List.mem_cons_of_mem _ (List.mem_cons_self))
      have g1 : 1 * (σ.2.1 118 39).toInt + ((-1) * n0'.toInt + 0) = v1 := Option.some.inj e1
      obtain ⟨v2, e2, l2, u2⟩ := h4 _ (List.mem_cons_of_mem _ (List.mem_cons_of_mem _ (List.mem_cons_self)))
      have g2 : 1 * n1'.toInt + 0 = v2 := Option.some.inj e2
      obtain ⟨v3, e3, l3, u3⟩ := h4 _ (List.mem_cons_of_mem _ (List.mem_cons_of_mem _ (List.mem_cons_of_mem _ (List.mem_cons_self))))
      have g3 : 1 * (σ.2.1 118 41).toInt + ((-1) * (σ'.2.1 118 41).toInt + 0) = v3 := Option.some.inj e3
      obtain ⟨v4, e4, l4, u4⟩ := h4 _ (List.mem_cons_of_mem _ (List.mem_cons_of_mem _ (List.mem_cons_of_mem _ (List.mem_cons_of_mem _ (List.mem_cons_self)))))
      have g4 : 1 * (σ.2.1 118 39).toInt + ((-1) * (σ'.2.1 118 39).toInt + 0) = v4 := Option.some.inj e4
      exact cuta _ _ _ _ hr9  ⟨by rw [g0]; exact l0, by rw [g0]; exact u0⟩ ⟨by rw [g1]; exact l1, by rw [g1]; exact u1⟩ ⟨by rw [g2]; exact l2, by rw [g2]; exact u2⟩ ⟨by rw [g3]; exact l3, by rw [g3]; exact u3⟩ ⟨by rw [g4]; exact l4, by rw [g4]; exact u4⟩ h5
theorem sg_s5_run (G : sx_G0 g L xs z9 hd_C ex_mt) (hct : ∀ (mi : Nat) (T2 : ex_T) (c' : sx_Ct), ex_mt mi = some T2 → c' ∈ k9 mi → c'.1 < 60 → sx_Holds g z9 hd_C T2 c') {σ : am_S} {lw : List (Nat × Value)} {post : Option (Option Value) → am_S → Prop} (hM : sx_M z9 hd_C σ 0 0 σ) (hl : (0, Value.ref 118) ∈ lw) {m1 : Int32} (hl1 : (1, Value.int m1) ∈ lw) (bl1 : 1 ≤ m1.toInt ∧ m1.toInt ≤ 1) {n0 : Int32} (bk0 : 0 ≤ n0.toInt ∧ n0.toInt ≤ 1) (ret0 : ∀ (r : Int32) (σ' : am_S), sx_M z9 hd_C σ 0 0 σ' → post (some (some (.int r))) σ') (cuta : ∀ (lw' : List (Nat × Value)) (m1' : Int32) (σ' : am_S), (0, Value.ref 118) ∈ lw' → (1, Value.int m1') ∈ lw' → (1 ≤ 1 * m1'.toInt + 0 ∧ 1 * m1'.toInt + 0 ≤ 1) → (1 ≤ 1 * n0.toInt + 0 ∧ 1 * n0.toInt + 0 ≤ 1) → sx_M z9 hd_C σ 0 0 σ' → am_K g 30 tX12_sentence.1 0 0 48 lw' [] σ' post) : am_K g 30 tX12_sentence.1 0 0 112 lw [.int n0] σ post := by
  refine sg_seg (sw := [.int n0]) (vs := [m1.toInt]) (ws := [n0.toInt]) G (mi := 167) rfl hct sg_s5_ok ⟨⟨m1, hl1, rfl⟩, trivial⟩ (hd_refs hl) ⟨⟨n0, rfl, rfl⟩, trivial⟩ (hd_p1 rfl bl1.1 bl1.2 (hd_p1 rfl bk0.1 bk0.2 hd_p0)) hM ?_ ?_
  · intro r σ' hq
    cases r with
    | none => exact hq.elim
    | some v =>
      obtain ⟨p, hp, hM2, ks, hk, hv⟩ := hq
      simp only [List.mem_cons, List.not_mem_nil, or_false] at hp
      rcases hp with rfl
      · obtain rfl := hd_keys hk
        cases v with
        | none => exact hv.elim
        | some w9 =>
          obtain ⟨r, rfl, hP⟩ := hv
          exact ret0 r _  hM2
  · intro u hu
    simp only [List.mem_cons, List.not_mem_nil, or_false] at hu
    rcases hu with rfl
    · intro lw' sw' vs' ws' σ' ⟨h1_0, h2, h3_0, h4, h5⟩
      obtain ⟨m1', vs1, rfl, hm1, h1_1⟩ := hd_srcl h1_0
      obtain rfl := hd_src0 h1_1
      obtain ⟨rfl, rfl⟩ := hd_st0 h3_0
      have hr9 := hd_ref0 h2
      obtain ⟨v0, e0, l0, u0⟩ := h4 _ (List.mem_cons_self)
      have g0 : 1 * m1'.toInt + 0 = v0 := Option.some.inj e0
      obtain ⟨v1, e1, l1, u1⟩ := h4 _ (List.mem_cons_of_mem _ (List.mem_cons_self))
      have g1 : 1 * n0.toInt + 0 = v1 := Option.some.inj e1
      exact cuta _ _ _ hr9 hm1 ⟨by rw [g0]; exact l0, by rw [g0]; exact u0⟩ ⟨by rw [g1]; exact l1, by rw [g1]; exact u1⟩ h5
theorem sg_s6_run (G : sx_G0 g L xs z9 hd_C ex_mt) (hct : ∀ (mi : Nat) (T2 : ex_T) (c' : sx_Ct), ex_mt mi = some T2 → c' ∈ k9 mi → c'.1 < 60 → sx_Holds g z9 hd_C T2 c') {σ : am_S} {lw : List (Nat × Value)} {post : Option (Option Value) → am_S → Prop} (hM : sx_M z9 hd_C σ 0 0 σ) (hl : (0, Value.ref 118) ∈ lw) {m1 : Int32} (hl1 : (1, Value.int m1) ∈ lw) (bl1 : 1 ≤ m1.toInt ∧ m1.toInt ≤ 1) {n0 : Int32} (bk0 : 0 ≤ n0.toInt ∧ n0.toInt ≤ 1) (ret0 : ∀ (r : Int32) (σ' : am_S), sx_M z9 hd_C σ 0 0 σ' → post (some (some (.int r))) σ') (cuta : ∀ (lw' : List (Nat × Value)) (m1' : Int32) (σ' : am_S), (0, Value.ref 118) ∈ lw' → (1, Value.int m1') ∈ lw' → (1 ≤ 1 * m1'.toInt + 0 ∧ 1 * m1'.toInt + 0 ≤ 1) → (1 ≤ 1 * n0.toInt + 0 ∧ 1 * n0.toInt + 0 ≤ 1) → sx_M z9 hd_C σ 0 0 σ' → am_K g 30 tX12_sentence.1 0 0 48 lw' [] σ' post) : am_K g 30 tX12_sentence.1 0 0 122 lw [.int n0] σ post := by
  refine sg_seg (sw := [.int n0]) (vs := [m1.toInt]) (ws := [n0.toInt]) G (mi := 167) rfl hct sg_s6_ok ⟨⟨m1, hl1, rfl⟩, trivial⟩ (hd_refs hl) ⟨⟨n0, rfl, rfl⟩, trivial⟩ (hd_p1 rfl bl1.1 bl1.2 (hd_p1 rfl bk0.1 bk0.2 hd_p0)) hM ?_ ?_
  · intro r σ' hq
    cases r with
    | none => exact hq.elim
    | some v =>
      obtain ⟨p, hp, hM2, ks, hk, hv⟩ := hq
      simp only [List.mem_cons, List.not_mem_nil, or_false] at hp
      rcases hp with rfl
      · obtain rfl := hd_keys hk
        cases v with
        | none => exact hv.elim
        | some w9 =>
          obtain ⟨r, rfl, hP⟩ := hv
          exact ret0 r _  hM2
  · intro u hu
    simp only [List.mem_cons, List.not_mem_nil, or_false] at hu
    rcases hu with rfl
    · intro lw' sw' vs' ws' σ' ⟨h1_0, h2, h3_0, h4, h5⟩
      obtain ⟨m1', vs1, rfl, hm1, h1_1⟩ := hd_srcl h1_0
      obtain rfl := hd_src0 h1_1
      obtain ⟨rfl, rfl⟩ := hd_st0 h3_0
      have hr9 := hd_ref0 h2
      obtain ⟨v0, e0, l0, u0⟩ := h4 _ (List.mem_cons_self)
      have g0 : 1 * m1'.toInt + 0 = v0 := Option.some.inj e0
      obtain ⟨v1, e1, l1, u1⟩ := h4 _ (List.mem_cons_of_mem _ (List.mem_cons_self))
      have g1 : 1 * n0.toInt + 0 = v1 := Option.some.inj e1
      exact cuta _ _ _ hr9 hm1 ⟨by rw [g0]; exact l0, by rw [g0]; exact u0⟩ ⟨by rw [g1]; exact l1, by rw [g1]; exact u1⟩ h5
theorem sg_s7_run (G : sx_G0 g L xs zK hd_T ex_mt) (hct : ∀ (mi : Nat) (T2 : ex_T) (c' : sx_Ct), ex_mt mi = some T2 → c' ∈ k9 mi → c'.1 < 0 → sx_Holds g zK hd_T T2 c') {σ : am_S} {lw : List (Nat × Value)} {post : Option (Option Value) → am_S → Prop} (hM : sx_M zK hd_T σ 0 0 σ) (hl : (0, Value.ref 118) ∈ lw)  (cuta : ∀ (lw' : List (Nat × Value)) (m2' : Int32) (σ' : am_S), (0, Value.ref 118) ∈ lw' → (2, Value.int m2') ∈ lw' → (0 ≤ 1 * m2'.toInt + 0 ∧ 1 * m2'.toInt + 0 ≤ 0) → sx_M zK hd_T σ 0 0 σ' → am_K g 30 tX12_sentence.1 0 0 145 lw' [] σ' post) : am_K g 30 tX12_sentence.1 0 0 143 lw [] σ post := by
  refine sg_seg (sw := []) (vs := []) (ws := []) G (mi := 167) rfl hct sg_s7_ok trivial (hd_refs hl) trivial hd_p0 hM ?_ ?_
  · intro r σ' hq
    cases r with
    | none => exact hq.elim
    | some v =>
      obtain ⟨p, hp, hM2, ks, hk, hv⟩ := hq
      cases hp
  · intro u hu
    simp only [List.mem_cons, List.not_mem_nil, or_false] at hu
    rcases hu with rfl
    · intro lw' sw' vs' ws' σ' ⟨h1_0, h2, h3_0, h4, h5⟩
      obtain ⟨m2', vs1, rfl, hm2, h1_1⟩ := hd_srcl h1_0
      obtain rfl := hd_src0 h1_1
      obtain ⟨rfl, rfl⟩ := hd_st0 h3_0
      have hr9 := hd_ref0 h2
      obtain ⟨v0, e0, l0, u0⟩ := h4 _ (List.mem_cons_self)
      have g0 : 1 * m2'.toInt + 0 = v0 := Option.some.inj e0
      exact cuta _ _ _ hr9 hm2 ⟨by rw [g0]; exact l0, by rw [g0]; exact u0⟩ h5
theorem sg_s8_run (G : sx_G0 g L xs zK hd_T ex_mt) (hct : ∀ (mi : Nat) (T2 : ex_T) (c' : sx_Ct), ex_mt mi = some T2 → c' ∈ k9 mi → c'.1 < 0 → sx_Holds g zK hd_T T2 c') {σ : am_S} {lw : List (Nat × Value)} {post : Option (Option Value) → am_S → Prop} (hM : sx_M zK hd_T σ 0 0 σ) (hl : (0, Value.ref 118) ∈ lw) {m2 : Int32} (hl2 : (2, Value.int m2) ∈ lw) (bl2 : 0 ≤ m2.toInt ∧ m2.toInt ≤ 120) (ret0 : ∀ (r : Int32) (σ' : am_S), (0 ≤ 1 * m2.toInt + ((-3) * (σ.2.1 118 39).toInt + 0) ∧ 1 * m2.toInt + ((-3) * (σ.2.1 118 39).toInt + 0) ≤ 4611686018427387904) → sx_M zK hd_T σ 0 0 σ' → post (some (some (.int r))) σ') (cuta : ∀ (lw' : List (Nat × Value)) (m2' : Int32) (n0' : Int32) (n1' : Int32) (σ' : am_S), (0, Value.ref 118) ∈ lw' → (2, Value.int m2') ∈ lw' → (0 ≤ 1 * m2.toInt + ((-1) * n0'.toInt + 0) ∧ 1 * m2.toInt + ((-1) * n0'.toInt + 0) ≤ 0) → ((-97) ≤ 1 * m2.toInt + ((-1) * n1'.toInt + 0) ∧ 1 * m2.toInt + ((-1) * n1'.toInt + 0) ≤ (-97)) → ((-4611686018427387904) ≤ 1 * m2.toInt + ((-3) * (σ.2.1 118 39).toInt + 0) ∧ 1 * m2.toInt + ((-3) * (σ.2.1 118 39).toInt + 0) ≤ (-1)) → (0 ≤ 1 * m2.toInt + ((-1) * m2'.toInt + 0) ∧ 1 * m2.toInt + ((-1) * m2'.toInt + 0) ≤ 0) → (0 ≤ 1 * (σ.2.1 118 39).toInt + ((-1) * (σ'.2.1 118 39).toInt + 0) ∧ 1 * (σ.2.1 118 39).toInt + ((-1) * (σ'.2.1 118 39).toInt + 0) ≤ 0) → sx_M zK hd_T σ 0 0 σ' → am_K g 30 tX12_sentence.1 0 0 168 lw' [.int n0', .ref 122, .int n1', .ref 120] σ' post) : am_K g 30 tX12_sentence.1 0 0 145 lw [] σ post := by
  refine sg_seg (sw := []) (vs := [m2.toInt, (σ.2.1 118 39).toInt]) (ws := []) G (mi := 167) rfl hct sg_s8_ok ⟨⟨m2, hl2, rfl⟩, ⟨rfl, trivial⟩⟩ (hd_refs hl) trivial (hd_p1 rfl bl2.1 bl2.2 (hd_p1 rfl (hd_kd_118_39 hM).1 (hd_kd_118_39 hM).2 hd_p0)) hM ?_ ?_
  · intro r σ' hq
    cases r with
    | none => exact hq.elim
    | some v =>
      obtain ⟨p, hp, hM2, ks, hk, hv⟩ := hq
      simp only [List.mem_cons, List.not_mem_nil, or_false] at hp
      rcases hp with rfl
      · obtain rfl := hd_keys hk
        cases v with
        | none => exact hv.elim
        | some w9 =>
          obtain ⟨r, rfl, hP⟩ := hv
          obtain ⟨v0, e0, l0, u0⟩ := hP _ (List.mem_cons_self)
          have g0 : 1 * m2.toInt + ((-3) * (σ.2.1 118 39).toInt + 0) = v0 := Option.some.inj e0
          exact ret0 r _ ⟨by rw [g0]; exact l0, by rw [g0]; exact u0⟩ hM2
  · intro u hu
    simp only [List.mem_cons, List.not_mem_nil, or_false] at hu
    rcases hu with rfl
    · intro lw' sw' vs' ws' σ' ⟨h1_0, h2, h3_0, h4, h5⟩
      obtain ⟨m2', vs1, rfl, hm2, h1_1⟩ := hd_srcl h1_0
      obtain ⟨vs2, rfl, h1_2⟩ := hd_srcs h1_1
      obtain rfl := hd_src0 h1_2
      obtain ⟨n0', sw1, ws1, rfl, rfl, h3_1⟩ := hd_sti h3_0
      obtain ⟨sw2, rfl, h3_2⟩ := hd_str h3_1
      obtain ⟨n1', sw3, ws3, rfl, rfl, h3_3⟩ := hd_sti h3_2
      obtain ⟨sw4, rfl, h3_4⟩ := hd_str h3_3
      obtain ⟨rfl, rfl⟩ := hd_st0 h3_4
      have hr9 := hd_ref0 h2
      obtain ⟨v0, e0, l0, u0⟩ := h4 _ (List.mem_cons_self)
      have g0 : 1 * m2.toInt + ((-1) * n0'.toInt + 0) = v0 := Option.some.inj e0
      obtain ⟨v1, e1, l1, u1⟩ := h4 _ (List.mem_cons_of_mem _ (List.mem_cons_self))
      have g1 : 1 * m2.toInt + ((-1) * n1'.toInt + 0) = v1 := Option.some.inj e1
      obtain ⟨v2, e2, l2, u2⟩ := h4 _ (List.mem_cons_of_mem _ (List.mem_cons_of_mem _ (List.mem_cons_self)))
      have g2 : 1 * m2.toInt + ((-3) * (σ.2.1 118 39).toInt + 0) = v2 := Option.some.inj e2
      obtain ⟨v3, e3, l3, u3⟩ := h4 _ (List.mem_cons_of_mem _ (List.mem_cons_of_mem _ (List.mem_cons_of_mem _ (List.mem_cons_self))))
      have g3 : 1 * m2.toInt + ((-1) * m2'.toInt + 0) = v3 := Option.some.inj e3
      obtain ⟨v4, e4, l4, u4⟩ := h4 _ (List.mem_cons_of_mem _ (List.mem_cons_of_mem _ (List.mem_cons_of_mem _ (List.mem_cons_of_mem _ (List.mem_cons_self)))))
      have g4 : 1 * (σ.2.1 118 39).toInt + ((-1) * (σ'.2.1 118 39).toInt + 0) = v4 := Option.some.inj e4
      exact cuta _ _ _ _ _ hr9 hm2 ⟨by rw [g0]; exact l0, by rw [g0]; exact u0⟩ ⟨by rw [g1]; exact l1, by rw [g1]; exact u1⟩ ⟨by rw [g2]; exact l2, by rw [g2]; exact u2⟩ ⟨by rw [g3]; exact l3, by rw [g3]; exact u3⟩ ⟨by rw [g4]; exact l4, by rw [g4]; exact u4⟩ h5
theorem sg_s9_run (G : sx_G0 g L xs zK hd_T ex_mt) (hct : ∀ (mi : Nat) (T2 : ex_T) (c' : sx_Ct), ex_mt mi = some T2 → c' ∈ k9 mi → c'.1 < 0 → sx_Holds g zK hd_T T2 c') {σ : am_S} {lw : List (Nat × Value)} {post : Option (Option Value) → am_S → Prop} (hM : sx_M zK hd_T σ 0 0 σ) (hl : (0, Value.ref 118) ∈ lw) {m2 : Int32} (hl2 : (2, Value.int m2) ∈ lw) (bl2 : 0 ≤ m2.toInt ∧ m2.toInt ≤ 119) (cuta : ∀ (lw' : List (Nat × Value)) (m2' : Int32) (σ' : am_S), (0, Value.ref 118) ∈ lw' → (2, Value.int m2') ∈ lw' → ((-1) ≤ 1 * m2.toInt + ((-1) * m2'.toInt + 0) ∧ 1 * m2.toInt + ((-1) * m2'.toInt + 0) ≤ (-1)) → sx_M zK hd_T σ 0 0 σ' → am_K g 30 tX12_sentence.1 0 0 145 lw' [] σ' post) : am_K g 30 tX12_sentence.1 0 0 170 lw [] σ post := by
  refine sg_seg (sw := []) (vs := [m2.toInt]) (ws := []) G (mi := 167) rfl hct sg_s9_ok ⟨⟨m2, hl2, rfl⟩, trivial⟩ (hd_refs hl) trivial (hd_p1 rfl bl2.1 bl2.2 hd_p0) hM ?_ ?_
  · intro r σ' hq
    cases r with
    | none => exact hq.elim
    | some v =>
      obtain ⟨p, hp, hM2, ks, hk, hv⟩ := hq
      cases hp
  · intro u hu
    simp only [List.mem_cons, List.not_mem_nil, or_false] at hu
    rcases hu with rfl
    · intro lw' sw' vs' ws' σ' ⟨h1_0, h2, h3_0, h4, h5⟩
      obtain ⟨m2', vs1, rfl, hm2, h1_1⟩ := hd_srcl h1_0
      obtain rfl := hd_src0 h1_1
      obtain ⟨rfl, rfl⟩ := hd_st0 h3_0
      have hr9 := hd_ref0 h2
      obtain ⟨v0, e0, l0, u0⟩ := h4 _ (List.mem_cons_self)
      have g0 : 1 * m2.toInt + ((-1) * m2'.toInt + 0) = v0 := Option.some.inj e0
      exact cuta _ _ _ hr9 hm2 ⟨by rw [g0]; exact l0, by rw [g0]; exact u0⟩ h5
theorem sg_qe_run (G : sx_G0 g L xs z9 hd_C ex_mt) (hct : ∀ (mi : Nat) (T2 : ex_T) (c' : sx_Ct), ex_mt mi = some T2 → c' ∈ k9 mi → c'.1 < 50 → sx_Holds g z9 hd_C T2 c') {σ : am_S} {lw : List (Nat × Value)} {post : Option (Option Value) → am_S → Prop} (hM : sx_M z9 hd_C σ 0 0 σ) (hl : (0, Value.ref 118) ∈ lw) {m1 : Int32} (hl1 : (1, Value.int m1) ∈ lw) (bl1 : 0 ≤ m1.toInt ∧ m1.toInt ≤ 9) (cutu : ∀ (lw' : List (Nat × Value)) (m1' : Int32) (m2' : Int32) (m3' : Int32) (σ' : am_S), (0, Value.ref 118) ∈ lw' → (1, Value.int m1') ∈ lw' → (2, Value.int m2') ∈ lw' → (3, Value.int m3') ∈ lw' → (0 ≤ 1 * m1.toInt + ((-1) * m1'.toInt + 0) ∧ 1 * m1.toInt + ((-1) * m1'.toInt + 0) ≤ 0) → (0 ≤ 1 * m2'.toInt + 0 ∧ 1 * m2'.toInt + 0 ≤ 0) → (0 ≤ 1 * m3'.toInt + 0 ∧ 1 * m3'.toInt + 0 ≤ 0) → sx_M z9 hd_C σ 0 0 σ' → am_K g 12 tX12_isSaid.1 0 0 4 lw' [] σ' post) : am_K g 12 tX12_isSaid.1 0 0 0 lw [] σ post := by
  refine sg_seg (sw := []) (vs := [m1.toInt]) (ws := []) G (mi := 121) rfl hct sg_qe_ok ⟨⟨m1, hl1, rfl⟩, trivial⟩ (hd_refs hl) trivial (hd_p1 rfl bl1.1 bl1.2 hd_p0) hM ?_ ?_
  · intro r σ' hq
    cases r with
    | none => exact hq.elim
    | some v =>
      obtain ⟨p, hp, hM2, ks, hk, hv⟩ := hq
      cases hp
  · intro u hu
    simp only [List.mem_cons, List.not_mem_nil, or_false] at hu
    rcases hu with rfl
    · intro lw' sw' vs' ws' σ' ⟨h1_0, h2, h3_0, h4, h5⟩
      obtain ⟨m1', vs1, rfl, hm1, h1_1⟩ := hd_srcl h1_0
      obtain ⟨m2', vs2, rfl, hm2, h1_2⟩ := hd_srcl h1_1
      obtain ⟨m3', vs3, rfl, hm3, h1_3⟩ := hd_srcl h1_2
      obtain rfl := hd_src0 h1_3
      obtain ⟨rfl, rfl⟩ := hd_st0 h3_0
      have hr9 := hd_ref0 h2
      obtain ⟨v0, e0, l0, u0⟩ := h4 _ (List.mem_cons_self)
      have g0 : 1 * m1.toInt + ((-1) * m1'.toInt + 0) = v0 := Option.some.inj e0
      obtain ⟨v1, e1, l1, u1⟩ := h4 _ (List.mem_cons_of_mem _ (List.mem_cons_self))
      have g1 : 1 * m2'.toInt + 0 = v1 := Option.some.inj e1
      obtain ⟨v2, e2, l2, u2⟩ := h4 _ (List.mem_cons_of_mem _ (List.mem_cons_of_mem _ (List.mem_cons_self)))
      have g2 : 1 * m3'.toInt + 0 = v2 := Option.some.inj e2
      exact cutu _ _ _ _ _ hr9 hm1 hm2 hm3 ⟨by rw [g0]; exact l0, by rw [g0]; exact u0⟩ ⟨by rw [g1]; exact l1, by rw [g1]; exact u1⟩ ⟨by rw [g2]; exact l2, by rw [g2]; exact u2⟩ h5
theorem sg_qx_run (G : sx_G0 g L xs z9 hd_C ex_mt) (hct : ∀ (mi : Nat) (T2 : ex_T) (c' : sx_Ct), ex_mt mi = some T2 → c' ∈ k9 mi → c'.1 < 50 → sx_Holds g z9 hd_C T2 c') {σ : am_S} {lw : List (Nat × Value)} {post : Option (Option Value) → am_S → Prop} (hM : sx_M z9 hd_C σ 0 0 σ) (hl : (0, Value.ref 118) ∈ lw) {m1 : Int32} (hl1 : (1, Value.int m1) ∈ lw) {m2 : Int32} (hl2 : (2, Value.int m2) ∈ lw) {m3 : Int32} (hl3 : (3, Value.int m3) ∈ lw) (bl3 : 0 ≤ m3.toInt ∧ m3.toInt ≤ 40) (bf0 : 0 ≤ 1 * m3.toInt + ((-1) * (σ.2.1 120 96).toInt + 0) ∧ 1 * m3.toInt + ((-1) * (σ.2.1 120 96).toInt + 0) ≤ 2147483647) (ret0 : ∀ (r : Int32) (σ' : am_S), (0 ≤ 1 * r.toInt + 0 ∧ 1 * r.toInt + 0 ≤ 1) → sx_M z9 hd_C σ 0 0 σ' → post (some (some (.int r))) σ') : am_K g 12 tX12_isSaid.1 0 0 4 lw [] σ post := by
  refine sg_seg (sw := []) (vs := [m1.toInt, m2.toInt, m3.toInt, (σ.2.1 120 96).toInt]) (ws := []) G (mi := 121) rfl hct sg_qx_ok ⟨⟨m1, hl1, rfl⟩, ⟨⟨m2, hl2, rfl⟩, ⟨⟨m3, hl3, rfl⟩, ⟨rfl, trivial⟩⟩⟩⟩ (hd_refs hl) trivial (hd_p1 rfl (Int32.le_toInt _) (Int32.toInt_le _) (hd_p1 rfl (Int32.le_toInt _) (Int32.toInt_le _) (hd_p1 rfl bl3.1 bl3.2 (hd_p1 rfl (hd_kd_120_96 hM).1 (hd_kd_120_96 hM).2 (hd_pf rfl bf0.1 bf0.2 hd_p0))))) hM ?_ ?_
  · intro r σ' hq
    cases r with
    | none => exact hq.elim
    | some v =>
      obtain ⟨p, hp, hM2, ks, hk, hv⟩ := hq
      simp only [List.mem_cons, List.not_mem_nil, or_false] at hp
      rcases hp with rfl
      · obtain rfl := hd_keys hk
        cases v with
        | none => exact hv.elim
        | some w9 =>
          obtain ⟨r, rfl, hP⟩ := hv
          obtain ⟨v0, e0, l0, u0⟩ := hP _ (List.mem_cons_self)
          have g0 : 1 * r.toInt + 0 = v0 := Option.some.inj e0
          exact ret0 r _ ⟨by rw [g0]; exact l0, by rw [g0]; exact u0⟩ hM2
  · intro u hu
    cases hu
theorem sg_ql_run (G : sx_G0 g L xs z9 hd_C ex_mt) (hct : ∀ (mi : Nat) (T2 : ex_T) (c' : sx_Ct), ex_mt mi = some T2 → c' ∈ k9 mi → c'.1 < 50 → sx_Holds g z9 hd_C T2 c') {σ : am_S} {lw : List (Nat × Value)} {post : Option (Option Value) → am_S → Prop} (hM : sx_M z9 hd_C σ 0 0 σ) (hl : (0, Value.ref 118) ∈ lw) {m1 : Int32} (hl1 : (1, Value.int m1) ∈ lw) (bl1 : 0 ≤ m1.toInt ∧ m1.toInt ≤ 9) {m2 : Int32} (hl2 : (2, Value.int m2) ∈ lw) (bl2 : 0 ≤ m2.toInt ∧ m2.toInt ≤ 39) {m3 : Int32} (hl3 : (3, Value.int m3) ∈ lw) (bl3 : 0 ≤ m3.toInt ∧ m3.toInt ≤ 39) {n0 : Int32} {n1 : Int32} {n2 : Int32} {n3 : Int32} (bk3 : 0 ≤ n3.toInt ∧ n3.toInt ≤ 9) {n4 : Int32} (bk4 : 0 ≤ n4.toInt ∧ n4.toInt ≤ 39) (cutu : ∀ (lw' : List (Nat × Value)) (m1' : Int32) (m2' : Int32) (m3' : Int32) (σ' : am_S), (0, Value.ref 118) ∈ lw' → (1, Value.int m1') ∈ lw' → (2, Value.int m2') ∈ lw' → (3, Value.int m3') ∈ lw' → (0 ≤ 1 * m1.toInt + ((-1) * m1'.toInt + 0) ∧ 1 * m1.toInt + ((-1) * m1'.toInt + 0) ≤ 0) → ((-1) ≤ 1 * m2.toInt + ((-1) * m2'.toInt + 0) ∧ 1 * m2.toInt + ((-1) * m2'.toInt + 0) ≤ (-1)) → ((-1) ≤ 1 * m3.toInt + ((-1) * m3'.toInt + 0) ∧ 1 * m3.toInt + ((-1) * m3'.toInt + 0) ≤ (-1)) → sx_M z9 hd_C σ 99895953610111751404211111353381321783955140565279076827493022708011895642232499843849795298031743077114461795885011932654335221737225129801285632 0 σ' → am_K g 12 tX12_isSaid.1 0 0 4 lw' [] σ' post) : am_K g 12 tX12_isSaid.1 0 0 197 lw [.int n0, .int n1, .int n2, .int n3, .ref 118, .int n4, .ref 135] σ post := by
  refine sg_seg (sw := [.int n0, .int n1, .int n2, .int n3, .ref 118, .int n4, .ref 135]) (vs := [m1.toInt, m2.toInt, m3.toInt]) (ws := [n0.toInt, n1.toInt, n2.toInt, n3.toInt, n4.toInt]) G (mi := 121) rfl hct sg_ql_ok ⟨⟨m1, hl1, rfl⟩, ⟨⟨m2, hl2, rfl⟩, ⟨⟨m3, hl3, rfl⟩, trivial⟩⟩⟩ (hd_refs hl) ⟨⟨n0, rfl, rfl⟩, ⟨⟨n1, rfl, rfl⟩, ⟨⟨n2, rfl, rfl⟩, ⟨⟨n3, rfl, rfl⟩, ⟨rfl, ⟨⟨n4, rfl, rfl⟩, ⟨rfl, trivial⟩⟩⟩⟩⟩⟩⟩ (hd_p1 rfl bl1.1 bl1.2 (hd_p1 rfl bl2.1 bl2.2 (hd_p1 rfl bl3.1 bl3.2 (hd_p1 rfl (Int32.le_toInt _) (Int32.toInt_le _) (hd_p1 rfl (Int32.le_toInt _) (Int32.toInt_le _) (hd_p1 rfl (Int32.le_toInt _) (Int32.toInt_le _) (hd_p1 rfl bk3.1 bk3.2 (hd_p1 rfl bk4.1 bk4.2 hd_p0)))))))) hM ?_ ?_
  · intro r σ' hq
    cases r with
    | none => exact hq.elim
    | some v =>
      obtain ⟨p, hp, hM2, ks, hk, hv⟩ := hq
      cases hp
  · intro u hu
    simp only [List.mem_cons, List.not_mem_nil, or_false] at hu
    rcases hu with rfl
    · intro lw' sw' vs' ws' σ' ⟨h1_0, h2, h3_0, h4, h5⟩
      obtain ⟨m1', vs1, rfl, hm1, h1_1⟩ := hd_srcl h1_0
      obtain ⟨m2', vs2, rfl, hm2, h1_2⟩ := hd_srcl h1_1
      obtain ⟨m3', vs3, rfl, hm3, h1_3⟩ := hd_srcl h1_2
      obtain rfl := hd_src0 h1_3
      obtain ⟨rfl, rfl⟩ := hd_st0 h3_0
      have hr9 := hd_ref0 h2
      obtain ⟨v0, e0, l0, u0⟩ := h4 _ (List.mem_cons_self)
      have g0 : 1 * m1.toInt + ((-1) * m1'.toInt + 0) = v0 := Option.some.inj e0
      obtain ⟨v1, e1, l1, u1⟩ := h4 _ (List.mem_cons_of_mem _ (List.mem_cons_self))
      have g1 : 1 * m2.toInt + ((-1) * m2'.toInt + 0) = v1 := Option.some.inj e1
      obtain ⟨v2, e2, l2, u2⟩ := h4 _ (List.mem_cons_of_mem _ (List.mem_cons_of_mem _ (List.mem_cons_self)))
      have g2 : 1 * m3.toInt + ((-1) * m3'.toInt + 0) = v2 := Option.some.inj e2
      exact cutu _ _ _ _ _ hr9 hm1 hm2 hm3 ⟨by rw [g0]; exact l0, by rw [g0]; exact u0⟩ ⟨by rw [g1]; exact l1, by rw [g1]; exact u1⟩ ⟨by rw [g2]; exact l2, by rw [g2]; exact u2⟩ h5
theorem sg_i1_run (G : sx_G0 g L xs z9 hd_C ex_mt) (hct : ∀ (mi : Nat) (T2 : ex_T) (c' : sx_Ct), ex_mt mi = some T2 → c' ∈ k9 mi → c'.1 < 60 → sx_Holds g z9 hd_C T2 c') {σ : am_S} {lw : List (Nat × Value)} {post : Option (Option Value) → am_S → Prop} (hM : sx_M z9 hd_C σ 0 0 σ) (hl : (0, Value.ref 118) ∈ lw) {m1 : Int32} (hl1 : (1, Value.int m1) ∈ lw) (ret0 : ∀ (r : Int32) (σ' : am_S), (0 ≤ 1 * r.toInt + 0 ∧ 1 * r.toInt + 0 ≤ 0) → ((-2147483648) ≤ 1 * m1.toInt + 0 ∧ 1 * m1.toInt + 0 ≤ (-1)) → sx_M z9 hd_C σ 1174271291386916613944740298394668513687841274454159935353645485766104512557304221731849499192384351515967488 0 σ' → post (some (some (.int r))) σ') (ret1 : ∀ (r : Int32) (σ' : am_S), (0 ≤ 1 * r.toInt + 0 ∧ 1 * r.toInt + 0 ≤ 0) → (2 ≤ 1 * m1.toInt + 0 ∧ 1 * m1.toInt + 0 ≤ 2147483647) → sx_M z9 hd_C σ 1174271291386916613944740298394668513687841274454159935353645485766104512557304221731849499192384351515967488 0 σ' → post (some (some (.int r))) σ') (cuta : ∀ (lw' : List (Nat × Value)) (m1' : Int32) (m2' : Int32) (σ' : am_S), (0, Value.ref 118) ∈ lw' → (1, Value.int m1') ∈ lw' → (2, Value.int m2') ∈ lw' → (0 ≤ 1 * m2'.toInt + 0 ∧ 1 * m2'.toInt + 0 ≤ 0) → (0 ≤ 1 * m1.toInt + ((-1) * m1'.toInt + 0) ∧ 1 * m1.toInt + ((-1) * m1'.toInt + 0) ≤ 0) → (0 ≤ 1 * m1.toInt + 0 ∧ 1 * m1.toInt + 0 ≤ 1) → sx_M z9 hd_C σ 1174271291386916613944740298394668513687841274454159935353645485766104512557304221731849499192384351515967488 0 σ' → am_K g 12 tX12_image.1 0 0 18 lw' [] σ' post) : am_K g 12 tX12_image.1 0 0 0 lw [] σ post := by
  refine sg_seg (sw := []) (vs := [m1.toInt, (σ.2.1 137 0).toInt, (σ.2.1 137 1).toInt]) (ws := []) G (mi := 116) rfl hct sg_i1_ok ⟨⟨m1, hl1, rfl⟩, ⟨rfl, ⟨rfl, trivial⟩⟩⟩ (hd_refs hl) trivial (hd_p1 rfl (Int32.le_toInt _) (Int32.toInt_le _) (hd_p1 rfl (hd_kd_137_0 hM).1 (hd_kd_137_0 hM).2 (hd_p1 rfl (hd_kd_137_1 hM).1 (hd_kd_137_1 hM).2 hd_p0))) hM ?_ ?_
  · intro r σ' hq
    cases r with
    | none => exact hq.elim
    | some v =>
      obtain ⟨p, hp, hM2, ks, hk, hv⟩ := hq
      simp only [List.mem_cons, List.not_mem_nil, or_false] at hp
      rcases hp with rfl | rfl
      · obtain rfl := hd_keys hk
        cases v with
        | none => exact hv.elim
        | some w9 =>
          obtain ⟨r, rfl, hP⟩ := hv
          obtain ⟨v0, e0, l0, u0⟩ := hP _ (List.mem_cons_self)
          have g0 : 1 * r.toInt + 0 = v0 := Option.some.inj e0
          obtain ⟨v1, e1, l1, u1⟩ := hP _ (List.mem_cons_of_mem _ (List.mem_cons_self))
          have g1 : 1 * m1.toInt + 0 = v1 := Option.some.inj e1
          exact ret0 r _ ⟨by rw [g0]; exact l0, by rw [g0]; exact u0⟩ ⟨by rw [g1]; exact l1, by rw [g1]; exact u1⟩ hM2
      · obtain rfl := hd_keys hk
        cases v with
        | none => exact hv.elim
        | some w9 =>
          obtain ⟨r, rfl, hP⟩ := hv
          obtain ⟨v0, e0, l0, u0⟩ := hP _ (List.mem_cons_self)
          have g0 : 1 * r.toInt + 0 = v0 := Option.some.inj e0
          obtain ⟨v1, e1, l1, u1⟩ := hP _ (List.mem_cons_of_mem _ (List.mem_cons_self))
          have g1 : 1 * m1.toInt + 0 = v1 := Option.some.inj e1
          exact ret1 r _ ⟨by rw [g0]; exact l0, by rw [g0]; exact u0⟩ ⟨by rw [g1]; exact l1, by rw [g1]; exact u1⟩ hM2
  · intro u hu
    simp only [List.mem_cons, List.not_mem_nil, or_false] at hu
    rcases hu with rfl
    · intro lw' sw' vs' ws' σ' ⟨h1_0, h2, h3_0, h4, h5⟩
      obtain ⟨m1', vs1, rfl, hm1, h1_1⟩ := hd_srcl h1_0
      obtain ⟨m2', vs2, rfl, hm2, h1_2⟩ := hd_srcl h1_1
      obtain rfl := hd_src0 h1_2
      obtain ⟨rfl, rfl⟩ := hd_st0 h3_0
      have hr9 := hd_ref0 h2
      obtain ⟨v0, e0, l0, u0⟩ := h4 _ (List.mem_cons_self)
      have g0 : 1 * m2'.toInt + 0 = v0 := Option.some.inj e0
      obtain ⟨v1, e1, l1, u1⟩ := h4 _ (List.mem_cons_of_mem _ (List.mem_cons_self))
      have g1 : 1 * m1.toInt + ((-1) * m1'.toInt + 0) = v1 := Option.some.inj e1
      obtain ⟨v2, e2, l2, u2⟩ := h4 _ (List.mem_cons_of_mem _ (List.mem_cons_of_mem _ (List.mem_cons_self)))
      have g2 : 1 * m1.toInt + 0 = v2 := Option.some.inj e2
      exact cuta _ _ _ _ hr9 hm1 hm2 ⟨by rw [g0]; exact l0, by rw [g0]; exact u0⟩ ⟨by rw [g1]; exact l1, by rw [g1]; exact u1⟩ ⟨by rw [g2]; exact l2, by rw [g2]; exact u2⟩ h5
theorem sg_i2_run (G : sx_G0 g L xs zK hd_T ex_mt) (hct : ∀ (mi : Nat) (T2 : ex_T) (c' : sx_Ct), ex_mt mi = some T2 → c' ∈ k9 mi → c'.1 < 0 → sx_Holds g zK hd_T T2 c') {σ : am_S} {lw : List (Nat × Value)} {post : Option (Option Value) → am_S → Prop} (hM : sx_M zK hd_T σ 0 0 σ) (hl : (0, Value.ref 118) ∈ lw) {m1 : Int32} (hl1 : (1, Value.int m1) ∈ lw) (bl1 : 0 ≤ m1.toInt ∧ m1.toInt ≤ 1) {m2 : Int32} (hl2 : (2, Value.int m2) ∈ lw) (bl2 : 0 ≤ m2.toInt ∧ m2.toInt ≤ 277) (cuta : ∀ (lw' : List (Nat × Value)) (m1' : Int32) (m2' : Int32) (n0' : Int32) (n1' : Int32) (σ' : am_S), (0, Value.ref 118) ∈ lw' → (1, Value.int m1') ∈ lw' → (2, Value.int m2') ∈ lw' → (0 ≤ 1 * m2.toInt + ((-1) * n0'.toInt + 0) ∧ 1 * m2.toInt + ((-1) * n0'.toInt + 0) ≤ 0) → (0 ≤ 277 * m1.toInt + (1 * m2.toInt + ((-1) * n1'.toInt + 0)) ∧ 277 * m1.toInt + (1 * m2.toInt + ((-1) * n1'.toInt + 0)) ≤ 0) → (0 ≤ 1 * m2.toInt + 0 ∧ 1 * m2.toInt + 0 ≤ 276) → (0 ≤ 1 * m1.toInt + ((-1) * m1'.toInt + 0) ∧ 1 * m1.toInt + ((-1) * m1'.toInt + 0) ≤ 0) → (0 ≤ 1 * m2.toInt + ((-1) * m2'.toInt + 0) ∧ 1 * m2.toInt + ((-1) * m2'.toInt + 0) ≤ 0) → sx_M zK hd_T σ 0 0 σ' → am_K g 12 tX12_image.1 0 0 41 lw' [.int n0', .ref 120, .int n1', .ref 136] σ' post) (cutb : ∀ (lw' : List (Nat × Value)) (m1' : Int32) (m2' : Int32) (σ' : am_S), (0, Value.ref 118) ∈ lw' → (1, Value.int m1') ∈ lw' → (2, Value.int m2') ∈ lw' → (277 ≤ 1 * m2.toInt + 0 ∧ 1 * m2.toInt + 0 ≤ 277) → (0 ≤ 1 * m1.toInt + ((-1) * m1'.toInt + 0) ∧ 1 * m1.toInt + ((-1) * m1'.toInt + 0) ≤ 0) → sx_M zK hd_T σ 0 0 σ' → am_K g 12 tX12_image.1 0 0 49 lw' [] σ' post) : am_K g 12 tX12_image.1 0 0 18 lw [] σ post := by
  refine sg_seg (sw := []) (vs := [m1.toInt, m2.toInt]) (ws := []) G (mi := 116) rfl hct sg_i2_ok ⟨⟨m1, hl1, rfl⟩, ⟨⟨m2, hl2, rfl⟩, trivial⟩⟩ (hd_refs hl) trivial (hd_p1 rfl bl1.1 bl1.2 (hd_p1 rfl bl2.1 bl2.2 hd_p0)) hM ?_ ?_
  · intro r σ' hq
    cases r with
    | none => exact hq.elim
    | some v =>
      obtain ⟨p, hp, hM2, ks, hk, hv⟩ := hq
      cases hp
  · intro u hu
    simp only [List.mem_cons, List.not_mem_nil, or_false] at hu
    rcases hu with rfl | rfl
    · intro lw' sw' vs' ws' σ' ⟨h1_0, h2, h3_0, h4, h5⟩
      obtain ⟨m1', vs1, rfl, hm1, h1_1⟩ := hd_srcl h1_0
      obtain ⟨m2', vs2, rfl, hm2, h1_2⟩ := hd_srcl h1_1
      obtain rfl := hd_src0 h1_2
      obtain ⟨n0', sw1, ws1, rfl, rfl, h3_1⟩ := hd_sti h3_0
      obtain ⟨sw2, rfl, h3_2⟩ := hd_str h3_1
      obtain ⟨n1', sw3, ws3, rfl, rfl, h3_3⟩ := hd_sti h3_2
      obtain ⟨sw4, rfl, h3_4⟩ := hd_str h3_3
      obtain ⟨rfl, rfl⟩ := hd_st0 h3_4
      have hr9 := hd_ref0 h2
      obtain ⟨v0, e0, l0, u0⟩ := h4 _ (List.mem_cons_self)
      have g0 : 1 * m2.toInt + ((-1) * n0'.toInt + 0) = v0 := Option.some.inj e0
      obtain ⟨v1, e1, l1, u1⟩ := h4 _ (List.mem_cons_of_mem _ (List.mem_cons_self))
      have g1 : 277 * m1.toInt + (1 * m2.toInt + ((-1) * n1'.toInt + 0)) = v1 := Option.some.inj e1
      obtain ⟨v2, e2, l2, u2⟩ := h4 _ (List.mem_cons_of_mem _ (List.mem_cons_of_mem _ (List.mem_cons_self)))
      have g2 : 1 * m2.toInt + 0 = v2 := Option.some.inj e2
      obtain ⟨v3, e3, l3, u3⟩ := h4 _ (List.mem_cons_of_mem _ (List.mem_cons_of_mem _ (List.mem_cons_of_mem _ (List.mem_cons_self))))
      have g3 : 1 * m1.toInt + ((-1) * m1'.toInt + 0) = v3 := Option.some.inj e3
      obtain ⟨v4, e4, l4, u4⟩ := h4 _ (List.mem_cons_of_mem _ (List.mem_cons_of_mem _ (List.mem_cons_of_mem _ (List.mem_cons_of_mem _ (List.mem_cons_self)))))
      have g4 : 1 * m2.toInt + ((-1) * m2'.toInt + 0) = v4 := Option.some.inj e4
      exact cuta _ _ _ _ _ _ hr9 hm1 hm2 ⟨by rw [g0]; exact l0, by rw [g0]; exact u0⟩ ⟨by rw [g1]; exact l1, by rw [g1]; exact u1⟩ ⟨by rw [g2]; exact l2, by rw [g2]; exact u2⟩ ⟨by rw [g3]; exact l3, by rw [g3]; exact u3⟩ ⟨by rw [g4]; exact l4, by rw [g4]; exact u4⟩ h5
    · intro lw' sw' vs' ws' σ' ⟨h1_0, h2, h3_0, h4, h5⟩
      obtain ⟨m1', vs1, rfl, hm1, h1_1⟩ := hd_srcl h1_0
      obtain ⟨m2', vs2, rfl, hm2, h1_2⟩ := hd_srcl h1_1
      obtain rfl := hd_src0 h1_2
      obtain ⟨rfl, rfl⟩ := hd_st0 h3_0
      have hr9 := hd_ref0 h2
      obtain ⟨v0, e0, l0, u0⟩ := h4 _ (List.mem_cons_self)
      have g0 : 1 * m2.toInt + 0 = v0 := Option.some.inj e0
      obtain ⟨v1, e1, l1, u1⟩ := h4 _ (List.mem_cons_of_mem _ (List.mem_cons_self))
      have g1 : 1 * m1.toInt + ((-1) * m1'.toInt + 0) = v1 := Option.some.inj e1
      exact cutb _ _ _ _ hr9 hm1 hm2 ⟨by rw [g0]; exact l0, by rw [g0]; exact u0⟩ ⟨by rw [g1]; exact l1, by rw [g1]; exact u1⟩ h5
theorem sg_i3_run (G : sx_G0 g L xs zK hd_T ex_mt) (hct : ∀ (mi : Nat) (T2 : ex_T) (c' : sx_Ct), ex_mt mi = some T2 → c' ∈ k9 mi → c'.1 < 0 → sx_Holds g zK hd_T T2 c') {σ : am_S} {lw : List (Nat × Value)} {post : Option (Option Value) → am_S → Prop} (hM : sx_M zK hd_T σ 0 0 σ) (hl : (0, Value.ref 118) ∈ lw) {m1 : Int32} (hl1 : (1, Value.int m1) ∈ lw) (bl1 : 0 ≤ m1.toInt ∧ m1.toInt ≤ 1) {m2 : Int32} (hl2 : (2, Value.int m2) ∈ lw) (bl2 : 0 ≤ m2.toInt ∧ m2.toInt ≤ 276) (cuta : ∀ (lw' : List (Nat × Value)) (m1' : Int32) (m2' : Int32) (σ' : am_S), (0, Value.ref 118) ∈ lw' → (1, Value.int m1') ∈ lw' → (2, Value.int m2') ∈ lw' → (0 ≤ 1 * m1.toInt + ((-1) * m1'.toInt + 0) ∧ 1 * m1.toInt + ((-1) * m1'.toInt + 0) ≤ 0) → ((-1) ≤ 1 * m2.toInt + ((-1) * m2'.toInt + 0) ∧ 1 * m2.toInt + ((-1) * m2'.toInt + 0) ≤ (-1)) → sx_M zK hd_T σ 0 0 σ' → am_K g 12 tX12_image.1 0 0 18 lw' [] σ' post) : am_K g 12 tX12_image.1 0 0 43 lw [] σ post := by
  refine sg_seg (sw := []) (vs := [m1.toInt, m2.toInt]) (ws := []) G (mi := 116) rfl hct sg_i3_ok ⟨⟨m1, hl1, rfl⟩, ⟨⟨m2, hl2, rfl⟩, trivial⟩⟩ (hd_refs hl) trivial (hd_p1 rfl bl1.1 bl1.2 (hd_p1 rfl bl2.1 bl2.2 hd_p0)) hM ?_ ?_
  · intro r σ' hq
    cases r with
    | none => exact hq.elim
    | some v =>
      obtain ⟨p, hp, hM2, ks, hk, hv⟩ := hq
      cases hp
  · intro u hu
    simp only [List.mem_cons, List.not_mem_nil, or_false] at hu
    rcases hu with rfl
    · intro lw' sw' vs' ws' σ' ⟨h1_0, h2, h3_0, h4, h5⟩
      obtain ⟨m1', vs1, rfl, hm1, h1_1⟩ := hd_srcl h1_0
      obtain ⟨m2', vs2, rfl, hm2, h1_2⟩ := hd_srcl h1_1
      obtain rfl := hd_src0 h1_2
      obtain ⟨rfl, rfl⟩ := hd_st0 h3_0
      have hr9 := hd_ref0 h2
      obtain ⟨v0, e0, l0, u0⟩ := h4 _ (List.mem_cons_self)
      have g0 : 1 * m1.toInt + ((-1) * m1'.toInt + 0) = v0 := Option.some.inj e0
      obtain ⟨v1, e1, l1, u1⟩ := h4 _ (List.mem_cons_of_mem _ (List.mem_cons_self))
      have g1 : 1 * m2.toInt + ((-1) * m2'.toInt + 0) = v1 := Option.some.inj e1
      exact cuta _ _ _ _ hr9 hm1 hm2 ⟨by rw [g0]; exact l0, by rw [g0]; exact u0⟩ ⟨by rw [g1]; exact l1, by rw [g1]; exact u1⟩ h5
theorem sg_i4_run (G : sx_G0 g L xs z9 hd_C ex_mt) (hct : ∀ (mi : Nat) (T2 : ex_T) (c' : sx_Ct), ex_mt mi = some T2 → c' ∈ k9 mi → c'.1 < 60 → sx_Holds g z9 hd_C T2 c') {σ : am_S} {lw : List (Nat × Value)} {post : Option (Option Value) → am_S → Prop} (hM : sx_M z9 hd_C σ 0 0 σ) (hl : (0, Value.ref 118) ∈ lw) {m1 : Int32} (hl1 : (1, Value.int m1) ∈ lw) (bl1 : 0 ≤ m1.toInt ∧ m1.toInt ≤ 0) (ret0 : ∀ (r : Int32) (σ' : am_S), (1 ≤ 1 * r.toInt + 0 ∧ 1 * r.toInt + 0 ≤ 1) → (1 ≤ 1 * (σ'.2.1 137 0).toInt + 0 ∧ 1 * (σ'.2.1 137 0).toInt + 0 ≤ 1) → (0 ≤ 1 * (σ.2.1 137 1).toInt + ((-1) * (σ'.2.1 137 1).toInt + 0) ∧ 1 * (σ.2.1 137 1).toInt + ((-1) * (σ'.2.1 137 1).toInt + 0) ≤ 0) → sx_M z9 hd_C σ 14059105607947488696282932836518693308967803494693489478439861164411992439598399594747002144074658928593502845729752797260025831423419686528151609940203637047296 0 σ' → post (some (some (.int r))) σ') : am_K g 12 tX12_image.1 0 0 49 lw [] σ post := by
  refine sg_seg (sw := []) (vs := [m1.toInt, (σ.2.1 137 0).toInt, (σ.2.1 137 1).toInt]) (ws := []) G (mi := 116) rfl hct sg_i4_ok ⟨⟨m1, hl1, rfl⟩, ⟨rfl, ⟨rfl, trivial⟩⟩⟩ (hd_refs hl) trivial (hd_p1 rfl bl1.1 bl1.2 (hd_p1 rfl (hd_kd_137_0 hM).1 (hd_kd_137_0 hM).2 (hd_p1 rfl (hd_kd_137_1 hM).1 (hd_kd_137_1 hM).2 hd_p0))) hM ?_ ?_
  · intro r σ' hq
    cases r with
    | none => exact hq.elim
    | some v =>
      obtain ⟨p, hp, hM2, ks, hk, hv⟩ := hq
      simp only [List.mem_cons, List.not_mem_nil, or_false] at hp
      rcases hp with rfl
      · obtain ⟨ks0, rfl, hk1⟩ := hd_keyc hk; obtain ⟨ks1, rfl, hk2⟩ := hd_keyc hk1; obtain rfl := hd_keys hk2
        cases v with
        | none => exact hv.elim
        | some w9 =>
          obtain ⟨r, rfl, hP⟩ := hv
          obtain ⟨v0, e0, l0, u0⟩ := hP _ (List.mem_cons_self)
          have g0 : 1 * r.toInt + 0 = v0 := Option.some.inj e0
          obtain ⟨v1, e1, l1, u1⟩ := hP _ (List.mem_cons_of_mem _ (List.mem_cons_self))
          have g1 : 1 * (σ'.2.1 137 0).toInt + 0 = v1 := Option.some.inj e1
          obtain ⟨v2, e2, l2, u2⟩ := hP _ (List.mem_cons_of_mem _ (List.mem_cons_of_mem _ (List.mem_cons_self)))
          have g2 : 1 * (σ.2.1 137 1).toInt + ((-1) * (σ'.2.1 137 1).toInt + 0) = v2 := Option.some.inj e2
          exact ret0 r _ ⟨by rw [g0]; exact l0, by rw [g0]; exact u0⟩ ⟨by rw [g1]; exact l1, by rw [g1]; exact u1⟩ ⟨by rw [g2]; exact l2, by rw [g2]; exact u2⟩ hM2
  · intro u hu
    cases hu
theorem sg_i5_run (G : sx_G0 g L xs z9 hd_C ex_mt) (hct : ∀ (mi : Nat) (T2 : ex_T) (c' : sx_Ct), ex_mt mi = some T2 → c' ∈ k9 mi → c'.1 < 60 → sx_Holds g z9 hd_C T2 c') {σ : am_S} {lw : List (Nat × Value)} {post : Option (Option Value) → am_S → Prop} (hM : sx_M z9 hd_C σ 0 0 σ) (hl : (0, Value.ref 118) ∈ lw) {m1 : Int32} (hl1 : (1, Value.int m1) ∈ lw) (bl1 : 1 ≤ m1.toInt ∧ m1.toInt ≤ 1) (ret0 : ∀ (r : Int32) (σ' : am_S), (1 ≤ 1 * r.toInt + 0 ∧ 1 * r.toInt + 0 ≤ 1) → (1 ≤ 1 * (σ'.2.1 137 1).toInt + 0 ∧ 1 * (σ'.2.1 137 1).toInt + 0 ≤ 1) → (0 ≤ 1 * (σ.2.1 137 0).toInt + ((-1) * (σ'.2.1 137 0).toInt + 0) ∧ 1 * (σ.2.1 137 0).toInt + ((-1) * (σ'.2.1 137 0).toInt + 0) ≤ 0) → sx_M z9 hd_C σ 14059105607947488696282932836518693308967803494693489478439861164411992439598399594747002144074658928593502845729752797260025831423419686528151609940203637047296 0 σ' → post (some (some (.int r))) σ') : am_K g 12 tX12_image.1 0 0 49 lw [] σ post := by
  refine sg_seg (sw := []) (vs := [m1.toInt, (σ.2.1 137 0).toInt, (σ.2.1 137 1).toInt]) (ws := []) G (mi := 116) rfl hct sg_i5_ok ⟨⟨m1, hl1, rfl⟩, ⟨rfl, ⟨rfl, trivial⟩⟩⟩ (hd_refs hl) trivial (hd_p1 rfl bl1.1 bl1.2 (hd_p1 rfl (hd_kd_137_0 hM).1 (hd_kd_137_0 hM).2 (hd_p1 rfl (hd_kd_137_1 hM).1 (hd_kd_137_1 hM).2 hd_p0))) hM ?_ ?_
  · intro r σ' hq
    cases r with
    | none => exact hq.elim
    | some v =>
      obtain ⟨p, hp, hM2, ks, hk, hv⟩ := hq
      simp only [List.mem_cons, List.not_mem_nil, or_false] at hp
      rcases hp with rfl
      · obtain ⟨ks0, rfl, hk1⟩ := hd_keyc hk; obtain ⟨ks1, rfl, hk2⟩ := hd_keyc hk1; obtain rfl := hd_keys hk2
        cases v with
        | none => exact hv.elim
        | some w9 =>
          obtain ⟨r, rfl, hP⟩ := hv
          obtain ⟨v0, e0, l0, u0⟩ := hP _ (List.mem_cons_self)
          have g0 : 1 * r.toInt + 0 = v0 := Option.some.inj e0
          obtain ⟨v1, e1, l1, u1⟩ := hP _ (List.mem_cons_of_mem _ (List.mem_cons_self))
          have g1 : 1 * (σ'.2.1 137 1).toInt + 0 = v1 := Option.some.inj e1
          obtain ⟨v2, e2, l2, u2⟩ := hP _ (List.mem_cons_of_mem _ (List.mem_cons_of_mem _ (List.mem_cons_self)))
          have g2 : 1 * (σ.2.1 137 0).toInt + ((-1) * (σ'.2.1 137 0).toInt + 0) = v2 := Option.some.inj e2
          exact ret0 r _ ⟨by rw [g0]; exact l0, by rw [g0]; exact u0⟩ ⟨by rw [g1]; exact l1, by rw [g1]; exact u1⟩ ⟨by rw [g2]; exact l2, by rw [g2]; exact u2⟩ hM2
  · intro u hu
    cases hu
theorem sg_r1_run (G : sx_G0 g L xs z9 hd_C ex_mt) (hct : ∀ (mi : Nat) (T2 : ex_T) (c' : sx_Ct), ex_mt mi = some T2 → c' ∈ k9 mi → c'.1 < 60 → sx_Holds g z9 hd_C T2 c') {σ : am_S} {lw : List (Nat × Value)} {post : Option (Option Value) → am_S → Prop} (hM : sx_M z9 hd_C σ 0 0 σ) (hl : (0, Value.ref 118) ∈ lw) {m1 : Int32} (hl1 : (1, Value.int m1) ∈ lw) (ret0 : ∀ (r : Int32) (σ' : am_S), (0 ≤ 1 * r.toInt + 0 ∧ 1 * r.toInt + 0 ≤ 0) → ((-2147483648) ≤ 1 * m1.toInt + 0 ∧ 1 * m1.toInt + 0 ≤ (-1)) → sx_M z9 hd_C σ 1174271291386916613944740298394668513687841274454159935353645485766104512557304221731849499192384351515967488 0 σ' → post (some (some (.int r))) σ') (ret1 : ∀ (r : Int32) (σ' : am_S), (0 ≤ 1 * r.toInt + 0 ∧ 1 * r.toInt + 0 ≤ 0) → (2 ≤ 1 * m1.toInt + 0 ∧ 1 * m1.toInt + 0 ≤ 2147483647) → sx_M z9 hd_C σ 1174271291386916613944740298394668513687841274454159935353645485766104512557304221731849499192384351515967488 0 σ' → post (some (some (.int r))) σ') (ret2 : ∀ (r : Int32) (σ' : am_S), (0 ≤ 1 * r.toInt + 0 ∧ 1 * r.toInt + 0 ≤ 0) → (0 ≤ 1 * m1.toInt + 0 ∧ 1 * m1.toInt + 0 ≤ 0) → (0 ≤ 1 * (σ.2.1 137 0).toInt + 0 ∧ 1 * (σ.2.1 137 0).toInt + 0 ≤ 0) → sx_M z9 hd_C σ 1174271291386916613944740298394668513687841274454159935353645485766104512557304221731849499192384351515967488 0 σ' → post (some (some (.int r))) σ') (ret3 : ∀ (r : Int32) (σ' : am_S), (0 ≤ 1 * r.toInt + 0 ∧ 1 * r.toInt + 0 ≤ 0) → (1 ≤ 1 * m1.toInt + 0 ∧ 1 * m1.toInt + 0 ≤ 1) → (0 ≤ 1 * (σ.2.1 137 1).toInt + 0 ∧ 1 * (σ.2.1 137 1).toInt + 0 ≤ 0) → sx_M z9 hd_C σ 1174271291386916613944740298394668513687841274454159935353645485766104512557304221731849499192384351515967488 0 σ' → post (some (some (.int r))) σ') (cuta : ∀ (lw' : List (Nat × Value)) (m1' : Int32) (m2' : Int32) (σ' : am_S), (0, Value.ref 118) ∈ lw' → (1, Value.int m1') ∈ lw' → (2, Value.int m2') ∈ lw' → (0 ≤ 1 * m2'.toInt + 0 ∧ 1 * m2'.toInt + 0 ≤ 0) → (0 ≤ 1 * m1.toInt + ((-1) * m1'.toInt + 0) ∧ 1 * m1.toInt + ((-1) * m1'.toInt + 0) ≤ 0) → (0 ≤ 1 * m1.toInt + 0 ∧ 1 * m1.toInt + 0 ≤ 0) → (1 ≤ 1 * (σ.2.1 137 0).toInt + 0 ∧ 1 * (σ.2.1 137 0).toInt + 0 ≤ 1) → sx_M z9 hd_C σ 1174271291386916613944740298394668513687841274454159935353645485766104512557304221731849499192384351515967488 0 σ' → am_K g 12 tX12_restore.1 0 0 27 lw' [] σ' post) (cutb : ∀ (lw' : List (Nat × Value)) (m1' : Int32) (m2' : Int32) (σ' : am_S), (0, Value.ref 118) ∈ lw' → (1, Value.int m1') ∈ lw' → (2, Value.int m2') ∈ lw' → (0 ≤ 1 * m2'.toInt + 0 ∧ 1 * m2'.toInt + 0 ≤ 0) → (0 ≤ 1 * m1.toInt + ((-1) * m1'.toInt + 0) ∧ 1 * m1.toInt + ((-1) * m1'.toInt + 0) ≤ 0) → (1 ≤ 1 * m1.toInt + 0 ∧ 1 * m1.toInt + 0 ≤ 1) → (1 ≤ 1 * (σ.2.1 137 1).toInt + 0 ∧ 1 * (σ.2.1 137 1).toInt + 0 ≤ 1) → sx_M z9 hd_C σ 1174271291386916613944740298394668513687841274454159935353645485766104512557304221731849499192384351515967488 0 σ' → am_K g 12 tX12_restore.1 0 0 27 lw' [] σ' post) : am_K g 12 tX12_restore.1 0 0 0 lw [] σ post := by
  refine sg_seg (sw := []) (vs := [m1.toInt, (σ.2.1 137 0).toInt, (σ.2.1 137 1).toInt]) (ws := []) G (mi := 157) rfl hct sg_r1_ok ⟨⟨m1, hl1, rfl⟩, ⟨rfl, ⟨rfl, trivial⟩⟩⟩ (hd_refs hl) trivial (hd_p1 rfl (Int32.le_toInt _) (Int32.toInt_le _) (hd_p1 rfl (hd_kd_137_0 hM).1 (hd_kd_137_0 hM).2 (hd_p1 rfl (hd_kd_137_1 hM).1 (hd_kd_137_1 hM).2 hd_p0))) hM ?_ ?_
  · intro r σ' hq
    cases r with
    | none => exact hq.elim
    | some v =>
      obtain ⟨p, hp, hM2, ks, hk, hv⟩ := hq
      simp only [List.mem_cons, List.not_mem_nil, or_false] at hp
      rcases hp with rfl | rfl | rfl | rfl
      · obtain rfl := hd_keys hk
        cases v with
        | none => exact hv.elim
        | some w9 =>
          obtain ⟨r, rfl, hP⟩ := hv
          obtain ⟨v0, e0, l0, u0⟩ := hP _ (List.mem_cons_self)
          have g0 : 1 * r.toInt + 0 = v0 := Option.some.inj e0
          obtain ⟨v1, e1, l1, u1⟩ := hP _ (List.mem_cons_of_mem _ (List.mem_cons_self))
          have g1 : 1 * m1.toInt + 0 = v1 := Option.some.inj e1
          exact ret0 r _ ⟨by rw [g0]; exact l0, by rw [g0]; exact u0⟩ ⟨by rw [g1]; exact l1, by rw [g1]; exact u1⟩ hM2
      · obtain rfl := hd_keys hk
        cases v with
        | none => exact hv.elim
        | some w9 =>
          obtain ⟨r, rfl, hP⟩ := hv
          obtain ⟨v0, e0, l0, u0⟩ := hP _ (List.mem_cons_self)
          have g0 : 1 * r.toInt + 0 = v0 := Option.some.inj e0
          obtain ⟨v1, e1, l1, u1⟩ := hP _ (List.mem_cons_of_mem _ (List.mem_cons_self))
          have g1 : 1 * m1.toInt + 0 = v1 := Option.some.inj e1
          exact ret1 r _ ⟨by rw [g0]; exact l0, by rw [g0]; exact u0⟩ ⟨by rw [g1]; exact l1, by rw [g1]; exact u1⟩ hM2
      · obtain rfl := hd_keys hk
        cases v with
        | none => exact hv.elim
        | some w9 =>
          obtain ⟨r, rfl, hP⟩ := hv
          obtain ⟨v0, e0, l0, u0⟩ := hP _ (List.mem_cons_self)
          have g0 : 1 * r.toInt + 0 = v0 := Option.some.inj e0
          obtain ⟨v1, e1, l1, u1⟩ := hP _ (List.mem_cons_of_mem _ (List.mem_cons_self))
          have g1 : 1 * m1.toInt + 0 = v1 := Option.some.inj e1
          obtain ⟨v2, e2, l2, u2⟩ := hP _ (List.mem_cons_of_mem _ (List.mem_cons_of_mem _ (List.mem_cons_self)))
          have g2 : 1 * (σ.2.1 137 0).toInt + 0 = v2 := Option.some.inj e2
          exact ret2 r _ ⟨by rw [g0]; exact l0, by rw [g0]; exact u0⟩ ⟨by rw [g1]; exact l1, by rw [g1]; exact u1⟩ ⟨by rw [g2]; exact l2, by rw [g2]; exact u2⟩ hM2
      · obtain rfl := hd_keys hk
        cases v with
        | none => exact hv.elim
        | some w9 =>
          obtain ⟨r, rfl, hP⟩ := hv
          obtain ⟨v0, e0, l0, u0⟩ := hP _ (List.mem_cons_self)
          have g0 : 1 * r.toInt + 0 = v0 := Option.some.inj e0
          obtain ⟨v1, e1, l1, u1⟩ := hP _ (List.mem_cons_of_mem _ (List.mem_cons_self))
          have g1 : 1 * m1.toInt + 0 = v1 := Option.some.inj e1
          obtain ⟨v2, e2, l2, u2⟩ := hP _ (List.mem_cons_of_mem _ (List.mem_cons_of_mem _ (List.mem_cons_self)))
          have g2 : 1 * (σ.2.1 137 1).toInt + 0 = v2 := Option.some.inj e2
          exact ret3 r _ ⟨by rw [g0]; exact l0, by rw [g0]; exact u0⟩ ⟨by rw [g1]; exact l1, by rw [g1]; exact u1⟩ ⟨by rw [g2]; exact l2, by rw [g2]; exact u2⟩ hM2
  · intro u hu
    simp only [List.mem_cons, List.not_mem_nil, or_false] at hu
    rcases hu with rfl | rfl
    · intro lw' sw' vs' ws' σ' ⟨h1_0, h2, h3_0, h4, h5⟩
      obtain ⟨m1', vs1, rfl, hm1, h1_1⟩ := hd_srcl h1_0
      obtain ⟨m2', vs2, rfl, hm2, h1_2⟩ := hd_srcl h1_1
      obtain rfl := hd_src0 h1_2
      obtain ⟨rfl, rfl⟩ := hd_st0 h3_0
      have hr9 := hd_ref0 h2
      obtain ⟨v0, e0, l0, u0⟩ := h4 _ (List.mem_cons_self)
      have g0 : 1 * m2'.toInt + 0 = v0 := Option.some.inj e0
      obtain ⟨v1, e1, l1, u1⟩ := h4 _ (List.mem_cons_of_mem _ (List.mem_cons_self))
      have g1 : 1 * m1.toInt + ((-1) * m1'.toInt + 0) = v1 := Option.some.inj e1
      obtain ⟨v2, e2, l2, u2⟩ := h4 _ (List.mem_cons_of_mem _ (List.mem_cons_of_mem _ (List.mem_cons_self)))
      have g2 : 1 * m1.toInt + 0 = v2 := Option.some.inj e2
      obtain ⟨v3, e3, l3, u3⟩ := h4 _ (List.mem_cons_of_mem _ (List.mem_cons_of_mem _ (List.mem_cons_of_mem _ (List.mem_cons_self))))
      have g3 : 1 * (σ.2.1 137 0).toInt + 0 = v3 := Option.some.inj e3
      exact cuta _ _ _ _ hr9 hm1 hm2 ⟨by rw [g0]; exact l0, by rw [g0]; exact u0⟩ ⟨by rw [g1]; exact l1, by rw [g1]; exact u1⟩ ⟨by rw [g2]; exact l2, by rw [g2]; exact u2⟩ ⟨by rw [g3]; exact l3, by rw [g3]; exact u3⟩ h5
    · intro lw' sw' vs' ws' σ' ⟨h1_0, h2, h3_0, h4, h5⟩
      obtain ⟨m1', vs1, rfl, hm1, h1_1⟩ := hd_srcl h1_0
      obtain ⟨m2', vs2, rfl, hm2, h1_2⟩ := hd_srcl h1_1
      obtain rfl := hd_src0 h1_2
      obtain ⟨rfl, rfl⟩ := hd_st0 h3_0
      have hr9 := hd_ref0 h2
      obtain ⟨v0, e0, l0, u0⟩ := h4 _ (List.mem_cons_self)
      have g0 : 1 * m2'.toInt + 0 = v0 := Option.some.inj e0
      obtain ⟨v1, e1, l1, u1⟩ := h4 _ (List.mem_cons_of_mem _ (List.mem_cons_self))
      have g1 : 1 * m1.toInt + ((-1) * m1'.toInt + 0) = v1 := Option.some.inj e1
      obtain ⟨v2, e2, l2, u2⟩ := h4 _ (List.mem_cons_of_mem _ (List.mem_cons_of_mem _ (List.mem_cons_self)))
      have g2 : 1 * m1.toInt + 0 = v2 := Option.some.inj e2
      obtain ⟨v3, e3, l3, u3⟩ := h4 _ (List.mem_cons_of_mem _ (List.mem_cons_of_mem _ (List.mem_cons_of_mem _ (List.mem_cons_self))))
      have g3 : 1 * (σ.2.1 137 1).toInt + 0 = v3 := Option.some.inj e3
      exact cutb _ _ _ _ hr9 hm1 hm2 ⟨by rw [g0]; exact l0, by rw [g0]; exact u0⟩ ⟨by rw [g1]; exact l1, by rw [g1]; exact u1⟩ ⟨by rw [g2]; exact l2, by rw [g2]; exact u2⟩ ⟨by rw [g3]; exact l3, by rw [g3]; exact u3⟩ h5
theorem sg_r2_run (G : sx_G0 g L xs zK hd_T ex_mt) (hct : ∀ (mi : Nat) (T2 : ex_T) (c' : sx_Ct), ex_mt mi = some T2 → c' ∈ k9 mi → c'.1 < 0 → sx_Holds g zK hd_T T2 c') {σ : am_S} {lw : List (Nat × Value)} {post : Option (Option Value) → am_S → Prop} (hM : sx_M zK hd_T σ 0 0 σ) (hl : (0, Value.ref 118) ∈ lw) {m1 : Int32} (hl1 : (1, Value.int m1) ∈ lw) (bl1 : 0 ≤ m1.toInt ∧ m1.toInt ≤ 1) {m2 : Int32} (hl2 : (2, Value.int m2) ∈ lw) (bl2 : 0 ≤ m2.toInt ∧ m2.toInt ≤ 277) (cuta : ∀ (lw' : List (Nat × Value)) (m1' : Int32) (m2' : Int32) (n0' : Int32) (n1' : Int32) (σ' : am_S), (0, Value.ref 118) ∈ lw' → (1, Value.int m1') ∈ lw' → (2, Value.int m2') ∈ lw' → (0 ≤ 1 * m2.toInt + ((-1) * n1'.toInt + 0) ∧ 1 * m2.toInt + ((-1) * n1'.toInt + 0) ≤ 0) → (0 ≤ 277 * m1.toInt + (1 * m2.toInt + ((-1) * n0'.toInt + 0)) ∧ 277 * m1.toInt + (1 * m2.toInt + ((-1) * n0'.toInt + 0)) ≤ 0) → (0 ≤ 1 * m2.toInt + 0 ∧ 1 * m2.toInt + 0 ≤ 276) → (0 ≤ 1 * m1.toInt + ((-1) * m1'.toInt + 0) ∧ 1 * m1.toInt + ((-1) * m1'.toInt + 0) ≤ 0) → (0 ≤ 1 * m2.toInt + ((-1) * m2'.toInt + 0) ∧ 1 * m2.toInt + ((-1) * m2'.toInt + 0) ≤ 0) → sx_M zK hd_T σ 0 0 σ' → am_K g 12 tX12_restore.1 0 0 50 lw' [.int n0', .ref 136, .int n1', .ref 120] σ' post) (cutb : ∀ (lw' : List (Nat × Value)) (m1' : Int32) (m2' : Int32) (σ' : am_S), (0, Value.ref 118) ∈ lw' → (1, Value.int m1') ∈ lw' → (2, Value.int m2') ∈ lw' → (277 ≤ 1 * m2.toInt + 0 ∧ 1 * m2.toInt + 0 ≤ 277) → (0 ≤ 1 * m1.toInt + ((-1) * m1'.toInt + 0) ∧ 1 * m1.toInt + ((-1) * m1'.toInt + 0) ≤ 0) → sx_M zK hd_T σ 0 0 σ' → am_K g 12 tX12_restore.1 0 0 58 lw' [] σ' post) : am_K g 12 tX12_restore.1 0 0 27 lw [] σ post := by
  refine sg_seg (sw := []) (vs := [m1.toInt, m2.toInt]) (ws := []) G (mi := 157) rfl hct sg_r2_ok ⟨⟨m1, hl1, rfl⟩, ⟨⟨m2, hl2, rfl⟩, trivial⟩⟩ (hd_refs hl) trivial (hd_p1 rfl bl1.1 bl1.2 (hd_p1 rfl bl2.1 bl2.2 hd_p0)) hM ?_ ?_
  · intro r σ' hq
    cases r with
    | none => exact hq.elim
    | some v =>
      obtain ⟨p, hp, hM2, ks, hk, hv⟩ := hq
      cases hp
  · intro u hu
    simp only [List.mem_cons, List.not_mem_nil, or_false] at hu
    rcases hu with rfl | rfl
    · intro lw' sw' vs' ws' σ' ⟨h1_0, h2, h3_0, h4, h5⟩
      obtain ⟨m1', vs1, rfl, hm1, h1_1⟩ := hd_srcl h1_0
      obtain ⟨m2', vs2, rfl, hm2, h1_2⟩ := hd_srcl h1_1
      obtain rfl := hd_src0 h1_2
      obtain ⟨n0', sw1, ws1, rfl, rfl, h3_1⟩ := hd_sti h3_0
      obtain ⟨sw2, rfl, h3_2⟩ := hd_str h3_1
      obtain ⟨n1', sw3, ws3, rfl, rfl, h3_3⟩ := hd_sti h3_2
      obtain ⟨sw4, rfl, h3_4⟩ := hd_str h3_3
      obtain ⟨rfl, rfl⟩ := hd_st0 h3_4
      have hr9 := hd_ref0 h2
      obtain ⟨v0, e0, l0, u0⟩ := h4 _ (List.mem_cons_self)
      have g0 : 1 * m2.toInt + ((-1) * n1'.toInt + 0) = v0 := Option.some.inj e0
      obtain ⟨v1, e1, l1, u1⟩ := h4 _ (List.mem_cons_of_mem _ (List.mem_cons_self))
      have g1 : 277 * m1.toInt + (1 * m2.toInt + ((-1) * n0'.toInt + 0)) = v1 := Option.some.inj e1
      obtain ⟨v2, e2, l2, u2⟩ := h4 _ (List.mem_cons_of_mem _ (List.mem_cons_of_mem _ (List.mem_cons_self)))
      have g2 : 1 * m2.toInt + 0 = v2 := Option.some.inj e2
      obtain ⟨v3, e3, l3, u3⟩ := h4 _ (List.mem_cons_of_mem _ (List.mem_cons_of_mem _ (List.mem_cons_of_mem _ (List.mem_cons_self))))
      have g3 : 1 * m1.toInt + ((-1) * m1'.toInt + 0) = v3 := Option.some.inj e3
      obtain ⟨v4, e4, l4, u4⟩ := h4 _ (List.mem_cons_of_mem _ (List.mem_cons_of_mem _ (List.mem_cons_of_mem _ (List.mem_cons_of_mem _ (List.mem_cons_self)))))
      have g4 : 1 * m2.toInt + ((-1) * m2'.toInt + 0) = v4 := Option.some.inj e4
      exact cuta _ _ _ _ _ _ hr9 hm1 hm2 ⟨by rw [g0]; exact l0, by rw [g0]; exact u0⟩ ⟨by rw [g1]; exact l1, by rw [g1]; exact u1⟩ ⟨by rw [g2]; exact l2, by rw [g2]; exact u2⟩ ⟨by rw [g3]; exact l3, by rw [g3]; exact u3⟩ ⟨by rw [g4]; exact l4, by rw [g4]; exact u4⟩ h5
    · intro lw' sw' vs' ws' σ' ⟨h1_0, h2, h3_0, h4, h5⟩
      obtain ⟨m1', vs1, rfl, hm1, h1_1⟩ := hd_srcl h1_0
      obtain ⟨m2', vs2, rfl, hm2, h1_2⟩ := hd_srcl h1_1
      obtain rfl := hd_src0 h1_2
      obtain ⟨rfl, rfl⟩ := hd_st0 h3_0
      have hr9 := hd_ref0 h2
      obtain ⟨v0, e0, l0, u0⟩ := h4 _ (List.mem_cons_self)
      have g0 : 1 * m2.toInt + 0 = v0 := Option.some.inj e0
      obtain ⟨v1, e1, l1, u1⟩ := h4 _ (List.mem_cons_of_mem _ (List.mem_cons_self))
      have g1 : 1 * m1.toInt + ((-1) * m1'.toInt + 0) = v1 := Option.some.inj e1
      exact cutb _ _ _ _ hr9 hm1 hm2 ⟨by rw [g0]; exact l0, by rw [g0]; exact u0⟩ ⟨by rw [g1]; exact l1, by rw [g1]; exact u1⟩ h5
theorem sg_r3_run (G : sx_G0 g L xs zK hd_T ex_mt) (hct : ∀ (mi : Nat) (T2 : ex_T) (c' : sx_Ct), ex_mt mi = some T2 → c' ∈ k9 mi → c'.1 < 0 → sx_Holds g zK hd_T T2 c') {σ : am_S} {lw : List (Nat × Value)} {post : Option (Option Value) → am_S → Prop} (hM : sx_M zK hd_T σ 0 0 σ) (hl : (0, Value.ref 118) ∈ lw) {m1 : Int32} (hl1 : (1, Value.int m1) ∈ lw) (bl1 : 0 ≤ m1.toInt ∧ m1.toInt ≤ 1) {m2 : Int32} (hl2 : (2, Value.int m2) ∈ lw) (bl2 : 0 ≤ m2.toInt ∧ m2.toInt ≤ 276) (cuta : ∀ (lw' : List (Nat × Value)) (m1' : Int32) (m2' : Int32) (σ' : am_S), (0, Value.ref 118) ∈ lw' → (1, Value.int m1') ∈ lw' → (2, Value.int m2') ∈ lw' → (0 ≤ 1 * m1.toInt + ((-1) * m1'.toInt + 0) ∧ 1 * m1.toInt + ((-1) * m1'.toInt + 0) ≤ 0) → ((-1) ≤ 1 * m2.toInt + ((-1) * m2'.toInt + 0) ∧ 1 * m2.toInt + ((-1) * m2'.toInt + 0) ≤ (-1)) → sx_M zK hd_T σ 0 0 σ' → am_K g 12 tX12_restore.1 0 0 27 lw' [] σ' post) : am_K g 12 tX12_restore.1 0 0 52 lw [] σ post := by
  refine sg_seg (sw := []) (vs := [m1.toInt, m2.toInt]) (ws := []) G (mi := 157) rfl hct sg_r3_ok ⟨⟨m1, hl1, rfl⟩, ⟨⟨m2, hl2, rfl⟩, trivial⟩⟩ (hd_refs hl) trivial (hd_p1 rfl bl1.1 bl1.2 (hd_p1 rfl bl2.1 bl2.2 hd_p0)) hM ?_ ?_
  · intro r σ' hq
    cases r with
    | none => exact hq.elim
    | some v =>
      obtain ⟨p, hp, hM2, ks, hk, hv⟩ := hq
      cases hp
  · intro u hu
    simp only [List.mem_cons, List.not_mem_nil, or_false] at hu
    rcases hu with rfl
    · intro lw' sw' vs' ws' σ' ⟨h1_0, h2, h3_0, h4, h5⟩
      obtain ⟨m1', vs1, rfl, hm1, h1_1⟩ := hd_srcl h1_0
      obtain ⟨m2', vs2, rfl, hm2, h1_2⟩ := hd_srcl h1_1
      obtain rfl := hd_src0 h1_2
      obtain ⟨rfl, rfl⟩ := hd_st0 h3_0
      have hr9 := hd_ref0 h2
      obtain ⟨v0, e0, l0, u0⟩ := h4 _ (List.mem_cons_self)
      have g0 : 1 * m1.toInt + ((-1) * m1'.toInt + 0) = v0 := Option.some.inj e0
      obtain ⟨v1, e1, l1, u1⟩ := h4 _ (List.mem_cons_of_mem _ (List.mem_cons_self))
      have g1 : 1 * m2.toInt + ((-1) * m2'.toInt + 0) = v1 := Option.some.inj e1
      exact cuta _ _ _ _ hr9 hm1 hm2 ⟨by rw [g0]; exact l0, by rw [g0]; exact u0⟩ ⟨by rw [g1]; exact l1, by rw [g1]; exact u1⟩ h5
theorem sg_r4_run (G : sx_G0 g L xs z9 hd_C ex_mt) (hct : ∀ (mi : Nat) (T2 : ex_T) (c' : sx_Ct), ex_mt mi = some T2 → c' ∈ k9 mi → c'.1 < 60 → sx_Holds g z9 hd_C T2 c') {σ : am_S} {lw : List (Nat × Value)} {post : Option (Option Value) → am_S → Prop} (hM : sx_M z9 hd_C σ 0 0 σ) (hl : (0, Value.ref 118) ∈ lw)  (ret0 : ∀ (r : Int32) (σ' : am_S), (1 ≤ 1 * r.toInt + 0 ∧ 1 * r.toInt + 0 ≤ 1) → sx_M z9 hd_C σ 2462625387274654950767440006258975862817483704404090416746768337765357610718575663213391640930307227550414249394176 0 σ' → post (some (some (.int r))) σ') : am_K g 12 tX12_restore.1 0 0 58 lw [] σ post := by
  refine sg_seg (sw := []) (vs := []) (ws := []) G (mi := 157) rfl hct sg_r4_ok trivial (hd_refs hl) trivial hd_p0 hM ?_ ?_
  · intro r σ' hq
    cases r with
    | none => exact hq.elim
    | some v =>
      obtain ⟨p, hp, hM2, ks, hk, hv⟩ := hq
      simp only [List.mem_cons, List.not_mem_nil, or_false] at hp
      rcases hp with rfl
      · obtain rfl := hd_keys hk
        cases v with
        | none => exact hv.elim
        | some w9 =>
          obtain ⟨r, rfl, hP⟩ := hv
          obtain ⟨v0, e0, l0, u0⟩ := hP _ (List.mem_cons_self)
          have g0 : 1 * r.toInt + 0 = v0 := Option.some.inj e0
          exact ret0 r _ ⟨by rw [g0]; exact l0, by rw [g0]; exact u0⟩ hM2
  · intro u hu
    cases hu
end HR
