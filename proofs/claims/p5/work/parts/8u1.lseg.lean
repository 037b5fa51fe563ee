/-! segments of LOG (written by a program) -/
theorem hd_kd_118_35 {C9 : Nat → am_S → Prop} {cl : List sx_Cl} {cu : List (Nat × Nat × Nat × Nat)} {σe σ : am_S} {m : Nat} (h : sx_M (z9.1, z9.2.1, z9.2.2.1, z9.2.2.2.1, cl, cu, z9.2.2.2.2.2.2) C9 σe m 0 σ) : (0 : Int) ≤ (σ.2.1 118 35).toInt ∧ (σ.2.1 118 35).toInt ≤ (40 : Int) := h.2.2.1 118 35 _ _ 394 rfl
def sg_ln_1 : sg_Cu := (0, 0, [(0, .inr (some (false, 83))), (1, .inr (some (false, 3)))], ([.inl 2, .inl 3], [([(.ofNat 1, 0)], .negSucc 2147483647, .ofNat 2147483647), ([(.ofNat 1, 1)], .negSucc 2147483647, .ofNat 2147483647)]), [])
def sg_ln_1_a : sg_Cu := (3, 0, [(0, .inr (some (false, 83))), (1, .inr (some (false, 3)))], ([], [([(.ofNat 1, 1), (.negSucc 0, 2)], .ofNat 0, .ofNat 0), ([(.ofNat 1, 0), (.negSucc 0, 3)], .ofNat 0, .ofNat 0)]), [none, none, some (false, 3)])
theorem sg_ln_1_ok : sg_chk z9 ex_mt k9 60 tX2_readNumber 5 25 sg_ln_1 [] [sg_ln_1_a] = true := by decide +kernel
def sg_ln_2n : sg_Cu := (6, 0, [(0, .inr (some (false, 83))), (1, .inr (some (false, 3)))], ([], [([(.ofNat 1, 0)], .ofNat 0, .ofNat 0)]), [none])
def sg_ln_2n_p0 : sx_Po := (0, true, [], [([(.ofNat 1, 1)], .ofNat 0, .ofNat 0)])
theorem sg_ln_2n_ok : sg_chk z9 ex_mt k9 60 tX2_readNumber 4 25 sg_ln_2n [sg_ln_2n_p0] [] = true := by decide +kernel
def sg_ln_2 : sg_Cu := (6, 0, [(0, .inr (some (false, 83))), (1, .inr (some (false, 3)))], ([], [([(.ofNat 1, 0)], .ofNat 1, .ofNat 1)]), [none])
def sg_ln_2_a : sg_Cu := (27, 30354201441027016733116592294117482916287606860189680019559568902170379456331382784, [(0, .inr (some (false, 83))), (1, .inr (some (false, 3)))], ([], []), [some (false, 3)])
theorem sg_ln_2_ok : sg_chk z9 ex_mt k9 60 tX2_readNumber 22 25 sg_ln_2 [] [sg_ln_2_a] = true := by decide +kernel
def sg_ln_3 : sg_Cu := (30, 0, [(0, .inr (some (false, 83))), (1, .inr (some (false, 3)))], ([], []), [])
def sg_ln_3_p0 : sx_Po := (0, true, [], [([(.ofNat 1, 0)], .ofNat 1, .ofNat 1)])
theorem sg_ln_3_ok : sg_chk z9 ex_mt k9 60 tX2_readNumber 3 25 sg_ln_3 [sg_ln_3_p0] [] = true := by decide +kernel
def sg_lr1 : sg_Cu := (0, 0, [(0, .inr (some (false, 83))), (1, .inr (some (false, 3)))], ([], []), [])
def sg_lr1_a : sg_Cu := (3, 0, [(0, .inr (some (false, 83))), (1, .inr (some (false, 3)))], ([], []), [some (true, 14046), some (false, 3)])
theorem sg_lr1_ok : sg_chk z9 ex_mt k9 60 tX2_readLine 4 35 sg_lr1 [] [sg_lr1_a] = true := by decide +kernel
def sg_lr2n : sg_Cu := (6, 0, [(0, .inr (some (false, 83))), (1, .inr (some (false, 3)))], ([.inr 196612], [([(.ofNat 1, 0)], .negSucc 2147483647, .ofNat 2147483647), ([(.ofNat 1, 1)], .negSucc 0, .negSucc 0)]), [none])
def sg_lr2n_p0 : sx_Po := (402653184, true, [196615, 196616], [([(.ofNat 1, 2)], .ofNat 0, .ofNat 0), ([(.ofNat 1, 3)], .ofNat 1, .ofNat 1), ([(.ofNat 1, 0), (.negSucc 0, 4)], .ofNat 0, .ofNat 0)])
theorem sg_lr2n_ok : sg_chk z9 ex_mt k9 60 tX2_readLine 18 35 sg_lr2n [sg_lr2n_p0] [] = true := by decide +kernel
def sg_lr2f : sg_Cu := (6, 0, [(0, .inr (some (false, 83))), (1, .inr (some (false, 3)))], ([.inr 196612, .inr 5439490], [([(.ofNat 1, 0)], .negSucc 2147483647, .ofNat 2147483647), ([(.ofNat 1, 1)], .ofNat 40, .ofNat 40), ([(.ofNat 1, 2)], .ofNat 0, .ofNat 6)]), [none])
def sg_lr2f_p0 : sx_Po := (402653184, true, [196615, 196616], [([(.ofNat 1, 3)], .ofNat 0, .ofNat 0), ([(.ofNat 1, 4)], .ofNat 4, .ofNat 4), ([(.ofNat 1, 0), (.negSucc 0, 5)], .ofNat 0, .ofNat 0)])
theorem sg_lr2f_ok : sg_chk z9 ex_mt k9 60 tX2_readLine 22 35 sg_lr2f [sg_lr2f_p0] [] = true := by decide +kernel
def sg_lr2 : sg_Cu := (6, 0, [(0, .inr (some (false, 83))), (1, .inr (some (false, 3)))], ([.inr 5439490], [([(.ofNat 1, 0)], .ofNat 0, .ofNat 39), ([(.ofNat 1, 1)], .ofNat 0, .ofNat 6)]), [none])
def sg_lr2_a : sg_Cu := (58, 45531302161540525099674888441176224374431410290284520029339353353255569184497074176, [(0, .inr (some (false, 83))), (1, .inr (some (false, 3)))], ([.inl 2], [([(.ofNat 1, 1), (.negSucc 0, 2)], .ofNat 0, .ofNat 0)]), [some (false, 3)])
theorem sg_lr2_ok : sg_chk z9 ex_mt k9 60 tX2_readLine 45 35 sg_lr2 [] [sg_lr2_a] = true := by decide +kernel
def sg_lr3m : sg_Cu := (61, 0, [(0, .inr (some (false, 83))), (1, .inr (some (false, 3)))], ([.inl 2], [([(.ofNat 1, 0)], .ofNat 2, .ofNat 5)]), [])
def sg_lr3m_p0 : sx_Po := (0, true, [], [([(.ofNat 1, 1)], .ofNat 1, .ofNat 1)])
theorem sg_lr3m_ok : sg_chk z9 ex_mt k9 60 tX2_readLine 5 35 sg_lr3m [sg_lr3m_p0] [] = true := by decide +kernel
def sg_lr3t : sg_Cu := (61, 0, [(0, .inr (some (false, 83))), (1, .inr (some (false, 3)))], ([.inl 2], [([(.ofNat 1, 0)], .ofNat 0, .ofNat 0)]), [])
def sg_lr3t_a : sg_Cu := (101, 0, [(0, .inr (some (false, 83))), (1, .inr (some (false, 3)))], ([], [([(.ofNat 1, 1)], .ofNat 60, .ofNat 60), ([(.ofNat 1, 2)], .ofNat 0, .ofNat 0)]), [none, none, some (false, 3), some (false, 83)])
theorem sg_lr3t_ok : sg_chk z9 ex_mt k9 60 tX2_readLine 8 35 sg_lr3t [] [sg_lr3t_a] = true := by decide +kernel
def sg_lr3a : sg_Cu := (61, 0, [(0, .inr (some (false, 83))), (1, .inr (some (false, 3)))], ([.inl 2], [([(.ofNat 1, 0)], .ofNat 1, .ofNat 1)]), [])
def sg_lr3a_a : sg_Cu := (110, 0, [(0, .inr (some (false, 83))), (1, .inr (some (false, 3)))], ([], [([(.ofNat 1, 1)], .ofNat 9, .ofNat 9), ([(.ofNat 1, 2)], .ofNat 0, .ofNat 0)]), [none, none, some (false, 3), some (false, 83)])
theorem sg_lr3a_ok : sg_chk z9 ex_mt k9 60 tX2_readLine 8 35 sg_lr3a [] [sg_lr3a_a] = true := by decide +kernel
def sg_lr3w : sg_Cu := (61, 0, [(0, .inr (some (false, 83))), (1, .inr (some (false, 3)))], ([.inl 2], [([(.ofNat 1, 0)], .ofNat 6, .ofNat 6)]), [])
def sg_lr3w_a : sg_Cu := (119, 0, [(0, .inr (some (false, 83))), (1, .inr (some (false, 3)))], ([], [([(.ofNat 1, 1)], .ofNat 60, .ofNat 60), ([(.ofNat 1, 2)], .ofNat 1, .ofNat 1)]), [none, none, some (false, 3), some (false, 83)])
theorem sg_lr3w_ok : sg_chk z9 ex_mt k9 60 tX2_readLine 8 35 sg_lr3w [] [sg_lr3w_a] = true := by decide +kernel
def sg_lr4t : sg_Cu := (104, 0, [(0, .inr (some (false, 83))), (1, .inr (some (false, 3)))], ([], [([(.ofNat 1, 0)], .ofNat 0, .ofNat 1)]), [none])
def sg_lr4t_p0 : sx_Po := (0, true, [], [([(.ofNat 1, 0), (.negSucc 0, 1)], .ofNat 0, .ofNat 0)])
theorem sg_lr4t_ok : sg_chk z9 ex_mt k9 60 tX2_readLine 2 35 sg_lr4t [sg_lr4t_p0] [] = true := by decide +kernel
def sg_lr4a : sg_Cu := (113, 0, [(0, .inr (some (false, 83))), (1, .inr (some (false, 3)))], ([], [([(.ofNat 1, 0)], .ofNat 0, .ofNat 1)]), [none])
def sg_lr4a_p0 : sx_Po := (0, true, [], [([(.ofNat 1, 0), (.negSucc 0, 1)], .ofNat 0, .ofNat 0)])
theorem sg_lr4a_ok : sg_chk z9 ex_mt k9 60 tX2_readLine 2 35 sg_lr4a [sg_lr4a_p0] [] = true := by decide +kernel
def sg_lr4w : sg_Cu := (122, 0, [(0, .inr (some (false, 83))), (1, .inr (some (false, 3)))], ([], [([(.ofNat 1, 0)], .ofNat 0, .ofNat 1)]), [none])
def sg_lr4w_p0 : sx_Po := (0, true, [], [([(.ofNat 1, 0), (.negSucc 0, 1)], .ofNat 0, .ofNat 0)])
theorem sg_lr4w_ok : sg_chk z9 ex_mt k9 60 tX2_readLine 2 35 sg_lr4w [sg_lr4w_p0] [] = true := by decide +kernel
def sg_lf1 : sg_Cu := (0, 0, [(0, .inr (some (false, 83))), (1, .inr (some (false, 3)))], ([], []), [])
def sg_lf1_a : sg_Cu := (7, 237142198758023568227473377297792835283496928595231875152809132048206089502588928, [(0, .inr (some (false, 83))), (1, .inr (some (false, 3)))], ([.inl 2, .inr 5439490], [([(.ofNat 1, 0)], .ofNat 0, .ofNat 0), ([(.ofNat 1, 1)], .ofNat 0, .ofNat 0)]), [])
theorem sg_lf1_ok : sg_chk z9 ex_mt k9 60 tX2_readFrom 7 45 sg_lf1 [] [sg_lf1_a] = true := by decide +kernel
def sg_lf2e : sg_Cu := (7, 0, [(0, .inr (some (false, 83))), (1, .inr (some (false, 3)))], ([.inl 2, .inr 196611], [([(.ofNat 1, 0)], .ofNat 0, .ofNat 40), ([(.ofNat 1, 1)], .ofNat 0, .ofNat 0)]), [])
def sg_lf2e_p0 : sx_Po := (0, true, [], [([(.ofNat 1, 2)], .ofNat 1, .ofNat 1)])
theorem sg_lf2e_ok : sg_chk z9 ex_mt k9 60 tX2_readFrom 14 45 sg_lf2e [sg_lf2e_p0] [] = true := by decide +kernel
def sg_lf2m : sg_Cu := (7, 0, [(0, .inr (some (false, 83))), (1, .inr (some (false, 3)))], ([.inl 2, .inr 196611], [([(.ofNat 1, 0)], .ofNat 0, .ofNat 40), ([(.ofNat 1, 1)], .ofNat 1, .ofNat 4)]), [])
def sg_lf2m_a : sg_Cu := (22, 0, [(0, .inr (some (false, 83))), (1, .inr (some (false, 3)))], ([.inl 2], [([(.ofNat 1, 0), (.negSucc 0, 2)], .ofNat 0, .ofNat 0)]), [some (false, 3), some (false, 83)])
theorem sg_lf2m_ok : sg_chk z9 ex_mt k9 60 tX2_readFrom 16 45 sg_lf2m [] [sg_lf2m_a] = true := by decide +kernel
def sg_lf3n : sg_Cu := (25, 0, [(0, .inr (some (false, 83))), (1, .inr (some (false, 3)))], ([], [([(.ofNat 1, 0)], .ofNat 0, .ofNat 0)]), [none])
def sg_lf3n_p0 : sx_Po := (0, true, [], [([(.ofNat 1, 1)], .ofNat 0, .ofNat 0)])
theorem sg_lf3n_ok : sg_chk z9 ex_mt k9 60 tX2_readFrom 4 45 sg_lf3n [sg_lf3n_p0] [] = true := by decide +kernel
def sg_lf3y : sg_Cu := (25, 0, [(0, .inr (some (false, 83))), (1, .inr (some (false, 3)))], ([.inl 2], [([(.ofNat 1, 0)], .negSucc 2147483647, .ofNat 2147483647), ([(.ofNat 1, 1)], .ofNat 1, .ofNat 1)]), [none])
def sg_lf3y_a : sg_Cu := (31, 0, [(0, .inr (some (false, 83))), (1, .inr (some (false, 3)))], ([.inl 2], [([(.ofNat 1, 3)], .ofNat 59, .ofNat 59), ([(.ofNat 1, 0), (.negSucc 0, 2)], .ofNat 0, .ofNat 0)]), [none, some (false, 3)])
theorem sg_lf3y_ok : sg_chk z9 ex_mt k9 60 tX2_readFrom 5 45 sg_lf3y [] [sg_lf3y_a] = true := by decide +kernel
def sg_lf4n : sg_Cu := (34, 0, [(0, .inr (some (false, 83))), (1, .inr (some (false, 3)))], ([], [([(.ofNat 1, 0)], .ofNat 0, .ofNat 0)]), [none])
def sg_lf4n_p0 : sx_Po := (0, true, [], [([(.ofNat 1, 1)], .ofNat 0, .ofNat 0)])
theorem sg_lf4n_ok : sg_chk z9 ex_mt k9 60 tX2_readFrom 4 45 sg_lf4n [sg_lf4n_p0] [] = true := by decide +kernel
def sg_lf4y : sg_Cu := (34, 0, [(0, .inr (some (false, 83))), (1, .inr (some (false, 3)))], ([.inl 2, .inr 5439490], [([(.ofNat 1, 0)], .ofNat 0, .ofNat 40), ([(.ofNat 1, 1)], .ofNat 0, .ofNat 39), ([(.ofNat 1, 2)], .ofNat 1, .ofNat 1)]), [none])
def sg_lf4y_a : sg_Cu := (7, 237142198758023568227473377297792835283496928595231875152809132048206089502588928, [(0, .inr (some (false, 83))), (1, .inr (some (false, 3)))], ([.inl 2, .inr 5439490], [([(.ofNat 1, 0), (.negSucc 0, 3)], .negSucc 0, .negSucc 0), ([(.ofNat 1, 1), (.negSucc 0, 4)], .negSucc 0, .negSucc 0)]), [])
theorem sg_lf4y_ok : sg_chk z9 ex_mt k9 60 tX2_readFrom 11 45 sg_lf4y [] [sg_lf4y_a] = true := by decide +kernel
def sg_lg0a : sg_Cu := (0, 0, [(0, .inr (some (false, 0)))], ([.inl 1], [([(.ofNat 1, 0)], .negSucc 2147483647, .negSucc 0)]), [])
def sg_lg0a_p0 : sx_Po := (0, true, [], [([(.ofNat 1, 1)], .negSucc 999, .negSucc 999)])
theorem sg_lg0a_ok : sg_chk z9 ex_mt k9 60 tX11_log 8 60 sg_lg0a [sg_lg0a_p0] [] = true := by decide +kernel
def sg_lg0b : sg_Cu := (0, 0, [(0, .inr (some (false, 0)))], ([.inl 1], [([(.ofNat 1, 0)], .ofNat 2, .ofNat 2147483647)]), [])
def sg_lg0b_p0 : sx_Po := (0, true, [], [([(.ofNat 1, 1)], .negSucc 999, .negSucc 999)])
theorem sg_lg0b_ok : sg_chk z9 ex_mt k9 60 tX11_log 8 60 sg_lg0b [sg_lg0b_p0] [] = true := by decide +kernel
def sg_lg1 : sg_Cu := (0, 0, [(0, .inr (some (false, 0)))], ([.inl 1], [([(.ofNat 1, 0)], .ofNat 0, .ofNat 1)]), [])
def sg_lg1_a : sg_Cu := (20, 0, [(0, .inr (some (false, 0)))], ([.inl 1], [([(.ofNat 1, 2)], .ofNat 400, .ofNat 400), ([(.ofNat 1, 0), (.negSucc 0, 1)], .ofNat 0, .ofNat 0)]), [none, some (false, 3)])
theorem sg_lg1_ok : sg_chk z9 ex_mt k9 60 tX11_log 10 60 sg_lg1 [] [sg_lg1_a] = true := by decide +kernel
def sg_lg2 : sg_Cu := (23, 0, [(0, .inr (some (false, 0)))], ([.inl 1], [([(.ofNat 1, 0)], .ofNat 0, .ofNat 1)]), [])
def sg_lg2_a : sg_Cu := (31, 0, [(0, .inr (some (false, 0)))], ([.inl 1], [([(.ofNat 1, 0), (.negSucc 0, 1)], .ofNat 0, .ofNat 0)]), [some (false, 3), some (false, 83)])
theorem sg_lg2_ok : sg_chk z9 ex_mt k9 60 tX11_log 6 60 sg_lg2 [] [sg_lg2_a] = true := by decide +kernel
def sg_lg3n : sg_Cu := (34, 0, [(0, .inr (some (false, 0)))], ([.inl 1, .inr 196615, .inr 196616], [([(.ofNat 1, 0)], .negSucc 2147483647, .ofNat 2147483647), ([(.ofNat 1, 1)], .negSucc 2147483647, .ofNat 2147483647), ([(.ofNat 1, 2)], .ofNat 0, .ofNat 940), ([(.ofNat 1, 3)], .ofNat 0, .ofNat 0)]), [none])
def sg_lg3n_p0 : sx_Po := (327680, true, [65537, 16], [([(.ofNat 1, 2), (.ofNat 1, 4)], .negSucc 1, .negSucc 1), ([(.ofNat 1, 5)], .ofNat 0, .ofNat 0), ([(.ofNat 1, 1), (.negSucc 0, 6)], .ofNat 0, .ofNat 0)])
theorem sg_lg3n_ok : sg_chk z9 ex_mt k9 60 tX11_log 19 60 sg_lg3n [sg_lg3n_p0] [] = true := by decide +kernel
def sg_lg3y : sg_Cu := (34, 0, [(0, .inr (some (false, 0)))], ([.inl 1, .inr 196615], [([(.ofNat 1, 0)], .ofNat 0, .ofNat 1), ([(.ofNat 1, 1)], .negSucc 2147483647, .ofNat 2147483647), ([(.ofNat 1, 2)], .ofNat 1, .ofNat 1)]), [none])
def sg_lg3y_p0 : sx_Po := (14702816322997461230514549762216742892294043524768491061746962330322532220270870528, true, [65537, 16], [([(.ofNat 1, 3)], .negSucc 2147483647, .ofNat 2147483647), ([(.ofNat 1, 4)], .ofNat 0, .ofNat 0), ([(.ofNat 1, 1), (.negSucc 0, 5)], .ofNat 0, .ofNat 0)])
theorem sg_lg3y_ok : sg_chk z9 ex_mt k9 60 tX11_log 49 60 sg_lg3y [sg_lg3y_p0] [] = true := by decide +kernel
def sg_gl1 : sg_Cu := (0, 0, [(0, .inr (some (false, 118)))], ([.inr 7733283], [([(.ofNat 1, 0)], .ofNat 0, .ofNat 40)]), [])
def sg_gl1_a : sg_Cu := (8, 0, [(0, .inr (some (false, 118)))], ([.inl 1], [([(.ofNat 2, 0), (.negSucc 0, 1)], .ofNat 0, .ofNat 0)]), [some (false, 118)])
theorem sg_gl1_ok : sg_chk zK ex_mt k9 0 tX12_logLine 8 20 sg_gl1 [] [sg_gl1_a] = true := by decide +kernel
def sg_gl2n : sg_Cu := (11, 0, [(0, .inr (some (false, 118)))], ([.inr 7733258], [([(.ofNat 1, 0)], .negSucc 2147483647, .ofNat 2147483647), ([(.ofNat 1, 1)], .negSucc 0, .negSucc 0)]), [none])
def sg_gl2n_p0 : sx_Po := (28858891257124862704305937573347373392392387160985434571251191458187784500608308553281933292152037822856416985088, true, [7733261, 7733262], [([(.ofNat 1, 2)], .ofNat 0, .ofNat 0), ([(.ofNat 1, 3)], .ofNat 1, .ofNat 1), ([(.ofNat 1, 0), (.negSucc 0, 4)], .ofNat 0, .ofNat 0)])
theorem sg_gl2n_ok : sg_chk zK ex_mt k9 0 tX12_logLine 17 20 sg_gl2n [sg_gl2n_p0] [] = true := by decide +kernel
def sg_gl2f : sg_Cu := (11, 0, [(0, .inr (some (false, 118)))], ([.inr 7733258, .inr 7733283], [([(.ofNat 1, 0)], .negSucc 2147483647, .ofNat 2147483647), ([(.ofNat 1, 1)], .ofNat 40, .ofNat 40), ([(.ofNat 1, 2)], .ofNat 0, .ofNat 6)]), [none])
def sg_gl2f_p0 : sx_Po := (28858891257124862704305937573347373392392387160985434571251191458187784500608308553281933292152037822856416985088, true, [7733261, 7733262], [([(.ofNat 1, 3)], .ofNat 0, .ofNat 0), ([(.ofNat 1, 4)], .ofNat 4, .ofNat 4), ([(.ofNat 1, 0), (.negSucc 0, 5)], .ofNat 0, .ofNat 0)])
theorem sg_gl2f_ok : sg_chk zK ex_mt k9 0 tX12_logLine 21 20 sg_gl2f [sg_gl2f_p0] [] = true := by decide +kernel
def sg_gl2 : sg_Cu := (11, 0, [(0, .inr (some (false, 118)))], ([.inl 1, .inr 7733283], [([(.ofNat 1, 0)], .negSucc 2147483647, .ofNat 2147483647), ([(.ofNat 1, 1)], .ofNat 0, .ofNat 39), ([(.ofNat 1, 2)], .ofNat 0, .ofNat 6)]), [none])
def sg_gl2_a : sg_Cu := (43, 0, [(0, .inr (some (false, 118)))], ([.inl 1, .inl 2], [([(.ofNat 1, 2), (.negSucc 0, 5)], .ofNat 0, .ofNat 0), ([(.ofNat 1, 0), (.negSucc 0, 6)], .ofNat 0, .ofNat 0), ([(.ofNat 1, 2), (.negSucc 0, 4)], .ofNat 0, .ofNat 0), ([(.ofNat 1, 0), (.negSucc 0, 3)], .ofNat 0, .ofNat 0)]), [none, none, some (false, 122)])
theorem sg_gl2_ok : sg_chk zK ex_mt k9 0 tX12_logLine 13 20 sg_gl2 [] [sg_gl2_a] = true := by decide +kernel
def sg_gl3 : sg_Cu := (44, 0, [(0, .inr (some (false, 118)))], ([.inl 1, .inl 2], [([(.ofNat 1, 0)], .negSucc 2147483647, .ofNat 2147483647), ([(.ofNat 1, 1)], .negSucc 2147483647, .ofNat 2147483647)]), [])
def sg_gl3_a : sg_Cu := (45, 0, [(0, .inr (some (false, 118)))], ([.inl 1, .inl 2], [([(.ofNat 1, 0), (.negSucc 0, 2)], .ofNat 0, .ofNat 0), ([(.ofNat 1, 1), (.negSucc 0, 3)], .ofNat 0, .ofNat 0)]), [some (false, 118)])
theorem sg_gl3_ok : sg_chk zK ex_mt k9 0 tX12_logLine 3 20 sg_gl3 [] [sg_gl3_a] = true := by decide +kernel
def sg_gl4m : sg_Cu := (48, 0, [(0, .inr (some (false, 118)))], ([.inl 2], [([(.ofNat 1, 0)], .ofNat 2, .ofNat 5)]), [])
def sg_gl4m_p0 : sx_Po := (0, true, [], [([(.ofNat 1, 1)], .ofNat 1, .ofNat 1)])
theorem sg_gl4m_ok : sg_chk zK ex_mt k9 0 tX12_logLine 9 20 sg_gl4m [sg_gl4m_p0] [] = true := by decide +kernel
def sg_gl4t : sg_Cu := (48, 0, [(0, .inr (some (false, 118)))], ([.inl 1, .inl 2], [([(.ofNat 1, 0)], .negSucc 2147483647, .ofNat 2147483647), ([(.ofNat 1, 1)], .ofNat 0, .ofNat 0)]), [])
def sg_gl4t_a : sg_Cu := (85, 0, [(0, .inr (some (false, 118)))], ([.inl 1], [([(.ofNat 1, 3)], .ofNat 60, .ofNat 60), ([(.ofNat 1, 4)], .ofNat 0, .ofNat 0), ([(.ofNat 1, 0), (.negSucc 0, 2)], .ofNat 0, .ofNat 0)]), [none, none, some (false, 118)])
theorem sg_gl4t_ok : sg_chk zK ex_mt k9 0 tX12_logLine 14 20 sg_gl4t [] [sg_gl4t_a] = true := by decide +kernel
def sg_gl4a : sg_Cu := (48, 0, [(0, .inr (some (false, 118)))], ([.inl 1, .inl 2], [([(.ofNat 1, 0)], .negSucc 2147483647, .ofNat 2147483647), ([(.ofNat 1, 1)], .ofNat 1, .ofNat 1)]), [])
def sg_gl4a_a : sg_Cu := (85, 0, [(0, .inr (some (false, 118)))], ([.inl 1], [([(.ofNat 1, 3)], .ofNat 9, .ofNat 9), ([(.ofNat 1, 4)], .ofNat 0, .ofNat 0), ([(.ofNat 1, 0), (.negSucc 0, 2)], .ofNat 0, .ofNat 0)]), [none, none, some (false, 118)])
theorem sg_gl4a_ok : sg_chk zK ex_mt k9 0 tX12_logLine 15 20 sg_gl4a [] [sg_gl4a_a] = true := by decide +kernel
def sg_gl4w : sg_Cu := (48, 0, [(0, .inr (some (false, 118)))], ([.inl 1, .inl 2], [([(.ofNat 1, 0)], .negSucc 2147483647, .ofNat 2147483647), ([(.ofNat 1, 1)], .ofNat 6, .ofNat 6)]), [])
def sg_gl4w_a : sg_Cu := (85, 0, [(0, .inr (some (false, 118)))], ([.inl 1], [([(.ofNat 1, 3)], .ofNat 60, .ofNat 60), ([(.ofNat 1, 4)], .ofNat 1, .ofNat 1), ([(.ofNat 1, 0), (.negSucc 0, 2)], .ofNat 0, .ofNat 0)]), [none, none, some (false, 118)])
theorem sg_gl4w_ok : sg_chk zK ex_mt k9 0 tX12_logLine 18 20 sg_gl4w [] [sg_gl4w_a] = true := by decide +kernel
def sg_gl5n : sg_Cu := (88, 0, [(0, .inr (some (false, 118)))], ([], [([(.ofNat 1, 0)], .ofNat 0, .ofNat 0)]), [none])
def sg_gl5n_p0 : sx_Po := (0, true, [], [([(.ofNat 1, 1)], .ofNat 0, .ofNat 0)])
theorem sg_gl5n_ok : sg_chk zK ex_mt k9 0 tX12_logLine 4 20 sg_gl5n [sg_gl5n_p0] [] = true := by decide +kernel
def sg_gl5 : sg_Cu := (88, 0, [(0, .inr (some (false, 118)))], ([.inl 1, .inr 7733264], [([(.ofNat 1, 0)], .ofNat 0, .ofNat 78), ([(.ofNat 1, 1)], .negSucc 2147483647, .ofNat 2147483647), ([(.ofNat 1, 2)], .ofNat 1, .ofNat 1)]), [none])
def sg_gl5_a : sg_Cu := (104, 0, [(0, .inr (some (false, 118)))], ([], [([(.ofNat 1, 1), (.negSucc 0, 3)], .ofNat 0, .ofNat 0), ([(.ofNat 1, 0), (.negSucc 0, 4)], .negSucc 0, .negSucc 0)]), [none, none, some (false, 122)])
theorem sg_gl5_ok : sg_chk zK ex_mt k9 0 tX12_logLine 10 20 sg_gl5 [] [sg_gl5_a] = true := by decide +kernel
def sg_gl6 : sg_Cu := (105, 0, [(0, .inr (some (false, 118)))], ([], []), [])
def sg_gl6_p0 : sx_Po := (0, true, [], [([(.ofNat 1, 0)], .ofNat 1, .ofNat 1)])
theorem sg_gl6_ok : sg_chk zK ex_mt k9 0 tX12_logLine 3 20 sg_gl6 [sg_gl6_p0] [] = true := by decide +kernel
def sg_go0a : sg_Cu := (0, 0, [(0, .inr (some (false, 118)))], ([.inl 1], [([(.ofNat 1, 0)], .negSucc 2147483647, .negSucc 0)]), [])
def sg_go0a_p0 : sx_Po := (1174271291386916613944740298394668513687841274454159935353645485766104512557304221731849499192384351515967488, true, [], [([(.ofNat 1, 1)], .negSucc 999, .negSucc 999)])
theorem sg_go0a_ok : sg_chk zK ex_mt k9 0 tX12_log 16 30 sg_go0a [sg_go0a_p0] [] = true := by decide +kernel
def sg_go0b : sg_Cu := (0, 0, [(0, .inr (some (false, 118)))], ([.inl 1], [([(.ofNat 1, 0)], .ofNat 2, .ofNat 2147483647)]), [])
def sg_go0b_p0 : sx_Po := (1174271291386916613944740298394668513687841274454159935353645485766104512557304221731849499192384351515967488, true, [], [([(.ofNat 1, 1)], .negSucc 999, .negSucc 999)])
theorem sg_go0b_ok : sg_chk zK ex_mt k9 0 tX12_log 19 30 sg_go0b [sg_go0b_p0] [] = true := by decide +kernel
def sg_go1 : sg_Cu := (0, 0, [(0, .inr (some (false, 118)))], ([.inl 1, .inr 7733250], [([(.ofNat 1, 0)], .ofNat 0, .ofNat 1), ([(.ofNat 1, 1)], .ofNat 0, .ofNat 940)]), [])
def sg_go1_a : sg_Cu := (36, 40347664036368914529596551948488743187600896478710655458160998919583813121673685801519950597956070450934040123353858048, [(0, .inr (some (false, 118)))], ([.inl 1, .inr 7733250, .inr 7733251, .inr 7733252, .inr 7733253, .inr 7733261, .inr 7733283], [([(.ofNat 1, 3)], .ofNat 0, .ofNat 0), ([(.ofNat 1, 1), (.negSucc 0, 4)], .ofNat 0, .ofNat 0), ([(.ofNat 1, 5)], .ofNat 0, .ofNat 0), ([(.ofNat 1, 6)], .ofNat 400, .ofNat 400), ([(.ofNat 1, 7)], .ofNat 0, .ofNat 0), ([(.ofNat 1, 8)], .ofNat 0, .ofNat 0), ([(.ofNat 1, 0), (.negSucc 0, 2)], .ofNat 0, .ofNat 0)]), [some (false, 118)])
theorem sg_go1_ok : sg_chk zK ex_mt k9 0 tX12_log 43 30 sg_go1 [] [sg_go1_a] = true := by decide +kernel
def sg_go2e : sg_Cu := (39, 0, [(0, .inr (some (false, 118)))], ([.inl 1, .inr 7733257], [([(.ofNat 1, 0)], .ofNat 0, .ofNat 1), ([(.ofNat 1, 1)], .ofNat 0, .ofNat 0)]), [])
def sg_go2e_a : sg_Cu := (83, 0, [(0, .inr (some (false, 118)))], ([.inl 1], [([(.ofNat 1, 0), (.negSucc 0, 2)], .ofNat 0, .ofNat 0)]), [])
theorem sg_go2e_ok : sg_chk zK ex_mt k9 0 tX12_log 5 30 sg_go2e [] [sg_go2e_a] = true := by decide +kernel
def sg_go2m : sg_Cu := (39, 0, [(0, .inr (some (false, 118)))], ([.inl 1, .inr 7733257], [([(.ofNat 1, 0)], .ofNat 0, .ofNat 1), ([(.ofNat 1, 1)], .ofNat 1, .ofNat 4)]), [])
def sg_go2m_a : sg_Cu := (47, 0, [(0, .inr (some (false, 118)))], ([.inl 1], [([(.ofNat 1, 0), (.negSucc 0, 2)], .ofNat 0, .ofNat 0)]), [some (false, 118)])
theorem sg_go2m_ok : sg_chk zK ex_mt k9 0 tX12_log 6 30 sg_go2m [] [sg_go2m_a] = true := by decide +kernel
def sg_go3n : sg_Cu := (50, 0, [(0, .inr (some (false, 118)))], ([.inr 7733262], [([(.ofNat 1, 0)], .ofNat 0, .ofNat 940), ([(.ofNat 1, 1)], .ofNat 0, .ofNat 0)]), [none])
def sg_go3n_p0 : sx_Po := (0, true, [], [([(.ofNat 1, 0), (.ofNat 1, 2)], .negSucc 1, .negSucc 1)])
theorem sg_go3n_ok : sg_chk zK ex_mt k9 0 tX12_log 7 30 sg_go3n [sg_go3n_p0] [] = true := by decide +kernel
def sg_go3 : sg_Cu := (50, 0, [(0, .inr (some (false, 118)))], ([.inl 1], [([(.ofNat 1, 0)], .ofNat 0, .ofNat 1), ([(.ofNat 1, 1)], .ofNat 1, .ofNat 1)]), [none])
def sg_go3_a : sg_Cu := (56, 0, [(0, .inr (some (false, 118)))], ([.inl 1], [([(.ofNat 1, 3)], .ofNat 59, .ofNat 59), ([(.ofNat 1, 0), (.negSucc 0, 2)], .ofNat 0, .ofNat 0)]), [none, some (false, 118)])
theorem sg_go3_ok : sg_chk zK ex_mt k9 0 tX12_log 5 30 sg_go3 [] [sg_go3_a] = true := by decide +kernel
def sg_go4n : sg_Cu := (59, 0, [(0, .inr (some (false, 118)))], ([.inr 7733262], [([(.ofNat 1, 0)], .ofNat 0, .ofNat 940), ([(.ofNat 1, 1)], .ofNat 0, .ofNat 0)]), [none])
def sg_go4n_p0 : sx_Po := (0, true, [], [([(.ofNat 1, 0), (.ofNat 1, 2)], .negSucc 1, .negSucc 1)])
theorem sg_go4n_ok : sg_chk zK ex_mt k9 0 tX12_log 7 30 sg_go4n [sg_go4n_p0] [] = true := by decide +kernel
def sg_go4 : sg_Cu := (59, 0, [(0, .inr (some (false, 118)))], ([.inl 1, .inr 7733283], [([(.ofNat 1, 0)], .ofNat 0, .ofNat 1), ([(.ofNat 1, 1)], .ofNat 0, .ofNat 39), ([(.ofNat 1, 2)], .ofNat 1, .ofNat 1)]), [none])
def sg_go4_a : sg_Cu := (39, 40347654345107946713373737062547060536401653012956617387979052445947619094013143666088208645002153616185987062074179584, [(0, .inr (some (false, 118)))], ([.inl 1, .inr 7733283], [([(.ofNat 1, 1), (.negSucc 0, 4)], .negSucc 0, .negSucc 0), ([(.ofNat 1, 0), (.negSucc 0, 3)], .ofNat 0, .ofNat 0)]), [])
theorem sg_go4_ok : sg_chk zK ex_mt k9 0 tX12_log 10 30 sg_go4 [] [sg_go4_a] = true := by decide +kernel
def sg_gp1 : sg_Cu := (83, 0, [(0, .inr (some (false, 118)))], ([.inl 1], [([(.ofNat 1, 0)], .ofNat 0, .ofNat 1)]), [])
def sg_gp1_a : sg_Cu := (145, 25016668558489289307341198112971408891575191756551516859326408213560352039799801444050031134510756948571816207795178464335982508226796551975993344, [(0, .inr (some (false, 118)))], ([.inl 1, .inl 2, .inl 3, .inl 4], [([(.ofNat 1, 3)], .negSucc 0, .negSucc 0), ([(.ofNat 1, 4)], .ofNat 0, .ofNat 0), ([(.ofNat 1, 0), (.negSucc 0, 1)], .ofNat 0, .ofNat 0)]), [])
theorem sg_gp1_ok : sg_chk z9 ex_mt k9 60 tX12_log 571 30 sg_gp1 [] [sg_gp1_a] = true := by decide +kernel
def sg_gp4 : sg_Cu := (145, 0, [(0, .inr (some (false, 118)))], ([.inl 1, .inl 2, .inl 3, .inl 4, .inr 7733283], [([(.ofNat 1, 0)], .ofNat 0, .ofNat 1), ([(.ofNat 1, 1)], .negSucc 2147483647, .ofNat 2147483647), ([(.ofNat 1, 2)], .negSucc 2147483647, .negSucc 0), ([(.ofNat 1, 3)], .ofNat 0, .ofNat 39), ([(.ofNat 1, 4)], .ofNat 0, .ofNat 40), ([(.ofNat 1, 3), (.negSucc 0, 4)], .negSucc 4611686018427387903, .negSucc 0)]), [])
def sg_gp4_a : sg_Cu := (145, 24973988402527938522558719383230179250135970363472853632885359869583550709658648391066046808682891349272416927317557053625517710149233834780000256, [(0, .inr (some (false, 118)))], ([.inl 1, .inl 2, .inl 3, .inl 4], [([(.ofNat 1, 3), (.negSucc 0, 8)], .negSucc 0, .negSucc 0), ([(.ofNat 1, 0), (.negSucc 0, 5)], .ofNat 0, .ofNat 0), ([(.ofNat 1, 2), (.negSucc 0, 7)], .ofNat 0, .ofNat 0)]), [])
def sg_gp4_b : sg_Cu := (145, 24973988402527938522558719383230179250135970363472853632885359869583550709658648391066046808682891349272416927317557053625517710149233834780000256, [(0, .inr (some (false, 118)))], ([.inl 1, .inl 2, .inl 3, .inl 4], [([(.ofNat 1, 3), (.negSucc 0, 8)], .negSucc 0, .negSucc 0), ([(.ofNat 1, 7)], .ofNat 0, .ofNat 39), ([(.ofNat 1, 0), (.negSucc 0, 5)], .ofNat 0, .ofNat 0)]), [])
theorem sg_gp4_ok : sg_chk z9 ex_mt k9 60 tX12_log 43 30 sg_gp4 [] [sg_gp4_a, sg_gp4_b] = true := by decide +kernel
def sg_gp4x : sg_Cu := (145, 0, [(0, .inr (some (false, 118)))], ([.inl 1, .inl 2, .inl 3, .inl 4, .inr 7733283], [([(.ofNat 1, 0)], .ofNat 0, .ofNat 1), ([(.ofNat 1, 1)], .negSucc 2147483647, .ofNat 2147483647), ([(.ofNat 1, 2)], .negSucc 2147483647, .ofNat 2147483647), ([(.ofNat 1, 3)], .ofNat 0, .ofNat 40), ([(.ofNat 1, 4)], .ofNat 0, .ofNat 40), ([(.ofNat 1, 3), (.negSucc 0, 4)], .ofNat 0, .ofNat 4611686018427387904)]), [])
def sg_gp4x_a : sg_Cu := (219, 0, [(0, .inr (some (false, 118)))], ([.inl 1, .inl 2, .inl 3], [([(.ofNat 1, 0), (.negSucc 0, 5)], .ofNat 0, .ofNat 0), ([(.ofNat 1, 2), (.negSucc 0, 7)], .ofNat 0, .ofNat 0)]), [])
theorem sg_gp4x_ok : sg_chk z9 ex_mt k9 60 tX12_log 6 30 sg_gp4x [] [sg_gp4x_a] = true := by decide +kernel
def sg_gp4y : sg_Cu := (145, 0, [(0, .inr (some (false, 118)))], ([.inl 1, .inl 2, .inl 3, .inl 4, .inr 7733283], [([(.ofNat 1, 0)], .ofNat 0, .ofNat 1), ([(.ofNat 1, 1)], .negSucc 2147483647, .ofNat 2147483647), ([(.ofNat 1, 2)], .ofNat 0, .ofNat 2147483647), ([(.ofNat 1, 3)], .ofNat 0, .ofNat 40), ([(.ofNat 1, 4)], .ofNat 0, .ofNat 40)]), [])
def sg_gp4y_a : sg_Cu := (219, 0, [(0, .inr (some (false, 118)))], ([.inl 1, .inl 2, .inl 3], [([(.ofNat 1, 0), (.negSucc 0, 5)], .ofNat 0, .ofNat 0), ([(.ofNat 1, 2), (.negSucc 0, 7)], .ofNat 0, .ofNat 0)]), [])
theorem sg_gp4y_ok : sg_chk z9 ex_mt k9 60 tX12_log 8 30 sg_gp4y [] [sg_gp4y_a] = true := by decide +kernel
def sg_gp5a : sg_Cu := (219, 0, [(0, .inr (some (false, 118)))], ([.inl 1, .inl 2, .inl 3], [([(.ofNat 1, 0)], .ofNat 1, .ofNat 1), ([(.ofNat 1, 1)], .negSucc 2147483647, .ofNat 2147483647), ([(.ofNat 1, 2)], .negSucc 2147483647, .ofNat 2147483647)]), [])
def sg_gp5a_p0 : sx_Po := (24980085567301854411231891736553188325804759613336056738503119559268426650676061313965503887830627860341198443181766191320338160266536254114365440, true, [], [([(.ofNat 1, 2), (.negSucc 0, 3)], .ofNat 0, .ofNat 0)])
theorem sg_gp5a_ok : sg_chk z9 ex_mt k9 60 tX12_log 721 30 sg_gp5a [sg_gp5a_p0] [] = true := by decide +kernel
def sg_gp5b : sg_Cu := (219, 0, [(0, .inr (some (false, 118)))], ([.inl 1, .inl 2, .inl 3], [([(.ofNat 1, 0)], .ofNat 0, .ofNat 0), ([(.ofNat 1, 1)], .negSucc 2147483647, .ofNat 2147483647), ([(.ofNat 1, 2)], .negSucc 2147483647, .ofNat 2147483647)]), [])
def sg_gp5b_p0 : sx_Po := (24973988402527938522558719544620796630567757216967801883073602015190162761485117942982256592473367725324991591670391633634132174893182083076718592, true, [], [([(.ofNat 1, 2), (.negSucc 0, 3)], .ofNat 0, .ofNat 0)])
theorem sg_gp5b_ok : sg_chk z9 ex_mt k9 60 tX12_log 544 30 sg_gp5b [sg_gp5b_p0] [] = true := by decide +kernel
section HR
variable {g : am_C} {L : Nat} {xs : Nat → Int32}
theorem sg_ln_1_run (G : sx_G0 g L xs z9 hd_C ex_mt) (hct : ∀ (mi : Nat) (T2 : ex_T) (c' : sx_Ct), ex_mt mi = some T2 → c' ∈ k9 mi → c'.1 < 60 → sx_Holds g z9 hd_C T2 c') {σ : am_S} {lw : List (Nat × Value)} {post : Option (Option Value) → am_S → Prop} (hM : sx_M z9 hd_C σ 0 0 σ) (hl : (0, Value.ref 83) ∈ lw) (hlr1 : (1, Value.ref 3) ∈ lw) {m2 : Int32} (hl2 : (2, Value.int m2) ∈ lw) {m3 : Int32} (hl3 : (3, Value.int m3) ∈ lw) (cuta : ∀ (lw' : List (Nat × Value)) (n0' : Int32) (n1' : Int32) (σ' : am_S), (0, Value.ref 83) ∈ lw' → (1, Value.ref 3) ∈ lw' → (0 ≤ 1 * m3.toInt + ((-1) * n0'.toInt + 0) ∧ 1 * m3.toInt + ((-1) * n0'.toInt + 0) ≤ 0) → (0 ≤ 1 * m2.toInt + ((-1) * n1'.toInt + 0) ∧ 1 * m2.toInt + ((-1) * n1'.toInt + 0) ≤ 0) → sx_M z9 hd_C σ 0 0 σ' → am_K g 25 tX2_readNumber.1 0 0 3 lw' [.int n0', .int n1', .ref 3] σ' post) : am_K g 25 tX2_readNumber.1 0 0 0 lw [] σ post := by
  refine sg_seg (sw := []) (vs := [m2.toInt, m3.toInt]) (ws := []) G (mi := 200) rfl hct sg_ln_1_ok ⟨⟨m2, hl2, rfl⟩, ⟨⟨m3, hl3, rfl⟩, trivial⟩⟩ (hd_rfc hl (hd_rfc hlr1 hd_rfn)) trivial (hd_p1 rfl (Int32.le_toInt _) (Int32.toInt_le _) (hd_p1 rfl (Int32.le_toInt _) (Int32.toInt_le _) hd_p0)) hM ?_ ?_
  · intro r σ' hq
    cases r with
    | none => exact hq.elim
    | some v =>
      obtain ⟨p, hp, hM2, ks, hk, hv⟩ := hq
      cases hp
  · intro u hu
    simp only [List.mem_cons, List.not_mem_nil, or_false] at hu
    rcases hu with rfl
    · intro lw' sw' vs' ws' σ' ⟨h1_0, h2, h3_0, h4, h5⟩
      obtain rfl := hd_src0 h1_0
      obtain ⟨n0', sw1, ws1, rfl, rfl, h3_1⟩ := hd_sti h3_0
      obtain ⟨n1', sw2, ws2, rfl, rfl, h3_2⟩ := hd_sti h3_1
      obtain ⟨sw3, rfl, h3_3⟩ := hd_str h3_2
      obtain ⟨rfl, rfl⟩ := hd_st0 h3_3
      have hr9_0 := hd_rfh h2
      have hr9_1 := hd_rfh (hd_rfT h2)
      obtain ⟨v0, e0, l0, u0⟩ := h4 _ (List.mem_cons_self)
      have g0 : 1 * m3.toInt + ((-1) * n0'.toInt + 0) = v0 := Option.some.inj e0
      obtain ⟨v1, e1, l1, u1⟩ := h4 _ (List.mem_cons_of_mem _ (List.mem_cons_self))
      have g1 : 1 * m2.toInt + ((-1) * n1'.toInt + 0) = v1 := Option.some.inj e1
      exact cuta _ _ _ _ hr9_0 hr9_1  ⟨by rw [g0]; exact l0, by rw [g0]; exact u0⟩ ⟨by rw [g1]; exact l1, by rw [g1]; exact u1⟩ h5
theorem sg_ln_2n_run (G : sx_G0 g L xs z9 hd_C ex_mt) (hct : ∀ (mi : Nat) (T2 : ex_T) (c' : sx_Ct), ex_mt mi = some T2 → c' ∈ k9 mi → c'.1 < 60 → sx_Holds g z9 hd_C T2 c') {σ : am_S} {lw : List (Nat × Value)} {post : Option (Option Value) → am_S → Prop} (hM : sx_M z9 hd_C σ 0 0 σ) (hl : (0, Value.ref 83) ∈ lw) (hlr1 : (1, Value.ref 3) ∈ lw) {n0 : Int32} (bk0 : 0 ≤ n0.toInt ∧ n0.toInt ≤ 0) (ret0 : ∀ (r : Int32) (σ' : am_S), (0 ≤ 1 * r.toInt + 0 ∧ 1 * r.toInt + 0 ≤ 0) → sx_M z9 hd_C σ 0 0 σ' → post (some (some (.int r))) σ') : am_K g 25 tX2_readNumber.1 0 0 6 lw [.int n0] σ post := by
  refine sg_seg (sw := [.int n0]) (vs := []) (ws := [n0.toInt]) G (mi := 200) rfl hct sg_ln_2n_ok trivial (hd_rfc hl (hd_rfc hlr1 hd_rfn)) ⟨⟨n0, rfl, rfl⟩, trivial⟩ (hd_p1 rfl bk0.1 bk0.2 hd_p0) hM ?_ ?_
  · intro r σ' hq
    cases r with
    | none => exact hq.elim
    | some v =>
      obtain ⟨p, hp, hM2, ks, hk, hv⟩ := hq
      simp only [List.mem_cons, List.not_mem_nil, or_false] at hp
      rcases hp with rfl
      · obtain rfl := hd_keys hk
        cases v with
        | none => exact hv.elim
        | some w9 =>
          obtain ⟨r, rfl, hP⟩ := hv
          obtain ⟨v0, e0, l0, u0⟩ := hP _ (List.mem_cons_self)
          have g0 : 1 * r.toInt + 0 = v0 := Option.some.inj e0
          exact ret0 r _ ⟨by rw [g0]; exact l0, by rw [g0]; exact u0⟩ hM2
  · intro u hu
    cases hu
theorem sg_ln_2_run (G : sx_G0 g L xs z9 hd_C ex_mt) (hct : ∀ (mi : Nat) (T2 : ex_T) (c' : sx_Ct), ex_mt mi = some T2 → c' ∈ k9 mi → c'.1 < 60 → sx_Holds g z9 hd_C T2 c') {σ : am_S} {lw : List (Nat × Value)} {post : Option (Option Value) → am_S → Prop} (hM : sx_M z9 hd_C σ 0 0 σ) (hl : (0, Value.ref 83) ∈ lw) (hlr1 : (1, Value.ref 3) ∈ lw) {n0 : Int32} (bk0 : 1 ≤ n0.toInt ∧ n0.toInt ≤ 1) (cuta : ∀ (lw' : List (Nat × Value))  (σ' : am_S), (0, Value.ref 83) ∈ lw' → (1, Value.ref 3) ∈ lw' → sx_M z9 hd_C σ 30354201441027016733116592294117482916287606860189680019559568902170379456331382784 0 σ' → am_K g 25 tX2_readNumber.1 0 0 27 lw' [.ref 3] σ' post) : am_K g 25 tX2_readNumber.1 0 0 6 lw [.int n0] σ post := by
  refine sg_seg (sw := [.int n0]) (vs := []) (ws := [n0.toInt]) G (mi := 200) rfl hct sg_ln_2_ok trivial (hd_rfc hl (hd_rfc hlr1 hd_rfn)) ⟨⟨n0, rfl, rfl⟩, trivial⟩ (hd_p1 rfl bk0.1 bk0.2 hd_p0) hM ?_ ?_
  · intro r σ' hq
    cases r with
    | none => exact hq.elim
    | some v =>
      obtain ⟨p, hp, hM2, ks, hk, hv⟩ := hq
      cases hp
  · intro u hu
    simp only [List.mem_cons, List.not_mem_nil, or_false] at hu
    rcases hu with rfl
    · intro lw' sw' vs' ws' σ' ⟨h1_0, h2, h3_0, h4, h5⟩
      obtain rfl := hd_src0 h1_0
      obtain ⟨sw1, rfl, h3_1⟩ := hd_str h3_0
      obtain ⟨rfl, rfl⟩ := hd_st0 h3_1
      have hr9_0 := hd_rfh h2
      have hr9_1 := hd_rfh (hd_rfT h2)
      exact cuta _  _ hr9_0 hr9_1   h5
theorem sg_ln_3_run (G : sx_G0 g L xs z9 hd_C ex_mt) (hct : ∀ (mi : Nat) (T2 : ex_T) (c' : sx_Ct), ex_mt mi = some T2 → c' ∈ k9 mi → c'.1 < 60 → sx_Holds g z9 hd_C T2 c') {σ : am_S} {lw : List (Nat × Value)} {post : Option (Option Value) → am_S → Prop} (hM : sx_M z9 hd_C σ 0 0 σ) (hl : (0, Value.ref 83) ∈ lw) (hlr1 : (1, Value.ref 3) ∈ lw)  (ret0 : ∀ (r : Int32) (σ' : am_S), (1 ≤ 1 * r.toInt + 0 ∧ 1 * r.toInt + 0 ≤ 1) → sx_M z9 hd_C σ 0 0 σ' → post (some (some (.int r))) σ') : am_K g 25 tX2_readNumber.1 0 0 30 lw [] σ post := by
  refine sg_seg (sw := []) (vs := []) (ws := []) G (mi := 200) rfl hct sg_ln_3_ok trivial (hd_rfc hl (hd_rfc hlr1 hd_rfn)) trivial hd_p0 hM ?_ ?_
  · intro r σ' hq
    cases r with
    | none => exact hq.elim
    | some v =>
      obtain ⟨p, hp, hM2, ks, hk, hv⟩ := hq
      simp only [List.mem_cons, List.not_mem_nil, or_false] at hp
      rcases hp with rfl
      · obtain rfl := hd_keys hk
        cases v with
        | none => exact hv.elim
        | some w9 =>
          obtain ⟨r, rfl, hP⟩ := hv
          obtain ⟨v0, e0, l0, u0⟩ := hP _ (List.mem_cons_self)
          have g0 : 1 * r.toInt + 0 = v0 := Option.some.inj e0
          exact ret0 r _ ⟨by rw [g0]; exact l0, by rw [g0]; exact u0⟩ hM2
  · intro u hu
    cases hu
theorem sg_lr1_run (G : sx_G0 g L xs z9 hd_C ex_mt) (hct : ∀ (mi : Nat) (T2 : ex_T) (c' : sx_Ct), ex_mt mi = some T2 → c' ∈ k9 mi → c'.1 < 60 → sx_Holds g z9 hd_C T2 c') {σ : am_S} {lw : List (Nat × Value)} {post : Option (Option Value) → am_S → Prop} (hM : sx_M z9 hd_C σ 0 0 σ) (hl : (0, Value.ref 83) ∈ lw) (hlr1 : (1, Value.ref 3) ∈ lw)  (cuta : ∀ (lw' : List (Nat × Value))  (σ' : am_S), (0, Value.ref 83) ∈ lw' → (1, Value.ref 3) ∈ lw' → sx_M z9 hd_C σ 0 0 σ' → am_K g 35 tX2_readLine.1 0 0 3 lw' [.retAddr 14046, .ref 3] σ' post) : am_K g 35 tX2_readLine.1 0 0 0 lw [] σ post := by
  refine sg_seg (sw := []) (vs := []) (ws := []) G (mi := 199) rfl hct sg_lr1_ok trivial (hd_rfc hl (hd_rfc hlr1 hd_rfn)) trivial hd_p0 hM ?_ ?_
  · intro r σ' hq
    cases r with
    | none => exact hq.elim
    | some v =>
      obtain ⟨p, hp, hM2, ks, hk, hv⟩ := hq
      cases hp
  · intro u hu
    simp only [List.mem_cons, List.not_mem_nil, or_false] at hu
    rcases hu with rfl
    · intro lw' sw' vs' ws' σ' ⟨h1_0, h2, h3_0, h4, h5⟩
      obtain rfl := hd_src0 h1_0
      obtain ⟨sw1, rfl, h3_1⟩ := hd_strx h3_0
      obtain ⟨sw2, rfl, h3_2⟩ := hd_str h3_1
      obtain ⟨rfl, rfl⟩ := hd_st0 h3_2
      have hr9_0 := hd_rfh h2
      have hr9_1 := hd_rfh (hd_rfT h2)
      exact cuta _  _ hr9_0 hr9_1   h5
theorem sg_lr2n_run (G : sx_G0 g L xs z9 hd_C ex_mt) (hct : ∀ (mi : Nat) (T2 : ex_T) (c' : sx_Ct), ex_mt mi = some T2 → c' ∈ k9 mi → c'.1 < 60 → sx_Holds g z9 hd_C T2 c') {σ : am_S} {lw : List (Nat × Value)} {post : Option (Option Value) → am_S → Prop} (hM : sx_M z9 hd_C σ 0 0 σ) (hl : (0, Value.ref 83) ∈ lw) (hlr1 : (1, Value.ref 3) ∈ lw) {n0 : Int32} (bk0 : (-1) ≤ n0.toInt ∧ n0.toInt ≤ (-1)) (ret0 : ∀ (r : Int32) (σ' : am_S), (0 ≤ 1 * r.toInt + 0 ∧ 1 * r.toInt + 0 ≤ 0) → (1 ≤ 1 * (σ'.2.1 3 7).toInt + 0 ∧ 1 * (σ'.2.1 3 7).toInt + 0 ≤ 1) → (0 ≤ 1 * (σ.2.1 3 4).toInt + ((-1) * (σ'.2.1 3 8).toInt + 0) ∧ 1 * (σ.2.1 3 4).toInt + ((-1) * (σ'.2.1 3 8).toInt + 0) ≤ 0) → sx_M z9 hd_C σ 402653184 0 σ' → post (some (some (.int r))) σ') : am_K g 35 tX2_readLine.1 0 0 6 lw [.int n0] σ post := by
  refine sg_seg (sw := [.int n0]) (vs := [(σ.2.1 3 4).toInt]) (ws := [n0.toInt]) G (mi := 199) rfl hct sg_lr2n_ok ⟨rfl, trivial⟩ (hd_rfc hl (hd_rfc hlr1 hd_rfn)) ⟨⟨n0, rfl, rfl⟩, trivial⟩ (hd_p1 rfl (hd_kd_3_4 hM).1 (hd_kd_3_4 hM).2 (hd_p1 rfl bk0.1 bk0.2 hd_p0)) hM ?_ ?_
  · intro r σ' hq
    cases r with
    | none => exact hq.elim
    | some v =>
      obtain ⟨p, hp, hM2, ks, hk, hv⟩ := hq
      simp only [List.mem_cons, List.not_mem_nil, or_false] at hp
      rcases hp with rfl
      · obtain ⟨ks0, rfl, hk1⟩ := hd_keyc hk; obtain ⟨ks1, rfl, hk2⟩ := hd_keyc hk1; obtain rfl := hd_keys hk2
        cases v with
        | none => exact hv.elim
        | some w9 =>
          obtain ⟨r, rfl, hP⟩ := hv
          obtain ⟨v0, e0, l0, u0⟩ := hP _ (List.mem_cons_self)
          have g0 : 1 * r.toInt + 0 = v0 := Option.some.inj e0
          obtain ⟨v1, e1, l1, u1⟩ := hP _ (List.mem_cons_of_mem _ (List.mem_cons_self))
          have g1 : 1 * (σ'.2.1 3 7).toInt + 0 = v1 := Option.some.inj e1
          obtain ⟨v2, e2, l2, u2⟩ := hP _ (List.mem_cons_of_mem _ (List.mem_cons_of_mem _ (List.mem_cons_self)))
          have g2 : 1 * (σ.2.1 3 4).toInt + ((-1) * (σ'.2.1 3 8).toInt + 0) = v2 := Option.some.inj e2
          exact ret0 r _ ⟨by rw [g0]; exact l0, by rw [g0]; exact u0⟩ ⟨by rw [g1]; exact l1, by rw [g1]; exact u1⟩ ⟨by rw [g2]; exact l2, by rw [g2]; exact u2⟩ hM2
  · intro u hu
    cases hu
theorem sg_lr2f_run (G : sx_G0 g L xs z9 hd_C ex_mt) (hct : ∀ (mi : Nat) (T2 : ex_T) (c' : sx_Ct), ex_mt mi = some T2 → c' ∈ k9 mi → c'.1 < 60 → sx_Holds g z9 hd_C T2 c') {σ : am_S} {lw : List (Nat × Value)} {post : Option (Option Value) → am_S → Prop} (hM : sx_M z9 hd_C σ 0 0 σ) (hl : (0, Value.ref 83) ∈ lw) (hlr1 : (1, Value.ref 3) ∈ lw) (bp83_2 : 40 ≤ (σ.2.1 83 2).toInt ∧ (σ.2.1 83 2).toInt ≤ 40) {n0 : Int32} (bk0 : 0 ≤ n0.toInt ∧ n0.toInt ≤ 6) (ret0 : ∀ (r : Int32) (σ' : am_S), (0 ≤ 1 * r.toInt + 0 ∧ 1 * r.toInt + 0 ≤ 0) → (4 ≤ 1 * (σ'.2.1 3 7).toInt + 0 ∧ 1 * (σ'.2.1 3 7).toInt + 0 ≤ 4) → (0 ≤ 1 * (σ.2.1 3 4).toInt + ((-1) * (σ'.2.1 3 8).toInt + 0) ∧ 1 * (σ.2.1 3 4).toInt + ((-1) * (σ'.2.1 3 8).toInt + 0) ≤ 0) → sx_M z9 hd_C σ 402653184 0 σ' → post (some (some (.int r))) σ') : am_K g 35 tX2_readLine.1 0 0 6 lw [.int n0] σ post := by
  refine sg_seg (sw := [.int n0]) (vs := [(σ.2.1 3 4).toInt, (σ.2.1 83 2).toInt]) (ws := [n0.toInt]) G (mi := 199) rfl hct sg_lr2f_ok ⟨rfl, ⟨rfl, trivial⟩⟩ (hd_rfc hl (hd_rfc hlr1 hd_rfn)) ⟨⟨n0, rfl, rfl⟩, trivial⟩ (hd_p1 rfl (hd_kd_3_4 hM).1 (hd_kd_3_4 hM).2 (hd_p1 rfl bp83_2.1 bp83_2.2 (hd_p1 rfl bk0.1 bk0.2 hd_p0))) hM ?_ ?_
  · intro r σ' hq
    cases r with
    | none => exact hq.elim
    | some v =>
      obtain ⟨p, hp, hM2, ks, hk, hv⟩ := hq
      simp only [List.mem_cons, List.not_mem_nil, or_false] at hp
      rcases hp with rfl
      · obtain ⟨ks0, rfl, hk1⟩ := hd_keyc hk; obtain ⟨ks1, rfl, hk2⟩ := hd_keyc hk1; obtain rfl := hd_keys hk2
        cases v with
        | none => exact hv.elim
        | some w9 =>
          obtain ⟨r, rfl, hP⟩ := hv
          obtain ⟨v0, e0, l0, u0⟩ := hP _ (List.mem_cons_self)
          have g0 : 1 * r.toInt + 0 = v0 := Option.some.inj e0
          obtain ⟨v1, e1, l1, u1⟩ := hP _ (List.mem_cons_of_mem _ (List.mem_cons_self))
          have g1 : 1 * (σ'.2.1 3 7).toInt + 0 = v1 := Option.some.inj e1
          obtain ⟨v2, e2, l2, u2⟩ := hP _ (List.mem_cons_of_mem _ (List.mem_cons_of_mem _ (List.mem_cons_self)))
          have g2 : 1 * (σ.2.1 3 4).toInt + ((-1) * (σ'.2.1 3 8).toInt + 0) = v2 := Option.some.inj e2
          exact ret0 r _ ⟨by rw [g0]; exact l0, by rw [g0]; exact u0⟩ ⟨by rw [g1]; exact l1, by rw [g1]; exact u1⟩ ⟨by rw [g2]; exact l2, by rw [g2]; exact u2⟩ hM2
  · intro u hu
    cases hu
theorem sg_lr2_run (G : sx_G0 g L xs z9 hd_C ex_mt) (hct : ∀ (mi : Nat) (T2 : ex_T) (c' : sx_Ct), ex_mt mi = some T2 → c' ∈ k9 mi → c'.1 < 60 → sx_Holds g z9 hd_C T2 c') {σ : am_S} {lw : List (Nat × Value)} {post : Option (Option Value) → am_S → Prop} (hM : sx_M z9 hd_C σ 0 0 σ) (hl : (0, Value.ref 83) ∈ lw) (hlr1 : (1, Value.ref 3) ∈ lw) (bp83_2 : 0 ≤ (σ.2.1 83 2).toInt ∧ (σ.2.1 83 2).toInt ≤ 39) {n0 : Int32} (bk0 : 0 ≤ n0.toInt ∧ n0.toInt ≤ 6) (cuta : ∀ (lw' : List (Nat × Value)) (m2' : Int32) (σ' : am_S), (0, Value.ref 83) ∈ lw' → (1, Value.ref 3) ∈ lw' → (2, Value.int m2') ∈ lw' → (0 ≤ 1 * n0.toInt + ((-1) * m2'.toInt + 0) ∧ 1 * n0.toInt + ((-1) * m2'.toInt + 0) ≤ 0) → sx_M z9 hd_C σ 45531302161540525099674888441176224374431410290284520029339353353255569184497074176 0 σ' → am_K g 35 tX2_readLine.1 0 0 58 lw' [.ref 3] σ' post) : am_K g 35 tX2_readLine.1 0 0 6 lw [.int n0] σ post := by
  refine sg_seg (sw := [.int n0]) (vs := [(σ.2.1 83 2).toInt]) (ws := [n0.toInt]) G (mi := 199) rfl hct sg_lr2_ok ⟨rfl, trivial⟩ (hd_rfc hl (hd_rfc hlr1 hd_rfn)) ⟨⟨n0, rfl, rfl⟩, trivial⟩ (hd_p1 rfl bp83_2.1 bp83_2.2 (hd_p1 rfl bk0.1 bk0.2 hd_p0)) hM ?_ ?_
  · intro r σ' hq
    cases r with
    | none => exact hq.elim
    | some v =>
      obtain ⟨p, hp, hM2, ks, hk, hv⟩ := hq
      cases hp
  · intro u hu
    simp only [List.mem_cons, List.not_mem_nil, or_false] at hu
    rcases hu with rfl
    · intro lw' sw' vs' ws' σ' ⟨h1_0, h2, h3_0, h4, h5⟩
      obtain ⟨m2', vs1, rfl, hm2, h1_1⟩ := hd_srcl h1_0
      obtain rfl := hd_src0 h1_1
      obtain ⟨sw1, rfl, h3_1⟩ := hd_str h3_0
      obtain ⟨rfl, rfl⟩ := hd_st0 h3_1
      have hr9_0 := hd_rfh h2
      have hr9_1 := hd_rfh (hd_rfT h2)
      obtain ⟨v0, e0, l0, u0⟩ := h4 _ (List.mem_cons_self)
      have g0 : 1 * n0.toInt + ((-1) * m2'.toInt + 0) = v0 := Option.some.inj e0
      exact cuta _ _ _ hr9_0 hr9_1 hm2 ⟨by rw [g0]; exact l0, by rw [g0]; exact u0⟩ h5
theorem sg_lr3m_run (G : sx_G0 g L xs z9 hd_C ex_mt) (hct : ∀ (mi : Nat) (T2 : ex_T) (c' : sx_Ct), ex_mt mi = some T2 → c' ∈ k9 mi → c'.1 < 60 → sx_Holds g z9 hd_C T2 c') {σ : am_S} {lw : List (Nat × Value)} {post : Option (Option Value) → am_S → Prop} (hM : sx_M z9 hd_C σ 0 0 σ) (hl : (0, Value.ref 83) ∈ lw) (hlr1 : (1, Value.ref 3) ∈ lw) {m2 : Int32} (hl2 : (2, Value.int m2) ∈ lw) (bl2 : 2 ≤ m2.toInt ∧ m2.toInt ≤ 5) (ret0 : ∀ (r : Int32) (σ' : am_S), (1 ≤ 1 * r.toInt + 0 ∧ 1 * r.toInt + 0 ≤ 1) → sx_M z9 hd_C σ 0 0 σ' → post (some (some (.int r))) σ') : am_K g 35 tX2_readLine.1 0 0 61 lw [] σ post := by
  refine sg_seg (sw := []) (vs := [m2.toInt]) (ws := []) G (mi := 199) rfl hct sg_lr3m_ok ⟨⟨m2, hl2, rfl⟩, trivial⟩ (hd_rfc hl (hd_rfc hlr1 hd_rfn)) trivial (hd_p1 rfl bl2.1 bl2.2 hd_p0) hM ?_ ?_
  · intro r σ' hq
    cases r with
    | none => exact hq.elim
    | some v =>
      obtain ⟨p, hp, hM2, ks, hk, hv⟩ := hq
      simp only [List.mem_cons, List.not_mem_nil, or_false] at hp
      rcases hp with rfl
      · obtain rfl := hd_keys hk
        cases v with
        | none => exact hv.elim
        | some w9 =>
          obtain ⟨r, rfl, hP⟩ := hv
          obtain ⟨v0, e0, l0, u0⟩ := hP _ (List.mem_cons_self)
          have g0 : 1 * r.toInt + 0 = v0 := Option.some.inj e0
          exact ret0 r _ ⟨by rw [g0]; exact l0, by rw [g0]; exact u0⟩ hM2
  · intro u hu
    cases hu
theorem sg_lr3t_run (G : sx_G0 g L xs z9 hd_C ex_mt) (hct : ∀ (mi : Nat) (T2 : ex_T) (c' : sx_Ct), ex_mt mi = some T2 → c' ∈ k9 mi → c'.1 < 60 → sx_Holds g z9 hd_C T2 c') {σ : am_S} {lw : List (Nat × Value)} {post : Option (Option Value) → am_S → Prop} (hM : sx_M z9 hd_C σ 0 0 σ) (hl : (0, Value.ref 83) ∈ lw) (hlr1 : (1, Value.ref 3) ∈ lw) {m2 : Int32} (hl2 : (2, Value.int m2) ∈ lw) (bl2 : 0 ≤ m2.toInt ∧ m2.toInt ≤ 0) (cuta : ∀ (lw' : List (Nat × Value)) (n0' : Int32) (n1' : Int32) (σ' : am_S), (0, Value.ref 83) ∈ lw' → (1, Value.ref 3) ∈ lw' → (60 ≤ 1 * n0'.toInt + 0 ∧ 1 * n0'.toInt + 0 ≤ 60) → (0 ≤ 1 * n1'.toInt + 0 ∧ 1 * n1'.toInt + 0 ≤ 0) → sx_M z9 hd_C σ 0 0 σ' → am_K g 35 tX2_readLine.1 0 0 101 lw' [.int n0', .int n1', .ref 3, .ref 83] σ' post) : am_K g 35 tX2_readLine.1 0 0 61 lw [] σ post := by
  refine sg_seg (sw := []) (vs := [m2.toInt]) (ws := []) G (mi := 199) rfl hct sg_lr3t_ok ⟨⟨m2, hl2, rfl⟩, trivial⟩ (hd_rfc hl (hd_rfc hlr1 hd_rfn)) trivial (hd_p1 rfl bl2.1 bl2.2 hd_p0) hM ?_ ?_
  · intro r σ' hq
    cases r with
    | none => exact hq.elim
    | some v =>
      obtain ⟨p, hp, hM2, ks, hk, hv⟩ := hq
      cases hp
  · intro u hu
    simp only [List.mem_cons, List.not_mem_nil, or_false] at hu
    rcases hu with rfl
    · intro lw' sw' vs' ws' σ' ⟨h1_0, h2, h3_0, h4, h5⟩
      obtain rfl := hd_src0 h1_0
      obtain ⟨n0', sw1, ws1, rfl, rfl, h3_1⟩ := hd_sti h3_0
      obtain ⟨n1', sw2, ws2, rfl, rfl, h3_2⟩ := hd_sti h3_1
      obtain ⟨sw3, rfl, h3_3⟩ := hd_str h3_2
      obtain ⟨sw4, rfl, h3_4⟩ := hd_str h3_3
      obtain ⟨rfl, rfl⟩ := hd_st0 h3_4
      have hr9_0 := hd_rfh h2
      have hr9_1 := hd_rfh (hd_rfT h2)
      obtain ⟨v0, e0, l0, u0⟩ := h4 _ (List.mem_cons_self)
      have g0 : 1 * n0'.toInt + 0 = v0 := Option.some.inj e0
      obtain ⟨v1, e1, l1, u1⟩ := h4 _ (List.mem_cons_of_mem _ (List.mem_cons_self))
      have g1 : 1 * n1'.toInt + 0 = v1 := Option.some.inj e1
      exact cuta _ _ _ _ hr9_0 hr9_1  ⟨by rw [g0]; exact l0, by rw [g0]; exact u0⟩ ⟨by rw [g1]; exact l1, by rw [g1]; exact u1⟩ h5
theorem sg_lr3a_run (G : sx_G0 g L xs z9 hd_C ex_mt) (hct : ∀ (mi : Nat) (T2 : ex_T) (c' : sx_Ct), ex_mt mi = some T2 → c' ∈ k9 mi → c'.1 < 60 → sx_Holds g z9 hd_C T2 c') {σ : am_S} {lw : List (Nat × Value)} {post : Option (Option Value) → am_S → Prop} (hM : sx_M z9 hd_C σ 0 0 σ) (hl : (0, Value.ref 83) ∈ lw) (hlr1 : (1, Value.ref 3) ∈ lw) {m2 : Int32} (hl2 : (2, Value.int m2) ∈ lw) (bl2 : 1 ≤ m2.toInt ∧ m2.toInt ≤ 1) (cuta : ∀ (lw' : List (Nat × Value)) (n0' : Int32) (n1' : Int32) (σ' : am_S), (0, Value.ref 83) ∈ lw' → (1, Value.ref 3) ∈ lw' → (9 ≤ 1 * n0'.toInt + 0 ∧ 1 * n0'.toInt + 0 ≤ 9) → (0 ≤ 1 * n1'.toInt + 0 ∧ 1 * n1'.toInt + 0 ≤ 0) → sx_M z9 hd_C σ 0 0 σ' → am_K g 35 tX2_readLine.1 0 0 110 lw' [.int n0', .int n1', .ref 3, .ref 83] σ' post) : am_K g 35 tX2_readLine.1 0 0 61 lw [] σ post := by
  refine sg_seg (sw := []) (vs := [m2.toInt]) (ws := []) G (mi := 199) rfl hct sg_lr3a_ok ⟨⟨m2, hl2, rfl⟩, trivial⟩ (hd_rfc hl (hd_rfc hlr1 hd_rfn)) trivial (hd_p1 rfl bl2.1 bl2.2 hd_p0) hM ?_ ?_
  · intro r σ' hq
    cases r with
    | none => exact hq.elim
    | some v =>
      obtain ⟨p, hp, hM2, ks, hk, hv⟩ := hq
      cases hp
  · intro u hu
    simp only [List.mem_cons, List.not_mem_nil, or_false] at hu
    rcases hu with rfl
    · intro lw' sw' vs' ws' σ' ⟨h1_0, h2, h3_0, h4, h5⟩
      obtain rfl := hd_src0 h1_0
      obtain ⟨n0', sw1, ws1, rfl, rfl, h3_1⟩ := hd_sti h3_0
      obtain ⟨n1', sw2, ws2, rfl, rfl, h3_2⟩ := hd_sti h3_1
      obtain ⟨sw3, rfl, h3_3⟩ := hd_str h3_2
      obtain ⟨sw4, rfl, h3_4⟩ := hd_str h3_3
      obtain ⟨rfl, rfl⟩ := hd_st0 h3_4
      have hr9_0 := hd_rfh h2
      have hr9_1 := hd_rfh (hd_rfT h2)
      obtain ⟨v0, e0, l0, u0⟩ := h4 _ (List.mem_cons_self)
      have g0 : 1 * n0'.toInt + 0 = v0 := Option.some.inj e0
      obtain ⟨v1, e1, l1, u1⟩ := h4 _ (List.mem_cons_of_mem _ (List.mem_cons_self))
      have g1 : 1 * n1'.toInt + 0 = v1 := Option.some.inj e1
      exact cuta _ _ _ _ hr9_0 hr9_1  ⟨by rw [g0]; exact l0, by rw [g0]; exact u0⟩ ⟨by rw [g1]; exact l1, by rw [g1]; exact u1⟩ h5
theorem sg_lr3w_run (G : sx_G0 g L xs z9 hd_C ex_mt) (hct : ∀ (mi : Nat) (T2 : ex_T) (c' : sx_Ct), ex_mt mi = some T2 → c' ∈ k9 mi → c'.1 < 60 → sx_Holds g z9 hd_C T2 c') {σ : am_S} {lw : List (Nat × Value)} {post : Option (Option Value) → am_S → Prop} (hM : sx_M z9 hd_C σ 0 0 σ) (hl : (0, Value.ref 83) ∈ lw) (hlr1 : (1, Value.ref 3) ∈ lw) {m2 : Int32} (hl2 : (2, Value.int m2) ∈ lw) (bl2 : 6 ≤ m2.toInt ∧ m2.toInt ≤ 6) (cuta : ∀ (lw' : List (Nat × Value)) (n0' : Int32) (n1' : Int32) (σ' : am_S), (0, Value.ref 83) ∈ lw' → (1, Value.ref 3) ∈ lw' → (60 ≤ 1 * n0'.toInt + 0 ∧ 1 * n0'.toInt + 0 ≤ 60) → (1 ≤ 1 * n1'.toInt + 0 ∧ 1 * n1'.toInt + 0 ≤ 1) → sx_M z9 hd_C σ 0 0 σ' → am_K g 35 tX2_readLine.1 0 0 119 lw' [.int n0', .int n1', .ref 3, .ref 83] σ' post) : am_K g 35 tX2_readLine.1 0 0 61 lw [] σ post := by
  refine sg_seg (sw := []) (vs := [m2.toInt]) (ws := []) G (mi := 199) rfl hct sg_lr3w_ok ⟨⟨m2, hl2, rfl⟩, trivial⟩ (hd_rfc hl (hd_rfc hlr1 hd_rfn)) trivial (hd_p1 rfl bl2.1 bl2.2 hd_p0) hM ?_ ?_
  · intro r σ' hq
    cases r with
    | none => exact hq.elim
    | some v =>
      obtain ⟨p, hp, hM2, ks, hk, hv⟩ := hq
      cases hp
  · intro u hu
    simp only [List.mem_cons, List.not_mem_nil, or_false] at hu
    rcases hu with rfl
    · intro lw' sw' vs' ws' σ' ⟨h1_0, h2, h3_0, h4, h5⟩
      obtain rfl := hd_src0 h1_0
      obtain ⟨n0', sw1, ws1, rfl, rfl, h3_1⟩ := hd_sti h3_0
      obtain ⟨n1', sw2, ws2, rfl, rfl, h3_2⟩ := hd_sti h3_1
      obtain ⟨sw3, rfl, h3_3⟩ := hd_str h3_2
      obtain ⟨sw4, rfl, h3_4⟩ := hd_str h3_3
      obtain ⟨rfl, rfl⟩ := hd_st0 h3_4
      have hr9_0 := hd_rfh h2
      have hr9_1 := hd_rfh (hd_rfT h2)
      obtain ⟨v0, e0, l0, u0⟩ := h4 _ (List.mem_cons_self)
      have g0 : 1 * n0'.toInt + 0 = v0 := Option.some.inj e0
      obtain ⟨v1, e1, l1, u1⟩ := h4 _ (List.mem_cons_of_mem _ (List.mem_cons_self))
      have g1 : 1 * n1'.toInt + 0 = v1 := Option.some.inj e1
      exact cuta _ _ _ _ hr9_0 hr9_1  ⟨by rw [g0]; exact l0, by rw [g0]; exact u0⟩ ⟨by rw [g1]; exact l1, by rw [g1]; exact u1⟩ h5
theorem sg_lr4t_run (G : sx_G0 g L xs z9 hd_C ex_mt) (hct : ∀ (mi : Nat) (T2 : ex_T) (c' : sx_Ct), ex_mt mi = some T2 → c' ∈ k9 mi → c'.1 < 60 → sx_Holds g z9 hd_C T2 c') {σ : am_S} {lw : List (Nat × Value)} {post : Option (Option Value) → am_S → Prop} (hM : sx_M z9 hd_C σ 0 0 σ) (hl : (0, Value.ref 83) ∈ lw) (hlr1 : (1, Value.ref 3) ∈ lw) {n0 : Int32} (bk0 : 0 ≤ n0.toInt ∧ n0.toInt ≤ 1) (ret0 : ∀ (r : Int32) (σ' : am_S), (0 ≤ 1 * n0.toInt + ((-1) * r.toInt + 0) ∧ 1 * n0.toInt + ((-1) * r.toInt + 0) ≤ 0) → sx_M z9 hd_C σ 0 0 σ' → post (some (some (.int r))) σ') : am_K g 35 tX2_readLine.1 0 0 104 lw [.int n0] σ post := by
  refine sg_seg (sw := [.int n0]) (vs := []) (ws := [n0.toInt]) G (mi := 199) rfl hct sg_lr4t_ok trivial (hd_rfc hl (hd_rfc hlr1 hd_rfn)) ⟨⟨n0, rfl, rfl⟩, trivial⟩ (hd_p1 rfl bk0.1 bk0.2 hd_p0) hM ?_ ?_
  · intro r σ' hq
    cases r with
    | none => exact hq.elim
    | some v =>
      obtain ⟨p, hp, hM2, ks, hk, hv⟩ := hq
      simp only [List.mem_cons, List.not_mem_nil, or_false] at hp
      rcases hp with rfl
      · obtain rfl := hd_keys hk
        cases v with
        | none => exact hv.elim
        | some w9 =>
          obtain ⟨r, rfl, hP⟩ := hv
          obtain ⟨v0, e0, l0, u0⟩ := hP _ (List.mem_cons_self)
          have g0 : 1 * n0.toInt + ((-1) * r.toInt + 0) = v0 := Option.some.inj e0
          exact ret0 r _ ⟨by rw [g0]; exact l0, by rw [g0]; exact u0⟩ hM2
  · intro u hu
    cases hu
theorem sg_lr4a_run (G : sx_G0 g L xs z9 hd_C ex_mt) (hct : ∀ (mi : Nat) (T2 : ex_T) (c' : sx_Ct), ex_mt mi = some T2 → c' ∈ k9 mi → c'.1 < 60 → sx_Holds g z9 hd_C T2 c') {σ : am_S} {lw : List (Nat × Value)} {post : Option (Option Value) → am_S → Prop} (hM : sx_M z9 hd_C σ 0 0 σ) (hl : (0, Value.ref 83) ∈ lw) (hlr1 : (1, Value.ref 3) ∈ lw) {n0 : Int32} (bk0 : 0 ≤ n0.toInt ∧ n0.toInt ≤ 1) (ret0 : ∀ (r : Int32) (σ' : am_S), (0 ≤ 1 * n0.toInt + ((-1) * r.toInt + 0) ∧ 1 * n0.toInt + ((-1) * r.toInt + 0) ≤ 0) → sx_M z9 hd_C σ 0 0 σ' → post (some (some (.int r))) σ') : am_K g 35 tX2_readLine.1 0 0 113 lw [.int n0] σ post := by
  refine sg_seg (sw := [.int n0]) (vs := []) (ws := [n0.toInt]) G (mi := 199) rfl hct sg_lr4a_ok trivial (hd_rfc hl (hd_rfc hlr1 hd_rfn)) ⟨⟨n0, rfl, rfl⟩, trivial⟩ (hd_p1 rfl bk0.1 bk0.2 hd_p0) hM ?_ ?_
  · intro r σ' hq
    cases r with
    | none => exact hq.elim
    | some v =>
      obtain ⟨p, hp, hM2, ks, hk, hv⟩ := hq
      simp only [List.mem_cons, List.not_mem_nil, or_false] at hp
      rcases hp with rfl
      · obtain rfl := hd_keys hk
        cases v with
        | none => exact hv.elim
        | some w9 =>
          obtain ⟨r, rfl, hP⟩ := hv
          obtain ⟨v0, e0, l0, u0⟩ := hP _ (List.mem_cons_self)
          have g0 : 1 * n0.toInt + ((-1) * r.toInt + 0) = v0 := Option.some.inj e0
          exact ret0 r _ ⟨by rw [g0]; exact l0, by rw [g0]; exact u0⟩ hM2
  · intro u hu
    cases hu
theorem sg_lr4w_run (G : sx_G0 g L xs z9 hd_C ex_mt) (hct : ∀ (mi : Nat) (T2 : ex_T) (c' : sx_Ct), ex_mt mi = some T2 → c' ∈ k9 mi → c'.1 < 60 → sx_Holds g z9 hd_C T2 c') {σ : am_S} {lw : List (Nat × Value)} {post : Option (Option Value) → am_S → Prop} (hM : sx_M z9 hd_C σ 0 0 σ) (hl : (0, Value.ref 83) ∈ lw) (hlr1 : (1, Value.ref 3) ∈ lw) {n0 : Int32} (bk0 : 0 ≤ n0.toInt ∧ n0.toInt ≤ 1) (ret0 : ∀ (r : Int32) (σ' : am_S), (0 ≤ 1 * n0.toInt + ((-1) * r.toInt + 0) ∧ 1 * n0.toInt + ((-1) * r.toInt + 0) ≤ 0) → sx_M z9 hd_C σ 0 0 σ' → post (some (some (.int r))) σ') : am_K g 35 tX2_readLine.1 0 0 122 lw [.int n0] σ post := by
  refine sg_seg (sw := [.int n0]) (vs := []) (ws := [n0.toInt]) G (mi := 199) rfl hct sg_lr4w_ok trivial (hd_rfc hl (hd_rfc hlr1 hd_rfn)) ⟨⟨n0, rfl, rfl⟩, trivial⟩ (hd_p1 rfl bk0.1 bk0.2 hd_p0) hM ?_ ?_
  · intro r σ' hq
    cases r with
    | none => exact hq.elim
    | some v =>
      obtain ⟨p, hp, hM2, ks, hk, hv⟩ := hq
      simp only [List.mem_cons, List.not_mem_nil, or_false] at hp
      rcases hp with rfl
      · obtain rfl := hd_keys hk
        cases v with
        | none => exact hv.elim
        | some w9 =>
          obtain ⟨r, rfl, hP⟩ := hv
          obtain ⟨v0, e0, l0, u0⟩ := hP _ (List.mem_cons_self)
          have g0 : 1 * n0.toInt + ((-1) * r.toInt + 0) = v0 := Option.some.inj e0
          exact ret0 r _ ⟨by rw [g0]; exact l0, by rw [g0]; exact u0⟩ hM2
  · intro u hu
    cases hu
theorem sg_lf1_run (G : sx_G0 g L xs z9 hd_C ex_mt) (hct : ∀ (mi : Nat) (T2 : ex_T) (c' : sx_Ct), ex_mt mi = some T2 → c' ∈ k9 mi → c'.1 < 60 → sx_Holds g z9 hd_C T2 c') {σ : am_S} {lw : List (Nat × Value)} {post : Option (Option Value) → am_S → Prop} (hM : sx_M z9 hd_C σ 0 0 σ) (hl : (0, Value.ref 83) ∈ lw) (hlr1 : (1, Value.ref 3) ∈ lw)  (cuta : ∀ (lw' : List (Nat × Value)) (m2' : Int32) (σ' : am_S), (0, Value.ref 83) ∈ lw' → (1, Value.ref 3) ∈ lw' → (2, Value.int m2') ∈ lw' → (0 ≤ 1 * m2'.toInt + 0 ∧ 1 * m2'.toInt + 0 ≤ 0) → (0 ≤ 1 * (σ'.2.1 83 2).toInt + 0 ∧ 1 * (σ'.2.1 83 2).toInt + 0 ≤ 0) → sx_M z9 hd_C σ 237142198758023568227473377297792835283496928595231875152809132048206089502588928 0 σ' → am_K g 45 tX2_readFrom.1 0 0 7 lw' [] σ' post) : am_K g 45 tX2_readFrom.1 0 0 0 lw [] σ post := by
  refine sg_seg (sw := []) (vs := []) (ws := []) G (mi := 198) rfl hct sg_lf1_ok trivial (hd_rfc hl (hd_rfc hlr1 hd_rfn)) trivial hd_p0 hM ?_ ?_
  · intro r σ' hq
    cases r with
    | none => exact hq.elim
    | some v =>
      obtain ⟨p, hp, hM2, ks, hk, hv⟩ := hq
      cases hp
  · intro u hu
    simp only [List.mem_cons, List.not_mem_nil, or_false] at hu
    rcases hu with rfl
    · intro lw' sw' vs' ws' σ' ⟨h1_0, h2, h3_0, h4, h5⟩
      obtain ⟨m2', vs1, rfl, hm2, h1_1⟩ := hd_srcl h1_0
      obtain ⟨vs2, rfl, h1_2⟩ := hd_srcs h1_1
      obtain rfl := hd_src0 h1_2
      obtain ⟨rfl, rfl⟩ := hd_st0 h3_0
      have hr9_0 := hd_rfh h2
      have hr9_1 := hd_rfh (hd_rfT h2)
      obtain ⟨v0, e0, l0, u0⟩ := h4 _ (List.mem_cons_self)
      have g0 : 1 * m2'.toInt + 0 = v0 := Option.some.inj e0
      obtain ⟨v1, e1, l1, u1⟩ := h4 _ (List.mem_cons_of_mem _ (List.mem_cons_self))
      have g1 : 1 * (σ'.2.1 83 2).toInt + 0 = v1 := Option.some.inj e1
      exact cuta _ _ _ hr9_0 hr9_1 hm2 ⟨by rw [g0]; exact l0, by rw [g0]; exact u0⟩ ⟨by rw [g1]; exact l1, by rw [g1]; exact u1⟩ h5
theorem sg_lf2e_run (G : sx_G0 g L xs z9 hd_C ex_mt) (hct : ∀ (mi : Nat) (T2 : ex_T) (c' : sx_Ct), ex_mt mi = some T2 → c' ∈ k9 mi → c'.1 < 60 → sx_Holds g z9 hd_C T2 c') {σ : am_S} {lw : List (Nat × Value)} {post : Option (Option Value) → am_S → Prop} (hM : sx_M z9 hd_C σ 0 0 σ) (hl : (0, Value.ref 83) ∈ lw) (hlr1 : (1, Value.ref 3) ∈ lw) {m2 : Int32} (hl2 : (2, Value.int m2) ∈ lw) (bl2 : 0 ≤ m2.toInt ∧ m2.toInt ≤ 40) (bp3_3 : 0 ≤ (σ.2.1 3 3).toInt ∧ (σ.2.1 3 3).toInt ≤ 0) (ret0 : ∀ (r : Int32) (σ' : am_S), (1 ≤ 1 * r.toInt + 0 ∧ 1 * r.toInt + 0 ≤ 1) → sx_M z9 hd_C σ 0 0 σ' → post (some (some (.int r))) σ') : am_K g 45 tX2_readFrom.1 0 0 7 lw [] σ post := by
  refine sg_seg (sw := []) (vs := [m2.toInt, (σ.2.1 3 3).toInt]) (ws := []) G (mi := 198) rfl hct sg_lf2e_ok ⟨⟨m2, hl2, rfl⟩, ⟨rfl, trivial⟩⟩ (hd_rfc hl (hd_rfc hlr1 hd_rfn)) trivial (hd_p1 rfl bl2.1 bl2.2 (hd_p1 rfl bp3_3.1 bp3_3.2 hd_p0)) hM ?_ ?_
  · intro r σ' hq
    cases r with
    | none => exact hq.elim
    | some v =>
      obtain ⟨p, hp, hM2, ks, hk, hv⟩ := hq
      simp only [List.mem_cons, List.not_mem_nil, or_false] at hp
      rcases hp with rfl
      · obtain rfl := hd_keys hk
        cases v with
        | none => exact hv.elim
        | some w9 =>
          obtain ⟨r, rfl, hP⟩ := hv
          obtain ⟨v0, e0, l0, u0⟩ := hP _ (List.mem_cons_self)
          have g0 : 1 * r.toInt + 0 = v0 := Option.some.inj e0
          exact ret0 r _ ⟨by rw [g0]; exact l0, by rw [g0]; exact u0⟩ hM2
  · intro u hu
    cases hu
theorem sg_lf2m_run (G : sx_G0 g L xs z9 hd_C ex_mt) (hct : ∀ (mi : Nat) (T2 : ex_T) (c' : sx_Ct), ex_mt mi = some T2 → c' ∈ k9 mi → c'.1 < 60 → sx_Holds g z9 hd_C T2 c') {σ : am_S} {lw : List (Nat × Value)} {post : Option (Option Value) → am_S → Prop} (hM : sx_M z9 hd_C σ 0 0 σ) (hl : (0, Value.ref 83) ∈ lw) (hlr1 : (1, Value.ref 3) ∈ lw) {m2 : Int32} (hl2 : (2, Value.int m2) ∈ lw) (bl2 : 0 ≤ m2.toInt ∧ m2.toInt ≤ 40) (bp3_3 : 1 ≤ (σ.2.1 3 3).toInt ∧ (σ.2.1 3 3).toInt ≤ 4) (cuta : ∀ (lw' : List (Nat × Value)) (m2' : Int32) (σ' : am_S), (0, Value.ref 83) ∈ lw' → (1, Value.ref 3) ∈ lw' → (2, Value.int m2') ∈ lw' → (0 ≤ 1 * m2.toInt + ((-1) * m2'.toInt + 0) ∧ 1 * m2.toInt + ((-1) * m2'.toInt + 0) ≤ 0) → sx_M z9 hd_C σ 0 0 σ' → am_K g 45 tX2_readFrom.1 0 0 22 lw' [.ref 3, .ref 83] σ' post) : am_K g 45 tX2_readFrom.1 0 0 7 lw [] σ post := by
  refine sg_seg (sw := []) (vs := [m2.toInt, (σ.2.1 3 3).toInt]) (ws := []) G (mi := 198) rfl hct sg_lf2m_ok ⟨⟨m2, hl2, rfl⟩, ⟨rfl, trivial⟩⟩ (hd_rfc hl (hd_rfc hlr1 hd_rfn)) trivial (hd_p1 rfl bl2.1 bl2.2 (hd_p1 rfl bp3_3.1 bp3_3.2 hd_p0)) hM ?_ ?_
  · intro r σ' hq
    cases r with
    | none => exact hq.elim
    | some v =>
      obtain ⟨p, hp, hM2, ks, hk, hv⟩ := hq
      cases hp
  · intro u hu
    simp only [List.mem_cons, List.not_mem_nil, or_false] at hu
    rcases hu with rfl
    · intro lw' sw' vs' ws' σ' ⟨h1_0, h2, h3_0, h4, h5⟩
      obtain ⟨m2', vs1, rfl, hm2, h1_1⟩ := hd_srcl h1_0
      obtain rfl := hd_src0 h1_1
      obtain ⟨sw1, rfl, h3_1⟩ := hd_str h3_0
      obtain ⟨sw2, rfl, h3_2⟩ := hd_str h3_1
      obtain ⟨rfl, rfl⟩ := hd_st0 h3_2
      have hr9_0 := hd_rfh h2
      have hr9_1 := hd_rfh (hd_rfT h2)
      obtain ⟨v0, e0, l0, u0⟩ := h4 _ (List.mem_cons_self)
      have g0 : 1 * m2.toInt + ((-1) * m2'.toInt + 0) = v0 := Option.some.inj e0
      exact cuta _ _ _ hr9_0 hr9_1 hm2 ⟨by rw [g0]; exact l0, by rw [g0]; exact u0⟩ h5
theorem sg_lf3n_run (G : sx_G0 g L xs z9 hd_C ex_mt) (hct : ∀ (mi : Nat) (T2 : ex_T) (c' : sx_Ct), ex_mt mi = some T2 → c' ∈ k9 mi → c'.1 < 60 → sx_Holds g z9 hd_C T2 c') {σ : am_S} {lw : List (Nat × Value)} {post : Option (Option Value) → am_S → Prop} (hM : sx_M z9 hd_C σ 0 0 σ) (hl : (0, Value.ref 83) ∈ lw) (hlr1 : (1, Value.ref 3) ∈ lw) {n0 : Int32} (bk0 : 0 ≤ n0.toInt ∧ n0.toInt ≤ 0) (ret0 : ∀ (r : Int32) (σ' : am_S), (0 ≤ 1 * r.toInt + 0 ∧ 1 * r.toInt + 0 ≤ 0) → sx_M z9 hd_C σ 0 0 σ' → post (some (some (.int r))) σ') : am_K g 45 tX2_readFrom.1 0 0 25 lw [.int n0] σ post := by
  refine sg_seg (sw := [.int n0]) (vs := []) (ws := [n0.toInt]) G (mi := 198) rfl hct sg_lf3n_ok trivial (hd_rfc hl (hd_rfc hlr1 hd_rfn)) ⟨⟨n0, rfl, rfl⟩, trivial⟩ (hd_p1 rfl bk0.1 bk0.2 hd_p0) hM ?_ ?_
  · intro r σ' hq
    cases r with
    | none => exact hq.elim
    | some v =>
      obtain ⟨p, hp, hM2, ks, hk, hv⟩ := hq
      simp only [List.mem_cons, List.not_mem_nil, or_false] at hp
      rcases hp with rfl
      · obtain rfl := hd_keys hk
        cases v with
        | none => exact hv.elim
        | some w9 =>
          obtain ⟨r, rfl, hP⟩ := hv
          obtain ⟨v0, e0, l0, u0⟩ := hP _ (List.mem_cons_self)
          have g0 : 1 * r.toInt + 0 = v0 := Option.some.inj e0
          exact ret0 r _ ⟨by rw [g0]; exact l0, by rw [g0]; exact u0⟩ hM2
  · intro u hu
    cases hu
theorem sg_lf3y_run (G : sx_G0 g L xs z9 hd_C ex_mt) (hct : ∀ (mi : Nat) (T2 : ex_T) (c' : sx_Ct), ex_mt mi = some T2 → c' ∈ k9 mi → c'.1 < 60 → sx_Holds g z9 hd_C T2 c') {σ : am_S} {lw : List (Nat × Value)} {post : Option (Option Value) → am_S → Prop} (hM : sx_M z9 hd_C σ 0 0 σ) (hl : (0, Value.ref 83) ∈ lw) (hlr1 : (1, Value.ref 3) ∈ lw) {m2 : Int32} (hl2 : (2, Value.int m2) ∈ lw) {n0 : Int32} (bk0 : 1 ≤ n0.toInt ∧ n0.toInt ≤ 1) (cuta : ∀ (lw' : List (Nat × Value)) (m2' : Int32) (n0' : Int32) (σ' : am_S), (0, Value.ref 83) ∈ lw' → (1, Value.ref 3) ∈ lw' → (2, Value.int m2') ∈ lw' → (59 ≤ 1 * n0'.toInt + 0 ∧ 1 * n0'.toInt + 0 ≤ 59) → (0 ≤ 1 * m2.toInt + ((-1) * m2'.toInt + 0) ∧ 1 * m2.toInt + ((-1) * m2'.toInt + 0) ≤ 0) → sx_M z9 hd_C σ 0 0 σ' → am_K g 45 tX2_readFrom.1 0 0 31 lw' [.int n0', .ref 3] σ' post) : am_K g 45 tX2_readFrom.1 0 0 25 lw [.int n0] σ post := by
  refine sg_seg (sw := [.int n0]) (vs := [m2.toInt]) (ws := [n0.toInt]) G (mi := 198) rfl hct sg_lf3y_ok ⟨⟨m2, hl2, rfl⟩, trivial⟩ (hd_rfc hl (hd_rfc hlr1 hd_rfn)) ⟨⟨n0, rfl, rfl⟩, trivial⟩ (hd_p1 rfl (Int32.le_toInt _) (Int32.toInt_le _) (hd_p1 rfl bk0.1 bk0.2 hd_p0)) hM ?_ ?_
  · intro r σ' hq
    cases r with
    | none => exact hq.elim
    | some v =>
      obtain ⟨p, hp, hM2, ks, hk, hv⟩ := hq
      cases hp
  · intro u hu
    simp only [List.mem_cons, List.not_mem_nil, or_false] at hu
    rcases hu with rfl
    · intro lw' sw' vs' ws' σ' ⟨h1_0, h2, h3_0, h4, h5⟩
      obtain ⟨m2', vs1, rfl, hm2, h1_1⟩ := hd_srcl h1_0
      obtain rfl := hd_src0 h1_1
      obtain ⟨n0', sw1, ws1, rfl, rfl, h3_1⟩ := hd_sti h3_0
      obtain ⟨sw2, rfl, h3_2⟩ := hd_str h3_1
      obtain ⟨rfl, rfl⟩ := hd_st0 h3_2
      have hr9_0 := hd_rfh h2
      have hr9_1 := hd_rfh (hd_rfT h2)
      obtain ⟨v0, e0, l0, u0⟩ := h4 _ (List.mem_cons_self)
      have g0 : 1 * n0'.toInt + 0 = v0 := Option.some.inj e0
      obtain ⟨v1, e1, l1, u1⟩ := h4 _ (List.mem_cons_of_mem _ (List.mem_cons_self))
      have g1 : 1 * m2.toInt + ((-1) * m2'.toInt + 0) = v1 := Option.some.inj e1
      exact cuta _ _ _ _ hr9_0 hr9_1 hm2 ⟨by rw [g0]; exact l0, by rw [g0]; exact u0⟩ ⟨by rw [g1]; exact l1, by rw [g1]; exact u1⟩ h5
theorem sg_lf4n_run (G : sx_G0 g L xs z9 hd_C ex_mt) (hct : ∀ (mi : Nat) (T2 : ex_T) (c' : sx_Ct), ex_mt mi = some T2 → c' ∈ k9 mi → c'.1 < 60 → sx_Holds g z9 hd_C T2 c') {σ : am_S} {lw : List (Nat × Value)} {post : Option (Option Value) → am_S → Prop} (hM : sx_M z9 hd_C σ 0 0 σ) (hl : (0, Value.ref 83) ∈ lw) (hlr1 : (1, Value.ref 3) ∈ lw) {n0 : Int32} (bk0 : 0 ≤ n0.toInt ∧ n0.toInt ≤ 0) (ret0 : ∀ (r : Int32) (σ' : am_S), (0 ≤ 1 * r.toInt + 0 ∧ 1 * r.toInt + 0 ≤ 0) → sx_M z9 hd_C σ 0 0 σ' → post (some (some (.int r))) σ') : am_K g 45 tX2_readFrom.1 0 0 34 lw [.int n0] σ post := by
  refine sg_seg (sw := [.int n0]) (vs := []) (ws := [n0.toInt]) G (mi := 198) rfl hct sg_lf4n_ok trivial (hd_rfc hl (hd_rfc hlr1 hd_rfn)) ⟨⟨n0, rfl, rfl⟩, trivial⟩ (hd_p1 rfl bk0.1 bk0.2 hd_p0) hM ?_ ?_
  · intro r σ' hq
    cases r with
    | none => exact hq.elim
    | some v =>
      obtain ⟨p, hp, hM2, ks, hk, hv⟩ := hq
      simp only [List.mem_cons, List.not_mem_nil, or_false] at hp
      rcases hp with rfl
      · obtain rfl := hd_keys hk
        cases v with
        | none => exact hv.elim
        | some w9 =>
          obtain ⟨r, rfl, hP⟩ := hv
          obtain ⟨v0, e0, l0, u0⟩ := hP _ (List.mem_cons_self)
          have g0 : 1 * r.toInt + 0 = v0 := Option.some.inj e0
          exact ret0 r _ ⟨by rw [g0]; exact l0, by rw [g0]; exact u0⟩ hM2
  · intro u hu
    cases hu
theorem sg_lf4y_run (G : sx_G0 g L xs z9 hd_C ex_mt) (hct : ∀ (mi : Nat) (T2 : ex_T) (c' : sx_Ct), ex_mt mi = some T2 → c' ∈ k9 mi → c'.1 < 60 → sx_Holds g z9 hd_C T2 c') {σ : am_S} {lw : List (Nat × Value)} {post : Option (Option Value) → am_S → Prop} (hM : sx_M z9 hd_C σ 0 0 σ) (hl : (0, Value.ref 83) ∈ lw) (hlr1 : (1, Value.ref 3) ∈ lw) {m2 : Int32} (hl2 : (2, Value.int m2) ∈ lw) (bl2 : 0 ≤ m2.toInt ∧ m2.toInt ≤ 40) (bp83_2 : 0 ≤ (σ.2.1 83 2).toInt ∧ (σ.2.1 83 2).toInt ≤ 39) {n0 : Int32} (bk0 : 1 ≤ n0.toInt ∧ n0.toInt ≤ 1) (cuta : ∀ (lw' : List (Nat × Value)) (m2' : Int32) (σ' : am_S), (0, Value.ref 83) ∈ lw' → (1, Value.ref 3) ∈ lw' → (2, Value.int m2') ∈ lw' → ((-1) ≤ 1 * m2.toInt + ((-1) * m2'.toInt + 0) ∧ 1 * m2.toInt + ((-1) * m2'.toInt + 0) ≤ (-1)) → ((-1) ≤ 1 * (σ.2.1 83 2).toInt + ((-1) * (σ'.2.1 83 2).toInt + 0) ∧ 1 * (σ.2.1 83 2).toInt + ((-1) * (σ'.2.1 83 2).toInt + 0) ≤ (-1)) → sx_M z9 hd_C σ 237142198758023568227473377297792835283496928595231875152809132048206089502588928 0 σ' → am_K g 45 tX2_readFrom.1 0 0 7 lw' [] σ' post) : am_K g 45 tX2_readFrom.1 0 0 34 lw [.int n0] σ post := by
  refine sg_seg (sw := [.int n0]) (vs := [m2.toInt, (σ.2.1 83 2).toInt]) (ws := [n0.toInt]) G (mi := 198) rfl hct sg_lf4y_ok ⟨⟨m2, hl2, rfl⟩, ⟨rfl, trivial⟩⟩ (hd_rfc hl (hd_rfc hlr1 hd_rfn)) ⟨⟨n0, rfl, rfl⟩, trivial⟩ (hd_p1 rfl bl2.1 bl2.2 (hd_p1 rfl bp83_2.1 bp83_2.2 (hd_p1 rfl bk0.1 bk0.2 hd_p0))) hM ?_ ?_
  · intro r σ' hq
    cases r with
    | none => exact hq.elim
    | some v =>
      obtain ⟨p, hp, hM2, ks, hk, hv⟩ := hq
      cases hp
  · intro u hu
    simp only [List.mem_cons, List.not_mem_nil, or_false] at hu
    rcases hu with rfl
    · intro lw' sw' vs' ws' σ' ⟨h1_0, h2, h3_0, h4, h5⟩
      obtain ⟨m2', vs1, rfl, hm2, h1_1⟩ := hd_srcl h1_0
      obtain ⟨vs2, rfl, h1_2⟩ := hd_srcs h1_1
      obtain rfl := hd_src0 h1_2
      obtain ⟨rfl, rfl⟩ := hd_st0 h3_0
      have hr9_0 := hd_rfh h2
      have hr9_1 := hd_rfh (hd_rfT h2)
      obtain ⟨v0, e0, l0, u0⟩ := h4 _ (List.mem_cons_self)
      have g0 : 1 * m2.toInt + ((-1) * m2'.toInt + 0) = v0 := Option.some.inj e0
      obtain ⟨v1, e1, l1, u1⟩ := h4 _ (List.mem_cons_of_mem _ (List.mem_cons_self))
      have g1 : 1 * (σ.2.1 83 2).toInt + ((-1) * (σ'.2.1 83 2).toInt + 0) = v1 := Option.some.inj e1
      exact cuta _ _ _ hr9_0 hr9_1 hm2 ⟨by rw [g0]; exact l0, by rw [g0]; exact u0⟩ ⟨by rw [g1]; exact l1, by rw [g1]; exact u1⟩ h5
theorem sg_lg0a_run (G : sx_G0 g L xs z9 hd_C ex_mt) (hct : ∀ (mi : Nat) (T2 : ex_T) (c' : sx_Ct), ex_mt mi = some T2 → c' ∈ k9 mi → c'.1 < 60 → sx_Holds g z9 hd_C T2 c') {σ : am_S} {lw : List (Nat × Value)} {post : Option (Option Value) → am_S → Prop} (hM : sx_M z9 hd_C σ 0 0 σ) (hl : (0, Value.ref 0) ∈ lw) {m1 : Int32} (hl1 : (1, Value.int m1) ∈ lw) (bl1 : (-2147483648) ≤ m1.toInt ∧ m1.toInt ≤ (-1)) (ret0 : ∀ (r : Int32) (σ' : am_S), ((-1000) ≤ 1 * r.toInt + 0 ∧ 1 * r.toInt + 0 ≤ (-1000)) → sx_M z9 hd_C σ 0 0 σ' → post (some (some (.int r))) σ') : am_K g 60 tX11_log.1 0 0 0 lw [] σ post := by
  refine sg_seg (sw := []) (vs := [m1.toInt]) (ws := []) G (mi := 46) rfl hct sg_lg0a_ok ⟨⟨m1, hl1, rfl⟩, trivial⟩ (hd_refs hl) trivial (hd_p1 rfl bl1.1 bl1.2 hd_p0) hM ?_ ?_
  · intro r σ' hq
    cases r with
    | none => exact hq.elim
    | some v =>
      obtain ⟨p, hp, hM2, ks, hk, hv⟩ := hq
      simp only [List.mem_cons, List.not_mem_nil, or_false] at hp
      rcases hp with rfl
      · obtain rfl := hd_keys hk
        cases v with
        | none => exact hv.elim
        | some w9 =>
          obtain ⟨r, rfl, hP⟩ := hv
          obtain ⟨v0, e0, l0, u0⟩ := hP _ (List.mem_cons_self)
          have g0 : 1 * r.toInt + 0 = v0 := Option.some.inj e0
          exact ret0 r _ ⟨by rw [g0]; exact l0, by rw [g0]; exact u0⟩ hM2
  · intro u hu
    cases hu
theorem sg_lg0b_run (G : sx_G0 g L xs z9 hd_C ex_mt) (hct : ∀ (mi : Nat) (T2 : ex_T) (c' : sx_Ct), ex_mt mi = some T2 → c' ∈ k9 mi → c'.1 < 60 → sx_Holds g z9 hd_C T2 c') {σ : am_S} {lw : List (Nat × Value)} {post : Option (Option Value) → am_S → Prop} (hM : sx_M z9 hd_C σ 0 0 σ) (hl : (0, Value.ref 0) ∈ lw) {m1 : Int32} (hl1 : (1, Value.int m1) ∈ lw) (bl1 : 2 ≤ m1.toInt ∧ m1.toInt ≤ 2147483647) (ret0 : ∀ (r : Int32) (σ' : am_S), ((-1000) ≤ 1 * r.toInt + 0 ∧ 1 * r.toInt + 0 ≤ (-1000)) → sx_M z9 hd_C σ 0 0 σ' → post (some (some (.int r))) σ') : am_K g 60 tX11_log.1 0 0 0 lw [] σ post := by
  refine sg_seg (sw := []) (vs := [m1.toInt]) (ws := []) G (mi := 46) rfl hct sg_lg0b_ok ⟨⟨m1, hl1, rfl⟩, trivial⟩ (hd_refs hl) trivial (hd_p1 rfl bl1.1 bl1.2 hd_p0) hM ?_ ?_
  · intro r σ' hq
    cases r with
    | none => exact hq.elim
    | some v =>
      obtain ⟨p, hp, hM2, ks, hk, hv⟩ := hq
      simp only [List.mem_cons, List.not_mem_nil, or_false] at hp
      rcases hp with rfl
      · obtain rfl := hd_keys hk
        cases v with
        | none => exact hv.elim
        | some w9 =>
          obtain ⟨r, rfl, hP⟩ := hv
          obtain ⟨v0, e0, l0, u0⟩ := hP _ (List.mem_cons_self)
          have g0 : 1 * r.toInt + 0 = v0 := Option.some.inj e0
          exact ret0 r _ ⟨by rw [g0]; exact l0, by rw [g0]; exact u0⟩ hM2
  · intro u hu
    cases hu
theorem sg_lg1_run (G : sx_G0 g L xs z9 hd_C ex_mt) (hct : ∀ (mi : Nat) (T2 : ex_T) (c' : sx_Ct), ex_mt mi = some T2 → c' ∈ k9 mi → c'.1 < 60 → sx_Holds g z9 hd_C T2 c') {σ : am_S} {lw : List (Nat × Value)} {post : Option (Option Value) → am_S → Prop} (hM : sx_M z9 hd_C σ 0 0 σ) (hl : (0, Value.ref 0) ∈ lw) {m1 : Int32} (hl1 : (1, Value.int m1) ∈ lw) (bl1 : 0 ≤ m1.toInt ∧ m1.toInt ≤ 1) (cuta : ∀ (lw' : List (Nat × Value)) (m1' : Int32) (n0' : Int32) (σ' : am_S), (0, Value.ref 0) ∈ lw' → (1, Value.int m1') ∈ lw' → (400 ≤ 1 * n0'.toInt + 0 ∧ 1 * n0'.toInt + 0 ≤ 400) → (0 ≤ 1 * m1.toInt + ((-1) * m1'.toInt + 0) ∧ 1 * m1.toInt + ((-1) * m1'.toInt + 0) ≤ 0) → sx_M z9 hd_C σ 0 0 σ' → am_K g 60 tX11_log.1 0 0 20 lw' [.int n0', .ref 3] σ' post) : am_K g 60 tX11_log.1 0 0 0 lw [] σ post := by
  refine sg_seg (sw := []) (vs := [m1.toInt]) (ws := []) G (mi := 46) rfl hct sg_lg1_ok ⟨⟨m1, hl1, rfl⟩, trivial⟩ (hd_refs hl) trivial (hd_p1 rfl bl1.1 bl1.2 hd_p0) hM ?_ ?_
  · intro r σ' hq
    cases r with
    | none => exact hq.elim
    | some v =>
      obtain ⟨p, hp, hM2, ks, hk, hv⟩ := hq
      cases hp
  · intro u hu
    simp only [List.mem_cons, List.not_mem_nil, or_false] at hu
    rcases hu with rfl
    · intro lw' sw' vs' ws' σ' ⟨h1_0, h2, h3_0, h4, h5⟩
      obtain ⟨m1', vs1, rfl, hm1, h1_1⟩ := hd_srcl h1_0
      obtain rfl := hd_src0 h1_1
      obtain ⟨n0', sw1, ws1, rfl, rfl, h3_1⟩ := hd_sti h3_0
      obtain ⟨sw2, rfl, h3_2⟩ := hd_str h3_1
      obtain ⟨rfl, rfl⟩ := hd_st0 h3_2
      have hr9 := hd_ref0 h2
      obtain ⟨v0, e0, l0, u0⟩ := h4 _ (List.mem_cons_self)
      have g0 : 1 * n0'.toInt + 0 = v0 := Option.some.inj e0
      obtain ⟨v1, e1, l1, u1⟩ := h4 _ (List.mem_cons_of_mem _ (List.mem_cons_self))
      have g1 : 1 * m1.toInt + ((-1) * m1'.toInt + 0) = v1 := Option.some.inj e1
      exact cuta _ _ _ _ hr9 hm1 ⟨by rw [g0]; exact l0, by rw [g0]; exact u0⟩ ⟨by rw [g1]; exact l1, by rw [g1]; exact u1⟩ h5
theorem sg_lg2_run (G : sx_G0 g L xs z9 hd_C ex_mt) (hct : ∀ (mi : Nat) (T2 : ex_T) (c' : sx_Ct), ex_mt mi = some T2 → c' ∈ k9 mi → c'.1 < 60 → sx_Holds g z9 hd_C T2 c') {σ : am_S} {lw : List (Nat × Value)} {post : Option (Option Value) → am_S → Prop} (hM : sx_M z9 hd_C σ 0 0 σ) (hl : (0, Value.ref 0) ∈ lw) {m1 : Int32} (hl1 : (1, Value.int m1) ∈ lw) (bl1 : 0 ≤ m1.toInt ∧ m1.toInt ≤ 1) (cuta : ∀ (lw' : List (Nat × Value)) (m1' : Int32) (σ' : am_S), (0, Value.ref 0) ∈ lw' → (1, Value.int m1') ∈ lw' → (0 ≤ 1 * m1.toInt + ((-1) * m1'.toInt + 0) ∧ 1 * m1.toInt + ((-1) * m1'.toInt + 0) ≤ 0) → sx_M z9 hd_C σ 0 0 σ' → am_K g 60 tX11_log.1 0 0 31 lw' [.ref 3, .ref 83] σ' post) : am_K g 60 tX11_log.1 0 0 23 lw [] σ post := by
  refine sg_seg (sw := []) (vs := [m1.toInt]) (ws := []) G (mi := 46) rfl hct sg_lg2_ok ⟨⟨m1, hl1, rfl⟩, trivial⟩ (hd_refs hl) trivial (hd_p1 rfl bl1.1 bl1.2 hd_p0) hM ?_ ?_
  · intro r σ' hq
    cases r with
    | none => exact hq.elim
    | some v =>
      obtain ⟨p, hp, hM2, ks, hk, hv⟩ := hq
      cases hp
  · intro u hu
    simp only [List.mem_cons, List.not_mem_nil, or_false] at hu
    rcases hu with rfl
    · intro lw' sw' vs' ws' σ' ⟨h1_0, h2, h3_0, h4, h5⟩
      obtain ⟨m1', vs1, rfl, hm1, h1_1⟩ := hd_srcl h1_0
      obtain rfl := hd_src0 h1_1
      obtain ⟨sw1, rfl, h3_1⟩ := hd_str h3_0
      obtain ⟨sw2, rfl, h3_2⟩ := hd_str h3_1
      obtain ⟨rfl, rfl⟩ := hd_st0 h3_2
      have hr9 := hd_ref0 h2
      obtain ⟨v0, e0, l0, u0⟩ := h4 _ (List.mem_cons_self)
      have g0 : 1 * m1.toInt + ((-1) * m1'.toInt + 0) = v0 := Option.some.inj e0
      exact cuta _ _ _ hr9 hm1 ⟨by rw [g0]; exact l0, by rw [g0]; exact u0⟩ h5
theorem sg_lg3n_run (G : sx_G0 g L xs z9 hd_C ex_mt) (hct : ∀ (mi : Nat) (T2 : ex_T) (c' : sx_Ct), ex_mt mi = some T2 → c' ∈ k9 mi → c'.1 < 60 → sx_Holds g z9 hd_C T2 c') {σ : am_S} {lw : List (Nat × Value)} {post : Option (Option Value) → am_S → Prop} (hM : sx_M z9 hd_C σ 0 0 σ) (hl : (0, Value.ref 0) ∈ lw) {m1 : Int32} (hl1 : (1, Value.int m1) ∈ lw) (bp3_8 : 0 ≤ (σ.2.1 3 8).toInt ∧ (σ.2.1 3 8).toInt ≤ 940) {n0 : Int32} (bk0 : 0 ≤ n0.toInt ∧ n0.toInt ≤ 0) (ret0 : ∀ (r : Int32) (σ' : am_S), ((-2) ≤ 1 * (σ.2.1 3 8).toInt + (1 * r.toInt + 0) ∧ 1 * (σ.2.1 3 8).toInt + (1 * r.toInt + 0) ≤ (-2)) → (0 ≤ 1 * (σ'.2.1 1 1).toInt + 0 ∧ 1 * (σ'.2.1 1 1).toInt + 0 ≤ 0) → (0 ≤ 1 * (σ.2.1 3 7).toInt + ((-1) * (σ'.2.1 0 16).toInt + 0) ∧ 1 * (σ.2.1 3 7).toInt + ((-1) * (σ'.2.1 0 16).toInt + 0) ≤ 0) → sx_M z9 hd_C σ 327680 0 σ' → post (some (some (.int r))) σ') : am_K g 60 tX11_log.1 0 0 34 lw [.int n0] σ post := by
  refine sg_seg (sw := [.int n0]) (vs := [m1.toInt, (σ.2.1 3 7).toInt, (σ.2.1 3 8).toInt]) (ws := [n0.toInt]) G (mi := 46) rfl hct sg_lg3n_ok ⟨⟨m1, hl1, rfl⟩, ⟨rfl, ⟨rfl, trivial⟩⟩⟩ (hd_refs hl) ⟨⟨n0, rfl, rfl⟩, trivial⟩ (hd_p1 rfl (Int32.le_toInt _) (Int32.toInt_le _) (hd_p1 rfl (hd_kd_3_7 hM).1 (hd_kd_3_7 hM).2 (hd_p1 rfl bp3_8.1 bp3_8.2 (hd_p1 rfl bk0.1 bk0.2 hd_p0)))) hM ?_ ?_
  · intro r σ' hq
    cases r with
    | none => exact hq.elim
    | some v =>
      obtain ⟨p, hp, hM2, ks, hk, hv⟩ := hq
      simp only [List.mem_cons, List.not_mem_nil, or_false] at hp
      rcases hp with rfl
      · obtain ⟨ks0, rfl, hk1⟩ := hd_keyc hk; obtain ⟨ks1, rfl, hk2⟩ := hd_keyc hk1; obtain rfl := hd_keys hk2
        cases v with
        | none => exact hv.elim
        | some w9 =>
          obtain ⟨r, rfl, hP⟩ := hv
          obtain ⟨v0, e0, l0, u0⟩ := hP _ (List.mem_cons_self)
          have g0 : 1 * (σ.2.1 3 8).toInt + (1 * r.toInt + 0) = v0 := Option.some.inj e0
          obtain ⟨v1, e1, l1, u1⟩ := hP _ (List.mem_cons_of_mem _ (List.mem_cons_self))
          have g1 : 1 * (σ'.2.1 1 1).toInt + 0 = v1 := Option.some.inj e1
          obtain ⟨v2, e2, l2, u2⟩ := hP _ (List.mem_cons_of_mem _ (List.mem_cons_of_mem _ (List.mem_cons_self)))
          have g2 : 1 * (σ.2.1 3 7).toInt + ((-1) * (σ'.2.1 0 16).toInt + 0) = v2 := Option.some.inj e2
          exact ret0 r _ ⟨by rw [g0]; exact l0, by rw [g0]; exact u0⟩ ⟨by rw [g1]; exact l1, by rw [g1]; exact u1⟩ ⟨by rw [g2]; exact l2, by rw [g2]; exact u2⟩ hM2
  · intro u hu
    cases hu
theorem sg_lg3y_run (G : sx_G0 g L xs z9 hd_C ex_mt) (hct : ∀ (mi : Nat) (T2 : ex_T) (c' : sx_Ct), ex_mt mi = some T2 → c' ∈ k9 mi → c'.1 < 60 → sx_Holds g z9 hd_C T2 c') {σ : am_S} {lw : List (Nat × Value)} {post : Option (Option Value) → am_S → Prop} (hM : sx_M z9 hd_C σ 0 0 σ) (hl : (0, Value.ref 0) ∈ lw) {m1 : Int32} (hl1 : (1, Value.int m1) ∈ lw) (bl1 : 0 ≤ m1.toInt ∧ m1.toInt ≤ 1) {n0 : Int32} (bk0 : 1 ≤ n0.toInt ∧ n0.toInt ≤ 1) (ret0 : ∀ (r : Int32) (σ' : am_S), ((-2147483648) ≤ 1 * r.toInt + 0 ∧ 1 * r.toInt + 0 ≤ 2147483647) → (0 ≤ 1 * (σ'.2.1 1 1).toInt + 0 ∧ 1 * (σ'.2.1 1 1).toInt + 0 ≤ 0) → (0 ≤ 1 * (σ.2.1 3 7).toInt + ((-1) * (σ'.2.1 0 16).toInt + 0) ∧ 1 * (σ.2.1 3 7).toInt + ((-1) * (σ'.2.1 0 16).toInt + 0) ≤ 0) → sx_M z9 hd_C σ 14702816322997461230514549762216742892294043524768491061746962330322532220270870528 0 σ' → post (some (some (.int r))) σ') : am_K g 60 tX11_log.1 0 0 34 lw [.int n0] σ post := by
  refine sg_seg (sw := [.int n0]) (vs := [m1.toInt, (σ.2.1 3 7).toInt]) (ws := [n0.toInt]) G (mi := 46) rfl hct sg_lg3y_ok ⟨⟨m1, hl1, rfl⟩, ⟨rfl, trivial⟩⟩ (hd_refs hl) ⟨⟨n0, rfl, rfl⟩, trivial⟩ (hd_p1 rfl bl1.1 bl1.2 (hd_p1 rfl (hd_kd_3_7 hM).1 (hd_kd_3_7 hM).2 (hd_p1 rfl bk0.1 bk0.2 hd_p0))) hM ?_ ?_
  · intro r σ' hq
    cases r with
    | none => exact hq.elim
    | some v =>
      obtain ⟨p, hp, hM2, ks, hk, hv⟩ := hq
      simp only [List.mem_cons, List.not_mem_nil, or_false] at hp
      rcases hp with rfl
      · obtain ⟨ks0, rfl, hk1⟩ := hd_keyc hk; obtain ⟨ks1, rfl, hk2⟩ := hd_keyc hk1; obtain rfl := hd_keys hk2
        cases v with
        | none => exact hv.elim
        | some w9 =>
          obtain ⟨r, rfl, hP⟩ := hv
          obtain ⟨v0, e0, l0, u0⟩ := hP _ (List.mem_cons_self)
          have g0 : 1 * r.toInt + 0 = v0 := Option.some.inj e0
          obtain ⟨v1, e1, l1, u1⟩ := hP _ (List.mem_cons_of_mem _ (List.mem_cons_self))
          have g1 : 1 * (σ'.2.1 1 1).toInt + 0 = v1 := Option.some.inj e1
          obtain ⟨v2, e2, l2, u2⟩ := hP _ (List.mem_cons_of_mem _ (List.mem_cons_of_mem _ (List.mem_cons_self)))
          have g2 : 1 * (σ.2.1 3 7).toInt + ((-1) * (σ'.2.1 0 16).toInt + 0) = v2 := Option.some.inj e2
          exact ret0 r _ ⟨by rw [g0]; exact l0, by rw [g0]; exact u0⟩ ⟨by rw [g1]; exact l1, by rw [g1]; exact u1⟩ ⟨by rw [g2]; exact l2, by rw [g2]; exact u2⟩ hM2
  · intro u hu
    cases hu
theorem sg_gl1_run (G : sx_G0 g L xs zK hd_T ex_mt) (hct : ∀ (mi : Nat) (T2 : ex_T) (c' : sx_Ct), ex_mt mi = some T2 → c' ∈ k9 mi → c'.1 < 0 → sx_Holds g zK hd_T T2 c') {σ : am_S} {lw : List (Nat × Value)} {post : Option (Option Value) → am_S → Prop} (hM : sx_M zK hd_T σ 0 0 σ) (hl : (0, Value.ref 118) ∈ lw)  (cuta : ∀ (lw' : List (Nat × Value)) (m1' : Int32) (σ' : am_S), (0, Value.ref 118) ∈ lw' → (1, Value.int m1') ∈ lw' → (0 ≤ 2 * (σ.2.1 118 35).toInt + ((-1) * m1'.toInt + 0) ∧ 2 * (σ.2.1 118 35).toInt + ((-1) * m1'.toInt + 0) ≤ 0) → sx_M zK hd_T σ 0 0 σ' → am_K g 20 tX12_logLine.1 0 0 8 lw' [.ref 118] σ' post) : am_K g 20 tX12_logLine.1 0 0 0 lw [] σ post := by
  refine sg_seg (sw := []) (vs := [(σ.2.1 118 35).toInt]) (ws := []) G (mi := 134) rfl hct sg_gl1_ok ⟨rfl, trivial⟩ (hd_refs hl) trivial (hd_p1 rfl (hd_kd_118_35 hM).1 (hd_kd_118_35 hM).2 hd_p0) hM ?_ ?_
  · intro r σ' hq
    cases r with
    | none => exact hq.elim
    | some v =>
      obtain ⟨p, hp, hM2, ks, hk, hv⟩ := hq
      cases hp
  · intro u hu
    simp only [List.mem_cons, List.not_mem_nil, or_false] at hu
    rcases hu with rfl
    · intro lw' sw' vs' ws' σ' ⟨h1_0, h2, h3_0, h4, h5⟩
      obtain ⟨m1', vs1, rfl, hm1, h1_1⟩ := hd_srcl h1_0
      obtain rfl := hd_src0 h1_1
      obtain ⟨sw1, rfl, h3_1⟩ := hd_str h3_0
      obtain ⟨rfl, rfl⟩ := hd_st0 h3_1
      have hr9 := hd_ref0 h2
      obtain ⟨v0, e0, l0, u0⟩ := h4 _ (List.mem_cons_self)
      have g0 : 2 * (σ.2.1 118 35).toInt + ((-1) * m1'.toInt + 0) = v0 := Option.some.inj e0
      exact cuta _ _ _ hr9 hm1 ⟨by rw [g0]; exact l0, by rw [g0]; exact u0⟩ h5
theorem sg_gl2n_run (G : sx_G0 g L xs zK hd_T ex_mt) (hct : ∀ (mi : Nat) (T2 : ex_T) (c' : sx_Ct), ex_mt mi = some T2 → c' ∈ k9 mi → c'.1 < 0 → sx_Holds g zK hd_T T2 c') {σ : am_S} {lw : List (Nat × Value)} {post : Option (Option Value) → am_S → Prop} (hM : sx_M zK hd_T σ 0 0 σ) (hl : (0, Value.ref 118) ∈ lw) {n0 : Int32} (bk0 : (-1) ≤ n0.toInt ∧ n0.toInt ≤ (-1)) (ret0 : ∀ (r : Int32) (σ' : am_S), (0 ≤ 1 * r.toInt + 0 ∧ 1 * r.toInt + 0 ≤ 0) → (1 ≤ 1 * (σ'.2.1 118 13).toInt + 0 ∧ 1 * (σ'.2.1 118 13).toInt + 0 ≤ 1) → (0 ≤ 1 * (σ.2.1 118 10).toInt + ((-1) * (σ'.2.1 118 14).toInt + 0) ∧ 1 * (σ.2.1 118 10).toInt + ((-1) * (σ'.2.1 118 14).toInt + 0) ≤ 0) → sx_M zK hd_T σ 28858891257124862704305937573347373392392387160985434571251191458187784500608308553281933292152037822856416985088 0 σ' → post (some (some (.int r))) σ') : am_K g 20 tX12_logLine.1 0 0 11 lw [.int n0] σ post := by
  refine sg_seg (sw := [.int n0]) (vs := [(σ.2.1 118 10).toInt]) (ws := [n0.toInt]) G (mi := 134) rfl hct sg_gl2n_ok ⟨rfl, trivial⟩ (hd_refs hl) ⟨⟨n0, rfl, rfl⟩, trivial⟩ (hd_p1 rfl (hd_kd_118_10 hM).1 (hd_kd_118_10 hM).2 (hd_p1 rfl bk0.1 bk0.2 hd_p0)) hM ?_ ?_
  · intro r σ' hq
    cases r with
    | none => exact hq.elim
    | some v =>
      obtain ⟨p, hp, hM2, ks, hk, hv⟩ := hq
      simp only [List.mem_cons, List.not_mem_nil, or_false] at hp
      rcases hp with rfl
      · obtain ⟨ks0, rfl, hk1⟩ := hd_keyc hk; obtain ⟨ks1, rfl, hk2⟩ := hd_keyc hk1; obtain rfl := hd_keys hk2
        cases v with
        | none => exact hv.elim
        | some w9 =>
          obtain ⟨r, rfl, hP⟩ := hv
          obtain ⟨v0, e0, l0, u0⟩ := hP _ (List.mem_cons_self)
          have g0 : 1 * r.toInt + 0 = v0 := Option.some.inj e0
          obtain ⟨v1, e1, l1, u1⟩ := hP _ (List.mem_cons_of_mem _ (List.mem_cons_self))
          have g1 : 1 * (σ'.2.1 118 13).toInt + 0 = v1 := Option.some.inj e1
          obtain ⟨v2, e2, l2, u2⟩ := hP _ (List.mem_cons_of_mem _ (List.mem_cons_of_mem _ (List.mem_cons_self)))
          have g2 : 1 * (σ.2.1 118 10).toInt + ((-1) * (σ'.2.1 118 14).toInt + 0) = v2 := Option.some.inj e2
          exact ret0 r _ ⟨by rw [g0]; exact l0, by rw [g0]; exact u0⟩ ⟨by rw [g1]; exact l1, by rw [g1]; exact u1⟩ ⟨by rw [g2]; exact l2, by rw [g2]; exact u2⟩ hM2
  · intro u hu
    cases hu
theorem sg_gl2f_run (G : sx_G0 g L xs zK hd_T ex_mt) (hct : ∀ (mi : Nat) (T2 : ex_T) (c' : sx_Ct), ex_mt mi = some T2 → c' ∈ k9 mi → c'.1 < 0 → sx_Holds g zK hd_T T2 c') {σ : am_S} {lw : List (Nat × Value)} {post : Option (Option Value) → am_S → Prop} (hM : sx_M zK hd_T σ 0 0 σ) (hl : (0, Value.ref 118) ∈ lw) (bp118_35 : 40 ≤ (σ.2.1 118 35).toInt ∧ (σ.2.1 118 35).toInt ≤ 40) {n0 : Int32} (bk0 : 0 ≤ n0.toInt ∧ n0.toInt ≤ 6) (ret0 : ∀ (r : Int32) (σ' : am_S), (0 ≤ 1 * r.toInt + 0 ∧ 1 * r.toInt + 0 ≤ 0) → (4 ≤ 1 * (σ'.2.1 118 13).toInt + 0 ∧ 1 * (σ'.2.1 118 13).toInt + 0 ≤ 4) → (0 ≤ 1 * (σ.2.1 118 10).toInt + ((-1) * (σ'.2.1 118 14).toInt + 0) ∧ 1 * (σ.2.1 118 10).toInt + ((-1) * (σ'.2.1 118 14).toInt + 0) ≤ 0) → sx_M zK hd_T σ 28858891257124862704305937573347373392392387160985434571251191458187784500608308553281933292152037822856416985088 0 σ' → post (some (some (.int r))) σ') : am_K g 20 tX12_logLine.1 0 0 11 lw [.int n0] σ post := by
  refine sg_seg (sw := [.int n0]) (vs := [(σ.2.1 118 10).toInt, (σ.2.1 118 35).toInt]) (ws := [n0.toInt]) G (mi := 134) rfl hct sg_gl2f_ok ⟨rfl, ⟨rfl, trivial⟩⟩ (hd_refs hl) ⟨⟨n0, rfl, rfl⟩, trivial⟩ (hd_p1 rfl (hd_kd_118_10 hM).1 (hd_kd_118_10 hM).2 (hd_p1 rfl bp118_35.1 bp118_35.2 (hd_p1 rfl bk0.1 bk0.2 hd_p0))) hM ?_ ?_
  · intro r σ' hq
    cases r with
    | none => exact hq.elim
    | some v =>
      obtain ⟨p, hp, hM2, ks, hk, hv⟩ := hq
      simp only [List.mem_cons, List.not_mem_nil, or_false] at hp
      rcases hp with rfl
      · obtain ⟨ks0, rfl, hk1⟩ := hd_keyc hk; obtain ⟨ks1, rfl, hk2⟩ := hd_keyc hk1; obtain rfl := hd_keys hk2
        cases v with
        | none => exact hv.elim
        | some w9 =>
          obtain ⟨r, rfl, hP⟩ := hv
          obtain ⟨v0, e0, l0, u0⟩ := hP _ (List.mem_cons_self)
          have g0 : 1 * r.toInt + 0 = v0 := Option.some.inj e0
          obtain ⟨v1, e1, l1, u1⟩ := hP _ (List.mem_cons_of_mem _ (List.mem_cons_self))
          have g1 : 1 * (σ'.2.1 118 13).toInt + 0 = v1 := Option.some.inj e1
          obtain ⟨v2, e2, l2, u2⟩ := hP _ (List.mem_cons_of_mem _ (List.mem_cons_of_mem _ (List.mem_cons_self)))
          have g2 : 1 * (σ.2.1 118 10).toInt + ((-1) * (σ'.2.1 118 14).toInt + 0) = v2 := Option.some.inj e2
          exact ret0 r _ ⟨by rw [g0]; exact l0, by rw [g0]; exact u0⟩ ⟨by rw [g1]; exact l1, by rw [g1]; exact u1⟩ ⟨by rw [g2]; exact l2, by rw [g2]; exact u2⟩ hM2
  · intro u hu
    cases hu
theorem sg_gl2_run (G : sx_G0 g L xs zK hd_T ex_mt) (hct : ∀ (mi : Nat) (T2 : ex_T) (c' : sx_Ct), ex_mt mi = some T2 → c' ∈ k9 mi → c'.1 < 0 → sx_Holds g zK hd_T T2 c') {σ : am_S} {lw : List (Nat × Value)} {post : Option (Option Value) → am_S → Prop} (hM : sx_M zK hd_T σ 0 0 σ) (hl : (0, Value.ref 118) ∈ lw) {m1 : Int32} (hl1 : (1, Value.int m1) ∈ lw) (bp118_35 : 0 ≤ (σ.2.1 118 35).toInt ∧ (σ.2.1 118 35).toInt ≤ 39) {n0 : Int32} (bk0 : 0 ≤ n0.toInt ∧ n0.toInt ≤ 6) (cuta : ∀ (lw' : List (Nat × Value)) (m1' : Int32) (m2' : Int32) (n0' : Int32) (n1' : Int32) (σ' : am_S), (0, Value.ref 118) ∈ lw' → (1, Value.int m1') ∈ lw' → (2, Value.int m2') ∈ lw' → (0 ≤ 1 * n0.toInt + ((-1) * n0'.toInt + 0) ∧ 1 * n0.toInt + ((-1) * n0'.toInt + 0) ≤ 0) → (0 ≤ 1 * m1.toInt + ((-1) * n1'.toInt + 0) ∧ 1 * m1.toInt + ((-1) * n1'.toInt + 0) ≤ 0) → (0 ≤ 1 * n0.toInt + ((-1) * m2'.toInt + 0) ∧ 1 * n0.toInt + ((-1) * m2'.toInt + 0) ≤ 0) → (0 ≤ 1 * m1.toInt + ((-1) * m1'.toInt + 0) ∧ 1 * m1.toInt + ((-1) * m1'.toInt + 0) ≤ 0) → sx_M zK hd_T σ 0 0 σ' → am_K g 20 tX12_logLine.1 0 0 43 lw' [.int n0', .int n1', .ref 122] σ' post) : am_K g 20 tX12_logLine.1 0 0 11 lw [.int n0] σ post := by
  refine sg_seg (sw := [.int n0]) (vs := [m1.toInt, (σ.2.1 118 35).toInt]) (ws := [n0.toInt]) G (mi := 134) rfl hct sg_gl2_ok ⟨⟨m1, hl1, rfl⟩, ⟨rfl, trivial⟩⟩ (hd_refs hl) ⟨⟨n0, rfl, rfl⟩, trivial⟩ (hd_p1 rfl (Int32.le_toInt _) (Int32.toInt_le _) (hd_p1 rfl bp118_35.1 bp118_35.2 (hd_p1 rfl bk0.1 bk0.2 hd_p0))) hM ?_ ?_
  · intro r σ' hq
    cases r with
    | none => exact hq.elim
    | some v =>
      obtain ⟨p, hp, hM2, ks, hk, hv⟩ := hq
      cases hp
  · intro u hu
    simp only [List.mem_cons, List.not_mem_nil, or_false] at hu
    rcases hu with rfl
    · intro lw' sw' vs' ws' σ' ⟨h1_0, h2, h3_0, h4, h5⟩
      obtain ⟨m1', vs1, rfl, hm1, h1_1⟩ := hd_srcl h1_0
      obtain ⟨m2', vs2, rfl, hm2, h1_2⟩ := hd_srcl h1_1
      obtain rfl := hd_src0 h1_2
      obtain ⟨n0', sw1, ws1, rfl, rfl, h3_1⟩ := hd_sti h3_0
      obtain ⟨n1', sw2, ws2, rfl, rfl, h3_2⟩ := hd_sti h3_1
      obtain ⟨sw3, rfl, h3_3⟩ := hd_str h3_2
      obtain ⟨rfl, rfl⟩ := hd_st0 h3_3
      have hr9 := hd_ref0 h2
      obtain ⟨v0, e0, l0, u0⟩ := h4 _ (List.mem_cons_self)
      have g0 : 1 * n0.toInt + ((-1) * n0'.toInt + 0) = v0 := Option.some.inj e0
      obtain ⟨v1, e1, l1, u1⟩ := h4 _ (List.mem_cons_of_mem _ (List.mem_cons_self))
      have g1 : 1 * m1.toInt + ((-1) * n1'.toInt + 0) = v1 := Option.some.inj e1
      obtain ⟨v2, e2, l2, u2⟩ := h4 _ (List.mem_cons_of_mem _ (List.mem_cons_of_mem _ (List.mem_cons_self)))
      have g2 : 1 * n0.toInt + ((-1) * m2'.toInt + 0) = v2 := Option.some.inj e2
      obtain ⟨v3, e3, l3, u3⟩ := h4 _ (List.mem_cons_of_mem _ (List.mem_cons_of_mem _ (List.mem_cons_of_mem _ (List.mem_cons_self))))
      have g3 : 1 * m1.toInt + ((-1) * m1'.toInt + 0) = v3 := Option.some.inj e3
      exact cuta _ _ _ _ _ _ hr9 hm1 hm2 ⟨by rw [g0]; exact l0, by rw [g0]; exact u0⟩ ⟨by rw [g1]; exact l1, by rw [g1]; exact u1⟩ ⟨by rw [g2]; exact l2, by rw [g2]; exact u2⟩ ⟨by rw [g3]; exact l3, by rw [g3]; exact u3⟩ h5
theorem sg_gl3_run (G : sx_G0 g L xs zK hd_T ex_mt) (hct : ∀ (mi : Nat) (T2 : ex_T) (c' : sx_Ct), ex_mt mi = some T2 → c' ∈ k9 mi → c'.1 < 0 → sx_Holds g zK hd_T T2 c') {σ : am_S} {lw : List (Nat × Value)} {post : Option (Option Value) → am_S → Prop} (hM : sx_M zK hd_T σ 0 0 σ) (hl : (0, Value.ref 118) ∈ lw) {m1 : Int32} (hl1 : (1, Value.int m1) ∈ lw) {m2 : Int32} (hl2 : (2, Value.int m2) ∈ lw) (cuta : ∀ (lw' : List (Nat × Value)) (m1' : Int32) (m2' : Int32) (σ' : am_S), (0, Value.ref 118) ∈ lw' → (1, Value.int m1') ∈ lw' → (2, Value.int m2') ∈ lw' → (0 ≤ 1 * m1.toInt + ((-1) * m1'.toInt + 0) ∧ 1 * m1.toInt + ((-1) * m1'.toInt + 0) ≤ 0) → (0 ≤ 1 * m2.toInt + ((-1) * m2'.toInt + 0) ∧ 1 * m2.toInt + ((-1) * m2'.toInt + 0) ≤ 0) → sx_M zK hd_T σ 0 0 σ' → am_K g 20 tX12_logLine.1 0 0 45 lw' [.ref 118] σ' post) : am_K g 20 tX12_logLine.1 0 0 44 lw [] σ post := by
  refine sg_seg (sw := []) (vs := [m1.toInt, m2.toInt]) (ws := []) G (mi := 134) rfl hct sg_gl3_ok ⟨⟨m1, hl1, rfl⟩, ⟨⟨m2, hl2, rfl⟩, trivial⟩⟩ (hd_refs hl) trivial (hd_p1 rfl (Int32.le_toInt _) (Int32.toInt_le _) (hd_p1 rfl (Int32.le_toInt _) (Int32.toInt_le _) hd_p0)) hM ?_ ?_
  · intro r σ' hq
    cases r with
    | none => exact hq.elim
    | some v =>
      obtain ⟨p, hp, hM2, ks, hk, hv⟩ := hq
      cases hp
  · intro u hu
    simp only [List.mem_cons, List.not_mem_nil, or_false] at hu
    rcases hu with rfl
    · intro lw' sw' vs' ws' σ' ⟨h1_0, h2, h3_0, h4, h5⟩
      obtain ⟨m1', vs1, rfl, hm1, h1_1⟩ := hd_srcl h1_0
      obtain ⟨m2', vs2, rfl, hm2, h1_2⟩ := hd_srcl h1_1
      obtain rfl := hd_src0 h1_2
      obtain ⟨sw1, rfl, h3_1⟩ := hd_str h3_0
      obtain ⟨rfl, rfl⟩ := hd_st0 h3_1
      have hr9 := hd_ref0 h2
      obtain ⟨v0, e0, l0, u0⟩ := h4 _ (List.mem_cons_self)
      have g0 : 1 * m1.toInt + ((-1) * m1'.toInt + 0) = v0 := Option.some.inj e0
      obtain ⟨v1, e1, l1, u1⟩ := h4 _ (List.mem_cons_of_mem _ (List.mem_cons_self))
      have g1 : 1 * m2.toInt + ((-1) * m2'.toInt + 0) = v1 := Option.some.inj e1
      exact cuta _ _ _ _ hr9 hm1 hm2 ⟨by rw [g0]; exact l0, by rw [g0]; exact u0⟩ ⟨by rw [g1]; exact l1, by rw [g1]; exact u1⟩ h5
theorem sg_gl4m_run (G : sx_G0 g L xs zK hd_T ex_mt) (hct : ∀ (mi : Nat) (T2 : ex_T) (c' : sx_Ct), ex_mt mi = some T2 → c' ∈ k9 mi → c'.1 < 0 → sx_Holds g zK hd_T T2 c') {σ : am_S} {lw : List (Nat × Value)} {post : Option (Option Value) → am_S → Prop} (hM : sx_M zK hd_T σ 0 0 σ) (hl : (0, Value.ref 118) ∈ lw) {m2 : Int32} (hl2 : (2, Value.int m2) ∈ lw) (bl2 : 2 ≤ m2.toInt ∧ m2.toInt ≤ 5) (ret0 : ∀ (r : Int32) (σ' : am_S), (1 ≤ 1 * r.toInt + 0 ∧ 1 * r.toInt + 0 ≤ 1) → sx_M zK hd_T σ 0 0 σ' → post (some (some (.int r))) σ') : am_K g 20 tX12_logLine.1 0 0 48 lw [] σ post := by
  refine sg_seg (sw := []) (vs := [m2.toInt]) (ws := []) G (mi := 134) rfl hct sg_gl4m_ok ⟨⟨m2, hl2, rfl⟩, trivial⟩ (hd_refs hl) trivial (hd_p1 rfl bl2.1 bl2.2 hd_p0) hM ?_ ?_
  · intro r σ' hq
    cases r with
    | none => exact hq.elim
    | some v =>
      obtain ⟨p, hp, hM2, ks, hk, hv⟩ := hq
      simp only [List.mem_cons, List.not_mem_nil, or_false] at hp
      rcases hp with rfl
      · obtain rfl := hd_keys hk
        cases v with
        | none => exact hv.elim
        | some w9 =>
          obtain ⟨r, rfl, hP⟩ := hv
          obtain ⟨v0, e0, l0, u0⟩ := hP _ (List.mem_cons_self)
          have g0 : 1 * r.toInt + 0 = v0 := Option.some.inj e0
          exact ret0 r _ ⟨by rw [g0]; exact l0, by rw [g0]; exact u0⟩ hM2
  · intro u hu
    cases hu
theorem sg_gl4t_run (G : sx_G0 g L xs zK hd_T ex_mt) (hct : ∀ (mi : Nat) (T2 : ex_T) (c' : sx_Ct), ex_mt mi = some T2 → c' ∈ k9 mi → c'.1 < 0 → sx_Holds g zK hd_T T2 c') {σ : am_S} {lw : List (Nat × Value)} {post : Option (Option Value) → am_S → Prop} (hM : sx_M zK hd_T σ 0 0 σ) (hl : (0, Value.ref 118) ∈ lw) {m1 : Int32} (hl1 : (1, Value.int m1) ∈ lw) {m2 : Int32} (hl2 : (2, Value.int m2) ∈ lw) (bl2 : 0 ≤ m2.toInt ∧ m2.toInt ≤ 0) (cuta : ∀ (lw' : List (Nat × Value)) (m1' : Int32) (n0' : Int32) (n1' : Int32) (σ' : am_S), (0, Value.ref 118) ∈ lw' → (1, Value.int m1') ∈ lw' → (60 ≤ 1 * n0'.toInt + 0 ∧ 1 * n0'.toInt + 0 ≤ 60) → (0 ≤ 1 * n1'.toInt + 0 ∧ 1 * n1'.toInt + 0 ≤ 0) → (0 ≤ 1 * m1.toInt + ((-1) * m1'.toInt + 0) ∧ 1 * m1.toInt + ((-1) * m1'.toInt + 0) ≤ 0) → sx_M zK hd_T σ 0 0 σ' → am_K g 20 tX12_logLine.1 0 0 85 lw' [.int n0', .int n1', .ref 118] σ' post) : am_K g 20 tX12_logLine.1 0 0 48 lw [] σ post := by
  refine sg_seg (sw := []) (vs := [m1.toInt, m2.toInt]) (ws := []) G (mi := 134) rfl hct sg_gl4t_ok ⟨⟨m1, hl1, rfl⟩, ⟨⟨m2, hl2, rfl⟩, trivial⟩⟩ (hd_refs hl) trivial (hd_p1 rfl (Int32.le_toInt _) (Int32.toInt_le _) (hd_p1 rfl bl2.1 bl2.2 hd_p0)) hM ?_ ?_
  · intro r σ' hq
    cases r with
    | none => exact hq.elim
    | some v =>
      obtain ⟨p, hp, hM2, ks, hk, hv⟩ := hq
      cases hp
  · intro u hu
    simp only [List.mem_cons, List.not_mem_nil, or_false] at hu
    rcases hu with rfl
    · intro lw' sw' vs' ws' σ' ⟨h1_0, h2, h3_0, h4, h5⟩
      obtain ⟨m1', vs1, rfl, hm1, h1_1⟩ := hd_srcl h1_0
      obtain rfl := hd_src0 h1_1
      obtain ⟨n0', sw1, ws1, rfl, rfl, h3_1⟩ := hd_sti h3_0
      obtain ⟨n1', sw2, ws2, rfl, rfl, h3_2⟩ := hd_sti h3_1
      obtain ⟨sw3, rfl, h3_3⟩ := hd_str h3_2
      obtain ⟨rfl, rfl⟩ := hd_st0 h3_3
      have hr9 := hd_ref0 h2
      obtain ⟨v0, e0, l0, u0⟩ := h4 _ (List.mem_cons_self)
      have g0 : 1 * n0'.toInt + 0 = v0 := Option.some.inj e0
      obtain ⟨v1, e1, l1, u1⟩ := h4 _ (List.mem_cons_of_mem _ (List.mem_cons_self))
      have g1 : 1 * n1'.toInt + 0 = v1 := Option.some.inj e1
      obtain ⟨v2, e2, l2, u2⟩ := h4 _ (List.mem_cons_of_mem _ (List.mem_cons_of_mem _ (List.mem_cons_self)))
      have g2 : 1 * m1.toInt + ((-1) * m1'.toInt + 0) = v2 := Option.some.inj e2
      exact cuta _ _ _ _ _ hr9 hm1 ⟨by rw [g0]; exact l0, by rw [g0]; exact u0⟩ ⟨by rw [g1]; exact l1, by rw [g1]; exact u1⟩ ⟨by rw [g2]; exact l2, by rw [g2]; exact u2⟩ h5
theorem sg_gl4a_run (G : sx_G0 g L xs zK hd_T ex_mt) (hct : ∀ (mi : Nat) (T2 : ex_T) (c' : sx_Ct), ex_mt mi = some T2 → c' ∈ k9 mi → c'.1 < 0 → sx_Holds g zK hd_T T2 c') {σ : am_S} {lw : List (Nat × Value)} {post : Option (Option Value) → am_S → Prop} (hM : sx_M zK hd_T σ 0 0 σ) (hl : (0, Value.ref 118) ∈ lw) {m1 : Int32} (hl1 : (1, Value.int m1) ∈ lw) {m2 : Int32} (hl2 : (2, Value.int m2) ∈ lw) (bl2 : 1 ≤ m2.toInt ∧ m2.toInt ≤ 1) (cuta : ∀ (lw' : List (Nat × Value)) (m1' : Int32) (n0' : Int32) (n1' : Int32) (σ' : am_S), (0, Value.ref 118) ∈ lw' → (1, Value.int m1') ∈ lw' → (9 ≤ 1 * n0'.toInt + 0 ∧ 1 * n0'.toInt + 0 ≤ 9) → (0 ≤ 1 * n1'.toInt + 0 ∧ 1 * n1'.toInt + 0 ≤ 0) → (0 ≤ 1 * m1.toInt + ((-1) * m1'.toInt + 0) ∧ 1 * m1.toInt + ((-1) * m1'.toInt + 0) ≤ 0) → sx_M zK hd_T σ 0 0 σ' → am_K g 20 tX12_logLine.1 0 0 85 lw' [.int n0', .int n1', .ref 118] σ' post) : am_K g 20 tX12_logLine.1 0 0 48 lw [] σ post := by
  refine sg_seg (sw := []) (vs := [m1.toInt, m2.toInt]) (ws := []) G (mi := 134) rfl hct sg_gl4a_ok ⟨⟨m1, hl1, rfl⟩, ⟨⟨m2, hl2, rfl⟩, trivial⟩⟩ (hd_refs hl) trivial (hd_p1 rfl (Int32.le_toInt _) (Int32.toInt_le _) (hd_p1 rfl bl2.1 bl2.2 hd_p0)) hM ?_ ?_
  · intro r σ' hq
    cases r with
    | none => exact hq.elim
    | some v =>
      obtain ⟨p, hp, hM2, ks, hk, hv⟩ := hq
      cases hp
  · intro u hu
    simp only [List.mem_cons, List.not_mem_nil, or_false] at hu
    rcases hu with rfl
    · intro lw' sw' vs' ws' σ' ⟨h1_0, h2, h3_0, h4, h5⟩
      obtain ⟨m1', vs1, rfl, hm1, h1_1⟩ := hd_srcl h1_0
      obtain rfl := hd_src0 h1_1
      obtain ⟨n0', sw1, ws1, rfl, rfl, h3_1⟩ := hd_sti h3_0
      obtain ⟨n1', sw2, ws2, rfl, rfl, h3_2⟩ := hd_sti h3_1
      obtain ⟨sw3, rfl, h3_3⟩ := hd_str h3_2
      obtain ⟨rfl, rfl⟩ := hd_st0 h3_3
      have hr9 := hd_ref0 h2
      obtain ⟨v0, e0, l0, u0⟩ := h4 _ (List.mem_cons_self)
      have g0 : 1 * n0'.toInt + 0 = v0 := Option.some.inj e0
      obtain ⟨v1, e1, l1, u1⟩ := h4 _ (List.mem_cons_of_mem _ (List.mem_cons_self))
      have g1 : 1 * n1'.toInt + 0 = v1 := Option.some.inj e1
      obtain ⟨v2, e2, l2, u2⟩ := h4 _ (List.mem_cons_of_mem _ (List.mem_cons_of_mem _ (List.mem_cons_self)))
      have g2 : 1 * m1.toInt + ((-1) * m1'.toInt + 0) = v2 := Option.some.inj e2
      exact cuta _ _ _ _ _ hr9 hm1 ⟨by rw [g0]; exact l0, by rw [g0]; exact u0⟩ ⟨by rw [g1]; exact l1, by rw [g1]; exact u1⟩ ⟨by rw [g2]; exact l2, by rw [g2]; exact u2⟩ h5
theorem sg_gl4w_run (G : sx_G0 g L xs zK hd_T ex_mt) (hct : ∀ (mi : Nat) (T2 : ex_T) (c' : sx_Ct), ex_mt mi = some T2 → c' ∈ k9 mi → c'.1 < 0 → sx_Holds g zK hd_T T2 c') {σ : am_S} {lw : List (Nat × Value)} {post : Option (Option Value) → am_S → Prop} (hM : sx_M zK hd_T σ 0 0 σ) (hl : (0, Value.ref 118) ∈ lw) {m1 : Int32} (hl1 : (1, Value.int m1) ∈ lw) {m2 : Int32} (hl2 : (2, Value.int m2) ∈ lw) (bl2 : 6 ≤ m2.toInt ∧ m2.toInt ≤ 6) (cuta : ∀ (lw' : List (Nat × Value)) (m1' : Int32) (n0' : Int32) (n1' : Int32) (σ' : am_S), (0, Value.ref 118) ∈ lw' → (1, Value.int m1') ∈ lw' → (60 ≤ 1 * n0'.toInt + 0 ∧ 1 * n0'.toInt + 0 ≤ 60) → (1 ≤ 1 * n1'.toInt + 0 ∧ 1 * n1'.toInt + 0 ≤ 1) → (0 ≤ 1 * m1.toInt + ((-1) * m1'.toInt + 0) ∧ 1 * m1.toInt + ((-1) * m1'.toInt + 0) ≤ 0) → sx_M zK hd_T σ 0 0 σ' → am_K g 20 tX12_logLine.1 0 0 85 lw' [.int n0', .int n1', .ref 118] σ' post) : am_K g 20 tX12_logLine.1 0 0 48 lw [] σ post := by
  refine sg_seg (sw := []) (vs := [m1.toInt, m2.toInt]) (ws := []) G (mi := 134) rfl hct sg_gl4w_ok ⟨⟨m1, hl1, rfl⟩, ⟨⟨m2, hl2, rfl⟩, trivial⟩⟩ (hd_refs hl) trivial (hd_p1 rfl (Int32.le_toInt _) (Int32.toInt_le _) (hd_p1 rfl bl2.1 bl2.2 hd_p0)) hM ?_ ?_
  · intro r σ' hq
    cases r with
    | none => exact hq.elim
    | some v =>
      obtain ⟨p, hp, hM2, ks, hk, hv⟩ := hq
      cases hp
  · intro u hu
    simp only [List.mem_cons, List.not_mem_nil, or_false] at hu
    rcases hu with rfl
    · intro lw' sw' vs' ws' σ' ⟨h1_0, h2, h3_0, h4, h5⟩
      obtain ⟨m1', vs1, rfl, hm1, h1_1⟩ := hd_srcl h1_0
      obtain rfl := hd_src0 h1_1
      obtain ⟨n0', sw1, ws1, rfl, rfl, h3_1⟩ := hd_sti h3_0
      obtain ⟨n1', sw2, ws2, rfl, rfl, h3_2⟩ := hd_sti h3_1
      obtain ⟨sw3, rfl, h3_3⟩ := hd_str h3_2
      obtain ⟨rfl, rfl⟩ := hd_st0 h3_3
      have hr9 := hd_ref0 h2
      obtain ⟨v0, e0, l0, u0⟩ := h4 _ (List.mem_cons_self)
      have g0 : 1 * n0'.toInt + 0 = v0 := Option.some.inj e0
      obtain ⟨v1, e1, l1, u1⟩ := h4 _ (List.mem_cons_of_mem _ (List.mem_cons_self))
      have g1 : 1 * n1'.toInt + 0 = v1 := Option.some.inj e1
      obtain ⟨v2, e2, l2, u2⟩ := h4 _ (List.mem_cons_of_mem _ (List.mem_cons_of_mem _ (List.mem_cons_self)))
      have g2 : 1 * m1.toInt + ((-1) * m1'.toInt + 0) = v2 := Option.some.inj e2
      exact cuta _ _ _ _ _ hr9 hm1 ⟨by rw [g0]; exact l0, by rw [g0]; exact u0⟩ ⟨by rw [g1]; exact l1, by rw [g1]; exact u1⟩ ⟨by rw [g2]; exact l2, by rw [g2]; exact u2⟩ h5
theorem sg_gl5n_run (G : sx_G0 g L xs zK hd_T ex_mt) (hct : ∀ (mi : Nat) (T2 : ex_T) (c' : sx_Ct), ex_mt mi = some T2 → c' ∈ k9 mi → c'.1 < 0 → sx_Holds g zK hd_T T2 c') {σ : am_S} {lw : List (Nat × Value)} {post : Option (Option Value) → am_S → Prop} (hM : sx_M zK hd_T σ 0 0 σ) (hl : (0, Value.ref 118) ∈ lw) {n0 : Int32} (bk0 : 0 ≤ n0.toInt ∧ n0.toInt ≤ 0) (ret0 : ∀ (r : Int32) (σ' : am_S), (0 ≤ 1 * r.toInt + 0 ∧ 1 * r.toInt + 0 ≤ 0) → sx_M zK hd_T σ 0 0 σ' → post (some (some (.int r))) σ') : am_K g 20 tX12_logLine.1 0 0 88 lw [.int n0] σ post := by
  refine sg_seg (sw := [.int n0]) (vs := []) (ws := [n0.toInt]) G (mi := 134) rfl hct sg_gl5n_ok trivial (hd_refs hl) ⟨⟨n0, rfl, rfl⟩, trivial⟩ (hd_p1 rfl bk0.1 bk0.2 hd_p0) hM ?_ ?_
  · intro r σ' hq
    cases r with
    | none => exact hq.elim
    | some v =>
      obtain ⟨p, hp, hM2, ks, hk, hv⟩ := hq
      simp only [List.mem_cons, List.not_mem_nil, or_false] at hp
      rcases hp with rfl
      · obtain rfl := hd_keys hk
        cases v with
        | none => exact hv.elim
        | some w9 =>
          obtain ⟨r, rfl, hP⟩ := hv
          obtain ⟨v0, e0, l0, u0⟩ := hP _ (List.mem_cons_self)
          have g0 : 1 * r.toInt + 0 = v0 := Option.some.inj e0
          exact ret0 r _ ⟨by rw [g0]; exact l0, by rw [g0]; exact u0⟩ hM2
  · intro u hu
    cases hu
theorem sg_gl5_run (G : sx_G0 g L xs zK hd_T ex_mt) (hct : ∀ (mi : Nat) (T2 : ex_T) (c' : sx_Ct), ex_mt mi = some T2 → c' ∈ k9 mi → c'.1 < 0 → sx_Holds g zK hd_T T2 c') {σ : am_S} {lw : List (Nat × Value)} {post : Option (Option Value) → am_S → Prop} (hM : sx_M zK hd_T σ 0 0 σ) (hl : (0, Value.ref 118) ∈ lw) {m1 : Int32} (hl1 : (1, Value.int m1) ∈ lw) (bl1 : 0 ≤ m1.toInt ∧ m1.toInt ≤ 78) {n0 : Int32} (bk0 : 1 ≤ n0.toInt ∧ n0.toInt ≤ 1) (cuta : ∀ (lw' : List (Nat × Value)) (n0' : Int32) (n1' : Int32) (σ' : am_S), (0, Value.ref 118) ∈ lw' → (0 ≤ 1 * (σ.2.1 118 16).toInt + ((-1) * n0'.toInt + 0) ∧ 1 * (σ.2.1 118 16).toInt + ((-1) * n0'.toInt + 0) ≤ 0) → ((-1) ≤ 1 * m1.toInt + ((-1) * n1'.toInt + 0) ∧ 1 * m1.toInt + ((-1) * n1'.toInt + 0) ≤ (-1)) → sx_M zK hd_T σ 0 0 σ' → am_K g 20 tX12_logLine.1 0 0 104 lw' [.int n0', .int n1', .ref 122] σ' post) : am_K g 20 tX12_logLine.1 0 0 88 lw [.int n0] σ post := by
  refine sg_seg (sw := [.int n0]) (vs := [m1.toInt, (σ.2.1 118 16).toInt]) (ws := [n0.toInt]) G (mi := 134) rfl hct sg_gl5_ok ⟨⟨m1, hl1, rfl⟩, ⟨rfl, trivial⟩⟩ (hd_refs hl) ⟨⟨n0, rfl, rfl⟩, trivial⟩ (hd_p1 rfl bl1.1 bl1.2 (hd_p1 rfl (hd_kd_118_16 hM).1 (hd_kd_118_16 hM).2 (hd_p1 rfl bk0.1 bk0.2 hd_p0))) hM ?_ ?_
  · intro r σ' hq
    cases r with
    | none => exact hq.elim
    | some v =>
      obtain ⟨p, hp, hM2, ks, hk, hv⟩ := hq
      cases hp
  · intro u hu
    simp only [List.mem_cons, List.not_mem_nil, or_false] at hu
    rcases hu with rfl
    · intro lw' sw' vs' ws' σ' ⟨h1_0, h2, h3_0, h4, h5⟩
      obtain rfl := hd_src0 h1_0
      obtain ⟨n0', sw1, ws1, rfl, rfl, h3_1⟩ := hd_sti h3_0
      obtain ⟨n1', sw2, ws2, rfl, rfl, h3_2⟩ := hd_sti h3_1
      obtain ⟨sw3, rfl, h3_3⟩ := hd_str h3_2
      obtain ⟨rfl, rfl⟩ := hd_st0 h3_3
      have hr9 := hd_ref0 h2
      obtain ⟨v0, e0, l0, u0⟩ := h4 _ (List.mem_cons_self)
      have g0 : 1 * (σ.2.1 118 16).toInt + ((-1) * n0'.toInt + 0) = v0 := Option.some.inj e0
      obtain ⟨v1, e1, l1, u1⟩ := h4 _ (List.mem_cons_of_mem _ (List.mem_cons_self))
      have g1 : 1 * m1.toInt + ((-1) * n1'.toInt + 0) = v1 := Option.some.inj e1
      exact cuta _ _ _ _ hr9  ⟨by rw [g0]; exact l0, by rw [g0]; exact u0⟩ ⟨by rw [g1]; exact l1, by rw [g1]; exact u1⟩ h5
theorem sg_gl6_run (G : sx_G0 g L xs zK hd_T ex_mt) (hct : ∀ (mi : Nat) (T2 : ex_T) (c' : sx_Ct), ex_mt mi = some T2 → c' ∈ k9 mi → c'.1 < 0 → sx_Holds g zK hd_T T2 c') {σ : am_S} {lw : List (Nat × Value)} {post : Option (Option Value) → am_S → Prop} (hM : sx_M zK hd_T σ 0 0 σ) (hl : (0, Value.ref 118) ∈ lw)  (ret0 : ∀ (r : Int32) (σ' : am_S), (1 ≤ 1 * r.toInt + 0 ∧ 1 * r.toInt + 0 ≤ 1) → sx_M zK hd_T σ 0 0 σ' → post (some (some (.int r))) σ') : am_K g 20 tX12_logLine.1 0 0 105 lw [] σ post := by
  refine sg_seg (sw := []) (vs := []) (ws := []) G (mi := 134) rfl hct sg_gl6_ok trivial (hd_refs hl) trivial hd_p0 hM ?_ ?_
  · intro r σ' hq
    cases r with
    | none => exact hq.elim
    | some v =>
      obtain ⟨p, hp, hM2, ks, hk, hv⟩ := hq
      simp only [List.mem_cons, List.not_mem_nil, or_false] at hp
      rcases hp with rfl
      · obtain rfl := hd_keys hk
        cases v with
        | none => exact hv.elim
        | some w9 =>
          obtain ⟨r, rfl, hP⟩ := hv
          obtain ⟨v0, e0, l0, u0⟩ := hP _ (List.mem_cons_self)
          have g0 : 1 * r.toInt + 0 = v0 := Option.some.inj e0
          exact ret0 r _ ⟨by rw [g0]; exact l0, by rw [g0]; exact u0⟩ hM2
  · intro u hu
    cases hu
theorem sg_go0a_run (G : sx_G0 g L xs zK hd_T ex_mt) (hct : ∀ (mi : Nat) (T2 : ex_T) (c' : sx_Ct), ex_mt mi = some T2 → c' ∈ k9 mi → c'.1 < 0 → sx_Holds g zK hd_T T2 c') {σ : am_S} {lw : List (Nat × Value)} {post : Option (Option Value) → am_S → Prop} (hM : sx_M zK hd_T σ 0 0 σ) (hl : (0, Value.ref 118) ∈ lw) {m1 : Int32} (hl1 : (1, Value.int m1) ∈ lw) (bl1 : (-2147483648) ≤ m1.toInt ∧ m1.toInt ≤ (-1)) (ret0 : ∀ (r : Int32) (σ' : am_S), ((-1000) ≤ 1 * r.toInt + 0 ∧ 1 * r.toInt + 0 ≤ (-1000)) → sx_M zK hd_T σ 1174271291386916613944740298394668513687841274454159935353645485766104512557304221731849499192384351515967488 0 σ' → post (some (some (.int r))) σ') : am_K g 30 tX12_log.1 0 0 0 lw [] σ post := by
  refine sg_seg (sw := []) (vs := [m1.toInt]) (ws := []) G (mi := 133) rfl hct sg_go0a_ok ⟨⟨m1, hl1, rfl⟩, trivial⟩ (hd_refs hl) trivial (hd_p1 rfl bl1.1 bl1.2 hd_p0) hM ?_ ?_
  · intro r σ' hq
    cases r with
    | none => exact hq.elim
    | some v =>
      obtain ⟨p, hp, hM2, ks, hk, hv⟩ := hq
      simp only [List.mem_cons, List.not_mem_nil, or_false] at hp
      rcases hp with rfl
      · obtain rfl := hd_keys hk
        cases v with
        | none => exact hv.elim
        | some w9 =>
          obtain ⟨r, rfl, hP⟩ := hv
          obtain ⟨v0, e0, l0, u0⟩ := hP _ (List.mem_cons_self)
          have g0 : 1 * r.toInt + 0 = v0 := Option.some.inj e0
          exact ret0 r _ ⟨by rw [g0]; exact l0, by rw [g0]; exact u0⟩ hM2
  · intro u hu
    cases hu
theorem sg_go0b_run (G : sx_G0 g L xs zK hd_T ex_mt) (hct : ∀ (mi : Nat) (T2 : ex_T) (c' : sx_Ct), ex_mt mi = some T2 → c' ∈ k9 mi → c'.1 < 0 → sx_Holds g zK hd_T T2 c') {σ : am_S} {lw : List (Nat × Value)} {post : Option (Option Value) → am_S → Prop} (hM : sx_M zK hd_T σ 0 0 σ) (hl : (0, Value.ref 118) ∈ lw) {m1 : Int32} (hl1 : (1, Value.int m1) ∈ lw) (bl1 : 2 ≤ m1.toInt ∧ m1.toInt ≤ 2147483647) (ret0 : ∀ (r : Int32) (σ' : am_S), ((-1000) ≤ 1 * r.toInt + 0 ∧ 1 * r.toInt + 0 ≤ (-1000)) → sx_M zK hd_T σ 1174271291386916613944740298394668513687841274454159935353645485766104512557304221731849499192384351515967488 0 σ' → post (some (some (.int r))) σ') : am_K g 30 tX12_log.1 0 0 0 lw [] σ post := by
  refine sg_seg (sw := []) (vs := [m1.toInt]) (ws := []) G (mi := 133) rfl hct sg_go0b_ok ⟨⟨m1, hl1, rfl⟩, trivial⟩ (hd_refs hl) trivial (hd_p1 rfl bl1.1 bl1.2 hd_p0) hM ?_ ?_
  · intro r σ' hq
    cases r with
    | none => exact hq.elim
    | some v =>
      obtain ⟨p, hp, hM2, ks, hk, hv⟩ := hq
      simp only [List.mem_cons, List.not_mem_nil, or_false] at hp
      rcases hp with rfl
      · obtain rfl := hd_keys hk
        cases v with
        | none => exact hv.elim
        | some w9 =>
          obtain ⟨r, rfl, hP⟩ := hv
          obtain ⟨v0, e0, l0, u0⟩ := hP _ (List.mem_cons_self)
          have g0 : 1 * r.toInt + 0 = v0 := Option.some.inj e0
          exact ret0 r _ ⟨by rw [g0]; exact l0, by rw [g0]; exact u0⟩ hM2
  · intro u hu
    cases hu
theorem sg_go1_run (G : sx_G0 g L xs zK hd_T ex_mt) (hct : ∀ (mi : Nat) (T2 : ex_T) (c' : sx_Ct), ex_mt mi = some T2 → c' ∈ k9 mi → c'.1 < 0 → sx_Holds g zK hd_T T2 c') {σ : am_S} {lw : List (Nat × Value)} {post : Option (Option Value) → am_S → Prop} (hM : sx_M zK hd_T σ 0 0 σ) (hl : (0, Value.ref 118) ∈ lw) {m1 : Int32} (hl1 : (1, Value.int m1) ∈ lw) (bl1 : 0 ≤ m1.toInt ∧ m1.toInt ≤ 1) (cuta : ∀ (lw' : List (Nat × Value)) (m1' : Int32) (σ' : am_S), (0, Value.ref 118) ∈ lw' → (1, Value.int m1') ∈ lw' → (0 ≤ 1 * (σ'.2.1 118 2).toInt + 0 ∧ 1 * (σ'.2.1 118 2).toInt + 0 ≤ 0) → (0 ≤ 1 * (σ.2.1 118 2).toInt + ((-1) * (σ'.2.1 118 3).toInt + 0) ∧ 1 * (σ.2.1 118 2).toInt + ((-1) * (σ'.2.1 118 3).toInt + 0) ≤ 0) → (0 ≤ 1 * (σ'.2.1 118 4).toInt + 0 ∧ 1 * (σ'.2.1 118 4).toInt + 0 ≤ 0) → (400 ≤ 1 * (σ'.2.1 118 5).toInt + 0 ∧ 1 * (σ'.2.1 118 5).toInt + 0 ≤ 400) → (0 ≤ 1 * (σ'.2.1 118 13).toInt + 0 ∧ 1 * (σ'.2.1 118 13).toInt + 0 ≤ 0) → (0 ≤ 1 * (σ'.2.1 118 35).toInt + 0 ∧ 1 * (σ'.2.1 118 35).toInt + 0 ≤ 0) → (0 ≤ 1 * m1.toInt + ((-1) * m1'.toInt + 0) ∧ 1 * m1.toInt + ((-1) * m1'.toInt + 0) ≤ 0) → sx_M zK hd_T σ 40347664036368914529596551948488743187600896478710655458160998919583813121673685801519950597956070450934040123353858048 0 σ' → am_K g 30 tX12_log.1 0 0 36 lw' [.ref 118] σ' post) : am_K g 30 tX12_log.1 0 0 0 lw [] σ post := by
  refine sg_seg (sw := []) (vs := [m1.toInt, (σ.2.1 118 2).toInt]) (ws := []) G (mi := 133) rfl hct sg_go1_ok ⟨⟨m1, hl1, rfl⟩, ⟨rfl, trivial⟩⟩ (hd_refs hl) trivial (hd_p1 rfl bl1.1 bl1.2 (hd_p1 rfl (hd_kd_118_2 hM).1 (hd_kd_118_2 hM).2 hd_p0)) hM ?_ ?_
  · intro r σ' hq
    cases r with
    | none => exact hq.elim
    | some v =>
      obtain ⟨p, hp, hM2, ks, hk, hv⟩ := hq
      cases hp
  · intro u hu
    simp only [List.mem_cons, List.not_mem_nil, or_false] at hu
    rcases hu with rfl
    · intro lw' sw' vs' ws' σ' ⟨h1_0, h2, h3_0, h4, h5⟩
      obtain ⟨m1', vs1, rfl, hm1, h1_1⟩ := hd_srcl h1_0
      obtain ⟨vs2, rfl, h1_2⟩ := hd_srcs h1_1
      obtain ⟨vs3, rfl, h1_3⟩ := hd_srcs h1_2
      obtain ⟨vs4, rfl, h1_4⟩ := hd_srcs h1_3
      obtain ⟨vs5, rfl, h1_5⟩ := hd_srcs h1_4
      obtain ⟨vs6, rfl, h1_6⟩ := hd_srcs h1_5
      obtain ⟨vs7, rfl, h1_7⟩ := hd_srcs h1_6
      obtain rfl := hd_src0 h1_7
      obtain ⟨sw1, rfl, h3_1⟩ := hd_str h3_0
      obtain ⟨rfl, rfl⟩ := hd_st0 h3_1
      have hr9 := hd_ref0 h2
      obtain ⟨v0, e0, l0, u0⟩ := h4 _ (List.mem_cons_self)
      have g0 : 1 * (σ'.2.1 118 2).toInt + 0 = v0 := Option.some.inj e0
      obtain ⟨v1, e1, l1, u1⟩ := h4 _ (List.mem_cons_of_mem _ (List.mem_cons_self))
      have g1 : 1 * (σ.2.1 118 2).toInt + ((-1) * (σ'.2.1 118 3).toInt + 0) = v1 := Option.some.inj e1
      obtain ⟨v2, e2, l2, u2⟩ := h4 _ (List.mem_cons_of_mem _ (List.mem_cons_of_mem _ (List.mem_cons_self)))
      have g2 : 1 * (σ'.2.1 118 4).toInt + 0 = v2 := Option.some.inj e2
      obtain ⟨v3, e3, l3, u3⟩ := h4 _ (List.mem_cons_of_mem _ (List.mem_cons_of_mem _ (List.mem_cons_of_mem _ (List.mem_cons_self))))
      have g3 : 1 * (σ'.2.1 118 5).toInt + 0 = v3 := Option.some.inj e3
      obtain ⟨v4, e4, l4, u4⟩ := h4 _ (List.mem_cons_of_mem _ (List.mem_cons_of_mem _ (List.mem_cons_of_mem _ (List.mem_cons_of_mem _ (List.mem_cons_self)))))
      have g4 : 1 * (σ'.2.1 118 13).toInt + 0 = v4 := Option.some.inj e4
      obtain ⟨v5, e5, l5, u5⟩ := h4 _ (List.mem_cons_of_mem _ (List.mem_cons_of_mem _ (List.mem_cons_of_mem _ (List.mem_cons_of_mem _ (List.mem_cons_of_mem _ (List.mem_cons_self))))))
      have g5 : 1 * (σ'.2.1 118 35).toInt + 0 = v5 := Option.some.inj e5
      obtain ⟨v6, e6, l6, u6⟩ := h4 _ (List.mem_cons_of_mem _ (List.mem_cons_of_mem _ (List.mem_cons_of_mem _ (List.mem_cons_of_mem _ (List.mem_cons_of_mem _ (List.mem_cons_of_mem _ (List.mem_cons_self)))))))
      have g6 : 1 * m1.toInt + ((-1) * m1'.toInt + 0) = v6 := Option.some.inj e6
      exact cuta _ _ _ hr9 hm1 ⟨by rw [g0]; exact l0, by rw [g0]; exact u0⟩ ⟨by rw [g1]; exact l1, by rw [g1]; exact u1⟩ ⟨by rw [g2]; exact l2, by rw [g2]; exact u2⟩ ⟨by rw [g3]; exact l3, by rw [g3]; exact u3⟩ ⟨by rw [g4]; exact l4, by rw [g4]; exact u4⟩ ⟨by rw [g5]; exact l5, by rw [g5]; exact u5⟩ ⟨by rw [g6]; exact l6, by rw [g6]; exact u6⟩ h5
theorem sg_go2e_run (G : sx_G0 g L xs zK hd_T ex_mt) (hct : ∀ (mi : Nat) (T2 : ex_T) (c' : sx_Ct), ex_mt mi = some T2 → c' ∈ k9 mi → c'.1 < 0 → sx_Holds g zK hd_T T2 c') {σ : am_S} {lw : List (Nat × Value)} {post : Option (Option Value) → am_S → Prop} (hM : sx_M zK hd_T σ 0 0 σ) (hl : (0, Value.ref 118) ∈ lw) {m1 : Int32} (hl1 : (1, Value.int m1) ∈ lw) (bl1 : 0 ≤ m1.toInt ∧ m1.toInt ≤ 1) (bp118_9 : 0 ≤ (σ.2.1 118 9).toInt ∧ (σ.2.1 118 9).toInt ≤ 0) (cuta : ∀ (lw' : List (Nat × Value)) (m1' : Int32) (σ' : am_S), (0, Value.ref 118) ∈ lw' → (1, Value.int m1') ∈ lw' → (0 ≤ 1 * m1.toInt + ((-1) * m1'.toInt + 0) ∧ 1 * m1.toInt + ((-1) * m1'.toInt + 0) ≤ 0) → sx_M zK hd_T σ 0 0 σ' → am_K g 30 tX12_log.1 0 0 83 lw' [] σ' post) : am_K g 30 tX12_log.1 0 0 39 lw [] σ post := by
  refine sg_seg (sw := []) (vs := [m1.toInt, (σ.2.1 118 9).toInt]) (ws := []) G (mi := 133) rfl hct sg_go2e_ok ⟨⟨m1, hl1, rfl⟩, ⟨rfl, trivial⟩⟩ (hd_refs hl) trivial (hd_p1 rfl bl1.1 bl1.2 (hd_p1 rfl bp118_9.1 bp118_9.2 hd_p0)) hM ?_ ?_
  · intro r σ' hq
    cases r with
    | none => exact hq.elim
    | some v =>
      obtain ⟨p, hp, hM2, ks, hk, hv⟩ := hq
      cases hp
  · intro u hu
    simp only [List.mem_cons, List.not_mem_nil, or_false] at hu
    rcases hu with rfl
    · intro lw' sw' vs' ws' σ' ⟨h1_0, h2, h3_0, h4, h5⟩
      obtain ⟨m1', vs1, rfl, hm1, h1_1⟩ := hd_srcl h1_0
      obtain rfl := hd_src0 h1_1
      obtain ⟨rfl, rfl⟩ := hd_st0 h3_0
      have hr9 := hd_ref0 h2
      obtain ⟨v0, e0, l0, u0⟩ := h4 _ (List.mem_cons_self)
      have g0 : 1 * m1.toInt + ((-1) * m1'.toInt + 0) = v0 := Option.some.inj e0
      exact cuta _ _ _ hr9 hm1 ⟨by rw [g0]; exact l0, by rw [g0]; exact u0⟩ h5
theorem sg_go2m_run (G : sx_G0 g L xs zK hd_T ex_mt) (hct : ∀ (mi : Nat) (T2 : ex_T) (c' : sx_Ct), ex_mt mi = some T2 → c' ∈ k9 mi → c'.1 < 0 → sx_Holds g zK hd_T T2 c') {σ : am_S} {lw : List (Nat × Value)} {post : Option (Option Value) → am_S → Prop} (hM : sx_M zK hd_T σ 0 0 σ) (hl : (0, Value.ref 118) ∈ lw) {m1 : Int32} (hl1 : (1, Value.int m1) ∈ lw) (bl1 : 0 ≤ m1.toInt ∧ m1.toInt ≤ 1) (bp118_9 : 1 ≤ (σ.2.1 118 9).toInt ∧ (σ.2.1 118 9).toInt ≤ 4) (cuta : ∀ (lw' : List (Nat × Value)) (m1' : Int32) (σ' : am_S), (0, Value.ref 118) ∈ lw' → (1, Value.int m1') ∈ lw' → (0 ≤ 1 * m1.toInt + ((-1) * m1'.toInt + 0) ∧ 1 * m1.toInt + ((-1) * m1'.toInt + 0) ≤ 0) → sx_M zK hd_T σ 0 0 σ' → am_K g 30 tX12_log.1 0 0 47 lw' [.ref 118] σ' post) : am_K g 30 tX12_log.1 0 0 39 lw [] σ post := by
  refine sg_seg (sw := []) (vs := [m1.toInt, (σ.2.1 118 9).toInt]) (ws := []) G (mi := 133) rfl hct sg_go2m_ok ⟨⟨m1, hl1, rfl⟩, ⟨rfl, trivial⟩⟩ (hd_refs hl) trivial (hd_p1 rfl bl1.1 bl1.2 (hd_p1 rfl bp118_9.1 bp118_9.2 hd_p0)) hM ?_ ?_
  · intro r σ' hq
    cases r with
    | none => exact hq.elim
    | some v =>
      obtain ⟨p, hp, hM2, ks, hk, hv⟩ := hq
      cases hp
  · intro u hu
    simp only [List.mem_cons, List.not_mem_nil, or_false] at hu
    rcases hu with rfl
    · intro lw' sw' vs' ws' σ' ⟨h1_0, h2, h3_0, h4, h5⟩
      obtain ⟨m1', vs1, rfl, hm1, h1_1⟩ := hd_srcl h1_0
      obtain rfl := hd_src0 h1_1
      obtain ⟨sw1, rfl, h3_1⟩ := hd_str h3_0
      obtain ⟨rfl, rfl⟩ := hd_st0 h3_1
      have hr9 := hd_ref0 h2
      obtain ⟨v0, e0, l0, u0⟩ := h4 _ (List.mem_cons_self)
      have g0 : 1 * m1.toInt + ((-1) * m1'.toInt + 0) = v0 := Option.some.inj e0
      exact cuta _ _ _ hr9 hm1 ⟨by rw [g0]; exact l0, by rw [g0]; exact u0⟩ h5
theorem sg_go3n_run (G : sx_G0 g L xs zK hd_T ex_mt) (hct : ∀ (mi : Nat) (T2 : ex_T) (c' : sx_Ct), ex_mt mi = some T2 → c' ∈ k9 mi → c'.1 < 0 → sx_Holds g zK hd_T T2 c') {σ : am_S} {lw : List (Nat × Value)} {post : Option (Option Value) → am_S → Prop} (hM : sx_M zK hd_T σ 0 0 σ) (hl : (0, Value.ref 118) ∈ lw) (bp118_14 : 0 ≤ (σ.2.1 118 14).toInt ∧ (σ.2.1 118 14).toInt ≤ 940) {n0 : Int32} (bk0 : 0 ≤ n0.toInt ∧ n0.toInt ≤ 0) (ret0 : ∀ (r : Int32) (σ' : am_S), ((-2) ≤ 1 * (σ.2.1 118 14).toInt + (1 * r.toInt + 0) ∧ 1 * (σ.2.1 118 14).toInt + (1 * r.toInt + 0) ≤ (-2)) → sx_M zK hd_T σ 0 0 σ' → post (some (some (.int r))) σ') : am_K g 30 tX12_log.1 0 0 50 lw [.int n0] σ post := by
  refine sg_seg (sw := [.int n0]) (vs := [(σ.2.1 118 14).toInt]) (ws := [n0.toInt]) G (mi := 133) rfl hct sg_go3n_ok ⟨rfl, trivial⟩ (hd_refs hl) ⟨⟨n0, rfl, rfl⟩, trivial⟩ (hd_p1 rfl bp118_14.1 bp118_14.2 (hd_p1 rfl bk0.1 bk0.2 hd_p0)) hM ?_ ?_
  · intro r σ' hq
    cases r with
    | none => exact hq.elim
    | some v =>
      obtain ⟨p, hp, hM2, ks, hk, hv⟩ := hq
      simp only [List.mem_cons, List.not_mem_nil, or_false] at hp
      rcases hp with rfl
      · obtain rfl := hd_keys hk
        cases v with
        | none => exact hv.elim
        | some w9 =>
          obtain ⟨r, rfl, hP⟩ := hv
          obtain ⟨v0, e0, l0, u0⟩ := hP _ (List.mem_cons_self)
          have g0 : 1 * (σ.2.1 118 14).toInt + (1 * r.toInt + 0) = v0 := Option.some.inj e0
          exact ret0 r _ ⟨by rw [g0]; exact l0, by rw [g0]; exact u0⟩ hM2
  · intro u hu
    cases hu
theorem sg_go3_run (G : sx_G0 g L xs zK hd_T ex_mt) (hct : ∀ (mi : Nat) (T2 : ex_T) (c' : sx_Ct), ex_mt mi = some T2 → c' ∈ k9 mi → c'.1 < 0 → sx_Holds g zK hd_T T2 c') {σ : am_S} {lw : List (Nat × Value)} {post : Option (Option Value) → am_S → Prop} (hM : sx_M zK hd_T σ 0 0 σ) (hl : (0, Value.ref 118) ∈ lw) {m1 : Int32} (hl1 : (1, Value.int m1) ∈ lw) (bl1 : 0 ≤ m1.toInt ∧ m1.toInt ≤ 1) {n0 : Int32} (bk0 : 1 ≤ n0.toInt ∧ n0.toInt ≤ 1) (cuta : ∀ (lw' : List (Nat × Value)) (m1' : Int32) (n0' : Int32) (σ' : am_S), (0, Value.ref 118) ∈ lw' → (1, Value.int m1') ∈ lw' → (59 ≤ 1 * n0'.toInt + 0 ∧ 1 * n0'.toInt + 0 ≤ 59) → (0 ≤ 1 * m1.toInt + ((-1) * m1'.toInt + 0) ∧ 1 * m1.toInt + ((-1) * m1'.toInt + 0) ≤ 0) → sx_M zK hd_T σ 0 0 σ' → am_K g 30 tX12_log.1 0 0 56 lw' [.int n0', .ref 118] σ' post) : am_K g 30 tX12_log.1 0 0 50 lw [.int n0] σ post := by
  refine sg_seg (sw := [.int n0]) (vs := [m1.toInt]) (ws := [n0.toInt]) G (mi := 133) rfl hct sg_go3_ok ⟨⟨m1, hl1, rfl⟩, trivial⟩ (hd_refs hl) ⟨⟨n0, rfl, rfl⟩, trivial⟩ (hd_p1 rfl bl1.1 bl1.2 (hd_p1 rfl bk0.1 bk0.2 hd_p0)) hM ?_ ?_
  · intro r σ' hq
    cases r with
    | none => exact hq.elim
    | some v =>
      obtain ⟨p, hp, hM2, ks, hk, hv⟩ := hq
      cases hp
  · intro u hu
    simp only [List.mem_cons, List.not_mem_nil, or_false] at hu
    rcases hu with rfl
    · intro lw' sw' vs' ws' σ' ⟨h1_0, h2, h3_0, h4, h5⟩
      obtain ⟨m1', vs1, rfl, hm1, h1_1⟩ := hd_srcl h1_0
      obtain rfl := hd_src0 h1_1
      obtain ⟨n0', sw1, ws1, rfl, rfl, h3_1⟩ := hd_sti h3_0
      obtain ⟨sw2, rfl, h3_2⟩ := hd_str h3_1
      obtain ⟨rfl, rfl⟩ := hd_st0 h3_2
      have hr9 := hd_ref0 h2
      obtain ⟨v0, e0, l0, u0⟩ := h4 _ (List.mem_cons_self)
      have g0 : 1 * n0'.toInt + 0 = v0 := Option.some.inj e0
      obtain ⟨v1, e1, l1, u1⟩ := h4 _ (List.mem_cons_of_mem _ (List.mem_cons_self))
      have g1 : 1 * m1.toInt + ((-1) * m1'.toInt + 0) = v1 := Option.some.inj e1
      exact cuta _ _ _ _ hr9 hm1 ⟨by rw [g0]; exact l0, by rw [g0]; exact u0⟩ ⟨by rw [g1]; exact l1, by rw [g1]; exact u1⟩ h5
theorem sg_go4n_run (G : sx_G0 g L xs zK hd_T ex_mt) (hct : ∀ (mi : Nat) (T2 : ex_T) (c' : sx_Ct), ex_mt mi = some T2 → c' ∈ k9 mi → c'.1 < 0 → sx_Holds g zK hd_T T2 c') {σ : am_S} {lw : List (Nat × Value)} {post : Option (Option Value) → am_S → Prop} (hM : sx_M zK hd_T σ 0 0 σ) (hl : (0, Value.ref 118) ∈ lw) (bp118_14 : 0 ≤ (σ.2.1 118 14).toInt ∧ (σ.2.1 118 14).toInt ≤ 940) {n0 : Int32} (bk0 : 0 ≤ n0.toInt ∧ n0.toInt ≤ 0) (ret0 : ∀ (r : Int32) (σ' : am_S), ((-2) ≤ 1 * (σ.2.1 118 14).toInt + (1 * r.toInt + 0) ∧ 1 * (σ.2.1 118 14).toInt + (1 * r.toInt + 0) ≤ (-2)) → sx_M zK hd_T σ 0 0 σ' → post (some (some (.int r))) σ') : am_K g 30 tX12_log.1 0 0 59 lw [.int n0] σ post := by
  refine sg_seg (sw := [.int n0]) (vs := [(σ.2.1 118 14).toInt]) (ws := [n0.toInt]) G (mi := 133) rfl hct sg_go4n_ok ⟨rfl, trivial⟩ (hd_refs hl) ⟨⟨n0, rfl, rfl⟩, trivial⟩ (hd_p1 rfl bp118_14.1 bp118_14.2 (hd_p1 rfl bk0.1 bk0.2 hd_p0)) hM ?_ ?_
  · intro r σ' hq
    cases r with
    | none => exact hq.elim
    | some v =>
      obtain ⟨p, hp, hM2, ks, hk, hv⟩ := hq
      simp only [List.mem_cons, List.not_mem_nil, or_false] at hp
      rcases hp with rfl
      · obtain rfl := hd_keys hk
        cases v with
        | none => exact hv.elim
        | some w9 =>
          obtain ⟨r, rfl, hP⟩ := hv
          obtain ⟨v0, e0, l0, u0⟩ := hP _ (List.mem_cons_self)
          have g0 : 1 * (σ.2.1 118 14).toInt + (1 * r.toInt + 0) = v0 := Option.some.inj e0
          exact ret0 r _ ⟨by rw [g0]; exact l0, by rw [g0]; exact u0⟩ hM2
  · intro u hu
    cases hu
theorem sg_go4_run (G : sx_G0 g L xs zK hd_T ex_mt) (hct : ∀ (mi : Nat) (T2 : ex_T) (c' : sx_Ct), ex_mt mi = some T2 → c' ∈ k9 mi → c'.1 < 0 → sx_Holds g zK hd_T T2 c') {σ : am_S} {lw : List (Nat × Value)} {post : Option (Option Value) → am_S → Prop} (hM : sx_M zK hd_T σ 0 0 σ) (hl : (0, Value.ref 118) ∈ lw) {m1 : Int32} (hl1 : (1, Value.int m1) ∈ lw) (bl1 : 0 ≤ m1.toInt ∧ m1.toInt ≤ 1) (bp118_35 : 0 ≤ (σ.2.1 118 35).toInt ∧ (σ.2.1 118 35).toInt ≤ 39) {n0 : Int32} (bk0 : 1 ≤ n0.toInt ∧ n0.toInt ≤ 1) (cuta : ∀ (lw' : List (Nat × Value)) (m1' : Int32) (σ' : am_S), (0, Value.ref 118) ∈ lw' → (1, Value.int m1') ∈ lw' → ((-1) ≤ 1 * (σ.2.1 118 35).toInt + ((-1) * (σ'.2.1 118 35).toInt + 0) ∧ 1 * (σ.2.1 118 35).toInt + ((-1) * (σ'.2.1 118 35).toInt + 0) ≤ (-1)) → (0 ≤ 1 * m1.toInt + ((-1) * m1'.toInt + 0) ∧ 1 * m1.toInt + ((-1) * m1'.toInt + 0) ≤ 0) → sx_M zK hd_T σ 40347654345107946713373737062547060536401653012956617387979052445947619094013143666088208645002153616185987062074179584 0 σ' → am_K g 30 tX12_log.1 0 0 39 lw' [] σ' post) : am_K g 30 tX12_log.1 0 0 59 lw [.int n0] σ post := by
  refine sg_seg (sw := [.int n0]) (vs := [m1.toInt, (σ.2.1 118 35).toInt]) (ws := [n0.toInt]) G (mi := 133) rfl hct sg_go4_ok ⟨⟨m1, hl1, rfl⟩, ⟨rfl, trivial⟩⟩ (hd_refs hl) ⟨⟨n0, rfl, rfl⟩, trivial⟩ (hd_p1 rfl bl1.1 bl1.2 (hd_p1 rfl bp118_35.1 bp118_35.2 (hd_p1 rfl bk0.1 bk0.2 hd_p0))) hM ?_ ?_
  · intro r σ' hq
    cases r with
    | none => exact hq.elim
    | some v =>
      obtain ⟨p, hp, hM2, ks, hk, hv⟩ := hq
      cases hp
  · intro u hu
    simp only [List.mem_cons, List.not_mem_nil, or_false] at hu
    rcases hu with rfl
    · intro lw' sw' vs' ws' σ' ⟨h1_0, h2, h3_0, h4, h5⟩
      obtain ⟨m1', vs1, rfl, hm1, h1_1⟩ := hd_srcl h1_0
      obtain ⟨vs2, rfl, h1_2⟩ := hd_srcs h1_1
      obtain rfl := hd_src0 h1_2
      obtain ⟨rfl, rfl⟩ := hd_st0 h3_0
      have hr9 := hd_ref0 h2
      obtain ⟨v0, e0, l0, u0⟩ := h4 _ (List.mem_cons_self)
      have g0 : 1 * (σ.2.1 118 35).toInt + ((-1) * (σ'.2.1 118 35).toInt + 0) = v0 := Option.some.inj e0
      obtain ⟨v1, e1, l1, u1⟩ := h4 _ (List.mem_cons_of_mem _ (List.mem_cons_self))
      have g1 : 1 * m1.toInt + ((-1) * m1'.toInt + 0) = v1 := Option.some.inj e1
      exact cuta _ _ _ hr9 hm1 ⟨by rw [g0]; exact l0, by rw [g0]; exact u0⟩ ⟨by rw [g1]; exact l1, by rw [g1]; exact u1⟩ h5
theorem sg_gp1_run (G : sx_G0 g L xs z9 hd_C ex_mt) (hct : ∀ (mi : Nat) (T2 : ex_T) (c' : sx_Ct), ex_mt mi = some T2 → c' ∈ k9 mi → c'.1 < 60 → sx_Holds g z9 hd_C T2 c') {σ : am_S} {lw : List (Nat × Value)} {post : Option (Option Value) → am_S → Prop} (hM : sx_M z9 hd_C σ 0 0 σ) (hl : (0, Value.ref 118) ∈ lw) {m1 : Int32} (hl1 : (1, Value.int m1) ∈ lw) (bl1 : 0 ≤ m1.toInt ∧ m1.toInt ≤ 1) (cuta : ∀ (lw' : List (Nat × Value)) (m1' : Int32) (m2' : Int32) (m3' : Int32) (m4' : Int32) (σ' : am_S), (0, Value.ref 118) ∈ lw' → (1, Value.int m1') ∈ lw' → (2, Value.int m2') ∈ lw' → (3, Value.int m3') ∈ lw' → (4, Value.int m4') ∈ lw' → ((-1) ≤ 1 * m3'.toInt + 0 ∧ 1 * m3'.toInt + 0 ≤ (-1)) → (0 ≤ 1 * m4'.toInt + 0 ∧ 1 * m4'.toInt + 0 ≤ 0) → (0 ≤ 1 * m1.toInt + ((-1) * m1'.toInt + 0) ∧ 1 * m1.toInt + ((-1) * m1'.toInt + 0) ≤ 0) → sx_M z9 hd_C σ 25016668558489289307341198112971408891575191756551516859326408213560352039799801444050031134510756948571816207795178464335982508226796551975993344 0 σ' → am_K g 30 tX12_log.1 0 0 145 lw' [] σ' post) : am_K g 30 tX12_log.1 0 0 83 lw [] σ post := by
  refine sg_seg (sw := []) (vs := [m1.toInt]) (ws := []) G (mi := 133) rfl hct sg_gp1_ok ⟨⟨m1, hl1, rfl⟩, trivial⟩ (hd_refs hl) trivial (hd_p1 rfl bl1.1 bl1.2 hd_p0) hM ?_ ?_
  · intro r σ' hq
    cases r with
    | none => exact hq.elim
    | some v =>
      obtain ⟨p, hp, hM2, ks, hk, hv⟩ := hq
      cases hp
  · intro u hu
    simp only [List.mem_cons, List.not_mem_nil, or_false] at hu
    rcases hu with rfl
    · intro lw' sw' vs' ws' σ' ⟨h1_0, h2, h3_0, h4, h5⟩
      obtain ⟨m1', vs1, rfl, hm1, h1_1⟩ := hd_srcl h1_0
      obtain ⟨m2', vs2, rfl, hm2, h1_2⟩ := hd_srcl h1_1
      obtain ⟨m3', vs3, rfl, hm3, h1_3⟩ := hd_srcl h1_2
      obtain ⟨m4', vs4, rfl, hm4, h1_4⟩ := hd_srcl h1_3
      obtain rfl := hd_src0 h1_4
      obtain ⟨rfl, rfl⟩ := hd_st0 h3_0
      have hr9 := hd_ref0 h2
      obtain ⟨v0, e0, l0, u0⟩ := h4 _ (List.mem_cons_self)
      have g0 : 1 * m3'.toInt + 0 = v0 := Option.some.inj e0
      obtain ⟨v1, e1, l1, u1⟩ := h4 _ (List.mem_cons_of_mem _ (List.mem_cons_self))
      have g1 : 1 * m4'.toInt + 0 = v1 := Option.some.inj e1
      obtain ⟨v2, e2, l2, u2⟩ := h4 _ (List.mem_cons_of_mem _ (List.mem_cons_of_mem _ (List.mem_cons_self)))
      have g2 : 1 * m1.toInt + ((-1) * m1'.toInt + 0) = v2 := Option.some.inj e2
      exact cuta _ _ _ _ _ _ hr9 hm1 hm2 hm3 hm4 ⟨by rw [g0]; exact l0, by rw [g0]; exact u0⟩ ⟨by rw [g1]; exact l1, by rw [g1]; exact u1⟩ ⟨by rw [g2]; exact l2, by rw [g2]; exact u2⟩ h5
theorem sg_gp4_run (G : sx_G0 g L xs z9 hd_C ex_mt) (hct : ∀ (mi : Nat) (T2 : ex_T) (c' : sx_Ct), ex_mt mi = some T2 → c' ∈ k9 mi → c'.1 < 60 → sx_Holds g z9 hd_C T2 c') {σ : am_S} {lw : List (Nat × Value)} {post : Option (Option Value) → am_S → Prop} (hM : sx_M z9 hd_C σ 0 0 σ) (hl : (0, Value.ref 118) ∈ lw) {m1 : Int32} (hl1 : (1, Value.int m1) ∈ lw) (bl1 : 0 ≤ m1.toInt ∧ m1.toInt ≤ 1) {m2 : Int32} (hl2 : (2, Value.int m2) ∈ lw) {m3 : Int32} (hl3 : (3, Value.int m3) ∈ lw) (bl3 : (-2147483648) ≤ m3.toInt ∧ m3.toInt ≤ (-1)) {m4 : Int32} (hl4 : (4, Value.int m4) ∈ lw) (bl4 : 0 ≤ m4.toInt ∧ m4.toInt ≤ 39) (bf0 : (-4611686018427387904) ≤ 1 * m4.toInt + ((-1) * (σ.2.1 118 35).toInt + 0) ∧ 1 * m4.toInt + ((-1) * (σ.2.1 118 35).toInt + 0) ≤ (-1)) (cuta : ∀ (lw' : List (Nat × Value)) (m1' : Int32) (m2' : Int32) (m3' : Int32) (m4' : Int32) (σ' : am_S), (0, Value.ref 118) ∈ lw' → (1, Value.int m1') ∈ lw' → (2, Value.int m2') ∈ lw' → (3, Value.int m3') ∈ lw' → (4, Value.int m4') ∈ lw' → ((-1) ≤ 1 * m4.toInt + ((-1) * m4'.toInt + 0) ∧ 1 * m4.toInt + ((-1) * m4'.toInt + 0) ≤ (-1)) → (0 ≤ 1 * m1.toInt + ((-1) * m1'.toInt + 0) ∧ 1 * m1.toInt + ((-1) * m1'.toInt + 0) ≤ 0) → (0 ≤ 1 * m3.toInt + ((-1) * m3'.toInt + 0) ∧ 1 * m3.toInt + ((-1) * m3'.toInt + 0) ≤ 0) → sx_M z9 hd_C σ 24973988402527938522558719383230179250135970363472853632885359869583550709658648391066046808682891349272416927317557053625517710149233834780000256 0 σ' → am_K g 30 tX12_log.1 0 0 145 lw' [] σ' post) (cutb : ∀ (lw' : List (Nat × Value)) (m1' : Int32) (m2' : Int32) (m3' : Int32) (m4' : Int32) (σ' : am_S), (0, Value.ref 118) ∈ lw' → (1, Value.int m1') ∈ lw' → (2, Value.int m2') ∈ lw' → (3, Value.int m3') ∈ lw' → (4, Value.int m4') ∈ lw' → ((-1) ≤ 1 * m4.toInt + ((-1) * m4'.toInt + 0) ∧ 1 * m4.toInt + ((-1) * m4'.toInt + 0) ≤ (-1)) → (0 ≤ 1 * m3'.toInt + 0 ∧ 1 * m3'.toInt + 0 ≤ 39) → (0 ≤ 1 * m1.toInt + ((-1) * m1'.toInt + 0) ∧ 1 * m1.toInt + ((-1) * m1'.toInt + 0) ≤ 0) → sx_M z9 hd_C σ 24973988402527938522558719383230179250135970363472853632885359869583550709658648391066046808682891349272416927317557053625517710149233834780000256 0 σ' → am_K g 30 tX12_log.1 0 0 145 lw' [] σ' post) : am_K g 30 tX12_log.1 0 0 145 lw [] σ post := by
  refine sg_seg (sw := []) (vs := [m1.toInt, m2.toInt, m3.toInt, m4.toInt, (σ.2.1 118 35).toInt]) (ws := []) G (mi := 133) rfl hct sg_gp4_ok ⟨⟨m1, hl1, rfl⟩, ⟨⟨m2, hl2, rfl⟩, ⟨⟨m3, hl3, rfl⟩, ⟨⟨m4, hl4, rfl⟩, ⟨rfl, trivial⟩⟩⟩⟩⟩ (hd_refs hl) trivial (hd_p1 rfl bl1.1 bl1.2 (hd_p1 rfl (Int32.le_toInt _) (Int32.toInt_le _) (hd_p1 rfl bl3.1 bl3.2 (hd_p1 rfl bl4.1 bl4.2 (hd_p1 rfl (hd_kd_118_35 hM).1 (hd_kd_118_35 hM).2 (hd_pf rfl bf0.1 bf0.2 hd_p0)))))) hM ?_ ?_
  · intro r σ' hq
    cases r with
    | none => exact hq.elim
    | some v =>
      obtain ⟨p, hp, hM2, ks, hk, hv⟩ := hq
      cases hp
  · intro u hu
    simp only [List.mem_cons, List.not_mem_nil, or_false] at hu
    rcases hu with rfl | rfl
    · intro lw' sw' vs' ws' σ' ⟨h1_0, h2, h3_0, h4, h5⟩
      obtain ⟨m1', vs1, rfl, hm1, h1_1⟩ := hd_srcl h1_0
      obtain ⟨m2', vs2, rfl, hm2, h1_2⟩ := hd_srcl h1_1
      obtain ⟨m3', vs3, rfl, hm3, h1_3⟩ := hd_srcl h1_2
      obtain ⟨m4', vs4, rfl, hm4, h1_4⟩ := hd_srcl h1_3
      obtain rfl := hd_src0 h1_4
      obtain ⟨rfl, rfl⟩ := hd_st0 h3_0
      have hr9 := hd_ref0 h2
      obtain ⟨v0, e0, l0, u0⟩ := h4 _ (List.mem_cons_self)
      have g0 : 1 * m4.toInt + ((-1) * m4'.toInt + 0) = v0 := Option.some.inj e0
      obtain ⟨v1, e1, l1, u1⟩ := h4 _ (List.mem_cons_of_mem _ (List.mem_cons_self))
      have g1 : 1 * m1.toInt + ((-1) * m1'.toInt + 0) = v1 := Option.some.inj e1
      obtain ⟨v2, e2, l2, u2⟩ := h4 _ (List.mem_cons_of_mem _ (List.mem_cons_of_mem _ (List.mem_cons_self)))
      have g2 : 1 * m3.toInt + ((-1) * m3'.toInt + 0) = v2 := Option.some.inj e2
      exact cuta _ _ _ _ _ _ hr9 hm1 hm2 hm3 hm4 ⟨by rw [g0]; exact l0, by rw [g0]; exact u0⟩ ⟨by rw [g1]; exact l1, by rw [g1]; exact u1⟩ ⟨by rw [g2]; exact l2, by rw [g2]; exact u2⟩ h5
    · intro lw' sw' vs' ws' σ' ⟨h1_0, h2, h3_0, h4, h5⟩
      obtain ⟨m1', vs1, rfl, hm1, h1_1⟩ := hd_srcl h1_0
      obtain ⟨m2', vs2, rfl, hm2, h1_2⟩ := hd_srcl h1_1
      obtain ⟨m3', vs3, rfl, hm3, h1_3⟩ := hd_srcl h1_2
      obtain ⟨m4', vs4, rfl, hm4, h1_4⟩ := hd_srcl h1_3
      obtain rfl := hd_src0 h1_4
      obtain ⟨rfl, rfl⟩ := hd_st0 h3_0
      have hr9 := hd_ref0 h2
      obtain ⟨v0, e0, l0, u0⟩ := h4 _ (List.mem_cons_self)
      have g0 : 1 * m4.toInt + ((-1) * m4'.toInt + 0) = v0 := Option.some.inj e0
      obtain ⟨v1, e1, l1, u1⟩ := h4 _ (List.mem_cons_of_mem _ (List.mem_cons_self))
      have g1 : 1 * m3'.toInt + 0 = v1 := Option.some.inj e1
      obtain ⟨v2, e2, l2, u2⟩ := h4 _ (List.mem_cons_of_mem _ (List.mem_cons_of_mem _ (List.mem_cons_self)))
      have g2 : 1 * m1.toInt + ((-1) * m1'.toInt + 0) = v2 := Option.some.inj e2
      exact cutb _ _ _ _ _ _ hr9 hm1 hm2 hm3 hm4 ⟨by rw [g0]; exact l0, by rw [g0]; exact u0⟩ ⟨by rw [g1]; exact l1, by rw [g1]; exact u1⟩ ⟨by rw [g2]; exact l2, by rw [g2]; exact u2⟩ h5
theorem sg_gp4x_run (G : sx_G0 g L xs z9 hd_C ex_mt) (hct : ∀ (mi : Nat) (T2 : ex_T) (c' : sx_Ct), ex_mt mi = some T2 → c' ∈ k9 mi → c'.1 < 60 → sx_Holds g z9 hd_C T2 c') {σ : am_S} {lw : List (Nat × Value)} {post : Option (Option Value) → am_S → Prop} (hM : sx_M z9 hd_C σ 0 0 σ) (hl : (0, Value.ref 118) ∈ lw) {m1 : Int32} (hl1 : (1, Value.int m1) ∈ lw) (bl1 : 0 ≤ m1.toInt ∧ m1.toInt ≤ 1) {m2 : Int32} (hl2 : (2, Value.int m2) ∈ lw) {m3 : Int32} (hl3 : (3, Value.int m3) ∈ lw) {m4 : Int32} (hl4 : (4, Value.int m4) ∈ lw) (bl4 : 0 ≤ m4.toInt ∧ m4.toInt ≤ 40) (bf0 : 0 ≤ 1 * m4.toInt + ((-1) * (σ.2.1 118 35).toInt + 0) ∧ 1 * m4.toInt + ((-1) * (σ.2.1 118 35).toInt + 0) ≤ 4611686018427387904) (cuta : ∀ (lw' : List (Nat × Value)) (m1' : Int32) (m2' : Int32) (m3' : Int32) (σ' : am_S), (0, Value.ref 118) ∈ lw' → (1, Value.int m1') ∈ lw' → (2, Value.int m2') ∈ lw' → (3, Value.int m3') ∈ lw' → (0 ≤ 1 * m1.toInt + ((-1) * m1'.toInt + 0) ∧ 1 * m1.toInt + ((-1) * m1'.toInt + 0) ≤ 0) → (0 ≤ 1 * m3.toInt + ((-1) * m3'.toInt + 0) ∧ 1 * m3.toInt + ((-1) * m3'.toInt + 0) ≤ 0) → sx_M z9 hd_C σ 0 0 σ' → am_K g 30 tX12_log.1 0 0 219 lw' [] σ' post) : am_K g 30 tX12_log.1 0 0 145 lw [] σ post := by
  refine sg_seg (sw := []) (vs := [m1.toInt, m2.toInt, m3.toInt, m4.toInt, (σ.2.1 118 35).toInt]) (ws := []) G (mi := 133) rfl hct sg_gp4x_ok ⟨⟨m1, hl1, rfl⟩, ⟨⟨m2, hl2, rfl⟩, ⟨⟨m3, hl3, rfl⟩, ⟨⟨m4, hl4, rfl⟩, ⟨rfl, trivial⟩⟩⟩⟩⟩ (hd_refs hl) trivial (hd_p1 rfl bl1.1 bl1.2 (hd_p1 rfl (Int32.le_toInt _) (Int32.toInt_le _) (hd_p1 rfl (Int32.le_toInt _) (Int32.toInt_le _) (hd_p1 rfl bl4.1 bl4.2 (hd_p1 rfl (hd_kd_118_35 hM).1 (hd_kd_118_35 hM).2 (hd_pf rfl bf0.1 bf0.2 hd_p0)))))) hM ?_ ?_
  · intro r σ' hq
    cases r with
    | none => exact hq.elim
    | some v =>
      obtain ⟨p, hp, hM2, ks, hk, hv⟩ := hq
      cases hp
  · intro u hu
    simp only [List.mem_cons, List.not_mem_nil, or_false] at hu
    rcases hu with rfl
    · intro lw' sw' vs' ws' σ' ⟨h1_0, h2, h3_0, h4, h5⟩
      obtain ⟨m1', vs1, rfl, hm1, h1_1⟩ := hd_srcl h1_0
      obtain ⟨m2', vs2, rfl, hm2, h1_2⟩ := hd_srcl h1_1
      obtain ⟨m3', vs3, rfl, hm3, h1_3⟩ := hd_srcl h1_2
      obtain rfl := hd_src0 h1_3
      obtain ⟨rfl, rfl⟩ := hd_st0 h3_0
      have hr9 := hd_ref0 h2
      obtain ⟨v0, e0, l0, u0⟩ := h4 _ (List.mem_cons_self)
      have g0 : 1 * m1.toInt + ((-1) * m1'.toInt + 0) = v0 := Option.some.inj e0
      obtain ⟨v1, e1, l1, u1⟩ := h4 _ (List.mem_cons_of_mem _ (List.mem_cons_self))
      have g1 : 1 * m3.toInt + ((-1) * m3'.toInt + 0) = v1 := Option.some.inj e1
      exact cuta _ _ _ _ _ hr9 hm1 hm2 hm3 ⟨by rw [g0]; exact l0, by rw [g0]; exact u0⟩ ⟨by rw [g1]; exact l1, by rw [g1]; exact u1⟩ h5
theorem sg_gp4y_run (G : sx_G0 g L xs z9 hd_C ex_mt) (hct : ∀ (mi : Nat) (T2 : ex_T) (c' : sx_Ct), ex_mt mi = some T2 → c' ∈ k9 mi → c'.1 < 60 → sx_Holds g z9 hd_C T2 c') {σ : am_S} {lw : List (Nat × Value)} {post : Option (Option Value) → am_S → Prop} (hM : sx_M z9 hd_C σ 0 0 σ) (hl : (0, Value.ref 118) ∈ lw) {m1 : Int32} (hl1 : (1, Value.int m1) ∈ lw) (bl1 : 0 ≤ m1.toInt ∧ m1.toInt ≤ 1) {m2 : Int32} (hl2 : (2, Value.int m2) ∈ lw) {m3 : Int32} (hl3 : (3, Value.int m3) ∈ lw) (bl3 : 0 ≤ m3.toInt ∧ m3.toInt ≤ 2147483647) {m4 : Int32} (hl4 : (4, Value.int m4) ∈ lw) (bl4 : 0 ≤ m4.toInt ∧ m4.toInt ≤ 40) (cuta : ∀ (lw' : List (Nat × Value)) (m1' : Int32) (m2' : Int32) (m3' : Int32) (σ' : am_S), (0, Value.ref 118) ∈ lw' → (1, Value.int m1') ∈ lw' → (2, Value.int m2') ∈ lw' → (3, Value.int m3') ∈ lw' → (0 ≤ 1 * m1.toInt + ((-1) * m1'.toInt + 0) ∧ 1 * m1.toInt + ((-1) * m1'.toInt + 0) ≤ 0) → (0 ≤ 1 * m3.toInt + ((-1) * m3'.toInt + 0) ∧ 1 * m3.toInt + ((-1) * m3'.toInt + 0) ≤ 0) → sx_M z9 hd_C σ 0 0 σ' → am_K g 30 tX12_log.1 0 0 219 lw' [] σ' post) : am_K g 30 tX12_log.1 0 0 145 lw [] σ post := by
  refine sg_seg (sw := []) (vs := [m1.toInt, m2.toInt, m3.toInt, m4.toInt, (σ.2.1 118 35).toInt]) (ws := []) G (mi := 133) rfl hct sg_gp4y_ok ⟨⟨m1, hl1, rfl⟩, ⟨⟨m2, hl2, rfl⟩, ⟨⟨m3, hl3, rfl⟩, ⟨⟨m4, hl4, rfl⟩, ⟨rfl, trivial⟩⟩⟩⟩⟩ (hd_refs hl) trivial (hd_p1 rfl bl1.1 bl1.2 (hd_p1 rfl (Int32.le_toInt _) (Int32.toInt_le _) (hd_p1 rfl bl3.1 bl3.2 (hd_p1 rfl bl4.1 bl4.2 (hd_p1 rfl (hd_kd_118_35 hM).1 (hd_kd_118_35 hM).2 hd_p0))))) hM ?_ ?_
  · intro r σ' hq
    cases r with
    | none => exact hq.elim
    | some v =>
      obtain ⟨p, hp, hM2, ks, hk, hv⟩ := hq
      cases hp
  · intro u hu
    simp only [List.mem_cons, List.not_mem_nil, or_false] at hu
    rcases hu with rfl
    · intro lw' sw' vs' ws' σ' ⟨h1_0, h2, h3_0, h4, h5⟩
      obtain ⟨m1', vs1, rfl, hm1, h1_1⟩ := hd_srcl h1_0
      obtain ⟨m2', vs2, rfl, hm2, h1_2⟩ := hd_srcl h1_1
      obtain ⟨m3', vs3, rfl, hm3, h1_3⟩ := hd_srcl h1_2
      obtain rfl := hd_src0 h1_3
      obtain ⟨rfl, rfl⟩ := hd_st0 h3_0
      have hr9 := hd_ref0 h2
      obtain ⟨v0, e0, l0, u0⟩ := h4 _ (List.mem_cons_self)
      have g0 : 1 * m1.toInt + ((-1) * m1'.toInt + 0) = v0 := Option.some.inj e0
      obtain ⟨v1, e1, l1, u1⟩ := h4 _ (List.mem_cons_of_mem _ (List.mem_cons_self))
      have g1 : 1 * m3.toInt + ((-1) * m3'.toInt + 0) = v1 := Option.some.inj e1
      exact cuta _ _ _ _ _ hr9 hm1 hm2 hm3 ⟨by rw [g0]; exact l0, by rw [g0]; exact u0⟩ ⟨by rw [g1]; exact l1, by rw [g1]; exact u1⟩ h5
theorem sg_gp5a_run (G : sx_G0 g L xs z9 hd_C ex_mt) (hct : ∀ (mi : Nat) (T2 : ex_T) (c' : sx_Ct), ex_mt mi = some T2 → c' ∈ k9 mi → c'.1 < 60 → sx_Holds g z9 hd_C T2 c') {σ : am_S} {lw : List (Nat × Value)} {post : Option (Option Value) → am_S → Prop} (hM : sx_M z9 hd_C σ 0 0 σ) (hl : (0, Value.ref 118) ∈ lw) {m1 : Int32} (hl1 : (1, Value.int m1) ∈ lw) (bl1 : 1 ≤ m1.toInt ∧ m1.toInt ≤ 1) {m2 : Int32} (hl2 : (2, Value.int m2) ∈ lw) {m3 : Int32} (hl3 : (3, Value.int m3) ∈ lw) (ret0 : ∀ (r : Int32) (σ' : am_S), (0 ≤ 1 * m3.toInt + ((-1) * r.toInt + 0) ∧ 1 * m3.toInt + ((-1) * r.toInt + 0) ≤ 0) → sx_M z9 hd_C σ 24980085567301854411231891736553188325804759613336056738503119559268426650676061313965503887830627860341198443181766191320338160266536254114365440 0 σ' → post (some (some (.int r))) σ') : am_K g 30 tX12_log.1 0 0 219 lw [] σ post := by
  refine sg_seg (sw := []) (vs := [m1.toInt, m2.toInt, m3.toInt]) (ws := []) G (mi := 133) rfl hct sg_gp5a_ok ⟨⟨m1, hl1, rfl⟩, ⟨⟨m2, hl2, rfl⟩, ⟨⟨m3, hl3, rfl⟩, trivial⟩⟩⟩ (hd_refs hl) trivial (hd_p1 rfl bl1.1 bl1.2 (hd_p1 rfl (Int32.le_toInt _) (Int32.toInt_le _) (hd_p1 rfl (Int32.le_toInt _) (Int32.toInt_le _) hd_p0))) hM ?_ ?_
  · intro r σ' hq
    cases r with
    | none => exact hq.elim
    | some v =>
      obtain ⟨p, hp, hM2, ks, hk, hv⟩ := hq
      simp only [List.mem_cons, List.not_mem_nil, or_false] at hp
      rcases hp with rfl
      · obtain rfl := hd_keys hk
        cases v with
        | none => exact hv.elim
        | some w9 =>
          obtain ⟨r, rfl, hP⟩ := hv
          obtain ⟨v0, e0, l0, u0⟩ := hP _ (List.mem_cons_self)
          have g0 : 1 * m3.toInt + ((-1) * r.toInt + 0) = v0 := Option.some.inj e0
          exact ret0 r _ ⟨by rw [g0]; exact l0, by rw [g0]; exact u0⟩ hM2
  · intro u hu
    cases hu
theorem sg_gp5b_run (G : sx_G0 g L xs z9 hd_C ex_mt) (hct : ∀ (mi : Nat) (T2 : ex_T) (c' : sx_Ct), ex_mt mi = some T2 → c' ∈ k9 mi → c'.1 < 60 → sx_Holds g z9 hd_C T2 c') {σ : am_S} {lw : List (Nat × Value)} {post : Option (Option Value) → am_S → Prop} (hM : sx_M z9 hd_C σ 0 0 σ) (hl : (0, Value.ref 118) ∈ lw) {m1 : Int32} (hl1 : (1, Value.int m1) ∈ lw) (bl1 : 0 ≤ m1.toInt ∧ m1.toInt ≤ 0) {m2 : Int32} (hl2 : (2, Value.int m2) ∈ lw) {m3 : Int32} (hl3 : (3, Value.int m3) ∈ lw) (ret0 : ∀ (r : Int32) (σ' : am_S), (0 ≤ 1 * m3.toInt + ((-1) * r.toInt + 0) ∧ 1 * m3.toInt + ((-1) * r.toInt + 0) ≤ 0) → sx_M z9 hd_C σ 24973988402527938522558719544620796630567757216967801883073602015190162761485117942982256592473367725324991591670391633634132174893182083076718592 0 σ' → post (some (some (.int r))) σ') : am_K g 30 tX12_log.1 0 0 219 lw [] σ post := by
  refine sg_seg (sw := []) (vs := [m1.toInt, m2.toInt, m3.toInt]) (ws := []) G (mi := 133) rfl hct sg_gp5b_ok ⟨⟨m1, hl1, rfl⟩, ⟨⟨m2, hl2, rfl⟩, ⟨⟨m3, hl3, rfl⟩, trivial⟩⟩⟩ (hd_refs hl) trivial (hd_p1 rfl bl1.1 bl1.2 (hd_p1 rfl (Int32.le_toInt _) (Int32.toInt_le _) (hd_p1 rfl (Int32.le_toInt _) (Int32.toInt_le _) hd_p0))) hM ?_ ?_
  · intro r σ' hq
    cases r with
    | none => exact hq.elim
    | some v =>
      obtain ⟨p, hp, hM2, ks, hk, hv⟩ := hq
      simp only [List.mem_cons, List.not_mem_nil, or_false] at hp
      rcases hp with rfl
      · obtain rfl := hd_keys hk
        cases v with
        | none => exact hv.elim
        | some w9 =>
          obtain ⟨r, rfl, hP⟩ := hv
          obtain ⟨v0, e0, l0, u0⟩ := hP _ (List.mem_cons_self)
          have g0 : 1 * m3.toInt + ((-1) * r.toInt + 0) = v0 := Option.some.inj e0
          exact ret0 r _ ⟨by rw [g0]; exact l0, by rw [g0]; exact u0⟩ hM2
  · intro u hu
    cases hu
end HR
