/-! segments of drawn, luckiest of the class around prepareBest (written by a program) -/
theorem hd_kd_4_8 {C9 : Nat → am_S → Prop} {cl : List sx_Cl} {cu : List (Nat × Nat × Nat × Nat)} {σe σ : am_S} {m : Nat} (h : sx_M (z9.1, z9.2.1, z9.2.2.1, z9.2.2.2.1, cl, cu, z9.2.2.2.2.2.2) C9 σe m 0 σ) : (0 : Int) ≤ (σ.2.1 4 8).toInt ∧ (σ.2.1 4 8).toInt ≤ (6 : Int) := h.2.2.1 4 8 _ _ 37 rfl
def sg_kdr1 : sg_Cu := (0, 0, [(0, .inr (some (false, 0)))], ([.inl 1, .inl 2], [([(.ofNat 1, 0)], .negSucc 2147483647, .ofNat 2147483647), ([(.ofNat 1, 1)], .negSucc 2147483647, .ofNat 2147483647)]), [])
def sg_kdr1_a : sg_Cu := (14, 0, [(0, .inr (some (false, 0)))], ([.inl 1, .inl 2], []), [some (false, 68)])
def sg_kdr1_p0 : sx_Po := (0, true, [], [([(.ofNat 1, 2)], .negSucc 0, .negSucc 0)])
theorem sg_kdr1_ok : sg_chk z9 ex_mt k9 60 tX11_drawn 21 60 sg_kdr1 [sg_kdr1_p0] [sg_kdr1_a] = true := by decide +kernel
def sg_kdr2 : sg_Cu := (17, 0, [(0, .inr (some (false, 0)))], ([.inl 1, .inl 2], [([(.ofNat 1, 0)], .negSucc 2147483647, .ofNat 2147483647), ([(.ofNat 1, 1)], .negSucc 2147483647, .ofNat 2147483647)]), [])
def sg_kdr2_p0 : sx_Po := (12664759760331458874453076485325239921451404572804436691815673250865498554368, true, [], [])
theorem sg_kdr2_ok : sg_chk z9 ex_mt k9 60 tX11_drawn 14 60 sg_kdr2 [sg_kdr2_p0] [] = true := by decide +kernel
def sg_klu1 : sg_Cu := (0, 0, [(0, .inr (some (false, 0)))], ([.inl 1, .inl 2], [([(.ofNat 1, 0)], .negSucc 2147483647, .ofNat 2147483647), ([(.ofNat 1, 1)], .negSucc 2147483647, .ofNat 2147483647)]), [])
def sg_klu1_a : sg_Cu := (14, 0, [(0, .inr (some (false, 0)))], ([.inl 1, .inl 2], []), [some (false, 68)])
def sg_klu1_p0 : sx_Po := (0, true, [], [([(.ofNat 1, 2)], .negSucc 0, .negSucc 0)])
theorem sg_klu1_ok : sg_chk z9 ex_mt k9 60 tX11_luckiest 21 60 sg_klu1 [sg_klu1_p0] [sg_klu1_a] = true := by decide +kernel
def sg_klu2 : sg_Cu := (17, 0, [(0, .inr (some (false, 0)))], ([.inl 1, .inl 2], [([(.ofNat 1, 0)], .negSucc 2147483647, .ofNat 2147483647), ([(.ofNat 1, 1)], .negSucc 2147483647, .ofNat 2147483647)]), [])
def sg_klu2_p0 : sx_Po := (12664759760331458874453076485325239921451404572804436691815673250865498554368, true, [], [])
theorem sg_klu2_ok : sg_chk z9 ex_mt k9 60 tX11_luckiest 14 60 sg_klu2 [sg_klu2_p0] [] = true := by decide +kernel
def sg_kst1 : sg_Cu := (0, 0, [(0, .inr (some (false, 0)))], ([], []), [])
def sg_kst1_a : sg_Cu := (57, 262144, [(0, .inr (some (false, 0)))], ([.inl 2, .inr 65537], [([(.ofNat 1, 1)], .ofNat 0, .ofNat 0)]), [some (false, 68)])
def sg_kst1_p0 : sx_Po := (262144, true, [65537], [([(.ofNat 1, 0)], .negSucc 0, .negSucc 0), ([(.ofNat 1, 1)], .ofNat 0, .ofNat 0)])
theorem sg_kst1_ok : sg_chk z9 ex_mt k9 60 tX11_stood 68 60 sg_kst1 [sg_kst1_p0] [sg_kst1_a] = true := by decide +kernel
def sg_kst2 : sg_Cu := (60, 0, [(0, .inr (some (false, 0)))], ([.inl 2], [([(.ofNat 1, 0)], .negSucc 2147483647, .ofNat 2147483647)]), [])
def sg_kst2_a : sg_Cu := (65, 0, [(0, .inr (some (false, 0)))], ([.inl 2, .inl 3, .inl 4], [([(.ofNat 1, 3)], .ofNat 0, .ofNat 0)]), [])
theorem sg_kst2_ok : sg_chk z9 ex_mt k9 60 tX11_stood 6 60 sg_kst2 [] [sg_kst2_a] = true := by decide +kernel
def sg_kst3 : sg_Cu := (65, 0, [(0, .inr (some (false, 0)))], ([.inl 2, .inl 3, .inl 4, .inr 262152], [([(.ofNat 1, 0)], .negSucc 2147483647, .ofNat 2147483647), ([(.ofNat 1, 1)], .negSucc 2147483647, .ofNat 2147483647), ([(.ofNat 1, 2)], .ofNat 0, .ofNat 1000), ([(.ofNat 1, 3)], .ofNat 0, .ofNat 6)]), [])
def sg_kst3_a : sg_Cu := (65, 0, [(0, .inr (some (false, 0)))], ([.inl 2, .inl 3, .inl 4, .inr 262152], [([(.ofNat 1, 2), (.negSucc 0, 6)], .negSucc 0, .negSucc 0), ([(.ofNat 1, 2), (.negSucc 0, 3)], .negSucc 4611686018427387903, .negSucc 0)]), [])
def sg_kst3_p0 : sx_Po := (0, true, [], [])
theorem sg_kst3_ok : sg_chk z9 ex_mt k9 60 tX11_stood 40 60 sg_kst3 [sg_kst3_p0] [sg_kst3_a] = true := by decide +kernel
def sg_rst1 : sg_Cu := (0, 0, [(0, .inr (some (false, 118)))], ([], []), [])
def sg_rst1_a : sg_Cu := (30, 731659816480310679230061851284401511289899173260922625513783707758092186030716562270728907137320667273920651536936930452328889006571426206973952, [(0, .inr (some (false, 118)))], ([.inl 1, .inl 2, .inr 7733250], [([(.ofNat 1, 2)], .ofNat 0, .ofNat 0), ([(.ofNat 1, 1)], .ofNat 0, .ofNat 0)]), [])
def sg_rst1_p0 : sx_Po := (71630548774601913450629158202074779334958317741703756056572374631732375265995557525642819450735445442474016768, true, [7733250], [([(.ofNat 1, 1)], .ofNat 0, .ofNat 0)])
theorem sg_rst1_ok : sg_chk z9 ex_mt k9 60 tX12_stood 32 60 sg_rst1 [sg_rst1_p0] [sg_rst1_a] = true := by decide +kernel
def sg_rst2 : sg_Cu := (30, 0, [(0, .inr (some (false, 118)))], ([.inl 1, .inl 2, .inr 7733250], [([(.ofNat 1, 0)], .negSucc 2147483647, .ofNat 2147483647), ([(.ofNat 1, 1)], .ofNat 0, .ofNat 1000), ([(.ofNat 1, 2)], .ofNat 0, .ofNat 940)]), [])
def sg_rst2_a : sg_Cu := (30, 0, [(0, .inr (some (false, 118)))], ([.inl 1, .inl 2, .inr 7733250], [([(.ofNat 1, 1), (.negSucc 0, 4)], .negSucc 0, .negSucc 0), ([(.ofNat 1, 1)], .negSucc 4611686018427387903, .ofNat 5), ([(.ofNat 1, 2), (.negSucc 0, 5)], .ofNat 0, .ofNat 0)]), [])
def sg_rst2_p0 : sx_Po := (0, true, [7733250], [([(.ofNat 1, 2), (.negSucc 0, 4)], .ofNat 0, .ofNat 0)])
theorem sg_rst2_ok : sg_chk z9 ex_mt k9 60 tX12_stood 68 60 sg_rst2 [sg_rst2_p0] [sg_rst2_a] = true := by decide +kernel
section HR
variable {g : am_C} {L : Nat} {xs : Nat → Int32}
theorem sg_kdr1_run (G : sx_G0 g L xs z9 hd_C ex_mt) (hct : ∀ (mi : Nat) (T2 : ex_T) (c' : sx_Ct), ex_mt mi = some T2 → c' ∈ k9 mi → c'.1 < 60 → sx_Holds g z9 hd_C T2 c') {σ : am_S} {lw : List (Nat × Value)} {post : Option (Option Value) → am_S → Prop} (hM : sx_M z9 hd_C σ 0 0 σ) (hl : (0, Value.ref 0) ∈ lw) {m1 : Int32} (hl1 : (1, Value.int m1) ∈ lw) {m2 : Int32} (hl2 : (2, Value.int m2) ∈ lw) (ret0 : ∀ (r : Int32) (σ' : am_S), ((-1) ≤ 1 * r.toInt + 0 ∧ 1 * r.toInt + 0 ≤ (-1)) → sx_M z9 hd_C σ 0 0 σ' → post (some (some (.int r))) σ') (cuta : ∀ (lw' : List (Nat × Value)) (m1' : Int32) (m2' : Int32) (σ' : am_S), (0, Value.ref 0) ∈ lw' → (1, Value.int m1') ∈ lw' → (2, Value.int m2') ∈ lw' → sx_M z9 hd_C σ 0 0 σ' → am_K g 60 tX11_drawn.1 0 0 14 lw' [.ref 68] σ' post) : am_K g 60 tX11_drawn.1 0 0 0 lw [] σ post := by
  refine sg_seg (sw := []) (vs := [m1.toInt, m2.toInt]) (ws := []) G (mi := 29) rfl hct sg_kdr1_ok ⟨⟨m1, hl1, rfl⟩, ⟨⟨m2, hl2, rfl⟩, trivial⟩⟩ (hd_refs hl) trivial (hd_p1 rfl (Int32.le_toInt _) (Int32.toInt_le _) (hd_p1 rfl (Int32.le_toInt _) (Int32.toInt_le _) hd_p0)) hM ?_ ?_
  · intro r σ' hq
    cases r with
    | none => exact hq.elim
    | some v =>
      obtain ⟨p, hp, hM2, ks, hk, hv⟩ := hq
      simp only [List.mem_cons, List.not_mem_nil, or_false] at hp
      rcases hp with rfl
      · obtain rfl := hd_keys hk
        cases v with
        | none => exact hv.elim
        | some w9 =>
          obtain ⟨r, rfl, hP⟩ := hv
          obtain ⟨v0, e0, l0, u0⟩ := hP _ (List.mem_cons_self)
          have g0 : 1 * r.toInt + 0 = v0 := Option.some.inj e0
          exact ret0 r _ ⟨by rw [g0]; exact l0, by rw [g0]; exact u0⟩ hM2
  · intro u hu
    simp only [List.mem_cons, List.not_mem_nil, or_false] at hu
    rcases hu with rfl
    · intro lw' sw' vs' ws' σ' ⟨h1_0, h2, h3_0, h4, h5⟩
      obtain ⟨m1', vs1, rfl, hm1, h1_1⟩ := hd_srcl h1_0
      obtain ⟨m2', vs2, rfl, hm2, h1_2⟩ := hd_srcl h1_1
      obtain rfl := hd_src0 h1_2
      obtain ⟨sw1, rfl, h3_1⟩ := hd_str h3_0
      obtain ⟨rfl, rfl⟩ := hd_st0 h3_1
      have hr9 := hd_ref0 h2
      exact cuta _ _ _ _ hr9 hm1 hm2  h5
theorem sg_kdr2_run (G : sx_G0 g L xs z9 hd_C ex_mt) (hct : ∀ (mi : Nat) (T2 : ex_T) (c' : sx_Ct), ex_mt mi = some T2 → c' ∈ k9 mi → c'.1 < 60 → sx_Holds g z9 hd_C T2 c') {σ : am_S} {lw : List (Nat × Value)} {post : Option (Option Value) → am_S → Prop} (hM : sx_M z9 hd_C σ 0 0 σ) (hl : (0, Value.ref 0) ∈ lw) {m1 : Int32} (hl1 : (1, Value.int m1) ∈ lw) {m2 : Int32} (hl2 : (2, Value.int m2) ∈ lw) (ret0 : ∀ (r : Int32) (σ' : am_S), sx_M z9 hd_C σ 12664759760331458874453076485325239921451404572804436691815673250865498554368 0 σ' → post (some (some (.int r))) σ') : am_K g 60 tX11_drawn.1 0 0 17 lw [] σ post := by
  refine sg_seg (sw := []) (vs := [m1.toInt, m2.toInt]) (ws := []) G (mi := 29) rfl hct sg_kdr2_ok ⟨⟨m1, hl1, rfl⟩, ⟨⟨m2, hl2, rfl⟩, trivial⟩⟩ (hd_refs hl) trivial (hd_p1 rfl (Int32.le_toInt _) (Int32.toInt_le _) (hd_p1 rfl (Int32.le_toInt _) (Int32.toInt_le _) hd_p0)) hM ?_ ?_
  · intro r σ' hq
    cases r with
    | none => exact hq.elim
    | some v =>
      obtain ⟨p, hp, hM2, ks, hk, hv⟩ := hq
      simp only [List.mem_cons, List.not_mem_nil, or_false] at hp
      rcases hp with rfl
      · obtain rfl := hd_keys hk
        cases v with
        | none => exact hv.elim
        | some w9 =>
          obtain ⟨r, rfl, hP⟩ := hv
          exact ret0 r _  hM2
  · intro u hu
    cases hu
theorem sg_klu1_run (G : sx_G0 g L xs z9 hd_C ex_mt) (hct : ∀ (mi : Nat) (T2 : ex_T) (c' : sx_Ct), ex_mt mi = some T2 → c' ∈ k9 mi → c'.1 < 60 → sx_Holds g z9 hd_C T2 c') {σ : am_S} {lw : List (Nat × Value)} {post : Option (Option Value) → am_S → Prop} (hM : sx_M z9 hd_C σ 0 0 σ) (hl : (0, Value.ref 0) ∈ lw) {m1 : Int32} (hl1 : (1, Value.int m1) ∈ lw) {m2 : Int32} (hl2 : (2, Value.int m2) ∈ lw) (ret0 : ∀ (r : Int32) (σ' : am_S), ((-1) ≤ 1 * r.toInt + 0 ∧ 1 * r.toInt + 0 ≤ (-1)) → sx_M z9 hd_C σ 0 0 σ' → post (some (some (.int r))) σ') (cuta : ∀ (lw' : List (Nat × Value)) (m1' : Int32) (m2' : Int32) (σ' : am_S), (0, Value.ref 0) ∈ lw' → (1, Value.int m1') ∈ lw' → (2, Value.int m2') ∈ lw' → sx_M z9 hd_C σ 0 0 σ' → am_K g 60 tX11_luckiest.1 0 0 14 lw' [.ref 68] σ' post) : am_K g 60 tX11_luckiest.1 0 0 0 lw [] σ post := by
  refine sg_seg (sw := []) (vs := [m1.toInt, m2.toInt]) (ws := []) G (mi := 48) rfl hct sg_klu1_ok ⟨⟨m1, hl1, rfl⟩, ⟨⟨m2, hl2, rfl⟩, trivial⟩⟩ (hd_refs hl) trivial (hd_p1 rfl (Int32.le_toInt _) (Int32.toInt_le _) (hd_p1 rfl (Int32.le_toInt _) (Int32.toInt_le _) hd_p0)) hM ?_ ?_
  · intro r σ' hq
    cases r with
    | none => exact hq.elim
    | some v =>
      obtain ⟨p, hp, hM2, ks, hk, hv⟩ := hq
      simp only [List.mem_cons, List.not_mem_nil, or_false] at hp
      rcases hp with rfl
      · obtain rfl := hd_keys hk
        cases v with
        | none => exact hv.elim
        | some w9 =>
          obtain ⟨r, rfl, hP⟩ := hv
          obtain ⟨v0, e0, l0, u0⟩ := hP _ (List.mem_cons_self)
          have g0 : 1 * r.toInt + 0 = v0 := Option.some.inj e0
          exact ret0 r _ ⟨by rw [g0]; exact l0, by rw [g0]; exact u0⟩ hM2
  · intro u hu
    simp only [List.mem_cons, List.not_mem_nil, or_false] at hu
    rcases hu with rfl
    · intro lw' sw' vs' ws' σ' ⟨h1_0, h2, h3_0, h4, h5⟩
      obtain ⟨m1', vs1, rfl, hm1, h1_1⟩ := hd_srcl h1_0
      obtain ⟨m2', vs2, rfl, hm2, h1_2⟩ := hd_srcl h1_1
      obtain rfl := hd_src0 h1_2
      obtain ⟨sw1, rfl, h3_1⟩ := hd_str h3_0
      obtain ⟨rfl, rfl⟩ := hd_st0 h3_1
      have hr9 := hd_ref0 h2
      exact cuta _ _ _ _ hr9 hm1 hm2  h5
theorem sg_klu2_run (G : sx_G0 g L xs z9 hd_C ex_mt) (hct : ∀ (mi : Nat) (T2 : ex_T) (c' : sx_Ct), ex_mt mi = some T2 → c' ∈ k9 mi → c'.1 < 60 → sx_Holds g z9 hd_C T2 c') {σ : am_S} {lw : List (Nat × Value)} {post : Option (Option Value) → am_S → Prop} (hM : sx_M z9 hd_C σ 0 0 σ) (hl : (0, Value.ref 0) ∈ lw) {m1 : Int32} (hl1 : (1, Value.int m1) ∈ lw) {m2 : Int32} (hl2 : (2, Value.int m2) ∈ lw) (ret0 : ∀ (r : Int32) (σ' : am_S), sx_M z9 hd_C σ 12664759760331458874453076485325239921451404572804436691815673250865498554368 0 σ' → post (some (some (.int r))) σ') : am_K g 60 tX11_luckiest.1 0 0 17 lw [] σ post := by
  refine sg_seg (sw := []) (vs := [m1.toInt, m2.toInt]) (ws := []) G (mi := 48) rfl hct sg_klu2_ok ⟨⟨m1, hl1, rfl⟩, ⟨⟨m2, hl2, rfl⟩, trivial⟩⟩ (hd_refs hl) trivial (hd_p1 rfl (Int32.le_toInt _) (Int32.toInt_le _) (hd_p1 rfl (Int32.le_toInt _) (Int32.toInt_le _) hd_p0)) hM ?_ ?_
  · intro r σ' hq
    cases r with
    | none => exact hq.elim
    | some v =>
      obtain ⟨p, hp, hM2, ks, hk, hv⟩ := hq
      simp only [List.mem_cons, List.not_mem_nil, or_false] at hp
      rcases hp with rfl
      · obtain rfl := hd_keys hk
        cases v with
        | none => exact hv.elim
        | some w9 =>
          obtain ⟨r, rfl, hP⟩ := hv
          exact ret0 r _  hM2
  · intro u hu
    cases hu
theorem sg_kst1_run (G : sx_G0 g L xs z9 hd_C ex_mt) (hct : ∀ (mi : Nat) (T2 : ex_T) (c' : sx_Ct), ex_mt mi = some T2 → c' ∈ k9 mi → c'.1 < 60 → sx_Holds g z9 hd_C T2 c') {σ : am_S} {lw : List (Nat × Value)} {post : Option (Option Value) → am_S → Prop} (hM : sx_M z9 hd_C σ 0 0 σ) (hl : (0, Value.ref 0) ∈ lw)  (ret0 : ∀ (r : Int32) (σ' : am_S), ((-1) ≤ 1 * r.toInt + 0 ∧ 1 * r.toInt + 0 ≤ (-1)) → (0 ≤ 1 * (σ'.2.1 1 1).toInt + 0 ∧ 1 * (σ'.2.1 1 1).toInt + 0 ≤ 0) → sx_M z9 hd_C σ 262144 0 σ' → post (some (some (.int r))) σ') (cuta : ∀ (lw' : List (Nat × Value)) (m2' : Int32) (σ' : am_S), (0, Value.ref 0) ∈ lw' → (2, Value.int m2') ∈ lw' → (0 ≤ 1 * (σ'.2.1 1 1).toInt + 0 ∧ 1 * (σ'.2.1 1 1).toInt + 0 ≤ 0) → sx_M z9 hd_C σ 262144 0 σ' → am_K g 60 tX11_stood.1 0 0 57 lw' [.ref 68] σ' post) : am_K g 60 tX11_stood.1 0 0 0 lw [] σ post := by
  refine sg_seg (sw := []) (vs := []) (ws := []) G (mi := 66) rfl hct sg_kst1_ok trivial (hd_refs hl) trivial hd_p0 hM ?_ ?_
  · intro r σ' hq
    cases r with
    | none => exact hq.elim
    | some v =>
      obtain ⟨p, hp, hM2, ks, hk, hv⟩ := hq
      simp only [List.mem_cons, List.not_mem_nil, or_false] at hp
      rcases hp with rfl
      · obtain ⟨ks0, rfl, hk1⟩ := hd_keyc hk; obtain rfl := hd_keys hk1
        cases v with
        | none => exact hv.elim
        | some w9 =>
          obtain ⟨r, rfl, hP⟩ := hv
          obtain ⟨v0, e0, l0, u0⟩ := hP _ (List.mem_cons_self)
          have g0 : 1 * r.toInt + 0 = v0 := Option.some.inj e0
          obtain ⟨v1, e1, l1, u1⟩ := hP _ (List.mem_cons_of_mem _ (List.mem_cons_self))
          have g1 : 1 * (σ'.2.1 1 1).toInt + 0 = v1 := Option.some.inj e1
          exact ret0 r _ ⟨by rw [g0]; exact l0, by rw [g0]; exact u0⟩ ⟨by rw [g1]; exact l1, by rw [g1]; exact u1⟩ hM2
  · intro u hu
    simp only [List.mem_cons, List.not_mem_nil, or_false] at hu
    rcases hu with rfl
    · intro lw' sw' vs' ws' σ' ⟨h1_0, h2, h3_0, h4, h5⟩
      obtain ⟨m2', vs1, rfl, hm2, h1_1⟩ := hd_srcl h1_0
      obtain ⟨vs2, rfl, h1_2⟩ := hd_srcs h1_1
      obtain rfl := hd_src0 h1_2
      obtain ⟨sw1, rfl, h3_1⟩ := hd_str h3_0
      obtain ⟨rfl, rfl⟩ := hd_st0 h3_1
      have hr9 := hd_ref0 h2
      obtain ⟨v0, e0, l0, u0⟩ := h4 _ (List.mem_cons_self)
      have g0 : 1 * (σ'.2.1 1 1).toInt + 0 = v0 := Option.some.inj e0
      exact cuta _ _ _ hr9 hm2 ⟨by rw [g0]; exact l0, by rw [g0]; exact u0⟩ h5
theorem sg_kst2_run (G : sx_G0 g L xs z9 hd_C ex_mt) (hct : ∀ (mi : Nat) (T2 : ex_T) (c' : sx_Ct), ex_mt mi = some T2 → c' ∈ k9 mi → c'.1 < 60 → sx_Holds g z9 hd_C T2 c') {σ : am_S} {lw : List (Nat × Value)} {post : Option (Option Value) → am_S → Prop} (hM : sx_M z9 hd_C σ 0 0 σ) (hl : (0, Value.ref 0) ∈ lw) {m2 : Int32} (hl2 : (2, Value.int m2) ∈ lw) (cuta : ∀ (lw' : List (Nat × Value)) (m2' : Int32) (m3' : Int32) (m4' : Int32) (σ' : am_S), (0, Value.ref 0) ∈ lw' → (2, Value.int m2') ∈ lw' → (3, Value.int m3') ∈ lw' → (4, Value.int m4') ∈ lw' → (0 ≤ 1 * m4'.toInt + 0 ∧ 1 * m4'.toInt + 0 ≤ 0) → sx_M z9 hd_C σ 0 0 σ' → am_K g 60 tX11_stood.1 0 0 65 lw' [] σ' post) : am_K g 60 tX11_stood.1 0 0 60 lw [] σ post := by
  refine sg_seg (sw := []) (vs := [m2.toInt]) (ws := []) G (mi := 66) rfl hct sg_kst2_ok ⟨⟨m2, hl2, rfl⟩, trivial⟩ (hd_refs hl) trivial (hd_p1 rfl (Int32.le_toInt _) (Int32.toInt_le _) hd_p0) hM ?_ ?_
  · intro r σ' hq
    cases r with
    | none => exact hq.elim
    | some v =>
      obtain ⟨p, hp, hM2, ks, hk, hv⟩ := hq
      cases hp
  · intro u hu
    simp only [List.mem_cons, List.not_mem_nil, or_false] at hu
    rcases hu with rfl
    · intro lw' sw' vs' ws' σ' ⟨h1_0, h2, h3_0, h4, h5⟩
      obtain ⟨m2', vs1, rfl, hm2, h1_1⟩ := hd_srcl h1_0
      obtain ⟨m3', vs2, rfl, hm3, h1_2⟩ := hd_srcl h1_1
      obtain ⟨m4', vs3, rfl, hm4, h1_3⟩ := hd_srcl h1_2
      obtain rfl := hd_src0 h1_3
      obtain ⟨rfl, rfl⟩ := hd_st0 h3_0
      have hr9 := hd_ref0 h2
      obtain ⟨v0, e0, l0, u0⟩ := h4 _ (List.mem_cons_self)
      have g0 : 1 * m4'.toInt + 0 = v0 := Option.some.inj e0
      exact cuta _ _ _ _ _ hr9 hm2 hm3 hm4 ⟨by rw [g0]; exact l0, by rw [g0]; exact u0⟩ h5
theorem sg_kst3_run (G : sx_G0 g L xs z9 hd_C ex_mt) (hct : ∀ (mi : Nat) (T2 : ex_T) (c' : sx_Ct), ex_mt mi = some T2 → c' ∈ k9 mi → c'.1 < 60 → sx_Holds g z9 hd_C T2 c') {σ : am_S} {lw : List (Nat × Value)} {post : Option (Option Value) → am_S → Prop} (hM : sx_M z9 hd_C σ 0 0 σ) (hl : (0, Value.ref 0) ∈ lw) {m2 : Int32} (hl2 : (2, Value.int m2) ∈ lw) {m3 : Int32} (hl3 : (3, Value.int m3) ∈ lw) {m4 : Int32} (hl4 : (4, Value.int m4) ∈ lw) (bl4 : 0 ≤ m4.toInt ∧ m4.toInt ≤ 1000) (ret0 : ∀ (r : Int32) (σ' : am_S), sx_M z9 hd_C σ 0 0 σ' → post (some (some (.int r))) σ') (cuta : ∀ (lw' : List (Nat × Value)) (m2' : Int32) (m3' : Int32) (m4' : Int32) (σ' : am_S), (0, Value.ref 0) ∈ lw' → (2, Value.int m2') ∈ lw' → (3, Value.int m3') ∈ lw' → (4, Value.int m4') ∈ lw' → ((-1) ≤ 1 * m4.toInt + ((-1) * m4'.toInt + 0) ∧ 1 * m4.toInt + ((-1) * m4'.toInt + 0) ≤ (-1)) → ((-4611686018427387904) ≤ 1 * m4.toInt + ((-1) * (σ.2.1 4 8).toInt + 0) ∧ 1 * m4.toInt + ((-1) * (σ.2.1 4 8).toInt + 0) ≤ (-1)) → sx_M z9 hd_C σ 0 0 σ' → am_K g 60 tX11_stood.1 0 0 65 lw' [] σ' post) : am_K g 60 tX11_stood.1 0 0 65 lw [] σ post := by
  refine sg_seg (sw := []) (vs := [m2.toInt, m3.toInt, m4.toInt, (σ.2.1 4 8).toInt]) (ws := []) G (mi := 66) rfl hct sg_kst3_ok ⟨⟨m2, hl2, rfl⟩, ⟨⟨m3, hl3, rfl⟩, ⟨⟨m4, hl4, rfl⟩, ⟨rfl, trivial⟩⟩⟩⟩ (hd_refs hl) trivial (hd_p1 rfl (Int32.le_toInt _) (Int32.toInt_le _) (hd_p1 rfl (Int32.le_toInt _) (Int32.toInt_le _) (hd_p1 rfl bl4.1 bl4.2 (hd_p1 rfl (hd_kd_4_8 hM).1 (hd_kd_4_8 hM).2 hd_p0)))) hM ?_ ?_
  · intro r σ' hq
    cases r with
    | none => exact hq.elim
    | some v =>
      obtain ⟨p, hp, hM2, ks, hk, hv⟩ := hq
      simp only [List.mem_cons, List.not_mem_nil, or_false] at hp
      rcases hp with rfl
      · obtain rfl := hd_keys hk
        cases v with
        | none => exact hv.elim
        | some w9 =>
          obtain ⟨r, rfl, hP⟩ := hv
          exact ret0 r _  hM2
  · intro u hu
    simp only [List.mem_cons, List.not_mem_nil, or_false] at hu
    rcases hu with rfl
    · intro lw' sw' vs' ws' σ' ⟨h1_0, h2, h3_0, h4, h5⟩
      obtain ⟨m2', vs1, rfl, hm2, h1_1⟩ := hd_srcl h1_0
      obtain ⟨m3', vs2, rfl, hm3, h1_2⟩ := hd_srcl h1_1
      obtain ⟨m4', vs3, rfl, hm4, h1_3⟩ := hd_srcl h1_2
      obtain ⟨vs4, rfl, h1_4⟩ := hd_srcs h1_3
      obtain rfl := hd_src0 h1_4
      obtain ⟨rfl, rfl⟩ := hd_st0 h3_0
      have hr9 := hd_ref0 h2
      obtain ⟨v0, e0, l0, u0⟩ := h4 _ (List.mem_cons_self)
      have g0 : 1 * m4.toInt + ((-1) * m4'.toInt + 0) = v0 := Option.some.inj e0
      obtain ⟨v1, e1, l1, u1⟩ := h4 _ (List.mem_cons_of_mem _ (List.mem_cons_self))
      have g1 : 1 * m4.toInt + ((-1) * (σ.2.1 4 8).toInt + 0) = v1 := Option.some.inj e1
      exact cuta _ _ _ _ _ hr9 hm2 hm3 hm4 ⟨by rw [g0]; exact l0, by rw [g0]; exact u0⟩ ⟨by rw [g1]; exact l1, by rw [g1]; exact u1⟩ h5
theorem sg_rst1_run (G : sx_G0 g L xs z9 hd_C ex_mt) (hct : ∀ (mi : Nat) (T2 : ex_T) (c' : sx_Ct), ex_mt mi = some T2 → c' ∈ k9 mi → c'.1 < 60 → sx_Holds g z9 hd_C T2 c') {σ : am_S} {lw : List (Nat × Value)} {post : Option (Option Value) → am_S → Prop} (hM : sx_M z9 hd_C σ 0 0 σ) (hl : (0, Value.ref 118) ∈ lw)  (ret0 : ∀ (r : Int32) (σ' : am_S), (0 ≤ 1 * (σ'.2.1 118 2).toInt + 0 ∧ 1 * (σ'.2.1 118 2).toInt + 0 ≤ 0) → sx_M z9 hd_C σ 71630548774601913450629158202074779334958317741703756056572374631732375265995557525642819450735445442474016768 0 σ' → post (some (some (.int r))) σ') (cuta : ∀ (lw' : List (Nat × Value)) (m1' : Int32) (m2' : Int32) (σ' : am_S), (0, Value.ref 118) ∈ lw' → (1, Value.int m1') ∈ lw' → (2, Value.int m2') ∈ lw' → (0 ≤ 1 * (σ'.2.1 118 2).toInt + 0 ∧ 1 * (σ'.2.1 118 2).toInt + 0 ≤ 0) → (0 ≤ 1 * m2'.toInt + 0 ∧ 1 * m2'.toInt + 0 ≤ 0) → sx_M z9 hd_C σ 731659816480310679230061851284401511289899173260922625513783707758092186030716562270728907137320667273920651536936930452328889006571426206973952 0 σ' → am_K g 60 tX12_stood.1 0 0 30 lw' [] σ' post) : am_K g 60 tX12_stood.1 0 0 0 lw [] σ post := by
  refine sg_seg (sw := []) (vs := []) (ws := []) G (mi := 174) rfl hct sg_rst1_ok trivial (hd_refs hl) trivial hd_p0 hM ?_ ?_
  · intro r σ' hq
    cases r with
    | none => exact hq.elim
    | some v =>
      obtain ⟨p, hp, hM2, ks, hk, hv⟩ := hq
      simp only [List.mem_cons, List.not_mem_nil, or_false] at hp
      rcases hp with rfl
      · obtain ⟨ks0, rfl, hk1⟩ := hd_keyc hk; obtain rfl := hd_keys hk1
        cases v with
        | none => exact hv.elim
        | some w9 =>
          obtain ⟨r, rfl, hP⟩ := hv
          obtain ⟨v0, e0, l0, u0⟩ := hP _ (List.mem_cons_self)
          have g0 : 1 * (σ'.2.1 118 2).toInt + 0 = v0 := Option.some.inj e0
          exact ret0 r _ ⟨by rw [g0]; exact l0, by rw [g0]; exact u0⟩ hM2
  · intro u hu
    simp only [List.mem_cons, List.not_mem_nil, or_false] at hu
    rcases hu with rfl
    · intro lw' sw' vs' ws' σ' ⟨h1_0, h2, h3_0, h4, h5⟩
      obtain ⟨m1', vs1, rfl, hm1, h1_1⟩ := hd_srcl h1_0
      obtain ⟨m2', vs2, rfl, hm2, h1_2⟩ := hd_srcl h1_1
      obtain ⟨vs3, rfl, h1_3⟩ := hd_srcs h1_2
      obtain rfl := hd_src0 h1_3
      obtain ⟨rfl, rfl⟩ := hd_st0 h3_0
      have hr9 := hd_ref0 h2
      obtain ⟨v0, e0, l0, u0⟩ := h4 _ (List.mem_cons_self)
      have g0 : 1 * (σ'.2.1 118 2).toInt + 0 = v0 := Option.some.inj e0
      obtain ⟨v1, e1, l1, u1⟩ := h4 _ (List.mem_cons_of_mem _ (List.mem_cons_self))
      have g1 : 1 * m2'.toInt + 0 = v1 := Option.some.inj e1
      exact cuta _ _ _ _ hr9 hm1 hm2 ⟨by rw [g0]; exact l0, by rw [g0]; exact u0⟩ ⟨by rw [g1]; exact l1, by rw [g1]; exact u1⟩ h5
theorem sg_rst2_run (G : sx_G0 g L xs z9 hd_C ex_mt) (hct : ∀ (mi : Nat) (T2 : ex_T) (c' : sx_Ct), ex_mt mi = some T2 → c' ∈ k9 mi → c'.1 < 60 → sx_Holds g z9 hd_C T2 c') {σ : am_S} {lw : List (Nat × Value)} {post : Option (Option Value) → am_S → Prop} (hM : sx_M z9 hd_C σ 0 0 σ) (hl : (0, Value.ref 118) ∈ lw) {m1 : Int32} (hl1 : (1, Value.int m1) ∈ lw) {m2 : Int32} (hl2 : (2, Value.int m2) ∈ lw) (bl2 : 0 ≤ m2.toInt ∧ m2.toInt ≤ 1000) (ret0 : ∀ (r : Int32) (σ' : am_S), (0 ≤ 1 * (σ.2.1 118 2).toInt + ((-1) * (σ'.2.1 118 2).toInt + 0) ∧ 1 * (σ.2.1 118 2).toInt + ((-1) * (σ'.2.1 118 2).toInt + 0) ≤ 0) → sx_M z9 hd_C σ 0 0 σ' → post (some (some (.int r))) σ') (cuta : ∀ (lw' : List (Nat × Value)) (m1' : Int32) (m2' : Int32) (σ' : am_S), (0, Value.ref 118) ∈ lw' → (1, Value.int m1') ∈ lw' → (2, Value.int m2') ∈ lw' → ((-1) ≤ 1 * m2.toInt + ((-1) * m2'.toInt + 0) ∧ 1 * m2.toInt + ((-1) * m2'.toInt + 0) ≤ (-1)) → ((-4611686018427387904) ≤ 1 * m2.toInt + 0 ∧ 1 * m2.toInt + 0 ≤ 5) → (0 ≤ 1 * (σ.2.1 118 2).toInt + ((-1) * (σ'.2.1 118 2).toInt + 0) ∧ 1 * (σ.2.1 118 2).toInt + ((-1) * (σ'.2.1 118 2).toInt + 0) ≤ 0) → sx_M z9 hd_C σ 0 0 σ' → am_K g 60 tX12_stood.1 0 0 30 lw' [] σ' post) : am_K g 60 tX12_stood.1 0 0 30 lw [] σ post := by
  refine sg_seg (sw := []) (vs := [m1.toInt, m2.toInt, (σ.2.1 118 2).toInt]) (ws := []) G (mi := 174) rfl hct sg_rst2_ok ⟨⟨m1, hl1, rfl⟩, ⟨⟨m2, hl2, rfl⟩, ⟨rfl, trivial⟩⟩⟩ (hd_refs hl) trivial (hd_p1 rfl (Int32.le_toInt _) (Int32.toInt_le _) (hd_p1 rfl bl2.1 bl2.2 (hd_p1 rfl (hd_kd_118_2 hM).1 (hd_kd_118_2 hM).2 hd_p0))) hM ?_ ?_
  · intro r σ' hq
    cases r with
    | none => exact hq.elim
    | some v =>
      obtain ⟨p, hp, hM2, ks, hk, hv⟩ := hq
      simp only [List.mem_cons, List.not_mem_nil, or_false] at hp
      rcases hp with rfl
      · obtain ⟨ks0, rfl, hk1⟩ := hd_keyc hk; obtain rfl := hd_keys hk1
        cases v with
        | none => exact hv.elim
        | some w9 =>
          obtain ⟨r, rfl, hP⟩ := hv
          obtain ⟨v0, e0, l0, u0⟩ := hP _ (List.mem_cons_self)
          have g0 : 1 * (σ.2.1 118 2).toInt + ((-1) * (σ'.2.1 118 2).toInt + 0) = v0 := Option.some.inj e0
          exact ret0 r _ ⟨by rw [g0]; exact l0, by rw [g0]; exact u0⟩ hM2
  · intro u hu
    simp only [List.mem_cons, List.not_mem_nil, or_false] at hu
    rcases hu with rfl
    · intro lw' sw' vs' ws' σ' ⟨h1_0, h2, h3_0, h4, h5⟩
      obtain ⟨m1', vs1, rfl, hm1, h1_1⟩ := hd_srcl h1_0
      obtain ⟨m2', vs2, rfl, hm2, h1_2⟩ := hd_srcl h1_1
      obtain ⟨vs3, rfl, h1_3⟩ := hd_srcs h1_2
      obtain rfl := hd_src0 h1_3
      obtain ⟨rfl, rfl⟩ := hd_st0 h3_0
      have hr9 := hd_ref0 h2
      obtain ⟨v0, e0, l0, u0⟩ := h4 _ (List.mem_cons_self)
      have g0 : 1 * m2.toInt + ((-1) * m2'.toInt + 0) = v0 := Option.some.inj e0
      obtain ⟨v1, e1, l1, u1⟩ := h4 _ (List.mem_cons_of_mem _ (List.mem_cons_self))
      have g1 : 1 * m2.toInt + 0 = v1 := Option.some.inj e1
      obtain ⟨v2, e2, l2, u2⟩ := h4 _ (List.mem_cons_of_mem _ (List.mem_cons_of_mem _ (List.mem_cons_self)))
      have g2 : 1 * (σ.2.1 118 2).toInt + ((-1) * (σ'.2.1 118 2).toInt + 0) = v2 := Option.some.inj e2
      exact cuta _ _ _ _ hr9 hm1 hm2 ⟨by rw [g0]; exact l0, by rw [g0]; exact u0⟩ ⟨by rw [g1]; exact l1, by rw [g1]; exact u1⟩ ⟨by rw [g2]; exact l2, by rw [g2]; exact u2⟩ h5
end HR
