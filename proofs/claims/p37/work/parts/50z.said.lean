/-! isSaid -/
noncomputable def zF : sx_Z := (z9.1, z9.2.1, z9.2.2.1, z9.2.2.2.1, z9.2.2.2.2.1, z9.2.2.2.2.2.1, fun o => z9.2.2.2.2.2.2 o || o.beq 120)
theorem hd_GF {g : am_C} {L : Nat} {xs : Nat → Int32} (G : sx_G0 g L xs z9 hd_C ex_mt) : sx_G0 g L xs zF hd_C ex_mt := ⟨G.1, G.2.1, G.2.2.1, G.2.2.2.1, G.2.2.2.2.1, G.2.2.2.2.2.1, G.2.2.2.2.2.2.1, G.2.2.2.2.2.2.2⟩
def is_m : Nat := 99895953610111751404211111353381321783955140565279076827493022708011895642232499843849795298031743077114461795885011932654335221737225129801285632
def is_S (i : Nat) (vlo vhi nlo : Int) : sg_Cu := (4, 0, [(0, .inr (some (false, 118)))], ([.inl 1, .inl 2, .inl 3, .inr 7864416, .inr (7864417 + 3 * i)], [([(.ofNat 1, 0)], .ofNat 0, .ofNat 9), ([(.ofNat 1, 1)], nlo, .ofNat i), ([(.ofNat 1, 2)], .ofNat i, .ofNat i), ([(.ofNat 1, 3)], .ofNat (i + 1), .ofNat 40), ([(.ofNat 1, 4)], vlo, vhi)]), [])
def is_U (e : Int) : sg_Cu := (4, is_m, [(0, .inr (some (false, 118)))], ([.inl 1, .inl 2, .inl 3], [([(.ofNat 1, 0), (.negSucc 0, 5)], .ofNat 0, .ofNat 0), ([(.ofNat 1, 1), (.negSucc 0, 6)], e, e), ([(.ofNat 1, 2), (.negSucc 0, 7)], .negSucc 0, .negSucc 0)]), [])
def is_L : sg_Cu := (197, 0, [(0, .inr (some (false, 118)))], ([.inl 1, .inl 2, .inl 3], [([(.ofNat 1, 0), (.negSucc 0, 5)], .ofNat 0, .ofNat 0), ([(.ofNat 1, 1), (.negSucc 0, 6)], .ofNat 0, .ofNat 0), ([(.ofNat 1, 2), (.negSucc 0, 7)], .ofNat 0, .ofNat 0), ([(.ofNat 1, 0), (.negSucc 0, 11)], .ofNat 0, .ofNat 0), ([(.ofNat 1, 1), (.negSucc 0, 12)], .ofNat 0, .ofNat 0)]), [none, none, none, none, some (false, 118), none, some (false, 135)])
theorem is_a : ∀ i, i < 40 → 1 ≤ i → sg_chk zF ex_mt k9 50 tX12_isSaid 38 12 (is_S i 20 20 1) [] [is_U 0] = true := by decide +kernel
theorem is_b : ∀ i, i < 40 → 2 ≤ i → sg_chk zF ex_mt k9 50 tX12_isSaid 62 12 (is_S i 21 21 2) [] [is_U 1] = true := by decide +kernel
theorem is_b2 : ∀ i, i < 40 → 2 ≤ i → sg_chk zF ex_mt k9 50 tX12_isSaid 62 12 (is_S i 22 22 2) [] [is_U 1] = true := by decide +kernel
theorem is_c : ∀ i, i < 40 → sg_chk zF ex_mt k9 50 tX12_isSaid 53 12 (is_S i sx_lo 19 0) [] [is_L] = true := by decide +kernel
theorem is_d : ∀ i, i < 40 → sg_chk zF ex_mt k9 50 tX12_isSaid 53 12 (is_S i 23 sx_up 0) [] [is_L] = true := by decide +kernel
section HZ
variable {g : am_C} {L : Nat} {xs : Nat → Int32}
theorem is_run (G : sx_G0 g L xs z9 hd_C ex_mt) (hct : ∀ (mi : Nat) (T2 : ex_T) (c' : sx_Ct), ex_mt mi = some T2 → c' ∈ k9 mi → c'.1 < 50 → sx_Holds g z9 hd_C T2 c') {i fuel : Nat} {vlo vhi nlo : Int} {us : List sg_Cu} (hc : sg_chk zF ex_mt k9 50 tX12_isSaid fuel 12 (is_S i vlo vhi nlo) [] us = true) {σ : am_S} {lw : List (Nat × Value)} {post : Option (Option Value) → am_S → Prop} (hM : sx_M z9 hd_C σ 0 0 σ) (hl : (0, Value.ref 118) ∈ lw) {m1 m2 m3 : Int32} (hl1 : (1, Value.int m1) ∈ lw) (hl2 : (2, Value.int m2) ∈ lw) (hl3 : (3, Value.int m3) ∈ lw) (b1 : 0 ≤ m1.toInt ∧ m1.toInt ≤ 9) (b2 : nlo ≤ m2.toInt ∧ m2.toInt ≤ i) (b3 : m3.toInt = i) (b4 : (i + 1 : Nat) ≤ (σ.2.1 120 96).toInt ∧ (σ.2.1 120 96).toInt ≤ 40) (hi : i < 40) (b5 : vlo ≤ (σ.2.1 120 (97 + 3 * i)).toInt ∧ (σ.2.1 120 (97 + 3 * i)).toInt ≤ vhi) (cut : ∀ u ∈ us, ∀ (lw' : List (Nat × Value)) (sw' : List Value) (vs' ws' : List Int) (σ' : am_S), sg_Head z9 hd_C σ [m1.toInt, m2.toInt, m3.toInt, (σ.2.1 120 96).toInt, (σ.2.1 120 (97 + 3 * i)).toInt] u lw' sw' vs' ws' σ' → am_K g 12 tX12_isSaid.1 0 0 u.1 lw' sw' σ' post) : am_K g 12 tX12_isSaid.1 0 0 4 lw [] σ post := by
  refine sg_seg (S := is_S i vlo vhi nlo) (sw := []) (vs := [m1.toInt, m2.toInt, m3.toInt, (σ.2.1 120 96).toInt, (σ.2.1 120 (97 + 3 * i)).toInt]) (ws := []) (hd_GF G) (mi := 121) rfl hct hc ⟨⟨m1, hl1, rfl⟩, ⟨m2, hl2, rfl⟩, ⟨m3, hl3, rfl⟩, rfl, ?_, trivial⟩ (hd_refs hl) trivial (hd_p1 rfl b1.1 b1.2 (hd_p1 rfl b2.1 b2.2 (hd_p1 rfl (Int.le_of_eq b3.symm) (Int.le_of_eq b3) (hd_p1 rfl b4.1 b4.2 (hd_p1 rfl b5.1 b5.2 hd_p0))))) hM ?_ cut
  · show (σ.2.1 120 (97 + 3 * i)).toInt = (σ.2.1 ((7864417 + 3 * i) / 65536) ((7864417 + 3 * i) % 65536)).toInt
    rw [show (7864417 + 3 * i) / 65536 = 120 by omega, show (7864417 + 3 * i) % 65536 = 97 + 3 * i by omega]
  · intro r σ' hq
    cases r with
    | none => exact hq.elim
    | some v =>
      obtain ⟨p, hp, -⟩ := hq
      cases hp
theorem is_loop (G : sx_G0 g L xs z9 hd_C ex_mt) (hct : ∀ (mi : Nat) (T2 : ex_T) (c' : sx_Ct), ex_mt mi = some T2 → c' ∈ k9 mi → c'.1 < 50 → sx_Holds g z9 hd_C T2 c') {σe : am_S} {n : Nat} (hn : n ≤ 40) (hcn : (σe.2.1 120 96).toInt = n) (hok : hd_ok (fun k => σe.2.1 120 (97 + k)) n) {m1 : Int32} (b1 : 0 ≤ m1.toInt ∧ m1.toInt ≤ 9) {post : Option (Option Value) → am_S → Prop} (k : ∀ (r : Int32) σ', 0 ≤ r.toInt → r.toInt ≤ 1 → sx_M z9 hd_C σe is_m 0 σ' → post (some (some (.int r))) σ') : ∀ (b i : Nat) (σ : am_S) (lw : List (Nat × Value)) (m2 m3 : Int32), i + b = n → sx_M z9 hd_C σe is_m 0 σ → (0, Value.ref 118) ∈ lw → (1, Value.int m1) ∈ lw → (2, Value.int m2) ∈ lw → (3, Value.int m3) ∈ lw → m2.toInt = hd_dp (fun k => σe.2.1 120 (97 + k)) i → m3.toInt = (i : Nat) → am_K g 12 tX12_isSaid.1 0 0 4 lw [] σ post := by
  intro b
  induction b with
  | zero =>
    intro i σ lw m2 m3 hb hM hl hl1 hl2 hl3 e2 e3
    have f0 := hd_frz (o := 120) (n := 277) (by decide +kernel) (hd_toK hM)
    refine sg_qx_run G hct (sx_M_self hM) hl hl1 hl2 hl3 (by omega) (by rw [f0 96 (by decide)]; omega) ?_
    intro r σ' f1 hM1
    exact k r σ' (by omega) (by omega) (hd_tr hM hM1 (by decide +kernel))
  | succ b ih =>
    intro i σ lw m2 m3 hb hM hl hl1 hl2 hl3 e2 e3
    have f0 := hd_frz (o := 120) (n := 277) (by decide +kernel) (hd_toK hM)
    have hoki := hd_ok_le (d := i + 1) (by omega) hok
    obtain ⟨o1, o2, o3⟩ := hoki
    have hin := hd_dp_in o1
    have e96 : (σ.2.1 120 96).toInt = (n : Nat) := by rw [f0 96 (by decide)]; exact hcn
    have ev : σ.2.1 120 (97 + 3 * i) = σe.2.1 120 (97 + 3 * i) := f0 _ (by omega)
    -- on to the next code
    have next : ∀ (lw' : List (Nat × Value)) (a1 a2 a3 : Int32) (σ' : am_S), (0, Value.ref 118) ∈ lw' → (1, Value.int a1) ∈ lw' → (2, Value.int a2) ∈ lw' → (3, Value.int a3) ∈ lw' → a1.toInt = m1.toInt → a2.toInt = hd_dp (fun k => σe.2.1 120 (97 + k)) (i + 1) → a3.toInt = ((i + 1 : Nat) : Int) → sx_M z9 hd_C σ is_m 0 σ' → am_K g 12 tX12_isSaid.1 0 0 4 lw' [] σ' post := by
      intro lw' a1 a2 a3 σ' h0 h1 h2 h3 g1 g2 g3 hM1
      have : a1 = m1 := Int32.toInt_inj.mp g1
      subst this
      exact ih (i + 1) σ' lw' a2 a3 (by omega) (hd_tr hM hM1 (by decide +kernel)) h0 h1 h2 h3 g2 g3
    have cutU : ∀ (e : Int), m2.toInt - e = hd_dp (fun k => σe.2.1 120 (97 + k)) (i + 1) → ∀ u ∈ [is_U e], ∀ (lw' : List (Nat × Value)) (sw' : List Value) (vs' ws' : List Int) (σ' : am_S), sg_Head z9 hd_C σ [m1.toInt, m2.toInt, m3.toInt, (σ.2.1 120 96).toInt, (σ.2.1 120 (97 + 3 * i)).toInt] u lw' sw' vs' ws' σ' → am_K g 12 tX12_isSaid.1 0 0 u.1 lw' sw' σ' post := by
      intro e he u hu lw' sw' vs' ws' σ' hH
      cases List.mem_singleton.mp hu
      obtain ⟨h1_0, h2, h3_0, h4, h5⟩ := hH
      obtain ⟨a1, vs1, rfl, q1, h1_1⟩ := hd_srcl h1_0
      obtain ⟨a2, vs2, rfl, q2, h1_2⟩ := hd_srcl h1_1
      obtain ⟨a3, vs3, rfl, q3, h1_3⟩ := hd_srcl h1_2
      obtain rfl := hd_src0 h1_3
      obtain ⟨rfl, rfl⟩ := hd_st0 h3_0
      obtain ⟨v0, e0, l0, u0⟩ := h4 _ (List.mem_cons_self)
      have g0 : 1 * m1.toInt + ((-1) * a1.toInt + 0) = v0 := Option.some.inj e0
      obtain ⟨v1, e1, l1, u1⟩ := h4 _ (List.mem_cons_of_mem _ (List.mem_cons_self))
      have g1 : 1 * m2.toInt + ((-1) * a2.toInt + 0) = v1 := Option.some.inj e1
      obtain ⟨v2, e2', l2, u2⟩ := h4 _ (List.mem_cons_of_mem _ (List.mem_cons_of_mem _ (List.mem_cons_self)))
      have g2 : 1 * m3.toInt + ((-1) * a3.toInt + 0) = v2 := Option.some.inj e2'
      have l0' : (0 : Int) ≤ v0 := l0
      have u0' : v0 ≤ (0 : Int) := u0
      have l1' : e ≤ v1 := l1
      have u1' : v1 ≤ e := u1
      have l2' : (-1 : Int) ≤ v2 := l2
      have u2' : v2 ≤ (-1 : Int) := u2
      exact next lw' a1 a2 a3 σ' (hd_ref0 h2) q1 q2 q3 (by omega) (by omega) (by omega) h5
    have cutL : hd_dp (fun k => σe.2.1 120 (97 + k)) (i + 1) = m2.toInt + 1 → ∀ u ∈ [is_L], ∀ (lw' : List (Nat × Value)) (sw' : List Value) (vs' ws' : List Int) (σ' : am_S), sg_Head z9 hd_C σ [m1.toInt, m2.toInt, m3.toInt, (σ.2.1 120 96).toInt, (σ.2.1 120 (97 + 3 * i)).toInt] u lw' sw' vs' ws' σ' → am_K g 12 tX12_isSaid.1 0 0 u.1 lw' sw' σ' post := by
      intro he u hu lw' sw' vs' ws' σ' hH
      cases List.mem_singleton.mp hu
      obtain ⟨h1_0, h2, h3_0, h4, h5⟩ := hH
      obtain ⟨a1, vs1, rfl, q1, h1_1⟩ := hd_srcl h1_0
      obtain ⟨a2, vs2, rfl, q2, h1_2⟩ := hd_srcl h1_1
      obtain ⟨a3, vs3, rfl, q3, h1_3⟩ := hd_srcl h1_2
      obtain rfl := hd_src0 h1_3
      obtain ⟨n0, sw1, ws1, rfl, rfl, h3_1⟩ := hd_sti h3_0
      obtain ⟨n1, sw2, ws2, rfl, rfl, h3_2⟩ := hd_sti h3_1
      obtain ⟨n2, sw3, ws3, rfl, rfl, h3_3⟩ := hd_sti h3_2
      obtain ⟨n3, sw4, ws4, rfl, rfl, h3_4⟩ := hd_sti h3_3
      obtain ⟨sw5, rfl, h3_5⟩ := hd_str h3_4
      obtain ⟨n4, sw6, ws6, rfl, rfl, h3_6⟩ := hd_sti h3_5
      obtain ⟨sw7, rfl, h3_7⟩ := hd_str h3_6
      obtain ⟨rfl, rfl⟩ := hd_st0 h3_7
      obtain ⟨v0, e0, l0, u0⟩ := h4 _ (List.mem_cons_self)
      have g0 : 1 * m1.toInt + ((-1) * a1.toInt + 0) = v0 := Option.some.inj e0
      obtain ⟨v1, e1, l1, u1⟩ := h4 _ (List.mem_cons_of_mem _ (List.mem_cons_self))
      have g1 : 1 * m2.toInt + ((-1) * a2.toInt + 0) = v1 := Option.some.inj e1
      obtain ⟨v2, e2', l2, u2⟩ := h4 _ (List.mem_cons_of_mem _ (List.mem_cons_of_mem _ (List.mem_cons_self)))
      have g2 : 1 * m3.toInt + ((-1) * a3.toInt + 0) = v2 := Option.some.inj e2'
      obtain ⟨v3, e3', l3, u3⟩ := h4 _ (List.mem_cons_of_mem _ (List.mem_cons_of_mem _ (List.mem_cons_of_mem _ (List.mem_cons_self))))
      have g3 : 1 * m1.toInt + ((-1) * n3.toInt + 0) = v3 := Option.some.inj e3'
      obtain ⟨v4, e4', l4, u4⟩ := h4 _ (List.mem_cons_of_mem _ (List.mem_cons_of_mem _ (List.mem_cons_of_mem _ (List.mem_cons_of_mem _ (List.mem_cons_self)))))
      have g4 : 1 * m2.toInt + ((-1) * n4.toInt + 0) = v4 := Option.some.inj e4'
      have l0' : (0 : Int) ≤ v0 := l0
      have u0' : v0 ≤ (0 : Int) := u0
      have l1' : (0 : Int) ≤ v1 := l1
      have u1' : v1 ≤ (0 : Int) := u1
      have l2' : (0 : Int) ≤ v2 := l2
      have u2' : v2 ≤ (0 : Int) := u2
      have l3' : (0 : Int) ≤ v3 := l3
      have u3' : v3 ≤ (0 : Int) := u3
      have l4' : (0 : Int) ≤ v4 := l4
      have u4' : v4 ≤ (0 : Int) := u4
      refine sg_ql_run G hct (sx_M_self h5) (hd_ref0 h2) q1 (by omega) q2 (by omega) q3 (by omega) (by omega) (by omega) ?_
      intro lw2 c1 c2 c3 σ2 p0 p1 p2 p3 f1 f2 f3 hM2
      exact next lw2 c1 c2 c3 σ2 p0 p1 p2 p3 (by omega) (by omega) (by omega) (hd_tr (sx_M_mask (by decide +kernel) h5) hM2 (by decide +kernel))
    have dpS : hd_dp (fun k => σe.2.1 120 (97 + k)) (i + 1) = if σe.2.1 120 (97 + 3 * i) = 20 then hd_dp (fun k => σe.2.1 120 (97 + k)) i else if σe.2.1 120 (97 + 3 * i) = 21 ∨ σe.2.1 120 (97 + 3 * i) = 22 then hd_dp (fun k => σe.2.1 120 (97 + k)) i - 1 else hd_dp (fun k => σe.2.1 120 (97 + k)) i + 1 := rfl
    have n20 : (20 : Int32).toInt = 20 := rfl
    have n21 : (21 : Int32).toInt = 21 := rfl
    have n22 : (22 : Int32).toInt = 22 := rfl
    by_cases h20 : σe.2.1 120 (97 + 3 * i) = 20
    · have q := o2 h20
      rw [if_pos h20] at dpS
      exact is_run G hct (is_a i (by omega) (by omega)) (sx_M_self hM) hl hl1 hl2 hl3 b1 (by omega) e3 (by omega) (by omega) (by rw [ev, h20]; exact ⟨by decide, by decide⟩) (cutU 0 (by omega))
    · by_cases h21 : σe.2.1 120 (97 + 3 * i) = 21 ∨ σe.2.1 120 (97 + 3 * i) = 22
      · have q := o3 h21
        rw [if_neg h20, if_pos h21] at dpS
        rcases h21 with h | h
        · exact is_run G hct (is_b i (by omega) (by omega)) (sx_M_self hM) hl hl1 hl2 hl3 b1 (by omega) e3 (by omega) (by omega) (by rw [ev, h]; exact ⟨by decide, by decide⟩) (cutU 1 (by omega))
        · exact is_run G hct (is_b2 i (by omega) (by omega)) (sx_M_self hM) hl hl1 hl2 hl3 b1 (by omega) e3 (by omega) (by omega) (by rw [ev, h]; exact ⟨by decide, by decide⟩) (cutU 1 (by omega))
      · rw [if_neg h20, if_neg h21] at dpS
        have ne20 : ¬ (σe.2.1 120 (97 + 3 * i)).toInt = 20 := fun z => h20 (Int32.toInt_inj.mp (by rw [z]; rfl))
        have ne21 : ¬ (σe.2.1 120 (97 + 3 * i)).toInt = 21 := fun z => h21 (Or.inl (Int32.toInt_inj.mp (by rw [z]; rfl)))
        have ne22 : ¬ (σe.2.1 120 (97 + 3 * i)).toInt = 22 := fun z => h21 (Or.inr (Int32.toInt_inj.mp (by rw [z]; rfl)))
        rcases Int.lt_or_le (σe.2.1 120 (97 + 3 * i)).toInt 20 with h | h
        · exact is_run G hct (is_c i (by omega)) (sx_M_self hM) hl hl1 hl2 hl3 b1 (by omega) e3 (by omega) (by omega) (by rw [ev]; exact ⟨Int32.le_toInt _, by omega⟩) (cutL (by omega))
        · exact is_run G hct (is_d i (by omega)) (sx_M_self hM) hl hl1 hl2 hl3 b1 (by omega) e3 (by omega) (by omega) (by rw [ev]; exact ⟨by omega, Int32.toInt_le _⟩) (cutL (by omega))
theorem hd_isSaid (G : sx_G0 g L xs z9 hd_C ex_mt) (hct : ∀ (mi : Nat) (T2 : ex_T) (c' : sx_Ct), ex_mt mi = some T2 → c' ∈ k9 mi → c'.1 < 50 → sx_Holds g z9 hd_C T2 c') {σe : am_S} (h0 : sx_M z9 hd_C σe 0 0 σe) {m1 : Int32} (b1 : 0 ≤ m1.toInt ∧ m1.toInt ≤ 9) {post : Option (Option Value) → am_S → Prop} (k : ∀ (r : Int32) σ', 0 ≤ r.toInt → r.toInt ≤ 1 → sx_M z9 hd_C σe is_m 0 σ' → post (some (some (.int r))) σ') {lw : List (Nat × Value)} (hl : (0, Value.ref 118) ∈ lw) (hl1 : (1, Value.int m1) ∈ lw) : am_K g 12 tX12_isSaid.1 0 0 0 lw [] σe post := by
  have hk := hd_kd_120_96 h0
  obtain ⟨n, hn⟩ : ∃ n : Nat, (σe.2.1 120 96).toInt = n := ⟨(σe.2.1 120 96).toInt.toNat, by omega⟩
  have hw : hd_W (σe.2.1 120) := h0.2.2.2.2.2.2.1 (8, 120, 96, 277) (by rw [hd_zu]; exact List.mem_cons_self) rfl
  unfold hd_W at hw
  rw [hn, Int.toNat_natCast, show min n 60 = n by omega] at hw
  refine sg_qe_run G hct h0 hl hl1 b1 ?_
  intro lw1 a1 a2 a3 σ1 p0 p1 p2 p3 f1 f2 f3 hM1
  have : a1 = m1 := Int32.toInt_inj.mp (by omega)
  subst this
  exact is_loop G hct (by omega) hn hw b1 k n 0 σ1 lw1 a2 a3 (by omega) (sx_M_mask (by decide +kernel) hM1) p0 p1 p2 p3 (by show a2.toInt = 0; omega) (by omega)
end HZ
