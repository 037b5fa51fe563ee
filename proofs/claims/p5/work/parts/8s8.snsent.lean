/-! SENTENCE, the reference: the loop; all -/
/-- a token that was read from inside -/
def sn_tk (b : Nat → Nat) (n : Nat) (t : rd_K) : Prop := ∃ p, p ≤ n ∧ t = rd_tok b n 200 p
theorem sn_tk_at {b : Nat → Nat} {n : Nat} {t : rd_K} (hn : n ≤ 940) (h : sn_tk b n t) : t.2.1 ≤ 940 := by
  obtain ⟨p, hp, e⟩ := h
  rw [e]
  rcases (rd_tok_nx (b := b) (most := 200) hp).2.2.2 with q | q <;> omega
theorem sn_tk_nx {b : Nat → Nat} {n : Nat} {t : rd_K} (h : sn_tk b n t) : sn_tk b n (sn_nx b n t) := by
  obtain ⟨p, hp, e⟩ := h
  refine ⟨t.2.2.2.1, ?_, rfl⟩
  rw [e]
  exact (rd_tok_nx hp).2.1
def sn_in (b : Nat → Nat) (n : Nat) : sn_X → Prop
  | .inl (.inl q) => q.2 ≤ 940
  | .inl (.inr _) => True
  | .inr (_, _, _, t) => sn_tk b n t
theorem sn_one_in {b : Nat → Nat} {n o : Nat} {F : List Bool} {t : rd_K} (hn : n ≤ 940) (h : sn_tk b n t) : sn_in b n (sn_one b n F o t) := by
  unfold sn_one
  repeat' split
  · exact sn_tk_at hn h
  · exact sn_tk_nx h
  · exact sn_tk_nx h
  · exact sn_tk_nx h
  · exact sn_tk_nx (sn_tk_nx (sn_tk_nx h))
  · exact sn_tk_at hn (sn_tk_nx (sn_tk_nx h))
  · exact sn_tk_at hn (sn_tk_nx h)
  · exact sn_tk_at hn h
theorem sn_beh_in {b : Nat → Nat} {n o : Nat} {t : rd_K} (hn : n ≤ 940) (h : sn_tk b n t) : ∀ F : List Bool, sn_in b n (sn_beh b n F o t) := by
  intro F
  cases F with
  | nil =>
    rw [sn_beh_n]
    repeat' split
    · exact sn_tk_nx h
    · exact True.intro
    · exact sn_tk_at hn h
  | cons a F =>
    cases a with
    | true => exact h
    | false =>
      rw [sn_beh_f]
      repeat' split
      · exact sn_tk_nx h
      · exact sn_tk_nx h
      · exact sn_tk_at hn h
section SR6
variable {g : am_C} {L : Nat} {xs : Nat → Int32}
theorem sn_copy (G : sx_G0 g L xs zK hd_T ex_mt) {σe : am_S} {c o : Nat} (hc9 : c ≤ 40) {post : Option (Option Value) → am_S → Prop} (k : ∀ (r : Int32) (σ' : am_S), r.toInt = (o : Int) → sx_M zK hd_T σe hd_mS 0 σ' → σ'.2.1 118 2 = 0 → σ'.2.1 118 13 = 0 → post (some (some (.int r))) σ') : ∀ (bb i : Nat) (σ : am_S) (lw : List (Nat × Value)) (x : Int32), i + bb = 3 * c → sx_M zK hd_T σe hd_mS 0 σ → (σ.2.1 118 39).toInt = c → (σ.2.1 118 40).toInt = o → σ.2.1 118 2 = 0 → σ.2.1 118 13 = 0 → (0, Value.ref 118) ∈ lw → (2, Value.int x) ∈ lw → x.toInt = (i : Nat) → am_K g 30 tX12_sentence.1 0 0 145 lw [] σ post := by
  intro bb
  induction bb with
  | zero =>
    intro i σ lw x hb hM h39 h40 h2 h13 hl hl2 hx
    refine sg_ks9z_run G hd_ctK (sx_M_self hM) hl hl2 (by omega) (by omega) ?_
    intro r σ' f1 hM1
    exact k r σ' (by omega) (hd_tr hM hM1 (by decide +kernel)) ((hM1.2.2.2.2.1 118 2 _ _ 361 rfl (sx_bit0 _)).trans h2) ((hM1.2.2.2.2.1 118 13 _ _ 372 rfl (sx_bit0 _)).trans h13)
  | succ bb ih =>
    intro i σ lw x hb hM h39 h40 h2 h13 hl hl2 hx
    refine sg_ks9_run G hd_ctK (sx_M_self hM) hl hl2 (by omega) (by omega) ?_
    intro lw1 x1 n0 n1 σ1 q0 q2 f1 f2 f3 hM1
    have hM2 := hd_tr hM hM1 (by decide +kernel)
    have en0 : n0.toInt = (i : Nat) := by omega
    have en1 : n1.toInt = ((97 + i : Nat) : Int) := by omega
    refine kr_iald G.1 rd_d_X12_sentence_168 (hM2.1 122 (.inr (.int, 135)) rfl) (hd_in en0 (by omega)) ?_
    rw [hd_clamp en0]
    refine kr_iast G.1 rd_d_X12_sentence_169 (hM2.1 120 (.inr (.int, 277)) rfl) (hd_in en1 (by omega)) ?_
    rw [hd_clamp en1]
    have hM3 : sx_M zK hd_T σe hd_mS 0 (σ1.1, am_up σ1.2.1 120 (97 + i) (σ1.2.1 122 i), σ1.2.2.1, σ1.2.2.2) := hd_up hd_CsK hM2 (hd_a120 i (by omega)) (Int32.le_toInt _) (Int32.toInt_le _) (by decide +kernel) ⟨rfl, rfl⟩ (fun c hc => by cases hc) (fun c hc => by cases hc)
    refine sg_ksa_run G hd_ctK (sx_M_self hM3) q0 q2 (by omega) ?_
    intro lw4 x4 σ4 p0 p2 f4 hM4
    have hM5 := hd_tr hM3 hM4 (by decide +kernel)
    refine ih (i + 1) σ4 lw4 x4 (by omega) hM5 ?_ ?_ ?_ ?_ p0 p2 (by omega)
    · rw [hM4.2.2.2.2.1 118 39 _ _ 398 rfl (sx_bit0 _)]
      show (am_up σ1.2.1 120 (97 + i) (σ1.2.1 122 i) 118 39).toInt = _
      rw [am_up_o _ _ (by decide), hM1.2.2.2.2.1 118 39 _ _ 398 rfl (sx_bit0 _)]
      exact h39
    · rw [hM4.2.2.2.2.1 118 40 _ _ 399 rfl (sx_bit0 _)]
      show (am_up σ1.2.1 120 (97 + i) (σ1.2.1 122 i) 118 40).toInt = _
      rw [am_up_o _ _ (by decide), hM1.2.2.2.2.1 118 40 _ _ 399 rfl (sx_bit0 _)]
      exact h40
    · rw [hM4.2.2.2.2.1 118 2 _ _ 361 rfl (sx_bit0 _)]
      show am_up σ1.2.1 120 (97 + i) (σ1.2.1 122 i) 118 2 = _
      rw [am_up_o _ _ (by decide), hM1.2.2.2.2.1 118 2 _ _ 361 rfl (sx_bit0 _)]
      exact h2
    · rw [hM4.2.2.2.2.1 118 13 _ _ 372 rfl (sx_bit0 _)]
      show am_up σ1.2.1 120 (97 + i) (σ1.2.1 122 i) 118 13 = _
      rw [am_up_o _ _ (by decide), hM1.2.2.2.2.1 118 13 _ _ 372 rfl (sx_bit0 _)]
      exact h13
def sn_ans (r : Int32) (σ' : am_S) : (Nat × Nat) ⊕ Nat → Prop
  | .inl q => r.toInt = -1 - (q.2 : Int) ∧ (σ'.2.1 118 13).toInt = q.1
  | .inr m => r.toInt = m ∧ (σ'.2.1 118 13).toInt = 0
def sn_w (w : Bool) : Nat := if w = true then 1 else 0
theorem sn_loop (G : sx_G0 g L xs zK hd_T ex_mt) {σe : am_S} {b : Nat → Nat} {n : Nat} (hb : ∀ k, b k ≤ 255) {S : sn_X} {post : Option (Option Value) → am_S → Prop} (k : ∀ (r : Int32) (σ' : am_S) (x : (Nat × Nat) ⊕ Nat), sn_go b n S (.inl x) → sn_ans r σ' x → sx_M zK hd_T σe hd_mS 0 σ' → σ'.2.1 118 2 = 0 → post (some (some (.int r))) σ') : ∀ (m : Nat) (σ : am_S) (lw : List (Nat × Value)) (x : Int32) (w : Bool) (F : List Bool) (o : Nat) (t : rd_K) (c tt : Nat), (21 - o) * 200 + 2 * F.length + sn_w w < m → sx_M zK hd_T σe hd_mS 0 σ → rd_X σ b n 200 → rd_N σ b t → sn_tk b n t → sn_J σ c tt (if w = true then 1 else 0) o → sn_sk (σ.2.1 134) tt = F → σ.2.1 118 2 = 0 → σ.2.1 118 13 = 0 → sn_go b n S (.inr (w, F, o, t)) → (0, Value.ref 118) ∈ lw → (1, Value.int x) ∈ lw → x.toInt = 1 → am_K g 30 tX12_sentence.1 0 0 48 lw [] σ post := by
  intro m
  induction m with
  | zero => intro σ lw x w F o t c tt hm; omega
  | succ m ih =>
    intro σ lw x w F o t c tt hm hM X N hk J hF h2 h13 hgo hl hl1 hx
    have ht : rd_wok b t := by
      obtain ⟨p, -, e⟩ := hk
      rw [e]
      exact rd_tok_ok
    have n9 := X.2.2.2.1
    have o9 := sn_one_in (o := o) (F := F) n9 hk
    have b9 := sn_beh_in (o := o) n9 hk (sn_dn F)
    have t9 := sn_tk_at n9 hk
    have hFl : F.length ≤ tt := by rw [← hF]; exact sn_sk_le _ _
    have k9 : (0 : Int) ≤ (σ.2.1 118 9).toInt ∧ (σ.2.1 118 9).toInt ≤ (4 : Int) := hM.2.2.1 118 9 _ _ 368 rfl
    have n1 := N.1
    have n2 := N.2.1
    have j5 := J.2.2.2.2.1
    cases w with
    | false =>
      have j3 : (σ.2.1 118 43).toInt = ((0 : Nat) : Int) := J.2.2.1
      have j5' : c + tt + 0 ≤ 2 * o := j5.2.2
      refine sg_ks3c_run G hd_ctK (sx_M_self hM) hl hl1 (by omega) (by omega) ?_
      intro lw1 x1 σ1 q0 q1 f1 hM1
      have H1 := hd_tr hM hM1 (by decide +kernel)
      have e1 : ∀ j, j < tt → σ1.2.1 134 j = σ.2.1 134 j := fun j hj => sn_fr hM1 (sx_bit0 _) (by omega)
      refine rd_call G (T2 := tX12_operand) rfl rd_d_X12_sentence_119 rd_k_X12_sentence_119 rfl (H1.1 118 (.inl 12) rfl) (as := []) (st := []) rfl (Nat.le_of_ble_eq_true rfl) rfl (Nat.le_of_ble_eq_true rfl) (d1 := 20) (by decide) (post1 := fun r σ' => ∃ y : Int32, r = some (some (.int y)) ∧ sx_M zK hd_T σ1 sn_mA 0 σ' ∧ ((∃ kd at', sn_one b n F o t = .inl (.inl (kd, at')) ∧ y.toInt = 0 ∧ (σ'.2.1 118 13).toInt = (kd : Nat) ∧ (σ'.2.1 118 14).toInt = (at' : Nat)) ∨ (∃ w' F' t' c' tt', sn_one b n F o t = .inr (w', F', o + 1, t') ∧ y.toInt = 1 ∧ rd_X σ' b n 200 ∧ rd_N σ' b t' ∧ rd_wok b t' ∧ sn_J σ' c' tt' (if w' = true then 1 else 0) (o + 1) ∧ sn_sk (σ'.2.1 134) tt' = F' ∧ sx_M zK hd_T σ1 sn_mV 0 σ'))) (fun _ h => by obtain ⟨y, h, -⟩ := h; cases h) (sn_oper G (sx_M_self H1) hb (sn_Xm X hM1 (by decide +kernel)) (rd_N0 N hM1 (sx_bit0 _) (sx_bit0 _) (sx_bit0 _) (sx_bit0 _) (sx_bit0 _)) ht (sn_Jm J hM1 (by decide +kernel)) ((sn_sk_c tt e1).trans hF) (by simp [lv_args, Value.category]) (fun r σ' kd at' a1 a2 a3 a4 a5 => ⟨r, rfl, a3, Or.inl ⟨kd, at', a1, a2, a4, a5⟩⟩) (fun r σ' w' F' t' c' tt' a1 a2 a3 a4 a5 a6 a7 a8 => ⟨r, rfl, sx_M_mask (by decide +kernel) a3, Or.inr ⟨w', F', t', c', tt', a1, a2, a4, a5, a6, a7, a8, a3⟩⟩)) ?_
      intro v σ2 ⟨y, hv, hM2, hy⟩
      cases hv
      have H2 := hd_tr H1 hM2 (by decide +kernel)
      have z2 : σ2.2.1 118 2 = 0 := (hM2.2.2.2.2.1 118 2 _ _ 361 rfl (by decide +kernel)).trans ((hM1.2.2.2.2.1 118 2 _ _ 361 rfl (sx_bit0 _)).trans h2)
      rcases hy with ⟨kd, at', a1, a2, a3, a4⟩ | ⟨w', F', t', c', tt', a1, a2, a3, a4, a5, a6, a7, aB⟩
      · rw [a1] at o9
        have o9 : at' ≤ 940 := o9
        refine sg_ks7a_run G hd_ctK (sx_M_self H2) q0 q1 (by omega) (by omega) (by omega) ?_
        intro r σ3 f3 hM3
        refine k r σ3 (.inl (kd, at')) (sn_go_t hgo (sn_go_1 a1)) ⟨by show r.toInt = -1 - (at' : Int); omega, ?_⟩ (hd_tr H2 hM3 (by decide +kernel)) ((hM3.2.2.2.2.1 118 2 _ _ 361 rfl (sx_bit0 _)).trans z2)
        rw [hM3.2.2.2.2.1 118 13 _ _ 372 rfl (sx_bit0 _)]
        exact a3
      · refine sg_ks7b_run G hd_ctK (sx_M_self H2) q0 q1 (by omega) (by omega) ?_
        intro lw3 x3 σ3 p0 p1 f3 hM3
        have e3 : ∀ j, j < tt' → σ3.2.1 134 j = σ2.2.1 134 j := fun j hj => sn_fr hM3 (sx_bit0 _) (by have := a6.2.2.2.2.1; omega)
        have lF' : F'.length ≤ tt' := by rw [← a7]; exact sn_sk_le _ _
        have b6 := a6.2.2.2.2.1
        have wl : sn_w w' ≤ 1 := by unfold sn_w; split <;> decide
        rw [a1] at o9
        refine ih σ3 lw3 x3 w' F' (o + 1) t' c' tt' (by omega) (hd_tr H2 hM3 (by decide +kernel)) (sn_Xm a3 hM3 (by decide +kernel)) (rd_N0 a4 hM3 (sx_bit0 _) (sx_bit0 _) (sx_bit0 _) (sx_bit0 _) (sx_bit0 _)) o9 (sn_Jm a6 hM3 (by decide +kernel)) ((sn_sk_c tt' e3).trans a7) ((hM3.2.2.2.2.1 118 2 _ _ 361 rfl (sx_bit0 _)).trans z2) ((hM3.2.2.2.2.1 118 13 _ _ 372 rfl (sx_bit0 _)).trans ((aB.2.2.2.2.1 118 13 _ _ 372 rfl (by decide +kernel)).trans ((hM1.2.2.2.2.1 118 13 _ _ 372 rfl (sx_bit0 _)).trans h13))) (sn_go_t hgo (sn_go_1 a1)) p0 p1 (by omega)
    | true =>
      have J : sn_J σ c tt 1 o := J
      have j3 : (σ.2.1 118 43).toInt = ((1 : Nat) : Int) := J.2.2.1
      have j5' : c + tt + 1 ≤ 2 * o := j5.2.2
      by_cases t0 : t.1 = 0
      · refine sg_ks3a_run G hd_ctK (sx_M_self hM) hl hl1 (by omega) (by omega) (by omega) ?_
        intro lw1 x1 σ1 q0 q1 f1 hM1
        have H1 := hd_tr hM hM1 (by decide +kernel)
        have e1 : ∀ j, j < tt → σ1.2.1 134 j = σ.2.1 134 j := fun j hj => sn_fr hM1 (sx_bit0 _) (by omega)
        refine sn_notsc G (by decide) (sx_M_self H1) (sn_Jm J hM1 (by decide +kernel)) ((sn_sk_c tt e1).trans hF) rfl rd_d_X12_sentence_67 rd_k_X12_sentence_67 ?_
        intro σ2 c2 t2 hM2 J2 hF2 top2
        have H2 := hd_tr H1 hM2 (by decide +kernel)
        refine sg_ks4_run G hd_ctK (sx_M_self H2) q0 q1 ?_
        intro lw3 x3 σ3 p0 f3 hM3
        have H3 := hd_tr H2 hM3 (by decide +kernel)
        have ex : x3 = 22 := Int32.toInt_inj.mp (by show x3.toInt = 22; omega)
        have e3 : ∀ j, j < t2 → σ3.2.1 134 j = σ2.2.1 134 j := fun j hj => sn_fr hM3 (sx_bit0 _) (by have := J2.2.2.2.2.1; omega)
        refine sn_joinc G (by decide) (sx_M_self H3) (sn_Jm J2 hM3 (by decide +kernel)) ((sn_sk_c t2 e3).trans hF2) (fun j hj => by rw [e3 j (by omega)]; exact top2 j hj) (Or.inr ex) rfl rd_d_X12_sentence_73 rd_k_X12_sentence_73 ?_
        intro σ4 c4 t4 hM4 J4 hF4 top4 h23
        have H4 := hd_tr H3 hM4 (by decide +kernel)
        have N4 := rd_N0 (rd_N0 (rd_N0 (rd_N0 N hM1 (sx_bit0 _) (sx_bit0 _) (sx_bit0 _) (sx_bit0 _) (sx_bit0 _)) hM2 (by decide +kernel) (by decide +kernel) (by decide +kernel) (by decide +kernel) (by decide +kernel)) hM3 (sx_bit0 _) (sx_bit0 _) (sx_bit0 _) (sx_bit0 _) (sx_bit0 _)) hM4 (by decide +kernel) (by decide +kernel) (by decide +kernel) (by decide +kernel) (by decide +kernel)
        have z4 : σ4.2.1 118 2 = 0 := (hM4.2.2.2.2.1 118 2 _ _ 361 rfl (by decide +kernel)).trans ((hM3.2.2.2.2.1 118 2 _ _ 361 rfl (sx_bit0 _)).trans ((hM2.2.2.2.2.1 118 2 _ _ 361 rfl (by decide +kernel)).trans ((hM1.2.2.2.2.1 118 2 _ _ 361 rfl (sx_bit0 _)).trans h2)))
        have y4 : σ4.2.1 118 13 = 0 := (hM4.2.2.2.2.1 118 13 _ _ 372 rfl (by decide +kernel)).trans ((hM3.2.2.2.2.1 118 13 _ _ 372 rfl (sx_bit0 _)).trans ((hM2.2.2.2.2.1 118 13 _ _ 372 rfl (by decide +kernel)).trans ((hM1.2.2.2.2.1 118 13 _ _ 372 rfl (sx_bit0 _)).trans h13)))
        have m2 := N4.2.1
        have ft := J4.2.1
        have j45 := J4.2.2.2.2.1
        have h89 : ¬ (sn_isk b 8 t = true ∨ sn_isk b 9 t = true) := fun h => by
          rcases h with h | h
          · have := (sn_isk1 h).1; omega
          · have := (sn_isk1 h).1; omega
        have hs : ¬ rd_sgf t 41 = 0 := fun h => by have := (sn_sg.mp h).1; omega
        cases t4 with
        | succ j =>
          have top : σ4.2.1 134 j = 23 := h23 ex j rfl
          have hsk : sn_sk (σ4.2.1 134) (j + 1) = if σ4.2.1 134 j = 20 then true :: sn_sk (σ4.2.1 134) j else if σ4.2.1 134 j = 23 then false :: sn_sk (σ4.2.1 134) j else sn_sk (σ4.2.1 134) j := rfl
          rw [if_neg (by rw [top]; decide), if_pos top] at hsk
          have eF : sn_dn F = false :: sn_sk (σ4.2.1 134) j := hF4.symm.trans hsk
          refine sg_ks5a_run G hd_ctK (sx_M_self H4) p0 (by omega) (by omega) ?_
          intro r σ5 f5 f6 hM5
          exact k r σ5 (.inl (1, t.2.1)) (sn_go_t hgo (sn_go_t (sn_dn_go b n o t F) (sn_go_1 (show sn_beh b n (sn_dn F) o t = _ from sn_bh3 h89 (sn_dn_nt F) (fun q => by rw [q] at eF; cases eF) (fun q => absurd q hs))))) ⟨by show r.toInt = -1 - (t.2.1 : Int); omega, by show (σ5.2.1 118 13).toInt = ((1 : Nat) : Int); omega⟩ (hd_tr H4 hM5 (by decide +kernel)) ((hM5.2.2.2.2.1 118 2 _ _ 361 rfl (by decide +kernel)).trans z4)
        | zero =>
          have eF : sn_dn F = [] := hF4.symm
          refine sg_ks5b_run G hd_ctK (sx_M_self H4) p0 (by omega) ?_
          intro lw5 a0 a1 σ5 s0 f5 f6 hM5
          have H5 := hd_tr H4 hM5 (by decide +kernel)
          have J5 := sn_Jm J4 hM5 (by decide +kernel)
          have i1 := J5.1
          have i4 := J5.2.2.2.1
          have en1 : a1.toInt = ((96 : Nat) : Int) := by omega
          have c40 := J4.1
          refine kr_iast G.1 rd_d_X12_sentence_142 (H5.1 120 (.inr (.int, 277)) rfl) (hd_in en1 (by omega)) ?_
          rw [hd_clamp en1]
          have H6 : sx_M zK hd_T σe hd_mS 0 (σ5.1, am_up σ5.2.1 120 96 a0, σ5.2.2.1, σ5.2.2.2) := hd_up (lo := 0) (hi := 40) (u := 428) hd_CsK H5 rfl (by omega) (by omega) (by decide +kernel) ⟨rfl, rfl⟩ (fun c hc => by cases hc) (fun c hc => by cases hc)
          refine sg_ks8_run G hd_ctK (sx_M_self H6) s0 ?_
          intro lw7 x7 σ7 w0 w2 f7 hM7
          have H7 := hd_tr H6 hM7 (by decide +kernel)
          refine sn_copy G (c := c4) (o := o) (by omega) (fun r σ' a1 a2 a3 a13 => k r σ' (.inr o) (sn_go_t hgo (sn_go_t (sn_dn_go b n o t F) (sn_go_1 (show sn_beh b n (sn_dn F) o t = _ from by rw [eF, sn_beh_n, if_neg h89, if_pos t0])))) ⟨a1, by rw [a13]; rfl⟩ a2 a3) (3 * c4) 0 σ7 lw7 x7 (by omega) H7 ?_ ?_ ?_ ?_ w0 w2 (by omega)
          · rw [hM7.2.2.2.2.1 118 39 _ _ 398 rfl (sx_bit0 _)]
            show (am_up σ5.2.1 120 96 a0 118 39).toInt = _
            rw [am_up_o _ _ (by decide)]
            exact i1
          · rw [hM7.2.2.2.2.1 118 40 _ _ 399 rfl (sx_bit0 _)]
            show (am_up σ5.2.1 120 96 a0 118 40).toInt = _
            rw [am_up_o _ _ (by decide)]
            exact i4
          · rw [hM7.2.2.2.2.1 118 2 _ _ 361 rfl (sx_bit0 _)]
            show am_up σ5.2.1 120 96 a0 118 2 = _
            rw [am_up_o _ _ (by decide), hM5.2.2.2.2.1 118 2 _ _ 361 rfl (sx_bit0 _)]
            exact z4
          · rw [hM7.2.2.2.2.1 118 13 _ _ 372 rfl (sx_bit0 _)]
            show am_up σ5.2.1 120 96 a0 118 13 = _
            rw [am_up_o _ _ (by decide), hM5.2.2.2.2.1 118 13 _ _ 372 rfl (sx_bit0 _)]
            exact y4
      · refine sg_ks3b_run G hd_ctK (sx_M_self hM) hl hl1 (by omega) (by omega) (by omega) ?_
        intro lw1 x1 σ1 q0 q1 f1 hM1
        have H1 := hd_tr hM hM1 (by decide +kernel)
        have e1 : ∀ j, j < tt → σ1.2.1 134 j = σ.2.1 134 j := fun j hj => sn_fr hM1 (sx_bit0 _) (by omega)
        refine rd_call G (T2 := tX12_behind) rfl rd_d_X12_sentence_109 rd_k_X12_sentence_109 rfl (H1.1 118 (.inl 12) rfl) (as := []) (st := []) rfl (Nat.le_of_ble_eq_true rfl) rfl (Nat.le_of_ble_eq_true rfl) (d1 := 25) (by decide) (post1 := fun r σ' => ∃ y : Int32, r = some (some (.int y)) ∧ sx_M zK hd_T σ1 sn_mA 0 σ' ∧ ((∃ kd at', sn_beh b n (sn_dn F) o t = .inl (.inl (kd, at')) ∧ y.toInt = 0 ∧ (σ'.2.1 118 13).toInt = (kd : Nat) ∧ (σ'.2.1 118 14).toInt = (at' : Nat)) ∨ (∃ w' F' t' c' tt', sn_beh b n (sn_dn F) o t = .inr (w', F', o, t') ∧ (w' = false ∧ F'.length ≤ F.length ∨ F'.length + 1 ≤ F.length) ∧ y.toInt = 1 ∧ rd_X σ' b n 200 ∧ rd_N σ' b t' ∧ rd_wok b t' ∧ sn_J σ' c' tt' (if w' = true then 1 else 0) o ∧ sn_sk (σ'.2.1 134) tt' = F' ∧ sx_M zK hd_T σ1 sn_mV 0 σ'))) (fun _ h => by obtain ⟨y, h, -⟩ := h; cases h) (sn_behd G (sx_M_self H1) hb (sn_Xm X hM1 (by decide +kernel)) (rd_N0 N hM1 (sx_bit0 _) (sx_bit0 _) (sx_bit0 _) (sx_bit0 _) (sx_bit0 _)) ht t0 (sn_Jm J hM1 (by decide +kernel)) ((sn_sk_c tt e1).trans hF) (by simp [lv_args, Value.category]) (fun r σ' kd at' a1 a2 a3 a4 a5 => ⟨r, rfl, a3, Or.inl ⟨kd, at', a1, a2, a4, a5⟩⟩) (fun r σ' w' F' t' c' tt' a1 a0 a2 a3 a4 a5 a6 a7 a8 => ⟨r, rfl, sx_M_mask (by decide +kernel) a3, Or.inr ⟨w', F', t', c', tt', a1, a0, a2, a4, a5, a6, a7, a8, a3⟩⟩)) ?_
        intro v σ2 ⟨y, hv, hM2, hy⟩
        cases hv
        have H2 := hd_tr H1 hM2 (by decide +kernel)
        have z2 : σ2.2.1 118 2 = 0 := (hM2.2.2.2.2.1 118 2 _ _ 361 rfl (by decide +kernel)).trans ((hM1.2.2.2.2.1 118 2 _ _ 361 rfl (sx_bit0 _)).trans h2)
        rcases hy with ⟨kd, at', a1, a2, a3, a4⟩ | ⟨w', F', t', c', tt', a1, a0, a2, a3, a4, a5, a6, a7, aB⟩
        · rw [a1] at b9
          have b9 : at' ≤ 940 := b9
          refine sg_ks6a_run G hd_ctK (sx_M_self H2) q0 q1 (by omega) (by omega) (by omega) ?_
          intro r σ3 f3 hM3
          refine k r σ3 (.inl (kd, at')) (sn_go_t hgo (sn_go_t (sn_dn_go b n o t F) (sn_go_1 a1))) ⟨by show r.toInt = -1 - (at' : Int); omega, ?_⟩ (hd_tr H2 hM3 (by decide +kernel)) ((hM3.2.2.2.2.1 118 2 _ _ 361 rfl (sx_bit0 _)).trans z2)
          rw [hM3.2.2.2.2.1 118 13 _ _ 372 rfl (sx_bit0 _)]
          exact a3
        · refine sg_ks6b_run G hd_ctK (sx_M_self H2) q0 q1 (by omega) (by omega) ?_
          intro lw3 x3 σ3 p0 p1 f3 hM3
          have e3 : ∀ j, j < tt' → σ3.2.1 134 j = σ2.2.1 134 j := fun j hj => sn_fr hM3 (sx_bit0 _) (by have := a6.2.2.2.2.1; omega)
          have wl : sn_w w' ≤ 1 := by unfold sn_w; split <;> decide
          have w1 : sn_w true = 1 := rfl
          rw [a1] at b9
          refine ih σ3 lw3 x3 w' F' o t' c' tt' ?_ (hd_tr H2 hM3 (by decide +kernel)) (sn_Xm a3 hM3 (by decide +kernel)) (rd_N0 a4 hM3 (sx_bit0 _) (sx_bit0 _) (sx_bit0 _) (sx_bit0 _) (sx_bit0 _)) b9 (sn_Jm a6 hM3 (by decide +kernel)) ((sn_sk_c tt' e3).trans a7) ((hM3.2.2.2.2.1 118 2 _ _ 361 rfl (sx_bit0 _)).trans z2) ((hM3.2.2.2.2.1 118 13 _ _ 372 rfl (sx_bit0 _)).trans ((aB.2.2.2.2.1 118 13 _ _ 372 rfl (by decide +kernel)).trans ((hM1.2.2.2.2.1 118 13 _ _ 372 rfl (sx_bit0 _)).trans h13))) (sn_go_t hgo (sn_go_t (sn_dn_go b n o t F) (sn_go_1 a1))) p0 p1 (by omega)
          rcases a0 with ⟨q, q'⟩ | q
          · have w0 : sn_w w' = 0 := by rw [q]; rfl
            omega
          · omega
theorem sn_sent (G : sx_G0 g L xs zK hd_T ex_mt) {σ : am_S} (hM : sx_M zK hd_T σ 0 0 σ) {b : Nat → Nat} {n : Nat} (hb : ∀ k, b k ≤ 255) (h9 : ∀ k, k < 940 → rd_by (σ.2.1 119) k = b k) (hn : (σ.2.1 118 2).toInt = n) {post : Option (Option Value) → am_S → Prop} (k : ∀ (r : Int32) (σ' : am_S) (x : (Nat × Nat) ⊕ Nat), sn_go b n (.inr (false, [], 0, rd_tok b n 200 0)) (.inl x) → sn_ans r σ' x → sx_M zK hd_T σ hd_mS 0 σ' → σ'.2.1 118 2 = 0 → post (some (some (.int r))) σ') : am_K g 30 tX12_sentence.1 0 0 0 (lv_args 0 [.ref 118]) [] σ post := by
  have k2 : (0 : Int) ≤ (σ.2.1 118 2).toInt ∧ (σ.2.1 118 2).toInt ≤ (940 : Int) := hM.2.2.1 118 2 _ _ 361 rfl
  refine sg_ks1_run G hd_ctK hM (by simp [lv_args, Value.category]) ?_
  intro lw1 σ1 q0 f2 f3 f4 f5 f13 f39 f40 f41 f42 f43 hM1
  have H1 : sx_M zK hd_T σ hd_mS 0 σ1 := sx_M_mask (by decide +kernel) hM1
  have X1 : rd_X σ1 b n 200 := ⟨fun k hk => by
    rw [← h9 k hk]
    unfold rd_by
    rw [hM1.2.2.2.2.1 119 k _ _ 406 (rd_a119 hk) (by decide +kernel)], hd_nat (by omega) (by omega), hd_nat (by decide) (by show _ = ((200 : Nat) : Int); omega), by omega, by decide⟩
  refine rd_nxc G (d := 30) (by decide) (sx_M_self H1) X1 (p := 0) (by omega) rfl rd_d_X12_sentence_43 rd_k_X12_sentence_43 (by decide) ?_
  intro σ2 hM2 N2
  have H2 := hd_tr H1 hM2 (by decide +kernel)
  refine sg_ks2_run G hd_ctK (sx_M_self H2) q0 ?_
  intro lw3 x3 σ3 p0 p1 f6 hM3
  have H3 := hd_tr H2 hM3 (by decide +kernel)
  have M13 := hd_tr hM2 hM3 (by decide +kernel)
  have z : σ3.2.1 118 2 = 0 := (M13.2.2.2.2.1 118 2 _ _ 361 rfl (by decide +kernel)).trans (Int32.toInt_inj.mp (by show (σ1.2.1 118 2).toInt = 0; omega))
  have z13 : σ3.2.1 118 13 = 0 := (M13.2.2.2.2.1 118 13 _ _ 372 rfl (by decide +kernel)).trans (Int32.toInt_inj.mp (by show (σ1.2.1 118 13).toInt = 0; omega))
  refine sn_loop G hb k 5000 σ3 lw3 x3 false [] 0 (rd_tok b n 200 0) 0 0 (by decide) H3 (sn_Xm X1 M13 (by decide +kernel)) (rd_N0 N2 hM3 (sx_bit0 _) (sx_bit0 _) (sx_bit0 _) (sx_bit0 _) (sx_bit0 _)) ⟨0, Nat.zero_le _, rfl⟩ ⟨?_, ?_, ?_, ?_, ⟨by decide, by decide, by decide⟩, ?_, ⟨fun j hj => absurd hj (Nat.not_lt_zero j), fun j hj => absurd hj (Nat.not_lt_zero _)⟩⟩ rfl z z13 (sn_go_r _) p0 p1 (by omega)
  · rw [M13.2.2.2.2.1 118 39 _ _ 398 rfl (by decide +kernel)]; omega
  · rw [M13.2.2.2.2.1 118 41 _ _ 400 rfl (by decide +kernel)]; omega
  · rw [M13.2.2.2.2.1 118 43 _ _ 402 rfl (by decide +kernel)]; show _ = ((0 : Nat) : Int); omega
  · rw [M13.2.2.2.2.1 118 40 _ _ 399 rfl (by decide +kernel)]; omega
  · rw [M13.2.2.2.2.1 118 42 _ _ 401 rfl (by decide +kernel)]; show _ = ((0 + 1 : Nat) : Int); omega
end SR6
