/-! calls and ends of methods -/
/-- a method's words -/
theorem ex_mok_S {mt : Nat → Option ex_T} {T : ex_T} (h : ex_tok mt T = true) {n bc bs ci p1 p2 p3 p4 : Nat} (hm : T.2.1 = [0, n, bc, bs, ci, p1, p2, p3, p4]) : (T.1.2.2.2.2 = [] → am_MO T.1 n) ∧ (T.1.2.2.2.2 ≠ [] → am_MW T.1 n) ∧ Cond.static T.1.1 ∈ lw_tbl := by
  unfold ex_tok at h
  rw [Bool.and_eq_true] at h
  have h1 := h.1
  unfold ex_mok at h1
  rw [hm] at h1
  simp only [Bool.and_eq_true, decide_eq_true_eq] at h1
  obtain ⟨a1, a2, a3, a4, a5, a6, a7⟩ := h1
  refine ⟨fun hh => ?_, fun hh => ?_, ex_mem_ok a7⟩
  · rw [hh] at a2
    exact ⟨a1, hh, ex_memC_ok a2, ex_mem_ok a3, a4, a5, a6⟩
  · split at a2
    · rename_i hq
      exact absurd hq hh
    · exact ⟨a1, ex_memC_ok a2, ex_mem_ok a3, a4, a5, a6⟩
theorem ex_mok_V {mt : Nat → Option ex_T} {T : ex_T} (h : ex_tok mt T = true) {n bc bs ci p1 p2 p3 p4 : Nat} (hm : T.2.1 = [1, n, bc, bs, ci, p1, p2, p3, p4]) : am_MO T.1 n ∧ Cond.instanceMethod T.1.1 ∈ lw_tbl ∧ Cond.selects T.1.1.cls T.1.1 T.1.1 ∈ lw_tbl ∧ ∃ (U : u_T) (N : Nat), vwCl[ci]? = some (T.1.1.cls, U, N) := by
  unfold ex_tok at h
  rw [Bool.and_eq_true] at h
  have h1 := h.1
  unfold ex_mok at h1
  rw [hm] at h1
  simp only [Bool.and_eq_true, decide_eq_true_eq] at h1
  obtain ⟨a1, a2, a3, a4, a5, a6, a7, a8, a9, hh⟩ := h1
  rw [hh] at a2
  refine ⟨⟨a1, hh, ex_memC_ok a2, ex_mem_ok a3, a4, a5, a6⟩, ex_mem_ok a7, ex_mem_ok a8, ?_⟩
  split at a9
  · rename_i q hq
    have e := of_decide_eq_true a9
    refine ⟨q.2.1, q.2.2, ?_⟩
    rw [hq, ← e]
  · cases a9
theorem ex_mok_I {mt : Nat → Option ex_T} {T : ex_T} (h : ex_tok mt T = true) {n bc bs ci p1 p2 p3 p4 : Nat} (hm : T.2.1 = [2, n, bc, bs, ci, p1, p2, p3, p4]) : am_MO T.1 n ∧ Cond.instanceMethod T.1.1 ∈ lw_tbl ∧ T.1.1.name = "<init>" ∧ T.1.2.2.2.1 = none := by
  unfold ex_tok at h
  rw [Bool.and_eq_true] at h
  have h1 := h.1
  unfold ex_mok at h1
  rw [hm] at h1
  simp only [Bool.and_eq_true, decide_eq_true_eq] at h1
  obtain ⟨a1, a2, a3, a4, a5, a6, a7, a8, a9, hh⟩ := h1
  rw [hh] at a2
  exact ⟨⟨a1, hh, ex_memC_ok a2, ex_mem_ok a3, a4, a5, a6⟩, ex_mem_ok a7, a8, a9⟩
section KZ
variable {g : am_C} {ρ : Nat → Int32} {mt : Nat → Option ex_T} {K : ex_K} {Q : List ex_Fr → Option (Option Value) → am_S → Prop} {T T2 : ex_T} {cd : List ex_E} {pc nx d mc ms bc bs : Nat} {lv : ex_L} {st as rest : List ex_V} {fs : List ex_Fr} {me : ex_Me} {pa : ex_Pa} {σ : am_S}
theorem ok_enter (C : ex_C g ρ mt K Q) (ok2 : ex_tok mt T2 = true) (hp : ex_P ρ pa) (hr : ex_R ρ me σ) (h : ex_enter K T cd nx d mc ms lv fs me pa T2 bc bs as rest = true) : ∃ d1 mc1 ms1, d1 + 1 ≤ d ∧ mc = bc + mc1 ∧ ms = bs + ms1 ∧ (((rest.map (ex_ev ρ)).map fun v => v.category).sum ≤ 8) ∧ (lg_sl (as.map (ex_ev ρ))).length ≤ T2.1.2.2.1 ∧ am_K g d1 T2.1 bc bs 0 (lv_args 0 (as.map (ex_ev ρ))) [] σ (Q ((T, cd, nx, d, mc1, ms1, lv, rest) :: fs)) := by
  unfold ex_enter at h
  cases hb : ((ex_cats rest).ble 8 && (ex_cats as).ble T2.1.2.2.1 && bc.ble mc && bs.ble ms && Nat.ble 1 d) with
  | false => rw [hb] at h; cases h
  | true =>
    rw [hb] at h
    simp only [cond_true, ex_fN_eq] at h
    simp only [Bool.and_eq_true] at hb
    obtain ⟨⟨⟨⟨b1, b2⟩, b3⟩, b4⟩, b5⟩ := hb
    have c1 := ex_ble b1
    have c2 := ex_ble b2
    have c3 := ex_ble b3
    have c4 := ex_ble b4
    have c5 := ex_ble b5
    obtain ⟨l, e1, e2⟩ := ex_args_ok (ρ := ρ) h
    refine ⟨d - 1, mc - bc, ms - bs, by omega, by omega, by omega, by rw [ex_cats_ok]; exact c1, by rw [ex_sl_ok]; exact c2, ?_⟩
    rw [e1]
    exact ex_goK C e2 ⟨ok2, fun e he => by cases he⟩ hp hr
theorem ok_nt (C : ex_C g ρ mt K Q) {f : ex_Fr} (hh : f.1.1.2.2.2.2 = []) : ∀ σ', ¬ Q (f :: fs) none σ' := fun σ' q => (C.2.2.2.2.2.2.2.2 f fs σ' q).1 hh
theorem ok_kk (C : ex_C g ρ mt K Q) (ok : ex_okF mt T cd) : ∀ (v : Option Value) (σ' : am_S), Q ((T, cd, nx, d, mc, ms, lv, rest) :: fs) (some v) σ' → am_K g d T.1 mc ms nx (ex_lv ρ lv) (v.toList ++ rest.map (ex_ev ρ)) σ' (Q fs) := fun v σ' q => C.2.2.2.2.2.2.2.1 T cd nx d mc ms lv rest fs v σ' q ok
theorem ex_st_map {as rest : List ex_V} (h : st = as.reverse ++ rest) : st.map (ex_ev ρ) = (as.map (ex_ev ρ)).reverse ++ rest.map (ex_ev ρ) := by
  rw [h, List.map_append, List.map_reverse]
theorem ok_calls (C : ex_C g ρ mt K Q) (ok : ex_okF mt T cd) (hp : ex_P ρ pa) (hr : ex_R ρ me σ) {i mi2 p : Nat} (hd : decode T.1.2.1 pc = .ok (.invokestatic i, 3)) (hl : ex_lk mt T pc (.invokestatic i) [0, mi2, p] = true) (h : ex_calls K T cd (pc + 3) d mc ms lv st fs me pa mt mi2 = true) : am_K g d T.1 mc ms pc (ex_lv ρ lv) (st.map (ex_ev ρ)) σ (Q fs) := by
  unfold ex_calls at h
  split at h
  · rename_i T2 hT2
    unfold ex_lk at hl
    simp only [hT2] at hl
    rw [Bool.and_eq_true, decide_eq_true_eq] at hl
    obtain ⟨l1, l2⟩ := hl
    have ok2 := C.2.2.1 mi2 T2 hT2
    split at h
    · rename_i n bc bs ci p1 p2 p3 p4 hm
      obtain ⟨m1, m2, m3⟩ := ex_mok_S ok2 hm
      obtain ⟨as, rest, h1, h2, h3⟩ := ex_pop_ok h
      rw [List.append_nil] at h3
      obtain ⟨d1, mc1, ms1, e1, e2, e3, e4, e5, e6⟩ := ok_enter C ok2 hp hr h3
      rw [e2, e3]
      split at l2
      · rename_i hh
        exact kr_callS C.1 (m1 hh) m3 (ex_mlk_ok l2) hd (by rw [List.length_map]; exact h1) e5 (ex_st_map h2) e4 e1 (ok_nt C l1) e6 (ok_kk C ok)
      · rename_i hh
        exact kr_callSW C.1 (m2 hh) m3 (ex_mem_ok l2) hd (by rw [List.length_map]; exact h1) e5 (ex_st_map h2) e4 e1 (ok_nt C l1) e6 (ok_kk C ok)
    · cases h
  · cases h
theorem ok_callv (C : ex_C g ρ mt K Q) (ok : ex_okF mt T cd) (hp : ex_P ρ pa) (hr : ex_R ρ me σ) {i mi2 p : Nat} (hd : decode T.1.2.1 pc = .ok (.invokevirtual i, 3)) (hl : ex_lk mt T pc (.invokevirtual i) [0, mi2, p] = true) (h : ex_callv K T cd (pc + 3) d mc ms lv st fs me pa mt mi2 = true) : am_K g d T.1 mc ms pc (ex_lv ρ lv) (st.map (ex_ev ρ)) σ (Q fs) := by
  unfold ex_callv at h
  split at h
  · rename_i T2 hT2
    unfold ex_lk at hl
    simp only [hT2] at hl
    rw [Bool.and_eq_true, decide_eq_true_eq] at hl
    obtain ⟨l1, l2⟩ := hl
    have ok2 := C.2.2.1 mi2 T2 hT2
    split at h
    · rename_i n bc bs ci p1 p2 p3 p4 hm
      obtain ⟨m1, m2, m3, U, N, m4⟩ := ex_mok_V ok2 hm
      obtain ⟨as, rest, h1, h2, h3⟩ := ex_pop_ok h
      rw [List.append_nil] at h3
      split at h3
      · rename_i o rest'
        rw [Bool.and_eq_true] at h3
        obtain ⟨-, hs⟩ := ex_isO_ok hr h3.1
        obtain ⟨d1, mc1, ms1, e1, e2, e3, e4, e5, e6⟩ := ok_enter C ok2 hp hr h3.2
        rw [e2, e3]
        exact kr_callV C.1 m4 hs m1 m2 m3 (ex_mlk_ok l2) hd (as := as.map (ex_ev ρ)) (by rw [List.length_map]; exact h1) e5 (ex_st_map h2) e4 e1 (ok_nt C l1) e6 (ok_kk C ok)
      · cases h3
    · cases h
  · cases h
theorem ok_try (C : ex_C g ρ mt K Q) (ok : ex_okF mt T cd) (hp : ex_P ρ pa) (hr : ex_R ρ me σ) {i mi2 p li pck : Nat} (hd : decode T.1.2.1 pc = .ok (.invokevirtual i, 3)) (hl : ex_lk mt T pc (.invokevirtual i) [1, mi2, p, li, pck] = true) (h : ex_callv K T cd (pc + 3) d mc ms lv st fs me pa mt mi2 = true) : am_K g d T.1 mc ms pc (ex_lv ρ lv) (st.map (ex_ev ρ)) σ (Q fs) := by
  unfold ex_callv at h
  split at h
  · rename_i T2 hT2
    unfold ex_lk at hl
    simp only [hT2] at hl
    split at hl
    · rename_i ta tb th tc hh
      simp only [Bool.and_eq_true, decide_eq_true_eq] at hl
      obtain ⟨l1, l2, l3, l4, l5, l6, l7, l8, l9, l10⟩ := hl
      have ok2 := C.2.2.1 mi2 T2 hT2
      split at h
      · rename_i n bc bs ci p1 p2 p3 p4 hm
        obtain ⟨m1, m2, m3, U, N, m4⟩ := ex_mok_V ok2 hm
        obtain ⟨as, rest, h1, h2, h3⟩ := ex_pop_ok h
        rw [List.append_nil] at h3
        split at h3
        · rename_i o rest'
          rw [Bool.and_eq_true] at h3
          obtain ⟨-, hs⟩ := ex_isO_ok hr h3.1
          obtain ⟨d1, mc1, ms1, e1, e2, e3, e4, e5, e6⟩ := ok_enter C ok2 hp hr h3.2
          rw [e2, e3]
          exact kr_try C.1 m4 hs m1 m2 m3 (ex_mem_ok l10) hd (as := as.map (ex_ev ρ)) (by rw [List.length_map]; exact h1) e5 (ex_st_map h2) e4 e1 l1 hh (by simpa [covers] using l2) l3 (ex_mem_ok l4) (of_decide_eq_true l5) (of_decide_eq_true l6) (of_decide_eq_true l7) l8 l9 e6 (ok_kk C ok) (fun σ' q => (C.2.2.2.2.2.2.2.2 _ fs σ' q).2)
        · cases h3
      · cases h
    · cases hl
  · cases h
theorem ok_calli (C : ex_C g ρ mt K Q) (ok : ex_okF mt T cd) (hp : ex_P ρ pa) (hr : ex_R ρ me σ) {i mi2 p : Nat} (hd : decode T.1.2.1 pc = .ok (.invokespecial i, 3)) (hl : ex_lk mt T pc (.invokespecial i) [0, mi2, p] = true) (h : ex_calli K T cd (pc + 3) d mc ms lv st fs me pa mt mi2 = true) : am_K g d T.1 mc ms pc (ex_lv ρ lv) (st.map (ex_ev ρ)) σ (Q fs) := by
  unfold ex_calli at h
  split at h
  · rename_i T2 hT2
    unfold ex_lk at hl
    simp only [hT2] at hl
    rw [Bool.and_eq_true, decide_eq_true_eq] at hl
    obtain ⟨l1, l2⟩ := hl
    have ok2 := C.2.2.1 mi2 T2 hT2
    split at h
    · rename_i n bc bs ci p1 p2 p3 p4 hm
      obtain ⟨m1, m2, m3, m4⟩ := ex_mok_I ok2 hm
      obtain ⟨as, rest, h1, h2, h3⟩ := ex_pop_ok h
      rw [List.append_nil] at h3
      split at h3
      · rename_i o rest'
        obtain ⟨d1, mc1, ms1, e1, e2, e3, e4, e5, e6⟩ := ok_enter C ok2 hp hr h3
        rw [e2, e3]
        exact kr_callI C.1 m1 m4 m3 m2 (ex_mlk_ok l2) hd (as := as.map (ex_ev ρ)) (by rw [List.length_map]; exact h1) e5 (ex_st_map h2) e4 e1 (ok_nt C l1) e6 (ok_kk C ok)
      · cases h3
    · cases h
  · cases h
theorem ok_back (C : ex_C g ρ mt K Q) (hp : ex_P ρ pa) (hr : ex_R ρ me σ) {v : Option ex_V} (h : ex_back K fs me pa v = true) : Q fs (some (v.map (ex_ev ρ))) σ := by
  unfold ex_back at h
  split at h
  · split at h
    · exact C.2.2.2.2.2.1 _ _ _ _ _ _ _ _ _ (some _) me pa σ h hp hr
    · exact C.2.2.2.2.2.1 _ _ _ _ _ _ _ _ _ none me pa σ h hp hr
  · cases h
theorem ok_iret (C : ex_C g ρ mt K Q) (hp : ex_P ρ pa) (hr : ex_R ρ me σ) {ty : FieldType} (hret : T.1.2.2.2.1 = some ty) (hd : decode T.1.2.1 pc = .ok (.ireturn, 1)) (h : ex_iret K st fs me pa ty = true) : am_K g d T.1 mc ms pc (ex_lv ρ lv) (st.map (ex_ev ρ)) σ (Q fs) := by
  unfold ex_iret at h
  split at h
  · rename_i e
    split at h
    · exact kr_ireturn hd hret rfl (ok_back C hp hr h)
    · rename_i hne
      obtain ⟨pa', e', hp', h1, h2⟩ := ex_opd_ok hp h
      split at h2
      · rename_i n
        rw [Bool.and_eq_true, decide_eq_true_eq] at h2
        obtain ⟨h3, h4⟩ := h2
        have h1' : Int32.ofInt n = ex_i ρ e := h1
        have hn : narrow ty (.int (ex_i ρ e)) = .int (ex_i ρ e) := by rw [← h1']; exact h3
        split at h4
        · have hn1 : n = 1 := of_decide_eq_true h4
          refine kr_ireturn hd hret hn ?_
          rw [← h1', hn1]
          exact C.2.2.2.2.1 σ
        · have := ok_back C hp' hr h4
          refine kr_ireturn hd hret hn ?_
          rw [← h1']
          exact this
      · cases h2
  · cases h
theorem ok_throw (C : ex_C g ρ mt K Q) (hp : ex_P ρ pa) (hr : ex_R ρ me σ) {i is wd p1 p2 : Nat} (hd : decode T.1.2.1 pc = .ok (.new i, 3)) (hl : ex_lk mt T pc (.new i) [1, is, wd, p1, p2] = true) (h : ex_throw K d mc ms st fs me pa = true) : am_K g d T.1 mc ms pc (ex_lv ρ lv) (st.map (ex_ev ρ)) σ (Q fs) := by
  obtain ⟨mn, mj, mS, ti, tj, tr⟩ := me
  unfold ex_throw at h
  simp only at h
  unfold ex_lk at hl
  simp only at hl
  rw [Bool.and_eq_true, Bool.and_eq_true, Bool.and_eq_true, Bool.and_eq_true, Bool.and_eq_true, Bool.and_eq_true, decide_eq_true_eq, decide_eq_true_eq, decide_eq_true_eq] at hl
  obtain ⟨l1, l2, l3, l4, l5, l6, l7⟩ := hl
  cases hb : ((ex_cats st).ble 8 && Nat.ble 6 d && Nat.ble 1 mc && Nat.ble 6 ms) with
  | false => rw [hb] at h; cases h
  | true =>
    rw [hb] at h
    simp only [Bool.and_eq_true] at hb
    obtain ⟨⟨⟨b1, b2⟩, b3⟩, b4⟩ := hb
    have c1 := ex_ble b1
    have c2 := ex_ble b2
    have c3 := ex_ble b3
    have c4 := ex_ble b4
    simp only [cond_true] at h
    have hs : ∃ tx, Cond.stringRef RX11 is tx ∈ lw_tbl := by
      split at l6
      · rename_i o j tx hq
        simp only [Bool.and_eq_true, decide_eq_true_eq] at l6
        obtain ⟨rfl, rfl⟩ := l6
        exact ⟨tx, lw_at_mem hq⟩
      · cases l6
    obtain ⟨tx, hs⟩ := hs
    have hroom : ((st.map (ex_ev ρ)).map fun v => v.category).sum ≤ 8 := by rw [ex_cats_ok]; exact c1
    have hpost : ∀ J : List am_sh, (∀ x ∈ J, x = .inl 99) → Q fs none (σ.1 ++ J, σ.2) := by
      intro J _
      split at h
      · rename_i f T2 cd2 pc2 d2 mc2 ms2 lv2 st2 fs2
        split at h
        · cases h
        · rename_i hh
          refine C.2.2.2.2.2.2.1 f T2 cd2 pc2 d2 mc2 ms2 lv2 st2 fs2 _ pa _ hh h hp ?_
          refine ⟨fun z => (by cases z), fun o y ho hy => ?_, hr.2.2⟩
          have := hr.2.1 o y ho hy
          show (σ.1 ++ J)[o]? = some y
          rw [List.getElem?_append_left (List.getElem?_eq_some_iff.mp this).1]
          exact this
      · cases h
    rw [show mc = mc - 1 + 1 by omega, show ms = ms - 6 + 6 by omega]
    split at l7
    · simp only [Bool.and_eq_true] at l7
      exact kr_throwS C.1 l1 l2 l3 hd (of_decide_eq_true l4) (of_decide_eq_true l7.1) (of_decide_eq_true l7.2.1) (of_decide_eq_true l7.2.2) (ex_mem_ok l5) hs c2 hroom hpost
    · simp only [Bool.and_eq_true] at l7
      exact kr_throwSW C.1 l1 l2 l3 hd (of_decide_eq_true l4) (of_decide_eq_true l7.1) (of_decide_eq_true l7.2.1) (of_decide_eq_true l7.2.2) (ex_mem_ok l5) hs c2 hroom hpost
theorem ok_math (C : ex_C g ρ mt K Q) (ok : ex_okF mt T cd) (hp : ex_P ρ pa) (hr : ex_R ρ me σ) {i w p z : Nat} (hd : decode T.1.2.1 pc = .ok (.invokestatic i, 3)) (hl : ex_lk mt T pc (.invokestatic i) [1, w, p, z] = true) (h : ex_math K T cd (pc + 3) d mc ms lv st fs me pa w = true) : am_K g d T.1 mc ms pc (ex_lv ρ lv) (st.map (ex_ev ρ)) σ (Q fs) := by
  unfold ex_math at h
  cases hb : ((ex_cats st).ble 10 && Nat.ble 1 d) with
  | false => rw [hb] at h; cases h
  | true =>
    rw [hb] at h
    simp only [cond_true] at h
    simp only [Bool.and_eq_true] at hb
    have c1 := ex_ble hb.1
    have c2 := ex_ble hb.2
    split at h
    · split at h
      · rename_i y x st'
        have hroom : ((st'.map (ex_ev ρ)).map fun v => v.category).sum ≤ 8 := by
          rw [ex_cats_ok]
          have c3 : 1 + (1 + ex_cats st') ≤ 10 := c1
          omega
        obtain ⟨pa1, hp1, ⟨h1, h2⟩ | ⟨h1, h2⟩⟩ := ex_cmp_ok hp h
        · refine kr_mmax C.1 (ex_mem_ok hl) hd c2 hroom ?_
          rw [if_pos ((ex_rel_lt _ _).mp h1)]
          exact ex_goK C h2 ok hp1 hr
        · refine kr_mmax C.1 (ex_mem_ok hl) hd c2 hroom ?_
          rw [if_neg (fun q => h1 ((ex_rel_lt _ _).mpr q))]
          exact ex_goK C h2 ok hp1 hr
      · cases h
    · split at h
      · rename_i y x st'
        have hroom : ((st'.map (ex_ev ρ)).map fun v => v.category).sum ≤ 8 := by
          rw [ex_cats_ok]
          have c3 : 1 + (1 + ex_cats st') ≤ 10 := c1
          omega
        obtain ⟨pa1, hp1, ⟨h1, h2⟩ | ⟨h1, h2⟩⟩ := ex_cmp_ok hp h
        · refine kr_mmin C.1 (ex_mem_ok hl) hd c2 hroom ?_
          rw [if_pos ((ex_rel_lt _ _).mp h1)]
          exact ex_goK C h2 ok hp1 hr
        · refine kr_mmin C.1 (ex_mem_ok hl) hd c2 hroom ?_
          rw [if_neg (fun q => h1 ((ex_rel_lt _ _).mpr q))]
          exact ex_goK C h2 ok hp1 hr
      · cases h
    · rename_i w0 w1
      have hlk : Cond.methodLink T.1.1.cls i Lib.Math.abs.name ∈ lw_tbl := by
        match w, w0, w1, hl with
        | w + 2, _, _, hl => exact ex_mem_ok hl
      split at h
      · rename_i x st'
        rw [Bool.and_eq_true] at h
        have hroom : ((st'.map (ex_ev ρ)).map fun v => v.category).sum ≤ 8 := by
          rw [ex_cats_ok]
          exact ex_ble h.1
        obtain ⟨pa1, hp1, h9⟩ := ex_cmp_ok hp h.2
        have ez : ex_i ρ (.nest 0 .nil) = 0 := rfl
        rw [ez] at h9
        rcases h9 with ⟨h1, h2⟩ | ⟨h1, h2⟩
        · refine kr_mabs C.1 hlk hd c2 hroom ?_
          rw [if_pos ((ex_rel_ge _ _).mp h1)]
          exact ex_goK C h2 ok hp1 hr
        · refine kr_mabs C.1 hlk hd c2 hroom ?_
          rw [if_neg (fun q => h1 ((ex_rel_ge _ _).mpr q))]
          obtain ⟨e, e1, e2⟩ := ex_fold_ok (ρ := ρ) h2
          have e3 : ex_i ρ e = 0 - ex_i ρ x := e1
          rw [← e3]
          exact ex_goK C e2 ok hp1 hr
      · cases h
end KZ
