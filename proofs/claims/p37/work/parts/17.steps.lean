/-! each step of the executor is a row -/
theorem ex_rel_eq (x y : Int32) : ex_rel 0 x.toInt y.toInt ↔ x = y := Int32.toInt_inj
theorem ex_rel_ne (x y : Int32) : ex_rel 1 x.toInt y.toInt ↔ ¬ x = y := not_congr Int32.toInt_inj
theorem ex_rel_lt (x y : Int32) : ex_rel 2 x.toInt y.toInt ↔ x < y := Int32.lt_iff_toInt_lt.symm
theorem ex_rel_ge (x y : Int32) : ex_rel 3 x.toInt y.toInt ↔ y ≤ x := Int32.le_iff_toInt_le.symm
theorem ex_rel_gt (x y : Int32) : ex_rel 4 x.toInt y.toInt ↔ y < x := Int32.lt_iff_toInt_lt.symm
theorem ex_rel_le (x y : Int32) : ex_rel 5 x.toInt y.toInt ↔ x ≤ y := Int32.le_iff_toInt_le.symm
section KX
variable {g : am_C} {ρ : Nat → Int32} {mt : Nat → Option ex_T} {K : ex_K} {Q : List ex_Fr → Option (Option Value) → am_S → Prop} {T : ex_T} {cd : List ex_E} {pc nx d mc ms : Nat} {lv : ex_L} {st : List ex_V} {fs : List ex_Fr} {me : ex_Me} {pa : ex_Pa} {σ : am_S} {lw : List (Nat × Value)} {sw : List Value} {post : Option (Option Value) → am_S → Prop}
theorem kr_if {M : am_M} {x : Int32} {c : ClassFile.Cond} {off : Int} {tgt : Nat} (hd : decode M.2.1 pc = .ok (.ifCond c off, 3)) (ht : (pc : Int) + off = (tgt : Int)) (kt : ex_rel (ex_cc c) x.toInt (0 : Int32).toInt → am_K g d M mc ms tgt lw sw σ post) (kf : ¬ ex_rel (ex_cc c) x.toInt (0 : Int32).toInt → am_K g d M mc ms (pc + 3) lw sw σ post) : am_K g d M mc ms pc lw (.int x :: sw) σ post := by
  cases c with
  | eq => exact kr_if_eq hd ht (fun q => kt ((ex_rel_eq _ _).mpr q)) (fun q => kf (fun z => q ((ex_rel_eq _ _).mp z)))
  | ne => exact kr_if_ne hd ht (fun q => kt ((ex_rel_ne _ _).mpr q)) (fun q => kf (fun z => ((ex_rel_ne _ _).mp z) q))
  | lt => exact kr_if_lt hd ht (fun q => kt ((ex_rel_lt _ _).mpr q)) (fun q => kf (fun z => q ((ex_rel_lt _ _).mp z)))
  | ge => exact kr_if_ge hd ht (fun q => kt ((ex_rel_ge _ _).mpr q)) (fun q => kf (fun z => q ((ex_rel_ge _ _).mp z)))
  | gt => exact kr_if_gt hd ht (fun q => kt ((ex_rel_gt _ _).mpr q)) (fun q => kf (fun z => q ((ex_rel_gt _ _).mp z)))
  | le => exact kr_if_le hd ht (fun q => kt ((ex_rel_le _ _).mpr q)) (fun q => kf (fun z => q ((ex_rel_le _ _).mp z)))
theorem kr_icmp {M : am_M} {x y : Int32} {c : ClassFile.Cond} {off : Int} {tgt : Nat} (hd : decode M.2.1 pc = .ok (.if_icmp c off, 3)) (ht : (pc : Int) + off = (tgt : Int)) (kt : ex_rel (ex_cc c) x.toInt y.toInt → am_K g d M mc ms tgt lw sw σ post) (kf : ¬ ex_rel (ex_cc c) x.toInt y.toInt → am_K g d M mc ms (pc + 3) lw sw σ post) : am_K g d M mc ms pc lw (.int y :: .int x :: sw) σ post := by
  cases c with
  | eq => exact kr_icmp_eq hd ht (fun q => kt ((ex_rel_eq _ _).mpr q)) (fun q => kf (fun z => q ((ex_rel_eq _ _).mp z)))
  | ne => exact kr_icmp_ne hd ht (fun q => kt ((ex_rel_ne _ _).mpr q)) (fun q => kf (fun z => ((ex_rel_ne _ _).mp z) q))
  | lt => exact kr_icmp_lt hd ht (fun q => kt ((ex_rel_lt _ _).mpr q)) (fun q => kf (fun z => q ((ex_rel_lt _ _).mp z)))
  | ge => exact kr_icmp_ge hd ht (fun q => kt ((ex_rel_ge _ _).mpr q)) (fun q => kf (fun z => q ((ex_rel_ge _ _).mp z)))
  | gt => exact kr_icmp_gt hd ht (fun q => kt ((ex_rel_gt _ _).mpr q)) (fun q => kf (fun z => q ((ex_rel_gt _ _).mp z)))
  | le => exact kr_icmp_le hd ht (fun q => kt ((ex_rel_le _ _).mpr q)) (fun q => kf (fun z => q ((ex_rel_le _ _).mp z)))
theorem ex_goK (C : ex_C g ρ mt K Q) (h : K T cd pc d mc ms lv st fs me pa = true) (ok : ex_okF mt T cd) (hp : ex_P ρ pa) (hr : ex_R ρ me σ) : am_K g d T.1 mc ms pc (ex_lv ρ lv) (st.map (ex_ev ρ)) σ (Q fs) := C.2.2.2.1 T cd pc d mc ms lv st fs me pa σ h ok hp hr
theorem ex_ok0 {T : ex_T} {cd : List ex_E} (ok : ex_okF mt T cd) : ex_okF mt T [] := ⟨ok.1, fun e h => by cases h⟩
theorem ok_iload (C : ex_C g ρ mt K Q) (ok : ex_okF mt T cd) (hp : ex_P ρ pa) (hr : ex_R ρ me σ) {i : Nat} (row : ∀ (j : Nat) (x : Int32), (ex_lv ρ lv)[j]? = some (i, .int x) → am_K g d T.1 mc ms nx (ex_lv ρ lv) (.int x :: st.map (ex_ev ρ)) σ (Q fs) → am_K g d T.1 mc ms pc (ex_lv ρ lv) (st.map (ex_ev ρ)) σ (Q fs)) (h : ex_iload K T cd nx d mc ms lv st fs me pa i = true) : am_K g d T.1 mc ms pc (ex_lv ρ lv) (st.map (ex_ev ρ)) σ (Q fs) := by
  unfold ex_iload at h
  split at h
  · rename_i e he
    obtain ⟨j, hj⟩ := ex_fnd_ok he
    exact row j _ (ex_lv_at hj) (ex_goK C h ok hp hr)
  · cases h
theorem ok_aload (C : ex_C g ρ mt K Q) (ok : ex_okF mt T cd) (hp : ex_P ρ pa) (hr : ex_R ρ me σ) {i : Nat} (row : ∀ (j : Nat) (x : Nat), (ex_lv ρ lv)[j]? = some (i, .ref x) → am_K g d T.1 mc ms nx (ex_lv ρ lv) (.ref x :: st.map (ex_ev ρ)) σ (Q fs) → am_K g d T.1 mc ms pc (ex_lv ρ lv) (st.map (ex_ev ρ)) σ (Q fs)) (rowX : ∀ (j : Nat) (x : Nat), (ex_lv ρ lv)[j]? = some (i, .retAddr x) → am_K g d T.1 mc ms nx (ex_lv ρ lv) (.retAddr x :: st.map (ex_ev ρ)) σ (Q fs) → am_K g d T.1 mc ms pc (ex_lv ρ lv) (st.map (ex_ev ρ)) σ (Q fs)) (h : ex_aload K T cd nx d mc ms lv st fs me pa i = true) : am_K g d T.1 mc ms pc (ex_lv ρ lv) (st.map (ex_ev ρ)) σ (Q fs) := by
  unfold ex_aload at h
  split at h
  · rename_i e he
    obtain ⟨j, hj⟩ := ex_fnd_ok he
    exact row j _ (ex_lv_at hj) (ex_goK C h ok hp hr)
  · rename_i e he
    obtain ⟨j, hj⟩ := ex_fnd_ok he
    exact rowX j _ (ex_lv_at hj) (ex_goK C h ok hp hr)
  · cases h
theorem ok_istore (C : ex_C g ρ mt K Q) (ok : ex_okF mt T cd) (hp : ex_P ρ pa) (hr : ex_R ρ me σ) {i : Nat} (row : ∀ (x : Int32) (lv' : List (Nat × Value)) (sw : List Value), (i, Value.int x) :: (ex_lv ρ lv).filter (fun q => !(q.1 == i) && !(q.1 + 1 == i && q.2.category == 2)) = lv' → am_K g d T.1 mc ms nx lv' sw σ (Q fs) → am_K g d T.1 mc ms pc (ex_lv ρ lv) (.int x :: sw) σ (Q fs)) (h : ex_istore K T cd nx d mc ms lv st fs me pa i = true) : am_K g d T.1 mc ms pc (ex_lv ρ lv) (st.map (ex_ev ρ)) σ (Q fs) := by
  unfold ex_istore at h
  split at h
  · rename_i e st'
    obtain ⟨r, e1, e2⟩ := ex_fil_ok (ρ := ρ) h
    exact row _ _ _ rfl (by rw [e1]; exact ex_goK C e2 ok hp hr)
  · cases h
theorem ok_astore (C : ex_C g ρ mt K Q) (ok : ex_okF mt T cd) (hp : ex_P ρ pa) (hr : ex_R ρ me σ) {i : Nat} (row : ∀ (x : Nat) (lv' : List (Nat × Value)) (sw : List Value), (i, Value.ref x) :: (ex_lv ρ lv).filter (fun q => !(q.1 == i) && !(q.1 + 1 == i && q.2.category == 2)) = lv' → am_K g d T.1 mc ms nx lv' sw σ (Q fs) → am_K g d T.1 mc ms pc (ex_lv ρ lv) (.ref x :: sw) σ (Q fs)) (rowX : ∀ (x : Nat) (lv' : List (Nat × Value)) (sw : List Value), (i, Value.retAddr x) :: (ex_lv ρ lv).filter (fun q => !(q.1 == i) && !(q.1 + 1 == i && q.2.category == 2)) = lv' → am_K g d T.1 mc ms nx lv' sw σ (Q fs) → am_K g d T.1 mc ms pc (ex_lv ρ lv) (.retAddr x :: sw) σ (Q fs)) (h : ex_astore K T cd nx d mc ms lv st fs me pa i = true) : am_K g d T.1 mc ms pc (ex_lv ρ lv) (st.map (ex_ev ρ)) σ (Q fs) := by
  unfold ex_astore at h
  split at h
  · obtain ⟨r, e1, e2⟩ := ex_fil_ok (ρ := ρ) h
    exact row _ _ _ rfl (by rw [e1]; exact ex_goK C e2 ok hp hr)
  · obtain ⟨r, e1, e2⟩ := ex_fil_ok (ρ := ρ) h
    exact rowX _ _ _ rfl (by rw [e1]; exact ex_goK C e2 ok hp hr)
  · cases h
theorem ok_iinc (C : ex_C g ρ mt K Q) (ok : ex_okF mt T cd) (hp : ex_P ρ pa) (hr : ex_R ρ me σ) {i : Nat} {n : Int} (hn : i < T.1.2.2.1) (hd : decode T.1.2.1 pc = .ok (.iinc i n, 3)) (h : ex_iinc K T cd (pc + 3) d mc ms lv st fs me pa i n = true) : am_K g d T.1 mc ms pc (ex_lv ρ lv) (st.map (ex_ev ρ)) σ (Q fs) := by
  unfold ex_iinc at h
  split at h
  · rename_i e he
    obtain ⟨j, hj⟩ := ex_fnd_ok he
    obtain ⟨pa', e', hp', h1, h2⟩ := ex_opd_ok hp h
    obtain ⟨e2, h3, h4⟩ := ex_fold_ok (ρ := ρ) h2
    obtain ⟨r, h5, h6⟩ := ex_fil_ok (ρ := ρ) h4
    refine kr_iinc j hd (ex_lv_at hj) (v := ex_i ρ e2) ?_ hn rfl ?_
    · rw [h3, ← h1]; rfl
    · rw [h5]; exact ex_goK C h6 ok hp' hr
  · cases h
theorem ok_arith (C : ex_C g ρ mt K Q) (ok : ex_okF mt T cd) (hp : ex_P ρ pa) (hr : ex_R ρ me σ) {o : Nat} (row : ∀ (x y : Int32) (sw : List Value), am_K g d T.1 mc ms nx (ex_lv ρ lv) (.int (ex_bin o x y) :: sw) σ (Q fs) → am_K g d T.1 mc ms pc (ex_lv ρ lv) (.int y :: .int x :: sw) σ (Q fs)) (h : ex_arith K T cd nx d mc ms lv st fs me pa o = true) : am_K g d T.1 mc ms pc (ex_lv ρ lv) (st.map (ex_ev ρ)) σ (Q fs) := by
  unfold ex_arith at h
  split at h
  · obtain ⟨pa1, e1, hp1, h1, h2⟩ := ex_opd_ok hp h
    obtain ⟨pa2, e2, hp2, h3, h4⟩ := ex_opd_ok hp1 h2
    obtain ⟨e3, h5, h6⟩ := ex_fold_ok (ρ := ρ) h4
    refine row _ _ _ ?_
    rw [← h1, ← h3, ← h5]
    exact ex_goK C h6 ok hp2 hr
  · cases h
theorem ok_divi (C : ex_C g ρ mt K Q) (ok : ex_okF mt T cd) (hp : ex_P ρ pa) (hr : ex_R ρ me σ) {o : Nat} (row : ∀ (x y : Int32) (sw : List Value), ¬ y = 0 → am_K g d T.1 mc ms nx (ex_lv ρ lv) (.int (ex_bin o x y) :: sw) σ (Q fs) → am_K g d T.1 mc ms pc (ex_lv ρ lv) (.int y :: .int x :: sw) σ (Q fs)) (h : ex_divi K T cd nx d mc ms lv st fs me pa o = true) : am_K g d T.1 mc ms pc (ex_lv ρ lv) (st.map (ex_ev ρ)) σ (Q fs) := by
  unfold ex_divi at h
  split at h
  · rename_i n x st'
    by_cases hz : Int32.ofInt n = 0
    · rw [decide_eq_true hz] at h; cases h
    · rw [decide_eq_false hz] at h
      simp only [cond_false] at h
      obtain ⟨pa1, e1, hp1, h1, h2⟩ := ex_opd_ok hp h
      obtain ⟨e3, h5, h6⟩ := ex_fold_ok (ρ := ρ) h2
      refine row _ _ _ hz ?_
      rw [← h1]
      rw [← h5]
      exact ex_goK C h6 ok hp1 hr
  · cases h
theorem ok_un (C : ex_C g ρ mt K Q) (ok : ex_okF mt T cd) (hp : ex_P ρ pa) (hr : ex_R ρ me σ) {o : Nat} (row : ∀ (x : Int32) (sw : List Value), am_K g d T.1 mc ms nx (ex_lv ρ lv) (.int (ex_bin o x (Int32.ofInt 0)) :: sw) σ (Q fs) → am_K g d T.1 mc ms pc (ex_lv ρ lv) (.int x :: sw) σ (Q fs)) (h : ex_un K T cd nx d mc ms lv st fs me pa o = true) : am_K g d T.1 mc ms pc (ex_lv ρ lv) (st.map (ex_ev ρ)) σ (Q fs) := by
  unfold ex_un at h
  split at h
  · obtain ⟨pa1, e1, hp1, h1, h2⟩ := ex_opd_ok hp h
    obtain ⟨e3, h5, h6⟩ := ex_fold_ok (ρ := ρ) h2
    refine row _ _ ?_
    rw [← h1]
    have h7 : ex_i ρ e3 = ex_bin o (ex_i ρ e1) (Int32.ofInt 0) := h5
    rw [← h7]
    exact ex_goK C h6 ok hp1 hr
  · cases h
theorem ok_if (C : ex_C g ρ mt K Q) (ok : ex_okF mt T cd) (hp : ex_P ρ pa) (hr : ex_R ρ me σ) {c : ClassFile.Cond} {off : Int} {tgt : Nat} (hd : decode T.1.2.1 pc = .ok (.ifCond c off, 3)) (ht : (pc : Int) + off = (tgt : Int)) (h : ex_if K T cd (pc + 3) d mc ms lv st fs me pa (ex_cc c) tgt = true) : am_K g d T.1 mc ms pc (ex_lv ρ lv) (st.map (ex_ev ρ)) σ (Q fs) := by
  unfold ex_if at h
  split at h
  · obtain ⟨pa1, hp1, ⟨h1, h2⟩ | ⟨h1, h2⟩⟩ := ex_cmp_ok hp h
    · exact kr_if hd ht (fun _ => ex_goK C h2 (ex_ok0 ok) hp1 hr) (fun q => absurd h1 q)
    · exact kr_if hd ht (fun q => absurd q h1) (fun _ => ex_goK C h2 ok hp1 hr)
  · cases h
theorem ok_icmp (C : ex_C g ρ mt K Q) (ok : ex_okF mt T cd) (hp : ex_P ρ pa) (hr : ex_R ρ me σ) {c : ClassFile.Cond} {off : Int} {tgt : Nat} (hd : decode T.1.2.1 pc = .ok (.if_icmp c off, 3)) (ht : (pc : Int) + off = (tgt : Int)) (h : ex_icmp K T cd (pc + 3) d mc ms lv st fs me pa (ex_cc c) tgt = true) : am_K g d T.1 mc ms pc (ex_lv ρ lv) (st.map (ex_ev ρ)) σ (Q fs) := by
  unfold ex_icmp at h
  split at h
  · obtain ⟨pa0, e0, hp0, h0, h9⟩ := ex_opd_ok hp h
    obtain ⟨pa1, hp1, ⟨h1, h2⟩ | ⟨h1, h2⟩⟩ := ex_cmp_ok hp0 h9
    · rw [h0] at h1
      exact kr_icmp hd ht (fun _ => ex_goK C h2 (ex_ok0 ok) hp1 hr) (fun q => absurd h1 q)
    · rw [h0] at h1
      exact kr_icmp hd ht (fun q => absurd q h1) (fun _ => ex_goK C h2 ok hp1 hr)
  · cases h
theorem ok_jump (C : ex_C g ρ mt K Q) (ok : ex_okF mt T cd) (hp : ex_P ρ pa) (hr : ex_R ρ me σ) {off : Int} (h : ex_jump K T d mc ms lv fs me pc off st pa = true) : ∃ tgt : Nat, (pc : Int) + off = (tgt : Int) ∧ am_K g d T.1 mc ms tgt (ex_lv ρ lv) (st.map (ex_ev ρ)) σ (Q fs) := by
  unfold ex_jump at h
  split at h
  · rename_i t ht
    rw [ex_fN_eq] at h
    exact ⟨t, ht, ex_goK C h (ex_ok0 ok) hp hr⟩
  · cases h
theorem ex_nth_get {α : Type} {l : List α} {n : Nat} {a : α} (h : ex_nth l n = some a) : l[n]? = some a := by
  induction l generalizing n with
  | nil => cases h
  | cons b l ih =>
    cases n with
    | zero => exact h
    | succ m => exact ih h
theorem ok_table (C : ex_C g ρ mt K Q) (ok : ex_okF mt T cd) (hp : ex_P ρ pa) (hr : ex_R ρ me σ) {dflt lo hi : Int} {offs : Array Int} {len : Nat} (hd : decode T.1.2.1 pc = .ok (.tableswitch dflt lo hi offs, len)) (h : ex_table K T d mc ms lv st fs me pa pc dflt lo hi offs = true) : am_K g d T.1 mc ms pc (ex_lv ρ lv) (st.map (ex_ev ρ)) σ (Q fs) := by
  unfold ex_table at h
  split at h
  · obtain ⟨pa1, hp1, ⟨h1, h2⟩ | ⟨h1, h2⟩⟩ := ex_lt3_ok hp h
    · obtain ⟨t, ht, hk⟩ := ok_jump C ok hp1 hr h2
      exact kr_tableOut hd (Or.inl h1) ht hk
    · obtain ⟨pa2, hp2, ⟨h3, h4⟩ | ⟨h3, h4⟩⟩ := ex_lt3_ok hp1 h2
      · obtain ⟨pa3, v, hp3, h5, h6⟩ := ex_conc_ok hp2 h4
        split at h6
        · rename_i off hoff
          obtain ⟨t, ht, hk⟩ := ok_jump C ok hp3 hr h6
          have hx := ex_nth_get hoff
          rw [← h5, Array.getElem?_toList] at hx
          exact kr_tableIn hd h1 (by omega) hx ht hk
        · cases h6
      · obtain ⟨t, ht, hk⟩ := ok_jump C ok hp2 hr h4
        exact kr_tableOut hd (Or.inr (by omega)) ht hk
  · cases h
theorem ok_lookl (C : ex_C g ρ mt K Q) (ok : ex_okF mt T cd) (hr : ex_R ρ me σ) {dflt : Int} {x : ex_F} {ps : List (Int × Int)} : ∀ {pa : ex_Pa}, ex_P ρ pa → ex_lookl K T d mc ms lv fs me pc dflt x st ps pa = true → ∃ tgt : Nat, (pc : Int) + Op.lookupswitch.offset ps dflt (ex_i ρ x).toInt = (tgt : Int) ∧ am_K g d T.1 mc ms tgt (ex_lv ρ lv) (st.map (ex_ev ρ)) σ (Q fs) := by
  induction ps with
  | nil => intro pa hp h; exact ok_jump C ok hp hr h
  | cons q ps ih =>
    intro pa hp h
    obtain ⟨pa1, hp1, ⟨h1, h2⟩ | ⟨h1, h2⟩⟩ := ex_eq3_ok (Kt := fun pa => ex_jump K T d mc ms lv fs me pc q.2 st pa) (Kf := ex_lookl K T d mc ms lv fs me pc dflt x st ps) hp h
    · obtain ⟨t, ht, hk⟩ := ok_jump C ok hp1 hr h2
      refine ⟨t, ?_, hk⟩
      obtain ⟨a, o⟩ := q
      rw [Op.lookupswitch.offset_cons, if_pos h1.symm]
      exact ht
    · obtain ⟨t, ht, hk⟩ := ih hp1 h2
      refine ⟨t, ?_, hk⟩
      obtain ⟨a, o⟩ := q
      rw [Op.lookupswitch.offset_cons, if_neg (fun z => h1 z.symm)]
      exact ht
theorem ok_lookup (C : ex_C g ρ mt K Q) (ok : ex_okF mt T cd) (hp : ex_P ρ pa) (hr : ex_R ρ me σ) {dflt : Int} {ps : Array (Int × Int)} {len : Nat} (hd : decode T.1.2.1 pc = .ok (.lookupswitch dflt ps, len)) (hs : (ps.toList.zip (ps.toList.drop 1)).all (fun (a, next) => a.1 < next.1) = true) (h : ex_lookup K T d mc ms lv st fs me pa pc dflt ps = true) : am_K g d T.1 mc ms pc (ex_lv ρ lv) (st.map (ex_ev ρ)) σ (Q fs) := by
  unfold ex_lookup at h
  split at h
  · obtain ⟨t, ht, hk⟩ := ok_lookl C ok hr hp h
    exact kr_lookup hd hs rfl ht hk
  · cases h
end KX
