/-! exact answers, further (rows written by a program) -/
theorem rd_d_X11_plan_0 : decode tX11_plan.1.2.1 0 = .ok (.aload_n 0, 1) := by decide +kernel
theorem rd_d_X11_plan_1 : decode tX11_plan.1.2.1 1 = .ok (.getfield 28, 3) := by decide +kernel
theorem rd_k_X11_plan_1 : ex_lk ex_mt tX11_plan 1 (.getfield 28) [11, 2, 2, 131261] = true := by decide +kernel
theorem rd_d_X11_plan_4 : decode tX11_plan.1.2.1 4 = .ok (.iload_n 1, 1) := by decide +kernel
theorem rd_d_X11_plan_5 : decode tX11_plan.1.2.1 5 = .ok (.invokevirtual 147, 3) := by decide +kernel
theorem rd_k_X11_plan_5 : ex_lk ex_mt tX11_plan 5 (.invokevirtual 147) [0, 293, 262148] = true := by decide +kernel
theorem rd_d_X11_plan_8 : decode tX11_plan.1.2.1 8 = .ok (.ifCond .eq 26, 3) := by decide +kernel
theorem rd_d_X11_plan_11 : decode tX11_plan.1.2.1 11 = .ok (.iload_n 2, 1) := by decide +kernel
theorem rd_d_X11_plan_12 : decode tX11_plan.1.2.1 12 = .ok (.ifCond .eq 8, 3) := by decide +kernel
theorem rd_d_X11_plan_15 : decode tX11_plan.1.2.1 15 = .ok (.iload_n 2, 1) := by decide +kernel
theorem rd_d_X11_plan_16 : decode tX11_plan.1.2.1 16 = .ok (.iconst 1, 1) := by decide +kernel
theorem rd_d_X11_plan_17 : decode tX11_plan.1.2.1 17 = .ok (.if_icmp .ne 17, 3) := by decide +kernel
theorem rd_d_X11_plan_20 : decode tX11_plan.1.2.1 20 = .ok (.iload_n 3, 1) := by decide +kernel
theorem rd_d_X11_plan_21 : decode tX11_plan.1.2.1 21 = .ok (.ifCond .lt 13, 3) := by decide +kernel
theorem rd_d_X11_plan_24 : decode tX11_plan.1.2.1 24 = .ok (.iload_n 3, 1) := by decide +kernel
theorem rd_d_X11_plan_25 : decode tX11_plan.1.2.1 25 = .ok (.bipush 24, 2) := by decide +kernel
theorem rd_d_X11_plan_27 : decode tX11_plan.1.2.1 27 = .ok (.if_icmp .gt 7, 3) := by decide +kernel
theorem rd_d_X11_plan_30 : decode tX11_plan.1.2.1 30 = .ok (.iconst 1, 1) := by decide +kernel
theorem rd_d_X11_plan_31 : decode tX11_plan.1.2.1 31 = .ok (.goto 4, 3) := by decide +kernel
theorem rd_d_X11_plan_34 : decode tX11_plan.1.2.1 34 = .ok (.iconst 0, 1) := by decide +kernel
theorem rd_d_X11_plan_35 : decode tX11_plan.1.2.1 35 = .ok (.istore 5, 2) := by decide +kernel
theorem rd_d_X11_plan_37 : decode tX11_plan.1.2.1 37 = .ok (.iload 5, 2) := by decide +kernel
theorem rd_d_X11_plan_39 : decode tX11_plan.1.2.1 39 = .ok (.ifCond .eq 11, 3) := by decide +kernel
theorem rd_d_X11_plan_42 : decode tX11_plan.1.2.1 42 = .ok (.iload 4, 2) := by decide +kernel
theorem rd_d_X11_plan_44 : decode tX11_plan.1.2.1 44 = .ok (.invokestatic 255, 3) := by decide +kernel
theorem rd_k_X11_plan_44 : ex_lk ex_mt tX11_plan 44 (.invokestatic 255) [0, 41, 393386] = true := by decide +kernel
theorem rd_d_X11_plan_47 : decode tX11_plan.1.2.1 47 = .ok (.ifCond .ne 14, 3) := by decide +kernel
theorem rd_d_X11_plan_50 : decode tX11_plan.1.2.1 50 = .ok (.new 151, 3) := by decide +kernel
theorem rd_k_X11_plan_50 : ex_lk ex_mt tX11_plan 50 (.new 151) [1, 286, 1, 393310, 393415] = true := by decide +kernel
theorem rd_d_X11_plan_61 : decode tX11_plan.1.2.1 61 = .ok (.aload_n 0, 1) := by decide +kernel
theorem rd_d_X11_plan_62 : decode tX11_plan.1.2.1 62 = .ok (.getfield 67, 3) := by decide +kernel
theorem rd_k_X11_plan_62 : ex_lk ex_mt tX11_plan 62 (.getfield 67) [11, 9, 2, 131268] = true := by decide +kernel
theorem rd_d_X11_plan_65 : decode tX11_plan.1.2.1 65 = .ok (.iload_n 2, 1) := by decide +kernel
theorem rd_d_X11_plan_66 : decode tX11_plan.1.2.1 66 = .ok (.iload_n 1, 1) := by decide +kernel
theorem rd_d_X11_plan_67 : decode tX11_plan.1.2.1 67 = .ok (.iload_n 3, 1) := by decide +kernel
theorem rd_d_X11_plan_68 : decode tX11_plan.1.2.1 68 = .ok (.invokevirtual 288, 3) := by decide +kernel
theorem rd_k_X11_plan_68 : ex_lk ex_mt tX11_plan 68 (.invokevirtual 288) [0, 231, 393416] = true := by decide +kernel
theorem rd_d_X11_plan_71 : decode tX11_plan.1.2.1 71 = .ok (.aload_n 0, 1) := by decide +kernel
theorem rd_d_X11_plan_72 : decode tX11_plan.1.2.1 72 = .ok (.getfield 28, 3) := by decide +kernel
theorem rd_k_X11_plan_72 : ex_lk ex_mt tX11_plan 72 (.getfield 28) [11, 2, 2, 131261] = true := by decide +kernel
theorem rd_d_X11_plan_75 : decode tX11_plan.1.2.1 75 = .ok (.invokevirtual 278, 3) := by decide +kernel
theorem rd_k_X11_plan_75 : ex_lk ex_mt tX11_plan 75 (.invokevirtual 278) [0, 312, 393407] = true := by decide +kernel
theorem rd_d_X11_plan_78 : decode tX11_plan.1.2.1 78 = .ok (.iload 4, 2) := by decide +kernel
theorem rd_d_X11_plan_80 : decode tX11_plan.1.2.1 80 = .ok (.invokestatic 266, 3) := by decide +kernel
theorem rd_k_X11_plan_80 : ex_lk ex_mt tX11_plan 80 (.invokestatic 266) [0, 53, 393396] = true := by decide +kernel
theorem rd_d_X11_plan_83 : decode tX11_plan.1.2.1 83 = .ok (.ireturn, 1) := by decide +kernel
theorem rd_d_X12_throwsIf_0 : decode tX12_throwsIf.1.2.1 0 = .ok (.aload_n 0, 1) := by decide +kernel
theorem rd_d_X12_throwsIf_1 : decode tX12_throwsIf.1.2.1 1 = .ok (.iload_n 1, 1) := by decide +kernel
theorem rd_d_X12_throwsIf_2 : decode tX12_throwsIf.1.2.1 2 = .ok (.ifCond .eq 7, 3) := by decide +kernel
theorem rd_d_X12_throwsIf_5 : decode tX12_throwsIf.1.2.1 5 = .ok (.iconst 1, 1) := by decide +kernel
theorem rd_d_X12_throwsIf_6 : decode tX12_throwsIf.1.2.1 6 = .ok (.goto 4, 3) := by decide +kernel
theorem rd_d_X12_throwsIf_9 : decode tX12_throwsIf.1.2.1 9 = .ok (.iconst 0, 1) := by decide +kernel
theorem rd_d_X12_throwsIf_10 : decode tX12_throwsIf.1.2.1 10 = .ok (.putfield 1, 3) := by decide +kernel
theorem rd_k_X12_throwsIf_10 : ex_lk ex_mt tX12_throwsIf 10 (.putfield 1) [12, 0, 0, 458767] = true := by decide +kernel
theorem rd_d_X12_throwsIf_13 : decode tX12_throwsIf.1.2.1 13 = .ok (.iload_n 1, 1) := by decide +kernel
theorem rd_d_X12_throwsIf_14 : decode tX12_throwsIf.1.2.1 14 = .ok (.ireturn, 1) := by decide +kernel
theorem rd_d_X12_endOf_0 : decode tX12_endOf.1.2.1 0 = .ok (.iload_n 1, 1) := by decide +kernel
theorem rd_d_X12_endOf_1 : decode tX12_endOf.1.2.1 1 = .ok (.iconst 1, 1) := by decide +kernel
theorem rd_d_X12_endOf_2 : decode tX12_endOf.1.2.1 2 = .ok (.if_icmp .ne 14, 3) := by decide +kernel
theorem rd_d_X12_endOf_5 : decode tX12_endOf.1.2.1 5 = .ok (.aload_n 0, 1) := by decide +kernel
theorem rd_d_X12_endOf_6 : decode tX12_endOf.1.2.1 6 = .ok (.getfield 33, 3) := by decide +kernel
theorem rd_k_X12_endOf_6 : ex_lk ex_mt tX12_endOf 6 (.getfield 33) [12, 6, 2, 458773] = true := by decide +kernel
theorem rd_d_X12_endOf_9 : decode tX12_endOf.1.2.1 9 = .ok (.iconst 0, 1) := by decide +kernel
theorem rd_d_X12_endOf_10 : decode tX12_endOf.1.2.1 10 = .ok (.iaload, 1) := by decide +kernel
theorem rd_d_X12_endOf_11 : decode tX12_endOf.1.2.1 11 = .ok (.iconst 1, 1) := by decide +kernel
theorem rd_d_X12_endOf_12 : decode tX12_endOf.1.2.1 12 = .ok (.isub, 1) := by decide +kernel
theorem rd_d_X12_endOf_13 : decode tX12_endOf.1.2.1 13 = .ok (.goto 4, 3) := by decide +kernel
theorem rd_d_X12_endOf_16 : decode tX12_endOf.1.2.1 16 = .ok (.iconst 0, 1) := by decide +kernel
theorem rd_d_X12_endOf_17 : decode tX12_endOf.1.2.1 17 = .ok (.ireturn, 1) := by decide +kernel
theorem rd_d_X12_plan_0 : decode tX12_plan.1.2.1 0 = .ok (.aload_n 0, 1) := by decide +kernel
theorem rd_d_X12_plan_1 : decode tX12_plan.1.2.1 1 = .ok (.aload_n 0, 1) := by decide +kernel
theorem rd_d_X12_plan_2 : decode tX12_plan.1.2.1 2 = .ok (.iload_n 1, 1) := by decide +kernel
theorem rd_d_X12_plan_3 : decode tX12_plan.1.2.1 3 = .ok (.invokevirtual 214, 3) := by decide +kernel
theorem rd_k_X12_plan_3 : ex_lk ex_mt tX12_plan 3 (.invokevirtual 214) [0, 125, 458991] = true := by decide +kernel
theorem rd_d_X12_plan_6 : decode tX12_plan.1.2.1 6 = .ok (.ifCond .eq 32, 3) := by decide +kernel
theorem rd_d_X12_plan_9 : decode tX12_plan.1.2.1 9 = .ok (.iload_n 2, 1) := by decide +kernel
theorem rd_d_X12_plan_10 : decode tX12_plan.1.2.1 10 = .ok (.iconst 0, 1) := by decide +kernel
theorem rd_d_X12_plan_11 : decode tX12_plan.1.2.1 11 = .ok (.iconst 1, 1) := by decide +kernel
theorem rd_d_X12_plan_12 : decode tX12_plan.1.2.1 12 = .ok (.invokestatic 134, 3) := by decide +kernel
theorem rd_k_X12_plan_12 : ex_lk ex_mt tX12_plan 12 (.invokestatic 134) [0, 119, 458953] = true := by decide +kernel
theorem rd_d_X12_plan_15 : decode tX12_plan.1.2.1 15 = .ok (.ifCond .eq 23, 3) := by decide +kernel
theorem rd_d_X12_plan_18 : decode tX12_plan.1.2.1 18 = .ok (.iload_n 3, 1) := by decide +kernel
theorem rd_d_X12_plan_19 : decode tX12_plan.1.2.1 19 = .ok (.iconst 0, 1) := by decide +kernel
theorem rd_d_X12_plan_20 : decode tX12_plan.1.2.1 20 = .ok (.bipush 24, 2) := by decide +kernel
theorem rd_d_X12_plan_22 : decode tX12_plan.1.2.1 22 = .ok (.invokestatic 134, 3) := by decide +kernel
theorem rd_k_X12_plan_22 : ex_lk ex_mt tX12_plan 22 (.invokestatic 134) [0, 119, 458953] = true := by decide +kernel
theorem rd_d_X12_plan_25 : decode tX12_plan.1.2.1 25 = .ok (.ifCond .eq 13, 3) := by decide +kernel
theorem rd_d_X12_plan_28 : decode tX12_plan.1.2.1 28 = .ok (.iload 4, 2) := by decide +kernel
theorem rd_d_X12_plan_30 : decode tX12_plan.1.2.1 30 = .ok (.iconst 0, 1) := by decide +kernel
theorem rd_d_X12_plan_31 : decode tX12_plan.1.2.1 31 = .ok (.iconst 1, 1) := by decide +kernel
theorem rd_d_X12_plan_32 : decode tX12_plan.1.2.1 32 = .ok (.invokestatic 134, 3) := by decide +kernel
theorem rd_k_X12_plan_32 : ex_lk ex_mt tX12_plan 32 (.invokestatic 134) [0, 119, 458953] = true := by decide +kernel
theorem rd_d_X12_plan_35 : decode tX12_plan.1.2.1 35 = .ok (.ifCond .ne 7, 3) := by decide +kernel
theorem rd_d_X12_plan_38 : decode tX12_plan.1.2.1 38 = .ok (.iconst 1, 1) := by decide +kernel
theorem rd_d_X12_plan_39 : decode tX12_plan.1.2.1 39 = .ok (.goto 4, 3) := by decide +kernel
theorem rd_d_X12_plan_42 : decode tX12_plan.1.2.1 42 = .ok (.iconst 0, 1) := by decide +kernel
theorem rd_d_X12_plan_43 : decode tX12_plan.1.2.1 43 = .ok (.invokevirtual 217, 3) := by decide +kernel
theorem rd_k_X12_plan_43 : ex_lk ex_mt tX12_plan 43 (.invokevirtual 217) [0, 177, 524291] = true := by decide +kernel
theorem rd_d_X12_plan_46 : decode tX12_plan.1.2.1 46 = .ok (.ifCond .eq 5, 3) := by decide +kernel
theorem rd_d_X12_plan_49 : decode tX12_plan.1.2.1 49 = .ok (.iconst 0, 1) := by decide +kernel
theorem rd_d_X12_plan_50 : decode tX12_plan.1.2.1 50 = .ok (.ireturn, 1) := by decide +kernel
theorem rd_d_X12_plan_51 : decode tX12_plan.1.2.1 51 = .ok (.aload_n 0, 1) := by decide +kernel
theorem rd_d_X12_plan_52 : decode tX12_plan.1.2.1 52 = .ok (.iload_n 1, 1) := by decide +kernel
theorem rd_d_X12_plan_53 : decode tX12_plan.1.2.1 53 = .ok (.aload_n 0, 1) := by decide +kernel
theorem rd_d_X12_plan_54 : decode tX12_plan.1.2.1 54 = .ok (.iload_n 2, 1) := by decide +kernel
theorem rd_d_X12_plan_55 : decode tX12_plan.1.2.1 55 = .ok (.invokevirtual 308, 3) := by decide +kernel
theorem rd_k_X12_plan_55 : ex_lk ex_mt tX12_plan 55 (.invokevirtual 308) [0, 104, 524453] = true := by decide +kernel
theorem rd_d_X12_plan_58 : decode tX12_plan.1.2.1 58 = .ok (.iload_n 3, 1) := by decide +kernel
theorem rd_d_X12_plan_59 : decode tX12_plan.1.2.1 59 = .ok (.invokevirtual 311, 3) := by decide +kernel
theorem rd_k_X12_plan_59 : ex_lk ex_mt tX12_plan 59 (.invokevirtual 311) [0, 153, 524457] = true := by decide +kernel
theorem rd_d_X12_plan_62 : decode tX12_plan.1.2.1 62 = .ok (.aload_n 0, 1) := by decide +kernel
theorem rd_d_X12_plan_63 : decode tX12_plan.1.2.1 63 = .ok (.invokevirtual 282, 3) := by decide +kernel
theorem rd_k_X12_plan_63 : ex_lk ex_mt tX12_plan 63 (.invokevirtual 282) [0, 78, 524433] = true := by decide +kernel
theorem rd_d_X12_plan_66 : decode tX12_plan.1.2.1 66 = .ok (.iload 4, 2) := by decide +kernel
theorem rd_d_X12_plan_68 : decode tX12_plan.1.2.1 68 = .ok (.invokestatic 272, 3) := by decide +kernel
theorem rd_k_X12_plan_68 : ex_lk ex_mt tX12_plan 68 (.invokestatic 272) [0, 148, 524418] = true := by decide +kernel
theorem rd_d_X12_plan_71 : decode tX12_plan.1.2.1 71 = .ok (.ireturn, 1) := by decide +kernel
section AXX
variable {g : am_C} {L : Nat} {xs : Nat → Int32}
/-- the row of windows of a plan -/
def pz_row (s : Nat → Int32) (a up : Nat) : List Nat := if up = 1 then pl_up ((s 0).toInt.toNat - a) a else pl_dn (a + 1) a
def pz_v (s : Nat → Int32) (a b c : Int32) : Int32 := Int32.ofNat (pn_v s (pz_row s a.toInt.toNat b.toInt.toNat) 0 c.toInt.toNat).1
theorem pk_of {s : Nat → Int32} {a up : Nat} (h : (a : Int) < (s 0).toInt) : ∃ k : Nat, (k : Int) < (s 0).toInt ∧ pk_w s up k = a ∧ pk_l s up (k + 1) = pz_row s a up := by
  unfold pk_w pk_l pz_row
  by_cases e : up = 1
  · refine ⟨(s 0).toInt.toNat - 1 - a, by omega, ?_, ?_⟩
    · rw [if_pos e]; omega
    · rw [if_pos e, if_pos e, show (s 0).toInt.toNat - 1 - a + 1 = (s 0).toInt.toNat - a by omega, show (s 0).toInt.toNat - ((s 0).toInt.toNat - a) = a by omega]
  · exact ⟨a, h, by rw [if_neg e], by rw [if_neg e, if_neg e]; rfl⟩
theorem pn_up {a b : Nat} (h : a ≤ b) : ∀ (k i : Nat), pn_ws (pn_win a b) k i = pl_up k (a + i) := by
  intro k
  induction k with
  | zero => intro i; rfl
  | succ k ih =>
    intro i
    show pn_win a b i :: pn_ws (pn_win a b) k (i + 1) = (a + i) :: pl_up k (a + i + 1)
    have e : pn_win a b i = a + i := by unfold pn_win; rw [if_pos h]
    rw [ih (i + 1), e, Nat.add_assoc]
theorem pn_dn {a b : Nat} (h : ¬ a ≤ b) : ∀ (k i : Nat), pn_ws (pn_win a b) k i = pl_dn k (a - i) := by
  intro k
  induction k with
  | zero => intro i; rfl
  | succ k ih =>
    intro i
    show pn_win a b i :: pn_ws (pn_win a b) k (i + 1) = (a - i) :: pl_dn k (a - i - 1)
    have e : pn_win a b i = a - i := by unfold pn_win; rw [if_neg h]
    rw [ih (i + 1), e, show a - (i + 1) = a - i - 1 by omega]
theorem pn_upR {a b : Nat} (h : a ≤ b) : pn_ws (pn_win a b) (pn_M a b) 0 = pl_up (b - a + 1) a := by
  have e : pn_M a b = b - a + 1 := by unfold pn_M; rw [if_pos h]
  have := pn_up h (b - a + 1) 0
  rw [e]
  exact this
theorem pn_dnR {a b : Nat} (h : b ≤ a) : pn_ws (pn_win a b) (pn_M a b) 0 = pl_dn (a - b + 1) a := by
  by_cases e : a = b
  · subst e
    rw [pn_upR (Nat.le_refl _), Nat.sub_self]
    rfl
  · have e2 : pn_M a b = a - b + 1 := by unfold pn_M; rw [if_neg (by omega)]
    have := pn_dn (a := a) (b := b) (by omega) (a - b + 1) 0
    rw [e2]
    exact this
theorem pz_rowM {s : Nat → Int32} {a up W : Nat} (hW : (s 0).toInt = (W : Int)) (h : a < W) : pn_ws (pn_win a (if up = 1 then W - 1 else 0)) (pn_M a (if up = 1 then W - 1 else 0)) 0 = pz_row s a up := by
  have e : (s 0).toInt.toNat = W := by omega
  unfold pz_row
  rw [e]
  by_cases u : up = 1
  · rw [if_pos u, if_pos u, pn_upR (by omega), show W - 1 - a + 1 = W - a by omega]
  · rw [if_neg u, if_neg u, pn_dnR (Nat.zero_le a), Nat.sub_zero]
theorem uni_1 {m : Nat → Nat → Int32} {s : Nat → Int32} (h : pl_R m 4 s) (b : pn_B s) (b3 : pl_B3 s) : 1 ≤ (ax_f_uni m).toInt := by
  rw [uni_eq h b.1]
  exact bel_b b.1 b.2.1 b3
/-- an answer with a new state, or a throw -/
abbrev ax_TW (v : Option Int32) (Q : am_S → Prop) (σ : am_S) : Option (Option Value) → am_S → Prop := fun r σ' => match v with
  | some y => r = some (some (.int y)) ∧ Q σ'
  | none => r = none ∧ ∃ J : List am_sh, (∀ x ∈ J, x = .inl 99) ∧ σ' = (σ.1 ++ J, σ.2)
theorem ax_callV (G : sx_G0 g L xs z9 hd_C ex_mt) {mi2 : Nat} {T T2 : ex_T} (hT2 : ex_mt mi2 = some T2) {pc i p n bc bs ci p1 p2 p3 p4 : Nat} (hd : decode T.1.2.1 pc = .ok (.invokevirtual i, 3)) (hl : ex_lk ex_mt T pc (.invokevirtual i) [0, mi2, p] = true) (hm : T2.2.1 = [1, n, bc, bs, ci, p1, p2, p3, p4]) {o : Nat} {σ : am_S} (ho : σ.1[o]? = some (.inl ci)) {as st stk : List Value} (hn : as.length = n) (hlen : (lg_sl (.ref o :: as)).length ≤ T2.1.2.2.1) (hst : stk = as.reverse ++ .ref o :: st) (hroom : (st.map fun v => v.category).sum ≤ 8) {d d1 mc ms : Nat} (hd1 : d1 + 1 ≤ d) {lv : List (Nat × Value)} {post post1 : Option (Option Value) → am_S → Prop} (hnt : ∀ σ', ¬ post1 none σ') (k1 : am_K g d1 T2.1 0 0 0 (lv_args 0 (.ref o :: as)) [] σ post1) (kk : ∀ v σ', post1 (some v) σ' → am_K g d T.1 mc ms (pc + 3) lv (v.toList ++ st) σ' post) : am_K g d T.1 mc ms pc lv stk σ post := by
  unfold ex_lk at hl
  simp only [hT2] at hl
  rw [Bool.and_eq_true, decide_eq_true_eq] at hl
  obtain ⟨m1, m2, m3, U, N, m4⟩ := ex_mok_V (G.2.2.2.1 mi2 T2 hT2) hm
  have h := kr_callV (mc := mc) (ms := ms) (mc1 := 0) (ms1 := 0) G.1 m4 ho m1 m2 m3 (ex_mlk_ok hl.2) hd hn hlen hst hroom hd1 hnt k1 kk
  rw [Nat.zero_add, Nat.zero_add] at h
  exact h
theorem ax_callS (G : sx_G0 g L xs z9 hd_C ex_mt) {mi2 : Nat} {T T2 : ex_T} (hT2 : ex_mt mi2 = some T2) {pc i p n bc bs ci p1 p2 p3 p4 : Nat} (hd : decode T.1.2.1 pc = .ok (.invokestatic i, 3)) (hl : ex_lk ex_mt T pc (.invokestatic i) [0, mi2, p] = true) (hm : T2.2.1 = [0, n, bc, bs, ci, p1, p2, p3, p4]) (hh : T2.1.2.2.2.2 = []) {σ : am_S} {as st stk : List Value} (hn : as.length = n) (hlen : (lg_sl as).length ≤ T2.1.2.2.1) (hst : stk = as.reverse ++ st) (hroom : (st.map fun v => v.category).sum ≤ 8) {d d1 mc ms : Nat} (hd1 : d1 + 1 ≤ d) {lv : List (Nat × Value)} {post post1 : Option (Option Value) → am_S → Prop} (hnt : ∀ σ', ¬ post1 none σ') (k1 : am_K g d1 T2.1 0 0 0 (lv_args 0 as) [] σ post1) (kk : ∀ v σ', post1 (some v) σ' → am_K g d T.1 mc ms (pc + 3) lv (v.toList ++ st) σ' post) : am_K g d T.1 mc ms pc lv stk σ post := by
  unfold ex_lk at hl
  simp only [hT2, hh] at hl
  rw [Bool.and_eq_true, decide_eq_true_eq] at hl
  obtain ⟨m1, m2, m3⟩ := ex_mok_S (G.2.2.2.1 mi2 T2 hT2) hm
  have h := kr_callS (mc := mc) (ms := ms) (mc1 := 0) (ms1 := 0) G.1 (m1 hh) m3 (ex_mlk_ok hl.2) hd hn hlen hst hroom hd1 hnt k1 kk
  rw [Nat.zero_add, Nat.zero_add] at h
  exact h
theorem ax_throw (G : sx_G0 g L xs z9 hd_C ex_mt) {T : ex_T} {pc i is wd p1 p2 : Nat} (hd : decode T.1.2.1 pc = .ok (.new i, 3)) (hl : ex_lk ex_mt T pc (.new i) [1, is, wd, p1, p2] = true) {d mc ms : Nat} (hd6 : 6 ≤ d) {lv : List (Nat × Value)} {st : List Value} {σ : am_S} {post : Option (Option Value) → am_S → Prop} (hroom : (st.map fun v => v.category).sum ≤ 8) (hp : ∀ J : List am_sh, (∀ x ∈ J, x = .inl 99) → post none (σ.1 ++ J, σ.2)) : am_K g d T.1 (mc + 1) (ms + 6) pc lv st σ post := by
  unfold ex_lk at hl
  simp only at hl
  rw [Bool.and_eq_true, Bool.and_eq_true, Bool.and_eq_true, Bool.and_eq_true, Bool.and_eq_true, Bool.and_eq_true, decide_eq_true_eq, decide_eq_true_eq, decide_eq_true_eq] at hl
  obtain ⟨l1, l2, l3, l4, l5, l6, l7⟩ := hl
  have hs : ∃ tx, Cond.stringRef RX11 is tx ∈ lw_tbl := by
    split at l6
    · rename_i o j tx hq
      simp only [Bool.and_eq_true, decide_eq_true_eq] at l6
      obtain ⟨rfl, rfl⟩ := l6
      exact ⟨tx, lw_at_mem hq⟩
    · cases l6
  obtain ⟨tx, hs⟩ := hs
  split at l7
  · simp only [Bool.and_eq_true] at l7
    exact kr_throwS G.1 l1 l2 l3 hd (of_decide_eq_true l4) (of_decide_eq_true l7.1) (of_decide_eq_true l7.2.1) (of_decide_eq_true l7.2.2) (ex_mem_ok l5) hs hd6 hroom hp
  · simp only [Bool.and_eq_true] at l7
    exact kr_throwSW G.1 l1 l2 l3 hd (of_decide_eq_true l4) (of_decide_eq_true l7.1) (of_decide_eq_true l7.2.1) (of_decide_eq_true l7.2.2) (ex_mem_ok l5) hs hd6 hroom hp
/-- an answer, or a throw with junk -/
abbrev ax_T (v : Option Int32) (σ : am_S) : Option (Option Value) → am_S → Prop := fun r σ' => match v with
  | some y => r = some (some (.int y)) ∧ σ' = σ
  | none => r = none ∧ ∃ J : List am_sh, (∀ x ∈ J, x = .inl 99) ∧ σ' = (σ.1 ++ J, σ.2)
def ax_f_plX (m : Nat → Nat → Int32) (s : Nat → Int32) (a e c d : Int32) : Option Int32 := if (ax_f_has m a) = 0 then none else if e = 0 then if c < 0 then none else if 24 < c then none else if (ax_f_isp d) = 0 then none else some (ax_pt (pz_v s a e c) (ax_f_bel s) d) else if e = 1 then if c < 0 then none else if 24 < c then none else if (ax_f_isp d) = 0 then none else some (ax_pt (pz_v s a e c) (ax_f_bel s) d) else none
theorem ax_plX (G : sx_G0 g L xs z9 hd_C ex_mt) {σ : am_S} (hS : ax_S σ) {s : Nat → Int32} (b : pn_B s) (b3 : pl_B3 s) (bw : pl_W s) (b5 : pl_B5 s) {CH : List Nat → Nat → Nat → Int64 → Prop} (hC0 : ∀ ws T, CH ws T 0 0) (hCH : ∀ (w : Nat) (ws : List Nat) (T j : Nat) (ch : Int64) (fx fo : Int32), w < 10 → j ≤ 24 → CH (w :: ws) T j ch → fx.toInt = (j : Int) → fo.toInt = ((pn_v s (w :: ws) T j).2 : Int) → CH (w :: ws) T (j + 1) (ch ||| (fo.toInt64 <<< ((2 * fx).toInt64 &&& 63)))) (hX : pc_X s σ) (hP : pk_P CH s σ) (a e c d : Int32) : am_K g 8 tX11_plan.1 1 6 0 (lv_args 0 [.ref 0, .int a, .int e, .int c, .int d]) [] σ (ax_TW (ax_f_plX σ.2.1 s a e c d) (fun σ' => (ax_S σ' ∧ (∀ x y, x ≠ 69 → x ≠ 70 → x ≠ 71 → x ≠ 73 → x ≠ 74 → x ≠ 78 → x ≠ 79 → ¬ (x = 68 ∧ 15 ≤ y ∧ y ≤ 18) → σ'.2.1 x y = σ.2.1 x y) ∧ ¬ σ'.2.1 68 18 = 0 ∧ pk_P CH s σ' ∧ ∀ x y, x ≠ 72 → σ'.2.2.1 x y = σ.2.2.1 x y)) σ) := by
  refine kr_aload_n 0 rd_d_X11_plan_0 rfl ?_
  refine kr_getf G.1 (rd_FL rd_k_X11_plan_1).1 rd_d_X11_plan_1 (hS.1 0 (.inl 11) rfl) (v := .ref 4) (by unfold am_fa; rw [(rd_FL rd_k_X11_plan_1).2]; exact hS.2 0 2 4 rfl) ?_
  refine kr_iload_n 1 rd_d_X11_plan_4 rfl ?_
  refine ax_callV G (T2 := tX9_has) rfl rd_d_X11_plan_5 rd_k_X11_plan_5 rfl (hS.1 4 (.inl 9) rfl) (as := [.int a]) (st := []) rfl (Nat.le_of_ble_eq_true rfl) rfl (Nat.le_of_ble_eq_true rfl) (d1 := 1) (by decide) (fun _ h => by cases h.1) (ax_has G hS a) ?_
  intro v1 σ1 ⟨hv1, hs1⟩
  cases hv1
  rw [hs1]
  refine kr_if_eq (tgt := 34) rd_d_X11_plan_8 rfl (fun h2 => ?_) (fun h2 => ?_)
  · refine kr_iconst (v := 0) rd_d_X11_plan_34 (by decide) ?_
    refine kr_istore (lv' := [(5, .int 0), (0, .ref 0), (1, .int a), (2, .int e), (3, .int c), (4, .int d)]) rd_d_X11_plan_35 (by decide) rfl ?_
    refine kr_iload 0 rd_d_X11_plan_37 rfl ?_
    refine kr_if_eq (tgt := 50) rd_d_X11_plan_39 rfl (fun _ => ?_) (fun h => absurd rfl h)
    refine ax_throw G (mc := 0) (ms := 0) rd_d_X11_plan_50 rd_k_X11_plan_50 (by decide) (Nat.le_of_ble_eq_true rfl) (fun J hJ => ?_)
    rw [ax_f_plX, if_pos h2]
    exact ⟨rfl, J, hJ, rfl⟩
  · refine kr_iload_n 2 rd_d_X11_plan_11 rfl ?_
    refine kr_if_eq (tgt := 20) rd_d_X11_plan_12 rfl (fun h4 => ?_) (fun h4 => ?_)
    · refine kr_iload_n 3 rd_d_X11_plan_20 rfl ?_
      refine kr_if_lt (tgt := 34) rd_d_X11_plan_21 rfl (fun h5 => ?_) (fun h5 => ?_)
      · refine kr_iconst (v := 0) rd_d_X11_plan_34 (by decide) ?_
        refine kr_istore (lv' := [(5, .int 0), (0, .ref 0), (1, .int a), (2, .int e), (3, .int c), (4, .int d)]) rd_d_X11_plan_35 (by decide) rfl ?_
        refine kr_iload 0 rd_d_X11_plan_37 rfl ?_
        refine kr_if_eq (tgt := 50) rd_d_X11_plan_39 rfl (fun _ => ?_) (fun h => absurd rfl h)
        refine ax_throw G (mc := 0) (ms := 0) rd_d_X11_plan_50 rd_k_X11_plan_50 (by decide) (Nat.le_of_ble_eq_true rfl) (fun J hJ => ?_)
        rw [ax_f_plX, if_neg h2, if_pos h4, if_pos h5]
        exact ⟨rfl, J, hJ, rfl⟩
      · refine kr_iload_n 3 rd_d_X11_plan_24 rfl ?_
        refine kr_bipush (v := 24) rd_d_X11_plan_25 (by decide) ?_
        refine kr_icmp_gt (tgt := 34) rd_d_X11_plan_27 rfl (fun h7 => ?_) (fun h7 => ?_)
        · refine kr_iconst (v := 0) rd_d_X11_plan_34 (by decide) ?_
          refine kr_istore (lv' := [(5, .int 0), (0, .ref 0), (1, .int a), (2, .int e), (3, .int c), (4, .int d)]) rd_d_X11_plan_35 (by decide) rfl ?_
          refine kr_iload 0 rd_d_X11_plan_37 rfl ?_
          refine kr_if_eq (tgt := 50) rd_d_X11_plan_39 rfl (fun _ => ?_) (fun h => absurd rfl h)
          refine ax_throw G (mc := 0) (ms := 0) rd_d_X11_plan_50 rd_k_X11_plan_50 (by decide) (Nat.le_of_ble_eq_true rfl) (fun J hJ => ?_)
          rw [ax_f_plX, if_neg h2, if_pos h4, if_neg h5, if_pos h7]
          exact ⟨rfl, J, hJ, rfl⟩
        · refine kr_iconst (v := 1) rd_d_X11_plan_30 (by decide) ?_
          refine kr_goto (tgt := 35) rd_d_X11_plan_31 rfl ?_
          refine kr_istore (lv' := [(5, .int 1), (0, .ref 0), (1, .int a), (2, .int e), (3, .int c), (4, .int d)]) rd_d_X11_plan_35 (by decide) rfl ?_
          refine kr_iload 0 rd_d_X11_plan_37 rfl ?_
          refine kr_if_eq (tgt := 50) rd_d_X11_plan_39 rfl (fun h => absurd h (by decide)) (fun _ => ?_)
          refine kr_iload 5 rd_d_X11_plan_42 rfl ?_
          refine ax_callS G (T2 := tX11_isPart) rfl rd_d_X11_plan_44 rd_k_X11_plan_44 rfl rfl (as := [.int d]) (st := []) rfl (Nat.le_of_ble_eq_true rfl) rfl (Nat.le_of_ble_eq_true rfl) (d1 := 1) (by decide) (fun _ h => by cases h.1) (ax_isp G hS d) ?_
          intro v10 σ10 ⟨hv10, hs10⟩
          cases hv10
          rw [hs10]
          refine kr_if_ne (tgt := 61) rd_d_X11_plan_47 rfl (fun h11 => ?_) (fun h11 => ?_)
          · have z0 : (0 : Int32).toInt = 0 := rfl
            have z1 : (1 : Int32).toInt = 1 := rfl
            have z24 : (24 : Int32).toInt = 24 := rfl
            have hw1 := ax_winI b.1 (a := a) (by rw [← ax_hasE hX.1 b.1]; exact h2)
            have he : e.toInt = 0 := by rw [h4]; rfl
            have hc0 : ¬ c.toInt < 0 := fun q => h5 (Int32.lt_iff_toInt_lt.mpr (by omega))
            have hc24 : ¬ 24 < c.toInt := fun q => h7 (Int32.lt_iff_toInt_lt.mpr (by omega))
            obtain ⟨k, hk1, hk3, hk4⟩ := pk_of (s := s) (a := a.toInt.toNat) (up := e.toInt.toNat) (by omega)
            refine kr_aload_n 1 rd_d_X11_plan_61 rfl ?_
            refine kr_getf G.1 (rd_FL rd_k_X11_plan_62).1 rd_d_X11_plan_62 (hS.1 0 (.inl 11) rfl) (v := .ref 68) (by unfold am_fa; rw [(rd_FL rd_k_X11_plan_62).2]; exact hS.2 0 9 68 rfl) ?_
            refine kr_iload_n 3 rd_d_X11_plan_65 rfl ?_
            refine kr_iload_n 2 rd_d_X11_plan_66 rfl ?_
            refine kr_iload_n 4 rd_d_X11_plan_67 rfl ?_
            refine ax_callV G (T2 := tX4_startGain) rfl rd_d_X11_plan_68 rd_k_X11_plan_68 rfl (hS.1 68 (.inl 4) rfl) (as := [.int e, .int a, .int c]) (st := []) rfl (Nat.le_of_ble_eq_true rfl) rfl (Nat.le_of_ble_eq_true rfl) (d1 := 7) (by decide) (fun _ h => by obtain ⟨⟨y, h, -⟩, -⟩ := h; cases h) (ax_sg G hS b bw b5 hC0 hCH hX hP (UP := e.toInt.toNat) (k := k) (F := c.toInt.toNat) (by omega) (by omega) hk1 (by rw [hk3]; omega) (by omega) (by omega)) ?_
            intro v1 σ1 ⟨⟨y1, hv1, hy1⟩, hS1, hf1, hn1, hP1, hl1⟩
            cases hv1
            have hX1 : pc_X s σ1 := pc_F hX (fun x y q => hf1 x y (by omega) (by omega) (by omega) (by omega) (by omega) (by omega) (by omega) (fun z => by omega))
            have hb := pc_B b.1 hX1
            rw [hk4] at hy1
            have ey : y1 = pz_v s a e c := ch_ofN hy1
            refine kr_aload_n 1 rd_d_X11_plan_71 rfl ?_
            refine kr_getf G.1 (rd_FL rd_k_X11_plan_72).1 rd_d_X11_plan_72 (hS1.1 0 (.inl 11) rfl) (v := .ref 4) (by unfold am_fa; rw [(rd_FL rd_k_X11_plan_72).2]; exact hS1.2 0 2 4 rfl) ?_
            refine ax_callV G (T2 := tX9_unit) rfl rd_d_X11_plan_75 rd_k_X11_plan_75 rfl (hS1.1 4 (.inl 9) rfl) (as := []) (st := [.int y1]) rfl (Nat.le_of_ble_eq_true rfl) rfl (Nat.le_of_ble_eq_true rfl) (d1 := 2) (by decide) (fun _ h => by cases h.1) (ax_uni G hS1 hb) ?_
            intro v41 σ41 ⟨hv41, hs41⟩
            cases hv41
            rw [hs41]
            refine kr_iload 5 rd_d_X11_plan_78 rfl ?_
            refine ax_callS G (T2 := tX11_part) rfl rd_d_X11_plan_80 rd_k_X11_plan_80 rfl rfl (as := [.int y1, .int (ax_f_uni σ1.2.1), .int d]) (st := []) rfl (Nat.le_of_ble_eq_true rfl) rfl (Nat.le_of_ble_eq_true rfl) (d1 := 1) (by decide) (fun _ h => by cases h.1) (ax_ptX G y1 (ax_f_uni σ1.2.1) d (by rw [hy1]; exact Int.natCast_nonneg _) (uni_1 hX1.1 b b3)) ?_
            intro v42 σ42 ⟨hv42, hs42⟩
            cases hv42
            rw [hs42]
            refine kr_ireturn rd_d_X11_plan_83 (ty := .int) rfl rfl ?_
            rw [ax_f_plX, if_neg h2, if_pos h4, if_neg h5, if_neg h7, if_neg h11]
            rw [uni_eq hX1.1 b.1, ey]
            exact ⟨rfl, hS1, hf1, hn1, hP1, hl1⟩
          · refine ax_throw G (mc := 0) (ms := 0) rd_d_X11_plan_50 rd_k_X11_plan_50 (by decide) (Nat.le_of_ble_eq_true rfl) (fun J hJ => ?_)
            rw [ax_f_plX, if_neg h2, if_pos h4, if_neg h5, if_neg h7, if_pos h11]
            exact ⟨rfl, J, hJ, rfl⟩
    · refine kr_iload_n 2 rd_d_X11_plan_15 rfl ?_
      refine kr_iconst (v := 1) rd_d_X11_plan_16 (by decide) ?_
      refine kr_icmp_ne (tgt := 34) rd_d_X11_plan_17 rfl (fun h12 => ?_) (fun h12 => ?_)
      · refine kr_iconst (v := 0) rd_d_X11_plan_34 (by decide) ?_
        refine kr_istore (lv' := [(5, .int 0), (0, .ref 0), (1, .int a), (2, .int e), (3, .int c), (4, .int d)]) rd_d_X11_plan_35 (by decide) rfl ?_
        refine kr_iload 0 rd_d_X11_plan_37 rfl ?_
        refine kr_if_eq (tgt := 50) rd_d_X11_plan_39 rfl (fun _ => ?_) (fun h => absurd rfl h)
        refine ax_throw G (mc := 0) (ms := 0) rd_d_X11_plan_50 rd_k_X11_plan_50 (by decide) (Nat.le_of_ble_eq_true rfl) (fun J hJ => ?_)
        rw [ax_f_plX, if_neg h2, if_neg h4, if_neg h12]
        exact ⟨rfl, J, hJ, rfl⟩
      · refine kr_iload_n 3 rd_d_X11_plan_20 rfl ?_
        refine kr_if_lt (tgt := 34) rd_d_X11_plan_21 rfl (fun h14 => ?_) (fun h14 => ?_)
        · refine kr_iconst (v := 0) rd_d_X11_plan_34 (by decide) ?_
          refine kr_istore (lv' := [(5, .int 0), (0, .ref 0), (1, .int a), (2, .int e), (3, .int c), (4, .int d)]) rd_d_X11_plan_35 (by decide) rfl ?_
          refine kr_iload 0 rd_d_X11_plan_37 rfl ?_
          refine kr_if_eq (tgt := 50) rd_d_X11_plan_39 rfl (fun _ => ?_) (fun h => absurd rfl h)
          refine ax_throw G (mc := 0) (ms := 0) rd_d_X11_plan_50 rd_k_X11_plan_50 (by decide) (Nat.le_of_ble_eq_true rfl) (fun J hJ => ?_)
          rw [ax_f_plX, if_neg h2, if_neg h4, if_pos h12, if_pos h14]
          exact ⟨rfl, J, hJ, rfl⟩
        · refine kr_iload_n 3 rd_d_X11_plan_24 rfl ?_
          refine kr_bipush (v := 24) rd_d_X11_plan_25 (by decide) ?_
          refine kr_icmp_gt (tgt := 34) rd_d_X11_plan_27 rfl (fun h16 => ?_) (fun h16 => ?_)
          · refine kr_iconst (v := 0) rd_d_X11_plan_34 (by decide) ?_
            refine kr_istore (lv' := [(5, .int 0), (0, .ref 0), (1, .int a), (2, .int e), (3, .int c), (4, .int d)]) rd_d_X11_plan_35 (by decide) rfl ?_
            refine kr_iload 0 rd_d_X11_plan_37 rfl ?_
            refine kr_if_eq (tgt := 50) rd_d_X11_plan_39 rfl (fun _ => ?_) (fun h => absurd rfl h)
            refine ax_throw G (mc := 0) (ms := 0) rd_d_X11_plan_50 rd_k_X11_plan_50 (by decide) (Nat.le_of_ble_eq_true rfl) (fun J hJ => ?_)
            rw [ax_f_plX, if_neg h2, if_neg h4, if_pos h12, if_neg h14, if_pos h16]
            exact ⟨rfl, J, hJ, rfl⟩
          · refine kr_iconst (v := 1) rd_d_X11_plan_30 (by decide) ?_
            refine kr_goto (tgt := 35) rd_d_X11_plan_31 rfl ?_
            refine kr_istore (lv' := [(5, .int 1), (0, .ref 0), (1, .int a), (2, .int e), (3, .int c), (4, .int d)]) rd_d_X11_plan_35 (by decide) rfl ?_
            refine kr_iload 0 rd_d_X11_plan_37 rfl ?_
            refine kr_if_eq (tgt := 50) rd_d_X11_plan_39 rfl (fun h => absurd h (by decide)) (fun _ => ?_)
            refine kr_iload 5 rd_d_X11_plan_42 rfl ?_
            refine ax_callS G (T2 := tX11_isPart) rfl rd_d_X11_plan_44 rd_k_X11_plan_44 rfl rfl (as := [.int d]) (st := []) rfl (Nat.le_of_ble_eq_true rfl) rfl (Nat.le_of_ble_eq_true rfl) (d1 := 1) (by decide) (fun _ h => by cases h.1) (ax_isp G hS d) ?_
            intro v19 σ19 ⟨hv19, hs19⟩
            cases hv19
            rw [hs19]
            refine kr_if_ne (tgt := 61) rd_d_X11_plan_47 rfl (fun h20 => ?_) (fun h20 => ?_)
            · have z0 : (0 : Int32).toInt = 0 := rfl
              have z1 : (1 : Int32).toInt = 1 := rfl
              have z24 : (24 : Int32).toInt = 24 := rfl
              have hw1 := ax_winI b.1 (a := a) (by rw [← ax_hasE hX.1 b.1]; exact h2)
              have he : e.toInt = 1 := by rw [h12]; rfl
              have hc0 : ¬ c.toInt < 0 := fun q => h14 (Int32.lt_iff_toInt_lt.mpr (by omega))
              have hc24 : ¬ 24 < c.toInt := fun q => h16 (Int32.lt_iff_toInt_lt.mpr (by omega))
              obtain ⟨k, hk1, hk3, hk4⟩ := pk_of (s := s) (a := a.toInt.toNat) (up := e.toInt.toNat) (by omega)
              refine kr_aload_n 1 rd_d_X11_plan_61 rfl ?_
              refine kr_getf G.1 (rd_FL rd_k_X11_plan_62).1 rd_d_X11_plan_62 (hS.1 0 (.inl 11) rfl) (v := .ref 68) (by unfold am_fa; rw [(rd_FL rd_k_X11_plan_62).2]; exact hS.2 0 9 68 rfl) ?_
              refine kr_iload_n 3 rd_d_X11_plan_65 rfl ?_
              refine kr_iload_n 2 rd_d_X11_plan_66 rfl ?_
              refine kr_iload_n 4 rd_d_X11_plan_67 rfl ?_
              refine ax_callV G (T2 := tX4_startGain) rfl rd_d_X11_plan_68 rd_k_X11_plan_68 rfl (hS.1 68 (.inl 4) rfl) (as := [.int e, .int a, .int c]) (st := []) rfl (Nat.le_of_ble_eq_true rfl) rfl (Nat.le_of_ble_eq_true rfl) (d1 := 7) (by decide) (fun _ h => by obtain ⟨⟨y, h, -⟩, -⟩ := h; cases h) (ax_sg G hS b bw b5 hC0 hCH hX hP (UP := e.toInt.toNat) (k := k) (F := c.toInt.toNat) (by omega) (by omega) hk1 (by rw [hk3]; omega) (by omega) (by omega)) ?_
              intro v1 σ1 ⟨⟨y1, hv1, hy1⟩, hS1, hf1, hn1, hP1, hl1⟩
              cases hv1
              have hX1 : pc_X s σ1 := pc_F hX (fun x y q => hf1 x y (by omega) (by omega) (by omega) (by omega) (by omega) (by omega) (by omega) (fun z => by omega))
              have hb := pc_B b.1 hX1
              rw [hk4] at hy1
              have ey : y1 = pz_v s a e c := ch_ofN hy1
              refine kr_aload_n 1 rd_d_X11_plan_71 rfl ?_
              refine kr_getf G.1 (rd_FL rd_k_X11_plan_72).1 rd_d_X11_plan_72 (hS1.1 0 (.inl 11) rfl) (v := .ref 4) (by unfold am_fa; rw [(rd_FL rd_k_X11_plan_72).2]; exact hS1.2 0 2 4 rfl) ?_
              refine ax_callV G (T2 := tX9_unit) rfl rd_d_X11_plan_75 rd_k_X11_plan_75 rfl (hS1.1 4 (.inl 9) rfl) (as := []) (st := [.int y1]) rfl (Nat.le_of_ble_eq_true rfl) rfl (Nat.le_of_ble_eq_true rfl) (d1 := 2) (by decide) (fun _ h => by cases h.1) (ax_uni G hS1 hb) ?_
              intro v41 σ41 ⟨hv41, hs41⟩
              cases hv41
              rw [hs41]
              refine kr_iload 5 rd_d_X11_plan_78 rfl ?_
              refine ax_callS G (T2 := tX11_part) rfl rd_d_X11_plan_80 rd_k_X11_plan_80 rfl rfl (as := [.int y1, .int (ax_f_uni σ1.2.1), .int d]) (st := []) rfl (Nat.le_of_ble_eq_true rfl) rfl (Nat.le_of_ble_eq_true rfl) (d1 := 1) (by decide) (fun _ h => by cases h.1) (ax_ptX G y1 (ax_f_uni σ1.2.1) d (by rw [hy1]; exact Int.natCast_nonneg _) (uni_1 hX1.1 b b3)) ?_
              intro v42 σ42 ⟨hv42, hs42⟩
              cases hv42
              rw [hs42]
              refine kr_ireturn rd_d_X11_plan_83 (ty := .int) rfl rfl ?_
              rw [ax_f_plX, if_neg h2, if_neg h4, if_pos h12, if_neg h14, if_neg h16, if_neg h20]
              rw [uni_eq hX1.1 b.1, ey]
              exact ⟨rfl, hS1, hf1, hn1, hP1, hl1⟩
            · refine ax_throw G (mc := 0) (ms := 0) rd_d_X11_plan_50 rd_k_X11_plan_50 (by decide) (Nat.le_of_ble_eq_true rfl) (fun J hJ => ?_)
              rw [ax_f_plX, if_neg h2, if_neg h4, if_pos h12, if_neg h14, if_neg h16, if_pos h20]
              exact ⟨rfl, J, hJ, rfl⟩
theorem ax_tif0 (G : sx_G0 g L xs z9 hd_C ex_mt) {σ : am_S} (hS : ax_S σ) : am_K g 1 tX12_throwsIf.1 0 0 0 (lv_args 0 [.ref 118, .int 0]) [] σ (fun r σ' => r = some (some (.int 0)) ∧ ax_S σ' ∧ (∀ o k, o ≠ 118 → σ'.2.1 o k = σ.2.1 o k) ∧ σ'.2.1 118 0 = 0) := by
  have hty := (rd_FPi rd_k_X12_throwsIf_10).2
  refine kr_aload_n 0 rd_d_X12_throwsIf_0 rfl ?_
  refine kr_iload_n 1 rd_d_X12_throwsIf_1 rfl ?_
  refine kr_if_eq (tgt := 9) rd_d_X12_throwsIf_2 rfl (fun _ => ?_) (fun h => absurd rfl h)
  refine kr_iconst (v := 0) rd_d_X12_throwsIf_9 (by decide) ?_
  refine kr_putI G.1 (rd_FPi rd_k_X12_throwsIf_10).1 rd_d_X12_throwsIf_10 (hS.1 118 (.inl 12) rfl) (by rw [hty]; rfl) (by rw [hty]; rfl) (by rw [hty]; rfl) ?_
  refine kr_iload_n 1 rd_d_X12_throwsIf_13 rfl ?_
  exact kr_ireturn rd_d_X12_throwsIf_14 (ty := .boolean) rfl rfl ⟨rfl, hS, fun o k h => am_up_o _ _ h, show am_up σ.2.1 118 0 0 118 0 = 0 from am_up_s _ _ _ _⟩
theorem ax_tif1 (G : sx_G0 g L xs z9 hd_C ex_mt) {σ : am_S} (hS : ax_S σ) : am_K g 1 tX12_throwsIf.1 0 0 0 (lv_args 0 [.ref 118, .int 1]) [] σ (fun r σ' => r = some (some (.int 1)) ∧ ax_S σ' ∧ (∀ o k, o ≠ 118 → σ'.2.1 o k = σ.2.1 o k) ∧ σ'.2.1 118 0 = 1) := by
  have hty := (rd_FPi rd_k_X12_throwsIf_10).2
  refine kr_aload_n 0 rd_d_X12_throwsIf_0 rfl ?_
  refine kr_iload_n 1 rd_d_X12_throwsIf_1 rfl ?_
  refine kr_if_eq (tgt := 9) rd_d_X12_throwsIf_2 rfl (fun h => absurd h (by decide)) (fun _ => ?_)
  refine kr_iconst (v := 1) rd_d_X12_throwsIf_5 (by decide) ?_
  refine kr_goto (tgt := 10) rd_d_X12_throwsIf_6 rfl ?_
  refine kr_putI G.1 (rd_FPi rd_k_X12_throwsIf_10).1 rd_d_X12_throwsIf_10 (hS.1 118 (.inl 12) rfl) (by rw [hty]; rfl) (by rw [hty]; rfl) (by rw [hty]; rfl) ?_
  refine kr_iload_n 1 rd_d_X12_throwsIf_13 rfl ?_
  exact kr_ireturn rd_d_X12_throwsIf_14 (ty := .boolean) rfl rfl ⟨rfl, hS, fun o k h => am_up_o _ _ h, show am_up σ.2.1 118 0 1 118 0 = 1 from am_up_s _ _ _ _⟩
theorem ax_try (G : sx_G0 g L xs z9 hd_C ex_mt) {mi2 : Nat} {T T2 : ex_T} (hT2 : ex_mt mi2 = some T2) {pc i p li pck n bc bs ci p1 p2 p3 p4 : Nat} (hd : decode T.1.2.1 pc = .ok (.invokevirtual i, 3)) (hl : ex_lk ex_mt T pc (.invokevirtual i) [1, mi2, p, li, pck] = true) (hm : T2.2.1 = [1, n, bc, bs, ci, p1, p2, p3, p4]) {o : Nat} {σ : am_S} (ho : σ.1[o]? = some (.inl ci)) {as st stk : List Value} (hn : as.length = n) (hlen : (lg_sl (.ref o :: as)).length ≤ T2.1.2.2.1) (hst : stk = as.reverse ++ .ref o :: st) (hroom : (st.map fun v => v.category).sum ≤ 8) {d d1 mc ms mc1 ms1 : Nat} (hd1 : d1 + 1 ≤ d) {lv : List (Nat × Value)} {post post1 : Option (Option Value) → am_S → Prop} (k1 : am_K g d1 T2.1 mc1 ms1 0 (lv_args 0 (.ref o :: as)) [] σ post1) (kk : ∀ v σ', post1 (some v) σ' → am_K g d T.1 mc ms (pc + 3) lv (v.toList ++ st) σ' post) (kx : ∀ σ', post1 none σ' → post (some (some (.int 1))) σ') : am_K g d T.1 (mc1 + mc) (ms1 + ms) pc lv stk σ post := by
  unfold ex_lk at hl
  simp only [hT2] at hl
  split at hl
  · rename_i ta tb th tc hh
    simp only [Bool.and_eq_true, decide_eq_true_eq] at hl
    obtain ⟨l1, l2, l3, l4, l5, l6, l7, l8, l9, l10⟩ := hl
    obtain ⟨m1, m2, m3, U, N, m4⟩ := ex_mok_V (G.2.2.2.1 mi2 T2 hT2) hm
    exact kr_try G.1 m4 ho m1 m2 m3 (ex_mem_ok l10) hd hn hlen hst hroom hd1 l1 hh (by simpa [covers] using l2) l3 (ex_mem_ok l4) (of_decide_eq_true l5) (of_decide_eq_true l6) (of_decide_eq_true l7) l8 l9 k1 kk kx
  · cases hl
/-- the law's helper: 0 and the answer kept, or 1 -/
abbrev ax_TL (v : Option Int32) (σ : am_S) : Option (Option Value) → am_S → Prop := fun r σ' => match v with
  | some y => r = some (some (.int 0)) ∧ σ' = (σ.1, σ.2.1, am_up σ.2.2.1 138 0 y.toInt64, σ.2.2.2)
  | none => r = some (some (.int 1)) ∧ ∃ J : List am_sh, (∀ x ∈ J, x = .inl 99) ∧ σ' = (σ.1 ++ J, σ.2)
/-- what the reference tells of a throw -/
abbrev ax_TM (K : Nat) (v : Option Int32) : Option (Option Value) → am_S → Prop := fun r σ' => ∃ y : Int32, r = some (some (.int y)) ∧ ax_S σ' ∧ (match v with
  | some z => y = z ∧ σ'.2.1 118 K = 0
  | none => σ'.2.1 118 K = 1)
def ax_f_end (s : Nat → Int32) (a : Int32) : Int32 := if a = 1 then (s 0) - 1 else 0
theorem ax_end (G : sx_G0 g L xs z9 hd_C ex_mt) {σ : am_S} (hS : ax_S σ) (a : Int32) : am_K g 1 tX12_endOf.1 0 0 0 (lv_args 0 [.ref 118, .int a]) [] σ (ax_R (ax_f_end (σ.2.1 120) a) σ) := by
  refine kr_iload_n 1 rd_d_X12_endOf_0 rfl ?_
  refine kr_iconst (v := 1) rd_d_X12_endOf_1 (by decide) ?_
  refine kr_icmp_ne (tgt := 16) rd_d_X12_endOf_2 rfl (fun h1 => ?_) (fun h1 => ?_)
  · refine kr_iconst (v := 0) rd_d_X12_endOf_16 (by decide) ?_
    exact kr_ireturn rd_d_X12_endOf_17 (ty := .int) rfl rfl ⟨by rw [ax_f_end, if_neg h1], rfl⟩
  · refine kr_aload_n 0 rd_d_X12_endOf_5 rfl ?_
    refine kr_getf G.1 (rd_FL rd_k_X12_endOf_6).1 rd_d_X12_endOf_6 (hS.1 118 (.inl 12) rfl) (v := .ref 120) (by unfold am_fa; rw [(rd_FL rd_k_X12_endOf_6).2]; exact hS.2 118 6 120 rfl) ?_
    refine kr_iconst (v := 0) rd_d_X12_endOf_9 (by decide) ?_
    refine kr_iald G.1 (n := 277) rd_d_X12_endOf_10 (hS.1 120 (.inr (.int, 277)) rfl) (hd_in (n := 0) (by decide) (by decide)) ?_
    rw [hd_clamp (n := 0) (by decide)]
    refine kr_iconst (v := 1) rd_d_X12_endOf_11 (by decide) ?_
    refine kr_isub rd_d_X12_endOf_12 ?_
    refine kr_goto (tgt := 17) rd_d_X12_endOf_13 rfl ?_
    exact kr_ireturn rd_d_X12_endOf_17 (ty := .int) rfl rfl ⟨by rw [ax_f_end, if_pos h1], rfl⟩
theorem pz_in {x l h : Int32} (q : ¬ ax_f_isIn x l h = 0) : l.toInt ≤ x.toInt ∧ x.toInt ≤ h.toInt := by
  rw [ax_f_isIn] at q
  split at q
  · exact absurd rfl q
  · rename_i q1
    split at q
    · exact absurd rfl q
    · rename_i q2
      have g1 : ¬ x.toInt < l.toInt := fun z => q1 (Int32.lt_iff_toInt_lt.mpr z)
      have g2 : ¬ h.toInt < x.toInt := fun z => q2 (Int32.lt_iff_toInt_lt.mpr z)
      omega
theorem pz_end {s : Nat → Int32} {e : Int32} {W : Nat} (hW : (s 0).toInt = (W : Int)) (h1 : 1 ≤ W) (he : (0 : Int32).toInt ≤ e.toInt ∧ e.toInt ≤ (1 : Int32).toInt) : (ax_f_end s e).toInt = ((if e.toInt.toNat = 1 then W - 1 else 0 : Nat) : Int) := by
  have z1 : (1 : Int32).toInt = 1 := rfl
  have z0 : (0 : Int32).toInt = 0 := rfl
  rw [ax_f_end]
  by_cases q : e = 1
  · have q1 : e.toInt.toNat = 1 := by rw [q]; rfl
    rw [if_pos q, if_pos q1, ch_sub hW (y := 1) (b := 1) rfl h1]
  · have q1 : ¬ e.toInt.toNat = 1 := fun z => q (Int32.toInt_inj.mp (by omega))
    rw [if_neg q, if_neg q1]
    rfl
def ax_f_plM (s : Nat → Int32) (a e c d : Int32) : Option Int32 := if (ax_f_win (s) a) = 0 then none else if (ax_f_isIn e 0 1) = 0 then none else if (ax_f_isIn c 0 24) = 0 then none else if (ax_f_isIn d 0 1) = 0 then none else some (ax_pt (pz_v (s) a e c) (ax_f_bel (s)) d)
theorem ax_plM (G : sx_G0 g L xs z9 hd_C ex_mt) {σ : am_S} (hS : ax_S σ) (b : pn_B (σ.2.1 120)) (b3 : pl_B3 (σ.2.1 120)) (a e c d : Int32) : am_K g 10 tX12_plan.1 0 0 0 (lv_args 0 [.ref 118, .int a, .int e, .int c, .int d]) [] σ (ax_TM 0 (ax_f_plM (σ.2.1 120) a e c d)) := by
  refine kr_aload_n 0 rd_d_X12_plan_0 rfl ?_
  refine kr_aload_n 0 rd_d_X12_plan_1 rfl ?_
  refine kr_iload_n 1 rd_d_X12_plan_2 rfl ?_
  refine rd_call G (T2 := tX12_isWindow) rfl rd_d_X12_plan_3 rd_k_X12_plan_3 rfl (hS.1 118 (.inl 12) rfl) (as := [.int a]) (st := [.ref 118]) rfl (Nat.le_of_ble_eq_true rfl) rfl (Nat.le_of_ble_eq_true rfl) (d1 := 2) (by decide) (fun _ h => by cases h.1) (ax_win G hS a) ?_
  intro v1 σ1 ⟨hv1, hs1⟩
  cases hv1
  rw [hs1]
  refine kr_if_eq (tgt := 38) rd_d_X12_plan_6 rfl (fun h2 => ?_) (fun h2 => ?_)
  · refine kr_iconst (v := 1) rd_d_X12_plan_38 (by decide) ?_
    refine kr_goto (tgt := 43) rd_d_X12_plan_39 rfl ?_
    refine rd_call G (T2 := tX12_throwsIf) rfl rd_d_X12_plan_43 rd_k_X12_plan_43 rfl (hS.1 118 (.inl 12) rfl) (as := [.int 1]) (st := []) rfl (Nat.le_of_ble_eq_true rfl) rfl (Nat.le_of_ble_eq_true rfl) (d1 := 1) (by decide) (fun _ h => by cases h.1) (ax_tif1 G hS) ?_
    intro v0 τ ⟨hv0, hT, hm, hK⟩
    cases hv0
    refine kr_if_eq (tgt := 51) rd_d_X12_plan_46 rfl (fun h => absurd h (by decide)) (fun _ => ?_)
    refine kr_iconst (v := 0) rd_d_X12_plan_49 (by decide) ?_
    refine kr_ireturn rd_d_X12_plan_50 (ty := .int) rfl rfl ⟨_, rfl, hT, ?_⟩
    rw [ax_f_plM, if_pos h2]
    exact hK
  · refine kr_iload_n 2 rd_d_X12_plan_9 rfl ?_
    refine kr_iconst (v := 0) rd_d_X12_plan_10 (by decide) ?_
    refine kr_iconst (v := 1) rd_d_X12_plan_11 (by decide) ?_
    refine rd_callS G (T2 := tX12_isIn) rfl rd_d_X12_plan_12 rd_k_X12_plan_12 rfl rfl (as := [.int e, .int 0, .int 1]) (st := [.ref 118]) rfl (Nat.le_of_ble_eq_true rfl) rfl (Nat.le_of_ble_eq_true rfl) (d1 := 1) (by decide) (fun _ h => by cases h.1) (ax_isIn G hS e 0 1) ?_
    intro v3 σ3 ⟨hv3, hs3⟩
    cases hv3
    rw [hs3]
    refine kr_if_eq (tgt := 38) rd_d_X12_plan_15 rfl (fun h4 => ?_) (fun h4 => ?_)
    · refine kr_iconst (v := 1) rd_d_X12_plan_38 (by decide) ?_
      refine kr_goto (tgt := 43) rd_d_X12_plan_39 rfl ?_
      refine rd_call G (T2 := tX12_throwsIf) rfl rd_d_X12_plan_43 rd_k_X12_plan_43 rfl (hS.1 118 (.inl 12) rfl) (as := [.int 1]) (st := []) rfl (Nat.le_of_ble_eq_true rfl) rfl (Nat.le_of_ble_eq_true rfl) (d1 := 1) (by decide) (fun _ h => by cases h.1) (ax_tif1 G hS) ?_
      intro v0 τ ⟨hv0, hT, hm, hK⟩
      cases hv0
      refine kr_if_eq (tgt := 51) rd_d_X12_plan_46 rfl (fun h => absurd h (by decide)) (fun _ => ?_)
      refine kr_iconst (v := 0) rd_d_X12_plan_49 (by decide) ?_
      refine kr_ireturn rd_d_X12_plan_50 (ty := .int) rfl rfl ⟨_, rfl, hT, ?_⟩
      rw [ax_f_plM, if_neg h2, if_pos h4]
      exact hK
    · refine kr_iload_n 3 rd_d_X12_plan_18 rfl ?_
      refine kr_iconst (v := 0) rd_d_X12_plan_19 (by decide) ?_
      refine kr_bipush (v := 24) rd_d_X12_plan_20 (by decide) ?_
      refine rd_callS G (T2 := tX12_isIn) rfl rd_d_X12_plan_22 rd_k_X12_plan_22 rfl rfl (as := [.int c, .int 0, .int 24]) (st := [.ref 118]) rfl (Nat.le_of_ble_eq_true rfl) rfl (Nat.le_of_ble_eq_true rfl) (d1 := 1) (by decide) (fun _ h => by cases h.1) (ax_isIn G hS c 0 24) ?_
      intro v5 σ5 ⟨hv5, hs5⟩
      cases hv5
      rw [hs5]
      refine kr_if_eq (tgt := 38) rd_d_X12_plan_25 rfl (fun h6 => ?_) (fun h6 => ?_)
      · refine kr_iconst (v := 1) rd_d_X12_plan_38 (by decide) ?_
        refine kr_goto (tgt := 43) rd_d_X12_plan_39 rfl ?_
        refine rd_call G (T2 := tX12_throwsIf) rfl rd_d_X12_plan_43 rd_k_X12_plan_43 rfl (hS.1 118 (.inl 12) rfl) (as := [.int 1]) (st := []) rfl (Nat.le_of_ble_eq_true rfl) rfl (Nat.le_of_ble_eq_true rfl) (d1 := 1) (by decide) (fun _ h => by cases h.1) (ax_tif1 G hS) ?_
        intro v0 τ ⟨hv0, hT, hm, hK⟩
        cases hv0
        refine kr_if_eq (tgt := 51) rd_d_X12_plan_46 rfl (fun h => absurd h (by decide)) (fun _ => ?_)
        refine kr_iconst (v := 0) rd_d_X12_plan_49 (by decide) ?_
        refine kr_ireturn rd_d_X12_plan_50 (ty := .int) rfl rfl ⟨_, rfl, hT, ?_⟩
        rw [ax_f_plM, if_neg h2, if_neg h4, if_pos h6]
        exact hK
      · refine kr_iload 4 rd_d_X12_plan_28 rfl ?_
        refine kr_iconst (v := 0) rd_d_X12_plan_30 (by decide) ?_
        refine kr_iconst (v := 1) rd_d_X12_plan_31 (by decide) ?_
        refine rd_callS G (T2 := tX12_isIn) rfl rd_d_X12_plan_32 rd_k_X12_plan_32 rfl rfl (as := [.int d, .int 0, .int 1]) (st := [.ref 118]) rfl (Nat.le_of_ble_eq_true rfl) rfl (Nat.le_of_ble_eq_true rfl) (d1 := 1) (by decide) (fun _ h => by cases h.1) (ax_isIn G hS d 0 1) ?_
        intro v7 σ7 ⟨hv7, hs7⟩
        cases hv7
        rw [hs7]
        refine kr_if_ne (tgt := 42) rd_d_X12_plan_35 rfl (fun h8 => ?_) (fun h8 => ?_)
        · refine kr_iconst (v := 0) rd_d_X12_plan_42 (by decide) ?_
          refine rd_call G (T2 := tX12_throwsIf) rfl rd_d_X12_plan_43 rd_k_X12_plan_43 rfl (hS.1 118 (.inl 12) rfl) (as := [.int 0]) (st := []) rfl (Nat.le_of_ble_eq_true rfl) rfl (Nat.le_of_ble_eq_true rfl) (d1 := 1) (by decide) (fun _ h => by cases h.1) (ax_tif0 G hS) ?_
          intro v0 τ ⟨hv0, hT, hm, hK⟩
          cases hv0
          refine kr_if_eq (tgt := 51) rd_d_X12_plan_46 rfl (fun _ => ?_) (fun h => absurd rfl h)
          have eT : τ.2.1 120 = σ.2.1 120 := funext fun q => hm 120 q (by decide)
          have hB : pn_B (τ.2.1 120) := by rw [eT]; exact b
          have hw1 := ax_winI b.1 h2
          have he1 := pz_in h4
          have hc1 := pz_in h6
          have z1 : (1 : Int32).toInt = 1 := rfl
          have z24 : (24 : Int32).toInt = 24 := rfl
          have z0 : (0 : Int32).toInt = 0 := rfl
          obtain ⟨W, hW⟩ : ∃ W : Nat, (σ.2.1 120 0).toInt = (W : Int) := ⟨(σ.2.1 120 0).toInt.toNat, by omega⟩
          have ee : (ax_f_end (σ.2.1 120) e).toInt = ((if e.toInt.toNat = 1 then W - 1 else 0 : Nat) : Int) := pz_end hW (by omega) he1
          have e10 := b.1.1.2
          refine kr_aload_n 0 rd_d_X12_plan_51 rfl ?_
          refine kr_iload_n 1 rd_d_X12_plan_52 rfl ?_
          refine kr_aload_n 0 rd_d_X12_plan_53 rfl ?_
          refine kr_iload_n 2 rd_d_X12_plan_54 rfl ?_
          refine rd_call G (T2 := tX12_endOf) rfl rd_d_X12_plan_55 rd_k_X12_plan_55 rfl (hT.1 118 (.inl 12) rfl) (as := [.int e]) (st := [.int a, .ref 118]) rfl (Nat.le_of_ble_eq_true rfl) rfl (Nat.le_of_ble_eq_true rfl) (d1 := 1) (by decide) (fun _ h => by cases h.1) (ax_end G hT e) ?_
          intro v41 σ41 ⟨hv41, hs41⟩
          cases hv41
          rw [hs41]
          refine kr_iload_n 3 rd_d_X12_plan_58 rfl ?_
          rw [eT]
          refine rd_call G (T2 := tX12_planOf) rfl rd_d_X12_plan_59 rd_k_X12_plan_59 rfl (hT.1 118 (.inl 12) rfl) (as := [.int a, .int (ax_f_end (σ.2.1 120) e), .int c]) (st := []) rfl (Nat.le_of_ble_eq_true rfl) rfl (Nat.le_of_ble_eq_true rfl) (d1 := 8) (by decide) (fun _ h => by obtain ⟨⟨y, h, -⟩, -⟩ := h; cases h) (ax_pof G hT (aa := a.toInt.toNat) (bb := if e.toInt.toNat = 1 then W - 1 else 0) (F := c.toInt.toNat) (by omega) ee (by omega) (by omega) (by split <;> omega) (by omega) hB) ?_
          intro v1 τ1 ⟨⟨y1, hv1, hy1⟩, hT1, hf1, _⟩
          cases hv1
          rw [eT, pz_rowM hW (by omega)] at hy1
          have ey : y1 = pz_v (σ.2.1 120) a e c := ch_ofN hy1
          have eT1 : τ1.2.1 120 = σ.2.1 120 := (funext fun q => hf1 120 q (by decide) (by decide)).trans eT
          have hb : pl_B (τ1.2.1 120) := by rw [eT1]; exact b.1
          refine kr_aload_n 0 rd_d_X12_plan_62 rfl ?_
          refine rd_call G (T2 := tX12_below) rfl rd_d_X12_plan_63 rd_k_X12_plan_63 rfl (hT1.1 118 (.inl 12) rfl) (as := []) (st := [.int y1]) rfl (Nat.le_of_ble_eq_true rfl) rfl (Nat.le_of_ble_eq_true rfl) (d1 := 4) (by decide) (fun _ h => by cases h.1) (ax_bel G hT1 hb) ?_
          intro v42 σ42 ⟨hv42, hs42⟩
          cases hv42
          rw [hs42]
          refine kr_iload 4 rd_d_X12_plan_66 rfl ?_
          refine rd_callS G (T2 := tX12_part) rfl rd_d_X12_plan_68 rd_k_X12_plan_68 rfl rfl (as := [.int y1, .int (ax_f_bel (τ1.2.1 120)), .int d]) (st := []) rfl (Nat.le_of_ble_eq_true rfl) rfl (Nat.le_of_ble_eq_true rfl) (d1 := 1) (by decide) (fun _ h => by cases h.1) (ax_ptM G y1 (ax_f_bel (τ1.2.1 120)) d (by rw [hy1]; exact Int.natCast_nonneg _) (by rw [eT1]; exact bel_b b.1 b.2.1 b3)) ?_
          intro v43 σ43 ⟨hv43, hs43⟩
          cases hv43
          rw [hs43]
          refine kr_ireturn rd_d_X12_plan_71 (ty := .int) rfl rfl ⟨_, rfl, hT1, ?_⟩
          rw [ax_f_plM, if_neg h2, if_neg h4, if_neg h6, if_neg h8]
          exact ⟨by rw [eT1, ey], by rw [hf1 118 0 (by decide) (by decide)]; exact hK⟩
        · refine kr_iconst (v := 1) rd_d_X12_plan_38 (by decide) ?_
          refine kr_goto (tgt := 43) rd_d_X12_plan_39 rfl ?_
          refine rd_call G (T2 := tX12_throwsIf) rfl rd_d_X12_plan_43 rd_k_X12_plan_43 rfl (hS.1 118 (.inl 12) rfl) (as := [.int 1]) (st := []) rfl (Nat.le_of_ble_eq_true rfl) rfl (Nat.le_of_ble_eq_true rfl) (d1 := 1) (by decide) (fun _ h => by cases h.1) (ax_tif1 G hS) ?_
          intro v0 τ ⟨hv0, hT, hm, hK⟩
          cases hv0
          refine kr_if_eq (tgt := 51) rd_d_X12_plan_46 rfl (fun h => absurd h (by decide)) (fun _ => ?_)
          refine kr_iconst (v := 0) rd_d_X12_plan_49 (by decide) ?_
          refine kr_ireturn rd_d_X12_plan_50 (ty := .int) rfl rfl ⟨_, rfl, hT, ?_⟩
          rw [ax_f_plM, if_neg h2, if_neg h4, if_neg h6, if_pos h8]
          exact hK
theorem pl_eq {m : Nat → Nat → Int32} {s : Nat → Int32} (h : pl_R m 4 s) (b : pl_B s) (a e c d : Int32) : ax_f_plX m s a e c d = ax_f_plM s a e c d := by
  have z0 : (0 : Int32).toInt = 0 := rfl
  have z24 : (24 : Int32).toInt = 24 := rfl
  have i := isp_eq e
  rw [ax_f_isp] at i
  have j : ax_f_isIn c 0 24 = if c < 0 then 0 else if 24 < c then 0 else 1 := by rw [ax_f_isIn]
  rw [ax_f_plX, ax_f_plM, ax_hasE h b, isp_eq d, ← i, j]
  by_cases ha : ax_f_win s a = 0
  · rw [if_pos ha, if_pos ha]
  · rw [if_neg ha, if_neg ha]
    by_cases e0 : e = 0
    · rw [if_pos e0, if_pos e0, if_neg (c := (1 : Int32) = 0) (by decide)]
      by_cases c0 : c < 0
      · rw [if_pos c0, if_pos c0, if_pos rfl]
      · rw [if_neg c0, if_neg c0]
        by_cases c1 : 24 < c
        · rw [if_pos c1, if_pos c1, if_pos rfl]
        · rw [if_neg c1, if_neg c1, if_neg (c := (1 : Int32) = 0) (by decide)]
    · rw [if_neg e0, if_neg e0]
      by_cases e1 : e = 1
      · rw [if_pos e1, if_pos e1, if_neg (c := (1 : Int32) = 0) (by decide)]
        by_cases c0 : c < 0
        · rw [if_pos c0, if_pos c0, if_pos rfl]
        · rw [if_neg c0, if_neg c0]
          by_cases c1 : 24 < c
          · rw [if_pos c1, if_pos c1, if_pos rfl]
          · rw [if_neg c1, if_neg c1, if_neg (c := (1 : Int32) = 0) (by decide)]
      · rw [if_neg e1, if_neg e1, if_pos rfl]
end AXX
