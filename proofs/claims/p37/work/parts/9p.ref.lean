/-! image and restore of the reference, exactly (rows written by a program) -/
def ax_bk (m : Nat → Nat → Int32) (D off S so n : Nat) : Nat → Nat → Int32 := fun o k => if o = D ∧ off ≤ k ∧ k < off + n then m S (so + (k - off)) else m o k
theorem ax_bk_o {m : Nat → Nat → Int32} {D off S so n o k : Nat} (h : o ≠ D) : ax_bk m D off S so n o k = m o k := if_neg (fun q => h q.1)
theorem ax_bk_n {m : Nat → Nat → Int32} {D off S so n k : Nat} (h : ¬ (off ≤ k ∧ k < off + n)) : ax_bk m D off S so n D k = m D k := if_neg (fun q => h q.2)
theorem ax_bk_d {m : Nat → Nat → Int32} {D off S so n k : Nat} (h : off ≤ k ∧ k < off + n) : ax_bk m D off S so n D k = m S (so + (k - off)) := if_pos ⟨rfl, h⟩
theorem ax_bk0 (m : Nat → Nat → Int32) (D off S so : Nat) : ax_bk m D off S so 0 = m := by
  funext o k
  by_cases a : o = D
  · subst a
    exact ax_bk_n (by omega)
  · exact ax_bk_o a
theorem ax_bkS (m : Nat → Nat → Int32) {D S : Nat} (h : S ≠ D) (off so n : Nat) : am_up (ax_bk m D off S so n) D (off + n) (ax_bk m D off S so n S (so + n)) = ax_bk m D off S so (n + 1) := by
  rw [ax_bk_o h]
  funext o k
  by_cases a : o = D
  · subst a
    by_cases b : k = off + n
    · subst b
      rw [am_up_s, ax_bk_d (by omega), show off + n - off = n by omega]
    · rw [am_up_n _ _ (fun q => b q.2)]
      by_cases c : off ≤ k ∧ k < off + n
      · rw [ax_bk_d c, ax_bk_d (by omega)]
      · rw [ax_bk_n c, ax_bk_n (by omega)]
  · rw [am_up_o _ _ a, ax_bk_o a, ax_bk_o a]
theorem rd_d_X12_image_0 : decode tX12_image.1.2.1 0 = .ok (.aload_n 0, 1) := by decide +kernel
theorem rd_d_X12_image_1 : decode tX12_image.1.2.1 1 = .ok (.iconst 0, 1) := by decide +kernel
theorem rd_d_X12_image_2 : decode tX12_image.1.2.1 2 = .ok (.putfield 1, 3) := by decide +kernel
theorem rd_k_X12_image_2 : ex_lk ex_mt tX12_image 2 (.putfield 1) [12, 0, 0, 458767] = true := by decide +kernel
theorem rd_d_X12_image_5 : decode tX12_image.1.2.1 5 = .ok (.iload_n 1, 1) := by decide +kernel
theorem rd_d_X12_image_6 : decode tX12_image.1.2.1 6 = .ok (.iconst 0, 1) := by decide +kernel
theorem rd_d_X12_image_7 : decode tX12_image.1.2.1 7 = .ok (.iconst 1, 1) := by decide +kernel
theorem rd_d_X12_image_8 : decode tX12_image.1.2.1 8 = .ok (.invokestatic 134, 3) := by decide +kernel
theorem rd_k_X12_image_8 : ex_lk ex_mt tX12_image 8 (.invokestatic 134) [0, 119, 458953] = true := by decide +kernel
theorem rd_d_X12_image_11 : decode tX12_image.1.2.1 11 = .ok (.ifCond .ne 5, 3) := by decide +kernel
theorem rd_d_X12_image_14 : decode tX12_image.1.2.1 14 = .ok (.iconst 0, 1) := by decide +kernel
theorem rd_d_X12_image_15 : decode tX12_image.1.2.1 15 = .ok (.ireturn, 1) := by decide +kernel
theorem rd_d_X12_image_16 : decode tX12_image.1.2.1 16 = .ok (.iconst 0, 1) := by decide +kernel
theorem rd_d_X12_image_17 : decode tX12_image.1.2.1 17 = .ok (.istore_n 2, 1) := by decide +kernel
theorem rd_d_X12_image_18 : decode tX12_image.1.2.1 18 = .ok (.iload_n 2, 1) := by decide +kernel
theorem rd_d_X12_image_19 : decode tX12_image.1.2.1 19 = .ok (.sipush 277, 3) := by decide +kernel
theorem rd_d_X12_image_22 : decode tX12_image.1.2.1 22 = .ok (.if_icmp .ge 27, 3) := by decide +kernel
theorem rd_d_X12_image_25 : decode tX12_image.1.2.1 25 = .ok (.aload_n 0, 1) := by decide +kernel
theorem rd_d_X12_image_26 : decode tX12_image.1.2.1 26 = .ok (.getfield 83, 3) := by decide +kernel
theorem rd_k_X12_image_26 : ex_lk ex_mt tX12_image 26 (.getfield 83) [12, 45, 2, 458812] = true := by decide +kernel
theorem rd_d_X12_image_29 : decode tX12_image.1.2.1 29 = .ok (.sipush 277, 3) := by decide +kernel
theorem rd_d_X12_image_32 : decode tX12_image.1.2.1 32 = .ok (.iload_n 1, 1) := by decide +kernel
theorem rd_d_X12_image_33 : decode tX12_image.1.2.1 33 = .ok (.imul, 1) := by decide +kernel
theorem rd_d_X12_image_34 : decode tX12_image.1.2.1 34 = .ok (.iload_n 2, 1) := by decide +kernel
theorem rd_d_X12_image_35 : decode tX12_image.1.2.1 35 = .ok (.iadd, 1) := by decide +kernel
theorem rd_d_X12_image_36 : decode tX12_image.1.2.1 36 = .ok (.aload_n 0, 1) := by decide +kernel
theorem rd_d_X12_image_37 : decode tX12_image.1.2.1 37 = .ok (.getfield 33, 3) := by decide +kernel
theorem rd_k_X12_image_37 : ex_lk ex_mt tX12_image 37 (.getfield 33) [12, 6, 2, 458773] = true := by decide +kernel
theorem rd_d_X12_image_40 : decode tX12_image.1.2.1 40 = .ok (.iload_n 2, 1) := by decide +kernel
theorem rd_d_X12_image_41 : decode tX12_image.1.2.1 41 = .ok (.iaload, 1) := by decide +kernel
theorem rd_d_X12_image_42 : decode tX12_image.1.2.1 42 = .ok (.iastore, 1) := by decide +kernel
theorem rd_d_X12_image_43 : decode tX12_image.1.2.1 43 = .ok (.iinc 2 1, 3) := by decide +kernel
theorem rd_d_X12_image_46 : decode tX12_image.1.2.1 46 = .ok (.goto (-28), 3) := by decide +kernel
theorem rd_d_X12_image_49 : decode tX12_image.1.2.1 49 = .ok (.aload_n 0, 1) := by decide +kernel
theorem rd_d_X12_image_50 : decode tX12_image.1.2.1 50 = .ok (.getfield 86, 3) := by decide +kernel
theorem rd_k_X12_image_50 : ex_lk ex_mt tX12_image 50 (.getfield 86) [12, 46, 2, 458813] = true := by decide +kernel
theorem rd_d_X12_image_53 : decode tX12_image.1.2.1 53 = .ok (.iload_n 1, 1) := by decide +kernel
theorem rd_d_X12_image_54 : decode tX12_image.1.2.1 54 = .ok (.iconst 1, 1) := by decide +kernel
theorem rd_d_X12_image_55 : decode tX12_image.1.2.1 55 = .ok (.bastore, 1) := by decide +kernel
theorem rd_d_X12_image_56 : decode tX12_image.1.2.1 56 = .ok (.iconst 1, 1) := by decide +kernel
theorem rd_d_X12_image_57 : decode tX12_image.1.2.1 57 = .ok (.ireturn, 1) := by decide +kernel
theorem rd_d_X12_restore_0 : decode tX12_restore.1.2.1 0 = .ok (.aload_n 0, 1) := by decide +kernel
theorem rd_d_X12_restore_1 : decode tX12_restore.1.2.1 1 = .ok (.iconst 0, 1) := by decide +kernel
theorem rd_d_X12_restore_2 : decode tX12_restore.1.2.1 2 = .ok (.putfield 1, 3) := by decide +kernel
theorem rd_k_X12_restore_2 : ex_lk ex_mt tX12_restore 2 (.putfield 1) [12, 0, 0, 458767] = true := by decide +kernel
theorem rd_d_X12_restore_5 : decode tX12_restore.1.2.1 5 = .ok (.iload_n 1, 1) := by decide +kernel
theorem rd_d_X12_restore_6 : decode tX12_restore.1.2.1 6 = .ok (.iconst 0, 1) := by decide +kernel
theorem rd_d_X12_restore_7 : decode tX12_restore.1.2.1 7 = .ok (.iconst 1, 1) := by decide +kernel
theorem rd_d_X12_restore_8 : decode tX12_restore.1.2.1 8 = .ok (.invokestatic 134, 3) := by decide +kernel
theorem rd_k_X12_restore_8 : ex_lk ex_mt tX12_restore 8 (.invokestatic 134) [0, 119, 458953] = true := by decide +kernel
theorem rd_d_X12_restore_11 : decode tX12_restore.1.2.1 11 = .ok (.ifCond .eq 12, 3) := by decide +kernel
theorem rd_d_X12_restore_14 : decode tX12_restore.1.2.1 14 = .ok (.aload_n 0, 1) := by decide +kernel
theorem rd_d_X12_restore_15 : decode tX12_restore.1.2.1 15 = .ok (.getfield 86, 3) := by decide +kernel
theorem rd_k_X12_restore_15 : ex_lk ex_mt tX12_restore 15 (.getfield 86) [12, 46, 2, 458813] = true := by decide +kernel
theorem rd_d_X12_restore_18 : decode tX12_restore.1.2.1 18 = .ok (.iload_n 1, 1) := by decide +kernel
theorem rd_d_X12_restore_19 : decode tX12_restore.1.2.1 19 = .ok (.baload, 1) := by decide +kernel
theorem rd_d_X12_restore_20 : decode tX12_restore.1.2.1 20 = .ok (.ifCond .ne 5, 3) := by decide +kernel
theorem rd_d_X12_restore_23 : decode tX12_restore.1.2.1 23 = .ok (.iconst 0, 1) := by decide +kernel
theorem rd_d_X12_restore_24 : decode tX12_restore.1.2.1 24 = .ok (.ireturn, 1) := by decide +kernel
theorem rd_d_X12_restore_25 : decode tX12_restore.1.2.1 25 = .ok (.iconst 0, 1) := by decide +kernel
theorem rd_d_X12_restore_26 : decode tX12_restore.1.2.1 26 = .ok (.istore_n 2, 1) := by decide +kernel
theorem rd_d_X12_restore_27 : decode tX12_restore.1.2.1 27 = .ok (.iload_n 2, 1) := by decide +kernel
theorem rd_d_X12_restore_28 : decode tX12_restore.1.2.1 28 = .ok (.sipush 277, 3) := by decide +kernel
theorem rd_d_X12_restore_31 : decode tX12_restore.1.2.1 31 = .ok (.if_icmp .ge 27, 3) := by decide +kernel
theorem rd_d_X12_restore_34 : decode tX12_restore.1.2.1 34 = .ok (.aload_n 0, 1) := by decide +kernel
theorem rd_d_X12_restore_35 : decode tX12_restore.1.2.1 35 = .ok (.getfield 33, 3) := by decide +kernel
theorem rd_k_X12_restore_35 : ex_lk ex_mt tX12_restore 35 (.getfield 33) [12, 6, 2, 458773] = true := by decide +kernel
theorem rd_d_X12_restore_38 : decode tX12_restore.1.2.1 38 = .ok (.iload_n 2, 1) := by decide +kernel
theorem rd_d_X12_restore_39 : decode tX12_restore.1.2.1 39 = .ok (.aload_n 0, 1) := by decide +kernel
theorem rd_d_X12_restore_40 : decode tX12_restore.1.2.1 40 = .ok (.getfield 83, 3) := by decide +kernel
theorem rd_k_X12_restore_40 : ex_lk ex_mt tX12_restore 40 (.getfield 83) [12, 45, 2, 458812] = true := by decide +kernel
theorem rd_d_X12_restore_43 : decode tX12_restore.1.2.1 43 = .ok (.sipush 277, 3) := by decide +kernel
theorem rd_d_X12_restore_46 : decode tX12_restore.1.2.1 46 = .ok (.iload_n 1, 1) := by decide +kernel
theorem rd_d_X12_restore_47 : decode tX12_restore.1.2.1 47 = .ok (.imul, 1) := by decide +kernel
theorem rd_d_X12_restore_48 : decode tX12_restore.1.2.1 48 = .ok (.iload_n 2, 1) := by decide +kernel
theorem rd_d_X12_restore_49 : decode tX12_restore.1.2.1 49 = .ok (.iadd, 1) := by decide +kernel
theorem rd_d_X12_restore_50 : decode tX12_restore.1.2.1 50 = .ok (.iaload, 1) := by decide +kernel
theorem rd_d_X12_restore_51 : decode tX12_restore.1.2.1 51 = .ok (.iastore, 1) := by decide +kernel
theorem rd_d_X12_restore_52 : decode tX12_restore.1.2.1 52 = .ok (.iinc 2 1, 3) := by decide +kernel
theorem rd_d_X12_restore_55 : decode tX12_restore.1.2.1 55 = .ok (.goto (-28), 3) := by decide +kernel
theorem rd_d_X12_restore_58 : decode tX12_restore.1.2.1 58 = .ok (.aload_n 0, 1) := by decide +kernel
theorem rd_d_X12_restore_59 : decode tX12_restore.1.2.1 59 = .ok (.iconst 0, 1) := by decide +kernel
theorem rd_d_X12_restore_60 : decode tX12_restore.1.2.1 60 = .ok (.putfield 198, 3) := by decide +kernel
theorem rd_k_X12_restore_60 : ex_lk ex_mt tX12_restore 60 (.putfield 198) [12, 21, 0, 458788] = true := by decide +kernel
theorem rd_d_X12_restore_63 : decode tX12_restore.1.2.1 63 = .ok (.iconst 1, 1) := by decide +kernel
theorem rd_d_X12_restore_64 : decode tX12_restore.1.2.1 64 = .ok (.ireturn, 1) := by decide +kernel
theorem rd_d_X11_image_9 : decode tX11_image.1.2.1 9 = .ok (.iconst 0, 1) := by decide +kernel
theorem rd_d_X11_image_10 : decode tX11_image.1.2.1 10 = .ok (.ireturn, 1) := by decide +kernel
theorem rd_d_X11_restore_9 : decode tX11_restore.1.2.1 9 = .ok (.iconst 0, 1) := by decide +kernel
theorem rd_d_X11_restore_10 : decode tX11_restore.1.2.1 10 = .ok (.ireturn, 1) := by decide +kernel
section AP
variable {g : am_C} {L : Nat} {xs : Nat → Int32}
theorem ax_imML_0 (G : sx_G0 g L xs z9 hd_C ex_mt) {τ : am_S} (hT : ax_S τ) {post : Option (Option Value) → am_S → Prop} (kk : ∀ i : Int32, am_K g 2 tX12_image.1 0 0 49 [(2, .int i), (0, .ref 118), (1, .int 0)] [] (τ.1, ax_bk τ.2.1 136 0 120 0 277, τ.2.2.1, τ.2.2.2) post) : ∀ (f n : Nat) (i : Int32), n + f = 277 → i.toInt = n → am_K g 2 tX12_image.1 0 0 18 [(2, .int i), (0, .ref 118), (1, .int 0)] [] (τ.1, ax_bk τ.2.1 136 0 120 0 n, τ.2.2.1, τ.2.2.2) post := by
  have z277 : (277 : Int32).toInt = 277 := rfl
  intro f
  induction f with
  | zero =>
    intro n i hn e3
    refine kr_iload_n 0 rd_d_X12_image_18 rfl ?_
    refine kr_sipush (v := 277) rd_d_X12_image_19 (by decide) ?_
    refine kr_icmp_ge (tgt := 49) rd_d_X12_image_22 rfl (fun _ => ?_) (fun h => absurd (Int32.le_iff_toInt_le.mpr (by omega)) h)
    have e : n = 277 := by omega
    rw [e]
    exact kk i
  | succ f ih =>
    intro n i hn e3
    refine kr_iload_n 0 rd_d_X12_image_18 rfl ?_
    refine kr_sipush (v := 277) rd_d_X12_image_19 (by decide) ?_
    refine kr_icmp_ge (tgt := 49) rd_d_X12_image_22 rfl (fun h => by have := Int32.le_iff_toInt_le.mp h; omega) (fun _ => ?_)
    have z5 : (0 : Int32).toInt = 0 := rfl
    have eO : ((277 : Int32) * 0 + i).toInt = ((0 + n : Nat) : Int) := by
      rw [show (277 : Int32) * 0 = 0 from rfl, sx_addI 0 i (by show (-2147483648 : Int) ≤ _; omega) (by show _ ≤ (2147483647 : Int); omega)]
      omega
    refine kr_aload_n 1 rd_d_X12_image_25 rfl ?_
    refine kr_getf G.1 (rd_FL rd_k_X12_image_26).1 rd_d_X12_image_26 (hT.1 118 (.inl 12) rfl) (v := .ref 136) (by unfold am_fa; rw [(rd_FL rd_k_X12_image_26).2]; exact hT.2 118 45 136 rfl) ?_
    refine kr_sipush (v := 277) rd_d_X12_image_29 (by decide) ?_
    refine kr_iload_n 2 rd_d_X12_image_32 rfl ?_
    refine kr_imul rd_d_X12_image_33 ?_
    refine kr_iload_n 0 rd_d_X12_image_34 rfl ?_
    refine kr_iadd rd_d_X12_image_35 ?_
    refine kr_aload_n 1 rd_d_X12_image_36 rfl ?_
    refine kr_getf G.1 (rd_FL rd_k_X12_image_37).1 rd_d_X12_image_37 (hT.1 118 (.inl 12) rfl) (v := .ref 120) (by unfold am_fa; rw [(rd_FL rd_k_X12_image_37).2]; exact hT.2 118 6 120 rfl) ?_
    refine kr_iload_n 0 rd_d_X12_image_40 rfl ?_
    refine kr_iald G.1 (n := 277) rd_d_X12_image_41 (hT.1 120 (.inr (.int, 277)) rfl) (hd_in (n := n) e3 (by omega)) ?_
    rw [hd_clamp e3]
    refine kr_iast G.1 (n := 554) rd_d_X12_image_42 (hT.1 136 (.inr (.int, 554)) rfl) (hd_in (n := 0 + n) eO (by omega)) ?_
    rw [hd_clamp eO]
    show am_K g 2 tX12_image.1 0 0 43 [(2, .int i), (0, .ref 118), (1, .int 0)] [] (τ.1, am_up (ax_bk τ.2.1 136 0 120 0 n) 136 (0 + n) (ax_bk τ.2.1 136 0 120 0 n 120 n), τ.2.2.1, τ.2.2.2) _
    rw [Nat.zero_add]
    have eb := ax_bkS τ.2.1 (D := 136) (S := 120) (by decide) 0 0 n
    rw [Nat.zero_add] at eb
    rw [eb]
    refine kr_iinc (v := i + 1) (lv' := [(2, .int (i + 1)), (0, .ref 118), (1, .int 0)]) 0 rd_d_X12_image_43 rfl rfl (by decide) rfl ?_
    refine kr_goto (tgt := 18) rd_d_X12_image_46 rfl ?_
    have z1 : (1 : Int32).toInt = 1 := rfl
    refine ih (n + 1) (i + 1) (by omega) ?_
    rw [sx_addI i 1 (by show (-2147483648 : Int) ≤ _; omega) (by show _ ≤ (2147483647 : Int); omega)]
    omega
theorem ax_imM_0 (G : sx_G0 g L xs z9 hd_C ex_mt) {σ : am_S} (hS : ax_S σ) : am_K g 2 tX12_image.1 0 0 0 (lv_args 0 [.ref 118, .int 0]) [] σ (fun r σ' => r = some (some (.int 1)) ∧ (∀ k, k < 277 → σ'.2.1 136 (0 + k) = σ.2.1 120 k) ∧ (∀ k, k < 277 → σ'.2.1 136 (277 + k) = σ.2.1 136 (277 + k)) ∧ σ'.2.1 137 0 = 1 ∧ σ'.2.1 137 1 = σ.2.1 137 1 ∧ (∀ o k, o ≠ 118 → o ≠ 136 → o ≠ 137 → σ'.2.1 o k = σ.2.1 o k) ∧ ax_S σ') := by
  refine ax_thr G hS rd_d_X12_image_0 rd_d_X12_image_1 rd_d_X12_image_2 rd_k_X12_image_2 rfl ?_
  intro τ hT hm hm8
  refine kr_iload_n 1 rd_d_X12_image_5 rfl ?_
  refine kr_iconst (v := 0) rd_d_X12_image_6 (by decide) ?_
  refine kr_iconst (v := 1) rd_d_X12_image_7 (by decide) ?_
  refine rd_callS G (T2 := tX12_isIn) rfl rd_d_X12_image_8 rd_k_X12_image_8 rfl rfl (as := [.int 0, .int 0, .int 1]) (st := []) rfl (Nat.le_of_ble_eq_true rfl) rfl (by decide) (d1 := 1) (by decide) (fun _ h => by cases h.1) (ax_isIn G hT 0 0 1) ?_
  intro v1 τ1 ⟨hv1, hs1⟩
  cases hv1
  rw [hs1]
  refine kr_if_ne (tgt := 16) rd_d_X12_image_11 rfl (fun _ => ?_) (fun h => absurd h (by decide))
  refine kr_iconst (v := 0) rd_d_X12_image_16 (by decide) ?_
  refine kr_istore_n (lv' := [(2, .int 0), (0, .ref 118), (1, .int 0)]) rd_d_X12_image_17 (by decide) rfl ?_
  have H := ax_imML_0 G hT (post := fun r σ' => r = some (some (.int 1)) ∧ (∀ k, k < 277 → σ'.2.1 136 (0 + k) = σ.2.1 120 k) ∧ (∀ k, k < 277 → σ'.2.1 136 (277 + k) = σ.2.1 136 (277 + k)) ∧ σ'.2.1 137 0 = 1 ∧ σ'.2.1 137 1 = σ.2.1 137 1 ∧ (∀ o k, o ≠ 118 → o ≠ 136 → o ≠ 137 → σ'.2.1 o k = σ.2.1 o k) ∧ ax_S σ') (fun i => ?_) 277 0 0 (by omega) rfl
  · rw [ax_bk0] at H
    exact H
  · refine kr_aload_n 1 rd_d_X12_image_49 rfl ?_
    refine kr_getf G.1 (rd_FL rd_k_X12_image_50).1 rd_d_X12_image_50 (hT.1 118 (.inl 12) rfl) (v := .ref 137) (by unfold am_fa; rw [(rd_FL rd_k_X12_image_50).2]; exact hT.2 118 46 137 rfl) ?_
    refine kr_iload_n 2 rd_d_X12_image_53 rfl ?_
    refine kr_iconst (v := 1) rd_d_X12_image_54 (by decide) ?_
    refine kr_zast G.1 (n := 2) (y := 1) rd_d_X12_image_55 (hT.1 137 (.inr (.boolean, 2)) rfl) (hd_in (n := 0) (by decide) (by decide)) rfl ?_
    refine kr_iconst (v := 1) rd_d_X12_image_56 (by decide) ?_
    refine kr_ireturn rd_d_X12_image_57 (ty := .boolean) rfl rfl ⟨rfl, fun k hk => ?_, fun k hk => ?_, ?_, ?_, fun o k h1 h2 h3 => ?_, hT⟩
    · show am_up (ax_bk τ.2.1 136 0 120 0 277) 137 0 1 136 (0 + k) = _
      rw [am_up_o _ _ (by decide), ax_bk_d (by omega), show 0 + (0 + k - 0) = k by omega]
      exact hm 120 k (by decide)
    · show am_up (ax_bk τ.2.1 136 0 120 0 277) 137 0 1 136 (277 + k) = _
      rw [am_up_o _ _ (by decide), ax_bk_n (by omega)]
      exact hm 136 _ (by decide)
    · show am_up (ax_bk τ.2.1 136 0 120 0 277) 137 0 1 137 0 = 1
      exact am_up_s _ _ _ _
    · show am_up (ax_bk τ.2.1 136 0 120 0 277) 137 0 1 137 1 = _
      rw [am_up_n _ _ (by decide), ax_bk_o (by decide)]
      exact hm 137 _ (by decide)
    · show am_up (ax_bk τ.2.1 136 0 120 0 277) 137 0 1 o k = _
      rw [am_up_o _ _ h3, ax_bk_o h2]
      exact hm o k h1
theorem ax_reML_0 (G : sx_G0 g L xs z9 hd_C ex_mt) {τ : am_S} (hT : ax_S τ) {post : Option (Option Value) → am_S → Prop} (kk : ∀ i : Int32, am_K g 2 tX12_restore.1 0 0 58 [(2, .int i), (0, .ref 118), (1, .int 0)] [] (τ.1, ax_bk τ.2.1 120 0 136 0 277, τ.2.2.1, τ.2.2.2) post) : ∀ (f n : Nat) (i : Int32), n + f = 277 → i.toInt = n → am_K g 2 tX12_restore.1 0 0 27 [(2, .int i), (0, .ref 118), (1, .int 0)] [] (τ.1, ax_bk τ.2.1 120 0 136 0 n, τ.2.2.1, τ.2.2.2) post := by
  have z277 : (277 : Int32).toInt = 277 := rfl
  intro f
  induction f with
  | zero =>
    intro n i hn e3
    refine kr_iload_n 0 rd_d_X12_restore_27 rfl ?_
    refine kr_sipush (v := 277) rd_d_X12_restore_28 (by decide) ?_
    refine kr_icmp_ge (tgt := 58) rd_d_X12_restore_31 rfl (fun _ => ?_) (fun h => absurd (Int32.le_iff_toInt_le.mpr (by omega)) h)
    have e : n = 277 := by omega
    rw [e]
    exact kk i
  | succ f ih =>
    intro n i hn e3
    refine kr_iload_n 0 rd_d_X12_restore_27 rfl ?_
    refine kr_sipush (v := 277) rd_d_X12_restore_28 (by decide) ?_
    refine kr_icmp_ge (tgt := 58) rd_d_X12_restore_31 rfl (fun h => by have := Int32.le_iff_toInt_le.mp h; omega) (fun _ => ?_)
    have z5 : (0 : Int32).toInt = 0 := rfl
    have eO : ((277 : Int32) * 0 + i).toInt = ((0 + n : Nat) : Int) := by
      rw [show (277 : Int32) * 0 = 0 from rfl, sx_addI 0 i (by show (-2147483648 : Int) ≤ _; omega) (by show _ ≤ (2147483647 : Int); omega)]
      omega
    refine kr_aload_n 1 rd_d_X12_restore_34 rfl ?_
    refine kr_getf G.1 (rd_FL rd_k_X12_restore_35).1 rd_d_X12_restore_35 (hT.1 118 (.inl 12) rfl) (v := .ref 120) (by unfold am_fa; rw [(rd_FL rd_k_X12_restore_35).2]; exact hT.2 118 6 120 rfl) ?_
    refine kr_iload_n 0 rd_d_X12_restore_38 rfl ?_
    refine kr_aload_n 1 rd_d_X12_restore_39 rfl ?_
    refine kr_getf G.1 (rd_FL rd_k_X12_restore_40).1 rd_d_X12_restore_40 (hT.1 118 (.inl 12) rfl) (v := .ref 136) (by unfold am_fa; rw [(rd_FL rd_k_X12_restore_40).2]; exact hT.2 118 45 136 rfl) ?_
    refine kr_sipush (v := 277) rd_d_X12_restore_43 (by decide) ?_
    refine kr_iload_n 2 rd_d_X12_restore_46 rfl ?_
    refine kr_imul rd_d_X12_restore_47 ?_
    refine kr_iload_n 0 rd_d_X12_restore_48 rfl ?_
    refine kr_iadd rd_d_X12_restore_49 ?_
    refine kr_iald G.1 (n := 554) rd_d_X12_restore_50 (hT.1 136 (.inr (.int, 554)) rfl) (hd_in (n := 0 + n) eO (by omega)) ?_
    rw [hd_clamp eO]
    refine kr_iast G.1 (n := 277) rd_d_X12_restore_51 (hT.1 120 (.inr (.int, 277)) rfl) (hd_in (n := n) e3 (by omega)) ?_
    rw [hd_clamp e3]
    show am_K g 2 tX12_restore.1 0 0 52 [(2, .int i), (0, .ref 118), (1, .int 0)] [] (τ.1, am_up (ax_bk τ.2.1 120 0 136 0 n) 120 n (ax_bk τ.2.1 120 0 136 0 n 136 (0 + n)), τ.2.2.1, τ.2.2.2) _
    rw [Nat.zero_add]
    have eb := ax_bkS τ.2.1 (D := 120) (S := 136) (by decide) 0 0 n
    rw [Nat.zero_add] at eb
    rw [eb]
    refine kr_iinc (v := i + 1) (lv' := [(2, .int (i + 1)), (0, .ref 118), (1, .int 0)]) 0 rd_d_X12_restore_52 rfl rfl (by decide) rfl ?_
    refine kr_goto (tgt := 27) rd_d_X12_restore_55 rfl ?_
    have z1 : (1 : Int32).toInt = 1 := rfl
    refine ih (n + 1) (i + 1) (by omega) ?_
    rw [sx_addI i 1 (by show (-2147483648 : Int) ≤ _; omega) (by show _ ≤ (2147483647 : Int); omega)]
    omega
theorem ax_reM_0 (G : sx_G0 g L xs z9 hd_C ex_mt) {σ : am_S} (hS : ax_S σ) : am_K g 2 tX12_restore.1 0 0 0 (lv_args 0 [.ref 118, .int 0]) [] σ (fun r σ' => (r = some (some (.int 1)) ∧ ¬ σ.2.1 137 0 = 0 ∧ (∀ k, k < 277 → σ'.2.1 120 k = σ.2.1 136 (0 + k)) ∧ (∀ o k, o ≠ 118 → o ≠ 120 → σ'.2.1 o k = σ.2.1 o k) ∧ ax_S σ') ∨ (r = some (some (.int 0)) ∧ σ.2.1 137 0 = 0 ∧ (∀ o k, o ≠ 118 → σ'.2.1 o k = σ.2.1 o k) ∧ ax_S σ')) := by
  refine ax_thr G hS rd_d_X12_restore_0 rd_d_X12_restore_1 rd_d_X12_restore_2 rd_k_X12_restore_2 rfl ?_
  intro τ hT hm hm8
  refine kr_iload_n 1 rd_d_X12_restore_5 rfl ?_
  refine kr_iconst (v := 0) rd_d_X12_restore_6 (by decide) ?_
  refine kr_iconst (v := 1) rd_d_X12_restore_7 (by decide) ?_
  refine rd_callS G (T2 := tX12_isIn) rfl rd_d_X12_restore_8 rd_k_X12_restore_8 rfl rfl (as := [.int 0, .int 0, .int 1]) (st := []) rfl (Nat.le_of_ble_eq_true rfl) rfl (by decide) (d1 := 1) (by decide) (fun _ h => by cases h.1) (ax_isIn G hT 0 0 1) ?_
  intro v1 τ1 ⟨hv1, hs1⟩
  cases hv1
  rw [hs1]
  refine kr_if_eq (tgt := 23) rd_d_X12_restore_11 rfl (fun h => absurd h (by decide)) (fun _ => ?_)
  refine kr_aload_n 0 rd_d_X12_restore_14 rfl ?_
  refine kr_getf G.1 (rd_FL rd_k_X12_restore_15).1 rd_d_X12_restore_15 (hT.1 118 (.inl 12) rfl) (v := .ref 137) (by unfold am_fa; rw [(rd_FL rd_k_X12_restore_15).2]; exact hT.2 118 46 137 rfl) ?_
  refine kr_iload_n 1 rd_d_X12_restore_18 rfl ?_
  refine kr_zald G.1 (n := 2) rd_d_X12_restore_19 (hT.1 137 (.inr (.boolean, 2)) rfl) (hd_in (n := 0) (by decide) (by decide)) ?_
  rw [hd_clamp (n := 0) (by decide), hm 137 0 (by decide)]
  refine kr_if_ne (tgt := 25) rd_d_X12_restore_20 rfl (fun h9 => ?_) (fun h9 => ?_)
  · refine kr_iconst (v := 0) rd_d_X12_restore_25 (by decide) ?_
    refine kr_istore_n (lv' := [(2, .int 0), (0, .ref 118), (1, .int 0)]) rd_d_X12_restore_26 (by decide) rfl ?_
    have H := ax_reML_0 G hT (post := fun r σ' => (r = some (some (.int 1)) ∧ ¬ σ.2.1 137 0 = 0 ∧ (∀ k, k < 277 → σ'.2.1 120 k = σ.2.1 136 (0 + k)) ∧ (∀ o k, o ≠ 118 → o ≠ 120 → σ'.2.1 o k = σ.2.1 o k) ∧ ax_S σ') ∨ (r = some (some (.int 0)) ∧ σ.2.1 137 0 = 0 ∧ (∀ o k, o ≠ 118 → σ'.2.1 o k = σ.2.1 o k) ∧ ax_S σ')) (fun i => ?_) 277 0 0 (by omega) rfl
    · rw [ax_bk0] at H
      exact H
    · refine kr_aload_n 1 rd_d_X12_restore_58 rfl ?_
      refine kr_iconst (v := 0) rd_d_X12_restore_59 (by decide) ?_
      have hty := (rd_FPi rd_k_X12_restore_60).2
      refine kr_putI G.1 (rd_FPi rd_k_X12_restore_60).1 rd_d_X12_restore_60 (hT.1 118 (.inl 12) rfl) (by rw [hty]; rfl) (by rw [hty]; rfl) (by rw [hty]; rfl) ?_
      refine kr_iconst (v := 1) rd_d_X12_restore_63 (by decide) ?_
      refine kr_ireturn rd_d_X12_restore_64 (ty := .boolean) rfl rfl (Or.inl ⟨rfl, h9, fun k hk => ?_, fun o k h1 h2 => ?_, hT⟩)
      · show am_up (ax_bk τ.2.1 120 0 136 0 277) 118 21 0 120 k = _
        rw [am_up_o _ _ (by decide), ax_bk_d (by omega), show 0 + (k - 0) = 0 + k by omega]
        exact hm 136 _ (by decide)
      · show am_up (ax_bk τ.2.1 120 0 136 0 277) 118 21 0 o k = _
        rw [am_up_o _ _ h1, ax_bk_o h2]
        exact hm o k h1
  · refine kr_iconst (v := 0) rd_d_X12_restore_23 (by decide) ?_
    exact kr_ireturn rd_d_X12_restore_24 (ty := .boolean) rfl rfl (Or.inr ⟨rfl, h9, fun o k h1 => hm o k h1, hT⟩)
theorem ax_imML_1 (G : sx_G0 g L xs z9 hd_C ex_mt) {τ : am_S} (hT : ax_S τ) {post : Option (Option Value) → am_S → Prop} (kk : ∀ i : Int32, am_K g 2 tX12_image.1 0 0 49 [(2, .int i), (0, .ref 118), (1, .int 1)] [] (τ.1, ax_bk τ.2.1 136 277 120 0 277, τ.2.2.1, τ.2.2.2) post) : ∀ (f n : Nat) (i : Int32), n + f = 277 → i.toInt = n → am_K g 2 tX12_image.1 0 0 18 [(2, .int i), (0, .ref 118), (1, .int 1)] [] (τ.1, ax_bk τ.2.1 136 277 120 0 n, τ.2.2.1, τ.2.2.2) post := by
  have z277 : (277 : Int32).toInt = 277 := rfl
  intro f
  induction f with
  | zero =>
    intro n i hn e3
    refine kr_iload_n 0 rd_d_X12_image_18 rfl ?_
    refine kr_sipush (v := 277) rd_d_X12_image_19 (by decide) ?_
    refine kr_icmp_ge (tgt := 49) rd_d_X12_image_22 rfl (fun _ => ?_) (fun h => absurd (Int32.le_iff_toInt_le.mpr (by omega)) h)
    have e : n = 277 := by omega
    rw [e]
    exact kk i
  | succ f ih =>
    intro n i hn e3
    refine kr_iload_n 0 rd_d_X12_image_18 rfl ?_
    refine kr_sipush (v := 277) rd_d_X12_image_19 (by decide) ?_
    refine kr_icmp_ge (tgt := 49) rd_d_X12_image_22 rfl (fun h => by have := Int32.le_iff_toInt_le.mp h; omega) (fun _ => ?_)
    have z282 : (277 : Int32).toInt = 277 := rfl
    have eO : ((277 : Int32) * 1 + i).toInt = ((277 + n : Nat) : Int) := by
      rw [show (277 : Int32) * 1 = 277 from rfl, sx_addI 277 i (by show (-2147483648 : Int) ≤ _; omega) (by show _ ≤ (2147483647 : Int); omega)]
      omega
    refine kr_aload_n 1 rd_d_X12_image_25 rfl ?_
    refine kr_getf G.1 (rd_FL rd_k_X12_image_26).1 rd_d_X12_image_26 (hT.1 118 (.inl 12) rfl) (v := .ref 136) (by unfold am_fa; rw [(rd_FL rd_k_X12_image_26).2]; exact hT.2 118 45 136 rfl) ?_
    refine kr_sipush (v := 277) rd_d_X12_image_29 (by decide) ?_
    refine kr_iload_n 2 rd_d_X12_image_32 rfl ?_
    refine kr_imul rd_d_X12_image_33 ?_
    refine kr_iload_n 0 rd_d_X12_image_34 rfl ?_
    refine kr_iadd rd_d_X12_image_35 ?_
    refine kr_aload_n 1 rd_d_X12_image_36 rfl ?_
    refine kr_getf G.1 (rd_FL rd_k_X12_image_37).1 rd_d_X12_image_37 (hT.1 118 (.inl 12) rfl) (v := .ref 120) (by unfold am_fa; rw [(rd_FL rd_k_X12_image_37).2]; exact hT.2 118 6 120 rfl) ?_
    refine kr_iload_n 0 rd_d_X12_image_40 rfl ?_
    refine kr_iald G.1 (n := 277) rd_d_X12_image_41 (hT.1 120 (.inr (.int, 277)) rfl) (hd_in (n := n) e3 (by omega)) ?_
    rw [hd_clamp e3]
    refine kr_iast G.1 (n := 554) rd_d_X12_image_42 (hT.1 136 (.inr (.int, 554)) rfl) (hd_in (n := 277 + n) eO (by omega)) ?_
    rw [hd_clamp eO]
    show am_K g 2 tX12_image.1 0 0 43 [(2, .int i), (0, .ref 118), (1, .int 1)] [] (τ.1, am_up (ax_bk τ.2.1 136 277 120 0 n) 136 (277 + n) (ax_bk τ.2.1 136 277 120 0 n 120 n), τ.2.2.1, τ.2.2.2) _
    have eb := ax_bkS τ.2.1 (D := 136) (S := 120) (by decide) 277 0 n
    rw [Nat.zero_add] at eb
    rw [eb]
    refine kr_iinc (v := i + 1) (lv' := [(2, .int (i + 1)), (0, .ref 118), (1, .int 1)]) 0 rd_d_X12_image_43 rfl rfl (by decide) rfl ?_
    refine kr_goto (tgt := 18) rd_d_X12_image_46 rfl ?_
    have z1 : (1 : Int32).toInt = 1 := rfl
    refine ih (n + 1) (i + 1) (by omega) ?_
    rw [sx_addI i 1 (by show (-2147483648 : Int) ≤ _; omega) (by show _ ≤ (2147483647 : Int); omega)]
    omega
theorem ax_imM_1 (G : sx_G0 g L xs z9 hd_C ex_mt) {σ : am_S} (hS : ax_S σ) : am_K g 2 tX12_image.1 0 0 0 (lv_args 0 [.ref 118, .int 1]) [] σ (fun r σ' => r = some (some (.int 1)) ∧ (∀ k, k < 277 → σ'.2.1 136 (277 + k) = σ.2.1 120 k) ∧ (∀ k, k < 277 → σ'.2.1 136 (0 + k) = σ.2.1 136 (0 + k)) ∧ σ'.2.1 137 1 = 1 ∧ σ'.2.1 137 0 = σ.2.1 137 0 ∧ (∀ o k, o ≠ 118 → o ≠ 136 → o ≠ 137 → σ'.2.1 o k = σ.2.1 o k) ∧ ax_S σ') := by
  refine ax_thr G hS rd_d_X12_image_0 rd_d_X12_image_1 rd_d_X12_image_2 rd_k_X12_image_2 rfl ?_
  intro τ hT hm hm8
  refine kr_iload_n 1 rd_d_X12_image_5 rfl ?_
  refine kr_iconst (v := 0) rd_d_X12_image_6 (by decide) ?_
  refine kr_iconst (v := 1) rd_d_X12_image_7 (by decide) ?_
  refine rd_callS G (T2 := tX12_isIn) rfl rd_d_X12_image_8 rd_k_X12_image_8 rfl rfl (as := [.int 1, .int 0, .int 1]) (st := []) rfl (Nat.le_of_ble_eq_true rfl) rfl (by decide) (d1 := 1) (by decide) (fun _ h => by cases h.1) (ax_isIn G hT 1 0 1) ?_
  intro v1 τ1 ⟨hv1, hs1⟩
  cases hv1
  rw [hs1]
  refine kr_if_ne (tgt := 16) rd_d_X12_image_11 rfl (fun _ => ?_) (fun h => absurd h (by decide))
  refine kr_iconst (v := 0) rd_d_X12_image_16 (by decide) ?_
  refine kr_istore_n (lv' := [(2, .int 0), (0, .ref 118), (1, .int 1)]) rd_d_X12_image_17 (by decide) rfl ?_
  have H := ax_imML_1 G hT (post := fun r σ' => r = some (some (.int 1)) ∧ (∀ k, k < 277 → σ'.2.1 136 (277 + k) = σ.2.1 120 k) ∧ (∀ k, k < 277 → σ'.2.1 136 (0 + k) = σ.2.1 136 (0 + k)) ∧ σ'.2.1 137 1 = 1 ∧ σ'.2.1 137 0 = σ.2.1 137 0 ∧ (∀ o k, o ≠ 118 → o ≠ 136 → o ≠ 137 → σ'.2.1 o k = σ.2.1 o k) ∧ ax_S σ') (fun i => ?_) 277 0 0 (by omega) rfl
  · rw [ax_bk0] at H
    exact H
  · refine kr_aload_n 1 rd_d_X12_image_49 rfl ?_
    refine kr_getf G.1 (rd_FL rd_k_X12_image_50).1 rd_d_X12_image_50 (hT.1 118 (.inl 12) rfl) (v := .ref 137) (by unfold am_fa; rw [(rd_FL rd_k_X12_image_50).2]; exact hT.2 118 46 137 rfl) ?_
    refine kr_iload_n 2 rd_d_X12_image_53 rfl ?_
    refine kr_iconst (v := 1) rd_d_X12_image_54 (by decide) ?_
    refine kr_zast G.1 (n := 2) (y := 1) rd_d_X12_image_55 (hT.1 137 (.inr (.boolean, 2)) rfl) (hd_in (n := 1) (by decide) (by decide)) rfl ?_
    refine kr_iconst (v := 1) rd_d_X12_image_56 (by decide) ?_
    refine kr_ireturn rd_d_X12_image_57 (ty := .boolean) rfl rfl ⟨rfl, fun k hk => ?_, fun k hk => ?_, ?_, ?_, fun o k h1 h2 h3 => ?_, hT⟩
    · show am_up (ax_bk τ.2.1 136 277 120 0 277) 137 1 1 136 (277 + k) = _
      rw [am_up_o _ _ (by decide), ax_bk_d (by omega), show 0 + (277 + k - 277) = k by omega]
      exact hm 120 k (by decide)
    · show am_up (ax_bk τ.2.1 136 277 120 0 277) 137 1 1 136 (0 + k) = _
      rw [am_up_o _ _ (by decide), ax_bk_n (by omega)]
      exact hm 136 _ (by decide)
    · show am_up (ax_bk τ.2.1 136 277 120 0 277) 137 1 1 137 1 = 1
      exact am_up_s _ _ _ _
    · show am_up (ax_bk τ.2.1 136 277 120 0 277) 137 1 1 137 0 = _
      rw [am_up_n _ _ (by decide), ax_bk_o (by decide)]
      exact hm 137 _ (by decide)
    · show am_up (ax_bk τ.2.1 136 277 120 0 277) 137 1 1 o k = _
      rw [am_up_o _ _ h3, ax_bk_o h2]
      exact hm o k h1
theorem ax_reML_1 (G : sx_G0 g L xs z9 hd_C ex_mt) {τ : am_S} (hT : ax_S τ) {post : Option (Option Value) → am_S → Prop} (kk : ∀ i : Int32, am_K g 2 tX12_restore.1 0 0 58 [(2, .int i), (0, .ref 118), (1, .int 1)] [] (τ.1, ax_bk τ.2.1 120 0 136 277 277, τ.2.2.1, τ.2.2.2) post) : ∀ (f n : Nat) (i : Int32), n + f = 277 → i.toInt = n → am_K g 2 tX12_restore.1 0 0 27 [(2, .int i), (0, .ref 118), (1, .int 1)] [] (τ.1, ax_bk τ.2.1 120 0 136 277 n, τ.2.2.1, τ.2.2.2) post := by
  have z277 : (277 : Int32).toInt = 277 := rfl
  intro f
  induction f with
  | zero =>
    intro n i hn e3
    refine kr_iload_n 0 rd_d_X12_restore_27 rfl ?_
    refine kr_sipush (v := 277) rd_d_X12_restore_28 (by decide) ?_
    refine kr_icmp_ge (tgt := 58) rd_d_X12_restore_31 rfl (fun _ => ?_) (fun h => absurd (Int32.le_iff_toInt_le.mpr (by omega)) h)
    have e : n = 277 := by omega
    rw [e]
    exact kk i
  | succ f ih =>
    intro n i hn e3
    refine kr_iload_n 0 rd_d_X12_restore_27 rfl ?_
    refine kr_sipush (v := 277) rd_d_X12_restore_28 (by decide) ?_
    refine kr_icmp_ge (tgt := 58) rd_d_X12_restore_31 rfl (fun h => by have := Int32.le_iff_toInt_le.mp h; omega) (fun _ => ?_)
    have z282 : (277 : Int32).toInt = 277 := rfl
    have eO : ((277 : Int32) * 1 + i).toInt = ((277 + n : Nat) : Int) := by
      rw [show (277 : Int32) * 1 = 277 from rfl, sx_addI 277 i (by show (-2147483648 : Int) ≤ _; omega) (by show _ ≤ (2147483647 : Int); omega)]
      omega
    refine kr_aload_n 1 rd_d_X12_restore_34 rfl ?_
    refine kr_getf G.1 (rd_FL rd_k_X12_restore_35).1 rd_d_X12_restore_35 (hT.1 118 (.inl 12) rfl) (v := .ref 120) (by unfold am_fa; rw [(rd_FL rd_k_X12_restore_35).2]; exact hT.2 118 6 120 rfl) ?_
    refine kr_iload_n 0 rd_d_X12_restore_38 rfl ?_
    refine kr_aload_n 1 rd_d_X12_restore_39 rfl ?_
    refine kr_getf G.1 (rd_FL rd_k_X12_restore_40).1 rd_d_X12_restore_40 (hT.1 118 (.inl 12) rfl) (v := .ref 136) (by unfold am_fa; rw [(rd_FL rd_k_X12_restore_40).2]; exact hT.2 118 45 136 rfl) ?_
    refine kr_sipush (v := 277) rd_d_X12_restore_43 (by decide) ?_
    refine kr_iload_n 2 rd_d_X12_restore_46 rfl ?_
    refine kr_imul rd_d_X12_restore_47 ?_
    refine kr_iload_n 0 rd_d_X12_restore_48 rfl ?_
    refine kr_iadd rd_d_X12_restore_49 ?_
    refine kr_iald G.1 (n := 554) rd_d_X12_restore_50 (hT.1 136 (.inr (.int, 554)) rfl) (hd_in (n := 277 + n) eO (by omega)) ?_
    rw [hd_clamp eO]
    refine kr_iast G.1 (n := 277) rd_d_X12_restore_51 (hT.1 120 (.inr (.int, 277)) rfl) (hd_in (n := n) e3 (by omega)) ?_
    rw [hd_clamp e3]
    show am_K g 2 tX12_restore.1 0 0 52 [(2, .int i), (0, .ref 118), (1, .int 1)] [] (τ.1, am_up (ax_bk τ.2.1 120 0 136 277 n) 120 n (ax_bk τ.2.1 120 0 136 277 n 136 (277 + n)), τ.2.2.1, τ.2.2.2) _
    have eb := ax_bkS τ.2.1 (D := 120) (S := 136) (by decide) 0 277 n
    rw [Nat.zero_add] at eb
    rw [eb]
    refine kr_iinc (v := i + 1) (lv' := [(2, .int (i + 1)), (0, .ref 118), (1, .int 1)]) 0 rd_d_X12_restore_52 rfl rfl (by decide) rfl ?_
    refine kr_goto (tgt := 27) rd_d_X12_restore_55 rfl ?_
    have z1 : (1 : Int32).toInt = 1 := rfl
    refine ih (n + 1) (i + 1) (by omega) ?_
    rw [sx_addI i 1 (by show (-2147483648 : Int) ≤ _; omega) (by show _ ≤ (2147483647 : Int); omega)]
    omega
theorem ax_reM_1 (G : sx_G0 g L xs z9 hd_C ex_mt) {σ : am_S} (hS : ax_S σ) : am_K g 2 tX12_restore.1 0 0 0 (lv_args 0 [.ref 118, .int 1]) [] σ (fun r σ' => (r = some (some (.int 1)) ∧ ¬ σ.2.1 137 1 = 0 ∧ (∀ k, k < 277 → σ'.2.1 120 k = σ.2.1 136 (277 + k)) ∧ (∀ o k, o ≠ 118 → o ≠ 120 → σ'.2.1 o k = σ.2.1 o k) ∧ ax_S σ') ∨ (r = some (some (.int 0)) ∧ σ.2.1 137 1 = 0 ∧ (∀ o k, o ≠ 118 → σ'.2.1 o k = σ.2.1 o k) ∧ ax_S σ')) := by
  refine ax_thr G hS rd_d_X12_restore_0 rd_d_X12_restore_1 rd_d_X12_restore_2 rd_k_X12_restore_2 rfl ?_
  intro τ hT hm hm8
  refine kr_iload_n 1 rd_d_X12_restore_5 rfl ?_
  refine kr_iconst (v := 0) rd_d_X12_restore_6 (by decide) ?_
  refine kr_iconst (v := 1) rd_d_X12_restore_7 (by decide) ?_
  refine rd_callS G (T2 := tX12_isIn) rfl rd_d_X12_restore_8 rd_k_X12_restore_8 rfl rfl (as := [.int 1, .int 0, .int 1]) (st := []) rfl (Nat.le_of_ble_eq_true rfl) rfl (by decide) (d1 := 1) (by decide) (fun _ h => by cases h.1) (ax_isIn G hT 1 0 1) ?_
  intro v1 τ1 ⟨hv1, hs1⟩
  cases hv1
  rw [hs1]
  refine kr_if_eq (tgt := 23) rd_d_X12_restore_11 rfl (fun h => absurd h (by decide)) (fun _ => ?_)
  refine kr_aload_n 0 rd_d_X12_restore_14 rfl ?_
  refine kr_getf G.1 (rd_FL rd_k_X12_restore_15).1 rd_d_X12_restore_15 (hT.1 118 (.inl 12) rfl) (v := .ref 137) (by unfold am_fa; rw [(rd_FL rd_k_X12_restore_15).2]; exact hT.2 118 46 137 rfl) ?_
  refine kr_iload_n 1 rd_d_X12_restore_18 rfl ?_
  refine kr_zald G.1 (n := 2) rd_d_X12_restore_19 (hT.1 137 (.inr (.boolean, 2)) rfl) (hd_in (n := 1) (by decide) (by decide)) ?_
  rw [hd_clamp (n := 1) (by decide), hm 137 1 (by decide)]
  refine kr_if_ne (tgt := 25) rd_d_X12_restore_20 rfl (fun h9 => ?_) (fun h9 => ?_)
  · refine kr_iconst (v := 0) rd_d_X12_restore_25 (by decide) ?_
    refine kr_istore_n (lv' := [(2, .int 0), (0, .ref 118), (1, .int 1)]) rd_d_X12_restore_26 (by decide) rfl ?_
    have H := ax_reML_1 G hT (post := fun r σ' => (r = some (some (.int 1)) ∧ ¬ σ.2.1 137 1 = 0 ∧ (∀ k, k < 277 → σ'.2.1 120 k = σ.2.1 136 (277 + k)) ∧ (∀ o k, o ≠ 118 → o ≠ 120 → σ'.2.1 o k = σ.2.1 o k) ∧ ax_S σ') ∨ (r = some (some (.int 0)) ∧ σ.2.1 137 1 = 0 ∧ (∀ o k, o ≠ 118 → σ'.2.1 o k = σ.2.1 o k) ∧ ax_S σ')) (fun i => ?_) 277 0 0 (by omega) rfl
    · rw [ax_bk0] at H
      exact H
    · refine kr_aload_n 1 rd_d_X12_restore_58 rfl ?_
      refine kr_iconst (v := 0) rd_d_X12_restore_59 (by decide) ?_
      have hty := (rd_FPi rd_k_X12_restore_60).2
      refine kr_putI G.1 (rd_FPi rd_k_X12_restore_60).1 rd_d_X12_restore_60 (hT.1 118 (.inl 12) rfl) (by rw [hty]; rfl) (by rw [hty]; rfl) (by rw [hty]; rfl) ?_
      refine kr_iconst (v := 1) rd_d_X12_restore_63 (by decide) ?_
      refine kr_ireturn rd_d_X12_restore_64 (ty := .boolean) rfl rfl (Or.inl ⟨rfl, h9, fun k hk => ?_, fun o k h1 h2 => ?_, hT⟩)
      · show am_up (ax_bk τ.2.1 120 0 136 277 277) 118 21 0 120 k = _
        rw [am_up_o _ _ (by decide), ax_bk_d (by omega), show 277 + (k - 0) = 277 + k by omega]
        exact hm 136 _ (by decide)
      · show am_up (ax_bk τ.2.1 120 0 136 277 277) 118 21 0 o k = _
        rw [am_up_o _ _ h1, ax_bk_o h2]
        exact hm o k h1
  · refine kr_iconst (v := 0) rd_d_X12_restore_23 (by decide) ?_
    exact kr_ireturn rd_d_X12_restore_24 (ty := .boolean) rfl rfl (Or.inr ⟨rfl, h9, fun o k h1 => hm o k h1, hT⟩)
theorem ax_imX_n (G : sx_G0 g L xs z9 hd_C ex_mt) {σ : am_S} {a : Int32} (h0 : ¬ a = 0) (h1 : ¬ a = 1) : am_K g 2 tX11_image.1 0 0 0 (lv_args 0 [.ref 0, .int a]) [] σ (ax_R 0 σ) := by
  refine kr_iload_n 1 rd_d_X11_image_0 rfl ?_
  refine kr_if_eq (tgt := 11) rd_d_X11_image_1 rfl (fun h => absurd h h0) (fun _ => ?_)
  refine kr_iload_n 1 rd_d_X11_image_4 rfl ?_
  refine kr_iconst (v := 1) rd_d_X11_image_5 (by decide) ?_
  refine kr_icmp_eq (tgt := 11) rd_d_X11_image_6 rfl (fun h => absurd h h1) (fun _ => ?_)
  refine kr_iconst (v := 0) rd_d_X11_image_9 (by decide) ?_
  exact kr_ireturn rd_d_X11_image_10 (ty := .boolean) rfl rfl ⟨rfl, rfl⟩
theorem ax_reX_n (G : sx_G0 g L xs z9 hd_C ex_mt) {σ : am_S} {a : Int32} (h0 : ¬ a = 0) (h1 : ¬ a = 1) : am_K g 2 tX11_restore.1 0 0 0 (lv_args 0 [.ref 0, .int a]) [] σ (ax_R 0 σ) := by
  refine kr_iload_n 1 rd_d_X11_restore_0 rfl ?_
  refine kr_if_eq (tgt := 11) rd_d_X11_restore_1 rfl (fun h => absurd h h0) (fun _ => ?_)
  refine kr_iload_n 1 rd_d_X11_restore_4 rfl ?_
  refine kr_iconst (v := 1) rd_d_X11_restore_5 (by decide) ?_
  refine kr_icmp_eq (tgt := 11) rd_d_X11_restore_6 rfl (fun h => absurd h h1) (fun _ => ?_)
  refine kr_iconst (v := 0) rd_d_X11_restore_9 (by decide) ?_
  exact kr_ireturn rd_d_X11_restore_10 (ty := .boolean) rfl rfl ⟨rfl, rfl⟩
theorem ax_imM_n (G : sx_G0 g L xs z9 hd_C ex_mt) {σ : am_S} (hS : ax_S σ) {a : Int32} (h0 : ¬ a = 0) (h1 : ¬ a = 1) : am_K g 2 tX12_image.1 0 0 0 (lv_args 0 [.ref 118, .int a]) [] σ (fun r σ' => r = some (some (.int 0)) ∧ (∀ o k, o ≠ 118 → σ'.2.1 o k = σ.2.1 o k) ∧ ax_S σ') := by
  have e0 : ax_f_isIn a 0 1 = 0 := by
    have z0 : (0 : Int32).toInt = 0 := rfl
    have z1 : (1 : Int32).toInt = 1 := rfl
    unfold ax_f_isIn
    split
    · rfl
    · rename_i q1
      split
      · rfl
      · rename_i q2
        have g1 : ¬ a.toInt < 0 := fun q => q1 (Int32.lt_iff_toInt_lt.mpr (by omega))
        have g2 : ¬ 1 < a.toInt := fun q => q2 (Int32.lt_iff_toInt_lt.mpr (by omega))
        have g3 : a.toInt = 0 ∨ a.toInt = 1 := by omega
        rcases g3 with g3 | g3
        · exact absurd (Int32.toInt_inj.mp (by omega)) h0
        · exact absurd (Int32.toInt_inj.mp (by omega)) h1
  refine ax_thr G hS rd_d_X12_image_0 rd_d_X12_image_1 rd_d_X12_image_2 rd_k_X12_image_2 rfl ?_
  intro τ hT hm hm8
  refine kr_iload_n 1 rd_d_X12_image_5 rfl ?_
  refine kr_iconst (v := 0) rd_d_X12_image_6 (by decide) ?_
  refine kr_iconst (v := 1) rd_d_X12_image_7 (by decide) ?_
  refine rd_callS G (T2 := tX12_isIn) rfl rd_d_X12_image_8 rd_k_X12_image_8 rfl rfl (as := [.int a, .int 0, .int 1]) (st := []) rfl (Nat.le_of_ble_eq_true rfl) rfl (by decide) (d1 := 1) (by decide) (fun _ h => by cases h.1) (ax_isIn G hT a 0 1) ?_
  intro v1 τ1 ⟨hv1, hs1⟩
  cases hv1
  rw [hs1, e0]
  refine kr_if_ne (tgt := 16) rd_d_X12_image_11 rfl (fun h => absurd rfl h) (fun _ => ?_)
  refine kr_iconst (v := 0) rd_d_X12_image_14 (by decide) ?_
  exact kr_ireturn rd_d_X12_image_15 (ty := .boolean) rfl rfl ⟨rfl, fun o k h => hm o k h, hT⟩
theorem ax_reM_n (G : sx_G0 g L xs z9 hd_C ex_mt) {σ : am_S} (hS : ax_S σ) {a : Int32} (h0 : ¬ a = 0) (h1 : ¬ a = 1) : am_K g 2 tX12_restore.1 0 0 0 (lv_args 0 [.ref 118, .int a]) [] σ (fun r σ' => r = some (some (.int 0)) ∧ (∀ o k, o ≠ 118 → σ'.2.1 o k = σ.2.1 o k) ∧ ax_S σ') := by
  have e0 : ax_f_isIn a 0 1 = 0 := by
    have z0 : (0 : Int32).toInt = 0 := rfl
    have z1 : (1 : Int32).toInt = 1 := rfl
    unfold ax_f_isIn
    split
    · rfl
    · rename_i q1
      split
      · rfl
      · rename_i q2
        have g1 : ¬ a.toInt < 0 := fun q => q1 (Int32.lt_iff_toInt_lt.mpr (by omega))
        have g2 : ¬ 1 < a.toInt := fun q => q2 (Int32.lt_iff_toInt_lt.mpr (by omega))
        have g3 : a.toInt = 0 ∨ a.toInt = 1 := by omega
        rcases g3 with g3 | g3
        · exact absurd (Int32.toInt_inj.mp (by omega)) h0
        · exact absurd (Int32.toInt_inj.mp (by omega)) h1
  refine ax_thr G hS rd_d_X12_restore_0 rd_d_X12_restore_1 rd_d_X12_restore_2 rd_k_X12_restore_2 rfl ?_
  intro τ hT hm hm8
  refine kr_iload_n 1 rd_d_X12_restore_5 rfl ?_
  refine kr_iconst (v := 0) rd_d_X12_restore_6 (by decide) ?_
  refine kr_iconst (v := 1) rd_d_X12_restore_7 (by decide) ?_
  refine rd_callS G (T2 := tX12_isIn) rfl rd_d_X12_restore_8 rd_k_X12_restore_8 rfl rfl (as := [.int a, .int 0, .int 1]) (st := []) rfl (Nat.le_of_ble_eq_true rfl) rfl (by decide) (d1 := 1) (by decide) (fun _ h => by cases h.1) (ax_isIn G hT a 0 1) ?_
  intro v1 τ1 ⟨hv1, hs1⟩
  cases hv1
  rw [hs1, e0]
  refine kr_if_eq (tgt := 23) rd_d_X12_restore_11 rfl (fun _ => ?_) (fun h => absurd rfl h)
  refine kr_iconst (v := 0) rd_d_X12_restore_23 (by decide) ?_
  exact kr_ireturn rd_d_X12_restore_24 (ty := .boolean) rfl rfl ⟨rfl, fun o k h => hm o k h, hT⟩
end AP
