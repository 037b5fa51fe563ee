/-! exact answers, further (rows written by a program) -/
theorem rd_d_X4_saleWindow_0 : decode tX4_saleWindow.1.2.1 0 = .ok (.aload_n 0, 1) := by decide +kernel
theorem rd_d_X4_saleWindow_1 : decode tX4_saleWindow.1.2.1 1 = .ok (.getfield 31, 3) := by decide +kernel
theorem rd_k_X4_saleWindow_1 : ex_lk ex_mt tX4_saleWindow 1 (.getfield 31) [4, 7, 2, 131090] = true := by decide +kernel
theorem rd_d_X4_saleWindow_4 : decode tX4_saleWindow.1.2.1 4 = .ok (.iload_n 1, 1) := by decide +kernel
theorem rd_d_X4_saleWindow_5 : decode tX4_saleWindow.1.2.1 5 = .ok (.invokestatic 112, 3) := by decide +kernel
theorem rd_k_X4_saleWindow_5 : ex_lk ex_mt tX4_saleWindow 5 (.invokestatic 112) [0, 32, 262344] = true := by decide +kernel
theorem rd_d_X4_saleWindow_8 : decode tX4_saleWindow.1.2.1 8 = .ok (.ireturn, 1) := by decide +kernel
theorem rd_d_X4_saleSecond_0 : decode tX4_saleSecond.1.2.1 0 = .ok (.aload_n 0, 1) := by decide +kernel
theorem rd_d_X4_saleSecond_1 : decode tX4_saleSecond.1.2.1 1 = .ok (.getfield 34, 3) := by decide +kernel
theorem rd_k_X4_saleSecond_1 : ex_lk ex_mt tX4_saleSecond 1 (.getfield 34) [4, 8, 2, 131091] = true := by decide +kernel
theorem rd_d_X4_saleSecond_4 : decode tX4_saleSecond.1.2.1 4 = .ok (.iload_n 1, 1) := by decide +kernel
theorem rd_d_X4_saleSecond_5 : decode tX4_saleSecond.1.2.1 5 = .ok (.invokestatic 112, 3) := by decide +kernel
theorem rd_k_X4_saleSecond_5 : ex_lk ex_mt tX4_saleSecond 5 (.invokestatic 112) [0, 32, 262344] = true := by decide +kernel
theorem rd_d_X4_saleSecond_8 : decode tX4_saleSecond.1.2.1 8 = .ok (.ireturn, 1) := by decide +kernel
theorem rd_d_X4_saleWay_0 : decode tX4_saleWay.1.2.1 0 = .ok (.aload_n 0, 1) := by decide +kernel
theorem rd_d_X4_saleWay_1 : decode tX4_saleWay.1.2.1 1 = .ok (.getfield 37, 3) := by decide +kernel
theorem rd_k_X4_saleWay_1 : ex_lk ex_mt tX4_saleWay 1 (.getfield 37) [4, 9, 2, 131092] = true := by decide +kernel
theorem rd_d_X4_saleWay_4 : decode tX4_saleWay.1.2.1 4 = .ok (.iload_n 1, 1) := by decide +kernel
theorem rd_d_X4_saleWay_5 : decode tX4_saleWay.1.2.1 5 = .ok (.invokestatic 112, 3) := by decide +kernel
theorem rd_k_X4_saleWay_5 : ex_lk ex_mt tX4_saleWay 5 (.invokestatic 112) [0, 32, 262344] = true := by decide +kernel
theorem rd_d_X4_saleWay_8 : decode tX4_saleWay.1.2.1 8 = .ok (.ireturn, 1) := by decide +kernel
theorem rd_d_X4_saleEnd_0 : decode tX4_saleEnd.1.2.1 0 = .ok (.aload_n 0, 1) := by decide +kernel
theorem rd_d_X4_saleEnd_1 : decode tX4_saleEnd.1.2.1 1 = .ok (.iload_n 1, 1) := by decide +kernel
theorem rd_d_X4_saleEnd_2 : decode tX4_saleEnd.1.2.1 2 = .ok (.invokevirtual 170, 3) := by decide +kernel
theorem rd_k_X4_saleEnd_2 : ex_lk ex_mt tX4_saleEnd 2 (.invokevirtual 170) [0, 227, 327682] = true := by decide +kernel
theorem rd_d_X4_saleEnd_5 : decode tX4_saleEnd.1.2.1 5 = .ok (.aload_n 0, 1) := by decide +kernel
theorem rd_d_X4_saleEnd_6 : decode tX4_saleEnd.1.2.1 6 = .ok (.getfield 46, 3) := by decide +kernel
theorem rd_k_X4_saleEnd_6 : ex_lk ex_mt tX4_saleEnd 6 (.getfield 46) [4, 0, 2, 131083] = true := by decide +kernel
theorem rd_d_X4_saleEnd_9 : decode tX4_saleEnd.1.2.1 9 = .ok (.aload_n 0, 1) := by decide +kernel
theorem rd_d_X4_saleEnd_10 : decode tX4_saleEnd.1.2.1 10 = .ok (.iload_n 1, 1) := by decide +kernel
theorem rd_d_X4_saleEnd_11 : decode tX4_saleEnd.1.2.1 11 = .ok (.invokevirtual 173, 3) := by decide +kernel
theorem rd_k_X4_saleEnd_11 : ex_lk ex_mt tX4_saleEnd 11 (.invokevirtual 173) [0, 229, 327686] = true := by decide +kernel
theorem rd_d_X4_saleEnd_14 : decode tX4_saleEnd.1.2.1 14 = .ok (.invokevirtual 102, 3) := by decide +kernel
theorem rd_k_X4_saleEnd_14 : ex_lk ex_mt tX4_saleEnd 14 (.invokevirtual 102) [0, 311, 262338] = true := by decide +kernel
theorem rd_d_X4_saleEnd_17 : decode tX4_saleEnd.1.2.1 17 = .ok (.iadd, 1) := by decide +kernel
theorem rd_d_X4_saleEnd_18 : decode tX4_saleEnd.1.2.1 18 = .ok (.ireturn, 1) := by decide +kernel
theorem rd_d_X4_lastEnd_0 : decode tX4_lastEnd.1.2.1 0 = .ok (.aload_n 0, 1) := by decide +kernel
theorem rd_d_X4_lastEnd_1 : decode tX4_lastEnd.1.2.1 1 = .ok (.getfield 155, 3) := by decide +kernel
theorem rd_k_X4_lastEnd_1 : ex_lk ex_mt tX4_lastEnd 1 (.getfield 155) [4, 12, 0, 131096] = true := by decide +kernel
theorem rd_d_X4_lastEnd_4 : decode tX4_lastEnd.1.2.1 4 = .ok (.ifCond .le 16, 3) := by decide +kernel
theorem rd_d_X4_lastEnd_7 : decode tX4_lastEnd.1.2.1 7 = .ok (.aload_n 0, 1) := by decide +kernel
theorem rd_d_X4_lastEnd_8 : decode tX4_lastEnd.1.2.1 8 = .ok (.aload_n 0, 1) := by decide +kernel
theorem rd_d_X4_lastEnd_9 : decode tX4_lastEnd.1.2.1 9 = .ok (.getfield 155, 3) := by decide +kernel
theorem rd_k_X4_lastEnd_9 : ex_lk ex_mt tX4_lastEnd 9 (.getfield 155) [4, 12, 0, 131096] = true := by decide +kernel
theorem rd_d_X4_lastEnd_12 : decode tX4_lastEnd.1.2.1 12 = .ok (.iconst 1, 1) := by decide +kernel
theorem rd_d_X4_lastEnd_13 : decode tX4_lastEnd.1.2.1 13 = .ok (.isub, 1) := by decide +kernel
theorem rd_d_X4_lastEnd_14 : decode tX4_lastEnd.1.2.1 14 = .ok (.invokevirtual 176, 3) := by decide +kernel
theorem rd_k_X4_lastEnd_14 : ex_lk ex_mt tX4_lastEnd 14 (.invokevirtual 176) [0, 226, 262382] = true := by decide +kernel
theorem rd_d_X4_lastEnd_17 : decode tX4_lastEnd.1.2.1 17 = .ok (.goto 4, 3) := by decide +kernel
theorem rd_d_X4_lastEnd_20 : decode tX4_lastEnd.1.2.1 20 = .ok (.iconst 0, 1) := by decide +kernel
theorem rd_d_X4_lastEnd_21 : decode tX4_lastEnd.1.2.1 21 = .ok (.ireturn, 1) := by decide +kernel
theorem rd_d_X4_penceUntil_0 : decode tX4_penceUntil.1.2.1 0 = .ok (.iconst 0, 1) := by decide +kernel
theorem rd_d_X4_penceUntil_1 : decode tX4_penceUntil.1.2.1 1 = .ok (.istore_n 2, 1) := by decide +kernel
theorem rd_d_X4_penceUntil_2 : decode tX4_penceUntil.1.2.1 2 = .ok (.iconst 0, 1) := by decide +kernel
theorem rd_d_X4_penceUntil_3 : decode tX4_penceUntil.1.2.1 3 = .ok (.istore_n 3, 1) := by decide +kernel
theorem rd_d_X4_penceUntil_4 : decode tX4_penceUntil.1.2.1 4 = .ok (.iload_n 3, 1) := by decide +kernel
theorem rd_d_X4_penceUntil_5 : decode tX4_penceUntil.1.2.1 5 = .ok (.aload_n 0, 1) := by decide +kernel
theorem rd_d_X4_penceUntil_6 : decode tX4_penceUntil.1.2.1 6 = .ok (.getfield 155, 3) := by decide +kernel
theorem rd_k_X4_penceUntil_6 : ex_lk ex_mt tX4_penceUntil 6 (.getfield 155) [4, 12, 0, 131096] = true := by decide +kernel
theorem rd_d_X4_penceUntil_9 : decode tX4_penceUntil.1.2.1 9 = .ok (.if_icmp .ge 33, 3) := by decide +kernel
theorem rd_d_X4_penceUntil_12 : decode tX4_penceUntil.1.2.1 12 = .ok (.aload_n 0, 1) := by decide +kernel
theorem rd_d_X4_penceUntil_13 : decode tX4_penceUntil.1.2.1 13 = .ok (.iload_n 3, 1) := by decide +kernel
theorem rd_d_X4_penceUntil_14 : decode tX4_penceUntil.1.2.1 14 = .ok (.invokevirtual 176, 3) := by decide +kernel
theorem rd_k_X4_penceUntil_14 : ex_lk ex_mt tX4_penceUntil 14 (.invokevirtual 176) [0, 226, 262382] = true := by decide +kernel
theorem rd_d_X4_penceUntil_17 : decode tX4_penceUntil.1.2.1 17 = .ok (.iload_n 1, 1) := by decide +kernel
theorem rd_d_X4_penceUntil_18 : decode tX4_penceUntil.1.2.1 18 = .ok (.if_icmp .gt 18, 3) := by decide +kernel
theorem rd_d_X4_penceUntil_21 : decode tX4_penceUntil.1.2.1 21 = .ok (.iload_n 2, 1) := by decide +kernel
theorem rd_d_X4_penceUntil_22 : decode tX4_penceUntil.1.2.1 22 = .ok (.aload_n 0, 1) := by decide +kernel
theorem rd_d_X4_penceUntil_23 : decode tX4_penceUntil.1.2.1 23 = .ok (.getfield 46, 3) := by decide +kernel
theorem rd_k_X4_penceUntil_23 : ex_lk ex_mt tX4_penceUntil 23 (.getfield 46) [4, 0, 2, 131083] = true := by decide +kernel
theorem rd_d_X4_penceUntil_26 : decode tX4_penceUntil.1.2.1 26 = .ok (.aload_n 0, 1) := by decide +kernel
theorem rd_d_X4_penceUntil_27 : decode tX4_penceUntil.1.2.1 27 = .ok (.iload_n 3, 1) := by decide +kernel
theorem rd_d_X4_penceUntil_28 : decode tX4_penceUntil.1.2.1 28 = .ok (.invokevirtual 173, 3) := by decide +kernel
theorem rd_k_X4_penceUntil_28 : ex_lk ex_mt tX4_penceUntil 28 (.invokevirtual 173) [0, 229, 327686] = true := by decide +kernel
theorem rd_d_X4_penceUntil_31 : decode tX4_penceUntil.1.2.1 31 = .ok (.invokevirtual 179, 3) := by decide +kernel
theorem rd_k_X4_penceUntil_31 : ex_lk ex_mt tX4_penceUntil 31 (.invokevirtual 179) [0, 299, 327694] = true := by decide +kernel
theorem rd_d_X4_penceUntil_34 : decode tX4_penceUntil.1.2.1 34 = .ok (.iadd, 1) := by decide +kernel
theorem rd_d_X4_penceUntil_35 : decode tX4_penceUntil.1.2.1 35 = .ok (.istore_n 2, 1) := by decide +kernel
theorem rd_d_X4_penceUntil_36 : decode tX4_penceUntil.1.2.1 36 = .ok (.iinc 3 1, 3) := by decide +kernel
theorem rd_d_X4_penceUntil_39 : decode tX4_penceUntil.1.2.1 39 = .ok (.goto (-35), 3) := by decide +kernel
theorem rd_d_X4_penceUntil_42 : decode tX4_penceUntil.1.2.1 42 = .ok (.iload_n 2, 1) := by decide +kernel
theorem rd_d_X4_penceUntil_43 : decode tX4_penceUntil.1.2.1 43 = .ok (.ireturn, 1) := by decide +kernel
section AXX
variable {g : am_C} {L : Nat} {xs : Nat → Int32}
def ax_f_slw (m : Nat → Nat → Int32) (k : Int32) : Int32 := ax_ent (m 75) 24 k
theorem ax_slw (G : sx_G0 g L xs z9 hd_C ex_mt) {σ : am_S} (hS : ax_S σ) (k : Int32) : am_K g 2 tX4_saleWindow.1 0 0 0 (lv_args 0 [.ref 68, .int k]) [] σ (ax_R (ax_f_slw σ.2.1 k) σ) := by
  refine kr_aload_n 0 rd_d_X4_saleWindow_0 rfl ?_
  refine kr_getf G.1 (rd_FL rd_k_X4_saleWindow_1).1 rd_d_X4_saleWindow_1 (hS.1 68 (.inl 4) rfl) (v := .ref 75) (by unfold am_fa; rw [(rd_FL rd_k_X4_saleWindow_1).2]; exact hS.2 68 7 75 rfl) ?_
  refine kr_iload_n 1 rd_d_X4_saleWindow_4 rfl ?_
  refine rd_callS G (T2 := tX11_entry) rfl rd_d_X4_saleWindow_5 rd_k_X4_saleWindow_5 rfl rfl (as := [.ref 75, .int k]) (st := []) rfl (Nat.le_of_ble_eq_true rfl) rfl (Nat.le_of_ble_eq_true rfl) (d1 := 1) (by decide) (fun _ h => by cases h.1) (ax_entry G (hS.1 75 (.inr (.int, 24)) rfl) (by decide) k) ?_
  intro v1 σ1 ⟨hv1, hs1⟩
  cases hv1
  rw [hs1]
  exact kr_ireturn rd_d_X4_saleWindow_8 (ty := .int) rfl rfl ⟨rfl, rfl⟩
def ax_f_sls (m : Nat → Nat → Int32) (k : Int32) : Int32 := ax_ent (m 76) 24 k
theorem ax_sls (G : sx_G0 g L xs z9 hd_C ex_mt) {σ : am_S} (hS : ax_S σ) (k : Int32) : am_K g 2 tX4_saleSecond.1 0 0 0 (lv_args 0 [.ref 68, .int k]) [] σ (ax_R (ax_f_sls σ.2.1 k) σ) := by
  refine kr_aload_n 0 rd_d_X4_saleSecond_0 rfl ?_
  refine kr_getf G.1 (rd_FL rd_k_X4_saleSecond_1).1 rd_d_X4_saleSecond_1 (hS.1 68 (.inl 4) rfl) (v := .ref 76) (by unfold am_fa; rw [(rd_FL rd_k_X4_saleSecond_1).2]; exact hS.2 68 8 76 rfl) ?_
  refine kr_iload_n 1 rd_d_X4_saleSecond_4 rfl ?_
  refine rd_callS G (T2 := tX11_entry) rfl rd_d_X4_saleSecond_5 rd_k_X4_saleSecond_5 rfl rfl (as := [.ref 76, .int k]) (st := []) rfl (Nat.le_of_ble_eq_true rfl) rfl (Nat.le_of_ble_eq_true rfl) (d1 := 1) (by decide) (fun _ h => by cases h.1) (ax_entry G (hS.1 76 (.inr (.int, 24)) rfl) (by decide) k) ?_
  intro v1 σ1 ⟨hv1, hs1⟩
  cases hv1
  rw [hs1]
  exact kr_ireturn rd_d_X4_saleSecond_8 (ty := .int) rfl rfl ⟨rfl, rfl⟩
def ax_f_sly (m : Nat → Nat → Int32) (k : Int32) : Int32 := ax_ent (m 77) 24 k
theorem ax_sly (G : sx_G0 g L xs z9 hd_C ex_mt) {σ : am_S} (hS : ax_S σ) (k : Int32) : am_K g 2 tX4_saleWay.1 0 0 0 (lv_args 0 [.ref 68, .int k]) [] σ (ax_R (ax_f_sly σ.2.1 k) σ) := by
  refine kr_aload_n 0 rd_d_X4_saleWay_0 rfl ?_
  refine kr_getf G.1 (rd_FL rd_k_X4_saleWay_1).1 rd_d_X4_saleWay_1 (hS.1 68 (.inl 4) rfl) (v := .ref 77) (by unfold am_fa; rw [(rd_FL rd_k_X4_saleWay_1).2]; exact hS.2 68 9 77 rfl) ?_
  refine kr_iload_n 1 rd_d_X4_saleWay_4 rfl ?_
  refine rd_callS G (T2 := tX11_entry) rfl rd_d_X4_saleWay_5 rd_k_X4_saleWay_5 rfl rfl (as := [.ref 77, .int k]) (st := []) rfl (Nat.le_of_ble_eq_true rfl) rfl (Nat.le_of_ble_eq_true rfl) (d1 := 1) (by decide) (fun _ h => by cases h.1) (ax_entry G (hS.1 77 (.inr (.int, 24)) rfl) (by decide) k) ?_
  intro v1 σ1 ⟨hv1, hs1⟩
  cases hv1
  rw [hs1]
  exact kr_ireturn rd_d_X4_saleWay_8 (ty := .int) rfl rfl ⟨rfl, rfl⟩
def ax_f_sle (m : Nat → Nat → Int32) (k : Int32) : Int32 := (ax_f_sls m k) + (ax_f_tak m (ax_f_slw m k))
theorem ax_sle (G : sx_G0 g L xs z9 hd_C ex_mt) {σ : am_S} (hS : ax_S σ) (k : Int32) : am_K g 3 tX4_saleEnd.1 0 0 0 (lv_args 0 [.ref 68, .int k]) [] σ (ax_R (ax_f_sle σ.2.1 k) σ) := by
  refine kr_aload_n 0 rd_d_X4_saleEnd_0 rfl ?_
  refine kr_iload_n 1 rd_d_X4_saleEnd_1 rfl ?_
  refine rd_call G (T2 := tX4_saleSecond) rfl rd_d_X4_saleEnd_2 rd_k_X4_saleEnd_2 rfl (hS.1 68 (.inl 4) rfl) (as := [.int k]) (st := []) rfl (Nat.le_of_ble_eq_true rfl) rfl (Nat.le_of_ble_eq_true rfl) (d1 := 2) (by decide) (fun _ h => by cases h.1) (ax_sls G hS k) ?_
  intro v1 σ1 ⟨hv1, hs1⟩
  cases hv1
  rw [hs1]
  refine kr_aload_n 0 rd_d_X4_saleEnd_5 rfl ?_
  refine kr_getf G.1 (rd_FL rd_k_X4_saleEnd_6).1 rd_d_X4_saleEnd_6 (hS.1 68 (.inl 4) rfl) (v := .ref 4) (by unfold am_fa; rw [(rd_FL rd_k_X4_saleEnd_6).2]; exact hS.2 68 0 4 rfl) ?_
  refine kr_aload_n 0 rd_d_X4_saleEnd_9 rfl ?_
  refine kr_iload_n 1 rd_d_X4_saleEnd_10 rfl ?_
  refine rd_call G (T2 := tX4_saleWindow) rfl rd_d_X4_saleEnd_11 rd_k_X4_saleEnd_11 rfl (hS.1 68 (.inl 4) rfl) (as := [.int k]) (st := [.ref 4, .int (ax_f_sls σ.2.1 k)]) rfl (Nat.le_of_ble_eq_true rfl) rfl (Nat.le_of_ble_eq_true rfl) (d1 := 2) (by decide) (fun _ h => by cases h.1) (ax_slw G hS k) ?_
  intro v2 σ2 ⟨hv2, hs2⟩
  cases hv2
  rw [hs2]
  refine rd_call G (T2 := tX9_takesOf) rfl rd_d_X4_saleEnd_14 rd_k_X4_saleEnd_14 rfl (hS.1 4 (.inl 9) rfl) (as := [.int (ax_f_slw σ.2.1 k)]) (st := [.int (ax_f_sls σ.2.1 k)]) rfl (Nat.le_of_ble_eq_true rfl) rfl (Nat.le_of_ble_eq_true rfl) (d1 := 2) (by decide) (fun _ h => by cases h.1) (ax_tak G hS (ax_f_slw σ.2.1 k)) ?_
  intro v3 σ3 ⟨hv3, hs3⟩
  cases hv3
  rw [hs3]
  refine kr_iadd rd_d_X4_saleEnd_17 ?_
  exact kr_ireturn rd_d_X4_saleEnd_18 (ty := .int) rfl rfl ⟨rfl, rfl⟩
def ax_f_lae (m : Nat → Nat → Int32) : Int32 := if (m 68 12) ≤ 0 then 0 else ax_f_sle m ((m 68 12) - 1)
theorem ax_lae (G : sx_G0 g L xs z9 hd_C ex_mt) {σ : am_S} (hS : ax_S σ) : am_K g 4 tX4_lastEnd.1 0 0 0 (lv_args 0 [.ref 68]) [] σ (ax_R (ax_f_lae σ.2.1) σ) := by
  refine kr_aload_n 0 rd_d_X4_lastEnd_0 rfl ?_
  refine kr_getf G.1 (rd_FL rd_k_X4_lastEnd_1).1 rd_d_X4_lastEnd_1 (hS.1 68 (.inl 4) rfl) (v := .int (σ.2.1 68 12)) (by unfold am_fa; rw [(rd_FL rd_k_X4_lastEnd_1).2]; rfl) ?_
  refine kr_if_le (tgt := 20) rd_d_X4_lastEnd_4 rfl (fun h1 => ?_) (fun h1 => ?_)
  · refine kr_iconst (v := 0) rd_d_X4_lastEnd_20 (by decide) ?_
    exact kr_ireturn rd_d_X4_lastEnd_21 (ty := .int) rfl rfl ⟨by rw [ax_f_lae, if_pos h1], rfl⟩
  · refine kr_aload_n 0 rd_d_X4_lastEnd_7 rfl ?_
    refine kr_aload_n 0 rd_d_X4_lastEnd_8 rfl ?_
    refine kr_getf G.1 (rd_FL rd_k_X4_lastEnd_9).1 rd_d_X4_lastEnd_9 (hS.1 68 (.inl 4) rfl) (v := .int (σ.2.1 68 12)) (by unfold am_fa; rw [(rd_FL rd_k_X4_lastEnd_9).2]; rfl) ?_
    refine kr_iconst (v := 1) rd_d_X4_lastEnd_12 (by decide) ?_
    refine kr_isub rd_d_X4_lastEnd_13 ?_
    refine rd_call G (T2 := tX4_saleEnd) rfl rd_d_X4_lastEnd_14 rd_k_X4_lastEnd_14 rfl (hS.1 68 (.inl 4) rfl) (as := [.int ((σ.2.1 68 12) - 1)]) (st := []) rfl (Nat.le_of_ble_eq_true rfl) rfl (Nat.le_of_ble_eq_true rfl) (d1 := 3) (by decide) (fun _ h => by cases h.1) (ax_sle G hS ((σ.2.1 68 12) - 1)) ?_
    intro v2 σ2 ⟨hv2, hs2⟩
    cases hv2
    rw [hs2]
    refine kr_goto (tgt := 21) rd_d_X4_lastEnd_17 rfl ?_
    exact kr_ireturn rd_d_X4_lastEnd_21 (ty := .int) rfl rfl ⟨by rw [ax_f_lae, if_neg h1], rfl⟩
def ax_s_puX (m : Nat → Nat → Int32) (l : Int32) (rec : Int32 → Int32 → Int32) (z k : Int32) : Int32 := if (m 68 12) ≤ k then z else if l < (ax_f_sle m k) then rec z (k + 1) else rec (z + (ax_f_pri m (ax_f_slw m k))) (k + 1)
def ax_l_puX (m : Nat → Nat → Int32) (l : Int32) : Nat → Int32 → Int32 → Int32
  | 0, z, k => ax_s_puX m l (fun _ _ => 0) z k
  | f + 1, z, k => ax_s_puX m l (ax_l_puX m l f) z k
theorem ax_l_puX_zero (m : Nat → Nat → Int32) (l : Int32) (z k : Int32) : ax_l_puX m l 0 z k = ax_s_puX m l (fun _ _ => 0) z k := rfl
theorem ax_l_puX_succ (m : Nat → Nat → Int32) (l : Int32) (f : Nat) (z k : Int32) : ax_l_puX m l (f + 1) z k = ax_s_puX m l (ax_l_puX m l f) z k := rfl
theorem ax_lo_puX (G : sx_G0 g L xs z9 hd_C ex_mt) {σ : am_S} (hS : ax_S σ) (l : Int32) (hn : (σ.2.1 68 12).toInt ≤ 24) : ∀ (f j : Nat) (z k : Int32), k.toInt = (j : Int) → j + f = 24 → am_K g 4 tX4_penceUntil.1 0 0 4 [(3, .int k), (2, .int z), (0, .ref 68), (1, .int l)] [] σ (ax_R (ax_l_puX σ.2.1 l f z k) σ) := by
  intro f
  induction f with
  | zero =>
    intro j z k ek hj
    refine kr_iload_n 0 rd_d_X4_penceUntil_4 rfl ?_
    refine kr_aload_n 2 rd_d_X4_penceUntil_5 rfl ?_
    refine kr_getf G.1 (rd_FL rd_k_X4_penceUntil_6).1 rd_d_X4_penceUntil_6 (hS.1 68 (.inl 4) rfl) (v := .int (σ.2.1 68 12)) (by unfold am_fa; rw [(rd_FL rd_k_X4_penceUntil_6).2]; rfl) ?_
    refine kr_icmp_ge (tgt := 42) rd_d_X4_penceUntil_9 rfl (fun h1 => ?_) (fun h1 => ?_)
    · refine kr_iload_n 1 rd_d_X4_penceUntil_42 rfl ?_
      exact kr_ireturn rd_d_X4_penceUntil_43 (ty := .int) rfl rfl ⟨by rw [ax_l_puX_zero, ax_s_puX, if_pos h1], rfl⟩
    · exact absurd (Int32.le_iff_toInt_le.mpr (by omega)) h1
  | succ f ih =>
    intro j z k ek hj
    refine kr_iload_n 0 rd_d_X4_penceUntil_4 rfl ?_
    refine kr_aload_n 2 rd_d_X4_penceUntil_5 rfl ?_
    refine kr_getf G.1 (rd_FL rd_k_X4_penceUntil_6).1 rd_d_X4_penceUntil_6 (hS.1 68 (.inl 4) rfl) (v := .int (σ.2.1 68 12)) (by unfold am_fa; rw [(rd_FL rd_k_X4_penceUntil_6).2]; rfl) ?_
    refine kr_icmp_ge (tgt := 42) rd_d_X4_penceUntil_9 rfl (fun h1 => ?_) (fun h1 => ?_)
    · refine kr_iload_n 1 rd_d_X4_penceUntil_42 rfl ?_
      exact kr_ireturn rd_d_X4_penceUntil_43 (ty := .int) rfl rfl ⟨by rw [ax_l_puX_succ, ax_s_puX, if_pos h1], rfl⟩
    · refine kr_aload_n 2 rd_d_X4_penceUntil_12 rfl ?_
      refine kr_iload_n 0 rd_d_X4_penceUntil_13 rfl ?_
      refine rd_call G (T2 := tX4_saleEnd) rfl rd_d_X4_penceUntil_14 rd_k_X4_penceUntil_14 rfl (hS.1 68 (.inl 4) rfl) (as := [.int k]) (st := []) rfl (Nat.le_of_ble_eq_true rfl) rfl (Nat.le_of_ble_eq_true rfl) (d1 := 3) (by decide) (fun _ h => by cases h.1) (ax_sle G hS k) ?_
      intro v2 σ2 ⟨hv2, hs2⟩
      cases hv2
      rw [hs2]
      refine kr_iload_n 3 rd_d_X4_penceUntil_17 rfl ?_
      refine kr_icmp_gt (tgt := 36) rd_d_X4_penceUntil_18 rfl (fun h3 => ?_) (fun h3 => ?_)
      · refine kr_iinc (v := k + 1) (lv' := [(3, .int (k + 1)), (2, .int z), (0, .ref 68), (1, .int l)]) 0 rd_d_X4_penceUntil_36 rfl rfl (by decide) rfl ?_
        refine kr_goto (tgt := 4) rd_d_X4_penceUntil_39 rfl ?_
        rw [ax_l_puX_succ, ax_s_puX, if_neg h1, if_pos h3]
        exact ih (j + 1) z (k + 1) (ax_inc ek (by omega)) (by omega)
      · refine kr_iload_n 1 rd_d_X4_penceUntil_21 rfl ?_
        refine kr_aload_n 2 rd_d_X4_penceUntil_22 rfl ?_
        refine kr_getf G.1 (rd_FL rd_k_X4_penceUntil_23).1 rd_d_X4_penceUntil_23 (hS.1 68 (.inl 4) rfl) (v := .ref 4) (by unfold am_fa; rw [(rd_FL rd_k_X4_penceUntil_23).2]; exact hS.2 68 0 4 rfl) ?_
        refine kr_aload_n 2 rd_d_X4_penceUntil_26 rfl ?_
        refine kr_iload_n 0 rd_d_X4_penceUntil_27 rfl ?_
        refine rd_call G (T2 := tX4_saleWindow) rfl rd_d_X4_penceUntil_28 rd_k_X4_penceUntil_28 rfl (hS.1 68 (.inl 4) rfl) (as := [.int k]) (st := [.ref 4, .int z]) rfl (Nat.le_of_ble_eq_true rfl) rfl (Nat.le_of_ble_eq_true rfl) (d1 := 2) (by decide) (fun _ h => by cases h.1) (ax_slw G hS k) ?_
        intro v4 σ4 ⟨hv4, hs4⟩
        cases hv4
        rw [hs4]
        refine rd_call G (T2 := tX9_priceOf) rfl rd_d_X4_penceUntil_31 rd_k_X4_penceUntil_31 rfl (hS.1 4 (.inl 9) rfl) (as := [.int (ax_f_slw σ.2.1 k)]) (st := [.int z]) rfl (Nat.le_of_ble_eq_true rfl) rfl (Nat.le_of_ble_eq_true rfl) (d1 := 2) (by decide) (fun _ h => by cases h.1) (ax_pri G hS (ax_f_slw σ.2.1 k)) ?_
        intro v5 σ5 ⟨hv5, hs5⟩
        cases hv5
        rw [hs5]
        refine kr_iadd rd_d_X4_penceUntil_34 ?_
        refine kr_istore_n (lv' := [(2, .int (z + (ax_f_pri σ.2.1 (ax_f_slw σ.2.1 k)))), (3, .int k), (0, .ref 68), (1, .int l)]) rd_d_X4_penceUntil_35 (by decide) rfl ?_
        refine kr_iinc (v := k + 1) (lv' := [(3, .int (k + 1)), (2, .int (z + (ax_f_pri σ.2.1 (ax_f_slw σ.2.1 k)))), (0, .ref 68), (1, .int l)]) 1 rd_d_X4_penceUntil_36 rfl rfl (by decide) rfl ?_
        refine kr_goto (tgt := 4) rd_d_X4_penceUntil_39 rfl ?_
        rw [ax_l_puX_succ, ax_s_puX, if_neg h1, if_neg h3]
        exact ih (j + 1) (z + (ax_f_pri σ.2.1 (ax_f_slw σ.2.1 k))) (k + 1) (ax_inc ek (by omega)) (by omega)
def ax_f_peu (m : Nat → Nat → Int32) (l : Int32) : Int32 := ax_l_puX m l 24 0 0
theorem ax_peu (G : sx_G0 g L xs z9 hd_C ex_mt) {σ : am_S} (hS : ax_S σ) (l : Int32) (hn : (σ.2.1 68 12).toInt ≤ 24) : am_K g 5 tX4_penceUntil.1 0 0 0 (lv_args 0 [.ref 68, .int l]) [] σ (ax_R (ax_f_peu σ.2.1 l) σ) := by
  refine kr_iconst (v := 0) rd_d_X4_penceUntil_0 (by decide) ?_
  refine kr_istore_n (lv' := [(2, .int 0), (0, .ref 68), (1, .int l)]) rd_d_X4_penceUntil_1 (by decide) rfl ?_
  refine kr_iconst (v := 0) rd_d_X4_penceUntil_2 (by decide) ?_
  refine kr_istore_n (lv' := [(3, .int 0), (2, .int 0), (0, .ref 68), (1, .int l)]) rd_d_X4_penceUntil_3 (by decide) rfl ?_
  rw [ax_f_peu]
  exact kr_less (by decide) (Nat.le_refl _) (Nat.le_refl _) (ax_lo_puX G hS l hn 24 0 0 0 rfl rfl)
/-! the list of sales -/
def pn_pr (s : Nat → Int32) (w : Nat) : Nat := (s (2 + w)).toInt.toNat
def pz_en (s : Nat → Int32) (x : Nat × Nat) : Nat := x.2 + pn_tk s x.1
/-- pence of the first j sales, as far as they end at l at the latest -/
def pz_pc (s : Nat → Int32) (q : List (Nat × Nat)) (l : Int) : Nat → Nat
  | 0 => 0
  | j + 1 => pz_pc s q l j + (if (pz_en s (q.getD j (0, 0)) : Int) ≤ l then pn_pr s (q.getD j (0, 0)).1 else 0)
/-- what a list of sales keeps to -/
def pz_ok (s : Nat → Int32) (q : List (Nat × Nat)) : Prop := q.length ≤ 24 ∧ ∀ i, i < q.length → (((q.getD i (0, 0)).1 : Nat) : Int) < (s 0).toInt ∧ (q.getD i (0, 0)).2 ≤ 1000
theorem pz_pc_le {s : Nat → Int32} (b : pn_B s) {q : List (Nat × Nat)} (h : pz_ok s q) (l : Int) : ∀ j, j ≤ q.length → pz_pc s q l j ≤ j * 99 := by
  intro j
  induction j with
  | zero => intro _; exact Nat.le_refl _
  | succ j ih =>
    intro hj
    have h1 := ih (by omega)
    have h2 := (h.2 j (by omega)).1
    have h10 := b.1.1.2
    have h3 := b.2.1.1 (q.getD j (0, 0)).1 (by omega)
    show pz_pc s q l j + (if (pz_en s (q.getD j (0, 0)) : Int) ≤ l then pn_pr s (q.getD j (0, 0)).1 else 0) ≤ _
    unfold pn_pr
    split <;> omega
theorem sl_g {s : Nat → Int32} {q : List (Nat × Nat)} {m : Nat → Nat → Int32} (h : pb_L s q m) (hq : q.length ≤ 24) {k : Int32} {i : Nat} (ek : k.toInt = (i : Int)) (hi : i < q.length) : (ax_f_slw m k).toInt = ((q.getD i (0, 0)).1 : Int) ∧ (ax_f_sls m k).toInt = ((q.getD i (0, 0)).2 : Int) ∧ ax_f_sly m k = ax_f_bwM s (Int32.ofNat (q.getD i (0, 0)).1) (Int32.ofNat (q.getD i (0, 0)).2) := by
  obtain ⟨h1, h2, h3⟩ := h.2 i hi
  rw [ax_f_slw, ax_f_sls, ax_f_sly, ax_ent_in (k := i) (by decide) ek (by omega), ax_ent_in (k := i) (by decide) ek (by omega), ax_ent_in (k := i) (by decide) ek (by omega)]
  exact ⟨h1, h2, h3⟩
theorem sl_e {s : Nat → Int32} (b : pn_B s) {q : List (Nat × Nat)} {m : Nat → Nat → Int32} (hR : pl_R m 4 s) (h : pb_L s q m) (hq : pz_ok s q) {k : Int32} {i : Nat} (ek : k.toInt = (i : Int)) (hi : i < q.length) : (ax_f_sle m k).toInt = (pz_en s (q.getD i (0, 0)) : Int) := by
  obtain ⟨h1, h2, -⟩ := sl_g h hq.1 ek hi
  obtain ⟨w1, t1⟩ := hq.2 i hi
  obtain ⟨-, r2, -, h10⟩ := pa_row hR b h1 w1
  have l := (pn_lim b h10).2.1
  rw [ax_f_sle]
  exact ch_add h2 r2 (by omega)
theorem pri_w {m : Nat → Nat → Int32} {s : Nat → Int32} (h : pl_R m 4 s) (b : pn_B s) {w : Int32} {ww : Nat} (ew : w.toInt = (ww : Int)) (hW : (ww : Int) < (s 0).toInt) : (ax_f_pri m w).toInt = (pn_pr s ww : Int) := by
  have ha : ¬ ax_f_win s w = 0 := ax_winV b.1 ⟨by omega, by omega⟩
  have hn : w.toInt.toNat = ww := by omega
  have h10 := b.1.1.2
  have e1 : ax_f_pri m w = s (2 + w.toInt.toNat) := ax_rowE h b.1 ha (r := 0) (by decide)
  have h3 := b.2.1.1 ww (by omega)
  rw [e1, hn]
  unfold pn_pr
  omega
theorem pu_l {s : Nat → Int32} (b : pn_B s) {q : List (Nat × Nat)} {m : Nat → Nat → Int32} (hR : pl_R m 4 s) (h : pb_L s q m) (hq : pz_ok s q) (l : Int32) : ∀ (f j : Nat) (z k : Int32), k.toInt = (j : Int) → j + f = 24 → j ≤ q.length → z.toInt = (pz_pc s q l.toInt j : Int) → (ax_l_puX m l f z k).toInt = (pz_pc s q l.toInt q.length : Int) := by
  have hl := h.1
  have h24 := hq.1
  intro f
  induction f with
  | zero =>
    intro j z k ek hj hjq ez
    have e : j = q.length := by omega
    rw [ax_l_puX_zero, ax_s_puX, if_pos (Int32.le_iff_toInt_le.mpr (by omega)), ← e]
    exact ez
  | succ f ih =>
    intro j z k ek hj hjq ez
    rw [ax_l_puX_succ, ax_s_puX]
    by_cases c : m 68 12 ≤ k
    · have c' := Int32.le_iff_toInt_le.mp c
      have e : j = q.length := by omega
      rw [if_pos c, ← e]
      exact ez
    · have c' : ¬ (m 68 12).toInt ≤ k.toInt := fun y => c (Int32.le_iff_toInt_le.mpr y)
      have hjl : j < q.length := by omega
      have en := sl_e b hR h hq ek hjl
      obtain ⟨w1, t1⟩ := hq.2 j hjl
      have ep := pri_w hR b (sl_g h h24 ek hjl).1 w1
      have hpc := pz_pc_le b hq l.toInt j hjq
      have h10 := b.1.1.2
      have h3 := b.2.1.1 (q.getD j (0, 0)).1 (by omega)
      have hstep : pz_pc s q l.toInt (j + 1) = pz_pc s q l.toInt j + (if (pz_en s (q.getD j (0, 0)) : Int) ≤ l.toInt then pn_pr s (q.getD j (0, 0)).1 else 0) := rfl
      rw [if_neg c]
      by_cases d : l < ax_f_sle m k
      · have d' := Int32.lt_iff_toInt_lt.mp d
        rw [if_pos d]
        refine ih (j + 1) z (k + 1) (ax_inc ek (by omega)) (by omega) (by omega) ?_
        rw [hstep, if_neg (by omega), Nat.add_zero]
        exact ez
      · have d' : ¬ l.toInt < (ax_f_sle m k).toInt := fun y => d (Int32.lt_iff_toInt_lt.mpr y)
        rw [if_neg d]
        refine ih (j + 1) _ (k + 1) (ax_inc ek (by omega)) (by omega) (by omega) ?_
        rw [hstep, if_pos (by omega)]
        exact ch_add ez ep (by unfold pn_pr; omega)
/-! the best plan's sales are in order -/
theorem pz_rep_m (w t tk : Nat) : ∀ (n : Nat) (x : Nat × Nat), x ∈ pz_rep w t tk n → x.1 = w ∧ t ≤ x.2 ∧ x.2 + tk ≤ t + n * tk := by
  intro n
  induction n with
  | zero => intro x h; cases h
  | succ n ih =>
    intro x h
    have e : (n + 1) * tk = n * tk + tk := Nat.succ_mul n tk
    rcases List.mem_append.mp h with h | h
    · obtain ⟨a1, a2, a3⟩ := ih x h
      exact ⟨a1, a2, by omega⟩
    · have hx := List.mem_singleton.mp h
      subst hx
      exact ⟨rfl, Nat.le_add_right _ _, by show t + n * tk + tk ≤ _; omega⟩
theorem pz_tr_len {s : Nat → Int32} (b : pn_B s) : ∀ (ws : List Nat) (t f : Nat), (∀ v ∈ ws, v < 10) → (pz_tr s ws t f).length ≤ f := by
  intro ws
  induction ws with
  | nil => intro t f _; exact Nat.zero_le _
  | cons w ws ih =>
    intro t f h
    have hn := (pn_v2 b (h w List.mem_cons_self) ws t f).1
    have hi := ih (t + (pn_v s (w :: ws) t f).2 * pn_tk s w + pn_wk s) (f - (pn_v s (w :: ws) t f).2) (fun v hv => h v (List.mem_cons_of_mem _ hv))
    rw [pz_tr_c, List.length_append, rep_len]
    omega
theorem pz_tr_m {s : Nat → Int32} (b : pn_B s) : ∀ (ws : List Nat) (t f : Nat), (∀ v ∈ ws, v < 10) → ∀ x ∈ pz_tr s ws t f, x.1 ∈ ws ∧ t ≤ x.2 ∧ x.2 ≤ t + 9 * f + 5 * ws.length := by
  intro ws
  induction ws with
  | nil => intro t f _ x h; cases h
  | cons w ws ih =>
    intro t f h x hx
    have hw := h w List.mem_cons_self
    have hn := (pn_v2 b hw ws t f).1
    have l := pn_lim b hw
    rw [pz_tr_c] at hx
    generalize (pn_v s (w :: ws) t f).2 = n at *
    have hnk : n * pn_tk s w ≤ n * 9 := Nat.mul_le_mul_left _ l.2.1
    have hlen : (w :: ws).length = ws.length + 1 := rfl
    rcases List.mem_append.mp hx with h1 | h1
    · obtain ⟨a1, a2, a3⟩ := pz_rep_m _ _ _ _ x h1
      refine ⟨by rw [a1]; exact List.mem_cons_self, a2, ?_⟩
      omega
    · obtain ⟨a1, a2, a3⟩ := ih _ _ (fun v hv => h v (List.mem_cons_of_mem _ hv)) x h1
      refine ⟨List.mem_cons_of_mem _ a1, by omega, by omega⟩
theorem gd_mem {α : Type} {l : List α} {d : α} {i : Nat} (h : i < l.length) : l.getD i d ∈ l := by
  rw [List.getD_eq_getElem?_getD, List.getElem?_eq_getElem h]
  exact List.getElem_mem h
theorem pl_up_l : ∀ (k a : Nat), (pl_up k a).length = k := by
  intro k
  induction k with
  | zero => intro a; rfl
  | succ k ih => intro a; show (pl_up k (a + 1)).length + 1 = k + 1; rw [ih]
theorem pl_dn_l : ∀ (k a : Nat), (pl_dn k a).length = k := by
  intro k
  induction k with
  | zero => intro a; rfl
  | succ k ih => intro a; show (pl_dn k (a - 1)).length + 1 = k + 1; rw [ih]
theorem pz_row_m {s : Nat → Int32} (b : pn_B s) {a u : Nat} (h : u = 1 ∨ a < pz_W s) (h9 : a ≤ 9) : (∀ v ∈ pz_row s a u, (v : Int) < (s 0).toInt) ∧ (pz_row s a u).length ≤ 10 := by
  have h1 := b.1.1
  unfold pz_row
  unfold pz_W at h
  split
  · refine ⟨fun v hv => ?_, by rw [pl_up_l]; omega⟩
    have := pl_up_m _ _ hv
    omega
  · rename_i e
    refine ⟨fun v hv => ?_, by rw [pl_dn_l]; omega⟩
    have := pl_dn_m _ _ hv
    omega
theorem pz_best_ok {s : Nat → Int32} (b : pn_B s) (b6 : pl_B6 s) : pz_ok s (pz_best s) := by
  obtain ⟨A9, AU, -⟩ := pb_A b
  obtain ⟨h1, h2⟩ := pz_row_m b AU A9
  have h10 := b.1.1.2
  have hv : ∀ v ∈ pz_row s (pb_a s) (pb_u s), v < 10 := fun v hv => by have := h1 v hv; omega
  obtain ⟨b0, b24⟩ := b6
  refine ⟨Nat.le_trans (pz_tr_len b _ _ _ hv) (by omega), fun i hi => ?_⟩
  obtain ⟨m1, m2, m3⟩ := pz_tr_m b _ _ _ hv _ (gd_mem (d := (0, 0)) hi)
  exact ⟨h1 _ m1, by show ((pz_best s).getD i (0, 0)).2 ≤ 1000; unfold pz_best; omega⟩
end AXX
