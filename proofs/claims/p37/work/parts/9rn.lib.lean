/-! exact answers, further (rows written by a program) -/
theorem rd_d_X10_byteAt_0 : decode tX10_byteAt.1.2.1 0 = .ok (.iload_n 1, 1) := by decide +kernel
theorem rd_d_X10_byteAt_1 : decode tX10_byteAt.1.2.1 1 = .ok (.ifCond .lt 33, 3) := by decide +kernel
theorem rd_d_X10_byteAt_4 : decode tX10_byteAt.1.2.1 4 = .ok (.iload_n 1, 1) := by decide +kernel
theorem rd_d_X10_byteAt_5 : decode tX10_byteAt.1.2.1 5 = .ok (.aload_n 0, 1) := by decide +kernel
theorem rd_d_X10_byteAt_6 : decode tX10_byteAt.1.2.1 6 = .ok (.getfield 15, 3) := by decide +kernel
theorem rd_k_X10_byteAt_6 : ex_lk ex_mt tX10_byteAt 6 (.getfield 15) [10, 1, 0, 65576] = true := by decide +kernel
theorem rd_d_X10_byteAt_9 : decode tX10_byteAt.1.2.1 9 = .ok (.if_icmp .ge 25, 3) := by decide +kernel
theorem rd_d_X10_byteAt_12 : decode tX10_byteAt.1.2.1 12 = .ok (.iload_n 1, 1) := by decide +kernel
theorem rd_d_X10_byteAt_13 : decode tX10_byteAt.1.2.1 13 = .ok (.aload_n 0, 1) := by decide +kernel
theorem rd_d_X10_byteAt_14 : decode tX10_byteAt.1.2.1 14 = .ok (.getfield 9, 3) := by decide +kernel
theorem rd_k_X10_byteAt_14 : ex_lk ex_mt tX10_byteAt 14 (.getfield 9) [10, 0, 2, 65575] = true := by decide +kernel
theorem rd_d_X10_byteAt_17 : decode tX10_byteAt.1.2.1 17 = .ok (.arraylength, 1) := by decide +kernel
theorem rd_d_X10_byteAt_18 : decode tX10_byteAt.1.2.1 18 = .ok (.if_icmp .ge 16, 3) := by decide +kernel
theorem rd_d_X10_byteAt_21 : decode tX10_byteAt.1.2.1 21 = .ok (.aload_n 0, 1) := by decide +kernel
theorem rd_d_X10_byteAt_22 : decode tX10_byteAt.1.2.1 22 = .ok (.getfield 9, 3) := by decide +kernel
theorem rd_k_X10_byteAt_22 : ex_lk ex_mt tX10_byteAt 22 (.getfield 9) [10, 0, 2, 65575] = true := by decide +kernel
theorem rd_d_X10_byteAt_25 : decode tX10_byteAt.1.2.1 25 = .ok (.iload_n 1, 1) := by decide +kernel
theorem rd_d_X10_byteAt_27 : decode tX10_byteAt.1.2.1 27 = .ok (.sipush 255, 3) := by decide +kernel
theorem rd_d_X10_byteAt_31 : decode tX10_byteAt.1.2.1 31 = .ok (.goto 4, 3) := by decide +kernel
theorem rd_d_X10_byteAt_34 : decode tX10_byteAt.1.2.1 34 = .ok (.iconst 0, 1) := by decide +kernel
theorem rd_d_X10_byteAt_35 : decode tX10_byteAt.1.2.1 35 = .ok (.ireturn, 1) := by decide +kernel
theorem rd_d_X11_stood_0 : decode tX11_stood.1.2.1 0 = .ok (.aload_n 0, 1) := by decide +kernel
theorem rd_d_X11_stood_1 : decode tX11_stood.1.2.1 1 = .ok (.getfield 12, 3) := by decide +kernel
theorem rd_k_X11_stood_1 : ex_lk ex_mt tX11_stood 1 (.getfield 12) [11, 0, 2, 131259] = true := by decide +kernel
theorem rd_d_X11_stood_4 : decode tX11_stood.1.2.1 4 = .ok (.getfield 113, 3) := by decide +kernel
theorem rd_k_X11_stood_4 : ex_lk ex_mt tX11_stood 4 (.getfield 113) [10, 1, 0, 65577] = true := by decide +kernel
theorem rd_d_X11_stood_7 : decode tX11_stood.1.2.1 7 = .ok (.iconst 2, 1) := by decide +kernel
theorem rd_d_X11_stood_8 : decode tX11_stood.1.2.1 8 = .ok (.if_icmp .ne 7, 3) := by decide +kernel
theorem rd_d_X11_stood_11 : decode tX11_stood.1.2.1 11 = .ok (.iconst 1, 1) := by decide +kernel
theorem rd_d_X11_stood_12 : decode tX11_stood.1.2.1 12 = .ok (.goto 4, 3) := by decide +kernel
theorem rd_d_X11_stood_15 : decode tX11_stood.1.2.1 15 = .ok (.iconst 0, 1) := by decide +kernel
theorem rd_d_X11_stood_16 : decode tX11_stood.1.2.1 16 = .ok (.istore_n 1, 1) := by decide +kernel
theorem rd_d_X11_stood_17 : decode tX11_stood.1.2.1 17 = .ok (.sipush 256, 3) := by decide +kernel
theorem rd_d_X11_stood_20 : decode tX11_stood.1.2.1 20 = .ok (.aload_n 0, 1) := by decide +kernel
theorem rd_d_X11_stood_21 : decode tX11_stood.1.2.1 21 = .ok (.getfield 12, 3) := by decide +kernel
theorem rd_k_X11_stood_21 : ex_lk ex_mt tX11_stood 21 (.getfield 12) [11, 0, 2, 131259] = true := by decide +kernel
theorem rd_d_X11_stood_24 : decode tX11_stood.1.2.1 24 = .ok (.iconst 0, 1) := by decide +kernel
theorem rd_d_X11_stood_25 : decode tX11_stood.1.2.1 25 = .ok (.invokevirtual 382, 3) := by decide +kernel
theorem rd_k_X11_stood_25 : ex_lk ex_mt tX11_stood 25 (.invokevirtual 382) [0, 16, 327809] = true := by decide +kernel
theorem rd_d_X11_stood_28 : decode tX11_stood.1.2.1 28 = .ok (.imul, 1) := by decide +kernel
theorem rd_d_X11_stood_29 : decode tX11_stood.1.2.1 29 = .ok (.aload_n 0, 1) := by decide +kernel
theorem rd_d_X11_stood_30 : decode tX11_stood.1.2.1 30 = .ok (.getfield 12, 3) := by decide +kernel
theorem rd_k_X11_stood_30 : ex_lk ex_mt tX11_stood 30 (.getfield 12) [11, 0, 2, 131259] = true := by decide +kernel
theorem rd_d_X11_stood_33 : decode tX11_stood.1.2.1 33 = .ok (.iconst 1, 1) := by decide +kernel
theorem rd_d_X11_stood_34 : decode tX11_stood.1.2.1 34 = .ok (.invokevirtual 382, 3) := by decide +kernel
theorem rd_k_X11_stood_34 : ex_lk ex_mt tX11_stood 34 (.invokevirtual 382) [0, 16, 327809] = true := by decide +kernel
theorem rd_d_X11_stood_37 : decode tX11_stood.1.2.1 37 = .ok (.iadd, 1) := by decide +kernel
theorem rd_d_X11_stood_38 : decode tX11_stood.1.2.1 38 = .ok (.istore_n 2, 1) := by decide +kernel
theorem rd_d_X11_stood_39 : decode tX11_stood.1.2.1 39 = .ok (.aload_n 0, 1) := by decide +kernel
theorem rd_d_X11_stood_40 : decode tX11_stood.1.2.1 40 = .ok (.getfield 12, 3) := by decide +kernel
theorem rd_k_X11_stood_40 : ex_lk ex_mt tX11_stood 40 (.getfield 12) [11, 0, 2, 131259] = true := by decide +kernel
theorem rd_d_X11_stood_43 : decode tX11_stood.1.2.1 43 = .ok (.iconst 0, 1) := by decide +kernel
theorem rd_d_X11_stood_44 : decode tX11_stood.1.2.1 44 = .ok (.putfield 113, 3) := by decide +kernel
theorem rd_k_X11_stood_44 : ex_lk ex_mt tX11_stood 44 (.putfield 113) [10, 1, 0, 65577] = true := by decide +kernel
theorem rd_d_X11_stood_47 : decode tX11_stood.1.2.1 47 = .ok (.iload_n 1, 1) := by decide +kernel
theorem rd_d_X11_stood_48 : decode tX11_stood.1.2.1 48 = .ok (.ifCond .ne 5, 3) := by decide +kernel
theorem rd_d_X11_stood_51 : decode tX11_stood.1.2.1 51 = .ok (.iconst (-1), 1) := by decide +kernel
theorem rd_d_X11_stood_52 : decode tX11_stood.1.2.1 52 = .ok (.ireturn, 1) := by decide +kernel
theorem rd_d_X11_stood_53 : decode tX11_stood.1.2.1 53 = .ok (.aload_n 0, 1) := by decide +kernel
theorem rd_d_X11_stood_54 : decode tX11_stood.1.2.1 54 = .ok (.getfield 67, 3) := by decide +kernel
theorem rd_k_X11_stood_54 : ex_lk ex_mt tX11_stood 54 (.getfield 67) [11, 9, 2, 131268] = true := by decide +kernel
theorem rd_d_X11_stood_57 : decode tX11_stood.1.2.1 57 = .ok (.invokevirtual 294, 3) := by decide +kernel
theorem rd_k_X11_stood_57 : ex_lk ex_mt tX11_stood 57 (.invokevirtual 294) [0, 220, 262306] = true := by decide +kernel
theorem rd_d_X11_stood_60 : decode tX11_stood.1.2.1 60 = .ok (.iconst 0, 1) := by decide +kernel
theorem rd_d_X11_stood_61 : decode tX11_stood.1.2.1 61 = .ok (.istore_n 3, 1) := by decide +kernel
theorem rd_d_X11_stood_62 : decode tX11_stood.1.2.1 62 = .ok (.iconst 0, 1) := by decide +kernel
theorem rd_d_X11_stood_63 : decode tX11_stood.1.2.1 63 = .ok (.istore 4, 2) := by decide +kernel
theorem rd_d_X11_stood_65 : decode tX11_stood.1.2.1 65 = .ok (.iload 4, 2) := by decide +kernel
theorem rd_d_X11_stood_67 : decode tX11_stood.1.2.1 67 = .ok (.aload_n 0, 1) := by decide +kernel
theorem rd_d_X11_stood_68 : decode tX11_stood.1.2.1 68 = .ok (.getfield 28, 3) := by decide +kernel
theorem rd_k_X11_stood_68 : ex_lk ex_mt tX11_stood 68 (.getfield 28) [11, 2, 2, 131261] = true := by decide +kernel
theorem rd_d_X11_stood_71 : decode tX11_stood.1.2.1 71 = .ok (.getfield 179, 3) := by decide +kernel
theorem rd_k_X11_stood_71 : ex_lk ex_mt tX11_stood 71 (.getfield 179) [9, 8, 0, 65661] = true := by decide +kernel
theorem rd_d_X11_stood_74 : decode tX11_stood.1.2.1 74 = .ok (.if_icmp .ge 36, 3) := by decide +kernel
theorem rd_d_X11_stood_77 : decode tX11_stood.1.2.1 77 = .ok (.aload_n 0, 1) := by decide +kernel
theorem rd_d_X11_stood_78 : decode tX11_stood.1.2.1 78 = .ok (.getfield 67, 3) := by decide +kernel
theorem rd_k_X11_stood_78 : ex_lk ex_mt tX11_stood 78 (.getfield 67) [11, 9, 2, 131268] = true := by decide +kernel
theorem rd_d_X11_stood_81 : decode tX11_stood.1.2.1 81 = .ok (.aload_n 0, 1) := by decide +kernel
theorem rd_d_X11_stood_82 : decode tX11_stood.1.2.1 82 = .ok (.getfield 28, 3) := by decide +kernel
theorem rd_k_X11_stood_82 : ex_lk ex_mt tX11_stood 82 (.getfield 28) [11, 2, 2, 131261] = true := by decide +kernel
theorem rd_d_X11_stood_85 : decode tX11_stood.1.2.1 85 = .ok (.iload 4, 2) := by decide +kernel
theorem rd_d_X11_stood_87 : decode tX11_stood.1.2.1 87 = .ok (.invokevirtual 182, 3) := by decide +kernel
theorem rd_k_X11_stood_87 : ex_lk ex_mt tX11_stood 87 (.invokevirtual 182) [0, 308, 196795] = true := by decide +kernel
theorem rd_d_X11_stood_90 : decode tX11_stood.1.2.1 90 = .ok (.invokevirtual 309, 3) := by decide +kernel
theorem rd_k_X11_stood_90 : ex_lk ex_mt tX11_stood 90 (.invokevirtual 309) [0, 219, 327690] = true := by decide +kernel
theorem rd_d_X11_stood_93 : decode tX11_stood.1.2.1 93 = .ok (.iload_n 2, 1) := by decide +kernel
theorem rd_d_X11_stood_94 : decode tX11_stood.1.2.1 94 = .ok (.if_icmp .ne 10, 3) := by decide +kernel
theorem rd_d_X11_stood_97 : decode tX11_stood.1.2.1 97 = .ok (.iload_n 3, 1) := by decide +kernel
theorem rd_d_X11_stood_98 : decode tX11_stood.1.2.1 98 = .ok (.iconst 1, 1) := by decide +kernel
theorem rd_d_X11_stood_99 : decode tX11_stood.1.2.1 99 = .ok (.iload 4, 2) := by decide +kernel
theorem rd_d_X11_stood_101 : decode tX11_stood.1.2.1 101 = .ok (.ishl, 1) := by decide +kernel
theorem rd_d_X11_stood_102 : decode tX11_stood.1.2.1 102 = .ok (.ior, 1) := by decide +kernel
theorem rd_d_X11_stood_103 : decode tX11_stood.1.2.1 103 = .ok (.istore_n 3, 1) := by decide +kernel
theorem rd_d_X11_stood_104 : decode tX11_stood.1.2.1 104 = .ok (.iinc 4 1, 3) := by decide +kernel
theorem rd_d_X11_stood_107 : decode tX11_stood.1.2.1 107 = .ok (.goto (-42), 3) := by decide +kernel
theorem rd_d_X11_stood_110 : decode tX11_stood.1.2.1 110 = .ok (.iload_n 3, 1) := by decide +kernel
theorem rd_d_X11_stood_111 : decode tX11_stood.1.2.1 111 = .ok (.ireturn, 1) := by decide +kernel
section AXX
variable {g : am_C} {L : Nat} {xs : Nat → Int32}
/-! how long it stood, by the pence -/
theorem pd_lt {a b : Int32} (h : ¬ b ≤ a) : a < b := Int32.lt_iff_toInt_lt.mpr (by have : ¬ b.toInt ≤ a.toInt := fun z => h (Int32.le_iff_toInt_le.mpr z); omega)
theorem pd_nlt {a b : Int32} (h : b ≤ a) : ¬ a < b := fun z => by have := Int32.le_iff_toInt_le.mp h; have := Int32.lt_iff_toInt_lt.mp z; omega
def pz_sN (s : Nat → Int32) : Nat := (ax_f_many s).toInt.toNat
def pz_st (s : Nat → Int32) (p : Int32) : Nat → Int32
  | 0 => 0
  | j + 1 => if ((pz_pc s (pz_best s) (ax_f_secM s (Int32.ofNat j) j).toInt (pz_best s).length : Nat) : Int) = p.toInt then pz_st s p j ||| (1 <<< (Int32.ofNat j &&& 31)) else pz_st s p j
def pz_soA (s : Nat → Int32) (len b0 b1 : Int32) : Int32 := if len = 2 then pz_st s (256 * (b0 &&& 255) + (b1 &&& 255)) (pz_sN s) else -1
theorem pc_F4 {s : Nat → Int32} {σ σ' : am_S} (h : pc_X s σ) (f : ∀ x y, (4 ≤ x ∧ x ≤ 11) ∨ x = 120 → σ'.2.1 x y = σ.2.1 x y) : pc_X s σ' := by
  obtain ⟨⟨h1, h2, h3, h4⟩, h5⟩ := h
  refine ⟨⟨?_, ?_, ?_, ?_⟩, ?_⟩
  · rw [f 4 7 (Or.inl (by decide))]; exact h1
  · rw [f 4 8 (Or.inl (by decide)), f (4 + 1 + 4) 0 (Or.inl (by decide)), f (4 + 1 + 5) 0 (Or.inl (by decide))]; exact h2
  · rw [f 4 8 (Or.inl (by decide))]; exact h3
  · intro r hr k hk
    rw [f (4 + 1 + r) k (Or.inl (by omega))]
    exact h4 r hr k hk
  · exact (funext fun y => f 120 y (Or.inr rfl)).trans h5
theorem pb_KF {s : Nat → Int32} {m m' : Nat → Nat → Int32} (h : pb_K s m) (f : ∀ x y, 68 ≤ x ∧ x ≤ 79 → m' x y = m x y) : pb_K s m' := ⟨by rw [f 68 13 (by decide)]; exact h.1, by rw [f 68 14 (by decide)]; exact h.2.1, by rw [f 68 12 (by decide)]; exact h.2.2.1, fun i hi => by rw [f 75 i (by decide), f 76 i (by decide), f 77 i (by decide)]; exact h.2.2.2 i hi⟩
def ax_f_byt (m : Nat → Nat → Int32) (k : Int32) : Int32 := if k < 0 then 0 else if (m 1 1) ≤ k then 0 else if (nI 940) ≤ k then 0 else (m 2 k.toInt.toNat) &&& 255
theorem ax_byt (G : sx_G0 g L xs z9 hd_C ex_mt) {σ : am_S} (hS : ax_S σ) (k : Int32) : am_K g 1 tX10_byteAt.1 0 0 0 (lv_args 0 [.ref 1, .int k]) [] σ (ax_R (ax_f_byt σ.2.1 k) σ) := by
  refine kr_iload_n 1 rd_d_X10_byteAt_0 rfl ?_
  refine kr_if_lt (tgt := 34) rd_d_X10_byteAt_1 rfl (fun h1 => ?_) (fun h1 => ?_)
  · refine kr_iconst (v := 0) rd_d_X10_byteAt_34 (by decide) ?_
    exact kr_ireturn rd_d_X10_byteAt_35 (ty := .int) rfl rfl ⟨by rw [ax_f_byt, if_pos h1], rfl⟩
  · refine kr_iload_n 1 rd_d_X10_byteAt_4 rfl ?_
    refine kr_aload_n 0 rd_d_X10_byteAt_5 rfl ?_
    refine kr_getf G.1 (rd_FL rd_k_X10_byteAt_6).1 rd_d_X10_byteAt_6 (hS.1 1 (.inl 10) rfl) (v := .int (σ.2.1 1 1)) (by unfold am_fa; rw [(rd_FL rd_k_X10_byteAt_6).2]; rfl) ?_
    refine kr_icmp_ge (tgt := 34) rd_d_X10_byteAt_9 rfl (fun h2 => ?_) (fun h2 => ?_)
    · refine kr_iconst (v := 0) rd_d_X10_byteAt_34 (by decide) ?_
      exact kr_ireturn rd_d_X10_byteAt_35 (ty := .int) rfl rfl ⟨by rw [ax_f_byt, if_neg h1, if_pos h2], rfl⟩
    · refine kr_iload_n 1 rd_d_X10_byteAt_12 rfl ?_
      refine kr_aload_n 0 rd_d_X10_byteAt_13 rfl ?_
      refine kr_getf G.1 (rd_FL rd_k_X10_byteAt_14).1 rd_d_X10_byteAt_14 (hS.1 1 (.inl 10) rfl) (v := .ref 2) (by unfold am_fa; rw [(rd_FL rd_k_X10_byteAt_14).2]; exact hS.2 1 0 2 rfl) ?_
      refine kr_alenB G.1 (n := 940) rd_d_X10_byteAt_17 (hS.1 2 (.inr (.byte, 940)) rfl) ?_
      refine kr_icmp_ge (tgt := 34) rd_d_X10_byteAt_18 rfl (fun h3 => ?_) (fun h3 => ?_)
      · refine kr_iconst (v := 0) rd_d_X10_byteAt_34 (by decide) ?_
        exact kr_ireturn rd_d_X10_byteAt_35 (ty := .int) rfl rfl ⟨by rw [ax_f_byt, if_neg h1, if_neg h2, if_pos h3], rfl⟩
      · refine kr_aload_n 0 rd_d_X10_byteAt_21 rfl ?_
        refine kr_getf G.1 (rd_FL rd_k_X10_byteAt_22).1 rd_d_X10_byteAt_22 (hS.1 1 (.inl 10) rfl) (v := .ref 2) (by unfold am_fa; rw [(rd_FL rd_k_X10_byteAt_22).2]; exact hS.2 1 0 2 rfl) ?_
        refine kr_iload_n 1 rd_d_X10_byteAt_25 rfl ?_
        refine kr_bald G.1 (n := 940) rd_d_X10_byteAt_26 (hS.1 2 (.inr (.byte, 940)) rfl) (hd_in (n := k.toInt.toNat) (by have z0 : (0 : Int32).toInt = 0 := rfl; have q : ¬ k.toInt < (0 : Int32).toInt := fun q => h1 (Int32.lt_iff_toInt_lt.mpr q); omega) (by have z9 : (nI 940).toInt = 940 := rfl; have q : ¬ (nI 940).toInt ≤ k.toInt := fun q => h3 (Int32.le_iff_toInt_le.mpr q); omega)) ?_
        rw [hd_clamp (n := k.toInt.toNat) (by have z0 : (0 : Int32).toInt = 0 := rfl; have q : ¬ k.toInt < (0 : Int32).toInt := fun q => h1 (Int32.lt_iff_toInt_lt.mpr q); omega)]
        refine kr_sipush (v := 255) rd_d_X10_byteAt_27 (by decide) ?_
        refine kr_iand rd_d_X10_byteAt_30 ?_
        refine kr_goto (tgt := 35) rd_d_X10_byteAt_31 rfl ?_
        exact kr_ireturn rd_d_X10_byteAt_35 (ty := .int) rfl rfl ⟨by rw [ax_f_byt, if_neg h1, if_neg h2, if_neg h3], rfl⟩
theorem ax_byt_in {m : Nat → Nat → Int32} {k : Int32} {i : Nat} (ek : k.toInt = (i : Int)) (h1 : (i : Int) < (m 1 1).toInt) (h9 : i < 940) : ax_f_byt m k = m 2 i &&& 255 := by
  have z0 : (0 : Int32).toInt = 0 := rfl
  have z9 : (nI 940).toInt = 940 := rfl
  rw [ax_f_byt, if_neg (fun q => by have := Int32.lt_iff_toInt_lt.mp q; omega), if_neg (fun q => by have := Int32.le_iff_toInt_le.mp q; omega), if_neg (fun q => by have := Int32.le_iff_toInt_le.mp q; omega), show k.toInt.toNat = i by omega]
theorem ax_soLX (G : sx_G0 g L xs z9 hd_C ex_mt) {s : Nat → Int32} (b : pn_B s) (b6 : pl_B6 s) {p : Int32} {σ : am_S} (hS : ax_S σ) (hX : pc_X s σ) (hK : pb_L s (pz_best s) σ.2.1) : ∀ (f j : Nat) (z k : Int32), k.toInt = (j : Int) → j + f = pz_sN s → z = pz_st s p j → am_K g 9 tX11_stood.1 0 0 65 [(4, .int k), (3, .int z), (2, .int p), (1, .int 1), (0, .ref 0)] [] σ (fun r σ' => r = some (some (.int (pz_st s p (pz_sN s)))) ∧ σ' = σ) := by
  have hm := pl_many hX.1 b.1
  have h6 := ax_many6 (s := s) b.1.2
  have hN : (σ.2.1 4 8).toInt = (pz_sN s : Int) := by unfold pz_sN; omega
  have hlen := hK.1
  have hn24 : (σ.2.1 68 12).toInt ≤ 24 := by have := (pz_best_ok b b6).1; omega
  intro f
  induction f with
  | zero =>
    intro j z k ek hj ez
    refine kr_iload 0 rd_d_X11_stood_65 rfl ?_
    refine kr_aload_n 4 rd_d_X11_stood_67 rfl ?_
    refine kr_getf G.1 (rd_FL rd_k_X11_stood_68).1 rd_d_X11_stood_68 (hS.1 0 (.inl 11) rfl) (v := .ref 4) (by unfold am_fa; rw [(rd_FL rd_k_X11_stood_68).2]; exact hS.2 0 2 4 rfl) ?_
    refine kr_getf G.1 (rd_FL rd_k_X11_stood_71).1 rd_d_X11_stood_71 (hS.1 4 (.inl 9) rfl) (v := .int (σ.2.1 4 8)) (by unfold am_fa; rw [(rd_FL rd_k_X11_stood_71).2]; rfl) ?_
    refine kr_icmp_ge (tgt := 110) rd_d_X11_stood_74 rfl (fun h1 => ?_) (fun h1 => ?_)
    · refine kr_iload_n 1 rd_d_X11_stood_110 rfl ?_
      exact kr_ireturn rd_d_X11_stood_111 (ty := .int) rfl rfl ⟨by rw [ez, show j = pz_sN s by omega], rfl⟩
    · exact absurd (Int32.le_iff_toInt_le.mpr (by omega)) h1
  | succ f ih =>
    intro j z k ek hj ez
    have ekj : k = Int32.ofNat j := ch_ofN ek
    have hsec : ax_f_secX σ.2.1 k = ax_f_secM s k j := (pl_sec hX.1 b.1 ek (by omega)).1
    have hpu := pz_pu b b6 hX.1 hK (ax_f_secX σ.2.1 k)
    have hst : pz_st s p (j + 1) = if ((pz_pc s (pz_best s) (ax_f_secX σ.2.1 k).toInt (pz_best s).length : Nat) : Int) = p.toInt then pz_st s p j ||| (1 <<< (k &&& 31)) else pz_st s p j := by rw [hsec, ekj]; rfl
    refine kr_iload 0 rd_d_X11_stood_65 rfl ?_
    refine kr_aload_n 4 rd_d_X11_stood_67 rfl ?_
    refine kr_getf G.1 (rd_FL rd_k_X11_stood_68).1 rd_d_X11_stood_68 (hS.1 0 (.inl 11) rfl) (v := .ref 4) (by unfold am_fa; rw [(rd_FL rd_k_X11_stood_68).2]; exact hS.2 0 2 4 rfl) ?_
    refine kr_getf G.1 (rd_FL rd_k_X11_stood_71).1 rd_d_X11_stood_71 (hS.1 4 (.inl 9) rfl) (v := .int (σ.2.1 4 8)) (by unfold am_fa; rw [(rd_FL rd_k_X11_stood_71).2]; rfl) ?_
    refine kr_icmp_ge (tgt := 110) rd_d_X11_stood_74 rfl (fun h21 => ?_) (fun h21 => ?_)
    · refine kr_iload_n 1 rd_d_X11_stood_110 rfl ?_
      have := Int32.le_iff_toInt_le.mp h21
      omega
    · refine kr_aload_n 4 rd_d_X11_stood_77 rfl ?_
      refine kr_getf G.1 (rd_FL rd_k_X11_stood_78).1 rd_d_X11_stood_78 (hS.1 0 (.inl 11) rfl) (v := .ref 68) (by unfold am_fa; rw [(rd_FL rd_k_X11_stood_78).2]; exact hS.2 0 9 68 rfl) ?_
      refine kr_aload_n 4 rd_d_X11_stood_81 rfl ?_
      refine kr_getf G.1 (rd_FL rd_k_X11_stood_82).1 rd_d_X11_stood_82 (hS.1 0 (.inl 11) rfl) (v := .ref 4) (by unfold am_fa; rw [(rd_FL rd_k_X11_stood_82).2]; exact hS.2 0 2 4 rfl) ?_
      refine kr_iload 0 rd_d_X11_stood_85 rfl ?_
      refine rd_call G (T2 := tX9_secondsOf) rfl rd_d_X11_stood_87 rd_k_X11_stood_87 rfl (hS.1 4 (.inl 9) rfl) (as := [.int k]) (st := [.ref 68]) rfl (Nat.le_of_ble_eq_true rfl) rfl (Nat.le_of_ble_eq_true rfl) (d1 := 2) (by decide) (fun _ h => by cases h.1) (ax_secX G hS k) ?_
      intro v41 σ41 ⟨hv41, hs41⟩
      cases hv41
      rw [hs41]
      refine rd_call G (T2 := tX4_penceUntil) rfl rd_d_X11_stood_90 rd_k_X11_stood_90 rfl (hS.1 68 (.inl 4) rfl) (as := [.int (ax_f_secX σ.2.1 k)]) (st := []) rfl (Nat.le_of_ble_eq_true rfl) rfl (Nat.le_of_ble_eq_true rfl) (d1 := 5) (by decide) (fun _ h => by cases h.1) (ax_peu G hS (ax_f_secX σ.2.1 k) hn24) ?_
      intro v42 σ42 ⟨hv42, hs42⟩
      cases hv42
      rw [hs42]
      refine kr_iload_n 2 rd_d_X11_stood_93 rfl ?_
      refine kr_icmp_ne (tgt := 104) rd_d_X11_stood_94 rfl (fun h43 => ?_) (fun h43 => ?_)
      · refine kr_iinc (v := k + 1) (lv' := [(4, .int (k + 1)), (3, .int z), (2, .int p), (1, .int 1), (0, .ref 0)]) 0 rd_d_X11_stood_104 rfl rfl (by decide) rfl ?_
        refine kr_goto (tgt := 65) rd_d_X11_stood_107 rfl ?_
        refine kr_sub (lv' := [(4, .int (k + 1)), (3, .int z), (2, .int p), (1, .int 1), (0, .ref 0)]) (by simp) ?_
        refine ih (j + 1) z (k + 1) (ax_inc ek (by omega)) (by omega) ?_
        rw [hst, if_neg (fun q => h43 (Int32.toInt_inj.mp (hpu.trans q))), ez]
      · refine kr_iload_n 1 rd_d_X11_stood_97 rfl ?_
        refine kr_iconst (v := 1) rd_d_X11_stood_98 (by decide) ?_
        refine kr_iload 0 rd_d_X11_stood_99 rfl ?_
        refine kr_ishl rd_d_X11_stood_101 ?_
        refine kr_ior rd_d_X11_stood_102 ?_
        refine kr_istore_n (lv' := [(3, .int (z ||| (1 <<< (k &&& 31)))), (4, .int k), (2, .int p), (1, .int 1), (0, .ref 0)]) rd_d_X11_stood_103 (by decide) rfl ?_
        refine kr_iinc (v := k + 1) (lv' := [(4, .int (k + 1)), (3, .int (z ||| (1 <<< (k &&& 31)))), (2, .int p), (1, .int 1), (0, .ref 0)]) 1 rd_d_X11_stood_104 rfl rfl (by decide) rfl ?_
        refine kr_goto (tgt := 65) rd_d_X11_stood_107 rfl ?_
        refine kr_sub (lv' := [(4, .int (k + 1)), (3, .int (z ||| (1 <<< (k &&& 31)))), (2, .int p), (1, .int 1), (0, .ref 0)]) (by simp) ?_
        refine ih (j + 1) (z ||| (1 <<< (k &&& 31))) (k + 1) (ax_inc ek (by omega)) (by omega) ?_
        rw [hst, if_pos (by rw [← hpu, h43]), ez]
theorem ax_soX (G : sx_G0 g L xs z9 hd_C ex_mt) {s : Nat → Int32} (b : pn_B s) (bw : pl_W s) (b5 : pl_B5 s) (b6 : pl_B6 s) {σ : am_S} (hS : ax_S σ) (hX : pc_X s σ) (hP : pk_P (pc_h s) s σ) (hB : ¬ σ.2.1 68 19 = 0 → pb_K s σ.2.1) : am_K g 9 tX11_stood.1 0 0 0 (lv_args 0 [.ref 0]) [] σ (fun r σ' => r = some (some (.int (pz_soA s (σ.2.1 1 1) (σ.2.1 2 0) (σ.2.1 2 1)))) ∧ ax_S σ' ∧ (∀ x y, (x < 68 ∨ 79 < x ∨ (x = 68 ∧ (y < 12 ∨ 19 < y))) → ¬ (x = 1 ∧ y = 1) → σ'.2.1 x y = σ.2.1 x y) ∧ pk_P (pc_h s) s σ' ∧ (¬ σ'.2.1 68 19 = 0 → pb_K s σ'.2.1)) := by
  refine kr_aload_n 0 rd_d_X11_stood_0 rfl ?_
  refine kr_getf G.1 (rd_FL rd_k_X11_stood_1).1 rd_d_X11_stood_1 (hS.1 0 (.inl 11) rfl) (v := .ref 1) (by unfold am_fa; rw [(rd_FL rd_k_X11_stood_1).2]; exact hS.2 0 0 1 rfl) ?_
  refine kr_getf G.1 (rd_FL rd_k_X11_stood_4).1 rd_d_X11_stood_4 (hS.1 1 (.inl 10) rfl) (v := .int (σ.2.1 1 1)) (by unfold am_fa; rw [(rd_FL rd_k_X11_stood_4).2]; rfl) ?_
  refine kr_iconst (v := 2) rd_d_X11_stood_7 (by decide) ?_
  refine kr_icmp_ne (tgt := 15) rd_d_X11_stood_8 rfl (fun h1 => ?_) (fun h1 => ?_)
  · refine kr_iconst (v := 0) rd_d_X11_stood_15 (by decide) ?_
    refine kr_istore_n (lv' := [(1, .int 0), (0, .ref 0)]) rd_d_X11_stood_16 (by decide) rfl ?_
    refine kr_sipush (v := 256) rd_d_X11_stood_17 (by decide) ?_
    refine kr_aload_n 1 rd_d_X11_stood_20 rfl ?_
    refine kr_getf G.1 (rd_FL rd_k_X11_stood_21).1 rd_d_X11_stood_21 (hS.1 0 (.inl 11) rfl) (v := .ref 1) (by unfold am_fa; rw [(rd_FL rd_k_X11_stood_21).2]; exact hS.2 0 0 1 rfl) ?_
    refine kr_iconst (v := 0) rd_d_X11_stood_24 (by decide) ?_
    refine rd_call G (T2 := tX10_byteAt) rfl rd_d_X11_stood_25 rd_k_X11_stood_25 rfl (hS.1 1 (.inl 10) rfl) (as := [.int 0]) (st := [.int 256]) rfl (Nat.le_of_ble_eq_true rfl) rfl (Nat.le_of_ble_eq_true rfl) (d1 := 1) (by decide) (fun _ h => by cases h.1) (ax_byt G hS 0) ?_
    intro v2 σ2 ⟨hv2, hs2⟩
    cases hv2
    rw [hs2]
    refine kr_imul rd_d_X11_stood_28 ?_
    refine kr_aload_n 1 rd_d_X11_stood_29 rfl ?_
    refine kr_getf G.1 (rd_FL rd_k_X11_stood_30).1 rd_d_X11_stood_30 (hS.1 0 (.inl 11) rfl) (v := .ref 1) (by unfold am_fa; rw [(rd_FL rd_k_X11_stood_30).2]; exact hS.2 0 0 1 rfl) ?_
    refine kr_iconst (v := 1) rd_d_X11_stood_33 (by decide) ?_
    refine rd_call G (T2 := tX10_byteAt) rfl rd_d_X11_stood_34 rd_k_X11_stood_34 rfl (hS.1 1 (.inl 10) rfl) (as := [.int 1]) (st := [.int (256 * (ax_f_byt σ.2.1 0))]) rfl (Nat.le_of_ble_eq_true rfl) rfl (Nat.le_of_ble_eq_true rfl) (d1 := 1) (by decide) (fun _ h => by cases h.1) (ax_byt G hS 1) ?_
    intro v3 σ3 ⟨hv3, hs3⟩
    cases hv3
    rw [hs3]
    refine kr_iadd rd_d_X11_stood_37 ?_
    refine kr_istore_n (lv' := [(2, .int ((256 * (ax_f_byt σ.2.1 0)) + (ax_f_byt σ.2.1 1))), (1, .int 0), (0, .ref 0)]) rd_d_X11_stood_38 (by decide) rfl ?_
    refine kr_aload_n 2 rd_d_X11_stood_39 rfl ?_
    refine kr_getf G.1 (rd_FL rd_k_X11_stood_40).1 rd_d_X11_stood_40 (hS.1 0 (.inl 11) rfl) (v := .ref 1) (by unfold am_fa; rw [(rd_FL rd_k_X11_stood_40).2]; exact hS.2 0 0 1 rfl) ?_
    refine kr_iconst (v := 0) rd_d_X11_stood_43 (by decide) ?_
    refine ax_putWL G hS rd_d_X11_stood_44 rd_k_X11_stood_44 (hS.1 1 (.inl 10) rfl) rfl rfl rfl ?_
    intro τ1 hT1 hw1 hf1 hl1
    have hsτ1 : τ1.2.1 120 = σ.2.1 120 := (ax_120F hf1 (by decide))
    have hLτ1 : τ1.2.2 = σ.2.2 := hl1
    refine kr_iload_n 1 rd_d_X11_stood_47 rfl ?_
    refine kr_if_ne (tgt := 53) rd_d_X11_stood_48 rfl (fun h => absurd rfl h) (fun _ => ?_)
    refine kr_iconst (v := (-1)) rd_d_X11_stood_51 (by decide) ?_
    refine kr_ireturn rd_d_X11_stood_52 (ty := .int) rfl rfl ⟨by rw [pz_soA, if_neg h1], hT1, fun x y _ q => hf1 x y q, pk_PF hP (fun x y q => hf1 x y (by omega)) (fun y => by rw [hl1]), fun q => ?_⟩
    rw [hf1 68 19 (by decide)] at q
    exact pb_KF (hB q) (fun x y q => hf1 x y (by omega))
  · refine kr_iconst (v := 1) rd_d_X11_stood_11 (by decide) ?_
    refine kr_goto (tgt := 16) rd_d_X11_stood_12 rfl ?_
    refine kr_istore_n (lv' := [(1, .int 1), (0, .ref 0)]) rd_d_X11_stood_16 (by decide) rfl ?_
    refine kr_sipush (v := 256) rd_d_X11_stood_17 (by decide) ?_
    refine kr_aload_n 1 rd_d_X11_stood_20 rfl ?_
    refine kr_getf G.1 (rd_FL rd_k_X11_stood_21).1 rd_d_X11_stood_21 (hS.1 0 (.inl 11) rfl) (v := .ref 1) (by unfold am_fa; rw [(rd_FL rd_k_X11_stood_21).2]; exact hS.2 0 0 1 rfl) ?_
    refine kr_iconst (v := 0) rd_d_X11_stood_24 (by decide) ?_
    refine rd_call G (T2 := tX10_byteAt) rfl rd_d_X11_stood_25 rd_k_X11_stood_25 rfl (hS.1 1 (.inl 10) rfl) (as := [.int 0]) (st := [.int 256]) rfl (Nat.le_of_ble_eq_true rfl) rfl (Nat.le_of_ble_eq_true rfl) (d1 := 1) (by decide) (fun _ h => by cases h.1) (ax_byt G hS 0) ?_
    intro v5 σ5 ⟨hv5, hs5⟩
    cases hv5
    rw [hs5]
    refine kr_imul rd_d_X11_stood_28 ?_
    refine kr_aload_n 1 rd_d_X11_stood_29 rfl ?_
    refine kr_getf G.1 (rd_FL rd_k_X11_stood_30).1 rd_d_X11_stood_30 (hS.1 0 (.inl 11) rfl) (v := .ref 1) (by unfold am_fa; rw [(rd_FL rd_k_X11_stood_30).2]; exact hS.2 0 0 1 rfl) ?_
    refine kr_iconst (v := 1) rd_d_X11_stood_33 (by decide) ?_
    refine rd_call G (T2 := tX10_byteAt) rfl rd_d_X11_stood_34 rd_k_X11_stood_34 rfl (hS.1 1 (.inl 10) rfl) (as := [.int 1]) (st := [.int (256 * (ax_f_byt σ.2.1 0))]) rfl (Nat.le_of_ble_eq_true rfl) rfl (Nat.le_of_ble_eq_true rfl) (d1 := 1) (by decide) (fun _ h => by cases h.1) (ax_byt G hS 1) ?_
    intro v6 σ6 ⟨hv6, hs6⟩
    cases hv6
    rw [hs6]
    refine kr_iadd rd_d_X11_stood_37 ?_
    refine kr_istore_n (lv' := [(2, .int ((256 * (ax_f_byt σ.2.1 0)) + (ax_f_byt σ.2.1 1))), (1, .int 1), (0, .ref 0)]) rd_d_X11_stood_38 (by decide) rfl ?_
    refine kr_aload_n 2 rd_d_X11_stood_39 rfl ?_
    refine kr_getf G.1 (rd_FL rd_k_X11_stood_40).1 rd_d_X11_stood_40 (hS.1 0 (.inl 11) rfl) (v := .ref 1) (by unfold am_fa; rw [(rd_FL rd_k_X11_stood_40).2]; exact hS.2 0 0 1 rfl) ?_
    refine kr_iconst (v := 0) rd_d_X11_stood_43 (by decide) ?_
    refine ax_putWL G hS rd_d_X11_stood_44 rd_k_X11_stood_44 (hS.1 1 (.inl 10) rfl) rfl rfl rfl ?_
    intro τ2 hT2 hw2 hf2 hl2
    have hsτ2 : τ2.2.1 120 = σ.2.1 120 := (ax_120F hf2 (by decide))
    have hLτ2 : τ2.2.2 = σ.2.2 := hl2
    refine kr_iload_n 1 rd_d_X11_stood_47 rfl ?_
    refine kr_if_ne (tgt := 53) rd_d_X11_stood_48 rfl (fun _ => ?_) (fun h => absurd h (by decide))
    refine kr_aload_n 2 rd_d_X11_stood_53 rfl ?_
    refine kr_getf G.1 (rd_FL rd_k_X11_stood_54).1 rd_d_X11_stood_54 (hT2.1 0 (.inl 11) rfl) (v := .ref 68) (by unfold am_fa; rw [(rd_FL rd_k_X11_stood_54).2]; exact hT2.2 0 9 68 rfl) ?_
    have hX1 : pc_X s τ2 := pc_F4 hX (fun x y q => hf2 x y (by omega))
    have hP1 : pk_P (pc_h s) s τ2 := pk_PF hP (fun x y q => hf2 x y (by omega)) (fun y => by rw [hl2])
    have hB1 : ¬ τ2.2.1 68 19 = 0 → pb_K s τ2.2.1 := fun q => by rw [hf2 68 19 (by decide)] at q; exact pb_KF (hB q) (fun x y q => hf2 x y (by omega))
    refine rd_call G (T2 := tX4_prepareBest) rfl rd_d_X11_stood_57 rd_k_X11_stood_57 rfl (hT2.1 68 (.inl 4) rfl) (as := []) (st := []) rfl (Nat.le_of_ble_eq_true rfl) rfl (Nat.le_of_ble_eq_true rfl) (d1 := 8) (by decide) (fun _ h => by cases h.1) (ax_pb G b bw b5 b6 hT2 hX1 hP1 hB1) ?_
    intro v2 σ2 ⟨hv2, hS2, hg2, hgl, hP2, hn19, hK2⟩
    cases hv2
    have hX2 : pc_X s σ2 := pc_F hX1 (fun x y q => hg2 x y (by omega))
    refine kr_iconst (v := 0) rd_d_X11_stood_60 (by decide) ?_
    refine kr_istore_n (lv' := [(3, .int 0), (2, .int ((256 * (ax_f_byt σ.2.1 0)) + (ax_f_byt σ.2.1 1))), (1, .int 1), (0, .ref 0)]) rd_d_X11_stood_61 (by decide) rfl ?_
    refine kr_iconst (v := 0) rd_d_X11_stood_62 (by decide) ?_
    refine kr_istore (lv' := [(4, .int 0), (3, .int 0), (2, .int ((256 * (ax_f_byt σ.2.1 0)) + (ax_f_byt σ.2.1 1))), (1, .int 1), (0, .ref 0)]) rd_d_X11_stood_63 (by decide) rfl ?_
    have e2 : (σ.2.1 1 1).toInt = 2 := by rw [h1]; rfl
    have ep : (256 * (ax_f_byt σ.2.1 0)) + (ax_f_byt σ.2.1 1) = 256 * (σ.2.1 2 0 &&& 255) + (σ.2.1 2 1 &&& 255) := by rw [ax_byt_in (i := 0) rfl (by omega) (by decide), ax_byt_in (i := 1) rfl (by omega) (by decide)]
    rw [ep]
    refine kr_mono ?_ (ax_soLX G b b6 hS2 hX2 hK2.2.2 (pz_sN s) 0 0 0 rfl (by omega) rfl)
    intro r σ' ⟨hr, e⟩
    subst e
    rw [pz_soA, if_pos h1]
    exact ⟨hr, hS2, fun x y q1 q2 => (hg2 x y q1).trans (hf2 x y q2), hP2, fun _ => hK2⟩
end AXX
