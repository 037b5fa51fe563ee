/-! exact answers, further (rows written by a program) -/
theorem rd_d_X12_bests_0 : decode tX12_bests.1.2.1 0 = .ok (.iconst (-1), 1) := by decide +kernel
theorem rd_d_X12_bests_1 : decode tX12_bests.1.2.1 1 = .ok (.istore_n 1, 1) := by decide +kernel
theorem rd_d_X12_bests_2 : decode tX12_bests.1.2.1 2 = .ok (.iconst 0, 1) := by decide +kernel
theorem rd_d_X12_bests_3 : decode tX12_bests.1.2.1 3 = .ok (.istore_n 2, 1) := by decide +kernel
theorem rd_d_X12_bests_73 : decode tX12_bests.1.2.1 73 = .ok (.aload_n 0, 1) := by decide +kernel
theorem rd_d_X12_bests_74 : decode tX12_bests.1.2.1 74 = .ok (.iconst 0, 1) := by decide +kernel
theorem rd_d_X12_bests_75 : decode tX12_bests.1.2.1 75 = .ok (.putfield 320, 3) := by decide +kernel
theorem rd_k_X12_bests_75 : ex_lk ex_mt tX12_bests 75 (.putfield 320) [12, 28, 0, 458795] = true := by decide +kernel
theorem rd_d_X12_bests_78 : decode tX12_bests.1.2.1 78 = .ok (.aload_n 0, 1) := by decide +kernel
theorem rd_d_X12_bests_79 : decode tX12_bests.1.2.1 79 = .ok (.getfield 33, 3) := by decide +kernel
theorem rd_k_X12_bests_79 : ex_lk ex_mt tX12_bests 79 (.getfield 33) [12, 6, 2, 458773] = true := by decide +kernel
theorem rd_d_X12_bests_82 : decode tX12_bests.1.2.1 82 = .ok (.iconst 0, 1) := by decide +kernel
theorem rd_d_X12_bests_83 : decode tX12_bests.1.2.1 83 = .ok (.iaload, 1) := by decide +kernel
theorem rd_d_X12_bests_84 : decode tX12_bests.1.2.1 84 = .ok (.ifCond .ne 4, 3) := by decide +kernel
theorem rd_d_X12_bests_87 : decode tX12_bests.1.2.1 87 = .ok (.return_, 1) := by decide +kernel
theorem rd_d_X12_bests_88 : decode tX12_bests.1.2.1 88 = .ok (.aload_n 0, 1) := by decide +kernel
theorem rd_d_X12_bests_89 : decode tX12_bests.1.2.1 89 = .ok (.aload_n 0, 1) := by decide +kernel
theorem rd_d_X12_bests_90 : decode tX12_bests.1.2.1 90 = .ok (.getfield 317, 3) := by decide +kernel
theorem rd_k_X12_bests_90 : ex_lk ex_mt tX12_bests 90 (.getfield 317) [12, 27, 0, 458794] = true := by decide +kernel
theorem rd_d_X12_bests_93 : decode tX12_bests.1.2.1 93 = .ok (.invokevirtual 308, 3) := by decide +kernel
theorem rd_k_X12_bests_93 : ex_lk ex_mt tX12_bests 93 (.invokevirtual 308) [0, 104, 524453] = true := by decide +kernel
theorem rd_d_X12_bests_96 : decode tX12_bests.1.2.1 96 = .ok (.istore_n 2, 1) := by decide +kernel
theorem rd_d_X12_bests_97 : decode tX12_bests.1.2.1 97 = .ok (.aload_n 0, 1) := by decide +kernel
theorem rd_d_X12_bests_98 : decode tX12_bests.1.2.1 98 = .ok (.aload_n 0, 1) := by decide +kernel
theorem rd_d_X12_bests_99 : decode tX12_bests.1.2.1 99 = .ok (.getfield 314, 3) := by decide +kernel
theorem rd_k_X12_bests_99 : ex_lk ex_mt tX12_bests 99 (.getfield 314) [12, 26, 0, 458793] = true := by decide +kernel
theorem rd_d_X12_bests_102 : decode tX12_bests.1.2.1 102 = .ok (.iload_n 2, 1) := by decide +kernel
theorem rd_d_X12_bests_103 : decode tX12_bests.1.2.1 103 = .ok (.aload_n 0, 1) := by decide +kernel
theorem rd_d_X12_bests_104 : decode tX12_bests.1.2.1 104 = .ok (.getfield 33, 3) := by decide +kernel
theorem rd_k_X12_bests_104 : ex_lk ex_mt tX12_bests 104 (.getfield 33) [12, 6, 2, 458773] = true := by decide +kernel
theorem rd_d_X12_bests_107 : decode tX12_bests.1.2.1 107 = .ok (.bipush 55, 2) := by decide +kernel
theorem rd_d_X12_bests_109 : decode tX12_bests.1.2.1 109 = .ok (.iaload, 1) := by decide +kernel
theorem rd_d_X12_bests_110 : decode tX12_bests.1.2.1 110 = .ok (.invokevirtual 304, 3) := by decide +kernel
theorem rd_k_X12_bests_110 : ex_lk ex_mt tX12_bests 110 (.invokevirtual 304) [0, 154, 524461] = true := by decide +kernel
theorem rd_d_X12_bests_113 : decode tX12_bests.1.2.1 113 = .ok (.iconst 0, 1) := by decide +kernel
theorem rd_d_X12_bests_114 : decode tX12_bests.1.2.1 114 = .ok (.istore_n 3, 1) := by decide +kernel
theorem rd_d_X12_bests_115 : decode tX12_bests.1.2.1 115 = .ok (.aload_n 0, 1) := by decide +kernel
theorem rd_d_X12_bests_116 : decode tX12_bests.1.2.1 116 = .ok (.getfield 33, 3) := by decide +kernel
theorem rd_k_X12_bests_116 : ex_lk ex_mt tX12_bests 116 (.getfield 33) [12, 6, 2, 458773] = true := by decide +kernel
theorem rd_d_X12_bests_119 : decode tX12_bests.1.2.1 119 = .ok (.bipush 55, 2) := by decide +kernel
theorem rd_d_X12_bests_121 : decode tX12_bests.1.2.1 121 = .ok (.iaload, 1) := by decide +kernel
theorem rd_d_X12_bests_122 : decode tX12_bests.1.2.1 122 = .ok (.istore 4, 2) := by decide +kernel
theorem rd_d_X12_bests_124 : decode tX12_bests.1.2.1 124 = .ok (.iconst 0, 1) := by decide +kernel
theorem rd_d_X12_bests_125 : decode tX12_bests.1.2.1 125 = .ok (.istore 5, 2) := by decide +kernel
theorem rd_d_X12_bests_127 : decode tX12_bests.1.2.1 127 = .ok (.iload 5, 2) := by decide +kernel
theorem rd_d_X12_bests_129 : decode tX12_bests.1.2.1 129 = .ok (.aload_n 0, 1) := by decide +kernel
theorem rd_d_X12_bests_130 : decode tX12_bests.1.2.1 130 = .ok (.getfield 314, 3) := by decide +kernel
theorem rd_k_X12_bests_130 : ex_lk ex_mt tX12_bests 130 (.getfield 314) [12, 26, 0, 458793] = true := by decide +kernel
theorem rd_d_X12_bests_133 : decode tX12_bests.1.2.1 133 = .ok (.iload_n 2, 1) := by decide +kernel
theorem rd_d_X12_bests_134 : decode tX12_bests.1.2.1 134 = .ok (.invokestatic 288, 3) := by decide +kernel
theorem rd_k_X12_bests_134 : ex_lk ex_mt tX12_bests 134 (.invokestatic 288) [0, 145, 524465] = true := by decide +kernel
theorem rd_d_X12_bests_137 : decode tX12_bests.1.2.1 137 = .ok (.if_icmp .gt 127, 3) := by decide +kernel
theorem rd_d_X12_bests_140 : decode tX12_bests.1.2.1 140 = .ok (.aload_n 0, 1) := by decide +kernel
theorem rd_d_X12_bests_141 : decode tX12_bests.1.2.1 141 = .ok (.getfield 314, 3) := by decide +kernel
theorem rd_k_X12_bests_141 : ex_lk ex_mt tX12_bests 141 (.getfield 314) [12, 26, 0, 458793] = true := by decide +kernel
theorem rd_d_X12_bests_144 : decode tX12_bests.1.2.1 144 = .ok (.aload_n 0, 1) := by decide +kernel
theorem rd_d_X12_bests_145 : decode tX12_bests.1.2.1 145 = .ok (.getfield 317, 3) := by decide +kernel
theorem rd_k_X12_bests_145 : ex_lk ex_mt tX12_bests 145 (.getfield 317) [12, 27, 0, 458794] = true := by decide +kernel
theorem rd_d_X12_bests_148 : decode tX12_bests.1.2.1 148 = .ok (.iconst 1, 1) := by decide +kernel
theorem rd_d_X12_bests_149 : decode tX12_bests.1.2.1 149 = .ok (.if_icmp .ne 8, 3) := by decide +kernel
theorem rd_d_X12_bests_152 : decode tX12_bests.1.2.1 152 = .ok (.iload 5, 2) := by decide +kernel
theorem rd_d_X12_bests_154 : decode tX12_bests.1.2.1 154 = .ok (.goto 6, 3) := by decide +kernel
theorem rd_d_X12_bests_157 : decode tX12_bests.1.2.1 157 = .ok (.iload 5, 2) := by decide +kernel
theorem rd_d_X12_bests_159 : decode tX12_bests.1.2.1 159 = .ok (.ineg, 1) := by decide +kernel
theorem rd_d_X12_bests_160 : decode tX12_bests.1.2.1 160 = .ok (.iadd, 1) := by decide +kernel
theorem rd_d_X12_bests_161 : decode tX12_bests.1.2.1 161 = .ok (.istore 6, 2) := by decide +kernel
theorem rd_d_X12_bests_163 : decode tX12_bests.1.2.1 163 = .ok (.aload_n 0, 1) := by decide +kernel
theorem rd_d_X12_bests_164 : decode tX12_bests.1.2.1 164 = .ok (.getfield 52, 3) := by decide +kernel
theorem rd_k_X12_bests_164 : ex_lk ex_mt tX12_bests 164 (.getfield 52) [12, 23, 2, 458790] = true := by decide +kernel
theorem rd_d_X12_bests_167 : decode tX12_bests.1.2.1 167 = .ok (.iload 5, 2) := by decide +kernel
theorem rd_d_X12_bests_169 : decode tX12_bests.1.2.1 169 = .ok (.iload_n 3, 1) := by decide +kernel
theorem rd_d_X12_bests_170 : decode tX12_bests.1.2.1 170 = .ok (.invokestatic 298, 3) := by decide +kernel
theorem rd_k_X12_bests_170 : ex_lk ex_mt tX12_bests 170 (.invokestatic 298) [0, 90, 524476] = true := by decide +kernel
theorem rd_d_X12_bests_173 : decode tX12_bests.1.2.1 173 = .ok (.iload 4, 2) := by decide +kernel
theorem rd_d_X12_bests_175 : decode tX12_bests.1.2.1 175 = .ok (.invokestatic 301, 3) := by decide +kernel
theorem rd_k_X12_bests_175 : ex_lk ex_mt tX12_bests 175 (.invokestatic 301) [0, 86, 524479] = true := by decide +kernel
theorem rd_d_X12_bests_178 : decode tX12_bests.1.2.1 178 = .ok (.iaload, 1) := by decide +kernel
theorem rd_d_X12_bests_179 : decode tX12_bests.1.2.1 179 = .ok (.istore 7, 2) := by decide +kernel
theorem rd_d_X12_bests_181 : decode tX12_bests.1.2.1 181 = .ok (.iconst 0, 1) := by decide +kernel
theorem rd_d_X12_bests_182 : decode tX12_bests.1.2.1 182 = .ok (.istore 8, 2) := by decide +kernel
theorem rd_d_X12_bests_241 : decode tX12_bests.1.2.1 241 = .ok (.iload 4, 2) := by decide +kernel
theorem rd_d_X12_bests_243 : decode tX12_bests.1.2.1 243 = .ok (.iload 7, 2) := by decide +kernel
theorem rd_d_X12_bests_245 : decode tX12_bests.1.2.1 245 = .ok (.isub, 1) := by decide +kernel
theorem rd_d_X12_bests_246 : decode tX12_bests.1.2.1 246 = .ok (.istore 4, 2) := by decide +kernel
theorem rd_d_X12_bests_248 : decode tX12_bests.1.2.1 248 = .ok (.iload_n 3, 1) := by decide +kernel
theorem rd_d_X12_bests_249 : decode tX12_bests.1.2.1 249 = .ok (.aload_n 0, 1) := by decide +kernel
theorem rd_d_X12_bests_250 : decode tX12_bests.1.2.1 250 = .ok (.getfield 33, 3) := by decide +kernel
theorem rd_k_X12_bests_250 : ex_lk ex_mt tX12_bests 250 (.getfield 33) [12, 6, 2, 458773] = true := by decide +kernel
theorem rd_d_X12_bests_253 : decode tX12_bests.1.2.1 253 = .ok (.bipush 54, 2) := by decide +kernel
theorem rd_d_X12_bests_255 : decode tX12_bests.1.2.1 255 = .ok (.iaload, 1) := by decide +kernel
theorem rd_d_X12_bests_256 : decode tX12_bests.1.2.1 256 = .ok (.iadd, 1) := by decide +kernel
theorem rd_d_X12_bests_257 : decode tX12_bests.1.2.1 257 = .ok (.istore_n 3, 1) := by decide +kernel
theorem rd_d_X12_bests_258 : decode tX12_bests.1.2.1 258 = .ok (.iinc 5 1, 3) := by decide +kernel
theorem rd_d_X12_bests_261 : decode tX12_bests.1.2.1 261 = .ok (.goto (-134), 3) := by decide +kernel
theorem rd_d_X12_bests_264 : decode tX12_bests.1.2.1 264 = .ok (.return_, 1) := by decide +kernel
section AXX
variable {g : am_C} {L : Nat} {xs : Nat → Int32}
theorem off_M {a b : Nat} {x y : Int32} (hx : x.toInt = (a : Int)) (hy : y.toInt = (b : Int)) : (ax_f_off x y).toInt = ((pn_M a b - 1 : Nat) : Int) := by
  rw [ch_off hx hy]
  unfold pn_M
  congr 1
  split <;> omega
theorem ax_mbM (G : sx_G0 g L xs z9 hd_C ex_mt) {s : Nat → Int32} (b : pn_B s) (b6 : pl_B6 s) {U A : Nat} (hU : U ≤ 1) (hA : A < pz_W s) {to mo : Int32} (eto : to.toInt = (((if U = 1 then pz_W s - 1 else 0) : Nat) : Int)) : ∀ (n K : Nat) (i f t : Int32) (σ : am_S) (l : List (Nat × Nat)) (T F : Nat), ax_S σ → σ.2.1 120 = s → (σ.2.1 118 26).toInt = (A : Int) → (σ.2.1 118 27).toInt = (U : Int) → (∀ i t l : Nat, i < br_n s U A → t ≤ 61 → l ≤ (s 55).toInt.toNat → (σ.2.1 126 (25 * (62 * i + t) + l)).toInt = ((pn_v s (br s U A i) t l).2 : Int)) → pb_M l σ.2.1 → i.toInt = (K : Int) → K + n = br_n s U A → f.toInt = (F : Int) → t.toInt = (T : Int) → l.length + F = (s 55).toInt.toNat → T ≤ 9 * l.length + 5 * K → am_K g 10 tX12_bests.1 0 0 127 [(5, .int i), (4, .int f), (3, .int t), (2, .int to), (1, .int mo), (0, .ref 118)] [] σ (fun r σ' => r = some none ∧ ax_S σ' ∧ (∀ x y, ¬ (x = 118 ∧ y = 28) → x ≠ 127 → x ≠ 128 → σ'.2.1 x y = σ.2.1 x y) ∧ pb_M (l ++ pz_tr s (br s U A K) T F) σ'.2.1) := by
  have hs1 := b.1.1
  have hW10 : pz_W s ≤ 10 := by unfold pz_W; omega
  have hWe : (s 0).toInt = (pz_W s : Int) := by unfold pz_W; omega
  have hb6 := id b6
  have h24 : (s 55).toInt.toNat ≤ 24 := by unfold pl_B6 at hb6; omega
  have hn10 := br_n10 (U := U) b (by omega : A ≤ 9)
  have hM := (br_M (K := 0) hU hA).1
  have hbn : 1 ≤ br_n s U A := by unfold br_n; split <;> omega
  have z1 : (1 : Int32).toInt = 1 := rfl
  intro n
  induction n with
  | zero =>
    intro K i f t σ l T F hS hs ea eu tab hL ek hn ef et hlF hT
    have eof := off_M ea eto
    rw [hM] at eof
    refine kr_iload 0 rd_d_X12_bests_127 rfl ?_
    refine kr_aload_n 5 rd_d_X12_bests_129 rfl ?_
    refine kr_getf G.1 (rd_FL rd_k_X12_bests_130).1 rd_d_X12_bests_130 (hS.1 118 (.inl 12) rfl) (v := .int (σ.2.1 118 26)) (by unfold am_fa; rw [(rd_FL rd_k_X12_bests_130).2]; rfl) ?_
    refine kr_iload_n 3 rd_d_X12_bests_133 rfl ?_
    refine rd_callS G (T2 := tX12_off) rfl rd_d_X12_bests_134 rd_k_X12_bests_134 rfl rfl (as := [.int (σ.2.1 118 26), .int to]) (st := [.int i]) rfl (Nat.le_of_ble_eq_true rfl) rfl (Nat.le_of_ble_eq_true rfl) (d1 := 1) (by decide) (fun _ h => by cases h.1) (ax_off G hS (σ.2.1 118 26) to) ?_
    intro v1 σ1 ⟨hv1, hs1⟩
    cases hv1
    rw [hs1]
    refine kr_icmp_gt (tgt := 264) rd_d_X12_bests_137 rfl (fun h2 => ?_) (fun h2 => ?_)
    · refine kr_return rd_d_X12_bests_264 rfl ⟨rfl, hS, fun _ _ _ _ _ => rfl, ?_⟩
      rw [br_end (by omega : K = br_n s U A)]
      show pb_M (l ++ []) σ.2.1
      rw [List.append_nil]
      exact hL
    · exact absurd (Int32.lt_iff_toInt_lt.mpr (by omega)) h2
  | succ n ih =>
    intro K i f t σ l T F hS hs ea eu tab hL ek hn ef et hlF hT
    have eof := off_M ea eto
    rw [hM] at eof
    obtain ⟨r1, r2, r3⟩ := br_S (s := s) (U := U) (k := K) hA (by omega)
    have hKA := (br_A (s := s) (U := U) (k := K) (Or.inr hA) (by omega)).2
    have hWs : ((br_w U A K : Nat) : Int) < (s 0).toInt := by omega
    have ql := pn_lim b (w := br_w U A K) (by omega)
    have hn2 : (pn_v s (br s U A K) T F).2 ≤ F ∧ (pn_v s (br s U A K) T F).2 ≤ 3 := by
      rw [r1]
      exact pn_v2 b (by omega) _ _ _
    have hc := ch_cel ek (ch_cli et) ef (by omega) (Nat.min_le_left _ _) (by omega)
    have emn := tab K (min 61 T) F (by omega) (Nat.min_le_left _ _) (by omega)
    rw [pn_clip] at emn
    obtain ⟨N, hN⟩ : ∃ N, N = (pn_v s (br s U A K) T F).2 := ⟨_, rfl⟩
    rw [← hN] at emn hn2
    have c5 := b.2.2.2.2
    have e54 : (s 54).toInt = (pn_wk s : Int) := by unfold pn_wk; omega
    refine kr_iload 0 rd_d_X12_bests_127 rfl ?_
    refine kr_aload_n 5 rd_d_X12_bests_129 rfl ?_
    refine kr_getf G.1 (rd_FL rd_k_X12_bests_130).1 rd_d_X12_bests_130 (hS.1 118 (.inl 12) rfl) (v := .int (σ.2.1 118 26)) (by unfold am_fa; rw [(rd_FL rd_k_X12_bests_130).2]; rfl) ?_
    refine kr_iload_n 3 rd_d_X12_bests_133 rfl ?_
    refine rd_callS G (T2 := tX12_off) rfl rd_d_X12_bests_134 rd_k_X12_bests_134 rfl rfl (as := [.int (σ.2.1 118 26), .int to]) (st := [.int i]) rfl (Nat.le_of_ble_eq_true rfl) rfl (Nat.le_of_ble_eq_true rfl) (d1 := 1) (by decide) (fun _ h => by cases h.1) (ax_off G hS (σ.2.1 118 26) to) ?_
    intro v21 σ21 ⟨hv21, hs21⟩
    cases hv21
    rw [hs21]
    refine kr_icmp_gt (tgt := 264) rd_d_X12_bests_137 rfl (fun h22 => ?_) (fun h22 => ?_)
    · have := Int32.lt_iff_toInt_lt.mp h22
      omega
    · refine kr_aload_n 5 rd_d_X12_bests_140 rfl ?_
      refine kr_getf G.1 (rd_FL rd_k_X12_bests_141).1 rd_d_X12_bests_141 (hS.1 118 (.inl 12) rfl) (v := .int (σ.2.1 118 26)) (by unfold am_fa; rw [(rd_FL rd_k_X12_bests_141).2]; rfl) ?_
      refine kr_aload_n 5 rd_d_X12_bests_144 rfl ?_
      refine kr_getf G.1 (rd_FL rd_k_X12_bests_145).1 rd_d_X12_bests_145 (hS.1 118 (.inl 12) rfl) (v := .int (σ.2.1 118 27)) (by unfold am_fa; rw [(rd_FL rd_k_X12_bests_145).2]; rfl) ?_
      refine kr_iconst (v := 1) rd_d_X12_bests_148 (by decide) ?_
      refine kr_icmp_ne (tgt := 157) rd_d_X12_bests_149 rfl (fun h41 => ?_) (fun h41 => ?_)
      · refine kr_iload 0 rd_d_X12_bests_157 rfl ?_
        refine kr_ineg rd_d_X12_bests_159 ?_
        refine kr_iadd rd_d_X12_bests_160 ?_
        refine kr_istore (lv' := [(6, .int ((σ.2.1 118 26) + (-i))), (5, .int i), (4, .int f), (3, .int t), (2, .int to), (1, .int mo), (0, .ref 118)]) rd_d_X12_bests_161 (by decide) rfl ?_
        refine kr_aload_n 6 rd_d_X12_bests_163 rfl ?_
        refine kr_getf G.1 (rd_FL rd_k_X12_bests_164).1 rd_d_X12_bests_164 (hS.1 118 (.inl 12) rfl) (v := .ref 126) (by unfold am_fa; rw [(rd_FL rd_k_X12_bests_164).2]; exact hS.2 118 23 126 rfl) ?_
        refine kr_iload 1 rd_d_X12_bests_167 rfl ?_
        refine kr_iload_n 3 rd_d_X12_bests_169 rfl ?_
        refine rd_callS G (T2 := tX12_clipped) rfl rd_d_X12_bests_170 rd_k_X12_bests_170 rfl rfl (as := [.int t]) (st := [.int i, .ref 126]) rfl (Nat.le_of_ble_eq_true rfl) rfl (Nat.le_of_ble_eq_true rfl) (d1 := 2) (by decide) (fun _ h => by cases h.1) (ax_cli G hS t) ?_
        intro v42 σ42 ⟨hv42, hs42⟩
        cases hv42
        rw [hs42]
        refine kr_iload 2 rd_d_X12_bests_173 rfl ?_
        refine rd_callS G (T2 := tX12_cell) rfl rd_d_X12_bests_175 rd_k_X12_bests_175 rfl rfl (as := [.int i, .int (ax_f_cli t), .int f]) (st := [.ref 126]) rfl (Nat.le_of_ble_eq_true rfl) rfl (Nat.le_of_ble_eq_true rfl) (d1 := 1) (by decide) (fun _ h => by cases h.1) (ax_cel G hS i (ax_f_cli t) f) ?_
        intro v43 σ43 ⟨hv43, hs43⟩
        cases hv43
        rw [hs43]
        refine kr_iald G.1 (n := 15500) rd_d_X12_bests_178 (hS.1 126 (.inr (.int, 15500)) rfl) (hd_in (n := 25 * (62 * K + min 61 T) + F) hc.1 hc.2) ?_
        rw [hd_clamp (n := 25 * (62 * K + min 61 T) + F) hc.1]
        refine kr_istore (lv' := [(7, .int (σ.2.1 126 (25 * (62 * K + min 61 T) + F))), (6, .int ((σ.2.1 118 26) + (-i))), (5, .int i), (4, .int f), (3, .int t), (2, .int to), (1, .int mo), (0, .ref 118)]) rd_d_X12_bests_179 (by decide) rfl ?_
        refine kr_iconst (v := 0) rd_d_X12_bests_181 (by decide) ?_
        refine kr_istore (lv' := [(8, .int 0), (7, .int (σ.2.1 126 (25 * (62 * K + min 61 T) + F))), (6, .int ((σ.2.1 118 26) + (-i))), (5, .int i), (4, .int f), (3, .int t), (2, .int to), (1, .int mo), (0, .ref 118)]) rd_d_X12_bests_182 (by decide) rfl ?_
        have ew : ((σ.2.1 118 26) + (-i)).toInt = (br_w U A K : Int) := by
          unfold br_w
          have hU0 : ¬ U = 1 := fun e => h41 (Int32.toInt_inj.mp (by omega))
          have := hKA hU0
          rw [if_neg hU0, ← Int32.sub_eq_add_neg]
          exact ch_sub ea ek (by omega)
        refine kr_sub (lv' := [(8, .int 0), (7, .int (σ.2.1 126 (25 * (62 * K + min 61 T) + F))), (6, .int ((σ.2.1 118 26) + (-i))), (5, .int i), (4, .int f), (3, .int t), (2, .int to), (1, .int mo), (0, .ref 118)]) (by simp) ?_
        refine ax_mbS G b (l := l) (T := T) ew hWs emn hn2.2 (by omega) (by omega) N 0 0 t σ hS hs rfl (by omega) (by rw [Nat.zero_mul, Nat.add_zero]; exact et) (by show pb_M (l ++ []) σ.2.1; rw [List.append_nil]; exact hL) ?_
        intro σ1 q2 t2 hS1 hf1 et2 hL1
        have hs1 : σ1.2.1 120 = s := (funext fun q => hf1 120 q (fun z => absurd z.1 (by decide)) (by decide) (by decide)).trans hs
        refine kr_iload 4 rd_d_X12_bests_241 rfl ?_
        refine kr_iload 1 rd_d_X12_bests_243 rfl ?_
        refine kr_isub rd_d_X12_bests_245 ?_
        refine kr_istore (lv' := [(4, .int (f - (σ.2.1 126 (25 * (62 * K + min 61 T) + F)))), (8, .int q2), (7, .int (σ.2.1 126 (25 * (62 * K + min 61 T) + F))), (6, .int ((σ.2.1 118 26) + (-i))), (5, .int i), (3, .int t2), (2, .int to), (1, .int mo), (0, .ref 118)]) rd_d_X12_bests_246 (by decide) rfl ?_
        refine kr_iload_n 5 rd_d_X12_bests_248 rfl ?_
        refine kr_aload_n 8 rd_d_X12_bests_249 rfl ?_
        refine kr_getf G.1 (rd_FL rd_k_X12_bests_250).1 rd_d_X12_bests_250 (hS1.1 118 (.inl 12) rfl) (v := .ref 120) (by unfold am_fa; rw [(rd_FL rd_k_X12_bests_250).2]; exact hS1.2 118 6 120 rfl) ?_
        refine kr_bipush (v := 54) rd_d_X12_bests_253 (by decide) ?_
        refine kr_iald G.1 (n := 277) rd_d_X12_bests_255 (hS1.1 120 (.inr (.int, 277)) rfl) (hd_in (n := 54) (by decide) (by decide)) ?_
        rw [hd_clamp (n := 54) (by decide)]
        refine kr_iadd rd_d_X12_bests_256 ?_
        refine kr_istore_n (lv' := [(3, .int (t2 + (σ1.2.1 120 54))), (4, .int (f - (σ.2.1 126 (25 * (62 * K + min 61 T) + F)))), (8, .int q2), (7, .int (σ.2.1 126 (25 * (62 * K + min 61 T) + F))), (6, .int ((σ.2.1 118 26) + (-i))), (5, .int i), (2, .int to), (1, .int mo), (0, .ref 118)]) rd_d_X12_bests_257 (by decide) rfl ?_
        refine kr_iinc (v := i + 1) (lv' := [(5, .int (i + 1)), (3, .int (t2 + (σ1.2.1 120 54))), (4, .int (f - (σ.2.1 126 (25 * (62 * K + min 61 T) + F)))), (8, .int q2), (7, .int (σ.2.1 126 (25 * (62 * K + min 61 T) + F))), (6, .int ((σ.2.1 118 26) + (-i))), (2, .int to), (1, .int mo), (0, .ref 118)]) 5 rd_d_X12_bests_258 rfl rfl (by decide) rfl ?_
        refine kr_goto (tgt := 127) rd_d_X12_bests_261 rfl ?_
        have hNk : N * pn_tk s (br_w U A K) ≤ 3 * 9 := Nat.mul_le_mul hn2.2 ql.2.1
        have hNk2 : N * pn_tk s (br_w U A K) ≤ N * 9 := Nat.mul_le_mul_left _ ql.2.1
        have hll : (l ++ pz_rep (br_w U A K) T (pn_tk s (br_w U A K)) N).length = l.length + N := by rw [List.length_append, rep_len]
        refine kr_sub (lv' := [(5, .int (i + 1)), (4, .int (f - (σ.2.1 126 (25 * (62 * K + min 61 T) + F)))), (3, .int (t2 + (σ1.2.1 120 54))), (2, .int to), (1, .int mo), (0, .ref 118)]) (by simp) ?_
        have e : pz_tr s (br s U A K) T F = pz_rep (br_w U A K) T (pn_tk s (br_w U A K)) N ++ pz_tr s (br s U A (K + 1)) (T + N * pn_tk s (br_w U A K) + pn_wk s) (F - N) := by rw [hN, r1, pz_tr_c]
        rw [e, ← List.append_assoc]
        refine kr_mono (fun r σ' h => ⟨h.1, h.2.1, fun x y z x7 x8 => (h.2.2.1 x y z x7 x8).trans (hf1 x y z x7 x8), h.2.2.2⟩) (ih (K + 1) (i + 1) (f - (σ.2.1 126 (25 * (62 * K + min 61 T) + F))) (t2 + (σ1.2.1 120 54)) σ1 (l ++ pz_rep (br_w U A K) T (pn_tk s (br_w U A K)) N) (T + N * pn_tk s (br_w U A K) + pn_wk s) (F - N) hS1 hs1 (by rw [hf1 118 26 (fun z => absurd z.2 (by decide)) (by decide) (by decide)]; exact ea) (by rw [hf1 118 27 (fun z => absurd z.2 (by decide)) (by decide) (by decide)]; exact eu) (fun i t l h1 h2 h3 => by rw [hf1 126 _ (fun z => absurd z.1 (by decide)) (by decide) (by decide)]; exact tab i t l h1 h2 h3) hL1 (ax_inc ek (by omega)) (by omega) (ch_sub ef emn hn2.1) (ch_add et2 (by rw [hs1]; exact e54) (by omega)) (by rw [hll]; omega) (by rw [hll]; omega))
      · refine kr_iload 0 rd_d_X12_bests_152 rfl ?_
        refine kr_goto (tgt := 160) rd_d_X12_bests_154 rfl ?_
        refine kr_iadd rd_d_X12_bests_160 ?_
        refine kr_istore (lv' := [(6, .int ((σ.2.1 118 26) + i)), (5, .int i), (4, .int f), (3, .int t), (2, .int to), (1, .int mo), (0, .ref 118)]) rd_d_X12_bests_161 (by decide) rfl ?_
        refine kr_aload_n 6 rd_d_X12_bests_163 rfl ?_
        refine kr_getf G.1 (rd_FL rd_k_X12_bests_164).1 rd_d_X12_bests_164 (hS.1 118 (.inl 12) rfl) (v := .ref 126) (by unfold am_fa; rw [(rd_FL rd_k_X12_bests_164).2]; exact hS.2 118 23 126 rfl) ?_
        refine kr_iload 1 rd_d_X12_bests_167 rfl ?_
        refine kr_iload_n 3 rd_d_X12_bests_169 rfl ?_
        refine rd_callS G (T2 := tX12_clipped) rfl rd_d_X12_bests_170 rd_k_X12_bests_170 rfl rfl (as := [.int t]) (st := [.int i, .ref 126]) rfl (Nat.le_of_ble_eq_true rfl) rfl (Nat.le_of_ble_eq_true rfl) (d1 := 2) (by decide) (fun _ h => by cases h.1) (ax_cli G hS t) ?_
        intro v44 σ44 ⟨hv44, hs44⟩
        cases hv44
        rw [hs44]
        refine kr_iload 2 rd_d_X12_bests_173 rfl ?_
        refine rd_callS G (T2 := tX12_cell) rfl rd_d_X12_bests_175 rd_k_X12_bests_175 rfl rfl (as := [.int i, .int (ax_f_cli t), .int f]) (st := [.ref 126]) rfl (Nat.le_of_ble_eq_true rfl) rfl (Nat.le_of_ble_eq_true rfl) (d1 := 1) (by decide) (fun _ h => by cases h.1) (ax_cel G hS i (ax_f_cli t) f) ?_
        intro v45 σ45 ⟨hv45, hs45⟩
        cases hv45
        rw [hs45]
        refine kr_iald G.1 (n := 15500) rd_d_X12_bests_178 (hS.1 126 (.inr (.int, 15500)) rfl) (hd_in (n := 25 * (62 * K + min 61 T) + F) hc.1 hc.2) ?_
        rw [hd_clamp (n := 25 * (62 * K + min 61 T) + F) hc.1]
        refine kr_istore (lv' := [(7, .int (σ.2.1 126 (25 * (62 * K + min 61 T) + F))), (6, .int ((σ.2.1 118 26) + i)), (5, .int i), (4, .int f), (3, .int t), (2, .int to), (1, .int mo), (0, .ref 118)]) rd_d_X12_bests_179 (by decide) rfl ?_
        refine kr_iconst (v := 0) rd_d_X12_bests_181 (by decide) ?_
        refine kr_istore (lv' := [(8, .int 0), (7, .int (σ.2.1 126 (25 * (62 * K + min 61 T) + F))), (6, .int ((σ.2.1 118 26) + i)), (5, .int i), (4, .int f), (3, .int t), (2, .int to), (1, .int mo), (0, .ref 118)]) rd_d_X12_bests_182 (by decide) rfl ?_
        have ew : ((σ.2.1 118 26) + i).toInt = (br_w U A K : Int) := by
          unfold br_w
          rw [if_pos (by have e := congrArg Int32.toInt h41; omega)]
          exact ch_add ea ek (by omega)
        refine kr_sub (lv' := [(8, .int 0), (7, .int (σ.2.1 126 (25 * (62 * K + min 61 T) + F))), (6, .int ((σ.2.1 118 26) + i)), (5, .int i), (4, .int f), (3, .int t), (2, .int to), (1, .int mo), (0, .ref 118)]) (by simp) ?_
        refine ax_mbS G b (l := l) (T := T) ew hWs emn hn2.2 (by omega) (by omega) N 0 0 t σ hS hs rfl (by omega) (by rw [Nat.zero_mul, Nat.add_zero]; exact et) (by show pb_M (l ++ []) σ.2.1; rw [List.append_nil]; exact hL) ?_
        intro σ1 q2 t2 hS1 hf1 et2 hL1
        have hs1 : σ1.2.1 120 = s := (funext fun q => hf1 120 q (fun z => absurd z.1 (by decide)) (by decide) (by decide)).trans hs
        refine kr_iload 4 rd_d_X12_bests_241 rfl ?_
        refine kr_iload 1 rd_d_X12_bests_243 rfl ?_
        refine kr_isub rd_d_X12_bests_245 ?_
        refine kr_istore (lv' := [(4, .int (f - (σ.2.1 126 (25 * (62 * K + min 61 T) + F)))), (8, .int q2), (7, .int (σ.2.1 126 (25 * (62 * K + min 61 T) + F))), (6, .int ((σ.2.1 118 26) + i)), (5, .int i), (3, .int t2), (2, .int to), (1, .int mo), (0, .ref 118)]) rd_d_X12_bests_246 (by decide) rfl ?_
        refine kr_iload_n 5 rd_d_X12_bests_248 rfl ?_
        refine kr_aload_n 8 rd_d_X12_bests_249 rfl ?_
        refine kr_getf G.1 (rd_FL rd_k_X12_bests_250).1 rd_d_X12_bests_250 (hS1.1 118 (.inl 12) rfl) (v := .ref 120) (by unfold am_fa; rw [(rd_FL rd_k_X12_bests_250).2]; exact hS1.2 118 6 120 rfl) ?_
        refine kr_bipush (v := 54) rd_d_X12_bests_253 (by decide) ?_
        refine kr_iald G.1 (n := 277) rd_d_X12_bests_255 (hS1.1 120 (.inr (.int, 277)) rfl) (hd_in (n := 54) (by decide) (by decide)) ?_
        rw [hd_clamp (n := 54) (by decide)]
        refine kr_iadd rd_d_X12_bests_256 ?_
        refine kr_istore_n (lv' := [(3, .int (t2 + (σ1.2.1 120 54))), (4, .int (f - (σ.2.1 126 (25 * (62 * K + min 61 T) + F)))), (8, .int q2), (7, .int (σ.2.1 126 (25 * (62 * K + min 61 T) + F))), (6, .int ((σ.2.1 118 26) + i)), (5, .int i), (2, .int to), (1, .int mo), (0, .ref 118)]) rd_d_X12_bests_257 (by decide) rfl ?_
        refine kr_iinc (v := i + 1) (lv' := [(5, .int (i + 1)), (3, .int (t2 + (σ1.2.1 120 54))), (4, .int (f - (σ.2.1 126 (25 * (62 * K + min 61 T) + F)))), (8, .int q2), (7, .int (σ.2.1 126 (25 * (62 * K + min 61 T) + F))), (6, .int ((σ.2.1 118 26) + i)), (2, .int to), (1, .int mo), (0, .ref 118)]) 5 rd_d_X12_bests_258 rfl rfl (by decide) rfl ?_
        refine kr_goto (tgt := 127) rd_d_X12_bests_261 rfl ?_
        have hNk : N * pn_tk s (br_w U A K) ≤ 3 * 9 := Nat.mul_le_mul hn2.2 ql.2.1
        have hNk2 : N * pn_tk s (br_w U A K) ≤ N * 9 := Nat.mul_le_mul_left _ ql.2.1
        have hll : (l ++ pz_rep (br_w U A K) T (pn_tk s (br_w U A K)) N).length = l.length + N := by rw [List.length_append, rep_len]
        refine kr_sub (lv' := [(5, .int (i + 1)), (4, .int (f - (σ.2.1 126 (25 * (62 * K + min 61 T) + F)))), (3, .int (t2 + (σ1.2.1 120 54))), (2, .int to), (1, .int mo), (0, .ref 118)]) (by simp) ?_
        have e : pz_tr s (br s U A K) T F = pz_rep (br_w U A K) T (pn_tk s (br_w U A K)) N ++ pz_tr s (br s U A (K + 1)) (T + N * pn_tk s (br_w U A K) + pn_wk s) (F - N) := by rw [hN, r1, pz_tr_c]
        rw [e, ← List.append_assoc]
        refine kr_mono (fun r σ' h => ⟨h.1, h.2.1, fun x y z x7 x8 => (h.2.2.1 x y z x7 x8).trans (hf1 x y z x7 x8), h.2.2.2⟩) (ih (K + 1) (i + 1) (f - (σ.2.1 126 (25 * (62 * K + min 61 T) + F))) (t2 + (σ1.2.1 120 54)) σ1 (l ++ pz_rep (br_w U A K) T (pn_tk s (br_w U A K)) N) (T + N * pn_tk s (br_w U A K) + pn_wk s) (F - N) hS1 hs1 (by rw [hf1 118 26 (fun z => absurd z.2 (by decide)) (by decide) (by decide)]; exact ea) (by rw [hf1 118 27 (fun z => absurd z.2 (by decide)) (by decide) (by decide)]; exact eu) (fun i t l h1 h2 h3 => by rw [hf1 126 _ (fun z => absurd z.1 (by decide)) (by decide) (by decide)]; exact tab i t l h1 h2 h3) hL1 (ax_inc ek (by omega)) (by omega) (ch_sub ef emn hn2.1) (ch_add et2 (by rw [hs1]; exact e54) (by omega)) (by rw [hll]; omega) (by rw [hll]; omega))
theorem ax_mb (G : sx_G0 g L xs z9 hd_C ex_mt) {s : Nat → Int32} (b : pn_B s) (b6 : pl_B6 s) {σ : am_S} (hS : ax_S σ) (hs : σ.2.1 120 = s) : am_K g 10 tX12_bests.1 0 0 0 (lv_args 0 [.ref 118]) [] σ (fun r σ' => r = some none ∧ ax_S σ' ∧ (∀ x y, x ≠ 125 → x ≠ 126 → x ≠ 127 → x ≠ 128 → ¬ (x = 118 ∧ 26 ≤ y ∧ y ≤ 28) → σ'.2.1 x y = σ.2.1 x y) ∧ pb_M (pz_best s) σ'.2.1 ∧ (¬ s 0 = 0 → (σ'.2.1 118 26).toInt = (pb_a s : Int) ∧ (σ'.2.1 118 27).toInt = (pb_u s : Int))) := by
  have hs1 := b.1.1
  have hWe : (s 0).toInt = (pz_W s : Int) := by unfold pz_W; omega
  have hW10 : pz_W s ≤ 10 := by omega
  have hb6 := id b6
  have e55 : (s 55).toInt = ((s 55).toInt.toNat : Int) := by unfold pl_B6 at hb6; omega
  have h24 : (s 55).toInt.toNat ≤ 24 := by unfold pl_B6 at hb6; omega
  refine kr_iconst (v := (-1)) rd_d_X12_bests_0 (by decide) ?_
  refine kr_istore_n (lv' := [(1, .int ((-1))), (0, .ref 118)]) rd_d_X12_bests_1 (by decide) rfl ?_
  refine kr_iconst (v := 0) rd_d_X12_bests_2 (by decide) ?_
  refine kr_istore_n (lv' := [(2, .int 0), (1, .int ((-1))), (0, .ref 118)]) rd_d_X12_bests_3 (by decide) rfl ?_
  refine ax_mbW G b b6 (pz_W s) 0 0 (-1) σ hS hs rfl (by omega) (Or.inl ⟨rfl, rfl, fun h => absurd h (by decide)⟩) ?_
  intro σ1 w2 mo2 hS1 hfA hI1
  have hsA : σ1.2.1 120 = s := (funext fun q => hfA 120 q (by decide) (by decide) (fun z => absurd z.1 (by decide))).trans hs
  refine kr_aload_n 2 rd_d_X12_bests_73 rfl ?_
  refine kr_iconst (v := 0) rd_d_X12_bests_74 (by decide) ?_
  refine ax_putWL G hS1 rd_d_X12_bests_75 rd_k_X12_bests_75 (hS1.1 118 (.inl 12) rfl) rfl rfl rfl ?_
  intro τ1 hT1 hw1 hf1 hl1
  have hsτ1 : τ1.2.1 120 = σ1.2.1 120 := (ax_120F hf1 (by decide))
  have hqτ1 : ax_pl τ1.2.1 = ax_pl σ1.2.1 := (ax_plF hf1 (by decide))
  have hLτ1 : τ1.2.2 = σ1.2.2 := hl1
  refine kr_aload_n 2 rd_d_X12_bests_78 rfl ?_
  refine kr_getf G.1 (rd_FL rd_k_X12_bests_79).1 rd_d_X12_bests_79 (hT1.1 118 (.inl 12) rfl) (v := .ref 120) (by unfold am_fa; rw [(rd_FL rd_k_X12_bests_79).2]; exact hT1.2 118 6 120 rfl) ?_
  refine kr_iconst (v := 0) rd_d_X12_bests_82 (by decide) ?_
  refine kr_iald G.1 (n := 277) rd_d_X12_bests_83 (hT1.1 120 (.inr (.int, 277)) rfl) (hd_in (n := 0) (by decide) (by decide)) ?_
  rw [hd_clamp (n := 0) (by decide)]
  rw [show τ1.2.1 120 0 = σ1.2.1 120 0 from hf1 120 0 (fun q => absurd q.1 (by decide))]
  refine kr_if_ne (tgt := 88) rd_d_X12_bests_84 rfl (fun h41 => ?_) (fun h41 => ?_)
  · have hz : ¬ s 0 = 0 := by rw [← hsA]; exact h41
    have z0 : (0 : Int32).toInt = 0 := rfl
    have hW1 : 1 ≤ pz_W s := by have : ¬ (s 0).toInt = 0 := fun e => hz (Int32.toInt_inj.mp (by omega)); omega
    obtain ⟨ea, eu⟩ := pb_end hI1 (Or.inr hW1)
    have hA := pb_aW hW1
    have hU := pb_u1 s
    have hf0 := hf1
    have hsT : τ1.2.1 120 = s := (funext fun q => hf0 120 q (fun z => absurd z.1 (by decide))).trans hsA
    have ea0 : (τ1.2.1 118 26).toInt = (pb_a s : Int) := by rw [hf0 118 26 (fun z => absurd z.2 (by decide))]; exact ea
    have eu0 : (τ1.2.1 118 27).toInt = (pb_u s : Int) := by rw [hf0 118 27 (fun z => absurd z.2 (by decide))]; exact eu
    have e28 : τ1.2.1 118 28 = 0 := hw1
    have ee : (ax_f_end s (τ1.2.1 118 27)).toInt = ((if pb_u s = 1 then pz_W s - 1 else 0 : Nat) : Int) := by
      have h := pz_end (e := τ1.2.1 118 27) hWe hW1 ⟨by have z : (0 : Int32).toInt = 0 := rfl; omega, by have z : (1 : Int32).toInt = 1 := rfl; omega⟩
      rw [show (τ1.2.1 118 27).toInt.toNat = pb_u s by omega] at h
      exact h
    have hB : pn_B (τ1.2.1 120) := by rw [hsT]; exact b
    refine kr_aload_n 2 rd_d_X12_bests_88 rfl ?_
    refine kr_aload_n 2 rd_d_X12_bests_89 rfl ?_
    refine kr_getf G.1 (rd_FL rd_k_X12_bests_90).1 rd_d_X12_bests_90 (hT1.1 118 (.inl 12) rfl) (v := .int (τ1.2.1 118 27)) (by unfold am_fa; rw [(rd_FL rd_k_X12_bests_90).2]; rfl) ?_
    refine rd_call G (T2 := tX12_endOf) rfl rd_d_X12_bests_93 rd_k_X12_bests_93 rfl (hT1.1 118 (.inl 12) rfl) (as := [.int (τ1.2.1 118 27)]) (st := []) rfl (Nat.le_of_ble_eq_true rfl) rfl (Nat.le_of_ble_eq_true rfl) (d1 := 1) (by decide) (fun _ h => by cases h.1) (ax_end G hT1 (τ1.2.1 118 27)) ?_
    intro v8 σ8 ⟨hv8, hs8⟩
    cases hv8
    rw [hs8]
    refine kr_istore_n (lv' := [(2, .int (ax_f_end (τ1.2.1 120) (τ1.2.1 118 27))), (1, .int mo2), (0, .ref 118)]) rd_d_X12_bests_96 (by decide) rfl ?_
    refine kr_aload_n 2 rd_d_X12_bests_97 rfl ?_
    refine kr_aload_n 2 rd_d_X12_bests_98 rfl ?_
    refine kr_getf G.1 (rd_FL rd_k_X12_bests_99).1 rd_d_X12_bests_99 (hT1.1 118 (.inl 12) rfl) (v := .int (τ1.2.1 118 26)) (by unfold am_fa; rw [(rd_FL rd_k_X12_bests_99).2]; rfl) ?_
    refine kr_iload_n 0 rd_d_X12_bests_102 rfl ?_
    refine kr_aload_n 2 rd_d_X12_bests_103 rfl ?_
    refine kr_getf G.1 (rd_FL rd_k_X12_bests_104).1 rd_d_X12_bests_104 (hT1.1 118 (.inl 12) rfl) (v := .ref 120) (by unfold am_fa; rw [(rd_FL rd_k_X12_bests_104).2]; exact hT1.2 118 6 120 rfl) ?_
    refine kr_bipush (v := 55) rd_d_X12_bests_107 (by decide) ?_
    refine kr_iald G.1 (n := 277) rd_d_X12_bests_109 (hT1.1 120 (.inr (.int, 277)) rfl) (hd_in (n := 55) (by decide) (by decide)) ?_
    rw [hd_clamp (n := 55) (by decide)]
    refine rd_call G (T2 := tX12_plans) rfl rd_d_X12_bests_110 rd_k_X12_bests_110 rfl (hT1.1 118 (.inl 12) rfl) (as := [.int (τ1.2.1 118 26), .int (ax_f_end (τ1.2.1 120) (τ1.2.1 118 27)), .int (τ1.2.1 120 55)]) (st := []) rfl (Nat.le_of_ble_eq_true rfl) rfl (Nat.le_of_ble_eq_true rfl) (d1 := 7) (by decide) (fun _ h => by cases h.1) (ax_pls G hT1 (aa := pb_a s) (bb := if pb_u s = 1 then pz_W s - 1 else 0) (F := (s 55).toInt.toNat) ea0 (by rw [hsT]; exact ee) (by rw [hsT]; exact e55) (by omega) (by split <;> omega) h24 hB) ?_
    intro v3 σ3 ⟨hv3, hS3, hfC, tabC⟩
    cases hv3
    rw [hsT] at tabC
    have hs3 : σ3.2.1 120 = s := (funext fun q => hfC 120 q (by decide) (by decide)).trans hsT
    have tab2 : ∀ i t l : Nat, i < br_n s (pb_u s) (pb_a s) → t ≤ 61 → l ≤ (s 55).toInt.toNat → (σ3.2.1 126 (25 * (62 * i + t) + l)).toInt = ((pn_v s (br s (pb_u s) (pb_a s) i) t l).2 : Int) := fun i t l h1 h2 h3 => by
      obtain ⟨m1, m2⟩ := br_M (K := i) hU hA
      have h := (tabC i t l (by rw [m1]; exact h1) h2 h3 (Or.inl (Nat.zero_le _))).2
      rw [m1, m2] at h
      exact h
    refine kr_iconst (v := 0) rd_d_X12_bests_113 (by decide) ?_
    refine kr_istore_n (lv' := [(3, .int 0), (2, .int (ax_f_end (τ1.2.1 120) (τ1.2.1 118 27))), (1, .int mo2), (0, .ref 118)]) rd_d_X12_bests_114 (by decide) rfl ?_
    refine kr_aload_n 3 rd_d_X12_bests_115 rfl ?_
    refine kr_getf G.1 (rd_FL rd_k_X12_bests_116).1 rd_d_X12_bests_116 (hS3.1 118 (.inl 12) rfl) (v := .ref 120) (by unfold am_fa; rw [(rd_FL rd_k_X12_bests_116).2]; exact hS3.2 118 6 120 rfl) ?_
    refine kr_bipush (v := 55) rd_d_X12_bests_119 (by decide) ?_
    refine kr_iald G.1 (n := 277) rd_d_X12_bests_121 (hS3.1 120 (.inr (.int, 277)) rfl) (hd_in (n := 55) (by decide) (by decide)) ?_
    rw [hd_clamp (n := 55) (by decide)]
    refine kr_istore (lv' := [(4, .int (σ3.2.1 120 55)), (3, .int 0), (2, .int (ax_f_end (τ1.2.1 120) (τ1.2.1 118 27))), (1, .int mo2), (0, .ref 118)]) rd_d_X12_bests_122 (by decide) rfl ?_
    refine kr_iconst (v := 0) rd_d_X12_bests_124 (by decide) ?_
    refine kr_istore (lv' := [(5, .int 0), (4, .int (σ3.2.1 120 55)), (3, .int 0), (2, .int (ax_f_end (τ1.2.1 120) (τ1.2.1 118 27))), (1, .int mo2), (0, .ref 118)]) rd_d_X12_bests_125 (by decide) rfl ?_
    refine kr_sub (lv' := [(5, .int 0), (4, .int (σ3.2.1 120 55)), (3, .int 0), (2, .int (ax_f_end (τ1.2.1 120) (τ1.2.1 118 27))), (1, .int mo2), (0, .ref 118)]) (by simp) ?_
    refine kr_mono (fun r σ' h => ?_) (ax_mbM G b b6 hU hA (by rw [hsT]; exact ee) (br_n s (pb_u s) (pb_a s)) 0 0 (σ3.2.1 120 55) 0 σ3 [] 0 (s 55).toInt.toNat hS3 hs3 (by rw [hfC 118 26 (by decide) (by decide)]; exact ea0) (by rw [hfC 118 27 (by decide) (by decide)]; exact eu0) tab2 ⟨by rw [hfC 118 28 (by decide) (by decide), e28]; rfl, fun i hi => absurd hi (Nat.not_lt_zero i)⟩ rfl (by omega) (by rw [hs3]; exact e55) rfl (by show 0 + _ = _; omega) (Nat.zero_le _))
    obtain ⟨h1, h2, h3, h4⟩ := h
    rw [br_0] at h4
    refine ⟨h1, h2, fun x y x5 x6 x7 x8 q => (h3 x y (fun z => q ⟨z.1, by have := z.2; omega, by have := z.2; omega⟩) x7 x8).trans ((hfC x y x5 x6).trans ((hf0 x y (fun z => q ⟨z.1, by have := z.2; omega, by have := z.2; omega⟩)).trans (hfA x y x5 x6 (fun z => q ⟨z.1, by have := z.2; omega, by have := z.2; omega⟩)))), h4, fun _ => ⟨?_, ?_⟩⟩
    · rw [h3 118 26 (fun z => absurd z.2 (by decide)) (by decide) (by decide), hfC 118 26 (by decide) (by decide)]; exact ea0
    · rw [h3 118 27 (fun z => absurd z.2 (by decide)) (by decide) (by decide), hfC 118 27 (by decide) (by decide)]; exact eu0
  · have hz : s 0 = 0 := by rw [← hsA]; exact h41
    have hl0 := pz_best_0 hz
    exact kr_return rd_d_X12_bests_87 rfl ⟨rfl, hT1, fun x y x5 x6 x7 x8 q => (hf1 x y (fun z => q ⟨z.1, by have := z.2; omega, by have := z.2; omega⟩)).trans (hfA x y x5 x6 (fun z => q ⟨z.1, by have := z.2; omega, by have := z.2; omega⟩)), ⟨by rw [hw1, hl0]; rfl, fun i hi => absurd hi (by omega)⟩, fun n => absurd hz n⟩
end AXX
