/-! exact answers, further (rows written by a program) -/
theorem rd_d_X4_putAhead_0 : decode tX4_putAhead.1.2.1 0 = .ok (.aload_n 0, 1) := by decide +kernel
theorem rd_d_X4_putAhead_1 : decode tX4_putAhead.1.2.1 1 = .ok (.getfield 46, 3) := by decide +kernel
theorem rd_k_X4_putAhead_1 : ex_lk ex_mt tX4_putAhead 1 (.getfield 46) [4, 0, 2, 131083] = true := by decide +kernel
theorem rd_d_X4_putAhead_4 : decode tX4_putAhead.1.2.1 4 = .ok (.iload_n 1, 1) := by decide +kernel
theorem rd_d_X4_putAhead_5 : decode tX4_putAhead.1.2.1 5 = .ok (.invokevirtual 98, 3) := by decide +kernel
theorem rd_k_X4_putAhead_5 : ex_lk ex_mt tX4_putAhead 5 (.invokevirtual 98) [0, 298, 262337] = true := by decide +kernel
theorem rd_d_X4_putAhead_8 : decode tX4_putAhead.1.2.1 8 = .ok (.istore 5, 2) := by decide +kernel
theorem rd_d_X4_putAhead_10 : decode tX4_putAhead.1.2.1 10 = .ok (.aload_n 0, 1) := by decide +kernel
theorem rd_d_X4_putAhead_11 : decode tX4_putAhead.1.2.1 11 = .ok (.getfield 46, 3) := by decide +kernel
theorem rd_k_X4_putAhead_11 : ex_lk ex_mt tX4_putAhead 11 (.getfield 46) [4, 0, 2, 131083] = true := by decide +kernel
theorem rd_d_X4_putAhead_14 : decode tX4_putAhead.1.2.1 14 = .ok (.iload_n 1, 1) := by decide +kernel
theorem rd_d_X4_putAhead_15 : decode tX4_putAhead.1.2.1 15 = .ok (.invokevirtual 102, 3) := by decide +kernel
theorem rd_k_X4_putAhead_15 : ex_lk ex_mt tX4_putAhead 15 (.invokevirtual 102) [0, 311, 262338] = true := by decide +kernel
theorem rd_d_X4_putAhead_18 : decode tX4_putAhead.1.2.1 18 = .ok (.istore 6, 2) := by decide +kernel
theorem rd_d_X4_putAhead_20 : decode tX4_putAhead.1.2.1 20 = .ok (.aload_n 0, 1) := by decide +kernel
theorem rd_d_X4_putAhead_21 : decode tX4_putAhead.1.2.1 21 = .ok (.getfield 46, 3) := by decide +kernel
theorem rd_k_X4_putAhead_21 : ex_lk ex_mt tX4_putAhead 21 (.getfield 46) [4, 0, 2, 131083] = true := by decide +kernel
theorem rd_d_X4_putAhead_24 : decode tX4_putAhead.1.2.1 24 = .ok (.invokevirtual 105, 3) := by decide +kernel
theorem rd_k_X4_putAhead_24 : ex_lk ex_mt tX4_putAhead 24 (.invokevirtual 105) [0, 313, 262339] = true := by decide +kernel
theorem rd_d_X4_putAhead_27 : decode tX4_putAhead.1.2.1 27 = .ok (.istore 7, 2) := by decide +kernel
theorem rd_d_X4_putAhead_29 : decode tX4_putAhead.1.2.1 29 = .ok (.iload_n 2, 1) := by decide +kernel
theorem rd_d_X4_putAhead_30 : decode tX4_putAhead.1.2.1 30 = .ok (.aload_n 0, 1) := by decide +kernel
theorem rd_d_X4_putAhead_31 : decode tX4_putAhead.1.2.1 31 = .ok (.getfield 95, 3) := by decide +kernel
theorem rd_k_X4_putAhead_31 : ex_lk ex_mt tX4_putAhead 31 (.getfield 95) [4, 15, 0, 131102] = true := by decide +kernel
theorem rd_d_X4_putAhead_34 : decode tX4_putAhead.1.2.1 34 = .ok (.iload 5, 2) := by decide +kernel
theorem rd_d_X4_putAhead_36 : decode tX4_putAhead.1.2.1 36 = .ok (.iadd, 1) := by decide +kernel
theorem rd_d_X4_putAhead_37 : decode tX4_putAhead.1.2.1 37 = .ok (.invokestatic 66, 3) := by decide +kernel
theorem rd_k_X4_putAhead_37 : ex_lk ex_mt tX4_putAhead 37 (.invokestatic 66) [1, 1, 262322, 0] = true := by decide +kernel
theorem rd_d_X4_putAhead_40 : decode tX4_putAhead.1.2.1 40 = .ok (.istore 8, 2) := by decide +kernel
theorem rd_d_X4_putAhead_42 : decode tX4_putAhead.1.2.1 42 = .ok (.iconst 0, 1) := by decide +kernel
theorem rd_d_X4_putAhead_43 : decode tX4_putAhead.1.2.1 43 = .ok (.istore 9, 2) := by decide +kernel
theorem rd_d_X4_putAhead_45 : decode tX4_putAhead.1.2.1 45 = .ok (.iload 9, 2) := by decide +kernel
theorem rd_d_X4_putAhead_47 : decode tX4_putAhead.1.2.1 47 = .ok (.aload_n 0, 1) := by decide +kernel
theorem rd_d_X4_putAhead_48 : decode tX4_putAhead.1.2.1 48 = .ok (.getfield 72, 3) := by decide +kernel
theorem rd_k_X4_putAhead_48 : ex_lk ex_mt tX4_putAhead 48 (.getfield 72) [4, 16, 0, 131103] = true := by decide +kernel
theorem rd_d_X4_putAhead_51 : decode tX4_putAhead.1.2.1 51 = .ok (.if_icmp .ge 160, 3) := by decide +kernel
theorem rd_d_X4_putAhead_54 : decode tX4_putAhead.1.2.1 54 = .ok (.aload_n 0, 1) := by decide +kernel
theorem rd_d_X4_putAhead_55 : decode tX4_putAhead.1.2.1 55 = .ok (.iload_n 1, 1) := by decide +kernel
theorem rd_d_X4_putAhead_56 : decode tX4_putAhead.1.2.1 56 = .ok (.iload 9, 2) := by decide +kernel
theorem rd_d_X4_putAhead_58 : decode tX4_putAhead.1.2.1 58 = .ok (.iload 5, 2) := by decide +kernel
theorem rd_d_X4_putAhead_60 : decode tX4_putAhead.1.2.1 60 = .ok (.iload 6, 2) := by decide +kernel
theorem rd_d_X4_putAhead_62 : decode tX4_putAhead.1.2.1 62 = .ok (.iload 7, 2) := by decide +kernel
theorem rd_d_X4_putAhead_64 : decode tX4_putAhead.1.2.1 64 = .ok (.invokevirtual 108, 3) := by decide +kernel
theorem rd_k_X4_putAhead_64 : ex_lk ex_mt tX4_putAhead 64 (.invokevirtual 108) [0, 234, 262340] = true := by decide +kernel
theorem rd_d_X4_putAhead_67 : decode tX4_putAhead.1.2.1 67 = .ok (.lconst 0, 1) := by decide +kernel
theorem rd_d_X4_putAhead_68 : decode tX4_putAhead.1.2.1 68 = .ok (.lstore 10, 2) := by decide +kernel
theorem rd_d_X4_putAhead_70 : decode tX4_putAhead.1.2.1 70 = .ok (.iconst 0, 1) := by decide +kernel
theorem rd_d_X4_putAhead_71 : decode tX4_putAhead.1.2.1 71 = .ok (.istore 12, 2) := by decide +kernel
theorem rd_d_X4_putAhead_73 : decode tX4_putAhead.1.2.1 73 = .ok (.iload 12, 2) := by decide +kernel
theorem rd_d_X4_putAhead_75 : decode tX4_putAhead.1.2.1 75 = .ok (.iload 8, 2) := by decide +kernel
theorem rd_d_X4_putAhead_77 : decode tX4_putAhead.1.2.1 77 = .ok (.if_icmp .gt 113, 3) := by decide +kernel
theorem rd_d_X4_putAhead_80 : decode tX4_putAhead.1.2.1 80 = .ok (.iconst (-1), 1) := by decide +kernel
theorem rd_d_X4_putAhead_81 : decode tX4_putAhead.1.2.1 81 = .ok (.istore 13, 2) := by decide +kernel
theorem rd_d_X4_putAhead_83 : decode tX4_putAhead.1.2.1 83 = .ok (.iconst 0, 1) := by decide +kernel
theorem rd_d_X4_putAhead_84 : decode tX4_putAhead.1.2.1 84 = .ok (.istore 14, 2) := by decide +kernel
theorem rd_d_X4_putAhead_86 : decode tX4_putAhead.1.2.1 86 = .ok (.iconst 0, 1) := by decide +kernel
theorem rd_d_X4_putAhead_87 : decode tX4_putAhead.1.2.1 87 = .ok (.istore 15, 2) := by decide +kernel
theorem rd_d_X4_putAhead_154 : decode tX4_putAhead.1.2.1 154 = .ok (.aload_n 0, 1) := by decide +kernel
theorem rd_d_X4_putAhead_155 : decode tX4_putAhead.1.2.1 155 = .ok (.getfield 15, 3) := by decide +kernel
theorem rd_k_X4_putAhead_155 : ex_lk ex_mt tX4_putAhead 155 (.getfield 15) [4, 2, 2, 131085] = true := by decide +kernel
theorem rd_d_X4_putAhead_158 : decode tX4_putAhead.1.2.1 158 = .ok (.iload 9, 2) := by decide +kernel
theorem rd_d_X4_putAhead_160 : decode tX4_putAhead.1.2.1 160 = .ok (.bipush 25, 2) := by decide +kernel
theorem rd_d_X4_putAhead_162 : decode tX4_putAhead.1.2.1 162 = .ok (.imul, 1) := by decide +kernel
theorem rd_d_X4_putAhead_163 : decode tX4_putAhead.1.2.1 163 = .ok (.iload 12, 2) := by decide +kernel
theorem rd_d_X4_putAhead_165 : decode tX4_putAhead.1.2.1 165 = .ok (.iadd, 1) := by decide +kernel
theorem rd_d_X4_putAhead_166 : decode tX4_putAhead.1.2.1 166 = .ok (.iload 13, 2) := by decide +kernel
theorem rd_d_X4_putAhead_168 : decode tX4_putAhead.1.2.1 168 = .ok (.invokestatic 82, 3) := by decide +kernel
theorem rd_k_X4_putAhead_168 : ex_lk ex_mt tX4_putAhead 168 (.invokestatic 82) [0, 55, 262327] = true := by decide +kernel
theorem rd_d_X4_putAhead_171 : decode tX4_putAhead.1.2.1 171 = .ok (.lload 10, 2) := by decide +kernel
theorem rd_d_X4_putAhead_173 : decode tX4_putAhead.1.2.1 173 = .ok (.iload 14, 2) := by decide +kernel
theorem rd_d_X4_putAhead_175 : decode tX4_putAhead.1.2.1 175 = .ok (.i2l, 1) := by decide +kernel
theorem rd_d_X4_putAhead_176 : decode tX4_putAhead.1.2.1 176 = .ok (.iconst 2, 1) := by decide +kernel
theorem rd_d_X4_putAhead_177 : decode tX4_putAhead.1.2.1 177 = .ok (.iload 12, 2) := by decide +kernel
theorem rd_d_X4_putAhead_179 : decode tX4_putAhead.1.2.1 179 = .ok (.imul, 1) := by decide +kernel
theorem rd_d_X4_putAhead_180 : decode tX4_putAhead.1.2.1 180 = .ok (.lshl, 1) := by decide +kernel
theorem rd_d_X4_putAhead_181 : decode tX4_putAhead.1.2.1 181 = .ok (.lor, 1) := by decide +kernel
theorem rd_d_X4_putAhead_182 : decode tX4_putAhead.1.2.1 182 = .ok (.lstore 10, 2) := by decide +kernel
theorem rd_d_X4_putAhead_184 : decode tX4_putAhead.1.2.1 184 = .ok (.iinc 12 1, 3) := by decide +kernel
theorem rd_d_X4_putAhead_187 : decode tX4_putAhead.1.2.1 187 = .ok (.goto (-114), 3) := by decide +kernel
theorem rd_d_X4_putAhead_190 : decode tX4_putAhead.1.2.1 190 = .ok (.aload_n 0, 1) := by decide +kernel
theorem rd_d_X4_putAhead_191 : decode tX4_putAhead.1.2.1 191 = .ok (.iload_n 3, 1) := by decide +kernel
theorem rd_d_X4_putAhead_192 : decode tX4_putAhead.1.2.1 192 = .ok (.iload_n 1, 1) := by decide +kernel
theorem rd_d_X4_putAhead_193 : decode tX4_putAhead.1.2.1 193 = .ok (.iload 9, 2) := by decide +kernel
theorem rd_d_X4_putAhead_195 : decode tX4_putAhead.1.2.1 195 = .ok (.invokestatic 116, 3) := by decide +kernel
theorem rd_k_X4_putAhead_195 : ex_lk ex_mt tX4_putAhead 195 (.invokestatic 116) [0, 208, 262349] = true := by decide +kernel
theorem rd_d_X4_putAhead_198 : decode tX4_putAhead.1.2.1 198 = .ok (.lload 10, 2) := by decide +kernel
theorem rd_d_X4_putAhead_200 : decode tX4_putAhead.1.2.1 200 = .ok (.iload 4, 2) := by decide +kernel
theorem rd_d_X4_putAhead_202 : decode tX4_putAhead.1.2.1 202 = .ok (.invokevirtual 120, 3) := by decide +kernel
theorem rd_k_X4_putAhead_202 : ex_lk ex_mt tX4_putAhead 202 (.invokevirtual 120) [0, 214, 262352] = true := by decide +kernel
theorem rd_d_X4_putAhead_205 : decode tX4_putAhead.1.2.1 205 = .ok (.iinc 9 1, 3) := by decide +kernel
theorem rd_d_X4_putAhead_208 : decode tX4_putAhead.1.2.1 208 = .ok (.goto (-163), 3) := by decide +kernel
theorem rd_d_X4_putAhead_211 : decode tX4_putAhead.1.2.1 211 = .ok (.aload_n 0, 1) := by decide +kernel
theorem rd_d_X4_putAhead_212 : decode tX4_putAhead.1.2.1 212 = .ok (.iload 8, 2) := by decide +kernel
theorem rd_d_X4_putAhead_214 : decode tX4_putAhead.1.2.1 214 = .ok (.putfield 95, 3) := by decide +kernel
theorem rd_k_X4_putAhead_214 : ex_lk ex_mt tX4_putAhead 214 (.putfield 95) [4, 15, 0, 131102] = true := by decide +kernel
theorem rd_d_X4_putAhead_217 : decode tX4_putAhead.1.2.1 217 = .ok (.return_, 1) := by decide +kernel
theorem rd_d_X4_choiceIndex_0 : decode tX4_choiceIndex.1.2.1 0 = .ok (.iload_n 0, 1) := by decide +kernel
theorem rd_d_X4_choiceIndex_1 : decode tX4_choiceIndex.1.2.1 1 = .ok (.bipush 10, 2) := by decide +kernel
theorem rd_d_X4_choiceIndex_3 : decode tX4_choiceIndex.1.2.1 3 = .ok (.imul, 1) := by decide +kernel
theorem rd_d_X4_choiceIndex_4 : decode tX4_choiceIndex.1.2.1 4 = .ok (.iload_n 1, 1) := by decide +kernel
theorem rd_d_X4_choiceIndex_5 : decode tX4_choiceIndex.1.2.1 5 = .ok (.iadd, 1) := by decide +kernel
theorem rd_d_X4_choiceIndex_6 : decode tX4_choiceIndex.1.2.1 6 = .ok (.bipush 60, 2) := by decide +kernel
theorem rd_d_X4_choiceIndex_8 : decode tX4_choiceIndex.1.2.1 8 = .ok (.imul, 1) := by decide +kernel
theorem rd_d_X4_choiceIndex_9 : decode tX4_choiceIndex.1.2.1 9 = .ok (.iload_n 2, 1) := by decide +kernel
theorem rd_d_X4_choiceIndex_10 : decode tX4_choiceIndex.1.2.1 10 = .ok (.iadd, 1) := by decide +kernel
theorem rd_d_X4_choiceIndex_11 : decode tX4_choiceIndex.1.2.1 11 = .ok (.ireturn, 1) := by decide +kernel
theorem rd_d_X4_keepChoice_0 : decode tX4_keepChoice.1.2.1 0 = .ok (.iload 4, 2) := by decide +kernel
theorem rd_d_X4_keepChoice_2 : decode tX4_keepChoice.1.2.1 2 = .ok (.ifCond .eq 23, 3) := by decide +kernel
theorem rd_d_X4_keepChoice_5 : decode tX4_keepChoice.1.2.1 5 = .ok (.iload_n 1, 1) := by decide +kernel
theorem rd_d_X4_keepChoice_6 : decode tX4_keepChoice.1.2.1 6 = .ok (.ifCond .lt 19, 3) := by decide +kernel
theorem rd_d_X4_keepChoice_9 : decode tX4_keepChoice.1.2.1 9 = .ok (.iload_n 1, 1) := by decide +kernel
theorem rd_d_X4_keepChoice_10 : decode tX4_keepChoice.1.2.1 10 = .ok (.aload_n 0, 1) := by decide +kernel
theorem rd_d_X4_keepChoice_11 : decode tX4_keepChoice.1.2.1 11 = .ok (.getfield 21, 3) := by decide +kernel
theorem rd_k_X4_keepChoice_11 : ex_lk ex_mt tX4_keepChoice 11 (.getfield 21) [4, 4, 2, 131087] = true := by decide +kernel
theorem rd_d_X4_keepChoice_14 : decode tX4_keepChoice.1.2.1 14 = .ok (.arraylength, 1) := by decide +kernel
theorem rd_d_X4_keepChoice_15 : decode tX4_keepChoice.1.2.1 15 = .ok (.if_icmp .ge 10, 3) := by decide +kernel
theorem rd_d_X4_keepChoice_18 : decode tX4_keepChoice.1.2.1 18 = .ok (.aload_n 0, 1) := by decide +kernel
theorem rd_d_X4_keepChoice_19 : decode tX4_keepChoice.1.2.1 19 = .ok (.getfield 21, 3) := by decide +kernel
theorem rd_k_X4_keepChoice_19 : ex_lk ex_mt tX4_keepChoice 19 (.getfield 21) [4, 4, 2, 131087] = true := by decide +kernel
theorem rd_d_X4_keepChoice_22 : decode tX4_keepChoice.1.2.1 22 = .ok (.iload_n 1, 1) := by decide +kernel
theorem rd_d_X4_keepChoice_23 : decode tX4_keepChoice.1.2.1 23 = .ok (.lload_n 2, 1) := by decide +kernel
theorem rd_d_X4_keepChoice_24 : decode tX4_keepChoice.1.2.1 24 = .ok (.lastore, 1) := by decide +kernel
theorem rd_d_X4_keepChoice_25 : decode tX4_keepChoice.1.2.1 25 = .ok (.return_, 1) := by decide +kernel
section AXX
variable {g : am_C} {L : Nat} {xs : Nat → Int32}
/-! putAhead -/
theorem pv_late2 {tk oft : Nat → Nat} {g : Nat → Nat → Nat} {wk H : Nat} : ∀ (ws : List Nat), (∀ w ∈ ws, ∀ x, H ≤ x → g w x = 0) → ∀ (t f : Nat), H ≤ t → pv tk oft g wk ws t f = (0, 0) := by
  intro ws
  induction ws with
  | nil => intro _ t f _; rfl
  | cons w ws ih =>
    intro h t f ht
    rw [pv_cons]
    refine pv_best_0 (fun k _ => ?_)
    rw [pv_S_0 (fun x hx => h w (List.mem_cons_self) x (by omega)), ih (fun v hv => h v (List.mem_cons_of_mem _ hv)) _ _ (by omega)]
    rfl
theorem pn_min {s : Nat → Int32} {ws : List Nat} {mf U : Nat} (hU : U = min mf (pv_U (pn_of s) ws)) {t f : Nat} (hf : f ≤ mf) : pn_v s ws t (min f U) = pn_v s ws t f := by
  rcases Nat.le_total f U with h | h
  · rw [Nat.min_eq_left h]
  · rw [Nat.min_eq_right h]
    by_cases e : f = U
    · rw [e]
    · have e2 : U = pv_U (pn_of s) ws := by omega
      exact pv_use ws t U f (by omega) (by omega)
theorem pa_min {a b : Nat} {x y : Int32} (hx : x.toInt = (a : Int)) (hy : y.toInt = (b : Int)) : (ax_f_min x y).toInt = ((min a b : Nat) : Int) := by
  rw [ax_f_min]
  split
  · rename_i h
    have := Int32.lt_iff_toInt_lt.mp h
    rw [hy, Nat.min_eq_right (by omega)]
  · rename_i h
    have : ¬ y.toInt < x.toInt := fun q => h (Int32.lt_iff_toInt_lt.mpr q)
    rw [hx, Nat.min_eq_left (by omega)]
theorem pn_lim {s : Nat → Int32} (b : pn_B s) {w : Nat} (hw : w < 10) : pn_of s w ≤ 3 ∧ pn_tk s w ≤ 9 ∧ pn_wk s ≤ 5 := by
  obtain ⟨-, -, c3, c4, c5, c6⟩ := b
  have t1 := c3 w hw
  have t2 := c4 w hw
  unfold pn_of pn_tk pn_wk
  omega
/-- what putAhead's innermost loop compares -/
theorem pa_hv {s : Nat → Int32} {m : Nat → Nat → Int32} {ws : List Nat} {w H T F mf U : Nat} {fx : Int32} (b : pn_B s) (hw : w < 10) (hws : ∀ v ∈ ws, v < 10) (hz : ∀ v ∈ ws, ∀ x, H ≤ x → pn_g s v x = 0) (hH : H ≤ 60) (hT : T < H) (hwk : 1 ≤ pn_wk s) (hU : U = min mf (pv_U (pn_of s) ws)) (hmf : mf ≤ 24) (hF : F ≤ mf) (ef : fx.toInt = (F : Int)) (hu : (m 68 15).toInt = (U : Int)) (hS : ∀ n, n ≤ pn_of s w → pw_S (pn_g s w) (pn_tk s w) (pn_wk s) T H m n) (hR : ∀ t f, t < H → f ≤ U → T < t → (m 70 (25 * t + f)).toInt = ((pn_v s ws t f).1 : Int)) : ∀ (n : Nat) (x : Int32), n ≤ min F (pn_of s w) → x.toInt = (n : Int) → (ax_ent (m 78) 4 x + ax_f_rsf m (ax_ent (m 79) 4 x) (fx - x)).toInt = ((pv_S (pn_g s w) (pn_tk s w) T n + (pn_v s ws (T + n * pn_tk s w + pn_wk s) (F - n)).1 : Nat) : Int) := by
  have lim := pn_lim b hw
  intro n x hn ex
  obtain ⟨p1, p2⟩ := hS n (by omega)
  rw [ax_ent_in (k := n) (by decide) ex (by omega), ax_ent_in (k := n) (by decide) ex (by omega)]
  have efx := ch_sub ef ex (by omega)
  have hle := pn_le b ws hws (T + n * pn_tk s w + pn_wk s) (F - n) (by omega)
  have h3 : (F - n) * 128304 ≤ 24 * 128304 := Nat.mul_le_mul_right _ (by omega)
  have hsl := pv_S_le (pn_g_le b hw) (pn_tk s w) T n
  have h4 : n * 128304 ≤ 3 * 128304 := Nat.mul_le_mul_right _ (by omega)
  have hrs : (ax_f_rsf m (m 79 n) (fx - x)).toInt = ((pn_v s ws (T + n * pn_tk s w + pn_wk s) (F - n)).1 : Int) := by
    rw [ax_f_rsf]
    have z : ((-1 : Int32)).toInt = -1 := rfl
    by_cases q : T + n * pn_tk s w + pn_wk s < H
    · rw [if_pos q] at p2
      have hnm : ¬ m 79 n = -1 := fun e => by rw [e] at p2; omega
      have e1 := ch_add p2 (pa_min efx hu) (by omega)
      rw [if_neg hnm, ax_ent_in (k := 25 * (T + n * pn_tk s w + pn_wk s) + min (F - n) U) (by decide) e1 (by omega), hR (T + n * pn_tk s w + pn_wk s) (min (F - n) U) q (by omega) (by omega), pn_min hU (by omega)]
    · rw [if_neg q] at p2
      have hm1 : m 79 n = -1 := Int32.toInt_inj.mp (by rw [p2, z])
      have e0 : pn_v s ws (T + n * pn_tk s w + pn_wk s) (F - n) = (0, 0) := pv_late2 ws hz _ _ (by omega)
      rw [if_pos hm1, e0]
      rfl
  exact ch_add p1 hrs (by omega)
/-- the rests, as far as they are filled -/
def pr_T (s : Nat → Int32) (ws : List Nat) (U H : Nat) (m : Nat → Nat → Int32) : Prop := (m 68 15).toInt = (U : Int) ∧ ∀ y f, y < H → f ≤ U → (m 70 (25 * y + f)).toInt = ((pn_v s ws y f).1 : Int)
/-- the gains, and from when on there are none -/
def pg_K (s : Nat → Int32) (H : Nat) (m : Nat → Nat → Int32) : Prop := (H ≤ 60 ∧ 1 ≤ H) ∧ (m 68 16).toInt = (H : Int) ∧ (∀ w x : Nat, (w : Int) < (s 0).toInt → H ≤ x → pn_g s w x = 0) ∧ ∀ w x : Nat, (w : Int) < (s 0).toInt → x < H → (m 69 (w * 60 + x)).toInt = (pn_g s w x : Int)
theorem pa_row {m : Nat → Nat → Int32} {s : Nat → Int32} (h : pl_R m 4 s) (b : pn_B s) {w : Int32} {ww : Nat} (ew : w.toInt = (ww : Int)) (hW : (ww : Int) < (s 0).toInt) : (ax_f_oft m w).toInt = (pn_of s ww : Int) ∧ (ax_f_tak m w).toInt = (pn_tk s ww : Int) ∧ (ax_f_wal m).toInt = (pn_wk s : Int) ∧ ww < 10 := by
  have ha : ¬ ax_f_win s w = 0 := ax_winV b.1 ⟨by omega, by omega⟩
  have h10 : ww < 10 := by have := b.1.1.2; omega
  have hn : w.toInt.toNat = ww := by omega
  have e1 : ax_f_oft m w = s (22 + w.toInt.toNat) := ax_rowE h b.1 ha (r := 2) (by decide)
  have e2 : ax_f_tak m w = s (12 + w.toInt.toNat) := ax_rowE h b.1 ha (r := 1) (by decide)
  have e3 : ax_f_wal m = s 54 := ax_setE h (a := 0) (j := 0) rfl (by decide)
  obtain ⟨-, -, c3, c4, c5, c6⟩ := b
  have t1 := c3 ww h10
  have t2 := c4 ww h10
  rw [e1, e2, e3, hn]
  unfold pn_of pn_tk pn_wk
  omega
def ax_f_chi (a b c : Int32) : Int32 := (((a * 10) + b) * 60) + c
theorem ax_chi (G : sx_G0 g L xs z9 hd_C ex_mt) {σ : am_S} (hS : ax_S σ) (a b c : Int32) : am_K g 1 tX4_choiceIndex.1 0 0 0 (lv_args 0 [.int a, .int b, .int c]) [] σ (ax_R (ax_f_chi a b c) σ) := by
  refine kr_iload_n 0 rd_d_X4_choiceIndex_0 rfl ?_
  refine kr_bipush (v := 10) rd_d_X4_choiceIndex_1 (by decide) ?_
  refine kr_imul rd_d_X4_choiceIndex_3 ?_
  refine kr_iload_n 1 rd_d_X4_choiceIndex_4 rfl ?_
  refine kr_iadd rd_d_X4_choiceIndex_5 ?_
  refine kr_bipush (v := 60) rd_d_X4_choiceIndex_6 (by decide) ?_
  refine kr_imul rd_d_X4_choiceIndex_8 ?_
  refine kr_iload_n 2 rd_d_X4_choiceIndex_9 rfl ?_
  refine kr_iadd rd_d_X4_choiceIndex_10 ?_
  exact kr_ireturn rd_d_X4_choiceIndex_11 (ty := .int) rfl rfl ⟨rfl, rfl⟩
theorem pa_chi {UP ww T : Nat} {up w t : Int32} (eup : up.toInt = (UP : Int)) (ew : w.toInt = (ww : Int)) (et : t.toInt = (T : Int)) (hup : UP ≤ 1) (hw : ww < 10) (hT : T ≤ 60) : (ax_f_chi up w t).toInt = (((UP * 10 + ww) * 60 + T : Nat) : Int) := by
  rw [ax_f_chi]
  exact ch_add (ch_mul (ch_add (ch_mul eup (y := 10) (b := 10) rfl (A := 1) (B := 10) hup (Nat.le_refl _) (by decide)) ew (by omega)) (y := 60) (b := 60) rfl (A := 19) (B := 60) (by omega) (Nat.le_refl _) (by decide)) et (by omega)
theorem ax_frL (G : sx_G0 g L xs z9 hd_C ex_mt) {s : Nat → Int32} {ww mfn U R H : Nat} {ws : List Nat} {w mf up kp of tk wk rc : Int32} (b : pn_B s) (hw : ww < 10) (hws : ∀ v ∈ ws, v < 10) (hz : ∀ v ∈ ww :: ws, ∀ x, H ≤ x → pn_g s v x = 0) (hH : H ≤ 60) (hwk1 : 1 ≤ pn_wk s) (hU : U = min mfn (pv_U (pn_of s) ws)) (hR : R = min mfn (U + pn_of s ww)) (hmf : mfn ≤ 24) (eof : of.toInt = (pn_of s ww : Int)) (etk : tk.toInt = (pn_tk s ww : Int)) (ewk : wk.toInt = (pn_wk s : Int)) (erc : rc.toInt = (R : Int)) (ew : w.toInt = (ww : Int)) {T : Nat} {t : Int32} (hT : T < H) {CH : Nat → Int64 → Prop} (et : t.toInt = (T : Int)) (hCH : ∀ (j : Nat) (ch : Int64) (fx fo : Int32), j ≤ R → CH j ch → fx.toInt = (j : Int) → fo.toInt = ((pn_v s (ww :: ws) T j).2 : Int) → CH (j + 1) (ch ||| (fo.toInt64 <<< ((2 * fx).toInt64 &&& 63)))) {post : Option (Option Value) → am_S → Prop} : ∀ (n j : Nat) (fx : Int32) (ch : Int64) (σ : am_S), ax_S σ → fx.toInt = (j : Int) → j + n = R + 1 → CH j ch → (σ.2.1 68 15).toInt = (U : Int) → (∀ q, q ≤ pn_of s ww → pw_S (pn_g s ww) (pn_tk s ww) (pn_wk s) T H σ.2.1 q) → (∀ y f, y < H → f ≤ U → T < y → (σ.2.1 70 (25 * y + f)).toInt = ((pn_v s ws y f).1 : Int)) → (∀ f, f < j → (σ.2.1 70 (25 * T + f)).toInt = ((pn_v s (ww :: ws) T f).1 : Int)) → (∀ (σ' : am_S) (fx2 : Int32) (ch2 : Int64), ax_S σ' → (∀ x y, ¬ (x = 70 ∧ 25 * T ≤ y ∧ y < 25 * T + 25) → σ'.2.1 x y = σ.2.1 x y) → σ'.2.2 = σ.2.2 → CH (R + 1) ch2 → (∀ f, f ≤ R → (σ'.2.1 70 (25 * T + f)).toInt = ((pn_v s (ww :: ws) T f).1 : Int)) → am_K g 5 tX4_putAhead.1 0 0 190 [(12, .int fx2), (10, .long ch2), (9, .int t), (8, .int rc), (7, .int wk), (6, .int tk), (5, .int of), (0, .ref 68), (1, .int w), (2, .int mf), (3, .int up), (4, .int kp)] [] σ' post) → am_K g 5 tX4_putAhead.1 0 0 73 [(12, .int fx), (10, .long ch), (9, .int t), (8, .int rc), (7, .int wk), (6, .int tk), (5, .int of), (0, .ref 68), (1, .int w), (2, .int mf), (3, .int up), (4, .int kp)] [] σ post := by
  have lim := pn_lim b hw
  have hR24 : R ≤ mfn := by omega
  intro n
  induction n with
  | zero =>
    intro j fx ch σ hS ef hj hch hu hps hrs hnw kk
    refine kr_iload 0 rd_d_X4_putAhead_73 rfl ?_
    refine kr_iload 3 rd_d_X4_putAhead_75 rfl ?_
    refine kr_icmp_gt (tgt := 190) rd_d_X4_putAhead_77 rfl (fun _ => ?_) (fun h => absurd (Int32.lt_iff_toInt_lt.mpr (by omega)) h)
    have e : j = R + 1 := by omega
    subst e
    exact kk σ fx ch hS (fun _ _ _ => rfl) rfl hch (fun f hf => hnw f (by omega))
  | succ n ih =>
    intro j fx ch σ hS ef hj hch hu hps hrs hnw kk
    refine kr_iload 0 rd_d_X4_putAhead_73 rfl ?_
    refine kr_iload 3 rd_d_X4_putAhead_75 rfl ?_
    refine kr_icmp_gt (tgt := 190) rd_d_X4_putAhead_77 rfl (fun h => by have := Int32.lt_iff_toInt_lt.mp h; omega) (fun _ => ?_)
    have hjR : j ≤ R := by omega
    refine kr_iconst (v := (-1)) rd_d_X4_putAhead_80 (by decide) ?_
    refine kr_istore (lv' := [(13, .int ((-1))), (12, .int fx), (10, .long ch), (9, .int t), (8, .int rc), (7, .int wk), (6, .int tk), (5, .int of), (0, .ref 68), (1, .int w), (2, .int mf), (3, .int up), (4, .int kp)]) rd_d_X4_putAhead_81 (by decide) rfl ?_
    refine kr_iconst (v := 0) rd_d_X4_putAhead_83 (by decide) ?_
    refine kr_istore (lv' := [(14, .int 0), (13, .int ((-1))), (12, .int fx), (10, .long ch), (9, .int t), (8, .int rc), (7, .int wk), (6, .int tk), (5, .int of), (0, .ref 68), (1, .int w), (2, .int mf), (3, .int up), (4, .int kp)]) rd_d_X4_putAhead_84 (by decide) rfl ?_
    refine kr_iconst (v := 0) rd_d_X4_putAhead_86 (by decide) ?_
    refine kr_istore (lv' := [(15, .int 0), (14, .int 0), (13, .int ((-1))), (12, .int fx), (10, .long ch), (9, .int t), (8, .int rc), (7, .int wk), (6, .int tk), (5, .int of), (0, .ref 68), (1, .int w), (2, .int mf), (3, .int up), (4, .int kp)]) rd_d_X4_putAhead_87 (by decide) rfl ?_
    refine ax_mnL G hS ef eof lim.1 (v := fun n => pv_S (pn_g s ww) (pn_tk s ww) T n + (pn_v s ws (T + n * pn_tk s ww + pn_wk s) (j - n)).1) (pa_hv b hw hws (fun v hv => hz v (List.mem_cons_of_mem _ hv)) hH hT hwk1 hU hmf (by omega) ef hu hps hrs) ?_ (min j (pn_of s ww) + 1) 0 0 0 (-1) rfl (by omega) (Or.inl ⟨rfl, rfl, rfl, rfl⟩)
    intro fo2 mo2 e2 e1
    have e1' : mo2.toInt = ((pn_v s (ww :: ws) T j).1 : Int) := e1
    have e2' : fo2.toInt = ((pn_v s (ww :: ws) T j).2 : Int) := e2
    have eix : (t * 25 + fx).toInt = ((25 * T + j : Nat) : Int) := by rw [Nat.mul_comm 25 T]; exact ch_add (ch_mul et (y := 25) (b := 25) rfl (A := 60) (B := 25) (by omega) (Nat.le_refl _) (by decide)) ef (by omega)
    refine kr_aload_n 9 rd_d_X4_putAhead_154 rfl ?_
    refine kr_getf G.1 (rd_FL rd_k_X4_putAhead_155).1 rd_d_X4_putAhead_155 (hS.1 68 (.inl 4) rfl) (v := .ref 70) (by unfold am_fa; rw [(rd_FL rd_k_X4_putAhead_155).2]; exact hS.2 68 2 70 rfl) ?_
    refine kr_iload 4 rd_d_X4_putAhead_158 rfl ?_
    refine kr_bipush (v := 25) rd_d_X4_putAhead_160 (by decide) ?_
    refine kr_imul rd_d_X4_putAhead_162 ?_
    refine kr_iload 2 rd_d_X4_putAhead_163 rfl ?_
    refine kr_iadd rd_d_X4_putAhead_165 ?_
    refine kr_iload 1 rd_d_X4_putAhead_166 rfl ?_
    refine rd_callS G (T2 := tX11_put) rfl rd_d_X4_putAhead_168 rd_k_X4_putAhead_168 rfl rfl (as := [.ref 70, .int ((t * 25) + fx), .int mo2]) (st := []) rfl (Nat.le_of_ble_eq_true rfl) rfl (Nat.le_of_ble_eq_true rfl) (d1 := 1) (by decide) (fun _ h => by cases h.1) (ax_putA G hS (n := 1500) (hS.1 70 (.inr (.int, 1500)) rfl) (by decide) (ix := 25 * T + j) eix (by omega)) ?_
    intro vvτ1 τ1 ⟨hvvτ1, hT1, hw1, hf1, hl1⟩
    cases hvvτ1
    have hsτ1 : τ1.2.1 120 = σ.2.1 120 := (ax_120F hf1 (by decide))
    have hqτ1 : ax_pl τ1.2.1 = ax_pl σ.2.1 := (ax_plF hf1 (by decide))
    have hLτ1 : τ1.2.2 = σ.2.2 := hl1
    refine kr_lload 3 rd_d_X4_putAhead_171 rfl ?_
    refine kr_iload 0 rd_d_X4_putAhead_173 rfl ?_
    refine kr_i2l rd_d_X4_putAhead_175 ?_
    refine kr_iconst (v := 2) rd_d_X4_putAhead_176 (by decide) ?_
    refine kr_iload 2 rd_d_X4_putAhead_177 rfl ?_
    refine kr_imul rd_d_X4_putAhead_179 ?_
    refine kr_lshl rd_d_X4_putAhead_180 ?_
    refine kr_lor rd_d_X4_putAhead_181 ?_
    refine kr_lstore (lv' := [(10, .long (ch ||| (fo2.toInt64 <<< ((2 * fx).toInt64 &&& 63)))), (14, .int fo2), (13, .int mo2), (12, .int fx), (9, .int t), (8, .int rc), (7, .int wk), (6, .int tk), (5, .int of), (0, .ref 68), (1, .int w), (2, .int mf), (3, .int up), (4, .int kp)]) rd_d_X4_putAhead_182 (by decide) rfl ?_
    refine kr_iinc (v := fx + 1) (lv' := [(12, .int (fx + 1)), (10, .long (ch ||| (fo2.toInt64 <<< ((2 * fx).toInt64 &&& 63)))), (14, .int fo2), (13, .int mo2), (9, .int t), (8, .int rc), (7, .int wk), (6, .int tk), (5, .int of), (0, .ref 68), (1, .int w), (2, .int mf), (3, .int up), (4, .int kp)]) 3 rd_d_X4_putAhead_184 rfl rfl (by decide) rfl ?_
    refine kr_goto (tgt := 73) rd_d_X4_putAhead_187 rfl ?_
    refine kr_sub (lv' := [(12, .int (fx + 1)), (10, .long (ch ||| (fo2.toInt64 <<< ((2 * fx).toInt64 &&& 63)))), (9, .int t), (8, .int rc), (7, .int wk), (6, .int tk), (5, .int of), (0, .ref 68), (1, .int w), (2, .int mf), (3, .int up), (4, .int kp)]) (by simp) ?_
    refine ih (j + 1) (fx + 1) (ch ||| (fo2.toInt64 <<< ((2 * fx).toInt64 &&& 63))) τ1 hT1 (ax_inc ef (by omega)) (by omega) (hCH j ch fx fo2 hjR hch ef e2') (by rw [hf1 68 15 (fun q => absurd q.1 (by decide))]; exact hu) ?_ ?_ ?_ ?_
    · intro q hq
      have := hps q hq
      unfold pw_S at this ⊢
      rw [hf1 78 q (fun z => absurd z.1 (by decide)), hf1 79 q (fun z => absurd z.1 (by decide))]
      exact this
    · intro y f h1 h2 h3
      rw [hf1 70 _ (fun q => by have := q.2; omega)]
      exact hrs y f h1 h2 h3
    · intro f h1
      by_cases e : f = j
      · subst e; rw [hw1]; exact e1'
      · rw [hf1 70 _ (fun q => by have := q.2; omega)]
        exact hnw f (by omega)
    · exact fun σ' fx2 ch2 a1 a2 a3 a4 a5 => kk σ' fx2 ch2 a1 (fun x y h => (a2 x y h).trans (hf1 x y (fun q => h ⟨q.1, by have := q.2; omega, by have := q.2; omega⟩))) (a3.trans hLτ1) a4 a5
theorem ax_kc (G : sx_G0 g L xs z9 hd_C ex_mt) {σ : am_S} (hS : ax_S σ) {k kp : Int32} {ch : Int64} {ix : Nat} (ek : k.toInt = (ix : Int)) (hix : ix < 1200) : am_K g 1 tX4_keepChoice.1 0 0 0 (lv_args 0 [.ref 68, .int k, .long ch, .int kp]) [] σ (fun r σ' => r = some none ∧ ax_S σ' ∧ σ'.2.1 = σ.2.1 ∧ σ'.2.2.1 = (if kp = 0 then σ.2.2.1 else am_up σ.2.2.1 72 ix ch) ∧ σ'.2.2.2 = σ.2.2.2) := by
  have z0 : (0 : Int32).toInt = 0 := rfl
  have zn : (nI 1200).toInt = (1200 : Int) := Int32.toInt_ofNat_of_lt (by decide)
  refine kr_iload 3 rd_d_X4_keepChoice_0 rfl ?_
  refine kr_if_eq (tgt := 25) rd_d_X4_keepChoice_2 rfl (fun h => ?_) (fun h => ?_)
  · exact kr_return rd_d_X4_keepChoice_25 rfl ⟨rfl, hS, rfl, by rw [if_pos h], rfl⟩
  · refine kr_iload_n 1 rd_d_X4_keepChoice_5 rfl ?_
    refine kr_if_lt (tgt := 25) rd_d_X4_keepChoice_6 rfl (fun q => by have := Int32.lt_iff_toInt_lt.mp q; omega) (fun _ => ?_)
    refine kr_iload_n 1 rd_d_X4_keepChoice_9 rfl ?_
    refine kr_aload_n 0 rd_d_X4_keepChoice_10 rfl ?_
    refine kr_getf G.1 (rd_FL rd_k_X4_keepChoice_11).1 rd_d_X4_keepChoice_11 (hS.1 68 (.inl 4) rfl) (v := .ref 72) (by unfold am_fa; rw [(rd_FL rd_k_X4_keepChoice_11).2]; exact hS.2 68 4 72 rfl) ?_
    refine kr_alenJ G.1 (n := 1200) rd_d_X4_keepChoice_14 (hS.1 72 (.inr (.long, 1200)) rfl) ?_
    refine kr_icmp_ge (tgt := 25) rd_d_X4_keepChoice_15 rfl (fun q => by have := Int32.le_iff_toInt_le.mp q; omega) (fun _ => ?_)
    refine kr_aload_n 0 rd_d_X4_keepChoice_18 rfl ?_
    refine kr_getf G.1 (rd_FL rd_k_X4_keepChoice_19).1 rd_d_X4_keepChoice_19 (hS.1 68 (.inl 4) rfl) (v := .ref 72) (by unfold am_fa; rw [(rd_FL rd_k_X4_keepChoice_19).2]; exact hS.2 68 4 72 rfl) ?_
    refine kr_iload_n 1 rd_d_X4_keepChoice_22 rfl ?_
    refine kr_lload_n 2 rd_d_X4_keepChoice_23 rfl ?_
    refine kr_last G.1 (n := 1200) rd_d_X4_keepChoice_24 (hS.1 72 (.inr (.long, 1200)) rfl) (hd_in ek hix) ?_
    rw [hd_clamp ek]
    exact kr_return rd_d_X4_keepChoice_25 rfl ⟨rfl, hS, rfl, by rw [if_neg h], rfl⟩
theorem ax_tmL (G : sx_G0 g L xs z9 hd_C ex_mt) {s : Nat → Int32} {ww mfn U R H : Nat} {ws : List Nat} {w mf up kp of tk wk rc : Int32} (b : pn_B s) (hw : ww < 10) (hws : ∀ v ∈ ws, v < 10) (hz : ∀ v ∈ ww :: ws, ∀ x, H ≤ x → pn_g s v x = 0) (hH : H ≤ 60) (hwk1 : 1 ≤ pn_wk s) (hU : U = min mfn (pv_U (pn_of s) ws)) (hR : R = min mfn (U + pn_of s ww)) (hmf : mfn ≤ 24) (eof : of.toInt = (pn_of s ww : Int)) (etk : tk.toInt = (pn_tk s ww : Int)) (ewk : wk.toInt = (pn_wk s : Int)) (erc : rc.toInt = (R : Int)) (ew : w.toInt = (ww : Int)) {UP : Nat} (eup : up.toInt = (UP : Int)) (hup : UP ≤ 1) {CH : Nat → Nat → Int64 → Prop} (hC0 : ∀ T, CH T 0 0) (hCH : ∀ T : Nat, T < H → ∀ (j : Nat) (ch : Int64) (fx fo : Int32), j ≤ R → CH T j ch → fx.toInt = (j : Int) → fo.toInt = ((pn_v s (ww :: ws) T j).2 : Int) → CH T (j + 1) (ch ||| (fo.toInt64 <<< ((2 * fx).toInt64 &&& 63)))) {LM : Nat → (Nat → Nat → Int64) → Prop} (hLM : ∀ (T : Nat) (l : Nat → Nat → Int64) (ch : Int64), T < H → LM T l → CH T (R + 1) ch → LM (T + 1) (if kp = 0 then l else am_up l 72 ((UP * 10 + ww) * 60 + T) ch)) {post : Option (Option Value) → am_S → Prop} : ∀ (n T : Nat) (t : Int32) (σ : am_S), ax_S σ → t.toInt = (T : Int) → T + n = H → LM T σ.2.2.1 → (σ.2.1 68 15).toInt = (U : Int) → (σ.2.1 68 16).toInt = (H : Int) → (∀ x, x < H → (σ.2.1 69 (ww * 60 + x)).toInt = (pn_g s ww x : Int)) → (∀ y f, y < H → f ≤ U → T ≤ y → (σ.2.1 70 (25 * y + f)).toInt = ((pn_v s ws y f).1 : Int)) → (∀ y f, y < H → f ≤ R → y < T → (σ.2.1 70 (25 * y + f)).toInt = ((pn_v s (ww :: ws) y f).1 : Int)) → (∀ (σ' : am_S) (t2 : Int32), ax_S σ' → (∀ x y, x ≠ 70 → x ≠ 78 → x ≠ 79 → σ'.2.1 x y = σ.2.1 x y) → σ'.2.2.2 = σ.2.2.2 → LM H σ'.2.2.1 → (∀ y f, y < H → f ≤ R → (σ'.2.1 70 (25 * y + f)).toInt = ((pn_v s (ww :: ws) y f).1 : Int)) → am_K g 5 tX4_putAhead.1 0 0 211 [(9, .int t2), (8, .int rc), (7, .int wk), (6, .int tk), (5, .int of), (0, .ref 68), (1, .int w), (2, .int mf), (3, .int up), (4, .int kp)] [] σ' post) → am_K g 5 tX4_putAhead.1 0 0 45 [(9, .int t), (8, .int rc), (7, .int wk), (6, .int tk), (5, .int of), (0, .ref 68), (1, .int w), (2, .int mf), (3, .int up), (4, .int kp)] [] σ post := by
  have lim := pn_lim b hw
  have hR24 : R ≤ mfn := by omega
  intro n
  induction n with
  | zero =>
    intro T t σ hS et hj hlm hu hh hgg hrs hnw kk
    refine kr_iload 0 rd_d_X4_putAhead_45 rfl ?_
    refine kr_aload_n 5 rd_d_X4_putAhead_47 rfl ?_
    refine kr_getf G.1 (rd_FL rd_k_X4_putAhead_48).1 rd_d_X4_putAhead_48 (hS.1 68 (.inl 4) rfl) (v := .int (σ.2.1 68 16)) (by unfold am_fa; rw [(rd_FL rd_k_X4_putAhead_48).2]; rfl) ?_
    refine kr_icmp_ge (tgt := 211) rd_d_X4_putAhead_51 rfl (fun h1 => ?_) (fun h1 => ?_)
    · have e : T = H := by omega
      subst e
      exact kk σ t hS (fun _ _ _ _ _ => rfl) rfl hlm (fun y f h1 h2 => hnw y f h1 h2 h1)
    · exact absurd (Int32.le_iff_toInt_le.mpr (by omega)) h1
  | succ n ih =>
    intro T t σ hS et hj hlm hu hh hgg hrs hnw kk
    refine kr_iload 0 rd_d_X4_putAhead_45 rfl ?_
    refine kr_aload_n 5 rd_d_X4_putAhead_47 rfl ?_
    refine kr_getf G.1 (rd_FL rd_k_X4_putAhead_48).1 rd_d_X4_putAhead_48 (hS.1 68 (.inl 4) rfl) (v := .int (σ.2.1 68 16)) (by unfold am_fa; rw [(rd_FL rd_k_X4_putAhead_48).2]; rfl) ?_
    refine kr_icmp_ge (tgt := 211) rd_d_X4_putAhead_51 rfl (fun h21 => ?_) (fun h21 => ?_)
    · have := Int32.le_iff_toInt_le.mp h21
      omega
    · have hTH : T < H := by omega
      refine kr_aload_n 5 rd_d_X4_putAhead_54 rfl ?_
      refine kr_iload_n 6 rd_d_X4_putAhead_55 rfl ?_
      refine kr_iload 0 rd_d_X4_putAhead_56 rfl ?_
      refine kr_iload 4 rd_d_X4_putAhead_58 rfl ?_
      refine kr_iload 3 rd_d_X4_putAhead_60 rfl ?_
      refine kr_iload 2 rd_d_X4_putAhead_62 rfl ?_
      refine rd_call G (T2 := tX4_weighSales) rfl rd_d_X4_putAhead_64 rd_k_X4_putAhead_64 rfl (hS.1 68 (.inl 4) rfl) (as := [.int w, .int t, .int of, .int tk, .int wk]) (st := []) rfl (Nat.le_of_ble_eq_true rfl) rfl (Nat.le_of_ble_eq_true rfl) (d1 := 3) (by decide) (fun _ h => by cases h.1) (ax_ws G hS ew hw et (by omega) eof lim.1 etk lim.2.1 ewk lim.2.2 hH (hz ww (List.mem_cons_self)) (pn_g_le b hw) hh hgg) ?_
      intro v1 σ1 ⟨hv1, hS1, hf1, hl1, hw1⟩
      cases hv1
      refine kr_lconst (v := 0) rd_d_X4_putAhead_67 rfl ?_
      refine kr_lstore (lv' := [(10, .long 0), (9, .int t), (8, .int rc), (7, .int wk), (6, .int tk), (5, .int of), (0, .ref 68), (1, .int w), (2, .int mf), (3, .int up), (4, .int kp)]) rd_d_X4_putAhead_68 (by decide) rfl ?_
      refine kr_iconst (v := 0) rd_d_X4_putAhead_70 (by decide) ?_
      refine kr_istore (lv' := [(12, .int 0), (10, .long 0), (9, .int t), (8, .int rc), (7, .int wk), (6, .int tk), (5, .int of), (0, .ref 68), (1, .int w), (2, .int mf), (3, .int up), (4, .int kp)]) rd_d_X4_putAhead_71 (by decide) rfl ?_
      refine ax_frL G b hw hws hz hH hwk1 hU hR hmf eof etk ewk erc ew hTH (CH := CH T) et (hCH T hTH) (R + 1) 0 0 0 σ1 hS1 rfl (by omega) (hC0 T) (by rw [hf1 68 15 (by decide) (by decide)]; exact hu) hw1 (fun y f h1 h2 h3 => by rw [hf1 70 _ (by decide) (by decide)]; exact hrs y f h1 h2 (by omega)) (fun f hf => absurd hf (Nat.not_lt_zero f)) ?_
      intro σ2 fx2 ch2 a1 a2 a3 a4 a5
      have eci := pa_chi eup ew et hup hw (by omega)
      refine kr_aload_n 7 rd_d_X4_putAhead_190 rfl ?_
      refine kr_iload_n 10 rd_d_X4_putAhead_191 rfl ?_
      refine kr_iload_n 8 rd_d_X4_putAhead_192 rfl ?_
      refine kr_iload 2 rd_d_X4_putAhead_193 rfl ?_
      refine rd_callS G (T2 := tX4_choiceIndex) rfl rd_d_X4_putAhead_195 rd_k_X4_putAhead_195 rfl rfl (as := [.int up, .int w, .int t]) (st := [.ref 68]) rfl (Nat.le_of_ble_eq_true rfl) rfl (Nat.le_of_ble_eq_true rfl) (d1 := 1) (by decide) (fun _ h => by cases h.1) (ax_chi G a1 up w t) ?_
      intro v61 σ61 ⟨hv61, hs61⟩
      cases hv61
      rw [hs61]
      refine kr_lload 1 rd_d_X4_putAhead_198 rfl ?_
      refine kr_iload 11 rd_d_X4_putAhead_200 rfl ?_
      refine rd_call G (T2 := tX4_keepChoice) rfl rd_d_X4_putAhead_202 rd_k_X4_putAhead_202 rfl (a1.1 68 (.inl 4) rfl) (as := [.int (ax_f_chi up w t), .long ch2, .int kp]) (st := []) rfl (Nat.le_of_ble_eq_true rfl) rfl (Nat.le_of_ble_eq_true rfl) (d1 := 1) (by decide) (fun _ h => by cases h.1) (ax_kc G a1 eci (by omega)) ?_
      intro v3 σ3 ⟨hv3, hS3, hi3, hl3, hr3⟩
      cases hv3
      refine kr_iinc (v := t + 1) (lv' := [(9, .int (t + 1)), (12, .int fx2), (10, .long ch2), (8, .int rc), (7, .int wk), (6, .int tk), (5, .int of), (0, .ref 68), (1, .int w), (2, .int mf), (3, .int up), (4, .int kp)]) 2 rd_d_X4_putAhead_205 rfl rfl (by decide) rfl ?_
      refine kr_goto (tgt := 45) rd_d_X4_putAhead_208 rfl ?_
      refine kr_sub (lv' := [(9, .int (t + 1)), (8, .int rc), (7, .int wk), (6, .int tk), (5, .int of), (0, .ref 68), (1, .int w), (2, .int mf), (3, .int up), (4, .int kp)]) (by simp) ?_
      have hlo : σ2.2.2.1 = σ.2.2.1 := congrArg Prod.fst (a3.trans hl1)
      refine ih (T + 1) (t + 1) σ3 hS3 (ax_inc et (by omega)) (by omega) (by rw [hl3, hlo]; exact hLM T _ ch2 hTH hlm a4) ?_ ?_ ?_ ?_ ?_ ?_
      · rw [hi3, a2 68 15 (fun q => absurd q.1 (by decide)), hf1 68 15 (by decide) (by decide)]
        exact hu
      · rw [hi3, a2 68 16 (fun q => absurd q.1 (by decide)), hf1 68 16 (by decide) (by decide)]
        exact hh
      · intro x hx
        rw [hi3, a2 69 _ (fun q => absurd q.1 (by decide)), hf1 69 _ (by decide) (by decide)]
        exact hgg x hx
      · intro y f h1 h2 h3
        rw [hi3, a2 70 _ (fun q => by have := q.2; omega), hf1 70 _ (by decide) (by decide)]
        exact hrs y f h1 h2 (by omega)
      · intro y f h1 h2 h3
        rw [hi3]
        by_cases e : y = T
        · subst e; exact a5 f h2
        · rw [a2 70 _ (fun q => by have := q.2; omega), hf1 70 _ (by decide) (by decide)]
          exact hnw y f h1 h2 (by omega)
      · exact fun σ' t2 c1 c2 c3 c4 c5 => kk σ' t2 c1 (fun x y x0 x8 x9 => (c2 x y x0 x8 x9).trans ((congrFun (congrFun hi3 x) y).trans ((a2 x y (fun q => x0 q.1)).trans (hf1 x y x8 x9)))) (c3.trans (hr3.trans ((congrArg Prod.snd a3).trans (congrArg Prod.snd hl1)))) c4 c5
theorem ax_pa (G : sx_G0 g L xs z9 hd_C ex_mt) {σ : am_S} (hS : ax_S σ) {s : Nat → Int32} {ww mfn U H : Nat} {ws : List Nat} {w mf up kp : Int32} (b : pn_B s) (bw : pl_W s) (h : pl_R σ.2.1 4 s) (ew : w.toInt = (ww : Int)) (hW : (ww : Int) < (s 0).toInt) (hws : ∀ v ∈ ws, (v : Int) < (s 0).toInt) (hU : U = min mfn (pv_U (pn_of s) ws)) (emf : mf.toInt = (mfn : Int)) (hmf : mfn ≤ 24) (hg : pg_K s H σ.2.1) (ht : pr_T s ws U H σ.2.1) {UP : Nat} (eup : up.toInt = (UP : Int)) (hup : UP ≤ 1) {CH : Nat → Nat → Int64 → Prop} (hC0 : ∀ T, CH T 0 0) (hCH : ∀ T : Nat, T < H → ∀ (j : Nat) (ch : Int64) (fx fo : Int32), j ≤ min mfn (pv_U (pn_of s) (ww :: ws)) → CH T j ch → fx.toInt = (j : Int) → fo.toInt = ((pn_v s (ww :: ws) T j).2 : Int) → CH T (j + 1) (ch ||| (fo.toInt64 <<< ((2 * fx).toInt64 &&& 63)))) {LM : Nat → (Nat → Nat → Int64) → Prop} (hLM : ∀ (T : Nat) (l : Nat → Nat → Int64) (ch : Int64), T < H → LM T l → CH T (min mfn (pv_U (pn_of s) (ww :: ws)) + 1) ch → LM (T + 1) (if kp = 0 then l else am_up l 72 ((UP * 10 + ww) * 60 + T) ch)) (hL : LM 0 σ.2.2.1) : am_K g 5 tX4_putAhead.1 0 0 0 (lv_args 0 [.ref 68, .int w, .int mf, .int up, .int kp]) [] σ (fun r σ' => r = some none ∧ ax_S σ' ∧ (∀ x y, x ≠ 70 → x ≠ 78 → x ≠ 79 → ¬ (x = 68 ∧ y = 15) → σ'.2.1 x y = σ.2.1 x y) ∧ σ'.2.2.2 = σ.2.2.2 ∧ LM H σ'.2.2.1 ∧ pr_T s (ww :: ws) (min mfn (pv_U (pn_of s) (ww :: ws))) H σ'.2.1) := by
  obtain ⟨r1, r2, r3, hw⟩ := pa_row h b ew hW
  have lim := pn_lim b hw
  obtain ⟨R, hRd⟩ : ∃ R, R = min mfn (U + pn_of s ww) := ⟨_, rfl⟩
  have eR : min mfn (pv_U (pn_of s) (ww :: ws)) = R := by
    show min mfn (pn_of s ww + pv_U (pn_of s) ws) = R
    omega
  rw [eR] at hCH hLM ⊢
  have hwk1 : 1 ≤ pn_wk s := by
    have := bw.2.2
    unfold pn_wk
    omega
  have erc := pa_min emf (ch_add ht.1 r1 (by omega))
  rw [← hRd] at erc
  have hv10 : ∀ v ∈ ws, v < 10 := fun v hv => by
    have := hws v hv
    have := b.1.1.2
    omega
  have hz : ∀ v ∈ ww :: ws, ∀ x, H ≤ x → pn_g s v x = 0 := fun v hv x hx => hg.2.2.1 v x (by
    rcases List.mem_cons.mp hv with e | e
    · rw [e]; exact hW
    · exact hws v e) hx
  refine kr_aload_n 0 rd_d_X4_putAhead_0 rfl ?_
  refine kr_getf G.1 (rd_FL rd_k_X4_putAhead_1).1 rd_d_X4_putAhead_1 (hS.1 68 (.inl 4) rfl) (v := .ref 4) (by unfold am_fa; rw [(rd_FL rd_k_X4_putAhead_1).2]; exact hS.2 68 0 4 rfl) ?_
  refine kr_iload_n 1 rd_d_X4_putAhead_4 rfl ?_
  refine rd_call G (T2 := tX9_oftenOf) rfl rd_d_X4_putAhead_5 rd_k_X4_putAhead_5 rfl (hS.1 4 (.inl 9) rfl) (as := [.int w]) (st := []) rfl (Nat.le_of_ble_eq_true rfl) rfl (Nat.le_of_ble_eq_true rfl) (d1 := 2) (by decide) (fun _ h => by cases h.1) (ax_oft G hS w) ?_
  intro v1 σ1 ⟨hv1, hs1⟩
  cases hv1
  rw [hs1]
  refine kr_istore (lv' := [(5, .int (ax_f_oft σ.2.1 w)), (0, .ref 68), (1, .int w), (2, .int mf), (3, .int up), (4, .int kp)]) rd_d_X4_putAhead_8 (by decide) rfl ?_
  refine kr_aload_n 1 rd_d_X4_putAhead_10 rfl ?_
  refine kr_getf G.1 (rd_FL rd_k_X4_putAhead_11).1 rd_d_X4_putAhead_11 (hS.1 68 (.inl 4) rfl) (v := .ref 4) (by unfold am_fa; rw [(rd_FL rd_k_X4_putAhead_11).2]; exact hS.2 68 0 4 rfl) ?_
  refine kr_iload_n 2 rd_d_X4_putAhead_14 rfl ?_
  refine rd_call G (T2 := tX9_takesOf) rfl rd_d_X4_putAhead_15 rd_k_X4_putAhead_15 rfl (hS.1 4 (.inl 9) rfl) (as := [.int w]) (st := []) rfl (Nat.le_of_ble_eq_true rfl) rfl (Nat.le_of_ble_eq_true rfl) (d1 := 2) (by decide) (fun _ h => by cases h.1) (ax_tak G hS w) ?_
  intro v2 σ2 ⟨hv2, hs2⟩
  cases hv2
  rw [hs2]
  refine kr_istore (lv' := [(6, .int (ax_f_tak σ.2.1 w)), (5, .int (ax_f_oft σ.2.1 w)), (0, .ref 68), (1, .int w), (2, .int mf), (3, .int up), (4, .int kp)]) rd_d_X4_putAhead_18 (by decide) rfl ?_
  refine kr_aload_n 2 rd_d_X4_putAhead_20 rfl ?_
  refine kr_getf G.1 (rd_FL rd_k_X4_putAhead_21).1 rd_d_X4_putAhead_21 (hS.1 68 (.inl 4) rfl) (v := .ref 4) (by unfold am_fa; rw [(rd_FL rd_k_X4_putAhead_21).2]; exact hS.2 68 0 4 rfl) ?_
  refine rd_call G (T2 := tX9_walking) rfl rd_d_X4_putAhead_24 rd_k_X4_putAhead_24 rfl (hS.1 4 (.inl 9) rfl) (as := []) (st := []) rfl (Nat.le_of_ble_eq_true rfl) rfl (Nat.le_of_ble_eq_true rfl) (d1 := 2) (by decide) (fun _ h => by cases h.1) (ax_wal G hS) ?_
  intro v3 σ3 ⟨hv3, hs3⟩
  cases hv3
  rw [hs3]
  refine kr_istore (lv' := [(7, .int (ax_f_wal σ.2.1)), (6, .int (ax_f_tak σ.2.1 w)), (5, .int (ax_f_oft σ.2.1 w)), (0, .ref 68), (1, .int w), (2, .int mf), (3, .int up), (4, .int kp)]) rd_d_X4_putAhead_27 (by decide) rfl ?_
  refine kr_iload_n 5 rd_d_X4_putAhead_29 rfl ?_
  refine kr_aload_n 3 rd_d_X4_putAhead_30 rfl ?_
  refine kr_getf G.1 (rd_FL rd_k_X4_putAhead_31).1 rd_d_X4_putAhead_31 (hS.1 68 (.inl 4) rfl) (v := .int (σ.2.1 68 15)) (by unfold am_fa; rw [(rd_FL rd_k_X4_putAhead_31).2]; rfl) ?_
  refine kr_iload 2 rd_d_X4_putAhead_34 rfl ?_
  refine kr_iadd rd_d_X4_putAhead_36 ?_
  refine kr_mmin G.1 (ex_mem_ok (show ex_mem 262322 (Cond.methodLink tX4_putAhead.1.1.cls 66 Lib.Math.min.name) = true from rd_k_X4_putAhead_37)) rd_d_X4_putAhead_37 (by decide) (Nat.le_of_ble_eq_true rfl) ?_
  show am_K g 5 tX4_putAhead.1 0 0 40 [(7, .int (ax_f_wal σ.2.1)), (6, .int (ax_f_tak σ.2.1 w)), (5, .int (ax_f_oft σ.2.1 w)), (0, .ref 68), (1, .int w), (2, .int mf), (3, .int up), (4, .int kp)] [.int (ax_f_min mf ((σ.2.1 68 15) + (ax_f_oft σ.2.1 w)))] σ _
  refine kr_istore (lv' := [(8, .int (ax_f_min mf ((σ.2.1 68 15) + (ax_f_oft σ.2.1 w)))), (7, .int (ax_f_wal σ.2.1)), (6, .int (ax_f_tak σ.2.1 w)), (5, .int (ax_f_oft σ.2.1 w)), (0, .ref 68), (1, .int w), (2, .int mf), (3, .int up), (4, .int kp)]) rd_d_X4_putAhead_40 (by decide) rfl ?_
  refine kr_iconst (v := 0) rd_d_X4_putAhead_42 (by decide) ?_
  refine kr_istore (lv' := [(9, .int 0), (8, .int (ax_f_min mf ((σ.2.1 68 15) + (ax_f_oft σ.2.1 w)))), (7, .int (ax_f_wal σ.2.1)), (6, .int (ax_f_tak σ.2.1 w)), (5, .int (ax_f_oft σ.2.1 w)), (0, .ref 68), (1, .int w), (2, .int mf), (3, .int up), (4, .int kp)]) rd_d_X4_putAhead_43 (by decide) rfl ?_
  refine ax_tmL G b hw hv10 hz hg.1.1 hwk1 hU hRd hmf r1 r2 r3 erc ew eup hup hC0 hCH hLM H 0 0 σ hS rfl (by omega) hL ht.1 hg.2.1 (fun x hx => hg.2.2.2 ww x hW hx) (fun y f h1 h2 _ => ht.2 y f h1 h2) (fun y f h1 h2 h3 => absurd h3 (Nat.not_lt_zero y)) ?_
  intro σ1 t2 a1 a2 a3 a4 a5
  refine kr_aload_n 5 rd_d_X4_putAhead_211 rfl ?_
  refine kr_iload 1 rd_d_X4_putAhead_212 rfl ?_
  refine ax_putWL G a1 rd_d_X4_putAhead_214 rd_k_X4_putAhead_214 (a1.1 68 (.inl 4) rfl) rfl rfl rfl ?_
  intro τ1 hT1 hw1 hf1 hl1
  have hsτ1 : τ1.2.1 120 = σ1.2.1 120 := (ax_120F hf1 (by decide))
  have hqτ1 : ax_pl τ1.2.1 = ax_pl σ1.2.1 := (ax_plF hf1 (by decide))
  have hLτ1 : τ1.2.2 = σ1.2.2 := hl1
  exact kr_return rd_d_X4_putAhead_217 rfl ⟨rfl, hT1, fun x y x0 x8 x9 hx => (hf1 x y hx).trans (a2 x y x0 x8 x9), (congrArg Prod.snd hLτ1).trans a3, by rw [show τ1.2.2.1 = σ1.2.2.1 from congrArg Prod.fst hLτ1]; exact a4, by rw [hw1]; exact erc, fun y f h1 h2 => by rw [hf1 70 _ (fun q => absurd q.1 (by decide))]; exact a5 y f h1 h2⟩
end AXX
