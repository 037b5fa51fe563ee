/-! texts: length and charAt of the class's literals, over the JDK's own methods -/
abbrev mJ_length : am_M := (yJ0_length_8abf5, cJ0_length_8abf5, 1, some .int, [])
abbrev mJ_charAt : am_M := (yJ0_charAt_5068e, cJ0_charAt_5068e, 2, some .char, [])
abbrev mJ_coder : am_M := (yJ0_coder_7d493, cJ0_coder_7d493, 1, some .byte, [])
abbrev mJ_isLatin1 : am_M := (yJ0_isLatin1_aae02, cJ0_isLatin1_aae02, 1, some .boolean, [])
abbrev mJ_chk : am_M := (yJ0_checkIndex_df160, cJ0_checkIndex_df160, 2, none, [])
abbrev mJ_lat : am_M := (yJ1_charAt_3b067, cJ1_charAt_3b067, 2, some .char, [])
abbrev mJ_pre : am_M := (yJ3_checkIndex_8e157, cJ3_checkIndex_8e157, 3, some .int, [])
theorem mo_length : am_MO mJ_length 0 := ⟨by decide, rfl, by decide +kernel, by decide +kernel, ⟨by decide, by decide⟩, by decide +kernel, by decide⟩
theorem mo_charAt : am_MO mJ_charAt 1 := ⟨by decide, rfl, by decide +kernel, by decide +kernel, ⟨by decide, by decide⟩, by decide +kernel, by decide⟩
theorem mo_coder : am_MO mJ_coder 0 := ⟨by decide, rfl, by decide +kernel, by decide +kernel, ⟨by decide, by decide⟩, by decide +kernel, by decide⟩
theorem mo_isLatin1 : am_MO mJ_isLatin1 0 := ⟨by decide, rfl, by decide +kernel, by decide +kernel, ⟨by decide, by decide⟩, by decide +kernel, by decide⟩
theorem mo_chk : am_MO mJ_chk 2 := ⟨by decide, rfl, by decide +kernel, by decide +kernel, ⟨by decide, by decide⟩, by decide +kernel, by decide⟩
theorem mo_lat : am_MO mJ_lat 2 := ⟨by decide, rfl, by decide +kernel, by decide +kernel, ⟨by decide, by decide⟩, by decide +kernel, by decide⟩
theorem mo_pre : am_MO mJ_pre 3 := ⟨by decide, rfl, by decide +kernel, by decide +kernel, ⟨by decide, by decide⟩, by decide +kernel, by decide⟩
theorem st_w : (Cond.instanceMethod yJ0_length_8abf5 ∈ lw_tbl ∧ Cond.selects RJ0 yJ0_length_8abf5 yJ0_length_8abf5 ∈ lw_tbl ∧ Cond.instanceMethod yJ0_charAt_5068e ∈ lw_tbl ∧ Cond.selects RJ0 yJ0_charAt_5068e yJ0_charAt_5068e ∈ lw_tbl) ∧ (Cond.instanceMethod yJ0_coder_7d493 ∈ lw_tbl ∧ Cond.selects RJ0 yJ0_coder_7d493 yJ0_coder_7d493 ∈ lw_tbl ∧ Cond.methodLink RJ0 335 yJ0_coder_7d493 ∈ lw_tbl) ∧ (Cond.instanceMethod yJ0_isLatin1_aae02 ∈ lw_tbl ∧ Cond.selects RJ0 yJ0_isLatin1_aae02 yJ0_isLatin1_aae02 ∈ lw_tbl ∧ Cond.methodLink RJ0 492 yJ0_isLatin1_aae02 ∈ lw_tbl) := by decide +kernel
theorem st_v : (Cond.static yJ1_charAt_3b067 ∈ lw_tbl ∧ Cond.methodLink RJ0 495 yJ1_charAt_3b067 ∈ lw_tbl) ∧ (Cond.static yJ0_checkIndex_df160 ∈ lw_tbl ∧ Cond.methodLink RJ1 9 yJ0_checkIndex_df160 ∈ lw_tbl) ∧ (Cond.static yJ3_checkIndex_8e157 ∈ lw_tbl ∧ Cond.methodLink RJ0 1059 yJ3_checkIndex_8e157 ∈ lw_tbl) ∧ (Cond.fieldLink RJ0 38 "java/lang/String" "COMPACT_STRINGS" "Z" ∈ lw_tbl ∧ Cond.fieldLink RJ0 15 "java/lang/String" "coder" "B" ∈ lw_tbl ∧ Cond.fieldLink RJ0 9 "java/lang/String" "value" "[B" ∈ lw_tbl ∧ Cond.fieldLink RJ0 1053 "jdk/internal/util/Preconditions" "SIOOBE_FORMATTER" "Ljava/util/function/BiFunction;" ∈ lw_tbl) := by decide +kernel
theorem dJ0_length_8abf5_0 : decode cJ0_length_8abf5 0 = .ok (.aload_n 0, 1) := by decide +kernel
theorem dJ0_length_8abf5_1 : decode cJ0_length_8abf5 1 = .ok (.getfield 9, 3) := by decide +kernel
theorem dJ0_length_8abf5_4 : decode cJ0_length_8abf5 4 = .ok (.arraylength, 1) := by decide +kernel
theorem dJ0_length_8abf5_5 : decode cJ0_length_8abf5 5 = .ok (.aload_n 0, 1) := by decide +kernel
theorem dJ0_length_8abf5_6 : decode cJ0_length_8abf5 6 = .ok (.invokevirtual 335, 3) := by decide +kernel
theorem dJ0_length_8abf5_9 : decode cJ0_length_8abf5 9 = .ok (.ishr, 1) := by decide +kernel
theorem dJ0_length_8abf5_10 : decode cJ0_length_8abf5 10 = .ok (.ireturn, 1) := by decide +kernel
theorem dJ0_charAt_5068e_0 : decode cJ0_charAt_5068e 0 = .ok (.aload_n 0, 1) := by decide +kernel
theorem dJ0_charAt_5068e_1 : decode cJ0_charAt_5068e 1 = .ok (.invokevirtual 492, 3) := by decide +kernel
theorem dJ0_charAt_5068e_4 : decode cJ0_charAt_5068e 4 = .ok (.ifCond .eq 12, 3) := by decide +kernel
theorem dJ0_charAt_5068e_7 : decode cJ0_charAt_5068e 7 = .ok (.aload_n 0, 1) := by decide +kernel
theorem dJ0_charAt_5068e_8 : decode cJ0_charAt_5068e 8 = .ok (.getfield 9, 3) := by decide +kernel
theorem dJ0_charAt_5068e_11 : decode cJ0_charAt_5068e 11 = .ok (.iload_n 1, 1) := by decide +kernel
theorem dJ0_charAt_5068e_12 : decode cJ0_charAt_5068e 12 = .ok (.invokestatic 495, 3) := by decide +kernel
theorem dJ0_charAt_5068e_15 : decode cJ0_charAt_5068e 15 = .ok (.ireturn, 1) := by decide +kernel
theorem dJ0_charAt_5068e_16 : decode cJ0_charAt_5068e 16 = .ok (.aload_n 0, 1) := by decide +kernel
theorem dJ0_charAt_5068e_17 : decode cJ0_charAt_5068e 17 = .ok (.getfield 9, 3) := by decide +kernel
theorem dJ0_charAt_5068e_20 : decode cJ0_charAt_5068e 20 = .ok (.iload_n 1, 1) := by decide +kernel
theorem dJ0_charAt_5068e_21 : decode cJ0_charAt_5068e 21 = .ok (.invokestatic 498, 3) := by decide +kernel
theorem dJ0_charAt_5068e_24 : decode cJ0_charAt_5068e 24 = .ok (.ireturn, 1) := by decide +kernel
theorem dJ0_coder_7d493_0 : decode cJ0_coder_7d493 0 = .ok (.getstatic 38, 3) := by decide +kernel
theorem dJ0_coder_7d493_3 : decode cJ0_coder_7d493 3 = .ok (.ifCond .eq 10, 3) := by decide +kernel
theorem dJ0_coder_7d493_6 : decode cJ0_coder_7d493 6 = .ok (.aload_n 0, 1) := by decide +kernel
theorem dJ0_coder_7d493_7 : decode cJ0_coder_7d493 7 = .ok (.getfield 15, 3) := by decide +kernel
theorem dJ0_coder_7d493_10 : decode cJ0_coder_7d493 10 = .ok (.goto 4, 3) := by decide +kernel
theorem dJ0_coder_7d493_13 : decode cJ0_coder_7d493 13 = .ok (.iconst 1, 1) := by decide +kernel
theorem dJ0_coder_7d493_14 : decode cJ0_coder_7d493 14 = .ok (.ireturn, 1) := by decide +kernel
theorem dJ0_isLatin1_aae02_0 : decode cJ0_isLatin1_aae02 0 = .ok (.getstatic 38, 3) := by decide +kernel
theorem dJ0_isLatin1_aae02_3 : decode cJ0_isLatin1_aae02 3 = .ok (.ifCond .eq 14, 3) := by decide +kernel
theorem dJ0_isLatin1_aae02_6 : decode cJ0_isLatin1_aae02 6 = .ok (.aload_n 0, 1) := by decide +kernel
theorem dJ0_isLatin1_aae02_7 : decode cJ0_isLatin1_aae02 7 = .ok (.getfield 15, 3) := by decide +kernel
theorem dJ0_isLatin1_aae02_10 : decode cJ0_isLatin1_aae02 10 = .ok (.ifCond .ne 7, 3) := by decide +kernel
theorem dJ0_isLatin1_aae02_13 : decode cJ0_isLatin1_aae02 13 = .ok (.iconst 1, 1) := by decide +kernel
theorem dJ0_isLatin1_aae02_14 : decode cJ0_isLatin1_aae02 14 = .ok (.goto 4, 3) := by decide +kernel
theorem dJ0_isLatin1_aae02_17 : decode cJ0_isLatin1_aae02 17 = .ok (.iconst 0, 1) := by decide +kernel
theorem dJ0_isLatin1_aae02_18 : decode cJ0_isLatin1_aae02 18 = .ok (.ireturn, 1) := by decide +kernel
theorem dJ0_checkIndex_df160_0 : decode cJ0_checkIndex_df160 0 = .ok (.iload_n 0, 1) := by decide +kernel
theorem dJ0_checkIndex_df160_1 : decode cJ0_checkIndex_df160 1 = .ok (.iload_n 1, 1) := by decide +kernel
theorem dJ0_checkIndex_df160_2 : decode cJ0_checkIndex_df160 2 = .ok (.getstatic 1053, 3) := by decide +kernel
theorem dJ0_checkIndex_df160_5 : decode cJ0_checkIndex_df160 5 = .ok (.invokestatic 1059, 3) := by decide +kernel
theorem dJ0_checkIndex_df160_8 : decode cJ0_checkIndex_df160 8 = .ok (.pop, 1) := by decide +kernel
theorem dJ0_checkIndex_df160_9 : decode cJ0_checkIndex_df160 9 = .ok (.return_, 1) := by decide +kernel
theorem dJ1_charAt_3b067_0 : decode cJ1_charAt_3b067 0 = .ok (.iload_n 1, 1) := by decide +kernel
theorem dJ1_charAt_3b067_1 : decode cJ1_charAt_3b067 1 = .ok (.aload_n 0, 1) := by decide +kernel
theorem dJ1_charAt_3b067_2 : decode cJ1_charAt_3b067 2 = .ok (.arraylength, 1) := by decide +kernel
theorem dJ1_charAt_3b067_3 : decode cJ1_charAt_3b067 3 = .ok (.invokestatic 9, 3) := by decide +kernel
theorem dJ1_charAt_3b067_6 : decode cJ1_charAt_3b067 6 = .ok (.aload_n 0, 1) := by decide +kernel
theorem dJ1_charAt_3b067_7 : decode cJ1_charAt_3b067 7 = .ok (.iload_n 1, 1) := by decide +kernel
theorem dJ1_charAt_3b067_8 : decode cJ1_charAt_3b067 8 = .ok (.baload, 1) := by decide +kernel
theorem dJ1_charAt_3b067_9 : decode cJ1_charAt_3b067 9 = .ok (.sipush 255, 3) := by decide +kernel
theorem dJ1_charAt_3b067_12 : decode cJ1_charAt_3b067 12 = .ok (.iand, 1) := by decide +kernel
theorem dJ1_charAt_3b067_13 : decode cJ1_charAt_3b067 13 = .ok (.i2c, 1) := by decide +kernel
theorem dJ1_charAt_3b067_14 : decode cJ1_charAt_3b067 14 = .ok (.ireturn, 1) := by decide +kernel
theorem dJ3_checkIndex_8e157_0 : decode cJ3_checkIndex_8e157 0 = .ok (.iload_n 0, 1) := by decide +kernel
theorem dJ3_checkIndex_8e157_1 : decode cJ3_checkIndex_8e157 1 = .ok (.ifCond .lt 8, 3) := by decide +kernel
theorem dJ3_checkIndex_8e157_4 : decode cJ3_checkIndex_8e157 4 = .ok (.iload_n 0, 1) := by decide +kernel
theorem dJ3_checkIndex_8e157_5 : decode cJ3_checkIndex_8e157 5 = .ok (.iload_n 1, 1) := by decide +kernel
theorem dJ3_checkIndex_8e157_6 : decode cJ3_checkIndex_8e157 6 = .ok (.if_icmp .lt 10, 3) := by decide +kernel
theorem dJ3_checkIndex_8e157_9 : decode cJ3_checkIndex_8e157 9 = .ok (.aload_n 2, 1) := by decide +kernel
theorem dJ3_checkIndex_8e157_10 : decode cJ3_checkIndex_8e157 10 = .ok (.iload_n 0, 1) := by decide +kernel
theorem dJ3_checkIndex_8e157_11 : decode cJ3_checkIndex_8e157 11 = .ok (.iload_n 1, 1) := by decide +kernel
theorem dJ3_checkIndex_8e157_12 : decode cJ3_checkIndex_8e157 12 = .ok (.invokestatic 95, 3) := by decide +kernel
theorem dJ3_checkIndex_8e157_15 : decode cJ3_checkIndex_8e157 15 = .ok (.athrow, 1) := by decide +kernel
theorem dJ3_checkIndex_8e157_16 : decode cJ3_checkIndex_8e157 16 = .ok (.iload_n 0, 1) := by decide +kernel
theorem dJ3_checkIndex_8e157_17 : decode cJ3_checkIndex_8e157 17 = .ok (.ireturn, 1) := by decide +kernel
abbrev st_A (g : am_C) : Nat → Prop := fun q => am_b0 g ≤ q
/-- what is known of a literal: where it lies (number k), its bytes (number 500000 + k), how many (n) -/
def st_S (g : am_C) (k n : Nat) : Prop := va_O "java/lang/String" (g.2.2.2.2.2.1 k) (st_A g) g.2.1 g.2.1.heap ∧ va_OF "java/lang/String" "coder" "B" (.int 0) (g.2.2.2.2.2.1 k) (st_A g) g.2.1 g.2.1.heap ∧ va_OF "java/lang/String" "value" "[B" (.ref (g.2.2.2.2.2.1 (500000 + k))) (g.2.2.2.2.2.1 k) (st_A g) g.2.1 g.2.1.heap ∧ n < 2 ^ 31 ∧ va_T .byte (g.2.2.2.2.2.1 (500000 + k)) n (fun j => .int (st_tx k j)) (st_A g) g.2.1 g.2.1.heap
def st_G (g : am_C) : Prop := (∀ k n, (k, n) ∈ sx_sll → st_S g k n) ∧ va_Z "java/lang/String" "COMPACT_STRINGS" "Z" (.int 1) (st_A g) g.2.1 g.2.1.heap ∧ ∃ w : Value, (w = .null ∨ w = .retAddr 499999) ∧ va_Z "jdk/internal/util/Preconditions" "SIOOBE_FORMATTER" "Ljava/util/function/BiFunction;" (am_rel g w) (st_A g) g.2.1 g.2.1.heap
section KST
variable {g : am_C} {d : Nat} {M M1 : am_M} {mc ms pc d1 n idx : Nat} {lv : List (Nat × Value)} {st stk as : List Value} {σ : am_S} {post post1 : Option (Option Value) → am_S → Prop}
theorem kr_getfX (G : am_G g) {k : Nat} {nm ds : String} {v : Value} (hE : va_OF "java/lang/String" nm ds (am_rel g v) (g.2.2.2.2.2.1 k) (st_A g) g.2.1 g.2.1.heap) (hlk : Cond.fieldLink M.1.cls idx "java/lang/String" nm ds ∈ lw_tbl) (hd : decode M.2.1 pc = .ok (.getfield idx, 3)) (kk : am_K g d M mc ms (pc + 3) lv (v :: st) σ post) : am_K g d M mc ms pc lv (.retAddr k :: st) σ post := by
  intro p e R s m args below meth c H locs cells slots ls F h1 h2 h3 h4 hR hL hl
  obtain ⟨cf, kf, fi, f, cell, e1, e2, e3, e4, e5, e6⟩ := va_OF.moved F.2.2.2.2.2.2.1.alike hE
  exact W.getf F.1 F.2.1 F.2.2.2.2.2.1 (am_w G F.2.2.2.2.2.2.1 args hlk rfl) e1 e2 (by rw [hR.2.2.1 _ (Nat.not_le.mp e6)]; exact e3) e4 (v := am_rel g v) e5 rfl rfl hd (kk p e R s m args below meth c H locs cells slots ls F h1 h2 h3 h4 hR hL hl)
theorem kr_getsX (G : am_G g) {C nm ds : String} {v : Value} (hZ : va_Z C nm ds (am_rel g v) (st_A g) g.2.1 g.2.1.heap) (hlk : Cond.fieldLink M.1.cls idx C nm ds ∈ lw_tbl) (hd : decode M.2.1 pc = .ok (.getstatic idx, 3)) (kk : am_K g d M mc ms (pc + 3) lv (v :: st) σ post) : am_K g d M mc ms pc lv st σ post := by
  intro p e R s m args below meth c H locs cells slots ls F h1 h2 h3 h4 hR hL hl
  obtain ⟨cf, kf, fi, f, a, cell, z1, z2, z3, z4, z5, z6, z7, z8⟩ := va_Z.moved F.2.2.2.2.2.2.1.alike hZ
  exact W.gets F.1 F.2.1 F.2.2.2.2.2.1 (am_w G F.2.2.2.2.2.2.1 args hlk rfl) z1 z2 z3 z4 (by rw [hR.2.2.1 a (Nat.not_le.mp z8)]; exact z5) (fun q => by rw [q] at z6; cases z6) z7 rfl hd (kk p e R s m args below meth c H locs cells slots ls F h1 h2 h3 h4 hR hL hl)
theorem kr_alenBX {k n : Nat} {f : Nat → Value} (hT : va_T .byte (g.2.2.2.2.2.1 k) n f (st_A g) g.2.1 g.2.1.heap) (hd : decode M.2.1 pc = .ok (.arraylength, 1)) (kk : am_K g d M mc ms (pc + 1) lv (.int (nI n) :: st) σ post) : am_K g d M mc ms pc lv (.retAddr k :: st) σ post := by
  intro p e R s m args below meth c H locs cells slots ls F h1 h2 h3 h4 hR hL hl
  obtain ⟨cell, a1, a2, a3, a4, a5, a6, a7⟩ := va_T.moved F.2.2.2.2.2.2.1.alike hT
  exact W.alen (n := nI n) F.1 F.2.1 (by rw [hR.2.2.1 _ (Nat.not_le.mp a7)]; exact a1) a2 a5 rfl rfl hd (kk p e R s m args below meth c H locs cells slots ls F h1 h2 h3 h4 hR hL hl)
theorem kr_baldX {k n : Nat} {f : Nat → Int32} {i : Int32} (hT : va_T .byte (g.2.2.2.2.2.1 k) n (fun j => .int (f j)) (st_A g) g.2.1 g.2.1.heap) (hd : decode M.2.1 pc = .ok (.baload, 1)) (hin : vp_in i n) (kk : am_K g d M mc ms (pc + 1) lv (.int (f i.toNatClampNeg) :: st) σ post) : am_K g d M mc ms pc lv (.int i :: .retAddr k :: st) σ post := by
  intro p e R s m args below meth c H locs cells slots ls F h1 h2 h3 h4 hR hL hl
  obtain ⟨cell, a1, a2, a3, a4, a5, a6, a7⟩ := va_T.moved F.2.2.2.2.2.2.1.alike hT
  exact W.bald (v := .int (f i.toNatClampNeg)) F.1 F.2.1 (by rw [hR.2.2.1 _ (Nat.not_le.mp a7)]; exact a1) a2 a3 (fun q => hin (q.elim Or.inl (fun q => Or.inr (Nat.le_trans a4 q)))) (a6 _ (Nat.not_le.mp fun q => hin (Or.inr q))) rfl rfl hd (kk p e R s m args below meth c H locs cells slots ls F h1 h2 h3 h4 hR hL hl)
theorem kr_i2c {x v : Int32} (hd : decode M.2.1 pc = .ok (.i2c, 1)) (hv : (x.toUInt32 % 65536).toInt32 = v) (kk : am_K g d M mc ms (pc + 1) lv (.int v :: st) σ post) : am_K g d M mc ms pc lv (.int x :: st) σ post := by
  intro p e R s m args below meth c H locs cells slots ls F h1 h2 h3 h4 hR hL hl
  exact lv_i2c F.1 F.2.1 hd hv (kk p e R s m args below meth c H locs cells slots ls F h1 h2 h3 h4 hR hL hl)
theorem kr_callVX (G : am_G g) {k : Nat} (hr : va_O M1.1.cls (g.2.2.2.2.2.1 k) (st_A g) g.2.1 g.2.1.heap) (hO : am_MO M1 n) (hs : Cond.instanceMethod M1.1 ∈ lw_tbl) (hsel : Cond.selects M1.1.cls M1.1 M1.1 ∈ lw_tbl) (hlk : Cond.methodLink M.1.cls idx M1.1 ∈ lw_tbl) (hd : decode M.2.1 pc = .ok (.invokevirtual idx, 3)) (hn : as.length = n) (hlen : (lg_sl (.retAddr k :: as)).length ≤ M1.2.2.1) (hst : stk = as.reverse ++ .retAddr k :: st) (hroom : (st.map fun v => v.category).sum ≤ 8) (hd1 : d1 + 1 ≤ d) (hnt : ∀ σ', ¬ post1 none σ') (k1 : am_K g d1 M1 0 0 0 (lv_args 0 (.retAddr k :: as)) [] σ post1) (kk : ∀ v σ', post1 (some v) σ' → am_K g d M mc ms (pc + 3) lv (v.toList ++ st) σ' post) : am_K g d M mc ms pc lv stk σ post := by
  have key : am_K g d M (0 + mc) (0 + ms) pc lv stk σ post := by
    intro p e R s m args below meth c H locs cells slots ls F h1 h2 h3 h4 hR hL hl
    have hW := F.2.2.2.2.2.2.1
    have cb := am_cb (mc1 := 0) (ms1 := 0) (M1 := M1) G hW hO hd1 h1 h2 args
    obtain ⟨cell, c1, c2, c3, c4⟩ := va_O.moved hW.alike hr
    have hpv : PreV s H M1.1.cls (g.2.2.2.2.2.1 k) (am_Pc g (.retAddr k :: as) σ) (as.map (am_rel g)) := ⟨am_blind g _ σ, ⟨cell, by rw [hR.2.2.1 _ (Nat.not_le.mp c4)]; exact c1, c2, c3⟩, (am_ps hW hR).2⟩
    have hst' : (F0 m pc ls (stk.map (am_rel g))).stack = (as.map (am_rel g)).reverse ++ .ref (g.2.2.2.2.2.1 k) :: st.map (am_rel g) := by
      show stk.map (am_rel g) = _
      rw [hst, List.map_append, List.map_reverse]
      rfl
    refine am_after (a9 := (Value.ref (g.2.2.2.2.2.1 k) :: as.map (am_rel g)).toArray) F h1 h2 h3 h4 hL hl ?_ kk
    exact va_runV (Ts := am_T) ⟨F.1, F.2.1, F.2.2.1, F.2.2.2.2.2.1, am_hts G hW args⟩ (am_met hO hlen hnt k1) ⟨⟨cb.1, cb.2.1, cb.2.2.1, cb.2.2.2.1, cb.2.2.2.2.1, cb.2.2.2.2.2.1, cb.2.2.2.2.2.2.1, cb.2.2.2.2.2.2.2.1, cb.2.2.2.2.2.2.2.2.1, cb.2.2.2.2.2.2.2.2.2, am_w G hW args hlk rfl⟩, am_w G hW args hs rfl, am_w G hW args hsel rfl⟩ hpv rfl (by rw [List.length_map]; exact hn) hl.1 hst' (am_rest hroom) hd ⟨by omega, by omega⟩
  rw [Nat.zero_add, Nat.zero_add] at key
  exact key
theorem jk_pre {i n : Int32} {w : Value} (h0 : ¬ i < 0) (h1 : i < n) : am_K g 0 mJ_pre 0 0 0 [(0, .int i), (1, .int n), (2, w)] [] σ (am_to (some (.int i)) σ) := by
  refine kr_iload_n 0 dJ3_checkIndex_8e157_0 rfl ?_
  refine kr_if_lt (tgt := 9) dJ3_checkIndex_8e157_1 rfl (fun h => absurd h h0) (fun _ => ?_)
  refine kr_iload_n 0 dJ3_checkIndex_8e157_4 rfl ?_
  refine kr_iload_n 1 dJ3_checkIndex_8e157_5 rfl ?_
  refine kr_icmp_lt (tgt := 16) dJ3_checkIndex_8e157_6 rfl (fun _ => ?_) (fun h => absurd h1 h)
  refine kr_iload_n 0 dJ3_checkIndex_8e157_16 rfl ?_
  exact kr_ireturn (ty := .int) dJ3_checkIndex_8e157_17 rfl rfl ⟨rfl, rfl⟩
theorem jk_chk (G : am_G g) (S : st_G g) {i n : Int32} (h0 : ¬ i < 0) (h1 : i < n) : am_K g 1 mJ_chk 0 0 0 [(0, .int i), (1, .int n)] [] σ (am_to none σ) := by
  obtain ⟨w, hw, hZ⟩ := S.2.2
  refine kr_iload_n 0 dJ0_checkIndex_df160_0 rfl ?_
  refine kr_iload_n 1 dJ0_checkIndex_df160_1 rfl ?_
  refine kr_getsX G hZ st_v.2.2.2.2.2.2 dJ0_checkIndex_df160_2 ?_
  have e1 : lv_args 0 [.int i, .int n, w] = [(0, .int i), (1, .int n), (2, w)] := by
    rcases hw with rfl | rfl <;> rfl
  refine kr_callS (mc := 0) (ms := 0) (mc1 := 0) (ms1 := 0) (M1 := mJ_pre) (as := [.int i, .int n, w]) (st := []) (d1 := 0) (post1 := am_to (some (.int i)) σ) G mo_pre st_v.2.2.1.1 (Or.inl st_v.2.2.1.2) dJ0_checkIndex_df160_5 rfl (by rcases hw with rfl | rfl <;> exact Nat.le_of_ble_eq_true rfl) rfl (Nat.le_of_ble_eq_true rfl) (by decide) (am_to_nt _ _) (by rw [e1]; exact jk_pre h0 h1) (am_toK ?_)
  refine kr_pop dJ0_checkIndex_df160_8 rfl ?_
  exact kr_return dJ0_checkIndex_df160_9 rfl ⟨rfl, rfl⟩
theorem jk_lat (G : am_G g) (S : st_G g) {k n : Nat} {i : Int32} (hn : n < 2 ^ 31) {f : Nat → Int32} (hT : va_T .byte (g.2.2.2.2.2.1 k) n (fun j => .int (f j)) (st_A g) g.2.1 g.2.1.heap) (hin : vp_in i n) : am_K g 2 mJ_lat 0 0 0 [(0, .retAddr k), (1, .int i)] [] σ (am_to (some (.int (f i.toNatClampNeg &&& 255))) σ) := by
  have h0 : ¬ i < 0 := fun h => hin (Or.inl h)
  have h1 : i < nI n := by
    have h2 : i.toNatClampNeg < n := Nat.not_le.mp fun q => hin (Or.inr q)
    obtain ⟨m, hm, rfl⟩ := nI_of h0
    rw [nI_clamp hm] at h2
    exact nI_lt h2 hn
  refine kr_iload_n 1 dJ1_charAt_3b067_0 rfl ?_
  refine kr_aXload_n 0 dJ1_charAt_3b067_1 rfl ?_
  refine kr_alenBX hT dJ1_charAt_3b067_2 ?_
  refine kr_callS (mc := 0) (ms := 0) (mc1 := 0) (ms1 := 0) (M1 := mJ_chk) (as := [.int i, .int (nI n)]) (st := []) (d1 := 1) (post1 := am_to none σ) G mo_chk st_v.2.1.1 (Or.inl st_v.2.1.2) dJ1_charAt_3b067_3 rfl (Nat.le_of_ble_eq_true rfl) rfl (Nat.le_of_ble_eq_true rfl) (by decide) (am_to_nt _ _) (jk_chk G S h0 h1) (am_toK ?_)
  refine kr_aXload_n 0 dJ1_charAt_3b067_6 rfl ?_
  refine kr_iload_n 1 dJ1_charAt_3b067_7 rfl ?_
  refine kr_baldX hT dJ1_charAt_3b067_8 hin ?_
  refine kr_sipush dJ1_charAt_3b067_9 (v := 255) rfl ?_
  refine kr_iand dJ1_charAt_3b067_12 ?_
  refine kr_i2c dJ1_charAt_3b067_13 (sc_c2 _) ?_
  exact kr_ireturn (ty := .char) dJ1_charAt_3b067_14 rfl (sc_nar _) ⟨rfl, rfl⟩
theorem jk_isLatin1 (G : am_G g) (S : st_G g) {k n : Nat} (h : st_S g k n) : am_K g 0 mJ_isLatin1 0 0 0 [(0, .retAddr k)] [] σ (am_to (some (.int 1)) σ) := by
  refine kr_getsX (v := .int 1) G S.2.1 st_v.2.2.2.1 dJ0_isLatin1_aae02_0 ?_
  refine kr_if_eq (tgt := 17) dJ0_isLatin1_aae02_3 rfl (fun h => absurd h (by decide)) (fun _ => ?_)
  refine kr_aXload_n 0 dJ0_isLatin1_aae02_6 rfl ?_
  refine kr_getfX (v := .int 0) G h.2.1 st_v.2.2.2.2.1 dJ0_isLatin1_aae02_7 ?_
  refine kr_if_ne (tgt := 17) dJ0_isLatin1_aae02_10 rfl (fun h => absurd rfl h) (fun _ => ?_)
  refine kr_iconst dJ0_isLatin1_aae02_13 (v := 1) rfl ?_
  refine kr_goto (tgt := 18) dJ0_isLatin1_aae02_14 rfl ?_
  exact kr_ireturn (ty := .boolean) dJ0_isLatin1_aae02_18 rfl rfl ⟨rfl, rfl⟩
theorem jk_coder (G : am_G g) (S : st_G g) {k n : Nat} (h : st_S g k n) : am_K g 0 mJ_coder 0 0 0 [(0, .retAddr k)] [] σ (am_to (some (.int 0)) σ) := by
  refine kr_getsX (v := .int 1) G S.2.1 st_v.2.2.2.1 dJ0_coder_7d493_0 ?_
  refine kr_if_eq (tgt := 13) dJ0_coder_7d493_3 rfl (fun h => absurd h (by decide)) (fun _ => ?_)
  refine kr_aXload_n 0 dJ0_coder_7d493_6 rfl ?_
  refine kr_getfX (v := .int 0) G h.2.1 st_v.2.2.2.2.1 dJ0_coder_7d493_7 ?_
  refine kr_goto (tgt := 14) dJ0_coder_7d493_10 rfl ?_
  exact kr_ireturn (ty := .byte) dJ0_coder_7d493_14 rfl rfl ⟨rfl, rfl⟩
theorem jk_length (G : am_G g) (S : st_G g) {k n : Nat} (h : st_S g k n) : am_K g 1 mJ_length 0 0 0 [(0, .retAddr k)] [] σ (am_to (some (.int (nI n))) σ) := by
  have hT := h.2.2.2.2
  refine kr_aXload_n 0 dJ0_length_8abf5_0 rfl ?_
  refine kr_getfX (v := .retAddr (500000 + k)) G h.2.2.1 st_v.2.2.2.2.2.1 dJ0_length_8abf5_1 ?_
  refine kr_alenBX hT dJ0_length_8abf5_4 ?_
  refine kr_aXload_n 0 dJ0_length_8abf5_5 rfl ?_
  refine kr_callVX (M1 := mJ_coder) (as := []) (st := [.int (nI n)]) (d1 := 0) (post1 := am_to (some (.int 0)) σ) G h.1 mo_coder st_w.2.1.1 st_w.2.1.2.1 st_w.2.1.2.2 dJ0_length_8abf5_6 rfl (Nat.le_of_ble_eq_true rfl) rfl (Nat.le_of_ble_eq_true rfl) (by decide) (am_to_nt _ _) (jk_coder G S h) (am_toK ?_)
  refine kr_ishr dJ0_length_8abf5_9 ?_
  rw [sc_shr0 h.2.2.2.1]
  exact kr_ireturn (ty := .int) dJ0_length_8abf5_10 rfl rfl ⟨rfl, rfl⟩
theorem jk_charAt (G : am_G g) (S : st_G g) {k n : Nat} (h : st_S g k n) {i : Int32} (hin : vp_in i n) : am_K g 3 mJ_charAt 0 0 0 [(0, .retAddr k), (1, .int i)] [] σ (am_to (some (.int (st_tx k i.toNatClampNeg &&& 255))) σ) := by
  have hT := h.2.2.2.2
  refine kr_aXload_n 0 dJ0_charAt_5068e_0 rfl ?_
  refine kr_callVX (M1 := mJ_isLatin1) (as := []) (st := []) (d1 := 0) (post1 := am_to (some (.int 1)) σ) G h.1 mo_isLatin1 st_w.2.2.1 st_w.2.2.2.1 st_w.2.2.2.2 dJ0_charAt_5068e_1 rfl (Nat.le_of_ble_eq_true rfl) rfl (Nat.le_of_ble_eq_true rfl) (by decide) (am_to_nt _ _) (jk_isLatin1 G S h) (am_toK ?_)
  refine kr_if_eq (tgt := 16) dJ0_charAt_5068e_4 rfl (fun h => absurd h (by decide)) (fun _ => ?_)
  refine kr_aXload_n 0 dJ0_charAt_5068e_7 rfl ?_
  refine kr_getfX (v := .retAddr (500000 + k)) G h.2.2.1 st_v.2.2.2.2.2.1 dJ0_charAt_5068e_8 ?_
  refine kr_iload_n 1 dJ0_charAt_5068e_11 rfl ?_
  refine kr_callS (mc := 0) (ms := 0) (mc1 := 0) (ms1 := 0) (M1 := mJ_lat) (as := [.retAddr (500000 + k), .int i]) (st := []) (d1 := 2) (post1 := am_to (some (.int (st_tx k i.toNatClampNeg &&& 255))) σ) G mo_lat st_v.1.1 (Or.inl st_v.1.2) dJ0_charAt_5068e_12 rfl (Nat.le_of_ble_eq_true rfl) rfl (Nat.le_of_ble_eq_true rfl) (by decide) (am_to_nt _ _) (jk_lat G S h.2.2.2.1 hT hin) (am_toK ?_)
  exact kr_ireturn (ty := .char) dJ0_charAt_5068e_15 rfl (sc_nar _) ⟨rfl, rfl⟩
theorem st_ok (G : am_G g) (S : st_G g) : sx_StrOk g := by
  refine ⟨fun d M mc ms pc lv st σ post idx k n hm hlk hd h5 hroom kk => ?_, fun d M mc ms pc lv st σ post idx k n i hm hlk hd h5 hroom hin kk => ?_⟩
  · have h := S.1 k n hm
    exact kr_callVX (M1 := mJ_length) (as := []) (st := st) (d1 := 1) (post1 := am_to (some (.int (nI n))) σ) G h.1 mo_length st_w.1.1 st_w.1.2.1 hlk hd rfl (Nat.le_of_ble_eq_true rfl) rfl hroom (by omega) (am_to_nt _ _) (jk_length G S h) (am_toK kk)
  · have h := S.1 k n hm
    exact kr_callVX (M1 := mJ_charAt) (as := [.int i]) (st := st) (d1 := 3) (post1 := am_to (some (.int (st_tx k i.toNatClampNeg &&& 255))) σ) G h.1 mo_charAt st_w.1.2.2.1 st_w.1.2.2.2 hlk hd rfl (Nat.le_of_ble_eq_true rfl) rfl hroom (by omega) (am_to_nt _ _) (jk_charAt G S h hin) (am_toK kk)
end KST
