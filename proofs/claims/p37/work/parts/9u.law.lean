/-! the law's loop, turn by turn (written by a program) -/
noncomputable def sx_contra (fa : sx_Fa) : Bool := sx_any fa fun l lo hi => (ex_fI (1 - lo) fun c => sx_leq0 fa (c, l)) || (sx_negA l fun m => ex_fI (hi + 1) fun c => sx_leq0 fa (c, m))
theorem sx_contra_ok {env : List Int} {fa : sx_Fa} (hp : sx_P env fa) (h : sx_contra fa = true) : False := by
  obtain ⟨l, lo, hi, v, e1, e2, e3, e4⟩ := sx_any_ok hp h
  rcases (Bool.or_eq_true _ _).mp e4 with h1 | h1
  · rw [ex_fI_eq] at h1
    have := sx_leq0_ok hp (sx_ev_of (e := (1 - lo, l)) e1) h1
    simp only at this
    omega
  · obtain ⟨m, h2, h3⟩ := sx_negA_ok h1
    rw [ex_fI_eq] at h2
    have := sx_leq0_ok hp (sx_ev_of (e := (hi + 1, m)) (h3 env _ e1)) h2
    simp only at this
    omega
def lw_refs : sx_L := [(0, .inr (some (true, 0))), (1, .inr (some (false, 0))), (2, .inr (some (false, 118))), (3, .inr (some (false, 138)))]
def lw_fa : sx_Fa := [([(.ofNat 1, 0)], .ofNat 0, .ofNat 3072), ([(.ofNat 1, 1)], .ofNat 0, .ofNat 3078), ([(.ofNat 1, 2)], sx_lo, sx_up), ([(.ofNat 1, 3)], sx_lo, sx_up), ([(.ofNat 1, 4)], sx_lo, sx_up), ([(.ofNat 1, 5)], sx_lo, sx_up), ([(.ofNat 1, 6)], sx_lo, sx_up), ([(.ofNat 1, 7)], sx_lo, sx_up), ([(.ofNat 1, 8)], .ofNat 0, .ofNat 940), ([(.ofNat 1, 9)], .ofNat 0, .ofNat 940), ([(.ofNat 1, 8), (.negSucc 0, 9)], .ofNat 0, .ofNat 0)]
def lw_tr : sx_Tr := [(65537, sx_w 8), (7733250, sx_w 9)]
noncomputable def lw_pr (me : sx_Me) (kx km : Nat) : Bool := sx_rdk z9 me kx fun me ex => sx_rdk z9 me km fun me em => (sx_lin (-1) em ex fun d => sx_inx me.2.2.2.2 d 0 0) || sx_contra me.2.2.2.2
theorem lw_pr_ok {Cs : Nat → am_S → Prop} {σe σ : am_S} {env : List Int} {me : sx_Me} (hZ : sx_Zok z9) (hr : sx_R z9 Cs σe env me σ) {kx km : Nat} (h : lw_pr me kx km = true) : σ.2.1 (kx / 65536) (kx % 65536) = σ.2.1 (km / 65536) (km % 65536) := by
  obtain ⟨e1, me1, f1, g1, g2, g3⟩ := sx_rdk_ok hZ hr h
  obtain ⟨e2, me2, f2, j1, j2, j3⟩ := sx_rdk_ok hZ g1 g3
  rcases (Bool.or_eq_true _ _).mp j3 with k1 | k1
  · obtain ⟨r, r1, r2⟩ := sx_lin_ok k1
    have r3 := sx_inx_ok j1.2.2.1 (r2 _ _ _ j2 (sx_ev_app e2 g2)) r1
    refine Int32.toInt_inj.mp ?_
    have r4 : -1 * (σ.2.1 (km / 65536) (km % 65536)).toInt + (σ.2.1 (kx / 65536) (kx % 65536)).toInt = 0 := Int.le_antisymm r3.2 r3.1
    omega
  · exact (sx_contra_ok j1.2.2.1 k1).elim
noncomputable def lw_F (d : Nat) (lv : sx_L) (st : List sx_V) (me : sx_Me) : Bool := Nat.ble 100 d && (st.isEmpty && (me.2.2.1.beq 0 && (sx_refs lv lw_refs && ((match sx_fnd lv 4 with
  | some (.inl e) => sx_ieq e.1 6 && (sx_sameA e.2 [(.ofNat 1, 1)] && sx_lin (-1) (sx_w 0) e fun d => sx_leq me.2.2.2.2 d)
  | _ => false) && (lw_pr me 65537 7733250 && (!(sx_bit me.2.1 19) && (!(sx_bit me.2.1 406) && (Nat.land me.2.1 lw_mP).beq 0)))))))
noncomputable def lw_G (d : Nat) (lv : sx_L) (st : List sx_V) (me : sx_Me) : Bool := Nat.ble 100 d && (st.isEmpty && (me.2.2.1.beq 0 && (me.2.1.beq 0 && (sx_refs lv lw_refs && (match sx_fnd lv 4 with
  | some (.inl e) => sx_ieq e.1 0 && (sx_sameA e.2 [(.ofNat 1, 1)] && sx_lin (-1) (sx_w 0) (6, [(.ofNat 1, 1)]) fun d => sx_leq me.2.2.2.2 d)
  | _ => false)))))
noncomputable def lw_H : sx_Hk := fun pc => bif pc.beq 23 then some lw_F else bif pc.beq 228 then some lw_G else bif pc.beq 326 then some lw_G else bif pc.beq 1465 then some lw_G else bif pc.beq 1490 then some lw_G else bif pc.beq 796 then some lw_G else bif pc.beq 860 then some lw_G else bif pc.beq 885 then some lw_G else bif pc.beq 922 then some lw_G else bif pc.beq 935 then some lw_G else bif pc.beq 987 then some lw_G else bif pc.beq 1125 then some lw_G else bif pc.beq 1277 then some lw_G else bif pc.beq 1303 then some lw_G else bif pc.beq 1340 then some lw_G else none
noncomputable def lw_R (v : Option sx_V) (me : sx_Me) : Bool := (match v with
  | some (.inl (c, [])) => sx_ieq c 1
  | _ => false) || sx_contra me.2.2.2.2
noncomputable def lw_run : Bool := sx_run z9 ex_mt k9 100 (some 0) lw_R lw_H 90 tL_law [] 23 100 1 6 ((4, .inl (sx_w 1)) :: lw_refs) [] [] (10, 0, 0, lw_tr, lw_fa)
theorem lw_one : lw_run = true := by decide +kernel
abbrev lw_lw (i : Nat) : List (Nat × Value) := [(4, .int (Int32.ofNat i)), (0, .retAddr 0), (1, .ref 0), (2, .ref 118), (3, .ref 138)]
abbrev lw_env (L : Nat) (xs : Nat → Int32) (i : Nat) (a0 : Int) : List Int := [(L : Int), (i : Int), (xs (i + 0)).toInt, (xs (i + 1)).toInt, (xs (i + 2)).toInt, (xs (i + 3)).toInt, (xs (i + 4)).toInt, (xs (i + 5)).toInt, a0, a0]
def lw_post : Option (Option Value) → am_S → Prop := fun r _ => r = some (some (.int 1))
def lw_tp (σ : am_S) : Prop := ∀ k, k < 940 → σ.2.1 2 k = σ.2.1 119 k
def lw_eq (σ : am_S) : Prop := σ.2.1 1 1 = σ.2.1 118 2 ∧ lw_tp σ ∧ lw_rp σ
theorem lw_Pf {L : Nat} {xs : Nat → Int32} {i : Nat} {a0 : Int} (hL : L ≤ 3072) (hi : i ≤ 3078) (h0 : 0 ≤ a0 ∧ a0 ≤ 940) : sx_P (lw_env L xs i a0) lw_fa := by
  have lo : ∀ x : Int32, (sx_lo : Int) ≤ 1 * x.toInt + 0 ∧ 1 * x.toInt + 0 ≤ sx_up := fun x => by
    rw [Int.one_mul, Int.add_zero]
    exact ⟨Int32.le_toInt x, Int32.toInt_le x⟩
  intro q hq
  simp only [lw_fa, List.mem_cons, List.not_mem_nil, or_false] at hq
  rcases hq with rfl | rfl | rfl | rfl | rfl | rfl | rfl | rfl | rfl | rfl | rfl
  · exact ⟨1 * (L : Int) + 0, rfl, by show (0 : Int) ≤ 1 * L + 0; omega, by show (1 : Int) * L + 0 ≤ 3072; omega⟩
  · exact ⟨1 * (i : Int) + 0, rfl, by show (0 : Int) ≤ 1 * i + 0; omega, by show (1 : Int) * i + 0 ≤ 3078; omega⟩
  · exact ⟨1 * (xs (i + 0)).toInt + 0, rfl, (lo _).1, (lo _).2⟩
  · exact ⟨1 * (xs (i + 1)).toInt + 0, rfl, (lo _).1, (lo _).2⟩
  · exact ⟨1 * (xs (i + 2)).toInt + 0, rfl, (lo _).1, (lo _).2⟩
  · exact ⟨1 * (xs (i + 3)).toInt + 0, rfl, (lo _).1, (lo _).2⟩
  · exact ⟨1 * (xs (i + 4)).toInt + 0, rfl, (lo _).1, (lo _).2⟩
  · exact ⟨1 * (xs (i + 5)).toInt + 0, rfl, (lo _).1, (lo _).2⟩
  · exact ⟨1 * a0 + 0, rfl, by show (0 : Int) ≤ 1 * a0 + 0; omega, by show 1 * a0 + 0 ≤ 940; omega⟩
  · exact ⟨1 * a0 + 0, rfl, by show (0 : Int) ≤ 1 * a0 + 0; omega, by show 1 * a0 + 0 ≤ 940; omega⟩
  · exact ⟨1 * a0 + (-1 * a0 + 0), rfl, by show (0 : Int) ≤ 1 * a0 + (-1 * a0 + 0); omega, by show 1 * a0 + (-1 * a0 + 0) ≤ (0 : Int); omega⟩
/-! the turns of feed, station, image, restore and the compared call, by hand -/
theorem rd_d_L_law_228 : decode tL_law.1.2.1 228 = .ok (.aload_n 1, 1) := by decide +kernel
theorem rd_d_L_law_229 : decode tL_law.1.2.1 229 = .ok (.aload_n 0, 1) := by decide +kernel
theorem rd_d_L_law_230 : decode tL_law.1.2.1 230 = .ok (.iload 4, 2) := by decide +kernel
theorem rd_d_L_law_232 : decode tL_law.1.2.1 232 = .ok (.iconst 1, 1) := by decide +kernel
theorem rd_d_L_law_233 : decode tL_law.1.2.1 233 = .ok (.iadd, 1) := by decide +kernel
theorem rd_d_L_law_234 : decode tL_law.1.2.1 234 = .ok (.iaload, 1) := by decide +kernel
theorem rd_d_L_law_235 : decode tL_law.1.2.1 235 = .ok (.aload_n 0, 1) := by decide +kernel
theorem rd_d_L_law_236 : decode tL_law.1.2.1 236 = .ok (.iload 4, 2) := by decide +kernel
theorem rd_d_L_law_238 : decode tL_law.1.2.1 238 = .ok (.iconst 2, 1) := by decide +kernel
theorem rd_d_L_law_239 : decode tL_law.1.2.1 239 = .ok (.iadd, 1) := by decide +kernel
theorem rd_d_L_law_240 : decode tL_law.1.2.1 240 = .ok (.iaload, 1) := by decide +kernel
theorem rd_d_L_law_241 : decode tL_law.1.2.1 241 = .ok (.aload_n 0, 1) := by decide +kernel
theorem rd_d_L_law_242 : decode tL_law.1.2.1 242 = .ok (.iload 4, 2) := by decide +kernel
theorem rd_d_L_law_244 : decode tL_law.1.2.1 244 = .ok (.iconst 3, 1) := by decide +kernel
theorem rd_d_L_law_245 : decode tL_law.1.2.1 245 = .ok (.iadd, 1) := by decide +kernel
theorem rd_d_L_law_246 : decode tL_law.1.2.1 246 = .ok (.iaload, 1) := by decide +kernel
theorem rd_d_L_law_247 : decode tL_law.1.2.1 247 = .ok (.aload_n 0, 1) := by decide +kernel
theorem rd_d_L_law_248 : decode tL_law.1.2.1 248 = .ok (.iload 4, 2) := by decide +kernel
theorem rd_d_L_law_250 : decode tL_law.1.2.1 250 = .ok (.iconst 4, 1) := by decide +kernel
theorem rd_d_L_law_251 : decode tL_law.1.2.1 251 = .ok (.iadd, 1) := by decide +kernel
theorem rd_d_L_law_252 : decode tL_law.1.2.1 252 = .ok (.iaload, 1) := by decide +kernel
theorem rd_d_L_law_253 : decode tL_law.1.2.1 253 = .ok (.aload_n 0, 1) := by decide +kernel
theorem rd_d_L_law_254 : decode tL_law.1.2.1 254 = .ok (.iload 4, 2) := by decide +kernel
theorem rd_d_L_law_256 : decode tL_law.1.2.1 256 = .ok (.iconst 5, 1) := by decide +kernel
theorem rd_d_L_law_257 : decode tL_law.1.2.1 257 = .ok (.iadd, 1) := by decide +kernel
theorem rd_d_L_law_258 : decode tL_law.1.2.1 258 = .ok (.iaload, 1) := by decide +kernel
theorem rd_d_L_law_259 : decode tL_law.1.2.1 259 = .ok (.invokevirtual 39, 3) := by decide +kernel
theorem rd_k_L_law_259 : ex_lk ex_mt tL_law 259 (.invokevirtual 39) [0, 34, 131311] = true := by decide +kernel
theorem rd_d_L_law_262 : decode tL_law.1.2.1 262 = .ok (.pop, 1) := by decide +kernel
theorem rd_d_L_law_263 : decode tL_law.1.2.1 263 = .ok (.aload_n 2, 1) := by decide +kernel
theorem rd_d_L_law_264 : decode tL_law.1.2.1 264 = .ok (.aload_n 0, 1) := by decide +kernel
theorem rd_d_L_law_265 : decode tL_law.1.2.1 265 = .ok (.iload 4, 2) := by decide +kernel
theorem rd_d_L_law_267 : decode tL_law.1.2.1 267 = .ok (.iconst 1, 1) := by decide +kernel
theorem rd_d_L_law_268 : decode tL_law.1.2.1 268 = .ok (.iadd, 1) := by decide +kernel
theorem rd_d_L_law_269 : decode tL_law.1.2.1 269 = .ok (.iaload, 1) := by decide +kernel
theorem rd_d_L_law_270 : decode tL_law.1.2.1 270 = .ok (.aload_n 0, 1) := by decide +kernel
theorem rd_d_L_law_271 : decode tL_law.1.2.1 271 = .ok (.iload 4, 2) := by decide +kernel
theorem rd_d_L_law_273 : decode tL_law.1.2.1 273 = .ok (.iconst 2, 1) := by decide +kernel
theorem rd_d_L_law_274 : decode tL_law.1.2.1 274 = .ok (.iadd, 1) := by decide +kernel
theorem rd_d_L_law_275 : decode tL_law.1.2.1 275 = .ok (.iaload, 1) := by decide +kernel
theorem rd_d_L_law_276 : decode tL_law.1.2.1 276 = .ok (.aload_n 0, 1) := by decide +kernel
theorem rd_d_L_law_277 : decode tL_law.1.2.1 277 = .ok (.iload 4, 2) := by decide +kernel
theorem rd_d_L_law_279 : decode tL_law.1.2.1 279 = .ok (.iconst 3, 1) := by decide +kernel
theorem rd_d_L_law_280 : decode tL_law.1.2.1 280 = .ok (.iadd, 1) := by decide +kernel
theorem rd_d_L_law_281 : decode tL_law.1.2.1 281 = .ok (.iaload, 1) := by decide +kernel
theorem rd_d_L_law_282 : decode tL_law.1.2.1 282 = .ok (.aload_n 0, 1) := by decide +kernel
theorem rd_d_L_law_283 : decode tL_law.1.2.1 283 = .ok (.iload 4, 2) := by decide +kernel
theorem rd_d_L_law_285 : decode tL_law.1.2.1 285 = .ok (.iconst 4, 1) := by decide +kernel
theorem rd_d_L_law_286 : decode tL_law.1.2.1 286 = .ok (.iadd, 1) := by decide +kernel
theorem rd_d_L_law_287 : decode tL_law.1.2.1 287 = .ok (.iaload, 1) := by decide +kernel
theorem rd_d_L_law_288 : decode tL_law.1.2.1 288 = .ok (.aload_n 0, 1) := by decide +kernel
theorem rd_d_L_law_289 : decode tL_law.1.2.1 289 = .ok (.iload 4, 2) := by decide +kernel
theorem rd_d_L_law_291 : decode tL_law.1.2.1 291 = .ok (.iconst 5, 1) := by decide +kernel
theorem rd_d_L_law_292 : decode tL_law.1.2.1 292 = .ok (.iadd, 1) := by decide +kernel
theorem rd_d_L_law_293 : decode tL_law.1.2.1 293 = .ok (.iaload, 1) := by decide +kernel
theorem rd_d_L_law_294 : decode tL_law.1.2.1 294 = .ok (.invokevirtual 43, 3) := by decide +kernel
theorem rd_k_L_law_294 : ex_lk ex_mt tL_law 294 (.invokevirtual 43) [0, 106, 393449] = true := by decide +kernel
theorem rd_d_L_law_297 : decode tL_law.1.2.1 297 = .ok (.pop, 1) := by decide +kernel
theorem rd_d_L_law_298 : decode tL_law.1.2.1 298 = .ok (.goto 1242, 3) := by decide +kernel
theorem rd_d_L_law_326 : decode tL_law.1.2.1 326 = .ok (.aload_n 1, 1) := by decide +kernel
theorem rd_d_L_law_327 : decode tL_law.1.2.1 327 = .ok (.invokevirtual 49, 3) := by decide +kernel
theorem rd_k_L_law_327 : ex_lk ex_mt tL_law 327 (.invokevirtual 49) [0, 65, 196623] = true := by decide +kernel
theorem rd_d_L_law_330 : decode tL_law.1.2.1 330 = .ok (.pop, 1) := by decide +kernel
theorem rd_d_L_law_331 : decode tL_law.1.2.1 331 = .ok (.aload_n 2, 1) := by decide +kernel
theorem rd_d_L_law_332 : decode tL_law.1.2.1 332 = .ok (.invokevirtual 53, 3) := by decide +kernel
theorem rd_k_L_law_332 : ex_lk ex_mt tL_law 332 (.invokevirtual 53) [0, 173, 458910] = true := by decide +kernel
theorem rd_d_L_law_335 : decode tL_law.1.2.1 335 = .ok (.pop, 1) := by decide +kernel
theorem rd_d_L_law_336 : decode tL_law.1.2.1 336 = .ok (.goto 1204, 3) := by decide +kernel
theorem rd_d_L_law_796 : decode tL_law.1.2.1 796 = .ok (.aload_n 1, 1) := by decide +kernel
theorem rd_d_L_law_797 : decode tL_law.1.2.1 797 = .ok (.aload_n 0, 1) := by decide +kernel
theorem rd_d_L_law_798 : decode tL_law.1.2.1 798 = .ok (.iload 4, 2) := by decide +kernel
theorem rd_d_L_law_800 : decode tL_law.1.2.1 800 = .ok (.iconst 1, 1) := by decide +kernel
theorem rd_d_L_law_801 : decode tL_law.1.2.1 801 = .ok (.iadd, 1) := by decide +kernel
theorem rd_d_L_law_802 : decode tL_law.1.2.1 802 = .ok (.iaload, 1) := by decide +kernel
theorem rd_d_L_law_803 : decode tL_law.1.2.1 803 = .ok (.aload_n 0, 1) := by decide +kernel
theorem rd_d_L_law_804 : decode tL_law.1.2.1 804 = .ok (.iload 4, 2) := by decide +kernel
theorem rd_d_L_law_806 : decode tL_law.1.2.1 806 = .ok (.iconst 2, 1) := by decide +kernel
theorem rd_d_L_law_807 : decode tL_law.1.2.1 807 = .ok (.iadd, 1) := by decide +kernel
theorem rd_d_L_law_808 : decode tL_law.1.2.1 808 = .ok (.iaload, 1) := by decide +kernel
theorem rd_d_L_law_809 : decode tL_law.1.2.1 809 = .ok (.aload_n 0, 1) := by decide +kernel
theorem rd_d_L_law_810 : decode tL_law.1.2.1 810 = .ok (.iload 4, 2) := by decide +kernel
theorem rd_d_L_law_812 : decode tL_law.1.2.1 812 = .ok (.iconst 3, 1) := by decide +kernel
theorem rd_d_L_law_813 : decode tL_law.1.2.1 813 = .ok (.iadd, 1) := by decide +kernel
theorem rd_d_L_law_814 : decode tL_law.1.2.1 814 = .ok (.iaload, 1) := by decide +kernel
theorem rd_d_L_law_815 : decode tL_law.1.2.1 815 = .ok (.aload_n 0, 1) := by decide +kernel
theorem rd_d_L_law_816 : decode tL_law.1.2.1 816 = .ok (.iload 4, 2) := by decide +kernel
theorem rd_d_L_law_818 : decode tL_law.1.2.1 818 = .ok (.iconst 4, 1) := by decide +kernel
theorem rd_d_L_law_819 : decode tL_law.1.2.1 819 = .ok (.iadd, 1) := by decide +kernel
theorem rd_d_L_law_820 : decode tL_law.1.2.1 820 = .ok (.iaload, 1) := by decide +kernel
theorem rd_d_L_law_821 : decode tL_law.1.2.1 821 = .ok (.aload_n 3, 1) := by decide +kernel
theorem rd_d_L_law_822 : decode tL_law.1.2.1 822 = .ok (.invokestatic 120, 3) := by decide +kernel
theorem rd_k_L_law_822 : ex_lk ex_mt tL_law 822 (.invokestatic 120) [0, 8, 393408] = true := by decide +kernel
theorem rd_d_L_law_825 : decode tL_law.1.2.1 825 = .ok (.istore 5, 2) := by decide +kernel
theorem rd_d_L_law_827 : decode tL_law.1.2.1 827 = .ok (.aload_n 2, 1) := by decide +kernel
theorem rd_d_L_law_828 : decode tL_law.1.2.1 828 = .ok (.aload_n 0, 1) := by decide +kernel
theorem rd_d_L_law_829 : decode tL_law.1.2.1 829 = .ok (.iload 4, 2) := by decide +kernel
theorem rd_d_L_law_831 : decode tL_law.1.2.1 831 = .ok (.iconst 1, 1) := by decide +kernel
theorem rd_d_L_law_832 : decode tL_law.1.2.1 832 = .ok (.iadd, 1) := by decide +kernel
theorem rd_d_L_law_833 : decode tL_law.1.2.1 833 = .ok (.iaload, 1) := by decide +kernel
theorem rd_d_L_law_834 : decode tL_law.1.2.1 834 = .ok (.aload_n 0, 1) := by decide +kernel
theorem rd_d_L_law_835 : decode tL_law.1.2.1 835 = .ok (.iload 4, 2) := by decide +kernel
theorem rd_d_L_law_837 : decode tL_law.1.2.1 837 = .ok (.iconst 2, 1) := by decide +kernel
theorem rd_d_L_law_838 : decode tL_law.1.2.1 838 = .ok (.iadd, 1) := by decide +kernel
theorem rd_d_L_law_839 : decode tL_law.1.2.1 839 = .ok (.iaload, 1) := by decide +kernel
theorem rd_d_L_law_840 : decode tL_law.1.2.1 840 = .ok (.aload_n 0, 1) := by decide +kernel
theorem rd_d_L_law_841 : decode tL_law.1.2.1 841 = .ok (.iload 4, 2) := by decide +kernel
theorem rd_d_L_law_843 : decode tL_law.1.2.1 843 = .ok (.iconst 3, 1) := by decide +kernel
theorem rd_d_L_law_844 : decode tL_law.1.2.1 844 = .ok (.iadd, 1) := by decide +kernel
theorem rd_d_L_law_845 : decode tL_law.1.2.1 845 = .ok (.iaload, 1) := by decide +kernel
theorem rd_d_L_law_846 : decode tL_law.1.2.1 846 = .ok (.aload_n 0, 1) := by decide +kernel
theorem rd_d_L_law_847 : decode tL_law.1.2.1 847 = .ok (.iload 4, 2) := by decide +kernel
theorem rd_d_L_law_849 : decode tL_law.1.2.1 849 = .ok (.iconst 4, 1) := by decide +kernel
theorem rd_d_L_law_850 : decode tL_law.1.2.1 850 = .ok (.iadd, 1) := by decide +kernel
theorem rd_d_L_law_851 : decode tL_law.1.2.1 851 = .ok (.iaload, 1) := by decide +kernel
theorem rd_d_L_law_852 : decode tL_law.1.2.1 852 = .ok (.invokevirtual 122, 3) := by decide +kernel
theorem rd_k_L_law_852 : ex_lk ex_mt tL_law 852 (.invokevirtual 122) [0, 152, 524449] = true := by decide +kernel
theorem rd_d_L_law_855 : decode tL_law.1.2.1 855 = .ok (.istore 6, 2) := by decide +kernel
theorem rd_d_L_law_857 : decode tL_law.1.2.1 857 = .ok (.goto 683, 3) := by decide +kernel
theorem rd_d_L_law_860 : decode tL_law.1.2.1 860 = .ok (.aload_n 1, 1) := by decide +kernel
theorem rd_d_L_law_861 : decode tL_law.1.2.1 861 = .ok (.aload_n 0, 1) := by decide +kernel
theorem rd_d_L_law_862 : decode tL_law.1.2.1 862 = .ok (.iload 4, 2) := by decide +kernel
theorem rd_d_L_law_864 : decode tL_law.1.2.1 864 = .ok (.iconst 1, 1) := by decide +kernel
theorem rd_d_L_law_865 : decode tL_law.1.2.1 865 = .ok (.iadd, 1) := by decide +kernel
theorem rd_d_L_law_866 : decode tL_law.1.2.1 866 = .ok (.iaload, 1) := by decide +kernel
theorem rd_d_L_law_867 : decode tL_law.1.2.1 867 = .ok (.invokevirtual 123, 3) := by decide +kernel
theorem rd_k_L_law_867 : ex_lk ex_mt tL_law 867 (.invokevirtual 123) [0, 20, 262302] = true := by decide +kernel
theorem rd_d_L_law_870 : decode tL_law.1.2.1 870 = .ok (.pop, 1) := by decide +kernel
theorem rd_d_L_law_871 : decode tL_law.1.2.1 871 = .ok (.aload_n 2, 1) := by decide +kernel
theorem rd_d_L_law_872 : decode tL_law.1.2.1 872 = .ok (.aload_n 0, 1) := by decide +kernel
theorem rd_d_L_law_873 : decode tL_law.1.2.1 873 = .ok (.iload 4, 2) := by decide +kernel
theorem rd_d_L_law_875 : decode tL_law.1.2.1 875 = .ok (.iconst 1, 1) := by decide +kernel
theorem rd_d_L_law_876 : decode tL_law.1.2.1 876 = .ok (.iadd, 1) := by decide +kernel
theorem rd_d_L_law_877 : decode tL_law.1.2.1 877 = .ok (.iaload, 1) := by decide +kernel
theorem rd_d_L_law_878 : decode tL_law.1.2.1 878 = .ok (.invokevirtual 126, 3) := by decide +kernel
theorem rd_k_L_law_878 : ex_lk ex_mt tL_law 878 (.invokevirtual 126) [0, 79, 524482] = true := by decide +kernel
theorem rd_d_L_law_881 : decode tL_law.1.2.1 881 = .ok (.pop, 1) := by decide +kernel
theorem rd_d_L_law_882 : decode tL_law.1.2.1 882 = .ok (.goto 658, 3) := by decide +kernel
theorem rd_d_L_law_885 : decode tL_law.1.2.1 885 = .ok (.aload_n 1, 1) := by decide +kernel
theorem rd_d_L_law_886 : decode tL_law.1.2.1 886 = .ok (.aload_n 0, 1) := by decide +kernel
theorem rd_d_L_law_887 : decode tL_law.1.2.1 887 = .ok (.iload 4, 2) := by decide +kernel
theorem rd_d_L_law_889 : decode tL_law.1.2.1 889 = .ok (.iconst 1, 1) := by decide +kernel
theorem rd_d_L_law_890 : decode tL_law.1.2.1 890 = .ok (.iadd, 1) := by decide +kernel
theorem rd_d_L_law_891 : decode tL_law.1.2.1 891 = .ok (.iaload, 1) := by decide +kernel
theorem rd_d_L_law_892 : decode tL_law.1.2.1 892 = .ok (.aload_n 0, 1) := by decide +kernel
theorem rd_d_L_law_893 : decode tL_law.1.2.1 893 = .ok (.iload 4, 2) := by decide +kernel
theorem rd_d_L_law_895 : decode tL_law.1.2.1 895 = .ok (.iconst 2, 1) := by decide +kernel
theorem rd_d_L_law_896 : decode tL_law.1.2.1 896 = .ok (.iadd, 1) := by decide +kernel
theorem rd_d_L_law_897 : decode tL_law.1.2.1 897 = .ok (.iaload, 1) := by decide +kernel
theorem rd_d_L_law_898 : decode tL_law.1.2.1 898 = .ok (.invokevirtual 127, 3) := by decide +kernel
theorem rd_k_L_law_898 : ex_lk ex_mt tL_law 898 (.invokevirtual 127) [0, 59, 327695] = true := by decide +kernel
theorem rd_d_L_law_901 : decode tL_law.1.2.1 901 = .ok (.pop, 1) := by decide +kernel
theorem rd_d_L_law_902 : decode tL_law.1.2.1 902 = .ok (.aload_n 2, 1) := by decide +kernel
theorem rd_d_L_law_903 : decode tL_law.1.2.1 903 = .ok (.aload_n 0, 1) := by decide +kernel
theorem rd_d_L_law_904 : decode tL_law.1.2.1 904 = .ok (.iload 4, 2) := by decide +kernel
theorem rd_d_L_law_906 : decode tL_law.1.2.1 906 = .ok (.iconst 1, 1) := by decide +kernel
theorem rd_d_L_law_907 : decode tL_law.1.2.1 907 = .ok (.iadd, 1) := by decide +kernel
theorem rd_d_L_law_908 : decode tL_law.1.2.1 908 = .ok (.iaload, 1) := by decide +kernel
theorem rd_d_L_law_909 : decode tL_law.1.2.1 909 = .ok (.aload_n 0, 1) := by decide +kernel
theorem rd_d_L_law_910 : decode tL_law.1.2.1 910 = .ok (.iload 4, 2) := by decide +kernel
theorem rd_d_L_law_912 : decode tL_law.1.2.1 912 = .ok (.iconst 2, 1) := by decide +kernel
theorem rd_d_L_law_913 : decode tL_law.1.2.1 913 = .ok (.iadd, 1) := by decide +kernel
theorem rd_d_L_law_914 : decode tL_law.1.2.1 914 = .ok (.iaload, 1) := by decide +kernel
theorem rd_d_L_law_915 : decode tL_law.1.2.1 915 = .ok (.invokevirtual 130, 3) := by decide +kernel
theorem rd_k_L_law_915 : ex_lk ex_mt tL_law 915 (.invokevirtual 130) [0, 161, 524498] = true := by decide +kernel
theorem rd_d_L_law_918 : decode tL_law.1.2.1 918 = .ok (.pop, 1) := by decide +kernel
theorem rd_d_L_law_919 : decode tL_law.1.2.1 919 = .ok (.goto 621, 3) := by decide +kernel
theorem rd_d_L_law_922 : decode tL_law.1.2.1 922 = .ok (.aload_n 1, 1) := by decide +kernel
theorem rd_d_L_law_923 : decode tL_law.1.2.1 923 = .ok (.invokevirtual 131, 3) := by decide +kernel
theorem rd_k_L_law_923 : ex_lk ex_mt tL_law 923 (.invokevirtual 131) [0, 61, 327705] = true := by decide +kernel
theorem rd_d_L_law_926 : decode tL_law.1.2.1 926 = .ok (.pop, 1) := by decide +kernel
theorem rd_d_L_law_927 : decode tL_law.1.2.1 927 = .ok (.aload_n 2, 1) := by decide +kernel
theorem rd_d_L_law_928 : decode tL_law.1.2.1 928 = .ok (.invokevirtual 134, 3) := by decide +kernel
theorem rd_k_L_law_928 : ex_lk ex_mt tL_law 928 (.invokevirtual 134) [0, 165, 524502] = true := by decide +kernel
theorem rd_d_L_law_931 : decode tL_law.1.2.1 931 = .ok (.pop, 1) := by decide +kernel
theorem rd_d_L_law_932 : decode tL_law.1.2.1 932 = .ok (.goto 608, 3) := by decide +kernel
theorem rd_d_L_law_935 : decode tL_law.1.2.1 935 = .ok (.aload_n 1, 1) := by decide +kernel
theorem rd_d_L_law_936 : decode tL_law.1.2.1 936 = .ok (.aload_n 0, 1) := by decide +kernel
theorem rd_d_L_law_937 : decode tL_law.1.2.1 937 = .ok (.iload 4, 2) := by decide +kernel
theorem rd_d_L_law_939 : decode tL_law.1.2.1 939 = .ok (.iconst 1, 1) := by decide +kernel
theorem rd_d_L_law_940 : decode tL_law.1.2.1 940 = .ok (.iadd, 1) := by decide +kernel
theorem rd_d_L_law_941 : decode tL_law.1.2.1 941 = .ok (.iaload, 1) := by decide +kernel
theorem rd_d_L_law_942 : decode tL_law.1.2.1 942 = .ok (.aload_n 0, 1) := by decide +kernel
theorem rd_d_L_law_943 : decode tL_law.1.2.1 943 = .ok (.iload 4, 2) := by decide +kernel
theorem rd_d_L_law_945 : decode tL_law.1.2.1 945 = .ok (.iconst 2, 1) := by decide +kernel
theorem rd_d_L_law_946 : decode tL_law.1.2.1 946 = .ok (.iadd, 1) := by decide +kernel
theorem rd_d_L_law_947 : decode tL_law.1.2.1 947 = .ok (.iaload, 1) := by decide +kernel
theorem rd_d_L_law_948 : decode tL_law.1.2.1 948 = .ok (.aload_n 0, 1) := by decide +kernel
theorem rd_d_L_law_949 : decode tL_law.1.2.1 949 = .ok (.iload 4, 2) := by decide +kernel
theorem rd_d_L_law_951 : decode tL_law.1.2.1 951 = .ok (.iconst 3, 1) := by decide +kernel
theorem rd_d_L_law_952 : decode tL_law.1.2.1 952 = .ok (.iadd, 1) := by decide +kernel
theorem rd_d_L_law_953 : decode tL_law.1.2.1 953 = .ok (.iaload, 1) := by decide +kernel
theorem rd_d_L_law_954 : decode tL_law.1.2.1 954 = .ok (.aload_n 3, 1) := by decide +kernel
theorem rd_d_L_law_955 : decode tL_law.1.2.1 955 = .ok (.invokestatic 135, 3) := by decide +kernel
theorem rd_k_L_law_955 : ex_lk ex_mt tL_law 955 (.invokestatic 135) [0, 5, 393420] = true := by decide +kernel
theorem rd_d_L_law_958 : decode tL_law.1.2.1 958 = .ok (.istore 5, 2) := by decide +kernel
theorem rd_d_L_law_960 : decode tL_law.1.2.1 960 = .ok (.aload_n 2, 1) := by decide +kernel
theorem rd_d_L_law_961 : decode tL_law.1.2.1 961 = .ok (.aload_n 0, 1) := by decide +kernel
theorem rd_d_L_law_962 : decode tL_law.1.2.1 962 = .ok (.iload 4, 2) := by decide +kernel
theorem rd_d_L_law_964 : decode tL_law.1.2.1 964 = .ok (.iconst 1, 1) := by decide +kernel
theorem rd_d_L_law_965 : decode tL_law.1.2.1 965 = .ok (.iadd, 1) := by decide +kernel
theorem rd_d_L_law_966 : decode tL_law.1.2.1 966 = .ok (.iaload, 1) := by decide +kernel
theorem rd_d_L_law_967 : decode tL_law.1.2.1 967 = .ok (.aload_n 0, 1) := by decide +kernel
theorem rd_d_L_law_968 : decode tL_law.1.2.1 968 = .ok (.iload 4, 2) := by decide +kernel
theorem rd_d_L_law_970 : decode tL_law.1.2.1 970 = .ok (.iconst 2, 1) := by decide +kernel
theorem rd_d_L_law_971 : decode tL_law.1.2.1 971 = .ok (.iadd, 1) := by decide +kernel
theorem rd_d_L_law_972 : decode tL_law.1.2.1 972 = .ok (.iaload, 1) := by decide +kernel
theorem rd_d_L_law_973 : decode tL_law.1.2.1 973 = .ok (.aload_n 0, 1) := by decide +kernel
theorem rd_d_L_law_974 : decode tL_law.1.2.1 974 = .ok (.iload 4, 2) := by decide +kernel
theorem rd_d_L_law_976 : decode tL_law.1.2.1 976 = .ok (.iconst 3, 1) := by decide +kernel
theorem rd_d_L_law_977 : decode tL_law.1.2.1 977 = .ok (.iadd, 1) := by decide +kernel
theorem rd_d_L_law_978 : decode tL_law.1.2.1 978 = .ok (.iaload, 1) := by decide +kernel
theorem rd_d_L_law_979 : decode tL_law.1.2.1 979 = .ok (.invokevirtual 138, 3) := by decide +kernel
theorem rd_k_L_law_979 : ex_lk ex_mt tL_law 979 (.invokevirtual 138) [0, 102, 524518] = true := by decide +kernel
theorem rd_d_L_law_982 : decode tL_law.1.2.1 982 = .ok (.istore 6, 2) := by decide +kernel
theorem rd_d_L_law_984 : decode tL_law.1.2.1 984 = .ok (.goto 556, 3) := by decide +kernel
theorem rd_d_L_law_987 : decode tL_law.1.2.1 987 = .ok (.aload_n 1, 1) := by decide +kernel
theorem rd_d_L_law_988 : decode tL_law.1.2.1 988 = .ok (.aload_n 0, 1) := by decide +kernel
theorem rd_d_L_law_989 : decode tL_law.1.2.1 989 = .ok (.iload 4, 2) := by decide +kernel
theorem rd_d_L_law_991 : decode tL_law.1.2.1 991 = .ok (.iconst 1, 1) := by decide +kernel
theorem rd_d_L_law_992 : decode tL_law.1.2.1 992 = .ok (.iadd, 1) := by decide +kernel
theorem rd_d_L_law_993 : decode tL_law.1.2.1 993 = .ok (.iaload, 1) := by decide +kernel
theorem rd_d_L_law_994 : decode tL_law.1.2.1 994 = .ok (.aload_n 0, 1) := by decide +kernel
theorem rd_d_L_law_995 : decode tL_law.1.2.1 995 = .ok (.iload 4, 2) := by decide +kernel
theorem rd_d_L_law_997 : decode tL_law.1.2.1 997 = .ok (.iconst 2, 1) := by decide +kernel
theorem rd_d_L_law_998 : decode tL_law.1.2.1 998 = .ok (.iadd, 1) := by decide +kernel
theorem rd_d_L_law_999 : decode tL_law.1.2.1 999 = .ok (.iaload, 1) := by decide +kernel
theorem rd_d_L_law_1000 : decode tL_law.1.2.1 1000 = .ok (.aload_n 3, 1) := by decide +kernel
theorem rd_d_L_law_1001 : decode tL_law.1.2.1 1001 = .ok (.invokestatic 139, 3) := by decide +kernel
theorem rd_k_L_law_1001 : ex_lk ex_mt tL_law 1001 (.invokestatic 139) [0, 4, 393429] = true := by decide +kernel
theorem rd_d_L_law_1004 : decode tL_law.1.2.1 1004 = .ok (.istore 5, 2) := by decide +kernel
theorem rd_d_L_law_1006 : decode tL_law.1.2.1 1006 = .ok (.aload_n 2, 1) := by decide +kernel
theorem rd_d_L_law_1007 : decode tL_law.1.2.1 1007 = .ok (.aload_n 0, 1) := by decide +kernel
theorem rd_d_L_law_1008 : decode tL_law.1.2.1 1008 = .ok (.iload 4, 2) := by decide +kernel
theorem rd_d_L_law_1010 : decode tL_law.1.2.1 1010 = .ok (.iconst 1, 1) := by decide +kernel
theorem rd_d_L_law_1011 : decode tL_law.1.2.1 1011 = .ok (.iadd, 1) := by decide +kernel
theorem rd_d_L_law_1012 : decode tL_law.1.2.1 1012 = .ok (.iaload, 1) := by decide +kernel
theorem rd_d_L_law_1013 : decode tL_law.1.2.1 1013 = .ok (.aload_n 0, 1) := by decide +kernel
theorem rd_d_L_law_1014 : decode tL_law.1.2.1 1014 = .ok (.iload 4, 2) := by decide +kernel
theorem rd_d_L_law_1016 : decode tL_law.1.2.1 1016 = .ok (.iconst 2, 1) := by decide +kernel
theorem rd_d_L_law_1017 : decode tL_law.1.2.1 1017 = .ok (.iadd, 1) := by decide +kernel
theorem rd_d_L_law_1018 : decode tL_law.1.2.1 1018 = .ok (.iaload, 1) := by decide +kernel
theorem rd_d_L_law_1019 : decode tL_law.1.2.1 1019 = .ok (.invokevirtual 141, 3) := by decide +kernel
theorem rd_k_L_law_1019 : ex_lk ex_mt tL_law 1019 (.invokevirtual 141) [0, 95, 524522] = true := by decide +kernel
theorem rd_d_L_law_1022 : decode tL_law.1.2.1 1022 = .ok (.istore 6, 2) := by decide +kernel
theorem rd_d_L_law_1024 : decode tL_law.1.2.1 1024 = .ok (.goto 516, 3) := by decide +kernel
theorem rd_d_L_law_1125 : decode tL_law.1.2.1 1125 = .ok (.aload_n 1, 1) := by decide +kernel
theorem rd_d_L_law_1126 : decode tL_law.1.2.1 1126 = .ok (.invokevirtual 150, 3) := by decide +kernel
theorem rd_k_L_law_1126 : ex_lk ex_mt tL_law 1126 (.invokevirtual 150) [0, 22, 327767] = true := by decide +kernel
theorem rd_d_L_law_1129 : decode tL_law.1.2.1 1129 = .ok (.pop, 1) := by decide +kernel
theorem rd_d_L_law_1130 : decode tL_law.1.2.1 1130 = .ok (.aload_n 2, 1) := by decide +kernel
theorem rd_d_L_law_1131 : decode tL_law.1.2.1 1131 = .ok (.invokevirtual 153, 3) := by decide +kernel
theorem rd_k_L_law_1131 : ex_lk ex_mt tL_law 1131 (.invokevirtual 153) [0, 84, 589830] = true := by decide +kernel
theorem rd_d_L_law_1134 : decode tL_law.1.2.1 1134 = .ok (.pop, 1) := by decide +kernel
theorem rd_d_L_law_1135 : decode tL_law.1.2.1 1135 = .ok (.goto 405, 3) := by decide +kernel
theorem rd_d_L_law_1277 : decode tL_law.1.2.1 1277 = .ok (.aload_n 1, 1) := by decide +kernel
theorem rd_d_L_law_1278 : decode tL_law.1.2.1 1278 = .ok (.invokevirtual 169, 3) := by decide +kernel
theorem rd_k_L_law_1278 : ex_lk ex_mt tL_law 1278 (.invokevirtual 169) [0, 66, 327805] = true := by decide +kernel
theorem rd_d_L_law_1281 : decode tL_law.1.2.1 1281 = .ok (.pop, 1) := by decide +kernel
theorem rd_d_L_law_1282 : decode tL_law.1.2.1 1282 = .ok (.aload_n 2, 1) := by decide +kernel
theorem rd_d_L_law_1283 : decode tL_law.1.2.1 1283 = .ok (.invokevirtual 172, 3) := by decide +kernel
theorem rd_k_L_law_1283 : ex_lk ex_mt tL_law 1283 (.invokevirtual 172) [0, 174, 589854] = true := by decide +kernel
theorem rd_d_L_law_1286 : decode tL_law.1.2.1 1286 = .ok (.pop, 1) := by decide +kernel
theorem rd_d_L_law_1287 : decode tL_law.1.2.1 1287 = .ok (.goto 253, 3) := by decide +kernel
theorem rd_d_L_law_1303 : decode tL_law.1.2.1 1303 = .ok (.aload_n 1, 1) := by decide +kernel
theorem rd_d_L_law_1304 : decode tL_law.1.2.1 1304 = .ok (.aload_n 0, 1) := by decide +kernel
theorem rd_d_L_law_1305 : decode tL_law.1.2.1 1305 = .ok (.iload 4, 2) := by decide +kernel
theorem rd_d_L_law_1307 : decode tL_law.1.2.1 1307 = .ok (.iconst 1, 1) := by decide +kernel
theorem rd_d_L_law_1308 : decode tL_law.1.2.1 1308 = .ok (.iadd, 1) := by decide +kernel
theorem rd_d_L_law_1309 : decode tL_law.1.2.1 1309 = .ok (.iaload, 1) := by decide +kernel
theorem rd_d_L_law_1310 : decode tL_law.1.2.1 1310 = .ok (.aload_n 0, 1) := by decide +kernel
theorem rd_d_L_law_1311 : decode tL_law.1.2.1 1311 = .ok (.iload 4, 2) := by decide +kernel
theorem rd_d_L_law_1313 : decode tL_law.1.2.1 1313 = .ok (.iconst 2, 1) := by decide +kernel
theorem rd_d_L_law_1314 : decode tL_law.1.2.1 1314 = .ok (.iadd, 1) := by decide +kernel
theorem rd_d_L_law_1315 : decode tL_law.1.2.1 1315 = .ok (.iaload, 1) := by decide +kernel
theorem rd_d_L_law_1316 : decode tL_law.1.2.1 1316 = .ok (.invokevirtual 177, 3) := by decide +kernel
theorem rd_k_L_law_1316 : ex_lk ex_mt tL_law 1316 (.invokevirtual 177) [0, 29, 327815] = true := by decide +kernel
theorem rd_d_L_law_1319 : decode tL_law.1.2.1 1319 = .ok (.pop, 1) := by decide +kernel
theorem rd_d_L_law_1320 : decode tL_law.1.2.1 1320 = .ok (.aload_n 2, 1) := by decide +kernel
theorem rd_d_L_law_1321 : decode tL_law.1.2.1 1321 = .ok (.aload_n 0, 1) := by decide +kernel
theorem rd_d_L_law_1322 : decode tL_law.1.2.1 1322 = .ok (.iload 4, 2) := by decide +kernel
theorem rd_d_L_law_1324 : decode tL_law.1.2.1 1324 = .ok (.iconst 1, 1) := by decide +kernel
theorem rd_d_L_law_1325 : decode tL_law.1.2.1 1325 = .ok (.iadd, 1) := by decide +kernel
theorem rd_d_L_law_1326 : decode tL_law.1.2.1 1326 = .ok (.iaload, 1) := by decide +kernel
theorem rd_d_L_law_1327 : decode tL_law.1.2.1 1327 = .ok (.aload_n 0, 1) := by decide +kernel
theorem rd_d_L_law_1328 : decode tL_law.1.2.1 1328 = .ok (.iload 4, 2) := by decide +kernel
theorem rd_d_L_law_1330 : decode tL_law.1.2.1 1330 = .ok (.iconst 2, 1) := by decide +kernel
theorem rd_d_L_law_1331 : decode tL_law.1.2.1 1331 = .ok (.iadd, 1) := by decide +kernel
theorem rd_d_L_law_1332 : decode tL_law.1.2.1 1332 = .ok (.iaload, 1) := by decide +kernel
theorem rd_d_L_law_1333 : decode tL_law.1.2.1 1333 = .ok (.invokevirtual 180, 3) := by decide +kernel
theorem rd_k_L_law_1333 : ex_lk ex_mt tL_law 1333 (.invokevirtual 180) [0, 99, 589866] = true := by decide +kernel
theorem rd_d_L_law_1336 : decode tL_law.1.2.1 1336 = .ok (.pop, 1) := by decide +kernel
theorem rd_d_L_law_1337 : decode tL_law.1.2.1 1337 = .ok (.goto 203, 3) := by decide +kernel
theorem rd_d_L_law_1340 : decode tL_law.1.2.1 1340 = .ok (.aload_n 1, 1) := by decide +kernel
theorem rd_d_L_law_1341 : decode tL_law.1.2.1 1341 = .ok (.aload_n 0, 1) := by decide +kernel
theorem rd_d_L_law_1342 : decode tL_law.1.2.1 1342 = .ok (.iload 4, 2) := by decide +kernel
theorem rd_d_L_law_1344 : decode tL_law.1.2.1 1344 = .ok (.iconst 1, 1) := by decide +kernel
theorem rd_d_L_law_1345 : decode tL_law.1.2.1 1345 = .ok (.iadd, 1) := by decide +kernel
theorem rd_d_L_law_1346 : decode tL_law.1.2.1 1346 = .ok (.iaload, 1) := by decide +kernel
theorem rd_d_L_law_1347 : decode tL_law.1.2.1 1347 = .ok (.aload_n 0, 1) := by decide +kernel
theorem rd_d_L_law_1348 : decode tL_law.1.2.1 1348 = .ok (.iload 4, 2) := by decide +kernel
theorem rd_d_L_law_1350 : decode tL_law.1.2.1 1350 = .ok (.iconst 2, 1) := by decide +kernel
theorem rd_d_L_law_1351 : decode tL_law.1.2.1 1351 = .ok (.iadd, 1) := by decide +kernel
theorem rd_d_L_law_1352 : decode tL_law.1.2.1 1352 = .ok (.iaload, 1) := by decide +kernel
theorem rd_d_L_law_1353 : decode tL_law.1.2.1 1353 = .ok (.invokevirtual 181, 3) := by decide +kernel
theorem rd_k_L_law_1353 : ex_lk ex_mt tL_law 1353 (.invokevirtual 181) [0, 48, 327851] = true := by decide +kernel
theorem rd_d_L_law_1356 : decode tL_law.1.2.1 1356 = .ok (.aload_n 2, 1) := by decide +kernel
theorem rd_d_L_law_1357 : decode tL_law.1.2.1 1357 = .ok (.aload_n 0, 1) := by decide +kernel
theorem rd_d_L_law_1358 : decode tL_law.1.2.1 1358 = .ok (.iload 4, 2) := by decide +kernel
theorem rd_d_L_law_1360 : decode tL_law.1.2.1 1360 = .ok (.iconst 1, 1) := by decide +kernel
theorem rd_d_L_law_1361 : decode tL_law.1.2.1 1361 = .ok (.iadd, 1) := by decide +kernel
theorem rd_d_L_law_1362 : decode tL_law.1.2.1 1362 = .ok (.iaload, 1) := by decide +kernel
theorem rd_d_L_law_1363 : decode tL_law.1.2.1 1363 = .ok (.aload_n 0, 1) := by decide +kernel
theorem rd_d_L_law_1364 : decode tL_law.1.2.1 1364 = .ok (.iload 4, 2) := by decide +kernel
theorem rd_d_L_law_1366 : decode tL_law.1.2.1 1366 = .ok (.iconst 2, 1) := by decide +kernel
theorem rd_d_L_law_1367 : decode tL_law.1.2.1 1367 = .ok (.iadd, 1) := by decide +kernel
theorem rd_d_L_law_1368 : decode tL_law.1.2.1 1368 = .ok (.iaload, 1) := by decide +kernel
theorem rd_d_L_law_1369 : decode tL_law.1.2.1 1369 = .ok (.invokevirtual 184, 3) := by decide +kernel
theorem rd_k_L_law_1369 : ex_lk ex_mt tL_law 1369 (.invokevirtual 184) [0, 136, 589878] = true := by decide +kernel
theorem rd_d_L_law_1372 : decode tL_law.1.2.1 1372 = .ok (.if_icmp .eq 168, 3) := by decide +kernel
theorem rd_d_L_law_1465 : decode tL_law.1.2.1 1465 = .ok (.aload_n 1, 1) := by decide +kernel
theorem rd_d_L_law_1466 : decode tL_law.1.2.1 1466 = .ok (.aload_n 0, 1) := by decide +kernel
theorem rd_d_L_law_1467 : decode tL_law.1.2.1 1467 = .ok (.iload 4, 2) := by decide +kernel
theorem rd_d_L_law_1469 : decode tL_law.1.2.1 1469 = .ok (.iconst 1, 1) := by decide +kernel
theorem rd_d_L_law_1470 : decode tL_law.1.2.1 1470 = .ok (.iadd, 1) := by decide +kernel
theorem rd_d_L_law_1471 : decode tL_law.1.2.1 1471 = .ok (.iaload, 1) := by decide +kernel
theorem rd_d_L_law_1472 : decode tL_law.1.2.1 1472 = .ok (.invokevirtual 201, 3) := by decide +kernel
theorem rd_k_L_law_1472 : ex_lk ex_mt tL_law 1472 (.invokevirtual 201) [0, 38, 393274] = true := by decide +kernel
theorem rd_d_L_law_1475 : decode tL_law.1.2.1 1475 = .ok (.pop, 1) := by decide +kernel
theorem rd_d_L_law_1476 : decode tL_law.1.2.1 1476 = .ok (.aload_n 2, 1) := by decide +kernel
theorem rd_d_L_law_1477 : decode tL_law.1.2.1 1477 = .ok (.aload_n 0, 1) := by decide +kernel
theorem rd_d_L_law_1478 : decode tL_law.1.2.1 1478 = .ok (.iload 4, 2) := by decide +kernel
theorem rd_d_L_law_1480 : decode tL_law.1.2.1 1480 = .ok (.iconst 1, 1) := by decide +kernel
theorem rd_d_L_law_1481 : decode tL_law.1.2.1 1481 = .ok (.iadd, 1) := by decide +kernel
theorem rd_d_L_law_1482 : decode tL_law.1.2.1 1482 = .ok (.iaload, 1) := by decide +kernel
theorem rd_d_L_law_1483 : decode tL_law.1.2.1 1483 = .ok (.invokevirtual 204, 3) := by decide +kernel
theorem rd_k_L_law_1483 : ex_lk ex_mt tL_law 1483 (.invokevirtual 204) [0, 116, 589959] = true := by decide +kernel
theorem rd_d_L_law_1486 : decode tL_law.1.2.1 1486 = .ok (.pop, 1) := by decide +kernel
theorem rd_d_L_law_1487 : decode tL_law.1.2.1 1487 = .ok (.goto 53, 3) := by decide +kernel
theorem rd_d_L_law_1490 : decode tL_law.1.2.1 1490 = .ok (.aload_n 1, 1) := by decide +kernel
theorem rd_d_L_law_1491 : decode tL_law.1.2.1 1491 = .ok (.aload_n 0, 1) := by decide +kernel
theorem rd_d_L_law_1492 : decode tL_law.1.2.1 1492 = .ok (.iload 4, 2) := by decide +kernel
theorem rd_d_L_law_1494 : decode tL_law.1.2.1 1494 = .ok (.iconst 1, 1) := by decide +kernel
theorem rd_d_L_law_1495 : decode tL_law.1.2.1 1495 = .ok (.iadd, 1) := by decide +kernel
theorem rd_d_L_law_1496 : decode tL_law.1.2.1 1496 = .ok (.iaload, 1) := by decide +kernel
theorem rd_d_L_law_1497 : decode tL_law.1.2.1 1497 = .ok (.invokevirtual 205, 3) := by decide +kernel
theorem rd_k_L_law_1497 : ex_lk ex_mt tL_law 1497 (.invokevirtual 205) [0, 57, 393289] = true := by decide +kernel
theorem rd_d_L_law_1500 : decode tL_law.1.2.1 1500 = .ok (.pop, 1) := by decide +kernel
theorem rd_d_L_law_1501 : decode tL_law.1.2.1 1501 = .ok (.aload_n 2, 1) := by decide +kernel
theorem rd_d_L_law_1502 : decode tL_law.1.2.1 1502 = .ok (.aload_n 0, 1) := by decide +kernel
theorem rd_d_L_law_1503 : decode tL_law.1.2.1 1503 = .ok (.iload 4, 2) := by decide +kernel
theorem rd_d_L_law_1505 : decode tL_law.1.2.1 1505 = .ok (.iconst 1, 1) := by decide +kernel
theorem rd_d_L_law_1506 : decode tL_law.1.2.1 1506 = .ok (.iadd, 1) := by decide +kernel
theorem rd_d_L_law_1507 : decode tL_law.1.2.1 1507 = .ok (.iaload, 1) := by decide +kernel
theorem rd_d_L_law_1508 : decode tL_law.1.2.1 1508 = .ok (.invokevirtual 208, 3) := by decide +kernel
theorem rd_k_L_law_1508 : ex_lk ex_mt tL_law 1508 (.invokevirtual 208) [0, 157, 589963] = true := by decide +kernel
theorem rd_d_L_law_1511 : decode tL_law.1.2.1 1511 = .ok (.pop, 1) := by decide +kernel
theorem rd_d_L_law_1512 : decode tL_law.1.2.1 1512 = .ok (.goto 28, 3) := by decide +kernel
theorem rd_d_L_law_1540 : decode tL_law.1.2.1 1540 = .ok (.iinc 4 6, 3) := by decide +kernel
theorem rd_d_L_law_1543 : decode tL_law.1.2.1 1543 = .ok (.goto (-1520), 3) := by decide +kernel
section LC
variable {g : am_C} {L : Nat} {xs : Nat → Int32}
theorem lw_call {Z : sx_Z} {C : Nat → am_S → Prop} (G : sx_G0 g L xs Z C ex_mt) {mi2 : Nat} {T T2 : ex_T} (hT2 : ex_mt mi2 = some T2) {pc i p n bc bs ci p1 p2 p3 p4 : Nat} (hd : decode T.1.2.1 pc = .ok (.invokevirtual i, 3)) (hl : ex_lk ex_mt T pc (.invokevirtual i) [0, mi2, p] = true) (hm : T2.2.1 = [1, n, bc, bs, ci, p1, p2, p3, p4]) {o : Nat} {σ : am_S} (ho : σ.1[o]? = some (.inl ci)) {as st stk : List Value} (hn : as.length = n) (hlen : (lg_sl (.ref o :: as)).length ≤ T2.1.2.2.1) (hst : stk = as.reverse ++ .ref o :: st) (hroom : (st.map fun v => v.category).sum ≤ 8) {d d1 mc ms : Nat} (hd1 : d1 + 1 ≤ d) {lv : List (Nat × Value)} {post post1 : Option (Option Value) → am_S → Prop} (hnt : ∀ σ', ¬ post1 none σ') (k1 : am_K g d1 T2.1 0 0 0 (lv_args 0 (.ref o :: as)) [] σ post1) (kk : ∀ v σ', post1 (some v) σ' → am_K g d T.1 mc ms (pc + 3) lv (v.toList ++ st) σ' post) : am_K g d T.1 mc ms pc lv stk σ post := by
  unfold ex_lk at hl
  simp only [hT2] at hl
  rw [Bool.and_eq_true, decide_eq_true_eq] at hl
  obtain ⟨m1, m2, m3, U, N, m4⟩ := ex_mok_V (G.2.2.2.1 mi2 T2 hT2) hm
  have h := kr_callV (mc := mc) (ms := ms) (mc1 := 0) (ms1 := 0) G.1 m4 ho m1 m2 m3 (ex_mlk_ok hl.2) hd hn hlen hst hroom hd1 hnt k1 kk
  rw [Nat.zero_add, Nat.zero_add] at h
  exact h
theorem lw_arg (G : sx_G0 g L xs z9 hd_C ex_mt) {pc i c d mc ms : Nat} (hi : i + c < L) (h1 : decode tL_law.1.2.1 pc = .ok (.aload_n 0, 1)) (h2 : decode tL_law.1.2.1 (pc + 1) = .ok (.iload 4, 2)) (h3 : decode tL_law.1.2.1 (pc + 3) = .ok (.iconst (c : Int), 1)) (h4 : decode tL_law.1.2.1 (pc + 4) = .ok (.iadd, 1)) (h5 : decode tL_law.1.2.1 (pc + 5) = .ok (.iaload, 1)) {st : List Value} {σ : am_S} {post : Option (Option Value) → am_S → Prop} (kk : am_K g d tL_law.1 mc ms (pc + 6) (lw_lw i) (.int (xs (i + c)) :: st) σ post) : am_K g d tL_law.1 mc ms pc (lw_lw i) st σ post := by
  have hL := G.2.2.1
  have hX : g.2.2.2.2.2.2 0 = some (L, xs) := by rw [G.2.1]; rfl
  refine kr_aXload_n 1 h1 rfl ?_
  refine kr_iload 0 h2 rfl ?_
  refine kr_iconst (v := Int32.ofNat c) h3 rfl ?_
  refine kr_iadd h4 ?_
  have e : (Int32.ofNat i + Int32.ofNat c).toInt = ((i + c : Nat) : Int) := by
    rw [← Int32.ofNat_add]
    exact hd_ti (by omega)
  refine kr_ialdX G.1 h5 hX (hd_in e hi) ?_
  rw [hd_clamp e]
  exact kk
theorem lw_kp {σ σ1 : am_S} {m : Nat} (hM1 : sx_M z9 hd_C σ m 0 σ1) (b1 : sx_bit m 18 = false) (b2 : sx_bit m 361 = false) (b3 : sx_bit m 19 = false) (b4 : sx_bit m 406 = false) : σ1.2.1 1 1 = σ.2.1 1 1 ∧ σ1.2.1 118 2 = σ.2.1 118 2 ∧ (∀ k, k < 940 → σ1.2.1 2 k = σ.2.1 2 k) ∧ ∀ k, k < 940 → σ1.2.1 119 k = σ.2.1 119 k := ⟨hM1.2.2.2.2.1 1 1 _ _ 18 rfl b1, hM1.2.2.2.2.1 118 2 _ _ 361 rfl b2, fun k hk => hM1.2.2.2.2.1 2 k _ _ 19 (rc_a2 hk) b3, fun k hk => hM1.2.2.2.2.1 119 k _ _ 406 (rd_a119 hk) b4⟩
theorem lw_callL (G : sx_G0 g L xs z9 hd_C ex_mt) {mi2 : Nat} {T T2 : ex_T} (hT2 : ex_mt mi2 = some T2) {pc i p n bc bs ci p1 p2 p3 p4 : Nat} (hd : decode T.1.2.1 pc = .ok (.invokestatic i, 3)) (hl : ex_lk ex_mt T pc (.invokestatic i) [0, mi2, p] = true) (hm : T2.2.1 = [0, n, bc, bs, ci, p1, p2, p3, p4]) (hh : T2.1.2.2.2.2 ≠ []) {σ : am_S} {as st stk : List Value} (hn : as.length = n) (hlen : (lg_sl as).length ≤ T2.1.2.2.1) (hst : stk = as.reverse ++ st) (hroom : (st.map fun v => v.category).sum ≤ 8) {d d1 mc ms : Nat} (hd1 : d1 + 1 ≤ d) {lv : List (Nat × Value)} {post post1 : Option (Option Value) → am_S → Prop} (hnt : ∀ σ', ¬ post1 none σ') (k1 : am_K g d1 T2.1 1 6 0 (lv_args 0 as) [] σ post1) (kk : ∀ v σ', post1 (some v) σ' → am_K g d T.1 mc ms (pc + 3) lv (v.toList ++ st) σ' post) : am_K g d T.1 (1 + mc) (6 + ms) pc lv stk σ post := by
  obtain ⟨m1, m2, m3⟩ := ex_mok_S (G.2.2.2.1 mi2 T2 hT2) hm
  unfold ex_lk at hl
  simp only [hT2] at hl
  rw [Bool.and_eq_true, decide_eq_true_eq] at hl
  exact kr_callSW G.1 (m2 hh) m3 (ex_mem_ok hl.2) hd hn hlen hst hroom hd1 hnt k1 kk
theorem ax_TL_n (v : Option Int32) (σ σ' : am_S) : ¬ ax_TL v σ none σ' := by
  cases v with
  | none => intro h; cases h.1
  | some y => intro h; cases h.1
theorem lw_M9 {σ : am_S} (hM : sx_M z9 hd_C σ 0 0 σ) (J : List am_sh) (l : Nat → Nat → Int64) : sx_M z9 hd_C (σ.1 ++ J, σ.2.1, l, σ.2.2.2) 0 0 (σ.1 ++ J, σ.2.1, l, σ.2.2.2) := by
  obtain ⟨h1, h2, h3, h4, h5, h6, h7, h8⟩ := hM
  refine ⟨fun o h q => ?_, h2, h3, h4, fun _ _ _ _ _ _ _ => rfl, h6, h7, fun _ => rfl, fun _ => rfl⟩
  have := h1 o h q
  show (σ.1 ++ J)[o]? = some h
  rw [List.getElem?_append_left (List.getElem?_eq_some_iff.mp this).1]
  exact this
theorem lw_cmp0 (x : Int64) : lg_cmp x x = 0 := by
  unfold lg_cmp
  simp
theorem lw_argX (G : sx_G0 g L xs z9 hd_C ex_mt) {pc i c l d mc ms : Nat} {v : Value} (hi : i + c < L) (h1 : decode tL_law.1.2.1 pc = .ok (.aload_n 0, 1)) (h2 : decode tL_law.1.2.1 (pc + 1) = .ok (.iload 4, 2)) (h3 : decode tL_law.1.2.1 (pc + 3) = .ok (.iconst (c : Int), 1)) (h4 : decode tL_law.1.2.1 (pc + 4) = .ok (.iadd, 1)) (h5 : decode tL_law.1.2.1 (pc + 5) = .ok (.iaload, 1)) {st : List Value} {σ : am_S} {post : Option (Option Value) → am_S → Prop} (kk : am_K g d tL_law.1 mc ms (pc + 6) ((l, v) :: lw_lw i) (.int (xs (i + c)) :: st) σ post) : am_K g d tL_law.1 mc ms pc ((l, v) :: lw_lw i) st σ post := by
  have hL := G.2.2.1
  have hX : g.2.2.2.2.2.2 0 = some (L, xs) := by rw [G.2.1]; rfl
  refine kr_aXload_n 2 h1 rfl ?_
  refine kr_iload 1 h2 rfl ?_
  refine kr_iconst (v := Int32.ofNat c) h3 rfl ?_
  refine kr_iadd h4 ?_
  have e : (Int32.ofNat i + Int32.ofNat c).toInt = ((i + c : Nat) : Int) := by
    rw [← Int32.ofNat_add]
    exact hd_ti (by omega)
  refine kr_ialdX G.1 h5 hX (hd_in e hi) ?_
  rw [hd_clamp e]
  exact kk
theorem lw_case0 (G : sx_G0 g L xs z9 hd_C ex_mt) (hct : lw_hct g) {n i : Nat} {σ : am_S} (hM : sx_M z9 hd_C σ 0 0 σ) (heq : lw_eq σ) (hi : i + 6 ≤ L) (next : ∀ σ' : am_S, i + 6 ≤ L → sx_M z9 hd_C σ' 0 0 σ' → lw_eq σ' → am_K g 100 tL_law.1 n (6 * n) 23 (lw_lw (i + 6)) [] σ' lw_post) : am_K g 100 tL_law.1 n (6 * n) 228 (lw_lw i) [] σ lw_post := by
  have k1 : (0 : Int) ≤ (σ.2.1 1 1).toInt := (hM.2.2.1 1 1 _ _ 18 rfl).1
  obtain ⟨N, hN⟩ : ∃ N : Nat, (σ.2.1 1 1).toInt = N := ⟨(σ.2.1 1 1).toInt.toNat, by omega⟩
  refine kr_aload_n 2 rd_d_L_law_228 rfl ?_
  refine lw_arg G (pc := 229) (c := 1) (by omega) rd_d_L_law_229 rd_d_L_law_230 rd_d_L_law_232 rd_d_L_law_233 rd_d_L_law_234 ?_
  refine lw_arg G (pc := 235) (c := 2) (by omega) rd_d_L_law_235 rd_d_L_law_236 rd_d_L_law_238 rd_d_L_law_239 rd_d_L_law_240 ?_
  refine lw_arg G (pc := 241) (c := 3) (by omega) rd_d_L_law_241 rd_d_L_law_242 rd_d_L_law_244 rd_d_L_law_245 rd_d_L_law_246 ?_
  refine lw_arg G (pc := 247) (c := 4) (by omega) rd_d_L_law_247 rd_d_L_law_248 rd_d_L_law_250 rd_d_L_law_251 rd_d_L_law_252 ?_
  refine lw_arg G (pc := 253) (c := 5) (by omega) rd_d_L_law_253 rd_d_L_law_254 rd_d_L_law_256 rd_d_L_law_257 rd_d_L_law_258 ?_
  refine lw_call G (T2 := tX11_feed) rfl rd_d_L_law_259 rd_k_L_law_259 rfl (hM.1 0 (.inl 11) rfl) (as := [.int (xs (i + 1)), .int (xs (i + 2)), .int (xs (i + 3)), .int (xs (i + 4)), .int (xs (i + 5))]) (st := []) rfl (Nat.le_of_ble_eq_true rfl) rfl (by decide) (d1 := 60) (by decide) (fun _ h => by obtain ⟨y, h, -⟩ := h; cases h) (lw_feedX G hct hM hN _ _ _ _ _) ?_
  intro v1 σ1 ⟨y1, hv1, hM1, hf1⟩
  cases hv1
  refine kr_pop rd_d_L_law_262 rfl ?_
  refine kr_aload_n 3 rd_d_L_law_263 rfl ?_
  refine lw_arg G (pc := 264) (c := 1) (by omega) rd_d_L_law_264 rd_d_L_law_265 rd_d_L_law_267 rd_d_L_law_268 rd_d_L_law_269 ?_
  refine lw_arg G (pc := 270) (c := 2) (by omega) rd_d_L_law_270 rd_d_L_law_271 rd_d_L_law_273 rd_d_L_law_274 rd_d_L_law_275 ?_
  refine lw_arg G (pc := 276) (c := 3) (by omega) rd_d_L_law_276 rd_d_L_law_277 rd_d_L_law_279 rd_d_L_law_280 rd_d_L_law_281 ?_
  refine lw_arg G (pc := 282) (c := 4) (by omega) rd_d_L_law_282 rd_d_L_law_283 rd_d_L_law_285 rd_d_L_law_286 rd_d_L_law_287 ?_
  refine lw_arg G (pc := 288) (c := 5) (by omega) rd_d_L_law_288 rd_d_L_law_289 rd_d_L_law_291 rd_d_L_law_292 rd_d_L_law_293 ?_
  have h2 : σ1.2.1 118 2 = σ.2.1 118 2 := hM1.2.2.2.2.1 118 2 _ _ 361 rfl (by decide +kernel)
  have hN1 : (σ1.2.1 118 2).toInt = N := by rw [h2, ← heq.1]; exact hN
  refine lw_call G (T2 := tX12_feed) rfl rd_d_L_law_294 rd_k_L_law_294 rfl (hM1.1 118 (.inl 12) rfl) (as := [.int (xs (i + 1)), .int (xs (i + 2)), .int (xs (i + 3)), .int (xs (i + 4)), .int (xs (i + 5))]) (st := []) rfl (Nat.le_of_ble_eq_true rfl) rfl (by decide) (d1 := 60) (by decide) (fun _ h => by obtain ⟨y, h, -⟩ := h; cases h) (lw_feedM G hct (sx_M_self hM1) hN1 _ _ _ _ _) ?_
  intro v2 σ2 ⟨y2, hv2, hM2, hf2⟩
  cases hv2
  refine kr_pop rd_d_L_law_297 rfl ?_
  refine kr_goto (tgt := 1540) rd_d_L_law_298 rfl ?_
  refine kr_iinc 0 rd_d_L_law_1540 rfl (v := Int32.ofNat (i + 6)) (by rw [Int32.ofNat_add]; rfl) (by decide) rfl ?_
  refine kr_goto (tgt := 23) rd_d_L_law_1543 rfl ?_
  refine next σ2 hi (sx_M_self hM2) ⟨?_, fun k hk => ?_, rp_keep (sx_M_self hM1) hM2 (by decide +kernel) (rp_keep hM hM1 (by decide +kernel) heq.2.2)⟩
  · have e1 : σ2.2.1 1 1 = σ1.2.1 1 1 := hM2.2.2.2.2.1 1 1 _ _ 18 rfl (by decide +kernel)
    rw [e1]
    apply Int32.toInt_inj.mp
    rcases hf1 with ⟨a1, a2, -⟩ | ⟨a1, a2, -⟩
    · rcases hf2 with ⟨b1, b2, -⟩ | ⟨b1, b2, -⟩
      · rw [a2, b2]
      · omega
    · rcases hf2 with ⟨b1, b2, -⟩ | ⟨b1, b2, -⟩
      · omega
      · rw [a2, b2]
  · have e1 : σ2.2.1 2 k = σ1.2.1 2 k := hM2.2.2.2.2.1 2 k _ _ 19 (rc_a2 hk) (by decide +kernel)
    have e2 : ∀ j, j < 940 → σ.2.1 2 j = σ1.2.1 119 j := fun j hj => (heq.2.1 j hj).trans (hM1.2.2.2.2.1 119 j _ _ 406 (rd_a119 hj) (by decide +kernel)).symm
    rw [e1]
    rcases hf1 with ⟨a1, -, a3⟩ | ⟨a1, -, a3⟩
    · rcases hf2 with ⟨b1, -, b3⟩ | ⟨b1, -, b3⟩
      · rw [a3 k hk, b3 k hk]
        exact fd_5_eq e2 N _ _ _ _ _ k hk
      · omega
    · rcases hf2 with ⟨b1, -, b3⟩ | ⟨b1, -, b3⟩
      · omega
      · rw [a3 k hk, b3 k hk]
        exact e2 k hk
theorem lw_case2 (G : sx_G0 g L xs z9 hd_C ex_mt) (hct : lw_hct g) {n i : Nat} {σ : am_S} (hM : sx_M z9 hd_C σ 0 0 σ) (heq : lw_eq σ) (hi : i + 6 ≤ L) (next : ∀ σ' : am_S, i + 6 ≤ L → sx_M z9 hd_C σ' 0 0 σ' → lw_eq σ' → am_K g 100 tL_law.1 n (6 * n) 23 (lw_lw (i + 6)) [] σ' lw_post) : am_K g 100 tL_law.1 n (6 * n) 326 (lw_lw i) [] σ lw_post := by
  have k1 : (0 : Int) ≤ (σ.2.1 1 1).toInt := (hM.2.2.1 1 1 _ _ 18 rfl).1
  obtain ⟨N, hN⟩ : ∃ N : Nat, (σ.2.1 1 1).toInt = N := ⟨(σ.2.1 1 1).toInt.toNat, by omega⟩
  refine kr_aload_n 2 rd_d_L_law_326 rfl ?_
  refine lw_call G (T2 := tX11_station) rfl rd_d_L_law_327 rd_k_L_law_327 rfl (hM.1 0 (.inl 11) rfl) (as := []) (st := []) rfl (Nat.le_of_ble_eq_true rfl) rfl (by decide) (d1 := 60) (by decide) (fun _ h => by obtain ⟨y, h, -⟩ := h; cases h) (lw_stX7 G hct hM (b := rd_by (σ.2.1 2)) (fun _ _ => rfl) hN) ?_
  intro v1 σ1 ⟨y1, hv1, hM1, hz1, ha1, hs1⟩
  cases hv1
  refine kr_pop rd_d_L_law_330 rfl ?_
  refine kr_aload_n 3 rd_d_L_law_331 rfl ?_
  have h2 : σ1.2.1 118 2 = σ.2.1 118 2 := hM1.2.2.2.2.1 118 2 _ _ 361 rfl (by decide +kernel)
  have hN1 : (σ1.2.1 118 2).toInt = N := by rw [h2, ← heq.1]; exact hN
  have h9 : ∀ k, k < 940 → σ1.2.1 119 k = σ.2.1 2 k := fun k hk => (hM1.2.2.2.2.1 119 k _ _ 406 (rd_a119 hk) (by decide +kernel)).trans (heq.2.1 k hk).symm
  refine lw_call G (T2 := tX12_station) rfl rd_d_L_law_332 rd_k_L_law_332 rfl (hM1.1 118 (.inl 12) rfl) (as := []) (st := []) rfl (Nat.le_of_ble_eq_true rfl) rfl (Nat.le_of_ble_eq_true rfl) (d1 := 60) (by decide) (fun _ h => by obtain ⟨⟨y, h, -⟩, -⟩ := h; cases h) (lw_stM5 G hct (sx_M_self hM1) (b := rd_by (σ.2.1 2)) (rd_by_le _) (fun k hk => by unfold rd_by; rw [h9 k hk]) hN1) ?_
  intro v2 σ2 ⟨⟨y2, hv2, hM2, hz2, ha2⟩, hs2⟩
  cases hv2
  refine kr_pop rd_d_L_law_335 rfl ?_
  refine kr_goto (tgt := 1540) rd_d_L_law_336 rfl ?_
  refine kr_iinc 0 rd_d_L_law_1540 rfl (v := Int32.ofNat (i + 6)) (by rw [Int32.ofNat_add]; rfl) (by decide) rfl ?_
  refine kr_goto (tgt := 23) rd_d_L_law_1543 rfl ?_
  refine next σ2 hi (sx_M_self hM2) ⟨?_, fun k hk => ?_, rp_st hM heq.2.2 hM1 hs1 hM2 hs2⟩
  · have e1 : σ2.2.1 1 1 = σ1.2.1 1 1 := hM2.2.2.2.2.1 1 1 _ _ 18 rfl (by decide +kernel)
    rw [e1]
    apply Int32.toInt_inj.mp
    omega
  · have e1 : σ2.2.1 2 k = σ1.2.1 2 k := hM2.2.2.2.2.1 2 k _ _ 19 (rc_a2 hk) (by decide +kernel)
    have e2 : σ1.2.1 2 k = σ.2.1 2 k := hM1.2.2.2.2.1 2 k _ _ 19 (rc_a2 hk) (by decide +kernel)
    have e3 : σ2.2.1 119 k = σ1.2.1 119 k := hM2.2.2.2.2.1 119 k _ _ 406 (rd_a119 hk) (by decide +kernel)
    rw [e1, e2, e3, h9 k hk]
theorem lw_case40 (G : sx_G0 g L xs z9 hd_C ex_mt) (hct : lw_hct g) {n i : Nat} {σ : am_S} (hM : sx_M z9 hd_C σ 0 0 σ) (heq : lw_eq σ) (hi : i + 6 ≤ L) (next : ∀ σ' : am_S, i + 6 ≤ L → sx_M z9 hd_C σ' 0 0 σ' → lw_eq σ' → am_K g 100 tL_law.1 n (6 * n) 23 (lw_lw (i + 6)) [] σ' lw_post) : am_K g 100 tL_law.1 n (6 * n) 1465 (lw_lw i) [] σ lw_post := by
  refine kr_aload_n 2 rd_d_L_law_1465 rfl ?_
  refine lw_arg G (pc := 1466) (c := 1) (by omega) rd_d_L_law_1466 rd_d_L_law_1467 rd_d_L_law_1469 rd_d_L_law_1470 rd_d_L_law_1471 ?_
  refine lw_call G (T2 := tX11_image) rfl rd_d_L_law_1472 rd_k_L_law_1472 rfl (hM.1 0 (.inl 11) rfl) (as := [.int (xs (i + 1))]) (st := []) rfl (Nat.le_of_ble_eq_true rfl) rfl (Nat.le_of_ble_eq_true rfl) (d1 := 60) (by decide) (fun _ h => by obtain ⟨y, h, -⟩ := h; cases h) (lw_imX G hct hM _) ?_
  intro v1 σ1 ⟨y1, hv1, hM1, hp1⟩
  cases hv1
  refine kr_pop rd_d_L_law_1475 rfl ?_
  refine kr_aload_n 3 rd_d_L_law_1476 rfl ?_
  refine lw_arg G (pc := 1477) (c := 1) (by omega) rd_d_L_law_1477 rd_d_L_law_1478 rd_d_L_law_1480 rd_d_L_law_1481 rd_d_L_law_1482 ?_
  refine lw_call G (T2 := tX12_image) rfl rd_d_L_law_1483 rd_k_L_law_1483 rfl (hM1.1 118 (.inl 12) rfl) (as := [.int (xs (i + 1))]) (st := []) rfl (Nat.le_of_ble_eq_true rfl) rfl (Nat.le_of_ble_eq_true rfl) (d1 := 60) (by decide) (fun _ h => by obtain ⟨y, h, -⟩ := h; cases h) (lw_imM G hct (sx_M_self hM1) _) ?_
  intro v2 σ2 ⟨y2, hv2, hM2, hp2⟩
  cases hv2
  refine kr_pop rd_d_L_law_1486 rfl ?_
  refine kr_goto (tgt := 1540) rd_d_L_law_1487 rfl ?_
  refine kr_iinc 0 rd_d_L_law_1540 rfl (v := Int32.ofNat (i + 6)) (by rw [Int32.ofNat_add]; rfl) (by decide) rfl ?_
  refine kr_goto (tgt := 23) rd_d_L_law_1543 rfl ?_
  have K1 := lw_kp hM1 (by decide +kernel) (by decide +kernel) (by decide +kernel) (by decide +kernel)
  have K2 := lw_kp hM2 (by decide +kernel) (by decide +kernel) (by decide +kernel) (by decide +kernel)
  exact next σ2 hi (sx_M_self hM2) ⟨by rw [K2.1, K2.2.1, K1.1, K1.2.1]; exact heq.1, fun k hk => by rw [K2.2.2.1 k hk, K2.2.2.2 k hk, K1.2.2.1 k hk, K1.2.2.2 k hk]; exact heq.2.1 k hk, rp_image hM heq.2.2 hM1 hp1 hM2 hp2⟩
theorem lw_case41 (G : sx_G0 g L xs z9 hd_C ex_mt) (hct : lw_hct g) {n i : Nat} {σ : am_S} (hM : sx_M z9 hd_C σ 0 0 σ) (heq : lw_eq σ) (hi : i + 6 ≤ L) (next : ∀ σ' : am_S, i + 6 ≤ L → sx_M z9 hd_C σ' 0 0 σ' → lw_eq σ' → am_K g 100 tL_law.1 n (6 * n) 23 (lw_lw (i + 6)) [] σ' lw_post) : am_K g 100 tL_law.1 n (6 * n) 1490 (lw_lw i) [] σ lw_post := by
  refine kr_aload_n 2 rd_d_L_law_1490 rfl ?_
  refine lw_arg G (pc := 1491) (c := 1) (by omega) rd_d_L_law_1491 rd_d_L_law_1492 rd_d_L_law_1494 rd_d_L_law_1495 rd_d_L_law_1496 ?_
  refine lw_call G (T2 := tX11_restore) rfl rd_d_L_law_1497 rd_k_L_law_1497 rfl (hM.1 0 (.inl 11) rfl) (as := [.int (xs (i + 1))]) (st := []) rfl (Nat.le_of_ble_eq_true rfl) rfl (Nat.le_of_ble_eq_true rfl) (d1 := 60) (by decide) (fun _ h => by obtain ⟨y, h, -⟩ := h; cases h) (lw_reX2 G hct hM _) ?_
  intro v1 σ1 ⟨y1, hv1, hM1, hp1⟩
  cases hv1
  refine kr_pop rd_d_L_law_1500 rfl ?_
  refine kr_aload_n 3 rd_d_L_law_1501 rfl ?_
  refine lw_arg G (pc := 1502) (c := 1) (by omega) rd_d_L_law_1502 rd_d_L_law_1503 rd_d_L_law_1505 rd_d_L_law_1506 rd_d_L_law_1507 ?_
  refine lw_call G (T2 := tX12_restore) rfl rd_d_L_law_1508 rd_k_L_law_1508 rfl (hM1.1 118 (.inl 12) rfl) (as := [.int (xs (i + 1))]) (st := []) rfl (Nat.le_of_ble_eq_true rfl) rfl (Nat.le_of_ble_eq_true rfl) (d1 := 60) (by decide) (fun _ h => by obtain ⟨y, h, -⟩ := h; cases h) (lw_reM G hct (sx_M_self hM1) _) ?_
  intro v2 σ2 ⟨y2, hv2, hM2, hp2⟩
  cases hv2
  refine kr_pop rd_d_L_law_1511 rfl ?_
  refine kr_goto (tgt := 1540) rd_d_L_law_1512 rfl ?_
  refine kr_iinc 0 rd_d_L_law_1540 rfl (v := Int32.ofNat (i + 6)) (by rw [Int32.ofNat_add]; rfl) (by decide) rfl ?_
  refine kr_goto (tgt := 23) rd_d_L_law_1543 rfl ?_
  have K1 := lw_kp hM1 (by decide +kernel) (by decide +kernel) (by decide +kernel) (by decide +kernel)
  have K2 := lw_kp hM2 (by decide +kernel) (by decide +kernel) (by decide +kernel) (by decide +kernel)
  exact next σ2 hi (sx_M_self hM2) ⟨by rw [K2.1, K2.2.1, K1.1, K1.2.1]; exact heq.1, fun k hk => by rw [K2.2.2.1 k hk, K2.2.2.2 k hk, K1.2.2.1 k hk, K1.2.2.2 k hk]; exact heq.2.1 k hk, rp_restore hM heq.2.2 hM1 hp1 hM2 hp2⟩
theorem lw_case19 (G : sx_G0 g L xs z9 hd_C ex_mt) (hct : lw_hct g) {n i : Nat} {σ : am_S} (hM : sx_M z9 hd_C σ 0 0 σ) (heq : lw_eq σ) (hi : i + 6 ≤ L) (next : ∀ σ' : am_S, i + 6 ≤ L → sx_M z9 hd_C σ' 0 0 σ' → lw_eq σ' → am_K g 100 tL_law.1 n (6 * n) 23 (lw_lw (i + 6)) [] σ' lw_post) : am_K g 100 tL_law.1 (1 + n) (6 + 6 * n) 796 (lw_lw i) [] σ lw_post := by
  refine kr_aload_n 2 rd_d_L_law_796 rfl ?_
  refine lw_arg G (pc := 797) (c := 1) (by omega) rd_d_L_law_797 rd_d_L_law_798 rd_d_L_law_800 rd_d_L_law_801 rd_d_L_law_802 ?_
  refine lw_arg G (pc := 803) (c := 2) (by omega) rd_d_L_law_803 rd_d_L_law_804 rd_d_L_law_806 rd_d_L_law_807 rd_d_L_law_808 ?_
  refine lw_arg G (pc := 809) (c := 3) (by omega) rd_d_L_law_809 rd_d_L_law_810 rd_d_L_law_812 rd_d_L_law_813 rd_d_L_law_814 ?_
  refine lw_arg G (pc := 815) (c := 4) (by omega) rd_d_L_law_815 rd_d_L_law_816 rd_d_L_law_818 rd_d_L_law_819 rd_d_L_law_820 ?_
  refine kr_aload_n 4 rd_d_L_law_821 rfl ?_
  refine lw_callL G (T2 := tL_plan) rfl rd_d_L_law_822 rd_k_L_law_822 rfl (by decide) (as := [.ref 0, .int (xs (i + 1)), .int (xs (i + 2)), .int (xs (i + 3)), .int (xs (i + 4)), .ref 138]) (st := []) rfl (Nat.le_of_ble_eq_true rfl) rfl (Nat.le_of_ble_eq_true rfl) (d1 := 60) (by decide) (fun _ h => by obtain ⟨y, h, -⟩ := h; cases h) (lw_kL_plan G hct hM heq.2.2 _ _ _ _) ?_
  intro v1 σ1 ⟨y1, hv1, ha1, hM1, hp1⟩
  cases hv1
  have e1 := rl_o0 (o := 120) (n := 277) hM1 (by decide +kernel)
  refine lw_tK (σ := σ) (hM1.1 120 (.inr (.int, 277)) rfl) e1 ?_
  obtain ⟨hT, hrT⟩ := rp_t G.2.2.2.2.2.1 hM hM1 (by decide +kernel) (by decide +kernel) heq.2.2 hp1
  have ht1 := lw_t120 σ σ1
  have ht2 : (lw_t σ σ1).2.2.1 = σ1.2.2.1 := rfl
  have ht3 : (lw_t σ σ1).2.1 1 1 = σ1.2.1 1 1 := rfl
  generalize lw_t σ σ1 = τ at hT hrT ht1 ht2 ht3 ⊢
  refine kr_istore (lv' := [(5, .int y1), (4, .int (Int32.ofNat i)), (0, .retAddr 0), (1, .ref 0), (2, .ref 118), (3, .ref 138)]) rd_d_L_law_825 (by decide) rfl ?_
  refine kr_aload_n 4 rd_d_L_law_827 rfl ?_
  refine lw_argX G (pc := 828) (c := 1) (l := 5) (by omega) rd_d_L_law_828 rd_d_L_law_829 rd_d_L_law_831 rd_d_L_law_832 rd_d_L_law_833 ?_
  refine lw_argX G (pc := 834) (c := 2) (l := 5) (by omega) rd_d_L_law_834 rd_d_L_law_835 rd_d_L_law_837 rd_d_L_law_838 rd_d_L_law_839 ?_
  refine lw_argX G (pc := 840) (c := 3) (l := 5) (by omega) rd_d_L_law_840 rd_d_L_law_841 rd_d_L_law_843 rd_d_L_law_844 rd_d_L_law_845 ?_
  refine lw_argX G (pc := 846) (c := 4) (l := 5) (by omega) rd_d_L_law_846 rd_d_L_law_847 rd_d_L_law_849 rd_d_L_law_850 rd_d_L_law_851 ?_
  refine lw_call G (T2 := tX12_plan) rfl rd_d_L_law_852 rd_k_L_law_852 rfl (hT.1 118 (.inl 12) rfl) (as := [.int (xs (i + 1)), .int (xs (i + 2)), .int (xs (i + 3)), .int (xs (i + 4))]) (st := []) rfl (Nat.le_of_ble_eq_true rfl) rfl (Nat.le_of_ble_eq_true rfl) (d1 := 60) (by decide) (fun _ h => by obtain ⟨y, h, -⟩ := h; cases h) (lw_cv_X12_plan G hct (sx_M_self hT) _ _ _ _) ?_
  intro v2 σ2 ⟨y2, hv2, hM2⟩
  cases hv2
  refine kr_istore (lv' := [(6, .int y2), (5, .int y1), (4, .int (Int32.ofNat i)), (0, .retAddr 0), (1, .ref 0), (2, .ref 118), (3, .ref 138)]) rd_d_L_law_855 (by decide) rfl ?_
  refine kr_sub (lv' := lw_lw i) (by simp) ?_
  refine kr_goto (tgt := 1540) rd_d_L_law_857 rfl ?_
  refine kr_iinc 0 rd_d_L_law_1540 rfl (v := Int32.ofNat (i + 6)) (by rw [Int32.ofNat_add]; rfl) (by decide) rfl ?_
  refine kr_goto (tgt := 23) rd_d_L_law_1543 rfl ?_
  have K1 := lw_kp hT (by decide +kernel) (by decide +kernel) (by decide +kernel) (by decide +kernel)
  have K2 := lw_kp hM2 (by decide +kernel) (by decide +kernel) (by decide +kernel) (by decide +kernel)
  exact next σ2 hi (sx_M_self hM2) ⟨by rw [K2.1, K2.2.1, K1.1, K1.2.1]; exact heq.1, fun k hk => by rw [K2.2.2.1 k hk, K2.2.2.2 k hk, K1.2.2.1 k hk, K1.2.2.2 k hk]; exact heq.2.1 k hk, rp_keep (sx_M_self hT) hM2 (by decide +kernel) hrT⟩
theorem lw_case20 (G : sx_G0 g L xs z9 hd_C ex_mt) (hct : lw_hct g) {n i : Nat} {σ : am_S} (hM : sx_M z9 hd_C σ 0 0 σ) (heq : lw_eq σ) (hi : i + 6 ≤ L) (next : ∀ σ' : am_S, i + 6 ≤ L → sx_M z9 hd_C σ' 0 0 σ' → lw_eq σ' → am_K g 100 tL_law.1 n (6 * n) 23 (lw_lw (i + 6)) [] σ' lw_post) : am_K g 100 tL_law.1 n (6 * n) 860 (lw_lw i) [] σ lw_post := by
  refine kr_aload_n 2 rd_d_L_law_860 rfl ?_
  refine lw_arg G (pc := 861) (c := 1) (by omega) rd_d_L_law_861 rd_d_L_law_862 rd_d_L_law_864 rd_d_L_law_865 rd_d_L_law_866 ?_
  refine lw_call G (T2 := tX11_best) rfl rd_d_L_law_867 rd_k_L_law_867 rfl (hM.1 0 (.inl 11) rfl) (as := [.int (xs (i + 1))]) (st := []) rfl (Nat.le_of_ble_eq_true rfl) rfl (Nat.le_of_ble_eq_true rfl) (d1 := 60) (by decide) (fun _ h => by obtain ⟨y, h, -⟩ := h; cases h) (lw_kX_best G hct hM heq.2.2 _) ?_
  intro v1 σ1 ⟨y1, hv1, ha1, hM1, hp1⟩
  cases hv1
  have e1 := rl_o0 (o := 120) (n := 277) hM1 (by decide +kernel)
  refine lw_tK (σ := σ) (hM1.1 120 (.inr (.int, 277)) rfl) e1 ?_
  obtain ⟨hT, hrT⟩ := rp_t G.2.2.2.2.2.1 hM hM1 (by decide +kernel) (by decide +kernel) heq.2.2 hp1
  have ht1 := lw_t120 σ σ1
  have ht2 : (lw_t σ σ1).2.2.1 = σ1.2.2.1 := rfl
  have ht3 : (lw_t σ σ1).2.1 1 1 = σ1.2.1 1 1 := rfl
  generalize lw_t σ σ1 = τ at hT hrT ht1 ht2 ht3 ⊢
  refine kr_pop rd_d_L_law_870 rfl ?_
  refine kr_aload_n 3 rd_d_L_law_871 rfl ?_
  refine lw_arg G (pc := 872) (c := 1) (by omega) rd_d_L_law_872 rd_d_L_law_873 rd_d_L_law_875 rd_d_L_law_876 rd_d_L_law_877 ?_
  refine lw_call G (T2 := tX12_best) rfl rd_d_L_law_878 rd_k_L_law_878 rfl (hT.1 118 (.inl 12) rfl) (as := [.int (xs (i + 1))]) (st := []) rfl (Nat.le_of_ble_eq_true rfl) rfl (Nat.le_of_ble_eq_true rfl) (d1 := 60) (by decide) (fun _ h => by obtain ⟨y, h, -⟩ := h; cases h) (lw_cv_X12_best G hct (sx_M_self hT) _) ?_
  intro v2 σ2 ⟨y2, hv2, hM2⟩
  cases hv2
  refine kr_pop rd_d_L_law_881 rfl ?_
  refine kr_goto (tgt := 1540) rd_d_L_law_882 rfl ?_
  refine kr_iinc 0 rd_d_L_law_1540 rfl (v := Int32.ofNat (i + 6)) (by rw [Int32.ofNat_add]; rfl) (by decide) rfl ?_
  refine kr_goto (tgt := 23) rd_d_L_law_1543 rfl ?_
  have K1 := lw_kp hT (by decide +kernel) (by decide +kernel) (by decide +kernel) (by decide +kernel)
  have K2 := lw_kp hM2 (by decide +kernel) (by decide +kernel) (by decide +kernel) (by decide +kernel)
  exact next σ2 hi (sx_M_self hM2) ⟨by rw [K2.1, K2.2.1, K1.1, K1.2.1]; exact heq.1, fun k hk => by rw [K2.2.2.1 k hk, K2.2.2.2 k hk, K1.2.2.1 k hk, K1.2.2.2 k hk]; exact heq.2.1 k hk, rp_keep (sx_M_self hT) hM2 (by decide +kernel) hrT⟩
theorem lw_case21 (G : sx_G0 g L xs z9 hd_C ex_mt) (hct : lw_hct g) {n i : Nat} {σ : am_S} (hM : sx_M z9 hd_C σ 0 0 σ) (heq : lw_eq σ) (hi : i + 6 ≤ L) (next : ∀ σ' : am_S, i + 6 ≤ L → sx_M z9 hd_C σ' 0 0 σ' → lw_eq σ' → am_K g 100 tL_law.1 n (6 * n) 23 (lw_lw (i + 6)) [] σ' lw_post) : am_K g 100 tL_law.1 n (6 * n) 885 (lw_lw i) [] σ lw_post := by
  refine kr_aload_n 2 rd_d_L_law_885 rfl ?_
  refine lw_arg G (pc := 886) (c := 1) (by omega) rd_d_L_law_886 rd_d_L_law_887 rd_d_L_law_889 rd_d_L_law_890 rd_d_L_law_891 ?_
  refine lw_arg G (pc := 892) (c := 2) (by omega) rd_d_L_law_892 rd_d_L_law_893 rd_d_L_law_895 rd_d_L_law_896 rd_d_L_law_897 ?_
  refine lw_call G (T2 := tX11_sale) rfl rd_d_L_law_898 rd_k_L_law_898 rfl (hM.1 0 (.inl 11) rfl) (as := [.int (xs (i + 1)), .int (xs (i + 2))]) (st := []) rfl (Nat.le_of_ble_eq_true rfl) rfl (Nat.le_of_ble_eq_true rfl) (d1 := 60) (by decide) (fun _ h => by obtain ⟨y, h, -⟩ := h; cases h) (lw_kX_sale G hct hM heq.2.2 _ _) ?_
  intro v1 σ1 ⟨y1, hv1, ha1, hM1, hp1⟩
  cases hv1
  have e1 := rl_o0 (o := 120) (n := 277) hM1 (by decide +kernel)
  refine lw_tK (σ := σ) (hM1.1 120 (.inr (.int, 277)) rfl) e1 ?_
  obtain ⟨hT, hrT⟩ := rp_t G.2.2.2.2.2.1 hM hM1 (by decide +kernel) (by decide +kernel) heq.2.2 hp1
  have ht1 := lw_t120 σ σ1
  have ht2 : (lw_t σ σ1).2.2.1 = σ1.2.2.1 := rfl
  have ht3 : (lw_t σ σ1).2.1 1 1 = σ1.2.1 1 1 := rfl
  generalize lw_t σ σ1 = τ at hT hrT ht1 ht2 ht3 ⊢
  refine kr_pop rd_d_L_law_901 rfl ?_
  refine kr_aload_n 3 rd_d_L_law_902 rfl ?_
  refine lw_arg G (pc := 903) (c := 1) (by omega) rd_d_L_law_903 rd_d_L_law_904 rd_d_L_law_906 rd_d_L_law_907 rd_d_L_law_908 ?_
  refine lw_arg G (pc := 909) (c := 2) (by omega) rd_d_L_law_909 rd_d_L_law_910 rd_d_L_law_912 rd_d_L_law_913 rd_d_L_law_914 ?_
  refine lw_call G (T2 := tX12_sale) rfl rd_d_L_law_915 rd_k_L_law_915 rfl (hT.1 118 (.inl 12) rfl) (as := [.int (xs (i + 1)), .int (xs (i + 2))]) (st := []) rfl (Nat.le_of_ble_eq_true rfl) rfl (Nat.le_of_ble_eq_true rfl) (d1 := 60) (by decide) (fun _ h => by obtain ⟨y, h, -⟩ := h; cases h) (lw_cv_X12_sale G hct (sx_M_self hT) _ _) ?_
  intro v2 σ2 ⟨y2, hv2, hM2⟩
  cases hv2
  refine kr_pop rd_d_L_law_918 rfl ?_
  refine kr_goto (tgt := 1540) rd_d_L_law_919 rfl ?_
  refine kr_iinc 0 rd_d_L_law_1540 rfl (v := Int32.ofNat (i + 6)) (by rw [Int32.ofNat_add]; rfl) (by decide) rfl ?_
  refine kr_goto (tgt := 23) rd_d_L_law_1543 rfl ?_
  have K1 := lw_kp hT (by decide +kernel) (by decide +kernel) (by decide +kernel) (by decide +kernel)
  have K2 := lw_kp hM2 (by decide +kernel) (by decide +kernel) (by decide +kernel) (by decide +kernel)
  exact next σ2 hi (sx_M_self hM2) ⟨by rw [K2.1, K2.2.1, K1.1, K1.2.1]; exact heq.1, fun k hk => by rw [K2.2.2.1 k hk, K2.2.2.2 k hk, K1.2.2.1 k hk, K1.2.2.2 k hk]; exact heq.2.1 k hk, rp_keep (sx_M_self hT) hM2 (by decide +kernel) hrT⟩
theorem lw_case22 (G : sx_G0 g L xs z9 hd_C ex_mt) (hct : lw_hct g) {n i : Nat} {σ : am_S} (hM : sx_M z9 hd_C σ 0 0 σ) (heq : lw_eq σ) (hi : i + 6 ≤ L) (next : ∀ σ' : am_S, i + 6 ≤ L → sx_M z9 hd_C σ' 0 0 σ' → lw_eq σ' → am_K g 100 tL_law.1 n (6 * n) 23 (lw_lw (i + 6)) [] σ' lw_post) : am_K g 100 tL_law.1 n (6 * n) 922 (lw_lw i) [] σ lw_post := by
  refine kr_aload_n 2 rd_d_L_law_922 rfl ?_
  refine lw_call G (T2 := tX11_sellers) rfl rd_d_L_law_923 rd_k_L_law_923 rfl (hM.1 0 (.inl 11) rfl) (as := []) (st := []) rfl (Nat.le_of_ble_eq_true rfl) rfl (Nat.le_of_ble_eq_true rfl) (d1 := 60) (by decide) (fun _ h => by obtain ⟨y, h, -⟩ := h; cases h) (lw_kX_sellers G hct hM heq.2.2) ?_
  intro v1 σ1 ⟨y1, hv1, ha1, hM1, hp1⟩
  cases hv1
  have e1 := rl_o0 (o := 120) (n := 277) hM1 (by decide +kernel)
  refine lw_tK (σ := σ) (hM1.1 120 (.inr (.int, 277)) rfl) e1 ?_
  obtain ⟨hT, hrT⟩ := rp_t G.2.2.2.2.2.1 hM hM1 (by decide +kernel) (by decide +kernel) heq.2.2 hp1
  have ht1 := lw_t120 σ σ1
  have ht2 : (lw_t σ σ1).2.2.1 = σ1.2.2.1 := rfl
  have ht3 : (lw_t σ σ1).2.1 1 1 = σ1.2.1 1 1 := rfl
  generalize lw_t σ σ1 = τ at hT hrT ht1 ht2 ht3 ⊢
  refine kr_pop rd_d_L_law_926 rfl ?_
  refine kr_aload_n 3 rd_d_L_law_927 rfl ?_
  refine lw_call G (T2 := tX12_sellers) rfl rd_d_L_law_928 rd_k_L_law_928 rfl (hT.1 118 (.inl 12) rfl) (as := []) (st := []) rfl (Nat.le_of_ble_eq_true rfl) rfl (Nat.le_of_ble_eq_true rfl) (d1 := 60) (by decide) (fun _ h => by obtain ⟨y, h, -⟩ := h; cases h) (lw_cv_X12_sellers G hct (sx_M_self hT)) ?_
  intro v2 σ2 ⟨y2, hv2, hM2⟩
  cases hv2
  refine kr_pop rd_d_L_law_931 rfl ?_
  refine kr_goto (tgt := 1540) rd_d_L_law_932 rfl ?_
  refine kr_iinc 0 rd_d_L_law_1540 rfl (v := Int32.ofNat (i + 6)) (by rw [Int32.ofNat_add]; rfl) (by decide) rfl ?_
  refine kr_goto (tgt := 23) rd_d_L_law_1543 rfl ?_
  have K1 := lw_kp hT (by decide +kernel) (by decide +kernel) (by decide +kernel) (by decide +kernel)
  have K2 := lw_kp hM2 (by decide +kernel) (by decide +kernel) (by decide +kernel) (by decide +kernel)
  exact next σ2 hi (sx_M_self hM2) ⟨by rw [K2.1, K2.2.1, K1.1, K1.2.1]; exact heq.1, fun k hk => by rw [K2.2.2.1 k hk, K2.2.2.2 k hk, K1.2.2.1 k hk, K1.2.2.2 k hk]; exact heq.2.1 k hk, rp_keep (sx_M_self hT) hM2 (by decide +kernel) hrT⟩
theorem lw_case23 (G : sx_G0 g L xs z9 hd_C ex_mt) (hct : lw_hct g) {n i : Nat} {σ : am_S} (hM : sx_M z9 hd_C σ 0 0 σ) (heq : lw_eq σ) (hi : i + 6 ≤ L) (next : ∀ σ' : am_S, i + 6 ≤ L → sx_M z9 hd_C σ' 0 0 σ' → lw_eq σ' → am_K g 100 tL_law.1 n (6 * n) 23 (lw_lw (i + 6)) [] σ' lw_post) : am_K g 100 tL_law.1 (1 + n) (6 + 6 * n) 935 (lw_lw i) [] σ lw_post := by
  refine kr_aload_n 2 rd_d_L_law_935 rfl ?_
  refine lw_arg G (pc := 936) (c := 1) (by omega) rd_d_L_law_936 rd_d_L_law_937 rd_d_L_law_939 rd_d_L_law_940 rd_d_L_law_941 ?_
  refine lw_arg G (pc := 942) (c := 2) (by omega) rd_d_L_law_942 rd_d_L_law_943 rd_d_L_law_945 rd_d_L_law_946 rd_d_L_law_947 ?_
  refine lw_arg G (pc := 948) (c := 3) (by omega) rd_d_L_law_948 rd_d_L_law_949 rd_d_L_law_951 rd_d_L_law_952 rd_d_L_law_953 ?_
  refine kr_aload_n 4 rd_d_L_law_954 rfl ?_
  refine lw_callL G (T2 := tL_earns) rfl rd_d_L_law_955 rd_k_L_law_955 rfl (by decide) (as := [.ref 0, .int (xs (i + 1)), .int (xs (i + 2)), .int (xs (i + 3)), .ref 138]) (st := []) rfl (Nat.le_of_ble_eq_true rfl) rfl (Nat.le_of_ble_eq_true rfl) (d1 := 60) (by decide) (fun _ h => by obtain ⟨y, h, -⟩ := h; cases h) (lw_kL_earns G hct hM heq.2.2 _ _ _) ?_
  intro v1 σ1 ⟨y1, hv1, ha1, hM1, hp1⟩
  cases hv1
  have e1 := rl_o0 (o := 120) (n := 277) hM1 (by decide +kernel)
  refine lw_tK (σ := σ) (hM1.1 120 (.inr (.int, 277)) rfl) e1 ?_
  obtain ⟨hT, hrT⟩ := rp_t G.2.2.2.2.2.1 hM hM1 (by decide +kernel) (by decide +kernel) heq.2.2 hp1
  have ht1 := lw_t120 σ σ1
  have ht2 : (lw_t σ σ1).2.2.1 = σ1.2.2.1 := rfl
  have ht3 : (lw_t σ σ1).2.1 1 1 = σ1.2.1 1 1 := rfl
  generalize lw_t σ σ1 = τ at hT hrT ht1 ht2 ht3 ⊢
  refine kr_istore (lv' := [(5, .int y1), (4, .int (Int32.ofNat i)), (0, .retAddr 0), (1, .ref 0), (2, .ref 118), (3, .ref 138)]) rd_d_L_law_958 (by decide) rfl ?_
  refine kr_aload_n 4 rd_d_L_law_960 rfl ?_
  refine lw_argX G (pc := 961) (c := 1) (l := 5) (by omega) rd_d_L_law_961 rd_d_L_law_962 rd_d_L_law_964 rd_d_L_law_965 rd_d_L_law_966 ?_
  refine lw_argX G (pc := 967) (c := 2) (l := 5) (by omega) rd_d_L_law_967 rd_d_L_law_968 rd_d_L_law_970 rd_d_L_law_971 rd_d_L_law_972 ?_
  refine lw_argX G (pc := 973) (c := 3) (l := 5) (by omega) rd_d_L_law_973 rd_d_L_law_974 rd_d_L_law_976 rd_d_L_law_977 rd_d_L_law_978 ?_
  refine lw_call G (T2 := tX12_earns) rfl rd_d_L_law_979 rd_k_L_law_979 rfl (hT.1 118 (.inl 12) rfl) (as := [.int (xs (i + 1)), .int (xs (i + 2)), .int (xs (i + 3))]) (st := []) rfl (Nat.le_of_ble_eq_true rfl) rfl (Nat.le_of_ble_eq_true rfl) (d1 := 60) (by decide) (fun _ h => by obtain ⟨y, h, -⟩ := h; cases h) (lw_cv_X12_earns G hct (sx_M_self hT) _ _ _) ?_
  intro v2 σ2 ⟨y2, hv2, hM2⟩
  cases hv2
  refine kr_istore (lv' := [(6, .int y2), (5, .int y1), (4, .int (Int32.ofNat i)), (0, .retAddr 0), (1, .ref 0), (2, .ref 118), (3, .ref 138)]) rd_d_L_law_982 (by decide) rfl ?_
  refine kr_sub (lv' := lw_lw i) (by simp) ?_
  refine kr_goto (tgt := 1540) rd_d_L_law_984 rfl ?_
  refine kr_iinc 0 rd_d_L_law_1540 rfl (v := Int32.ofNat (i + 6)) (by rw [Int32.ofNat_add]; rfl) (by decide) rfl ?_
  refine kr_goto (tgt := 23) rd_d_L_law_1543 rfl ?_
  have K1 := lw_kp hT (by decide +kernel) (by decide +kernel) (by decide +kernel) (by decide +kernel)
  have K2 := lw_kp hM2 (by decide +kernel) (by decide +kernel) (by decide +kernel) (by decide +kernel)
  exact next σ2 hi (sx_M_self hM2) ⟨by rw [K2.1, K2.2.1, K1.1, K1.2.1]; exact heq.1, fun k hk => by rw [K2.2.2.1 k hk, K2.2.2.2 k hk, K1.2.2.1 k hk, K1.2.2.2 k hk]; exact heq.2.1 k hk, rp_keep (sx_M_self hT) hM2 (by decide +kernel) hrT⟩
theorem lw_case24 (G : sx_G0 g L xs z9 hd_C ex_mt) (hct : lw_hct g) {n i : Nat} {σ : am_S} (hM : sx_M z9 hd_C σ 0 0 σ) (heq : lw_eq σ) (hi : i + 6 ≤ L) (next : ∀ σ' : am_S, i + 6 ≤ L → sx_M z9 hd_C σ' 0 0 σ' → lw_eq σ' → am_K g 100 tL_law.1 n (6 * n) 23 (lw_lw (i + 6)) [] σ' lw_post) : am_K g 100 tL_law.1 (1 + n) (6 + 6 * n) 987 (lw_lw i) [] σ lw_post := by
  refine kr_aload_n 2 rd_d_L_law_987 rfl ?_
  refine lw_arg G (pc := 988) (c := 1) (by omega) rd_d_L_law_988 rd_d_L_law_989 rd_d_L_law_991 rd_d_L_law_992 rd_d_L_law_993 ?_
  refine lw_arg G (pc := 994) (c := 2) (by omega) rd_d_L_law_994 rd_d_L_law_995 rd_d_L_law_997 rd_d_L_law_998 rd_d_L_law_999 ?_
  refine kr_aload_n 4 rd_d_L_law_1000 rfl ?_
  refine lw_callL G (T2 := tL_curve) rfl rd_d_L_law_1001 rd_k_L_law_1001 rfl (by decide) (as := [.ref 0, .int (xs (i + 1)), .int (xs (i + 2)), .ref 138]) (st := []) rfl (Nat.le_of_ble_eq_true rfl) rfl (Nat.le_of_ble_eq_true rfl) (d1 := 60) (by decide) (fun _ h => by obtain ⟨y, h, -⟩ := h; cases h) (lw_kL_curve G hct hM heq.2.2 _ _) ?_
  intro v1 σ1 ⟨y1, hv1, ha1, hM1, hp1⟩
  cases hv1
  have e1 := rl_o0 (o := 120) (n := 277) hM1 (by decide +kernel)
  refine lw_tK (σ := σ) (hM1.1 120 (.inr (.int, 277)) rfl) e1 ?_
  obtain ⟨hT, hrT⟩ := rp_t G.2.2.2.2.2.1 hM hM1 (by decide +kernel) (by decide +kernel) heq.2.2 hp1
  have ht1 := lw_t120 σ σ1
  have ht2 : (lw_t σ σ1).2.2.1 = σ1.2.2.1 := rfl
  have ht3 : (lw_t σ σ1).2.1 1 1 = σ1.2.1 1 1 := rfl
  generalize lw_t σ σ1 = τ at hT hrT ht1 ht2 ht3 ⊢
  refine kr_istore (lv' := [(5, .int y1), (4, .int (Int32.ofNat i)), (0, .retAddr 0), (1, .ref 0), (2, .ref 118), (3, .ref 138)]) rd_d_L_law_1004 (by decide) rfl ?_
  refine kr_aload_n 4 rd_d_L_law_1006 rfl ?_
  refine lw_argX G (pc := 1007) (c := 1) (l := 5) (by omega) rd_d_L_law_1007 rd_d_L_law_1008 rd_d_L_law_1010 rd_d_L_law_1011 rd_d_L_law_1012 ?_
  refine lw_argX G (pc := 1013) (c := 2) (l := 5) (by omega) rd_d_L_law_1013 rd_d_L_law_1014 rd_d_L_law_1016 rd_d_L_law_1017 rd_d_L_law_1018 ?_
  refine lw_call G (T2 := tX12_curve) rfl rd_d_L_law_1019 rd_k_L_law_1019 rfl (hT.1 118 (.inl 12) rfl) (as := [.int (xs (i + 1)), .int (xs (i + 2))]) (st := []) rfl (Nat.le_of_ble_eq_true rfl) rfl (Nat.le_of_ble_eq_true rfl) (d1 := 60) (by decide) (fun _ h => by obtain ⟨y, h, -⟩ := h; cases h) (lw_cv_X12_curve G hct (sx_M_self hT) _ _) ?_
  intro v2 σ2 ⟨y2, hv2, hM2⟩
  cases hv2
  refine kr_istore (lv' := [(6, .int y2), (5, .int y1), (4, .int (Int32.ofNat i)), (0, .retAddr 0), (1, .ref 0), (2, .ref 118), (3, .ref 138)]) rd_d_L_law_1022 (by decide) rfl ?_
  refine kr_sub (lv' := lw_lw i) (by simp) ?_
  refine kr_goto (tgt := 1540) rd_d_L_law_1024 rfl ?_
  refine kr_iinc 0 rd_d_L_law_1540 rfl (v := Int32.ofNat (i + 6)) (by rw [Int32.ofNat_add]; rfl) (by decide) rfl ?_
  refine kr_goto (tgt := 23) rd_d_L_law_1543 rfl ?_
  have K1 := lw_kp hT (by decide +kernel) (by decide +kernel) (by decide +kernel) (by decide +kernel)
  have K2 := lw_kp hM2 (by decide +kernel) (by decide +kernel) (by decide +kernel) (by decide +kernel)
  exact next σ2 hi (sx_M_self hM2) ⟨by rw [K2.1, K2.2.1, K1.1, K1.2.1]; exact heq.1, fun k hk => by rw [K2.2.2.1 k hk, K2.2.2.2 k hk, K1.2.2.1 k hk, K1.2.2.2 k hk]; exact heq.2.1 k hk, rp_keep (sx_M_self hT) hM2 (by decide +kernel) hrT⟩
theorem lw_case27 (G : sx_G0 g L xs z9 hd_C ex_mt) (hct : lw_hct g) {n i : Nat} {σ : am_S} (hM : sx_M z9 hd_C σ 0 0 σ) (heq : lw_eq σ) (hi : i + 6 ≤ L) (next : ∀ σ' : am_S, i + 6 ≤ L → sx_M z9 hd_C σ' 0 0 σ' → lw_eq σ' → am_K g 100 tL_law.1 n (6 * n) 23 (lw_lw (i + 6)) [] σ' lw_post) : am_K g 100 tL_law.1 n (6 * n) 1125 (lw_lw i) [] σ lw_post := by
  refine kr_aload_n 2 rd_d_L_law_1125 rfl ?_
  refine lw_call G (T2 := tX11_border) rfl rd_d_L_law_1126 rd_k_L_law_1126 rfl (hM.1 0 (.inl 11) rfl) (as := []) (st := []) rfl (Nat.le_of_ble_eq_true rfl) rfl (Nat.le_of_ble_eq_true rfl) (d1 := 60) (by decide) (fun _ h => by obtain ⟨y, h, -⟩ := h; cases h) (lw_kX_border G hct hM heq.2.2) ?_
  intro v1 σ1 ⟨y1, hv1, ha1, hM1, hp1⟩
  cases hv1
  have e1 := rl_o0 (o := 120) (n := 277) hM1 (by decide +kernel)
  refine lw_tK (σ := σ) (hM1.1 120 (.inr (.int, 277)) rfl) e1 ?_
  obtain ⟨hT, hrT⟩ := rp_t G.2.2.2.2.2.1 hM hM1 (by decide +kernel) (by decide +kernel) heq.2.2 hp1
  have ht1 := lw_t120 σ σ1
  have ht2 : (lw_t σ σ1).2.2.1 = σ1.2.2.1 := rfl
  have ht3 : (lw_t σ σ1).2.1 1 1 = σ1.2.1 1 1 := rfl
  generalize lw_t σ σ1 = τ at hT hrT ht1 ht2 ht3 ⊢
  refine kr_pop rd_d_L_law_1129 rfl ?_
  refine kr_aload_n 3 rd_d_L_law_1130 rfl ?_
  refine lw_call G (T2 := tX12_border) rfl rd_d_L_law_1131 rd_k_L_law_1131 rfl (hT.1 118 (.inl 12) rfl) (as := []) (st := []) rfl (Nat.le_of_ble_eq_true rfl) rfl (Nat.le_of_ble_eq_true rfl) (d1 := 60) (by decide) (fun _ h => by obtain ⟨y, h, -⟩ := h; cases h) (lw_cv_X12_border G hct (sx_M_self hT)) ?_
  intro v2 σ2 ⟨y2, hv2, hM2⟩
  cases hv2
  refine kr_pop rd_d_L_law_1134 rfl ?_
  refine kr_goto (tgt := 1540) rd_d_L_law_1135 rfl ?_
  refine kr_iinc 0 rd_d_L_law_1540 rfl (v := Int32.ofNat (i + 6)) (by rw [Int32.ofNat_add]; rfl) (by decide) rfl ?_
  refine kr_goto (tgt := 23) rd_d_L_law_1543 rfl ?_
  have K1 := lw_kp hT (by decide +kernel) (by decide +kernel) (by decide +kernel) (by decide +kernel)
  have K2 := lw_kp hM2 (by decide +kernel) (by decide +kernel) (by decide +kernel) (by decide +kernel)
  exact next σ2 hi (sx_M_self hM2) ⟨by rw [K2.1, K2.2.1, K1.1, K1.2.1]; exact heq.1, fun k hk => by rw [K2.2.2.1 k hk, K2.2.2.2 k hk, K1.2.2.1 k hk, K1.2.2.2 k hk]; exact heq.2.1 k hk, rp_keep (sx_M_self hT) hM2 (by decide +kernel) hrT⟩
theorem lw_case32 (G : sx_G0 g L xs z9 hd_C ex_mt) (hct : lw_hct g) {n i : Nat} {σ : am_S} (hM : sx_M z9 hd_C σ 0 0 σ) (heq : lw_eq σ) (hi : i + 6 ≤ L) (next : ∀ σ' : am_S, i + 6 ≤ L → sx_M z9 hd_C σ' 0 0 σ' → lw_eq σ' → am_K g 100 tL_law.1 n (6 * n) 23 (lw_lw (i + 6)) [] σ' lw_post) : am_K g 100 tL_law.1 n (6 * n) 1277 (lw_lw i) [] σ lw_post := by
  refine kr_aload_n 2 rd_d_L_law_1277 rfl ?_
  refine lw_call G (T2 := tX11_stood) rfl rd_d_L_law_1278 rd_k_L_law_1278 rfl (hM.1 0 (.inl 11) rfl) (as := []) (st := []) rfl (Nat.le_of_ble_eq_true rfl) rfl (Nat.le_of_ble_eq_true rfl) (d1 := 60) (by decide) (fun _ h => by obtain ⟨y, h, -⟩ := h; cases h) (lw_kX_stood G hct hM heq.2.2) ?_
  intro v1 σ1 ⟨y1, hv1, ha1, hM1, hp1⟩
  cases hv1
  have e1 := rl_o0 (o := 120) (n := 277) hM1 (by decide +kernel)
  refine lw_tK (σ := σ) (hM1.1 120 (.inr (.int, 277)) rfl) e1 ?_
  obtain ⟨hT, hrT⟩ := rp_t G.2.2.2.2.2.1 hM hM1 (by decide +kernel) (by decide +kernel) heq.2.2 hp1
  have ht1 := lw_t120 σ σ1
  have ht2 : (lw_t σ σ1).2.2.1 = σ1.2.2.1 := rfl
  have ht3 : (lw_t σ σ1).2.1 1 1 = σ1.2.1 1 1 := rfl
  generalize lw_t σ σ1 = τ at hT hrT ht1 ht2 ht3 ⊢
  refine kr_pop rd_d_L_law_1281 rfl ?_
  refine kr_aload_n 3 rd_d_L_law_1282 rfl ?_
  refine lw_call G (T2 := tX12_stood) rfl rd_d_L_law_1283 rd_k_L_law_1283 rfl (hT.1 118 (.inl 12) rfl) (as := []) (st := []) rfl (Nat.le_of_ble_eq_true rfl) rfl (Nat.le_of_ble_eq_true rfl) (d1 := 60) (by decide) (fun _ h => by obtain ⟨y, h, -⟩ := h; cases h) (lw_kM_stood G hct (sx_M_self hT)) ?_
  intro v2 σ2 ⟨y2, hv2, ha2, hM2⟩
  cases hv2
  refine kr_pop rd_d_L_law_1286 rfl ?_
  refine kr_goto (tgt := 1540) rd_d_L_law_1287 rfl ?_
  refine kr_iinc 0 rd_d_L_law_1540 rfl (v := Int32.ofNat (i + 6)) (by rw [Int32.ofNat_add]; rfl) (by decide) rfl ?_
  refine kr_goto (tgt := 23) rd_d_L_law_1543 rfl ?_
  have u1 : σ2.2.1 1 1 = 0 := by
    rw [hM2.2.2.2.2.1 1 1 _ _ 18 rfl (by decide +kernel), ht3]
    exact Int32.toInt_inj.mp ha1
  have u2 : σ2.2.1 118 2 = 0 := Int32.toInt_inj.mp ha2
  have k1 : ∀ k, k < 940 → σ2.2.1 2 k = σ.2.1 2 k := fun k hk => (hM2.2.2.2.2.1 2 k _ _ 19 (rc_a2 hk) (by decide +kernel)).trans (hT.2.2.2.2.1 2 k _ _ 19 (rc_a2 hk) (by decide +kernel))
  have k2 : ∀ k, k < 940 → σ2.2.1 119 k = σ.2.1 119 k := fun k hk => (hM2.2.2.2.2.1 119 k _ _ 406 (rd_a119 hk) (by decide +kernel)).trans (hT.2.2.2.2.1 119 k _ _ 406 (rd_a119 hk) (by decide +kernel))
  exact next σ2 hi (sx_M_self hM2) ⟨u1.trans u2.symm, fun k hk => by rw [k1 k hk, k2 k hk]; exact heq.2.1 k hk, rp_keep (sx_M_self hT) hM2 (by decide +kernel) hrT⟩
theorem lw_case34 (G : sx_G0 g L xs z9 hd_C ex_mt) (hct : lw_hct g) {n i : Nat} {σ : am_S} (hM : sx_M z9 hd_C σ 0 0 σ) (heq : lw_eq σ) (hi : i + 6 ≤ L) (next : ∀ σ' : am_S, i + 6 ≤ L → sx_M z9 hd_C σ' 0 0 σ' → lw_eq σ' → am_K g 100 tL_law.1 n (6 * n) 23 (lw_lw (i + 6)) [] σ' lw_post) : am_K g 100 tL_law.1 n (6 * n) 1303 (lw_lw i) [] σ lw_post := by
  refine kr_aload_n 2 rd_d_L_law_1303 rfl ?_
  refine lw_arg G (pc := 1304) (c := 1) (by omega) rd_d_L_law_1304 rd_d_L_law_1305 rd_d_L_law_1307 rd_d_L_law_1308 rd_d_L_law_1309 ?_
  refine lw_arg G (pc := 1310) (c := 2) (by omega) rd_d_L_law_1310 rd_d_L_law_1311 rd_d_L_law_1313 rd_d_L_law_1314 rd_d_L_law_1315 ?_
  refine lw_call G (T2 := tX11_drawn) rfl rd_d_L_law_1316 rd_k_L_law_1316 rfl (hM.1 0 (.inl 11) rfl) (as := [.int (xs (i + 1)), .int (xs (i + 2))]) (st := []) rfl (Nat.le_of_ble_eq_true rfl) rfl (Nat.le_of_ble_eq_true rfl) (d1 := 60) (by decide) (fun _ h => by obtain ⟨y, h, -⟩ := h; cases h) (lw_kX_drawn G hct hM heq.2.2 _ _) ?_
  intro v1 σ1 ⟨y1, hv1, hM1, hp1⟩
  cases hv1
  have e1 := rl_o0 (o := 120) (n := 277) hM1 (by decide +kernel)
  refine lw_tK (σ := σ) (hM1.1 120 (.inr (.int, 277)) rfl) e1 ?_
  obtain ⟨hT, hrT⟩ := rp_t G.2.2.2.2.2.1 hM hM1 (by decide +kernel) (by decide +kernel) heq.2.2 hp1
  have ht1 := lw_t120 σ σ1
  have ht2 : (lw_t σ σ1).2.2.1 = σ1.2.2.1 := rfl
  have ht3 : (lw_t σ σ1).2.1 1 1 = σ1.2.1 1 1 := rfl
  generalize lw_t σ σ1 = τ at hT hrT ht1 ht2 ht3 ⊢
  refine kr_pop rd_d_L_law_1319 rfl ?_
  refine kr_aload_n 3 rd_d_L_law_1320 rfl ?_
  refine lw_arg G (pc := 1321) (c := 1) (by omega) rd_d_L_law_1321 rd_d_L_law_1322 rd_d_L_law_1324 rd_d_L_law_1325 rd_d_L_law_1326 ?_
  refine lw_arg G (pc := 1327) (c := 2) (by omega) rd_d_L_law_1327 rd_d_L_law_1328 rd_d_L_law_1330 rd_d_L_law_1331 rd_d_L_law_1332 ?_
  refine lw_call G (T2 := tX12_drawn) rfl rd_d_L_law_1333 rd_k_L_law_1333 rfl (hT.1 118 (.inl 12) rfl) (as := [.int (xs (i + 1)), .int (xs (i + 2))]) (st := []) rfl (Nat.le_of_ble_eq_true rfl) rfl (Nat.le_of_ble_eq_true rfl) (d1 := 60) (by decide) (fun _ h => by obtain ⟨y, h, -⟩ := h; cases h) (lw_cv_X12_drawn G hct (sx_M_self hT) _ _) ?_
  intro v2 σ2 ⟨y2, hv2, hM2⟩
  cases hv2
  refine kr_pop rd_d_L_law_1336 rfl ?_
  refine kr_goto (tgt := 1540) rd_d_L_law_1337 rfl ?_
  refine kr_iinc 0 rd_d_L_law_1540 rfl (v := Int32.ofNat (i + 6)) (by rw [Int32.ofNat_add]; rfl) (by decide) rfl ?_
  refine kr_goto (tgt := 23) rd_d_L_law_1543 rfl ?_
  have K1 := lw_kp hT (by decide +kernel) (by decide +kernel) (by decide +kernel) (by decide +kernel)
  have K2 := lw_kp hM2 (by decide +kernel) (by decide +kernel) (by decide +kernel) (by decide +kernel)
  exact next σ2 hi (sx_M_self hM2) ⟨by rw [K2.1, K2.2.1, K1.1, K1.2.1]; exact heq.1, fun k hk => by rw [K2.2.2.1 k hk, K2.2.2.2 k hk, K1.2.2.1 k hk, K1.2.2.2 k hk]; exact heq.2.1 k hk, rp_keep (sx_M_self hT) hM2 (by decide +kernel) hrT⟩
theorem lw_case35 (G : sx_G0 g L xs z9 hd_C ex_mt) (hct : lw_hct g) {n i : Nat} {σ : am_S} (hM : sx_M z9 hd_C σ 0 0 σ) (heq : lw_eq σ) (hi : i + 6 ≤ L) (next : ∀ σ' : am_S, i + 6 ≤ L → sx_M z9 hd_C σ' 0 0 σ' → lw_eq σ' → am_K g 100 tL_law.1 n (6 * n) 23 (lw_lw (i + 6)) [] σ' lw_post) : am_K g 100 tL_law.1 n (6 * n) 1340 (lw_lw i) [] σ lw_post := by
  refine kr_aload_n 2 rd_d_L_law_1340 rfl ?_
  refine lw_arg G (pc := 1341) (c := 1) (by omega) rd_d_L_law_1341 rd_d_L_law_1342 rd_d_L_law_1344 rd_d_L_law_1345 rd_d_L_law_1346 ?_
  refine lw_arg G (pc := 1347) (c := 2) (by omega) rd_d_L_law_1347 rd_d_L_law_1348 rd_d_L_law_1350 rd_d_L_law_1351 rd_d_L_law_1352 ?_
  refine lw_call G (T2 := tX11_luckiest) rfl rd_d_L_law_1353 rd_k_L_law_1353 rfl (hM.1 0 (.inl 11) rfl) (as := [.int (xs (i + 1)), .int (xs (i + 2))]) (st := []) rfl (Nat.le_of_ble_eq_true rfl) rfl (Nat.le_of_ble_eq_true rfl) (d1 := 60) (by decide) (fun _ h => by obtain ⟨y, h, -⟩ := h; cases h) (lw_kA_luckiest G hct hM heq.2.2 _ _) ?_
  intro v1 σ1 ⟨y1, hv1, ha1, hM1, hp1⟩
  cases hv1
  have e1 := rl_o0 (o := 120) (n := 277) hM1 (by decide +kernel)
  refine lw_tK (σ := σ) (hM1.1 120 (.inr (.int, 277)) rfl) e1 ?_
  obtain ⟨hT, hrT⟩ := rp_t G.2.2.2.2.2.1 hM hM1 (by decide +kernel) (by decide +kernel) heq.2.2 hp1
  have ht1 := lw_t120 σ σ1
  have ht2 : (lw_t σ σ1).2.2.1 = σ1.2.2.1 := rfl
  have ht3 : (lw_t σ σ1).2.1 1 1 = σ1.2.1 1 1 := rfl
  generalize lw_t σ σ1 = τ at hT hrT ht1 ht2 ht3 ⊢
  refine kr_aload_n 3 rd_d_L_law_1356 rfl ?_
  refine lw_arg G (pc := 1357) (c := 1) (by omega) rd_d_L_law_1357 rd_d_L_law_1358 rd_d_L_law_1360 rd_d_L_law_1361 rd_d_L_law_1362 ?_
  refine lw_arg G (pc := 1363) (c := 2) (by omega) rd_d_L_law_1363 rd_d_L_law_1364 rd_d_L_law_1366 rd_d_L_law_1367 rd_d_L_law_1368 ?_
  refine lw_call G (T2 := tX12_luckiest) rfl rd_d_L_law_1369 rd_k_L_law_1369 rfl (hT.1 118 (.inl 12) rfl) (as := [.int (xs (i + 1)), .int (xs (i + 2))]) (st := [.int y1]) rfl (Nat.le_of_ble_eq_true rfl) rfl (Nat.le_of_ble_eq_true rfl) (d1 := 60) (by decide) (fun _ h => by obtain ⟨y, h, -⟩ := h; cases h) (lw_kM_luckiest G hct (sx_M_self hT) _ _) ?_
  intro v2 σ2 ⟨y2, hv2, ha2, hM2⟩
  cases hv2
  rw [ht1] at ha2
  have hyy : y1 = y2 := by
    rcases ha1 with ⟨p, e⟩ | ⟨p, e⟩
    · rcases ha2 with ⟨q, f⟩ | ⟨q, f⟩
      · rw [e, f]
      · exact absurd p q
    · rcases ha2 with ⟨q, f⟩ | ⟨q, f⟩
      · exact absurd q p
      · rw [e, f]
  refine kr_icmp_eq (tgt := 1540) rd_d_L_law_1372 rfl (fun _ => ?_) (fun h => absurd hyy h)
  refine kr_iinc 0 rd_d_L_law_1540 rfl (v := Int32.ofNat (i + 6)) (by rw [Int32.ofNat_add]; rfl) (by decide) rfl ?_
  refine kr_goto (tgt := 23) rd_d_L_law_1543 rfl ?_
  have K1 := lw_kp hT (by decide +kernel) (by decide +kernel) (by decide +kernel) (by decide +kernel)
  have K2 := lw_kp hM2 (by decide +kernel) (by decide +kernel) (by decide +kernel) (by decide +kernel)
  exact next σ2 hi (sx_M_self hM2) ⟨by rw [K2.1, K2.2.1, K1.1, K1.2.1]; exact heq.1, fun k hk => by rw [K2.2.2.1 k hk, K2.2.2.2 k hk, K1.2.2.1 k hk, K1.2.2.2 k hk]; exact heq.2.1 k hk, rp_keep (sx_M_self hT) hM2 (by decide +kernel) hrT⟩
end LC
theorem lw_turn {g : am_C} {L : Nat} {xs : Nat → Int32} (G : sx_G0 g L xs z9 hd_C ex_mt) (hct : ∀ (mi : Nat) (T : ex_T) (c : sx_Ct), ex_mt mi = some T → c ∈ k9 mi → sx_Holds g z9 hd_C T c) {n i : Nat} {σ : am_S} (hi : i ≤ 3078) (hM : sx_M z9 hd_C σ 0 0 σ) (hlen : lw_eq σ) (next : ∀ σ' : am_S, i + 6 ≤ L → sx_M z9 hd_C σ' 0 0 σ' → lw_eq σ' → am_K g 100 mL_law (2 * n) (6 * (2 * n)) 23 (lw_lw (i + 6)) [] σ' lw_post) : am_K g 100 mL_law (2 + 2 * n) (12 + 12 * n) 23 (lw_lw i) [] σ lw_post := by
  let env : List Int := lw_env L xs i (σ.2.1 1 1).toInt
  let x : sx_X := (g, (L, xs), z9, hd_C, ex_mt, tL_law, σ, (2 * n + 1, 12 * n + 6), lw_post, some 0, env)
  have B : sx_Bx x := ⟨G.1, G.2.1, G.2.2.1, G.2.2.2.1, G.2.2.2.2.1, G.2.2.2.2.2.1⟩
  have hlenw : sx_Len L xs (some 0) env env := by
    refine ⟨fun w hw => ?_, [], by rw [List.append_nil]⟩
    cases hw
    refine ⟨rfl, i, rfl, fun c hc _ => ?_⟩
    match c, hc with
    | 0, _ => rfl
    | 1, _ => rfl
    | 2, _ => rfl
    | 3, _ => rfl
    | 4, _ => rfl
    | 5, _ => rfl
  have hR : sx_Rk x lw_R := by
    intro v me env' v' σ' h _ hr hv
    rcases (Bool.or_eq_true _ _).mp h with h1 | h1
    · match v, v', hv, h1 with
      | some (.inl (c, [])), some b, hv, h1 =>
        obtain ⟨m, m1, m2⟩ := hv
        have hc := sx_ieq_iff.mp h1
        have m3 : m.toInt = c := Option.some.inj (m2.symm.trans sx_const)
        have : m = 1 := Int32.toInt_inj.mp (by rw [m3, hc]; rfl)
        show some (some b) = some (some (.int 1))
        rw [m1, this]
    · exact (sx_contra_ok hr.2.2.1 h1).elim
  have hH : sx_Hks x lw_H := by
    intro pc F cd lv st me env' lw sw σ' d mc ms hF h A
    have hpc : (pc = 23 ∧ F = lw_F) ∨ ((pc = 228 ∨ pc = 326 ∨ pc = 1465 ∨ pc = 1490 ∨ pc = 796 ∨ pc = 860 ∨ pc = 885 ∨ pc = 922 ∨ pc = 935 ∨ pc = 987 ∨ pc = 1125 ∨ pc = 1277 ∨ pc = 1303 ∨ pc = 1340) ∧ F = lw_G) := by
      unfold lw_H at hF
      cases hb : pc.beq 23 with
      | true => rw [hb] at hF; exact Or.inl ⟨Nat.eq_of_beq_eq_true hb, (Option.some.inj hF).symm⟩
      | false =>
        rw [hb] at hF
        simp only [cond_false] at hF
        cases hb0 : pc.beq 228 with
        | true => rw [hb0] at hF; exact Or.inr ⟨Or.inl (Nat.eq_of_beq_eq_true hb0), (Option.some.inj hF).symm⟩
        | false =>
          rw [hb0] at hF
          simp only [cond_false] at hF
          cases hb1 : pc.beq 326 with
          | true => rw [hb1] at hF; exact Or.inr ⟨Or.inr (Or.inl (Nat.eq_of_beq_eq_true hb1)), (Option.some.inj hF).symm⟩
          | false =>
            rw [hb1] at hF
            simp only [cond_false] at hF
            cases hb2 : pc.beq 1465 with
            | true => rw [hb2] at hF; exact Or.inr ⟨Or.inr (Or.inr (Or.inl (Nat.eq_of_beq_eq_true hb2))), (Option.some.inj hF).symm⟩
            | false =>
              rw [hb2] at hF
              simp only [cond_false] at hF
              cases hb3 : pc.beq 1490 with
              | true => rw [hb3] at hF; exact Or.inr ⟨Or.inr (Or.inr (Or.inr (Or.inl (Nat.eq_of_beq_eq_true hb3)))), (Option.some.inj hF).symm⟩
              | false =>
                rw [hb3] at hF
                simp only [cond_false] at hF
                cases hb4 : pc.beq 796 with
                | true => rw [hb4] at hF; exact Or.inr ⟨Or.inr (Or.inr (Or.inr (Or.inr (Or.inl (Nat.eq_of_beq_eq_true hb4))))), (Option.some.inj hF).symm⟩
                | false =>
                  rw [hb4] at hF
                  simp only [cond_false] at hF
                  cases hb5 : pc.beq 860 with
                  | true => rw [hb5] at hF; exact Or.inr ⟨Or.inr (Or.inr (Or.inr (Or.inr (Or.inr (Or.inl (Nat.eq_of_beq_eq_true hb5)))))), (Option.some.inj hF).symm⟩
                  | false =>
                    rw [hb5] at hF
                    simp only [cond_false] at hF
                    cases hb6 : pc.beq 885 with
                    | true => rw [hb6] at hF; exact Or.inr ⟨Or.inr (Or.inr (Or.inr (Or.inr (Or.inr (Or.inr (Or.inl (Nat.eq_of_beq_eq_true hb6))))))), (Option.some.inj hF).symm⟩
                    | false =>
                      rw [hb6] at hF
                      simp only [cond_false] at hF
                      cases hb7 : pc.beq 922 with
                      | true => rw [hb7] at hF; exact Or.inr ⟨Or.inr (Or.inr (Or.inr (Or.inr (Or.inr (Or.inr (Or.inr (Or.inl (Nat.eq_of_beq_eq_true hb7)))))))), (Option.some.inj hF).symm⟩
                      | false =>
                        rw [hb7] at hF
                        simp only [cond_false] at hF
                        cases hb8 : pc.beq 935 with
                        | true => rw [hb8] at hF; exact Or.inr ⟨Or.inr (Or.inr (Or.inr (Or.inr (Or.inr (Or.inr (Or.inr (Or.inr (Or.inl (Nat.eq_of_beq_eq_true hb8))))))))), (Option.some.inj hF).symm⟩
                        | false =>
                          rw [hb8] at hF
                          simp only [cond_false] at hF
                          cases hb9 : pc.beq 987 with
                          | true => rw [hb9] at hF; exact Or.inr ⟨Or.inr (Or.inr (Or.inr (Or.inr (Or.inr (Or.inr (Or.inr (Or.inr (Or.inr (Or.inl (Nat.eq_of_beq_eq_true hb9)))))))))), (Option.some.inj hF).symm⟩
                          | false =>
                            rw [hb9] at hF
                            simp only [cond_false] at hF
                            cases hb10 : pc.beq 1125 with
                            | true => rw [hb10] at hF; exact Or.inr ⟨Or.inr (Or.inr (Or.inr (Or.inr (Or.inr (Or.inr (Or.inr (Or.inr (Or.inr (Or.inr (Or.inl (Nat.eq_of_beq_eq_true hb10))))))))))), (Option.some.inj hF).symm⟩
                            | false =>
                              rw [hb10] at hF
                              simp only [cond_false] at hF
                              cases hb11 : pc.beq 1277 with
                              | true => rw [hb11] at hF; exact Or.inr ⟨Or.inr (Or.inr (Or.inr (Or.inr (Or.inr (Or.inr (Or.inr (Or.inr (Or.inr (Or.inr (Or.inr (Or.inl (Nat.eq_of_beq_eq_true hb11)))))))))))), (Option.some.inj hF).symm⟩
                              | false =>
                                rw [hb11] at hF
                                simp only [cond_false] at hF
                                cases hb12 : pc.beq 1303 with
                                | true => rw [hb12] at hF; exact Or.inr ⟨Or.inr (Or.inr (Or.inr (Or.inr (Or.inr (Or.inr (Or.inr (Or.inr (Or.inr (Or.inr (Or.inr (Or.inr (Or.inl (Nat.eq_of_beq_eq_true hb12))))))))))))), (Option.some.inj hF).symm⟩
                                | false =>
                                  rw [hb12] at hF
                                  simp only [cond_false] at hF
                                  cases hb13 : pc.beq 1340 with
                                  | true => rw [hb13] at hF; exact Or.inr ⟨Or.inr (Or.inr (Or.inr (Or.inr (Or.inr (Or.inr (Or.inr (Or.inr (Or.inr (Or.inr (Or.inr (Or.inr (Or.inr (Nat.eq_of_beq_eq_true hb13))))))))))))), (Option.some.inj hF).symm⟩
                                  | false => rw [hb13] at hF; cases hF
    rcases hpc with ⟨rfl, rfl⟩ | ⟨hpc, rfl⟩
    rotate_left
    · unfold lw_G at h
      simp only [Bool.and_eq_true] at h
      obtain ⟨b1, b2, b3, b6, b4, b5⟩ := h
      have hst : st = [] := by simpa using b2
      subst hst
      rw [A.s.nil]
      have hr : sx_R z9 hd_C σ env' me σ' := A.2.2.2.1
      obtain ⟨l1, ext, l3⟩ := A.2.2.1
      obtain ⟨l1a, i', l1b, _⟩ := l1 0 rfl
      have l1a' : env'[0]? = some (L : Int) := l1a
      have l1c : env'[1]? = some (i : Int) := by rw [l3]; rfl
      have refs := sx_refs_ok A.2.2.2.2.1 b4
      have hM0 : sx_M z9 hd_C σ 0 0 σ' := by
        have := hr.2.2.2
        rw [Nat.eq_of_beq_eq_true b3, Nat.eq_of_beq_eq_true b6] at this
        exact this
      have hl4 : (4, Value.int (Int32.ofNat i)) ∈ lw ∧ i + 6 ≤ L := by
        cases hf : sx_fnd lv 4 with
        | none => rw [hf] at b5; cases b5
        | some v =>
          rw [hf] at b5
          match v, hf, b5 with
          | .inl e, hf, b5 =>
            simp only [Bool.and_eq_true] at b5
            obtain ⟨c1, c2, c3⟩ := b5
            obtain ⟨z, z1, m, z2, z3⟩ := sx_LV_mem A.2.2.2.2.1 hf
            have he : e = (0, [(1, 1)]) := Prod.ext (sx_ieq_iff.mp c1) (sx_sameA_eq c2)
            have hev : sx_ev env' (0, [(1, 1)]) = some (0 + (1 * (i : Int) + 0)) := sx_ev_of (e := (0, [(1, 1)])) (sx_ea_mk (l := []) l1c rfl)
            have hev6 : sx_ev env' (6, [(1, 1)]) = some (6 + (1 * (i : Int) + 0)) := sx_ev_of (e := (6, [(1, 1)])) (sx_ea_mk (l := []) l1c rfl)
            rw [he, hev] at z3
            have hm : m.toInt = 0 + (1 * (i : Int) + 0) := (Option.some.inj z3).symm
            obtain ⟨r, r1, r2⟩ := sx_lin_ok c3
            have hw0 : sx_ev env' (sx_w 0) = some (L : Int) := sx_ev_wat l1a'
            have r3 := sx_leq_ok hr.2.2.1 (r2 env' _ _ hw0 hev6) r1
            have hL := G.2.2.1
            have hm2 : m = Int32.ofNat i := Int32.toInt_inj.mp (by
              rw [hm, Int32.toInt_ofNat_of_lt (by omega)]
              omega)
            refine ⟨?_, by omega⟩
            rw [← hm2, ← z2]
            exact z1
          | .inr _, hf, b5 => cases b5
      have heq' : lw_eq σ' := ⟨by rw [hM0.2.2.2.2.1 1 1 _ _ 18 rfl (sx_bit0 _), hM0.2.2.2.2.1 118 2 _ _ 361 rfl (sx_bit0 _)]; exact hlen.1, fun k hk => by rw [hM0.2.2.2.2.1 2 k _ _ 19 (rc_a2 hk) (sx_bit0 _), hM0.2.2.2.2.1 119 k _ _ 406 (rd_a119 hk) (sx_bit0 _)]; exact hlen.2.1 k hk, rp_keep hM hM0 (by decide +kernel) hlen.2.2⟩
      have nx : am_K g 100 tL_law.1 (1 + 2 * n) (6 + 6 * (2 * n)) pc (lw_lw i) [] σ' lw_post := by
        rcases hpc with rfl | rfl | rfl | rfl | rfl | rfl | rfl | rfl | rfl | rfl | rfl | rfl | rfl | rfl
        · exact kr_less (Nat.le_refl _) (by omega) (by omega) (lw_case0 (n := 2 * n) G hct (sx_M_self hM0) heq' hl4.2 next)
        · exact kr_less (Nat.le_refl _) (by omega) (by omega) (lw_case2 (n := 2 * n) G hct (sx_M_self hM0) heq' hl4.2 next)
        · exact kr_less (Nat.le_refl _) (by omega) (by omega) (lw_case40 (n := 2 * n) G hct (sx_M_self hM0) heq' hl4.2 next)
        · exact kr_less (Nat.le_refl _) (by omega) (by omega) (lw_case41 (n := 2 * n) G hct (sx_M_self hM0) heq' hl4.2 next)
        · exact lw_case19 (n := 2 * n) G hct (sx_M_self hM0) heq' hl4.2 next
        · exact kr_less (Nat.le_refl _) (by omega) (by omega) (lw_case20 (n := 2 * n) G hct (sx_M_self hM0) heq' hl4.2 next)
        · exact kr_less (Nat.le_refl _) (by omega) (by omega) (lw_case21 (n := 2 * n) G hct (sx_M_self hM0) heq' hl4.2 next)
        · exact kr_less (Nat.le_refl _) (by omega) (by omega) (lw_case22 (n := 2 * n) G hct (sx_M_self hM0) heq' hl4.2 next)
        · exact lw_case23 (n := 2 * n) G hct (sx_M_self hM0) heq' hl4.2 next
        · exact lw_case24 (n := 2 * n) G hct (sx_M_self hM0) heq' hl4.2 next
        · exact kr_less (Nat.le_refl _) (by omega) (by omega) (lw_case27 (n := 2 * n) G hct (sx_M_self hM0) heq' hl4.2 next)
        · exact kr_less (Nat.le_refl _) (by omega) (by omega) (lw_case32 (n := 2 * n) G hct (sx_M_self hM0) heq' hl4.2 next)
        · exact kr_less (Nat.le_refl _) (by omega) (by omega) (lw_case34 (n := 2 * n) G hct (sx_M_self hM0) heq' hl4.2 next)
        · exact kr_less (Nat.le_refl _) (by omega) (by omega) (lw_case35 (n := 2 * n) G hct (sx_M_self hM0) heq' hl4.2 next)
      show am_K g d tL_law.1 (mc + (2 * n + 1)) (ms + (12 * n + 6)) pc lw [] σ' lw_post
      refine kr_less (ex_ble b1) (by omega) (by omega) (kr_sub ?_ nx)
      intro q hq
      simp only [lw_lw, List.mem_cons, List.not_mem_nil, or_false] at hq
      rcases hq with rfl | rfl | rfl | rfl | rfl
      · exact hl4.1
      · obtain ⟨v, v1, v2⟩ := refs (0, .inr (some (true, 0))) (by simp [lw_refs])
        have v3 : v = .retAddr 0 := v2
        rw [← v3]; exact v1
      · obtain ⟨v, v1, v2⟩ := refs (1, .inr (some (false, 0))) (by simp [lw_refs])
        have v3 : v = .ref 0 := v2
        rw [← v3]; exact v1
      · obtain ⟨v, v1, v2⟩ := refs (2, .inr (some (false, 118))) (by simp [lw_refs])
        have v3 : v = .ref 118 := v2
        rw [← v3]; exact v1
      · obtain ⟨v, v1, v2⟩ := refs (3, .inr (some (false, 138))) (by simp [lw_refs])
        have v3 : v = .ref 138 := v2
        rw [← v3]; exact v1
    unfold lw_F at h
    simp only [Bool.and_eq_true] at h
    obtain ⟨b1, b2, b3, b4, b5, p0, m19, m406, mX⟩ := h
    have m19b : sx_bit me.2.1 19 = false := by simpa using m19
    have m406b : sx_bit me.2.1 406 = false := by simpa using m406
    have hst : st = [] := by simpa using b2
    subst hst
    rw [A.s.nil]
    have hr : sx_R z9 hd_C σ env' me σ' := A.2.2.2.1
    obtain ⟨l1, ext, l3⟩ := A.2.2.1
    obtain ⟨l1a, i', l1b, _⟩ := l1 0 rfl
    have l1a' : env'[0]? = some (L : Int) := l1a
    have l1c : env'[1]? = some (i : Int) := by rw [l3]; rfl
    have refs := sx_refs_ok A.2.2.2.2.1 b4
    have hM' : sx_M z9 hd_C σ' 0 0 σ' := by
      have := hr.2.2.2
      rw [Nat.eq_of_beq_eq_true b3] at this
      exact sx_M_self this
    have hl4 : (4, Value.int (Int32.ofNat (i + 6))) ∈ lw ∧ i + 6 ≤ L := by
      cases hf : sx_fnd lv 4 with
      | none => rw [hf] at b5; cases b5
      | some v =>
        rw [hf] at b5
        match v, hf, b5 with
        | .inl e, hf, b5 =>
          simp only [Bool.and_eq_true] at b5
          obtain ⟨c1, c2, c3⟩ := b5
          obtain ⟨z, z1, m, z2, z3⟩ := sx_LV_mem A.2.2.2.2.1 hf
          have he : e = (6, [(1, 1)]) := Prod.ext (sx_ieq_iff.mp c1) (sx_sameA_eq c2)
          have hev : sx_ev env' (6, [(1, 1)]) = some (6 + (1 * (i : Int) + 0)) := sx_ev_of (e := (6, [(1, 1)])) (sx_ea_mk (l := []) l1c rfl)
          rw [he, hev] at z3
          have hm : m.toInt = 6 + (1 * (i : Int) + 0) := (Option.some.inj z3).symm
          obtain ⟨r, r1, r2⟩ := sx_lin_ok c3
          have hw0 : sx_ev env' (sx_w 0) = some (L : Int) := sx_ev_wat l1a'
          have r3 := sx_leq_ok hr.2.2.1 (r2 env' _ _ hw0 (by rw [he]; exact hev)) r1
          have hL := G.2.2.1
          have hm2 : m = Int32.ofNat (i + 6) := Int32.toInt_inj.mp (by
            rw [hm, Int32.toInt_ofNat_of_lt (by omega)]
            omega)
          refine ⟨?_, by omega⟩
          rw [← hm2, ← z2]
          exact z1
        | .inr _, hf, b5 => cases b5
    have hlen' : lw_eq σ' := ⟨lw_pr_ok G.2.2.2.2.1 hr p0, fun k hk => by rw [hr.2.2.2.2.2.2.2.1 2 k _ _ 19 (rc_a2 hk) m19b, hr.2.2.2.2.2.2.2.1 119 k _ _ 406 (rd_a119 hk) m406b]; exact hlen.2.1 k hk, rp_keep hM (by have := hr.2.2.2; rw [Nat.eq_of_beq_eq_true b3] at this; exact this) mX hlen.2.2⟩
    have nx := next σ' hl4.2 hM' hlen'
    show am_K g d tL_law.1 (mc + (2 * n + 1)) (ms + (12 * n + 6)) 23 lw [] σ' lw_post
    refine kr_less (ex_ble b1) (by omega) (by omega) (kr_sub ?_ nx)
    intro q hq
    simp only [lw_lw, List.mem_cons, List.not_mem_nil, or_false] at hq
    rcases hq with rfl | rfl | rfl | rfl | rfl
    · exact hl4.1
    · obtain ⟨v, v1, v2⟩ := refs (0, .inr (some (true, 0))) (by simp [lw_refs])
      have v3 : v = .retAddr 0 := v2
      rw [← v3]; exact v1
    · obtain ⟨v, v1, v2⟩ := refs (1, .inr (some (false, 0))) (by simp [lw_refs])
      have v3 : v = .ref 0 := v2
      rw [← v3]; exact v1
    · obtain ⟨v, v1, v2⟩ := refs (2, .inr (some (false, 118))) (by simp [lw_refs])
      have v3 : v = .ref 118 := v2
      rw [← v3]; exact v1
    · obtain ⟨v, v1, v2⟩ := refs (3, .inr (some (false, 138))) (by simp [lw_refs])
      have v3 : v = .ref 138 := v2
      rw [← v3]; exact v1
  have K := tk_run (x := x) B G.2.2.2.2.2.2.2 (rk := 100) (fun mi T c h1 h2 _ => hct mi T c h1 h2) hR hH 90
  rw [show 2 + 2 * n = 1 + (2 * n + 1) by omega, show 12 + 12 * n = 6 + (12 * n + 6) by omega]
  refine K tL_law [] 23 100 1 6 ((4, .inl (sx_w 1)) :: lw_refs) [] [] (10, 0, 0, lw_tr, lw_fa) env (lw_lw i) [] [] σ lw_one ⟨⟨G.2.2.2.1 0 tL_law rfl, fun e he => (by cases he)⟩, fun _ => rfl, hlenw, ⟨rfl, ?_, lw_Pf G.2.2.1 hi (hM.2.2.1 1 1 0 940 _ rfl), hM⟩, ?_, trivial, trivial⟩
  · intro q hq
    simp only [lw_tr, List.mem_cons, List.not_mem_nil, or_false] at hq
    obtain ⟨q0, -⟩ := hlen
    rcases hq with rfl | rfl
    · exact sx_ev_wat (env := env) (w := 8) rfl
    · refine (sx_ev_wat (env := env) (w := 9) rfl).trans ?_
      show some (σ.2.1 1 1).toInt = some (σ.2.1 118 2).toInt
      rw [q0]
  · refine ⟨rfl, ⟨Int32.ofNat i, rfl, ?_⟩, ⟨rfl, rfl, ⟨rfl, rfl, ⟨rfl, rfl, ⟨rfl, rfl, trivial⟩⟩⟩⟩⟩
    rw [Int32.toInt_ofNat_of_lt (by omega)]
    exact sx_ev_wat (env := env) (w := 1) rfl
/-- turn upon turn -/
theorem lw_turns {g : am_C} {L : Nat} {xs : Nat → Int32} (G : sx_G0 g L xs z9 hd_C ex_mt) (hct : ∀ (mi : Nat) (T : ex_T) (c : sx_Ct), ex_mt mi = some T → c ∈ k9 mi → sx_Holds g z9 hd_C T c) : ∀ (n i : Nat) (σ : am_S), L ≤ i + 6 * n + 5 → i ≤ 3078 → sx_M z9 hd_C σ 0 0 σ → lw_eq σ → am_K g 100 mL_law (2 + 2 * n) (12 + 12 * n) 23 (lw_lw i) [] σ lw_post := by
  intro n
  induction n with
  | zero =>
    intro i σ h1 h2 h3 h4
    exact lw_turn G hct h2 h3 h4 (fun σ' hb _ _ => by omega)
  | succ n ih =>
    intro i σ h1 h2 h3 h4
    refine lw_turn G hct h2 h3 h4 (fun σ' hb m1 m2 => ?_)
    have hL := G.2.2.1
    have := ih (i + 6) σ' (by omega) (by omega) m1 m2
    exact kr_less (Nat.le_refl _) (by omega) (by omega) this
