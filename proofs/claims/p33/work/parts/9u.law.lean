/-! the law's loop, turn by turn (written by a program) -/
noncomputable def sx_contra (fa : sx_Fa) : Bool := sx_any fa fun l lo hi => (ex_fI (1 - lo) fun c => sx_leq0 fa (c, l)) || (sx_negA l fun m => ex_fI (hi + 1) fun c => sx_leq0 fa (c, m))
theorem sx_contra_ok {env : List Int} {fa : sx_Fa} (hp : sx_P env fa) (h : sx_contra fa = true) : False := by
  obtain ⟨l, lo, hi, v, e1, e2, e3, e4⟩ := sx_any_ok hp h
  rcases (Bool.or_eq_true _ _).mp e4 with h1 | h1
  · rw [ex_fI_eq] at h1
    have := sx_leq0_ok hp (sx_ev_of (e := (1 - lo, l)) e1) h1
    simp only at this
    omega
  · obtain ⟨m, h2, h3⟩ := sx_negA_ok h1
    rw [ex_fI_eq] at h2
    have := sx_leq0_ok hp (sx_ev_of (e := (hi + 1, m)) (h3 env _ e1)) h2
    simp only at this
    omega
def lw_refs : sx_L := [(0, .inr (some (true, 0))), (1, .inr (some (false, 0))), (2, .inr (some (false, 118))), (3, .inr (some (false, 138)))]
def lw_fa : sx_Fa := [([(.ofNat 1, 0)], .ofNat 0, .ofNat 3072), ([(.ofNat 1, 1)], .ofNat 0, .ofNat 3078), ([(.ofNat 1, 2)], sx_lo, sx_up), ([(.ofNat 1, 3)], sx_lo, sx_up), ([(.ofNat 1, 4)], sx_lo, sx_up), ([(.ofNat 1, 5)], sx_lo, sx_up), ([(.ofNat 1, 6)], sx_lo, sx_up), ([(.ofNat 1, 7)], sx_lo, sx_up), ([(.ofNat 1, 8)], .ofNat 0, .ofNat 940), ([(.ofNat 1, 9)], .ofNat 0, .ofNat 940), ([(.ofNat 1, 8), (.negSucc 0, 9)], .ofNat 0, .ofNat 0)]
def lw_tr : sx_Tr := [(65537, sx_w 8), (7733250, sx_w 9)]
noncomputable def lw_pr (me : sx_Me) (kx km : Nat) : Bool := sx_rdk z9 me kx fun me ex => sx_rdk z9 me km fun me em => (sx_lin (-1) em ex fun d => sx_inx me.2.2.2.2 d 0 0) || sx_contra me.2.2.2.2
theorem lw_pr_ok {Cs : Nat → am_S → Prop} {σe σ : am_S} {env : List Int} {me : sx_Me} (hZ : sx_Zok z9) (hr : sx_R z9 Cs σe env me σ) {kx km : Nat} (h : lw_pr me kx km = true) : σ.2.1 (kx / 65536) (kx % 65536) = σ.2.1 (km / 65536) (km % 65536) := by
  obtain ⟨e1, me1, f1, g1, g2, g3⟩ := sx_rdk_ok hZ hr h
  obtain ⟨e2, me2, f2, j1, j2, j3⟩ := sx_rdk_ok hZ g1 g3
  rcases (Bool.or_eq_true _ _).mp j3 with k1 | k1
  · obtain ⟨r, r1, r2⟩ := sx_lin_ok k1
    have r3 := sx_inx_ok j1.2.2.1 (r2 _ _ _ j2 (sx_ev_app e2 g2)) r1
    refine Int32.toInt_inj.mp ?_
    have r4 : -1 * (σ.2.1 (km / 65536) (km % 65536)).toInt + (σ.2.1 (kx / 65536) (kx % 65536)).toInt = 0 := Int.le_antisymm r3.2 r3.1
    omega
  · exact (sx_contra_ok j1.2.2.1 k1).elim
noncomputable def lw_F (d : Nat) (lv : sx_L) (st : List sx_V) (me : sx_Me) : Bool := Nat.ble 100 d && (st.isEmpty && (me.2.2.1.beq 0 && (sx_refs lv lw_refs && ((match sx_fnd lv 4 with
  | some (.inl e) => sx_ieq e.1 6 && (sx_sameA e.2 [(.ofNat 1, 1)] && sx_lin (-1) (sx_w 0) e fun d => sx_leq me.2.2.2.2 d)
  | _ => false) && (lw_pr me 65537 7733250 && (!(sx_bit me.2.1 19) && (!(sx_bit me.2.1 406) && (Nat.land me.2.1 lw_mX).beq 0)))))))
noncomputable def lw_G (d : Nat) (lv : sx_L) (st : List sx_V) (me : sx_Me) : Bool := Nat.ble 100 d && (st.isEmpty && (me.2.2.1.beq 0 && (me.2.1.beq 0 && (sx_refs lv lw_refs && (match sx_fnd lv 4 with
  | some (.inl e) => sx_ieq e.1 0 && (sx_sameA e.2 [(.ofNat 1, 1)] && sx_lin (-1) (sx_w 0) (6, [(.ofNat 1, 1)]) fun d => sx_leq me.2.2.2.2 d)
  | _ => false)))))
noncomputable def lw_H : sx_Hk := fun pc => bif pc.beq 23 then some lw_F else bif pc.beq 228 then some lw_G else bif pc.beq 326 then some lw_G else bif pc.beq 1493 then some lw_G else bif pc.beq 1518 then some lw_G else bif pc.beq 1225 then some lw_G else none
noncomputable def lw_R (v : Option sx_V) (me : sx_Me) : Bool := (match v with
  | some (.inl (c, [])) => sx_ieq c 1
  | _ => false) || sx_contra me.2.2.2.2
noncomputable def lw_run : Bool := sx_run z9 ex_mt k9 100 (some 0) lw_R lw_H 90 tL_law [] 23 100 1 6 ((4, .inl (sx_w 1)) :: lw_refs) [] [] (10, 0, 0, lw_tr, lw_fa)
theorem lw_one : lw_run = true := by decide +kernel
abbrev lw_lw (i : Nat) : List (Nat × Value) := [(4, .int (Int32.ofNat i)), (0, .retAddr 0), (1, .ref 0), (2, .ref 118), (3, .ref 138)]
abbrev lw_env (L : Nat) (xs : Nat → Int32) (i : Nat) (a0 : Int) : List Int := [(L : Int), (i : Int), (xs (i + 0)).toInt, (xs (i + 1)).toInt, (xs (i + 2)).toInt, (xs (i + 3)).toInt, (xs (i + 4)).toInt, (xs (i + 5)).toInt, a0, a0]
def lw_post : Option (Option Value) → am_S → Prop := fun r _ => r = some (some (.int 1))
def lw_tp (σ : am_S) : Prop := ∀ k, k < 940 → σ.2.1 2 k = σ.2.1 119 k
def lw_eq (σ : am_S) : Prop := σ.2.1 1 1 = σ.2.1 118 2 ∧ lw_tp σ ∧ lw_rw σ
theorem lw_Pf {L : Nat} {xs : Nat → Int32} {i : Nat} {a0 : Int} (hL : L ≤ 3072) (hi : i ≤ 3078) (h0 : 0 ≤ a0 ∧ a0 ≤ 940) : sx_P (lw_env L xs i a0) lw_fa := by
  have lo : ∀ x : Int32, (sx_lo : Int) ≤ 1 * x.toInt + 0 ∧ 1 * x.toInt + 0 ≤ sx_up := fun x => by
    rw [Int.one_mul, Int.add_zero]
    exact ⟨Int32.le_toInt x, Int32.toInt_le x⟩
  intro q hq
  simp only [lw_fa, List.mem_cons, List.not_mem_nil, or_false] at hq
  rcases hq with rfl | rfl | rfl | rfl | rfl | rfl | rfl | rfl | rfl | rfl | rfl
  · exact ⟨1 * (L : Int) + 0, rfl, by show (0 : Int) ≤ 1 * L + 0; omega, by show (1 : Int) * L + 0 ≤ 3072; omega⟩
  · exact ⟨1 * (i : Int) + 0, rfl, by show (0 : Int) ≤ 1 * i + 0; omega, by show (1 : Int) * i + 0 ≤ 3078; omega⟩
  · exact ⟨1 * (xs (i + 0)).toInt + 0, rfl, (lo _).1, (lo _).2⟩
  · exact ⟨1 * (xs (i + 1)).toInt + 0, rfl, (lo _).1, (lo _).2⟩
  · exact ⟨1 * (xs (i + 2)).toInt + 0, rfl, (lo _).1, (lo _).2⟩
  · exact ⟨1 * (xs (i + 3)).toInt + 0, rfl, (lo _).1, (lo _).2⟩
  · exact ⟨1 * (xs (i + 4)).toInt + 0, rfl, (lo _).1, (lo _).2⟩
  · exact ⟨1 * (xs (i + 5)).toInt + 0, rfl, (lo _).1, (lo _).2⟩
  · exact ⟨1 * a0 + 0, rfl, by show (0 : Int) ≤ 1 * a0 + 0; omega, by show 1 * a0 + 0 ≤ 940; omega⟩
  · exact ⟨1 * a0 + 0, rfl, by show (0 : Int) ≤ 1 * a0 + 0; omega, by show 1 * a0 + 0 ≤ 940; omega⟩
  · exact ⟨1 * a0 + (-1 * a0 + 0), rfl, by show (0 : Int) ≤ 1 * a0 + (-1 * a0 + 0); omega, by show 1 * a0 + (-1 * a0 + 0) ≤ (0 : Int); omega⟩
/-! the turns of feed, station, image, restore and the compared call, by hand -/
theorem rd_d_L_law_228 : decode tL_law.1.2.1 228 = .ok (.aload_n 1, 1) := by decide +kernel
theorem rd_d_L_law_229 : decode tL_law.1.2.1 229 = .ok (.aload_n 0, 1) := by decide +kernel
theorem rd_d_L_law_230 : decode tL_law.1.2.1 230 = .ok (.iload 4, 2) := by decide +kernel
theorem rd_d_L_law_232 : decode tL_law.1.2.1 232 = .ok (.iconst 1, 1) := by decide +kernel
theorem rd_d_L_law_233 : decode tL_law.1.2.1 233 = .ok (.iadd, 1) := by decide +kernel
theorem rd_d_L_law_234 : decode tL_law.1.2.1 234 = .ok (.iaload, 1) := by decide +kernel
theorem rd_d_L_law_235 : decode tL_law.1.2.1 235 = .ok (.aload_n 0, 1) := by decide +kernel
theorem rd_d_L_law_236 : decode tL_law.1.2.1 236 = .ok (.iload 4, 2) := by decide +kernel
theorem rd_d_L_law_238 : decode tL_law.1.2.1 238 = .ok (.iconst 2, 1) := by decide +kernel
theorem rd_d_L_law_239 : decode tL_law.1.2.1 239 = .ok (.iadd, 1) := by decide +kernel
theorem rd_d_L_law_240 : decode tL_law.1.2.1 240 = .ok (.iaload, 1) := by decide +kernel
theorem rd_d_L_law_241 : decode tL_law.1.2.1 241 = .ok (.aload_n 0, 1) := by decide +kernel
theorem rd_d_L_law_242 : decode tL_law.1.2.1 242 = .ok (.iload 4, 2) := by decide +kernel
theorem rd_d_L_law_244 : decode tL_law.1.2.1 244 = .ok (.iconst 3, 1) := by decide +kernel
theorem rd_d_L_law_245 : decode tL_law.1.2.1 245 = .ok (.iadd, 1) := by decide +kernel
theorem rd_d_L_law_246 : decode tL_law.1.2.1 246 = .ok (.iaload, 1) := by decide +kernel
theorem rd_d_L_law_247 : decode tL_law.1.2.1 247 = .ok (.aload_n 0, 1) := by decide +kernel
theorem rd_d_L_law_248 : decode tL_law.1.2.1 248 = .ok (.iload 4, 2) := by decide +kernel
theorem rd_d_L_law_250 : decode tL_law.1.2.1 250 = .ok (.iconst 4, 1) := by decide +kernel
theorem rd_d_L_law_251 : decode tL_law.1.2.1 251 = .ok (.iadd, 1) := by decide +kernel
theorem rd_d_L_law_252 : decode tL_law.1.2.1 252 = .ok (.iaload, 1) := by decide +kernel
theorem rd_d_L_law_253 : decode tL_law.1.2.1 253 = .ok (.aload_n 0, 1) := by decide +kernel
theorem rd_d_L_law_254 : decode tL_law.1.2.1 254 = .ok (.iload 4, 2) := by decide +kernel
theorem rd_d_L_law_256 : decode tL_law.1.2.1 256 = .ok (.iconst 5, 1) := by decide +kernel
theorem rd_d_L_law_257 : decode tL_law.1.2.1 257 = .ok (.iadd, 1) := by decide +kernel
theorem rd_d_L_law_258 : decode tL_law.1.2.1 258 = .ok (.iaload, 1) := by decide +kernel
theorem rd_d_L_law_259 : decode tL_law.1.2.1 259 = .ok (.invokevirtual 39, 3) := by decide +kernel
theorem rd_k_L_law_259 : ex_lk ex_mt tL_law 259 (.invokevirtual 39) [0, 34, 131311] = true := by decide +kernel
theorem rd_d_L_law_262 : decode tL_law.1.2.1 262 = .ok (.pop, 1) := by decide +kernel
theorem rd_d_L_law_263 : decode tL_law.1.2.1 263 = .ok (.aload_n 2, 1) := by decide +kernel
theorem rd_d_L_law_264 : decode tL_law.1.2.1 264 = .ok (.aload_n 0, 1) := by decide +kernel
theorem rd_d_L_law_265 : decode tL_law.1.2.1 265 = .ok (.iload 4, 2) := by decide +kernel
theorem rd_d_L_law_267 : decode tL_law.1.2.1 267 = .ok (.iconst 1, 1) := by decide +kernel
theorem rd_d_L_law_268 : decode tL_law.1.2.1 268 = .ok (.iadd, 1) := by decide +kernel
theorem rd_d_L_law_269 : decode tL_law.1.2.1 269 = .ok (.iaload, 1) := by decide +kernel
theorem rd_d_L_law_270 : decode tL_law.1.2.1 270 = .ok (.aload_n 0, 1) := by decide +kernel
theorem rd_d_L_law_271 : decode tL_law.1.2.1 271 = .ok (.iload 4, 2) := by decide +kernel
theorem rd_d_L_law_273 : decode tL_law.1.2.1 273 = .ok (.iconst 2, 1) := by decide +kernel
theorem rd_d_L_law_274 : decode tL_law.1.2.1 274 = .ok (.iadd, 1) := by decide +kernel
theorem rd_d_L_law_275 : decode tL_law.1.2.1 275 = .ok (.iaload, 1) := by decide +kernel
theorem rd_d_L_law_276 : decode tL_law.1.2.1 276 = .ok (.aload_n 0, 1) := by decide +kernel
theorem rd_d_L_law_277 : decode tL_law.1.2.1 277 = .ok (.iload 4, 2) := by decide +kernel
theorem rd_d_L_law_279 : decode tL_law.1.2.1 279 = .ok (.iconst 3, 1) := by decide +kernel
theorem rd_d_L_law_280 : decode tL_law.1.2.1 280 = .ok (.iadd, 1) := by decide +kernel
theorem rd_d_L_law_281 : decode tL_law.1.2.1 281 = .ok (.iaload, 1) := by decide +kernel
theorem rd_d_L_law_282 : decode tL_law.1.2.1 282 = .ok (.aload_n 0, 1) := by decide +kernel
theorem rd_d_L_law_283 : decode tL_law.1.2.1 283 = .ok (.iload 4, 2) := by decide +kernel
theorem rd_d_L_law_285 : decode tL_law.1.2.1 285 = .ok (.iconst 4, 1) := by decide +kernel
theorem rd_d_L_law_286 : decode tL_law.1.2.1 286 = .ok (.iadd, 1) := by decide +kernel
theorem rd_d_L_law_287 : decode tL_law.1.2.1 287 = .ok (.iaload, 1) := by decide +kernel
theorem rd_d_L_law_288 : decode tL_law.1.2.1 288 = .ok (.aload_n 0, 1) := by decide +kernel
theorem rd_d_L_law_289 : decode tL_law.1.2.1 289 = .ok (.iload 4, 2) := by decide +kernel
theorem rd_d_L_law_291 : decode tL_law.1.2.1 291 = .ok (.iconst 5, 1) := by decide +kernel
theorem rd_d_L_law_292 : decode tL_law.1.2.1 292 = .ok (.iadd, 1) := by decide +kernel
theorem rd_d_L_law_293 : decode tL_law.1.2.1 293 = .ok (.iaload, 1) := by decide +kernel
theorem rd_d_L_law_294 : decode tL_law.1.2.1 294 = .ok (.invokevirtual 43, 3) := by decide +kernel
theorem rd_k_L_law_294 : ex_lk ex_mt tL_law 294 (.invokevirtual 43) [0, 106, 393453] = true := by decide +kernel
theorem rd_d_L_law_297 : decode tL_law.1.2.1 297 = .ok (.pop, 1) := by decide +kernel
theorem rd_d_L_law_298 : decode tL_law.1.2.1 298 = .ok (.goto 1270, 3) := by decide +kernel
theorem rd_d_L_law_326 : decode tL_law.1.2.1 326 = .ok (.aload_n 1, 1) := by decide +kernel
theorem rd_d_L_law_327 : decode tL_law.1.2.1 327 = .ok (.invokevirtual 49, 3) := by decide +kernel
theorem rd_k_L_law_327 : ex_lk ex_mt tL_law 327 (.invokevirtual 49) [0, 65, 196623] = true := by decide +kernel
theorem rd_d_L_law_330 : decode tL_law.1.2.1 330 = .ok (.pop, 1) := by decide +kernel
theorem rd_d_L_law_331 : decode tL_law.1.2.1 331 = .ok (.aload_n 2, 1) := by decide +kernel
theorem rd_d_L_law_332 : decode tL_law.1.2.1 332 = .ok (.invokevirtual 53, 3) := by decide +kernel
theorem rd_k_L_law_332 : ex_lk ex_mt tL_law 332 (.invokevirtual 53) [0, 173, 458914] = true := by decide +kernel
theorem rd_d_L_law_335 : decode tL_law.1.2.1 335 = .ok (.pop, 1) := by decide +kernel
theorem rd_d_L_law_336 : decode tL_law.1.2.1 336 = .ok (.goto 1232, 3) := by decide +kernel
theorem rd_d_L_law_1225 : decode tL_law.1.2.1 1225 = .ok (.aload_n 1, 1) := by decide +kernel
theorem rd_d_L_law_1226 : decode tL_law.1.2.1 1226 = .ok (.aload_n 0, 1) := by decide +kernel
theorem rd_d_L_law_1227 : decode tL_law.1.2.1 1227 = .ok (.iload 4, 2) := by decide +kernel
theorem rd_d_L_law_1229 : decode tL_law.1.2.1 1229 = .ok (.iconst 1, 1) := by decide +kernel
theorem rd_d_L_law_1230 : decode tL_law.1.2.1 1230 = .ok (.iadd, 1) := by decide +kernel
theorem rd_d_L_law_1231 : decode tL_law.1.2.1 1231 = .ok (.iaload, 1) := by decide +kernel
theorem rd_d_L_law_1232 : decode tL_law.1.2.1 1232 = .ok (.aload_n 0, 1) := by decide +kernel
theorem rd_d_L_law_1233 : decode tL_law.1.2.1 1233 = .ok (.iload 4, 2) := by decide +kernel
theorem rd_d_L_law_1235 : decode tL_law.1.2.1 1235 = .ok (.iconst 2, 1) := by decide +kernel
theorem rd_d_L_law_1236 : decode tL_law.1.2.1 1236 = .ok (.iadd, 1) := by decide +kernel
theorem rd_d_L_law_1237 : decode tL_law.1.2.1 1237 = .ok (.iaload, 1) := by decide +kernel
theorem rd_d_L_law_1238 : decode tL_law.1.2.1 1238 = .ok (.aload_n 0, 1) := by decide +kernel
theorem rd_d_L_law_1239 : decode tL_law.1.2.1 1239 = .ok (.iload 4, 2) := by decide +kernel
theorem rd_d_L_law_1241 : decode tL_law.1.2.1 1241 = .ok (.iconst 3, 1) := by decide +kernel
theorem rd_d_L_law_1242 : decode tL_law.1.2.1 1242 = .ok (.iadd, 1) := by decide +kernel
theorem rd_d_L_law_1243 : decode tL_law.1.2.1 1243 = .ok (.iaload, 1) := by decide +kernel
theorem rd_d_L_law_1244 : decode tL_law.1.2.1 1244 = .ok (.aload_n 3, 1) := by decide +kernel
theorem rd_d_L_law_1245 : decode tL_law.1.2.1 1245 = .ok (.invokestatic 166, 3) := by decide +kernel
theorem rd_k_L_law_1245 : ex_lk ex_mt tL_law 1245 (.invokestatic 166) [0, 7, 393437] = true := by decide +kernel
theorem rd_d_L_law_1248 : decode tL_law.1.2.1 1248 = .ok (.istore 5, 2) := by decide +kernel
theorem rd_d_L_law_1250 : decode tL_law.1.2.1 1250 = .ok (.aload_n 2, 1) := by decide +kernel
theorem rd_d_L_law_1251 : decode tL_law.1.2.1 1251 = .ok (.aload_n 0, 1) := by decide +kernel
theorem rd_d_L_law_1252 : decode tL_law.1.2.1 1252 = .ok (.iload 4, 2) := by decide +kernel
theorem rd_d_L_law_1254 : decode tL_law.1.2.1 1254 = .ok (.iconst 1, 1) := by decide +kernel
theorem rd_d_L_law_1255 : decode tL_law.1.2.1 1255 = .ok (.iadd, 1) := by decide +kernel
theorem rd_d_L_law_1256 : decode tL_law.1.2.1 1256 = .ok (.iaload, 1) := by decide +kernel
theorem rd_d_L_law_1257 : decode tL_law.1.2.1 1257 = .ok (.aload_n 0, 1) := by decide +kernel
theorem rd_d_L_law_1258 : decode tL_law.1.2.1 1258 = .ok (.iload 4, 2) := by decide +kernel
theorem rd_d_L_law_1260 : decode tL_law.1.2.1 1260 = .ok (.iconst 2, 1) := by decide +kernel
theorem rd_d_L_law_1261 : decode tL_law.1.2.1 1261 = .ok (.iadd, 1) := by decide +kernel
theorem rd_d_L_law_1262 : decode tL_law.1.2.1 1262 = .ok (.iaload, 1) := by decide +kernel
theorem rd_d_L_law_1263 : decode tL_law.1.2.1 1263 = .ok (.aload_n 0, 1) := by decide +kernel
theorem rd_d_L_law_1264 : decode tL_law.1.2.1 1264 = .ok (.iload 4, 2) := by decide +kernel
theorem rd_d_L_law_1266 : decode tL_law.1.2.1 1266 = .ok (.iconst 3, 1) := by decide +kernel
theorem rd_d_L_law_1267 : decode tL_law.1.2.1 1267 = .ok (.iadd, 1) := by decide +kernel
theorem rd_d_L_law_1268 : decode tL_law.1.2.1 1268 = .ok (.iaload, 1) := by decide +kernel
theorem rd_d_L_law_1269 : decode tL_law.1.2.1 1269 = .ok (.invokevirtual 168, 3) := by decide +kernel
theorem rd_k_L_law_1269 : ex_lk ex_mt tL_law 1269 (.invokevirtual 168) [0, 137, 589854] = true := by decide +kernel
theorem rd_d_L_law_1272 : decode tL_law.1.2.1 1272 = .ok (.istore 6, 2) := by decide +kernel
theorem rd_d_L_law_1274 : decode tL_law.1.2.1 1274 = .ok (.aload_n 2, 1) := by decide +kernel
theorem rd_d_L_law_1275 : decode tL_law.1.2.1 1275 = .ok (.invokevirtual 169, 3) := by decide +kernel
theorem rd_k_L_law_1275 : ex_lk ex_mt tL_law 1275 (.invokevirtual 169) [0, 177, 393449] = true := by decide +kernel
theorem rd_d_L_law_1278 : decode tL_law.1.2.1 1278 = .ok (.iload 5, 2) := by decide +kernel
theorem rd_d_L_law_1280 : decode tL_law.1.2.1 1280 = .ok (.if_icmp .eq 5, 3) := by decide +kernel
theorem rd_d_L_law_1285 : decode tL_law.1.2.1 1285 = .ok (.iload 5, 2) := by decide +kernel
theorem rd_d_L_law_1287 : decode tL_law.1.2.1 1287 = .ok (.ifCond .ne 15, 3) := by decide +kernel
theorem rd_d_L_law_1290 : decode tL_law.1.2.1 1290 = .ok (.aload_n 3, 1) := by decide +kernel
theorem rd_d_L_law_1291 : decode tL_law.1.2.1 1291 = .ok (.iconst 0, 1) := by decide +kernel
theorem rd_d_L_law_1292 : decode tL_law.1.2.1 1292 = .ok (.laload, 1) := by decide +kernel
theorem rd_d_L_law_1293 : decode tL_law.1.2.1 1293 = .ok (.iload 6, 2) := by decide +kernel
theorem rd_d_L_law_1295 : decode tL_law.1.2.1 1295 = .ok (.i2l, 1) := by decide +kernel
theorem rd_d_L_law_1296 : decode tL_law.1.2.1 1296 = .ok (.lcmp, 1) := by decide +kernel
theorem rd_d_L_law_1297 : decode tL_law.1.2.1 1297 = .ok (.ifCond .eq 5, 3) := by decide +kernel
theorem rd_d_L_law_1302 : decode tL_law.1.2.1 1302 = .ok (.goto 266, 3) := by decide +kernel
theorem rd_d_L_law_1493 : decode tL_law.1.2.1 1493 = .ok (.aload_n 1, 1) := by decide +kernel
theorem rd_d_L_law_1494 : decode tL_law.1.2.1 1494 = .ok (.aload_n 0, 1) := by decide +kernel
theorem rd_d_L_law_1495 : decode tL_law.1.2.1 1495 = .ok (.iload 4, 2) := by decide +kernel
theorem rd_d_L_law_1497 : decode tL_law.1.2.1 1497 = .ok (.iconst 1, 1) := by decide +kernel
theorem rd_d_L_law_1498 : decode tL_law.1.2.1 1498 = .ok (.iadd, 1) := by decide +kernel
theorem rd_d_L_law_1499 : decode tL_law.1.2.1 1499 = .ok (.iaload, 1) := by decide +kernel
theorem rd_d_L_law_1500 : decode tL_law.1.2.1 1500 = .ok (.invokevirtual 204, 3) := by decide +kernel
theorem rd_k_L_law_1500 : ex_lk ex_mt tL_law 1500 (.invokevirtual 204) [0, 38, 393274] = true := by decide +kernel
theorem rd_d_L_law_1503 : decode tL_law.1.2.1 1503 = .ok (.pop, 1) := by decide +kernel
theorem rd_d_L_law_1504 : decode tL_law.1.2.1 1504 = .ok (.aload_n 2, 1) := by decide +kernel
theorem rd_d_L_law_1505 : decode tL_law.1.2.1 1505 = .ok (.aload_n 0, 1) := by decide +kernel
theorem rd_d_L_law_1506 : decode tL_law.1.2.1 1506 = .ok (.iload 4, 2) := by decide +kernel
theorem rd_d_L_law_1508 : decode tL_law.1.2.1 1508 = .ok (.iconst 1, 1) := by decide +kernel
theorem rd_d_L_law_1509 : decode tL_law.1.2.1 1509 = .ok (.iadd, 1) := by decide +kernel
theorem rd_d_L_law_1510 : decode tL_law.1.2.1 1510 = .ok (.iaload, 1) := by decide +kernel
theorem rd_d_L_law_1511 : decode tL_law.1.2.1 1511 = .ok (.invokevirtual 207, 3) := by decide +kernel
theorem rd_k_L_law_1511 : ex_lk ex_mt tL_law 1511 (.invokevirtual 207) [0, 116, 589963] = true := by decide +kernel
theorem rd_d_L_law_1514 : decode tL_law.1.2.1 1514 = .ok (.pop, 1) := by decide +kernel
theorem rd_d_L_law_1515 : decode tL_law.1.2.1 1515 = .ok (.goto 53, 3) := by decide +kernel
theorem rd_d_L_law_1518 : decode tL_law.1.2.1 1518 = .ok (.aload_n 1, 1) := by decide +kernel
theorem rd_d_L_law_1519 : decode tL_law.1.2.1 1519 = .ok (.aload_n 0, 1) := by decide +kernel
theorem rd_d_L_law_1520 : decode tL_law.1.2.1 1520 = .ok (.iload 4, 2) := by decide +kernel
theorem rd_d_L_law_1522 : decode tL_law.1.2.1 1522 = .ok (.iconst 1, 1) := by decide +kernel
theorem rd_d_L_law_1523 : decode tL_law.1.2.1 1523 = .ok (.iadd, 1) := by decide +kernel
theorem rd_d_L_law_1524 : decode tL_law.1.2.1 1524 = .ok (.iaload, 1) := by decide +kernel
theorem rd_d_L_law_1525 : decode tL_law.1.2.1 1525 = .ok (.invokevirtual 208, 3) := by decide +kernel
theorem rd_k_L_law_1525 : ex_lk ex_mt tL_law 1525 (.invokevirtual 208) [0, 57, 393289] = true := by decide +kernel
theorem rd_d_L_law_1528 : decode tL_law.1.2.1 1528 = .ok (.pop, 1) := by decide +kernel
theorem rd_d_L_law_1529 : decode tL_law.1.2.1 1529 = .ok (.aload_n 2, 1) := by decide +kernel
theorem rd_d_L_law_1530 : decode tL_law.1.2.1 1530 = .ok (.aload_n 0, 1) := by decide +kernel
theorem rd_d_L_law_1531 : decode tL_law.1.2.1 1531 = .ok (.iload 4, 2) := by decide +kernel
theorem rd_d_L_law_1533 : decode tL_law.1.2.1 1533 = .ok (.iconst 1, 1) := by decide +kernel
theorem rd_d_L_law_1534 : decode tL_law.1.2.1 1534 = .ok (.iadd, 1) := by decide +kernel
theorem rd_d_L_law_1535 : decode tL_law.1.2.1 1535 = .ok (.iaload, 1) := by decide +kernel
theorem rd_d_L_law_1536 : decode tL_law.1.2.1 1536 = .ok (.invokevirtual 211, 3) := by decide +kernel
theorem rd_k_L_law_1536 : ex_lk ex_mt tL_law 1536 (.invokevirtual 211) [0, 157, 589967] = true := by decide +kernel
theorem rd_d_L_law_1539 : decode tL_law.1.2.1 1539 = .ok (.pop, 1) := by decide +kernel
theorem rd_d_L_law_1540 : decode tL_law.1.2.1 1540 = .ok (.goto 28, 3) := by decide +kernel
theorem rd_d_L_law_1568 : decode tL_law.1.2.1 1568 = .ok (.iinc 4 6, 3) := by decide +kernel
theorem rd_d_L_law_1571 : decode tL_law.1.2.1 1571 = .ok (.goto (-1548), 3) := by decide +kernel
section LC
variable {g : am_C} {L : Nat} {xs : Nat → Int32}
theorem lw_call {Z : sx_Z} {C : Nat → am_S → Prop} (G : sx_G0 g L xs Z C ex_mt) {mi2 : Nat} {T T2 : ex_T} (hT2 : ex_mt mi2 = some T2) {pc i p n bc bs ci p1 p2 p3 p4 : Nat} (hd : decode T.1.2.1 pc = .ok (.invokevirtual i, 3)) (hl : ex_lk ex_mt T pc (.invokevirtual i) [0, mi2, p] = true) (hm : T2.2.1 = [1, n, bc, bs, ci, p1, p2, p3, p4]) {o : Nat} {σ : am_S} (ho : σ.1[o]? = some (.inl ci)) {as st stk : List Value} (hn : as.length = n) (hlen : (lg_sl (.ref o :: as)).length ≤ T2.1.2.2.1) (hst : stk = as.reverse ++ .ref o :: st) (hroom : (st.map fun v => v.category).sum ≤ 8) {d d1 mc ms : Nat} (hd1 : d1 + 1 ≤ d) {lv : List (Nat × Value)} {post post1 : Option (Option Value) → am_S → Prop} (hnt : ∀ σ', ¬ post1 none σ') (k1 : am_K g d1 T2.1 0 0 0 (lv_args 0 (.ref o :: as)) [] σ post1) (kk : ∀ v σ', post1 (some v) σ' → am_K g d T.1 mc ms (pc + 3) lv (v.toList ++ st) σ' post) : am_K g d T.1 mc ms pc lv stk σ post := by
  unfold ex_lk at hl
  simp only [hT2] at hl
  rw [Bool.and_eq_true, decide_eq_true_eq] at hl
  obtain ⟨m1, m2, m3, U, N, m4⟩ := ex_mok_V (G.2.2.2.1 mi2 T2 hT2) hm
  have h := kr_callV (mc := mc) (ms := ms) (mc1 := 0) (ms1 := 0) G.1 m4 ho m1 m2 m3 (ex_mlk_ok hl.2) hd hn hlen hst hroom hd1 hnt k1 kk
  rw [Nat.zero_add, Nat.zero_add] at h
  exact h
theorem lw_arg (G : sx_G0 g L xs z9 hd_C ex_mt) {pc i c d mc ms : Nat} (hi : i + c < L) (h1 : decode tL_law.1.2.1 pc = .ok (.aload_n 0, 1)) (h2 : decode tL_law.1.2.1 (pc + 1) = .ok (.iload 4, 2)) (h3 : decode tL_law.1.2.1 (pc + 3) = .ok (.iconst (c : Int), 1)) (h4 : decode tL_law.1.2.1 (pc + 4) = .ok (.iadd, 1)) (h5 : decode tL_law.1.2.1 (pc + 5) = .ok (.iaload, 1)) {st : List Value} {σ : am_S} {post : Option (Option Value) → am_S → Prop} (kk : am_K g d tL_law.1 mc ms (pc + 6) (lw_lw i) (.int (xs (i + c)) :: st) σ post) : am_K g d tL_law.1 mc ms pc (lw_lw i) st σ post := by
  have hL := G.2.2.1
  have hX : g.2.2.2.2.2.2 0 = some (L, xs) := by rw [G.2.1]; rfl
  refine kr_aXload_n 1 h1 rfl ?_
  refine kr_iload 0 h2 rfl ?_
  refine kr_iconst (v := Int32.ofNat c) h3 rfl ?_
  refine kr_iadd h4 ?_
  have e : (Int32.ofNat i + Int32.ofNat c).toInt = ((i + c : Nat) : Int) := by
    rw [← Int32.ofNat_add]
    exact hd_ti (by omega)
  refine kr_ialdX G.1 h5 hX (hd_in e hi) ?_
  rw [hd_clamp e]
  exact kk
theorem lw_kp {σ σ1 : am_S} {m : Nat} (hM1 : sx_M z9 hd_C σ m 0 σ1) (b1 : sx_bit m 18 = false) (b2 : sx_bit m 361 = false) (b3 : sx_bit m 19 = false) (b4 : sx_bit m 406 = false) : σ1.2.1 1 1 = σ.2.1 1 1 ∧ σ1.2.1 118 2 = σ.2.1 118 2 ∧ (∀ k, k < 940 → σ1.2.1 2 k = σ.2.1 2 k) ∧ ∀ k, k < 940 → σ1.2.1 119 k = σ.2.1 119 k := ⟨hM1.2.2.2.2.1 1 1 _ _ 18 rfl b1, hM1.2.2.2.2.1 118 2 _ _ 361 rfl b2, fun k hk => hM1.2.2.2.2.1 2 k _ _ 19 (rc_a2 hk) b3, fun k hk => hM1.2.2.2.2.1 119 k _ _ 406 (rd_a119 hk) b4⟩
theorem lw_callL (G : sx_G0 g L xs z9 hd_C ex_mt) {mi2 : Nat} {T T2 : ex_T} (hT2 : ex_mt mi2 = some T2) {pc i p n bc bs ci p1 p2 p3 p4 : Nat} (hd : decode T.1.2.1 pc = .ok (.invokestatic i, 3)) (hl : ex_lk ex_mt T pc (.invokestatic i) [0, mi2, p] = true) (hm : T2.2.1 = [0, n, bc, bs, ci, p1, p2, p3, p4]) (hh : T2.1.2.2.2.2 ≠ []) {σ : am_S} {as st stk : List Value} (hn : as.length = n) (hlen : (lg_sl as).length ≤ T2.1.2.2.1) (hst : stk = as.reverse ++ st) (hroom : (st.map fun v => v.category).sum ≤ 8) {d d1 mc ms : Nat} (hd1 : d1 + 1 ≤ d) {lv : List (Nat × Value)} {post post1 : Option (Option Value) → am_S → Prop} (hnt : ∀ σ', ¬ post1 none σ') (k1 : am_K g d1 T2.1 1 6 0 (lv_args 0 as) [] σ post1) (kk : ∀ v σ', post1 (some v) σ' → am_K g d T.1 mc ms (pc + 3) lv (v.toList ++ st) σ' post) : am_K g d T.1 (1 + mc) (6 + ms) pc lv stk σ post := by
  obtain ⟨m1, m2, m3⟩ := ex_mok_S (G.2.2.2.1 mi2 T2 hT2) hm
  unfold ex_lk at hl
  simp only [hT2] at hl
  rw [Bool.and_eq_true, decide_eq_true_eq] at hl
  exact kr_callSW G.1 (m2 hh) m3 (ex_mem_ok hl.2) hd hn hlen hst hroom hd1 hnt k1 kk
theorem ax_TL_n (v : Option Int32) (σ σ' : am_S) : ¬ ax_TL v σ none σ' := by
  cases v with
  | none => intro h; cases h.1
  | some y => intro h; cases h.1
theorem lw_M9 {σ : am_S} (hM : sx_M z9 hd_C σ 0 0 σ) (J : List am_sh) (l : Nat → Nat → Int64) : sx_M z9 hd_C (σ.1 ++ J, σ.2.1, l, σ.2.2.2) 0 0 (σ.1 ++ J, σ.2.1, l, σ.2.2.2) := by
  obtain ⟨h1, h2, h3, h4, h5, h6, h7, h8⟩ := hM
  refine ⟨fun o h q => ?_, h2, h3, h4, fun _ _ _ _ _ _ _ => rfl, h6, h7, fun _ => rfl, fun _ => rfl⟩
  have := h1 o h q
  show (σ.1 ++ J)[o]? = some h
  rw [List.getElem?_append_left (List.getElem?_eq_some_iff.mp this).1]
  exact this
theorem lw_cmp0 (x : Int64) : lg_cmp x x = 0 := by
  unfold lg_cmp
  simp
theorem lw_argX (G : sx_G0 g L xs z9 hd_C ex_mt) {pc i c l d mc ms : Nat} {v : Value} (hi : i + c < L) (h1 : decode tL_law.1.2.1 pc = .ok (.aload_n 0, 1)) (h2 : decode tL_law.1.2.1 (pc + 1) = .ok (.iload 4, 2)) (h3 : decode tL_law.1.2.1 (pc + 3) = .ok (.iconst (c : Int), 1)) (h4 : decode tL_law.1.2.1 (pc + 4) = .ok (.iadd, 1)) (h5 : decode tL_law.1.2.1 (pc + 5) = .ok (.iaload, 1)) {st : List Value} {σ : am_S} {post : Option (Option Value) → am_S → Prop} (kk : am_K g d tL_law.1 mc ms (pc + 6) ((l, v) :: lw_lw i) (.int (xs (i + c)) :: st) σ post) : am_K g d tL_law.1 mc ms pc ((l, v) :: lw_lw i) st σ post := by
  have hL := G.2.2.1
  have hX : g.2.2.2.2.2.2 0 = some (L, xs) := by rw [G.2.1]; rfl
  refine kr_aXload_n 2 h1 rfl ?_
  refine kr_iload 1 h2 rfl ?_
  refine kr_iconst (v := Int32.ofNat c) h3 rfl ?_
  refine kr_iadd h4 ?_
  have e : (Int32.ofNat i + Int32.ofNat c).toInt = ((i + c : Nat) : Int) := by
    rw [← Int32.ofNat_add]
    exact hd_ti (by omega)
  refine kr_ialdX G.1 h5 hX (hd_in e hi) ?_
  rw [hd_clamp e]
  exact kk
theorem lw_case0 (G : sx_G0 g L xs z9 hd_C ex_mt) (hct : lw_hct g) {n i : Nat} {σ : am_S} (hM : sx_M z9 hd_C σ 0 0 σ) (heq : lw_eq σ) (hi : i + 6 ≤ L) (next : ∀ σ' : am_S, i + 6 ≤ L → sx_M z9 hd_C σ' 0 0 σ' → lw_eq σ' → am_K g 100 tL_law.1 n (6 * n) 23 (lw_lw (i + 6)) [] σ' lw_post) : am_K g 100 tL_law.1 n (6 * n) 228 (lw_lw i) [] σ lw_post := by
  have k1 : (0 : Int) ≤ (σ.2.1 1 1).toInt := (hM.2.2.1 1 1 _ _ 18 rfl).1
  obtain ⟨N, hN⟩ : ∃ N : Nat, (σ.2.1 1 1).toInt = N := ⟨(σ.2.1 1 1).toInt.toNat, by omega⟩
  refine kr_aload_n 2 rd_d_L_law_228 rfl ?_
  refine lw_arg G (pc := 229) (c := 1) (by omega) rd_d_L_law_229 rd_d_L_law_230 rd_d_L_law_232 rd_d_L_law_233 rd_d_L_law_234 ?_
  refine lw_arg G (pc := 235) (c := 2) (by omega) rd_d_L_law_235 rd_d_L_law_236 rd_d_L_law_238 rd_d_L_law_239 rd_d_L_law_240 ?_
  refine lw_arg G (pc := 241) (c := 3) (by omega) rd_d_L_law_241 rd_d_L_law_242 rd_d_L_law_244 rd_d_L_law_245 rd_d_L_law_246 ?_
  refine lw_arg G (pc := 247) (c := 4) (by omega) rd_d_L_law_247 rd_d_L_law_248 rd_d_L_law_250 rd_d_L_law_251 rd_d_L_law_252 ?_
  refine lw_arg G (pc := 253) (c := 5) (by omega) rd_d_L_law_253 rd_d_L_law_254 rd_d_L_law_256 rd_d_L_law_257 rd_d_L_law_258 ?_
  refine lw_call G (T2 := tX11_feed) rfl rd_d_L_law_259 rd_k_L_law_259 rfl (hM.1 0 (.inl 11) rfl) (as := [.int (xs (i + 1)), .int (xs (i + 2)), .int (xs (i + 3)), .int (xs (i + 4)), .int (xs (i + 5))]) (st := []) rfl (Nat.le_of_ble_eq_true rfl) rfl (by decide) (d1 := 60) (by decide) (fun _ h => by obtain ⟨y, h, -⟩ := h; cases h) (lw_feedX G hct hM hN _ _ _ _ _) ?_
  intro v1 σ1 ⟨y1, hv1, hM1, hf1⟩
  cases hv1
  refine kr_pop rd_d_L_law_262 rfl ?_
  refine kr_aload_n 3 rd_d_L_law_263 rfl ?_
  refine lw_arg G (pc := 264) (c := 1) (by omega) rd_d_L_law_264 rd_d_L_law_265 rd_d_L_law_267 rd_d_L_law_268 rd_d_L_law_269 ?_
  refine lw_arg G (pc := 270) (c := 2) (by omega) rd_d_L_law_270 rd_d_L_law_271 rd_d_L_law_273 rd_d_L_law_274 rd_d_L_law_275 ?_
  refine lw_arg G (pc := 276) (c := 3) (by omega) rd_d_L_law_276 rd_d_L_law_277 rd_d_L_law_279 rd_d_L_law_280 rd_d_L_law_281 ?_
  refine lw_arg G (pc := 282) (c := 4) (by omega) rd_d_L_law_282 rd_d_L_law_283 rd_d_L_law_285 rd_d_L_law_286 rd_d_L_law_287 ?_
  refine lw_arg G (pc := 288) (c := 5) (by omega) rd_d_L_law_288 rd_d_L_law_289 rd_d_L_law_291 rd_d_L_law_292 rd_d_L_law_293 ?_
  have h2 : σ1.2.1 118 2 = σ.2.1 118 2 := hM1.2.2.2.2.1 118 2 _ _ 361 rfl (by decide +kernel)
  have hN1 : (σ1.2.1 118 2).toInt = N := by rw [h2, ← heq.1]; exact hN
  refine lw_call G (T2 := tX12_feed) rfl rd_d_L_law_294 rd_k_L_law_294 rfl (hM1.1 118 (.inl 12) rfl) (as := [.int (xs (i + 1)), .int (xs (i + 2)), .int (xs (i + 3)), .int (xs (i + 4)), .int (xs (i + 5))]) (st := []) rfl (Nat.le_of_ble_eq_true rfl) rfl (by decide) (d1 := 60) (by decide) (fun _ h => by obtain ⟨y, h, -⟩ := h; cases h) (lw_feedM G hct (sx_M_self hM1) hN1 _ _ _ _ _) ?_
  intro v2 σ2 ⟨y2, hv2, hM2, hf2⟩
  cases hv2
  refine kr_pop rd_d_L_law_297 rfl ?_
  refine kr_goto (tgt := 1568) rd_d_L_law_298 rfl ?_
  refine kr_iinc 0 rd_d_L_law_1568 rfl (v := Int32.ofNat (i + 6)) (by rw [Int32.ofNat_add]; rfl) (by decide) rfl ?_
  refine kr_goto (tgt := 23) rd_d_L_law_1571 rfl ?_
  refine next σ2 hi (sx_M_self hM2) ⟨?_, fun k hk => ?_, rw_keep (sx_M_self hM1) hM2 (by decide +kernel) (rw_keep hM hM1 (by decide +kernel) heq.2.2)⟩
  · have e1 : σ2.2.1 1 1 = σ1.2.1 1 1 := hM2.2.2.2.2.1 1 1 _ _ 18 rfl (by decide +kernel)
    rw [e1]
    apply Int32.toInt_inj.mp
    rcases hf1 with ⟨a1, a2, -⟩ | ⟨a1, a2, -⟩
    · rcases hf2 with ⟨b1, b2, -⟩ | ⟨b1, b2, -⟩
      · rw [a2, b2]
      · omega
    · rcases hf2 with ⟨b1, b2, -⟩ | ⟨b1, b2, -⟩
      · omega
      · rw [a2, b2]
  · have e1 : σ2.2.1 2 k = σ1.2.1 2 k := hM2.2.2.2.2.1 2 k _ _ 19 (rc_a2 hk) (by decide +kernel)
    have e2 : ∀ j, j < 940 → σ.2.1 2 j = σ1.2.1 119 j := fun j hj => (heq.2.1 j hj).trans (hM1.2.2.2.2.1 119 j _ _ 406 (rd_a119 hj) (by decide +kernel)).symm
    rw [e1]
    rcases hf1 with ⟨a1, -, a3⟩ | ⟨a1, -, a3⟩
    · rcases hf2 with ⟨b1, -, b3⟩ | ⟨b1, -, b3⟩
      · rw [a3 k hk, b3 k hk]
        exact fd_5_eq e2 N _ _ _ _ _ k hk
      · omega
    · rcases hf2 with ⟨b1, -, b3⟩ | ⟨b1, -, b3⟩
      · omega
      · rw [a3 k hk, b3 k hk]
        exact e2 k hk
theorem lw_case2 (G : sx_G0 g L xs z9 hd_C ex_mt) (hct : lw_hct g) {n i : Nat} {σ : am_S} (hM : sx_M z9 hd_C σ 0 0 σ) (heq : lw_eq σ) (hi : i + 6 ≤ L) (next : ∀ σ' : am_S, i + 6 ≤ L → sx_M z9 hd_C σ' 0 0 σ' → lw_eq σ' → am_K g 100 tL_law.1 n (6 * n) 23 (lw_lw (i + 6)) [] σ' lw_post) : am_K g 100 tL_law.1 n (6 * n) 326 (lw_lw i) [] σ lw_post := by
  have k1 : (0 : Int) ≤ (σ.2.1 1 1).toInt := (hM.2.2.1 1 1 _ _ 18 rfl).1
  obtain ⟨N, hN⟩ : ∃ N : Nat, (σ.2.1 1 1).toInt = N := ⟨(σ.2.1 1 1).toInt.toNat, by omega⟩
  refine kr_aload_n 2 rd_d_L_law_326 rfl ?_
  refine lw_call G (T2 := tX11_station) rfl rd_d_L_law_327 rd_k_L_law_327 rfl (hM.1 0 (.inl 11) rfl) (as := []) (st := []) rfl (Nat.le_of_ble_eq_true rfl) rfl (by decide) (d1 := 60) (by decide) (fun _ h => by obtain ⟨y, h, -⟩ := h; cases h) (lw_stX5 G hct hM (b := rd_by (σ.2.1 2)) (fun _ _ => rfl) hN) ?_
  intro v1 σ1 ⟨y1, hv1, hM1, hz1, ha1, hs1⟩
  cases hv1
  refine kr_pop rd_d_L_law_330 rfl ?_
  refine kr_aload_n 3 rd_d_L_law_331 rfl ?_
  have h2 : σ1.2.1 118 2 = σ.2.1 118 2 := hM1.2.2.2.2.1 118 2 _ _ 361 rfl (by decide +kernel)
  have hN1 : (σ1.2.1 118 2).toInt = N := by rw [h2, ← heq.1]; exact hN
  have h9 : ∀ k, k < 940 → σ1.2.1 119 k = σ.2.1 2 k := fun k hk => (hM1.2.2.2.2.1 119 k _ _ 406 (rd_a119 hk) (by decide +kernel)).trans (heq.2.1 k hk).symm
  refine lw_call G (T2 := tX12_station) rfl rd_d_L_law_332 rd_k_L_law_332 rfl (hM1.1 118 (.inl 12) rfl) (as := []) (st := []) rfl (Nat.le_of_ble_eq_true rfl) rfl (Nat.le_of_ble_eq_true rfl) (d1 := 60) (by decide) (fun _ h => by obtain ⟨⟨y, h, -⟩, -⟩ := h; cases h) (lw_stM5 G hct (sx_M_self hM1) (b := rd_by (σ.2.1 2)) (rd_by_le _) (fun k hk => by unfold rd_by; rw [h9 k hk]) hN1) ?_
  intro v2 σ2 ⟨⟨y2, hv2, hM2, hz2, ha2⟩, hs2⟩
  cases hv2
  refine kr_pop rd_d_L_law_335 rfl ?_
  refine kr_goto (tgt := 1568) rd_d_L_law_336 rfl ?_
  refine kr_iinc 0 rd_d_L_law_1568 rfl (v := Int32.ofNat (i + 6)) (by rw [Int32.ofNat_add]; rfl) (by decide) rfl ?_
  refine kr_goto (tgt := 23) rd_d_L_law_1571 rfl ?_
  refine next σ2 hi (sx_M_self hM2) ⟨?_, fun k hk => ?_, rw_st hM heq.2.2 hM1 hs1 hM2 hs2⟩
  · have e1 : σ2.2.1 1 1 = σ1.2.1 1 1 := hM2.2.2.2.2.1 1 1 _ _ 18 rfl (by decide +kernel)
    rw [e1]
    apply Int32.toInt_inj.mp
    omega
  · have e1 : σ2.2.1 2 k = σ1.2.1 2 k := hM2.2.2.2.2.1 2 k _ _ 19 (rc_a2 hk) (by decide +kernel)
    have e2 : σ1.2.1 2 k = σ.2.1 2 k := hM1.2.2.2.2.1 2 k _ _ 19 (rc_a2 hk) (by decide +kernel)
    have e3 : σ2.2.1 119 k = σ1.2.1 119 k := hM2.2.2.2.2.1 119 k _ _ 406 (rd_a119 hk) (by decide +kernel)
    rw [e1, e2, e3, h9 k hk]
theorem lw_case40 (G : sx_G0 g L xs z9 hd_C ex_mt) (hct : lw_hct g) {n i : Nat} {σ : am_S} (hM : sx_M z9 hd_C σ 0 0 σ) (heq : lw_eq σ) (hi : i + 6 ≤ L) (next : ∀ σ' : am_S, i + 6 ≤ L → sx_M z9 hd_C σ' 0 0 σ' → lw_eq σ' → am_K g 100 tL_law.1 n (6 * n) 23 (lw_lw (i + 6)) [] σ' lw_post) : am_K g 100 tL_law.1 n (6 * n) 1493 (lw_lw i) [] σ lw_post := by
  refine kr_aload_n 2 rd_d_L_law_1493 rfl ?_
  refine lw_arg G (pc := 1494) (c := 1) (by omega) rd_d_L_law_1494 rd_d_L_law_1495 rd_d_L_law_1497 rd_d_L_law_1498 rd_d_L_law_1499 ?_
  refine lw_call G (T2 := tX11_image) rfl rd_d_L_law_1500 rd_k_L_law_1500 rfl (hM.1 0 (.inl 11) rfl) (as := [.int (xs (i + 1))]) (st := []) rfl (Nat.le_of_ble_eq_true rfl) rfl (Nat.le_of_ble_eq_true rfl) (d1 := 60) (by decide) (fun _ h => by obtain ⟨y, h, -⟩ := h; cases h) (lw_imX G hct hM _) ?_
  intro v1 σ1 ⟨y1, hv1, hM1, hp1⟩
  cases hv1
  refine kr_pop rd_d_L_law_1503 rfl ?_
  refine kr_aload_n 3 rd_d_L_law_1504 rfl ?_
  refine lw_arg G (pc := 1505) (c := 1) (by omega) rd_d_L_law_1505 rd_d_L_law_1506 rd_d_L_law_1508 rd_d_L_law_1509 rd_d_L_law_1510 ?_
  refine lw_call G (T2 := tX12_image) rfl rd_d_L_law_1511 rd_k_L_law_1511 rfl (hM1.1 118 (.inl 12) rfl) (as := [.int (xs (i + 1))]) (st := []) rfl (Nat.le_of_ble_eq_true rfl) rfl (Nat.le_of_ble_eq_true rfl) (d1 := 60) (by decide) (fun _ h => by obtain ⟨y, h, -⟩ := h; cases h) (lw_imM G hct (sx_M_self hM1) _) ?_
  intro v2 σ2 ⟨y2, hv2, hM2, hp2⟩
  cases hv2
  refine kr_pop rd_d_L_law_1514 rfl ?_
  refine kr_goto (tgt := 1568) rd_d_L_law_1515 rfl ?_
  refine kr_iinc 0 rd_d_L_law_1568 rfl (v := Int32.ofNat (i + 6)) (by rw [Int32.ofNat_add]; rfl) (by decide) rfl ?_
  refine kr_goto (tgt := 23) rd_d_L_law_1571 rfl ?_
  have K1 := lw_kp hM1 (by decide +kernel) (by decide +kernel) (by decide +kernel) (by decide +kernel)
  have K2 := lw_kp hM2 (by decide +kernel) (by decide +kernel) (by decide +kernel) (by decide +kernel)
  exact next σ2 hi (sx_M_self hM2) ⟨by rw [K2.1, K2.2.1, K1.1, K1.2.1]; exact heq.1, fun k hk => by rw [K2.2.2.1 k hk, K2.2.2.2 k hk, K1.2.2.1 k hk, K1.2.2.2 k hk]; exact heq.2.1 k hk, rw_image hM heq.2.2 hM1 hp1 hM2 hp2⟩
theorem lw_case41 (G : sx_G0 g L xs z9 hd_C ex_mt) (hct : lw_hct g) {n i : Nat} {σ : am_S} (hM : sx_M z9 hd_C σ 0 0 σ) (heq : lw_eq σ) (hi : i + 6 ≤ L) (next : ∀ σ' : am_S, i + 6 ≤ L → sx_M z9 hd_C σ' 0 0 σ' → lw_eq σ' → am_K g 100 tL_law.1 n (6 * n) 23 (lw_lw (i + 6)) [] σ' lw_post) : am_K g 100 tL_law.1 n (6 * n) 1518 (lw_lw i) [] σ lw_post := by
  refine kr_aload_n 2 rd_d_L_law_1518 rfl ?_
  refine lw_arg G (pc := 1519) (c := 1) (by omega) rd_d_L_law_1519 rd_d_L_law_1520 rd_d_L_law_1522 rd_d_L_law_1523 rd_d_L_law_1524 ?_
  refine lw_call G (T2 := tX11_restore) rfl rd_d_L_law_1525 rd_k_L_law_1525 rfl (hM.1 0 (.inl 11) rfl) (as := [.int (xs (i + 1))]) (st := []) rfl (Nat.le_of_ble_eq_true rfl) rfl (Nat.le_of_ble_eq_true rfl) (d1 := 60) (by decide) (fun _ h => by obtain ⟨y, h, -⟩ := h; cases h) (lw_reX G hct hM _) ?_
  intro v1 σ1 ⟨y1, hv1, hM1, hp1⟩
  cases hv1
  refine kr_pop rd_d_L_law_1528 rfl ?_
  refine kr_aload_n 3 rd_d_L_law_1529 rfl ?_
  refine lw_arg G (pc := 1530) (c := 1) (by omega) rd_d_L_law_1530 rd_d_L_law_1531 rd_d_L_law_1533 rd_d_L_law_1534 rd_d_L_law_1535 ?_
  refine lw_call G (T2 := tX12_restore) rfl rd_d_L_law_1536 rd_k_L_law_1536 rfl (hM1.1 118 (.inl 12) rfl) (as := [.int (xs (i + 1))]) (st := []) rfl (Nat.le_of_ble_eq_true rfl) rfl (Nat.le_of_ble_eq_true rfl) (d1 := 60) (by decide) (fun _ h => by obtain ⟨y, h, -⟩ := h; cases h) (lw_reM G hct (sx_M_self hM1) _) ?_
  intro v2 σ2 ⟨y2, hv2, hM2, hp2⟩
  cases hv2
  refine kr_pop rd_d_L_law_1539 rfl ?_
  refine kr_goto (tgt := 1568) rd_d_L_law_1540 rfl ?_
  refine kr_iinc 0 rd_d_L_law_1568 rfl (v := Int32.ofNat (i + 6)) (by rw [Int32.ofNat_add]; rfl) (by decide) rfl ?_
  refine kr_goto (tgt := 23) rd_d_L_law_1571 rfl ?_
  have K1 := lw_kp hM1 (by decide +kernel) (by decide +kernel) (by decide +kernel) (by decide +kernel)
  have K2 := lw_kp hM2 (by decide +kernel) (by decide +kernel) (by decide +kernel) (by decide +kernel)
  exact next σ2 hi (sx_M_self hM2) ⟨by rw [K2.1, K2.2.1, K1.1, K1.2.1]; exact heq.1, fun k hk => by rw [K2.2.2.1 k hk, K2.2.2.2 k hk, K1.2.2.1 k hk, K1.2.2.2 k hk]; exact heq.2.1 k hk, rw_restore hM heq.2.2 hM1 hp1 hM2 hp2⟩
theorem lw_case31 (G : sx_G0 g L xs z9 hd_C ex_mt) (hct : lw_hct g) {n i : Nat} {σ : am_S} (hM : sx_M z9 hd_C σ 0 0 σ) (heq : lw_eq σ) (hi : i + 6 ≤ L) (next : ∀ σ' : am_S, i + 6 ≤ L → sx_M z9 hd_C σ' 0 0 σ' → lw_eq σ' → am_K g 100 tL_law.1 n (6 * n) 23 (lw_lw (i + 6)) [] σ' lw_post) : am_K g 100 tL_law.1 (1 + n) (6 + 6 * n) 1225 (lw_lw i) [] σ lw_post := by
  refine kr_aload_n 2 rd_d_L_law_1225 rfl ?_
  refine lw_arg G (pc := 1226) (c := 1) (by omega) rd_d_L_law_1226 rd_d_L_law_1227 rd_d_L_law_1229 rd_d_L_law_1230 rd_d_L_law_1231 ?_
  refine lw_arg G (pc := 1232) (c := 2) (by omega) rd_d_L_law_1232 rd_d_L_law_1233 rd_d_L_law_1235 rd_d_L_law_1236 rd_d_L_law_1237 ?_
  refine lw_arg G (pc := 1238) (c := 3) (by omega) rd_d_L_law_1238 rd_d_L_law_1239 rd_d_L_law_1241 rd_d_L_law_1242 rd_d_L_law_1243 ?_
  refine kr_aload_n 4 rd_d_L_law_1244 rfl ?_
  refine lw_callL G (T2 := tL_meant) rfl rd_d_L_law_1245 rd_k_L_law_1245 rfl (by decide) (as := [.ref 0, .int (xs (i + 1)), .int (xs (i + 2)), .int (xs (i + 3)), .ref 138]) (st := []) rfl (Nat.le_of_ble_eq_true rfl) rfl (Nat.le_of_ble_eq_true rfl) (d1 := 60) (by decide) (ax_TL_n _ _) (lw_cL G hM heq.2.2 _ _ _) ?_
  intro v1 σ1 hv1
  have hfe := lw_cE hM heq.1 heq.2.2 (xs (i + 1)) (xs (i + 2)) (xs (i + 3))
  generalize hf : ax_f_meX σ.2.1 (xs (i + 1)) (xs (i + 2)) (xs (i + 3)) = v at hv1 hfe
  cases v with
  | none =>
    obtain ⟨h1, J, hJ, h2⟩ := hv1
    cases h1
    subst h2
    have hM1 : sx_M z9 hd_C (σ.1 ++ J, σ.2) 0 0 (σ.1 ++ J, σ.2) := lw_M9 hM J σ.2.2.1
    refine kr_istore (lv' := [(5, .int 1), (4, .int (Int32.ofNat i)), (0, .retAddr 0), (1, .ref 0), (2, .ref 118), (3, .ref 138)]) rd_d_L_law_1248 (by decide) rfl ?_
    refine kr_aload_n 4 rd_d_L_law_1250 rfl ?_
    refine lw_argX G (pc := 1251) (c := 1) (l := 5) (by omega) rd_d_L_law_1251 rd_d_L_law_1252 rd_d_L_law_1254 rd_d_L_law_1255 rd_d_L_law_1256 ?_
    refine lw_argX G (pc := 1257) (c := 2) (l := 5) (by omega) rd_d_L_law_1257 rd_d_L_law_1258 rd_d_L_law_1260 rd_d_L_law_1261 rd_d_L_law_1262 ?_
    refine lw_argX G (pc := 1263) (c := 3) (l := 5) (by omega) rd_d_L_law_1263 rd_d_L_law_1264 rd_d_L_law_1266 rd_d_L_law_1267 rd_d_L_law_1268 ?_
    refine lw_call G (T2 := tX12_meant) rfl rd_d_L_law_1269 rd_k_L_law_1269 rfl (hM1.1 118 (.inl 12) rfl) (as := [.int (xs (i + 1)), .int (xs (i + 2)), .int (xs (i + 3))]) (st := []) rfl (Nat.le_of_ble_eq_true rfl) rfl (Nat.le_of_ble_eq_true rfl) (d1 := 60) (by decide) (fun _ h => by obtain ⟨y, h, -⟩ := h; cases h) (lw_cM G hct hM1 heq.2.2 _ _ _) ?_
    intro v2 σ2 ⟨y2, hv2, hM2, hth⟩
    cases hv2
    have hth : (match ax_f_meM (σ.2.1 120) (xs (i + 1)) (xs (i + 2)) (xs (i + 3)) with | some z => y2 = z ∧ σ2.2.1 118 0 = 0 | none => σ2.2.1 118 0 = 1) := hth
    rw [← hfe] at hth
    refine kr_istore (lv' := [(6, .int y2), (5, .int 1), (4, .int (Int32.ofNat i)), (0, .retAddr 0), (1, .ref 0), (2, .ref 118), (3, .ref 138)]) rd_d_L_law_1272 (by decide) rfl ?_
    refine kr_aload_n 5 rd_d_L_law_1274 rfl ?_
    refine lw_call G (T2 := tX12_thrown) rfl rd_d_L_law_1275 rd_k_L_law_1275 rfl (hM2.1 118 (.inl 12) rfl) (as := []) (st := []) rfl (Nat.le_of_ble_eq_true rfl) rfl (Nat.le_of_ble_eq_true rfl) (d1 := 60) (by decide) (fun _ h => by cases h.1) (kr_less (d := 60) (by decide) (Nat.le_refl _) (Nat.le_refl _) (ax_thn G (ax_SM hM2))) ?_
    intro v3 σ3 ⟨hv3, hs3⟩
    cases hv3
    have hs4 := hs3.symm
    subst hs4
    refine kr_iload 1 rd_d_L_law_1278 rfl ?_
    refine kr_icmp_eq (tgt := 1285) rd_d_L_law_1280 rfl (fun _ => ?_) (fun h => absurd (by rw [ax_f_thn]; exact hth) h)
    refine kr_iload 1 rd_d_L_law_1285 rfl ?_
    refine kr_if_ne (tgt := 1302) rd_d_L_law_1287 rfl (fun _ => ?_) (fun h => absurd h (by decide))
    refine kr_sub (lv' := lw_lw i) (by simp) ?_
    refine kr_goto (tgt := 1568) rd_d_L_law_1302 rfl ?_
    refine kr_iinc 0 rd_d_L_law_1568 rfl (v := Int32.ofNat (i + 6)) (by rw [Int32.ofNat_add]; rfl) (by decide) rfl ?_
    refine kr_goto (tgt := 23) rd_d_L_law_1571 rfl ?_
    have K2 := lw_kp hM2 (by decide +kernel) (by decide +kernel) (by decide +kernel) (by decide +kernel)
    exact next σ2 hi (sx_M_self hM2) ⟨by rw [K2.1, K2.2.1]; exact heq.1, fun k hk => by rw [K2.2.2.1 k hk, K2.2.2.2 k hk]; exact heq.2.1 k hk, rw_keep hM1 hM2 (by decide +kernel) heq.2.2⟩
  | some y =>
    obtain ⟨h1, h2⟩ := hv1
    cases h1
    subst h2
    have hM1 : sx_M z9 hd_C (σ.1, σ.2.1, am_up σ.2.2.1 138 0 y.toInt64, σ.2.2.2) 0 0 (σ.1, σ.2.1, am_up σ.2.2.1 138 0 y.toInt64, σ.2.2.2) := by have h := lw_M9 hM [] (am_up σ.2.2.1 138 0 y.toInt64); rw [List.append_nil] at h; exact h
    refine kr_istore (lv' := [(5, .int 0), (4, .int (Int32.ofNat i)), (0, .retAddr 0), (1, .ref 0), (2, .ref 118), (3, .ref 138)]) rd_d_L_law_1248 (by decide) rfl ?_
    refine kr_aload_n 4 rd_d_L_law_1250 rfl ?_
    refine lw_argX G (pc := 1251) (c := 1) (l := 5) (by omega) rd_d_L_law_1251 rd_d_L_law_1252 rd_d_L_law_1254 rd_d_L_law_1255 rd_d_L_law_1256 ?_
    refine lw_argX G (pc := 1257) (c := 2) (l := 5) (by omega) rd_d_L_law_1257 rd_d_L_law_1258 rd_d_L_law_1260 rd_d_L_law_1261 rd_d_L_law_1262 ?_
    refine lw_argX G (pc := 1263) (c := 3) (l := 5) (by omega) rd_d_L_law_1263 rd_d_L_law_1264 rd_d_L_law_1266 rd_d_L_law_1267 rd_d_L_law_1268 ?_
    refine lw_call G (T2 := tX12_meant) rfl rd_d_L_law_1269 rd_k_L_law_1269 rfl (hM1.1 118 (.inl 12) rfl) (as := [.int (xs (i + 1)), .int (xs (i + 2)), .int (xs (i + 3))]) (st := []) rfl (Nat.le_of_ble_eq_true rfl) rfl (Nat.le_of_ble_eq_true rfl) (d1 := 60) (by decide) (fun _ h => by obtain ⟨y, h, -⟩ := h; cases h) (lw_cM G hct hM1 heq.2.2 _ _ _) ?_
    intro v2 σ2 ⟨y2, hv2, hM2, hth⟩
    cases hv2
    have hth : (match ax_f_meM (σ.2.1 120) (xs (i + 1)) (xs (i + 2)) (xs (i + 3)) with | some z => y2 = z ∧ σ2.2.1 118 0 = 0 | none => σ2.2.1 118 0 = 1) := hth
    rw [← hfe] at hth
    refine kr_istore (lv' := [(6, .int y2), (5, .int 0), (4, .int (Int32.ofNat i)), (0, .retAddr 0), (1, .ref 0), (2, .ref 118), (3, .ref 138)]) rd_d_L_law_1272 (by decide) rfl ?_
    refine kr_aload_n 5 rd_d_L_law_1274 rfl ?_
    refine lw_call G (T2 := tX12_thrown) rfl rd_d_L_law_1275 rd_k_L_law_1275 rfl (hM2.1 118 (.inl 12) rfl) (as := []) (st := []) rfl (Nat.le_of_ble_eq_true rfl) rfl (Nat.le_of_ble_eq_true rfl) (d1 := 60) (by decide) (fun _ h => by cases h.1) (kr_less (d := 60) (by decide) (Nat.le_refl _) (Nat.le_refl _) (ax_thn G (ax_SM hM2))) ?_
    intro v3 σ3 ⟨hv3, hs3⟩
    cases hv3
    have hs4 := hs3.symm
    subst hs4
    refine kr_iload 1 rd_d_L_law_1278 rfl ?_
    refine kr_icmp_eq (tgt := 1285) rd_d_L_law_1280 rfl (fun _ => ?_) (fun h => absurd (by rw [ax_f_thn]; exact hth.2) h)
    refine kr_iload 1 rd_d_L_law_1285 rfl ?_
    refine kr_if_ne (tgt := 1302) rd_d_L_law_1287 rfl (fun h => absurd rfl h) (fun _ => ?_)
    refine kr_aload_n 6 rd_d_L_law_1290 rfl ?_
    refine kr_iconst (v := 0) rd_d_L_law_1291 (by decide) ?_
    refine kr_lald G.1 (n := 1) rd_d_L_law_1292 (hM2.1 138 (.inr (.long, 1)) rfl) (hd_in (n := 0) (by decide) (by decide)) ?_
    refine kr_iload 0 rd_d_L_law_1293 rfl ?_
    refine kr_i2l rd_d_L_law_1295 ?_
    refine kr_lcmp rd_d_L_law_1296 ?_
    have eL : σ2.2.2.1 138 (0 : Int32).toNatClampNeg = y2.toInt64 := by rw [hM2.2.2.2.2.2.2.2.1 (by decide +kernel), hth.1]; show am_up σ.2.2.1 138 0 y.toInt64 138 0 = y.toInt64; exact am_up_s _ _ _ _
    refine kr_if_eq (tgt := 1302) rd_d_L_law_1297 rfl (fun _ => ?_) (fun h => absurd (by rw [eL]; exact lw_cmp0 _) h)
    refine kr_sub (lv' := lw_lw i) (by simp) ?_
    refine kr_goto (tgt := 1568) rd_d_L_law_1302 rfl ?_
    refine kr_iinc 0 rd_d_L_law_1568 rfl (v := Int32.ofNat (i + 6)) (by rw [Int32.ofNat_add]; rfl) (by decide) rfl ?_
    refine kr_goto (tgt := 23) rd_d_L_law_1571 rfl ?_
    have K2 := lw_kp hM2 (by decide +kernel) (by decide +kernel) (by decide +kernel) (by decide +kernel)
    exact next σ2 hi (sx_M_self hM2) ⟨by rw [K2.1, K2.2.1]; exact heq.1, fun k hk => by rw [K2.2.2.1 k hk, K2.2.2.2 k hk]; exact heq.2.1 k hk, rw_keep hM1 hM2 (by decide +kernel) heq.2.2⟩
end LC
theorem lw_turn {g : am_C} {L : Nat} {xs : Nat → Int32} (G : sx_G0 g L xs z9 hd_C ex_mt) (hct : ∀ (mi : Nat) (T : ex_T) (c : sx_Ct), ex_mt mi = some T → c ∈ k9 mi → sx_Holds g z9 hd_C T c) {n i : Nat} {σ : am_S} (hi : i ≤ 3078) (hM : sx_M z9 hd_C σ 0 0 σ) (hlen : lw_eq σ) (next : ∀ σ' : am_S, i + 6 ≤ L → sx_M z9 hd_C σ' 0 0 σ' → lw_eq σ' → am_K g 100 mL_law (2 * n) (6 * (2 * n)) 23 (lw_lw (i + 6)) [] σ' lw_post) : am_K g 100 mL_law (2 + 2 * n) (12 + 12 * n) 23 (lw_lw i) [] σ lw_post := by
  let env : List Int := lw_env L xs i (σ.2.1 1 1).toInt
  let x : sx_X := (g, (L, xs), z9, hd_C, ex_mt, tL_law, σ, (2 * n + 1, 12 * n + 6), lw_post, some 0, env)
  have B : sx_Bx x := ⟨G.1, G.2.1, G.2.2.1, G.2.2.2.1, G.2.2.2.2.1, G.2.2.2.2.2.1⟩
  have hlenw : sx_Len L xs (some 0) env env := by
    refine ⟨fun w hw => ?_, [], by rw [List.append_nil]⟩
    cases hw
    refine ⟨rfl, i, rfl, fun c hc _ => ?_⟩
    match c, hc with
    | 0, _ => rfl
    | 1, _ => rfl
    | 2, _ => rfl
    | 3, _ => rfl
    | 4, _ => rfl
    | 5, _ => rfl
  have hR : sx_Rk x lw_R := by
    intro v me env' v' σ' h _ hr hv
    rcases (Bool.or_eq_true _ _).mp h with h1 | h1
    · match v, v', hv, h1 with
      | some (.inl (c, [])), some b, hv, h1 =>
        obtain ⟨m, m1, m2⟩ := hv
        have hc := sx_ieq_iff.mp h1
        have m3 : m.toInt = c := Option.some.inj (m2.symm.trans sx_const)
        have : m = 1 := Int32.toInt_inj.mp (by rw [m3, hc]; rfl)
        show some (some b) = some (some (.int 1))
        rw [m1, this]
    · exact (sx_contra_ok hr.2.2.1 h1).elim
  have hH : sx_Hks x lw_H := by
    intro pc F cd lv st me env' lw sw σ' d mc ms hF h A
    have hpc : (pc = 23 ∧ F = lw_F) ∨ ((pc = 228 ∨ pc = 326 ∨ pc = 1493 ∨ pc = 1518 ∨ pc = 1225) ∧ F = lw_G) := by
      unfold lw_H at hF
      cases hb : pc.beq 23 with
      | true => rw [hb] at hF; exact Or.inl ⟨Nat.eq_of_beq_eq_true hb, (Option.some.inj hF).symm⟩
      | false =>
        rw [hb] at hF
        simp only [cond_false] at hF
        cases hb0 : pc.beq 228 with
        | true => rw [hb0] at hF; exact Or.inr ⟨Or.inl (Nat.eq_of_beq_eq_true hb0), (Option.some.inj hF).symm⟩
        | false =>
          rw [hb0] at hF
          simp only [cond_false] at hF
          cases hb1 : pc.beq 326 with
          | true => rw [hb1] at hF; exact Or.inr ⟨Or.inr (Or.inl (Nat.eq_of_beq_eq_true hb1)), (Option.some.inj hF).symm⟩
          | false =>
            rw [hb1] at hF
            simp only [cond_false] at hF
            cases hb2 : pc.beq 1493 with
            | true => rw [hb2] at hF; exact Or.inr ⟨Or.inr (Or.inr (Or.inl (Nat.eq_of_beq_eq_true hb2))), (Option.some.inj hF).symm⟩
            | false =>
              rw [hb2] at hF
              simp only [cond_false] at hF
              cases hb3 : pc.beq 1518 with
              | true => rw [hb3] at hF; exact Or.inr ⟨Or.inr (Or.inr (Or.inr (Or.inl (Nat.eq_of_beq_eq_true hb3)))), (Option.some.inj hF).symm⟩
              | false =>
                rw [hb3] at hF
                simp only [cond_false] at hF
                cases hb4 : pc.beq 1225 with
                | true => rw [hb4] at hF; exact Or.inr ⟨Or.inr (Or.inr (Or.inr (Or.inr (Nat.eq_of_beq_eq_true hb4)))), (Option.some.inj hF).symm⟩
                | false => rw [hb4] at hF; cases hF
    rcases hpc with ⟨rfl, rfl⟩ | ⟨hpc, rfl⟩
    rotate_left
    · unfold lw_G at h
      simp only [Bool.and_eq_true] at h
      obtain ⟨b1, b2, b3, b6, b4, b5⟩ := h
      have hst : st = [] := by simpa using b2
      subst hst
      rw [A.s.nil]
      have hr : sx_R z9 hd_C σ env' me σ' := A.2.2.2.1
      obtain ⟨l1, ext, l3⟩ := A.2.2.1
      obtain ⟨l1a, i', l1b, _⟩ := l1 0 rfl
      have l1a' : env'[0]? = some (L : Int) := l1a
      have l1c : env'[1]? = some (i : Int) := by rw [l3]; rfl
      have refs := sx_refs_ok A.2.2.2.2.1 b4
      have hM0 : sx_M z9 hd_C σ 0 0 σ' := by
        have := hr.2.2.2
        rw [Nat.eq_of_beq_eq_true b3, Nat.eq_of_beq_eq_true b6] at this
        exact this
      have hl4 : (4, Value.int (Int32.ofNat i)) ∈ lw ∧ i + 6 ≤ L := by
        cases hf : sx_fnd lv 4 with
        | none => rw [hf] at b5; cases b5
        | some v =>
          rw [hf] at b5
          match v, hf, b5 with
          | .inl e, hf, b5 =>
            simp only [Bool.and_eq_true] at b5
            obtain ⟨c1, c2, c3⟩ := b5
            obtain ⟨z, z1, m, z2, z3⟩ := sx_LV_mem A.2.2.2.2.1 hf
            have he : e = (0, [(1, 1)]) := Prod.ext (sx_ieq_iff.mp c1) (sx_sameA_eq c2)
            have hev : sx_ev env' (0, [(1, 1)]) = some (0 + (1 * (i : Int) + 0)) := sx_ev_of (e := (0, [(1, 1)])) (sx_ea_mk (l := []) l1c rfl)
            have hev6 : sx_ev env' (6, [(1, 1)]) = some (6 + (1 * (i : Int) + 0)) := sx_ev_of (e := (6, [(1, 1)])) (sx_ea_mk (l := []) l1c rfl)
            rw [he, hev] at z3
            have hm : m.toInt = 0 + (1 * (i : Int) + 0) := (Option.some.inj z3).symm
            obtain ⟨r, r1, r2⟩ := sx_lin_ok c3
            have hw0 : sx_ev env' (sx_w 0) = some (L : Int) := sx_ev_wat l1a'
            have r3 := sx_leq_ok hr.2.2.1 (r2 env' _ _ hw0 hev6) r1
            have hL := G.2.2.1
            have hm2 : m = Int32.ofNat i := Int32.toInt_inj.mp (by
              rw [hm, Int32.toInt_ofNat_of_lt (by omega)]
              omega)
            refine ⟨?_, by omega⟩
            rw [← hm2, ← z2]
            exact z1
          | .inr _, hf, b5 => cases b5
      have heq' : lw_eq σ' := ⟨by rw [hM0.2.2.2.2.1 1 1 _ _ 18 rfl (sx_bit0 _), hM0.2.2.2.2.1 118 2 _ _ 361 rfl (sx_bit0 _)]; exact hlen.1, fun k hk => by rw [hM0.2.2.2.2.1 2 k _ _ 19 (rc_a2 hk) (sx_bit0 _), hM0.2.2.2.2.1 119 k _ _ 406 (rd_a119 hk) (sx_bit0 _)]; exact hlen.2.1 k hk, rw_keep hM hM0 (by decide +kernel) hlen.2.2⟩
      have nx : am_K g 100 tL_law.1 (1 + 2 * n) (6 + 6 * (2 * n)) pc (lw_lw i) [] σ' lw_post := by
        rcases hpc with rfl | rfl | rfl | rfl | rfl
        · exact kr_less (Nat.le_refl _) (by omega) (by omega) (lw_case0 (n := 2 * n) G hct (sx_M_self hM0) heq' hl4.2 next)
        · exact kr_less (Nat.le_refl _) (by omega) (by omega) (lw_case2 (n := 2 * n) G hct (sx_M_self hM0) heq' hl4.2 next)
        · exact kr_less (Nat.le_refl _) (by omega) (by omega) (lw_case40 (n := 2 * n) G hct (sx_M_self hM0) heq' hl4.2 next)
        · exact kr_less (Nat.le_refl _) (by omega) (by omega) (lw_case41 (n := 2 * n) G hct (sx_M_self hM0) heq' hl4.2 next)
        · exact lw_case31 (n := 2 * n) G hct (sx_M_self hM0) heq' hl4.2 next
      show am_K g d tL_law.1 (mc + (2 * n + 1)) (ms + (12 * n + 6)) pc lw [] σ' lw_post
      refine kr_less (ex_ble b1) (by omega) (by omega) (kr_sub ?_ nx)
      intro q hq
      simp only [lw_lw, List.mem_cons, List.not_mem_nil, or_false] at hq
      rcases hq with rfl | rfl | rfl | rfl | rfl
      · exact hl4.1
      · obtain ⟨v, v1, v2⟩ := refs (0, .inr (some (true, 0))) (by simp [lw_refs])
        have v3 : v = .retAddr 0 := v2
        rw [← v3]; exact v1
      · obtain ⟨v, v1, v2⟩ := refs (1, .inr (some (false, 0))) (by simp [lw_refs])
        have v3 : v = .ref 0 := v2
        rw [← v3]; exact v1
      · obtain ⟨v, v1, v2⟩ := refs (2, .inr (some (false, 118))) (by simp [lw_refs])
        have v3 : v = .ref 118 := v2
        rw [← v3]; exact v1
      · obtain ⟨v, v1, v2⟩ := refs (3, .inr (some (false, 138))) (by simp [lw_refs])
        have v3 : v = .ref 138 := v2
        rw [← v3]; exact v1
    unfold lw_F at h
    simp only [Bool.and_eq_true] at h
    obtain ⟨b1, b2, b3, b4, b5, p0, m19, m406, mX⟩ := h
    have m19b : sx_bit me.2.1 19 = false := by simpa using m19
    have m406b : sx_bit me.2.1 406 = false := by simpa using m406
    have hst : st = [] := by simpa using b2
    subst hst
    rw [A.s.nil]
    have hr : sx_R z9 hd_C σ env' me σ' := A.2.2.2.1
    obtain ⟨l1, ext, l3⟩ := A.2.2.1
    obtain ⟨l1a, i', l1b, _⟩ := l1 0 rfl
    have l1a' : env'[0]? = some (L : Int) := l1a
    have l1c : env'[1]? = some (i : Int) := by rw [l3]; rfl
    have refs := sx_refs_ok A.2.2.2.2.1 b4
    have hM' : sx_M z9 hd_C σ' 0 0 σ' := by
      have := hr.2.2.2
      rw [Nat.eq_of_beq_eq_true b3] at this
      exact sx_M_self this
    have hl4 : (4, Value.int (Int32.ofNat (i + 6))) ∈ lw ∧ i + 6 ≤ L := by
      cases hf : sx_fnd lv 4 with
      | none => rw [hf] at b5; cases b5
      | some v =>
        rw [hf] at b5
        match v, hf, b5 with
        | .inl e, hf, b5 =>
          simp only [Bool.and_eq_true] at b5
          obtain ⟨c1, c2, c3⟩ := b5
          obtain ⟨z, z1, m, z2, z3⟩ := sx_LV_mem A.2.2.2.2.1 hf
          have he : e = (6, [(1, 1)]) := Prod.ext (sx_ieq_iff.mp c1) (sx_sameA_eq c2)
          have hev : sx_ev env' (6, [(1, 1)]) = some (6 + (1 * (i : Int) + 0)) := sx_ev_of (e := (6, [(1, 1)])) (sx_ea_mk (l := []) l1c rfl)
          rw [he, hev] at z3
          have hm : m.toInt = 6 + (1 * (i : Int) + 0) := (Option.some.inj z3).symm
          obtain ⟨r, r1, r2⟩ := sx_lin_ok c3
          have hw0 : sx_ev env' (sx_w 0) = some (L : Int) := sx_ev_wat l1a'
          have r3 := sx_leq_ok hr.2.2.1 (r2 env' _ _ hw0 (by rw [he]; exact hev)) r1
          have hL := G.2.2.1
          have hm2 : m = Int32.ofNat (i + 6) := Int32.toInt_inj.mp (by
            rw [hm, Int32.toInt_ofNat_of_lt (by omega)]
            omega)
          refine ⟨?_, by omega⟩
          rw [← hm2, ← z2]
          exact z1
        | .inr _, hf, b5 => cases b5
    have hlen' : lw_eq σ' := ⟨lw_pr_ok G.2.2.2.2.1 hr p0, fun k hk => by rw [hr.2.2.2.2.2.2.2.1 2 k _ _ 19 (rc_a2 hk) m19b, hr.2.2.2.2.2.2.2.1 119 k _ _ 406 (rd_a119 hk) m406b]; exact hlen.2.1 k hk, rw_keep hM (by have := hr.2.2.2; rw [Nat.eq_of_beq_eq_true b3] at this; exact this) mX hlen.2.2⟩
    have nx := next σ' hl4.2 hM' hlen'
    show am_K g d tL_law.1 (mc + (2 * n + 1)) (ms + (12 * n + 6)) 23 lw [] σ' lw_post
    refine kr_less (ex_ble b1) (by omega) (by omega) (kr_sub ?_ nx)
    intro q hq
    simp only [lw_lw, List.mem_cons, List.not_mem_nil, or_false] at hq
    rcases hq with rfl | rfl | rfl | rfl | rfl
    · exact hl4.1
    · obtain ⟨v, v1, v2⟩ := refs (0, .inr (some (true, 0))) (by simp [lw_refs])
      have v3 : v = .retAddr 0 := v2
      rw [← v3]; exact v1
    · obtain ⟨v, v1, v2⟩ := refs (1, .inr (some (false, 0))) (by simp [lw_refs])
      have v3 : v = .ref 0 := v2
      rw [← v3]; exact v1
    · obtain ⟨v, v1, v2⟩ := refs (2, .inr (some (false, 118))) (by simp [lw_refs])
      have v3 : v = .ref 118 := v2
      rw [← v3]; exact v1
    · obtain ⟨v, v1, v2⟩ := refs (3, .inr (some (false, 138))) (by simp [lw_refs])
      have v3 : v = .ref 138 := v2
      rw [← v3]; exact v1
  have K := tk_run (x := x) B G.2.2.2.2.2.2.2 (rk := 100) (fun mi T c h1 h2 _ => hct mi T c h1 h2) hR hH 90
  rw [show 2 + 2 * n = 1 + (2 * n + 1) by omega, show 12 + 12 * n = 6 + (12 * n + 6) by omega]
  refine K tL_law [] 23 100 1 6 ((4, .inl (sx_w 1)) :: lw_refs) [] [] (10, 0, 0, lw_tr, lw_fa) env (lw_lw i) [] [] σ lw_one ⟨⟨G.2.2.2.1 0 tL_law rfl, fun e he => (by cases he)⟩, fun _ => rfl, hlenw, ⟨rfl, ?_, lw_Pf G.2.2.1 hi (hM.2.2.1 1 1 0 940 _ rfl), hM⟩, ?_, trivial, trivial⟩
  · intro q hq
    simp only [lw_tr, List.mem_cons, List.not_mem_nil, or_false] at hq
    obtain ⟨q0, -⟩ := hlen
    rcases hq with rfl | rfl
    · exact sx_ev_wat (env := env) (w := 8) rfl
    · refine (sx_ev_wat (env := env) (w := 9) rfl).trans ?_
      show some (σ.2.1 1 1).toInt = some (σ.2.1 118 2).toInt
      rw [q0]
  · refine ⟨rfl, ⟨Int32.ofNat i, rfl, ?_⟩, ⟨rfl, rfl, ⟨rfl, rfl, ⟨rfl, rfl, ⟨rfl, rfl, trivial⟩⟩⟩⟩⟩
    rw [Int32.toInt_ofNat_of_lt (by omega)]
    exact sx_ev_wat (env := env) (w := 1) rfl
/-- turn upon turn -/
theorem lw_turns {g : am_C} {L : Nat} {xs : Nat → Int32} (G : sx_G0 g L xs z9 hd_C ex_mt) (hct : ∀ (mi : Nat) (T : ex_T) (c : sx_Ct), ex_mt mi = some T → c ∈ k9 mi → sx_Holds g z9 hd_C T c) : ∀ (n i : Nat) (σ : am_S), L ≤ i + 6 * n + 5 → i ≤ 3078 → sx_M z9 hd_C σ 0 0 σ → lw_eq σ → am_K g 100 mL_law (2 + 2 * n) (12 + 12 * n) 23 (lw_lw i) [] σ lw_post := by
  intro n
  induction n with
  | zero =>
    intro i σ h1 h2 h3 h4
    exact lw_turn G hct h2 h3 h4 (fun σ' hb _ _ => by omega)
  | succ n ih =>
    intro i σ h1 h2 h3 h4
    refine lw_turn G hct h2 h3 h4 (fun σ' hb m1 m2 => ?_)
    have hL := G.2.2.1
    have := ih (i + 6) σ' (by omega) (by omega) m1 m2
    exact kr_less (Nat.le_refl _) (by omega) (by omega) this
