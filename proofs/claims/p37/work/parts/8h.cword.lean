/-! the reader of the class: which word -/
def rc_cl : List Nat := [119, 97, 108, 107, 32, 98, 97, 115, 107, 101, 116, 32, 104, 111, 110, 101, 115, 116, 32, 115, 104, 121, 32, 119, 104, 105, 115, 116, 108, 101, 32, 97, 103, 97, 105, 110, 32, 114, 117, 110, 110, 101, 114, 32, 99, 111, 115, 116, 32, 119, 105, 110, 100, 111, 119, 32, 115, 116, 97, 110, 100, 115]
def rc_ch (k : Nat) : Nat := rc_cl.getD k 0
theorem rc_chT : ∀ k, k < 62 → (st_tx 18087 k &&& 255).toInt = ((rc_ch k : Nat) : Int) ∧ (rc_ch k = 32 ∨ (97 ≤ rc_ch k ∧ rc_ch k ≤ 122)) := by decide +kernel
theorem rd_ml0 {T : ex_T} {pc i p z : Nat} (hl : ex_lk ex_mt T pc (.invokevirtual i) [2, 0, p, z] = true) : Cond.methodLink T.1.1.cls i yJ0_length_8abf5 ∈ lw_tbl := ex_mem_ok hl
theorem rd_ml1 {T : ex_T} {pc i w p z : Nat} (hl : ex_lk ex_mt T pc (.invokevirtual i) [2, w + 1, p, z] = true) : Cond.methodLink T.1.1.cls i yJ0_charAt_5068e ∈ lw_tbl := ex_mem_ok hl
/-- blanks ahead of k -/
def rc_nb (k : Nat) : Nat := (rc_cl.take k).countP (fun c => c == 32)
theorem rc_nbT : ∀ k, k < 62 → rc_nb (k + 1) = (if rc_ch k = 32 then rc_nb k + 1 else rc_nb k) ∧ rc_nb k ≤ 9 ∧ (rc_ch k = 32 → rc_nb k ≤ 8) := by decide +kernel
/-- the search, as the class does it: a the token's place, z its size -/
def rc_wo (b : Nat → Nat) (a z : Nat) : Nat → Nat → Nat → Nat → Bool → Int
  | 0, _, i, m, s => if s = true ∧ m = z then (i : Int) else -1
  | f + 1, k, i, m, s => if rc_ch k = 32 then (if s = true ∧ m = z then (i : Int) else rc_wo b a z f (k + 1) (i + 1) 0 true) else rc_wo b a z f (k + 1) i (m + 1) (s && (decide (m < z) && b (a + m) == rc_ch k))
def rc_mt (b : Nat → Nat) (a z : Nat) : Nat → Nat → Nat → Bool
  | 0, _, _ => true
  | j + 1, k, m => (decide (m < z) && b (a + m) == rc_ch k) && rc_mt b a z j (k + 1) (m + 1)
theorem rc_wo_l {b : Nat → Nat} {a z : Nat} : ∀ (j f k i m : Nat) (s : Bool), (∀ t, t < j → rc_ch (k + t) ≠ 32) → rc_wo b a z (j + f) k i m s = rc_wo b a z f (k + j) i (m + j) (s && rc_mt b a z j k m)
  | 0, f, k, i, m, s, _ => by
    show rc_wo b a z (0 + f) k i m s = rc_wo b a z f k i m (s && true)
    rw [Nat.zero_add, Bool.and_true]
  | j + 1, f, k, i, m, s, h => by
    rw [show j + 1 + f = (j + f) + 1 by omega]
    show (if rc_ch k = 32 then (if s = true ∧ m = z then (i : Int) else rc_wo b a z (j + f) (k + 1) (i + 1) 0 true) else rc_wo b a z (j + f) (k + 1) i (m + 1) (s && (decide (m < z) && b (a + m) == rc_ch k))) = _
    rw [if_neg (show rc_ch k ≠ 32 from h 0 (by omega)), rc_wo_l j f (k + 1) i (m + 1) _ (fun t ht => by have := h (t + 1) (by omega); rw [show k + (t + 1) = k + 1 + t by omega] at this; exact this)]
    show rc_wo b a z f (k + 1 + j) i (m + 1 + j) ((s && (decide (m < z) && b (a + m) == rc_ch k)) && rc_mt b a z j (k + 1) (m + 1)) = rc_wo b a z f (k + (j + 1)) i (m + (j + 1)) (s && ((decide (m < z) && b (a + m) == rc_ch k) && rc_mt b a z j (k + 1) (m + 1)))
    rw [Bool.and_assoc, show k + 1 + j = k + (j + 1) by omega, show m + 1 + j = m + (j + 1) by omega]
theorem rc_mt_eq {b c : Nat → Nat} {a z : Nat} : ∀ (j k m : Nat), m + j = z → (∀ t, t < j → rc_ch (k + t) = c (m + t)) → rc_mt b a z j k m = rd_eqs b c j (a + m) m
  | 0, _, _, _, _ => rfl
  | j + 1, k, m, h1, h2 => by
    show ((decide (m < z) && b (a + m) == rc_ch k) && rc_mt b a z j (k + 1) (m + 1)) = (b (a + m) == c m && rd_eqs b c j (a + m + 1) (m + 1))
    have h0 := h2 0 (by omega)
    rw [Nat.add_zero, Nat.add_zero] at h0
    rw [rc_mt_eq j (k + 1) (m + 1) (by omega) (fun t ht => by have := h2 (t + 1) (by omega); rw [show k + (t + 1) = k + 1 + t by omega, show m + (t + 1) = m + 1 + t by omega] at this; exact this), decide_eq_true (show m < z by omega), Bool.true_and, h0]
    rfl
theorem rc_cond {b : Nat → Nat} {t : rd_K} (t1 : t.1 = 1) {w L k : Nat} (hL : (rd_ws w).length = L) (hc : ∀ i, i < L → rc_ch (k + i) = rd_wl w i) : ((true && rc_mt b t.2.1 t.2.2.1 L k 0) = true ∧ 0 + L = t.2.2.1) ↔ rd_isk b w t = true := by
  unfold rd_isk rd_isw
  rw [Bool.true_and, Bool.and_eq_true, Bool.and_eq_true, beq_iff_eq, beq_iff_eq, hL]
  constructor
  · intro ⟨h1, h2⟩
    refine ⟨t1, by omega, ?_⟩
    rw [rc_mt_eq (c := rd_wl w) L k 0 h2 (fun i hi => by rw [Nat.zero_add]; exact hc i hi)] at h1
    exact h1
  · intro ⟨_, h2, h3⟩
    refine ⟨?_, by omega⟩
    rw [rc_mt_eq (c := rd_wl w) L k 0 (by omega) (fun i hi => by rw [Nat.zero_add]; exact hc i hi)]
    exact h3
theorem rc_word {b : Nat → Nat} {t : rd_K} (t1 : t.1 = 1) {w L k f i : Nat} (hL : (rd_ws w).length = L) (hc : ∀ i, i < L → rc_ch (k + i) = rd_wl w i) (hn : ∀ i, i < L → rc_ch (k + i) ≠ 32) (hb : rc_ch (k + L) = 32) : rc_wo b t.2.1 t.2.2.1 (L + (f + 1)) k i 0 true = if rd_isk b w t = true then (i : Int) else rc_wo b t.2.1 t.2.2.1 f (k + L + 1) (i + 1) 0 true := by
  rw [rc_wo_l L (f + 1) k i 0 true hn]
  show (if rc_ch (k + L) = 32 then (if (true && rc_mt b t.2.1 t.2.2.1 L k 0) = true ∧ 0 + L = t.2.2.1 then (i : Int) else rc_wo b t.2.1 t.2.2.1 f (k + L + 1) (i + 1) 0 true) else _) = _
  rw [if_pos hb]
  by_cases h : rd_isk b w t = true
  · rw [if_pos h, if_pos ((rc_cond t1 hL hc).mpr h)]
  · rw [if_neg h, if_neg (fun q => h ((rc_cond t1 hL hc).mp q))]
theorem rc_word9 {b : Nat → Nat} {t : rd_K} (t1 : t.1 = 1) {w L k i : Nat} (hL : (rd_ws w).length = L) (hc : ∀ i, i < L → rc_ch (k + i) = rd_wl w i) (hn : ∀ i, i < L → rc_ch (k + i) ≠ 32) : rc_wo b t.2.1 t.2.2.1 (L + 0) k i 0 true = if rd_isk b w t = true then (i : Int) else -1 := by
  rw [rc_wo_l L 0 k i 0 true hn]
  show (if (true && rc_mt b t.2.1 t.2.2.1 L k 0) = true ∧ 0 + L = t.2.2.1 then (i : Int) else -1) = _
  by_cases h : rd_isk b w t = true
  · rw [if_pos h, if_pos ((rc_cond t1 hL hc).mpr h)]
  · rw [if_neg h, if_neg (fun q => h ((rc_cond t1 hL hc).mp q))]
/-- which of the ten words -/
def rc_wh (b : Nat → Nat) (t : rd_K) : Int := (if rd_isk b 0 t = true then 0 else (if rd_isk b 1 t = true then 1 else (if rd_isk b 2 t = true then 2 else (if rd_isk b 3 t = true then 3 else (if rd_isk b 4 t = true then 4 else (if rd_isk b 5 t = true then 5 else (if rd_isk b 6 t = true then 6 else (if rd_isk b 7 t = true then 7 else (if rd_isk b 8 t = true then 8 else (if rd_isk b 9 t = true then 9 else -1))))))))))
theorem rc_wo_all {b : Nat → Nat} {t : rd_K} (t1 : t.1 = 1) : rc_wo b t.2.1 t.2.2.1 62 0 0 0 true = rc_wh b t := by
  have e0 := rc_word (b := b) t1 (w := 0) (L := 4) (k := 0) (f := 57) (i := 0) rfl (by decide +kernel) (by decide +kernel) (by decide +kernel)
  have e1 := rc_word (b := b) t1 (w := 1) (L := 6) (k := 5) (f := 50) (i := 1) rfl (by decide +kernel) (by decide +kernel) (by decide +kernel)
  have e2 := rc_word (b := b) t1 (w := 2) (L := 6) (k := 12) (f := 43) (i := 2) rfl (by decide +kernel) (by decide +kernel) (by decide +kernel)
  have e3 := rc_word (b := b) t1 (w := 3) (L := 3) (k := 19) (f := 39) (i := 3) rfl (by decide +kernel) (by decide +kernel) (by decide +kernel)
  have e4 := rc_word (b := b) t1 (w := 4) (L := 7) (k := 23) (f := 31) (i := 4) rfl (by decide +kernel) (by decide +kernel) (by decide +kernel)
  have e5 := rc_word (b := b) t1 (w := 5) (L := 5) (k := 31) (f := 25) (i := 5) rfl (by decide +kernel) (by decide +kernel) (by decide +kernel)
  have e6 := rc_word (b := b) t1 (w := 6) (L := 6) (k := 37) (f := 18) (i := 6) rfl (by decide +kernel) (by decide +kernel) (by decide +kernel)
  have e7 := rc_word (b := b) t1 (w := 7) (L := 4) (k := 44) (f := 13) (i := 7) rfl (by decide +kernel) (by decide +kernel) (by decide +kernel)
  have e8 := rc_word (b := b) t1 (w := 8) (L := 6) (k := 49) (f := 6) (i := 8) rfl (by decide +kernel) (by decide +kernel) (by decide +kernel)
  have e9 := rc_word9 (b := b) t1 (w := 9) (L := 6) (k := 56) (i := 9) rfl (by decide +kernel) (by decide +kernel)
  refine e0.trans ?_
  unfold rc_wh
  by_cases h0 : rd_isk b 0 t = true
  · rw [if_pos h0, if_pos h0]; rfl
  rw [if_neg h0, if_neg h0]
  refine e1.trans ?_
  by_cases h1 : rd_isk b 1 t = true
  · rw [if_pos h1, if_pos h1]; rfl
  rw [if_neg h1, if_neg h1]
  refine e2.trans ?_
  by_cases h2 : rd_isk b 2 t = true
  · rw [if_pos h2, if_pos h2]; rfl
  rw [if_neg h2, if_neg h2]
  refine e3.trans ?_
  by_cases h3 : rd_isk b 3 t = true
  · rw [if_pos h3, if_pos h3]; rfl
  rw [if_neg h3, if_neg h3]
  refine e4.trans ?_
  by_cases h4 : rd_isk b 4 t = true
  · rw [if_pos h4, if_pos h4]; rfl
  rw [if_neg h4, if_neg h4]
  refine e5.trans ?_
  by_cases h5 : rd_isk b 5 t = true
  · rw [if_pos h5, if_pos h5]; rfl
  rw [if_neg h5, if_neg h5]
  refine e6.trans ?_
  by_cases h6 : rd_isk b 6 t = true
  · rw [if_pos h6, if_pos h6]; rfl
  rw [if_neg h6, if_neg h6]
  refine e7.trans ?_
  by_cases h7 : rd_isk b 7 t = true
  · rw [if_pos h7, if_pos h7]; rfl
  rw [if_neg h7, if_neg h7]
  refine e8.trans ?_
  by_cases h8 : rd_isk b 8 t = true
  · rw [if_pos h8, if_pos h8]; rfl
  rw [if_neg h8, if_neg h8]
  refine e9.trans ?_
  by_cases h9 : rd_isk b 9 t = true
  · rw [if_pos h9, if_pos h9]; rfl
  · rw [if_neg h9, if_neg h9]
theorem rc_wh_no {b : Nat → Nat} {t : rd_K} (t1 : t.1 ≠ 1) : rc_wh b t = -1 := by
  have h : ∀ k, ¬ rd_isk b k t = true := by
    intro k q
    unfold rd_isk rd_isw at q
    rw [Bool.and_eq_true, beq_iff_eq] at q
    exact t1 q.1
  unfold rc_wh
  rw [if_neg (h 0), if_neg (h 1), if_neg (h 2), if_neg (h 3), if_neg (h 4), if_neg (h 5), if_neg (h 6), if_neg (h 7), if_neg (h 8), if_neg (h 9)]
section CW
variable {g : am_C} {L : Nat} {xs : Nat → Int32}
theorem rc_wL (G : sx_G0 g L xs z9 hd_C ex_mt) (hct : rc_ct g) {σe : am_S} {b : Nat → Nat} {n most a z : Nat} (Xe : rc_X σe b n most) (haz : a + z ≤ n) {x : Int} {post : Option (Option Value) → am_S → Prop} (kk : ∀ (r : Int32) (σ' : am_S), sx_M z9 hd_C σe 0 0 σ' → r.toInt = x → post (some (some (.int r))) σ') : ∀ (f k m : Nat) (s : Bool) (σ : am_S) (lw : List (Nat × Value)) (m2 m3 m4 m5 n0 : Int32), k + f = 62 → m ≤ k → x = rc_wo b a z f k (rc_nb k) m s → sx_M z9 hd_C σe 0 0 σ → (σ.2.1 3 4).toInt = a → (σ.2.1 3 5).toInt = z → (0, Value.ref 3) ∈ lw → (1, Value.retAddr 18087) ∈ lw → (2, Value.int m2) ∈ lw → (3, Value.int m3) ∈ lw → (4, Value.int m4) ∈ lw → (5, Value.int m5) ∈ lw → m2.toInt = rc_nb k → m3.toInt = m → m4.toInt = (if s = true then 1 else 0) → m5.toInt = k → n0.toInt = k → am_K g 15 tX6_wordOf.1 0 0 23 lw [.retAddr 18087, .int n0] σ post := by
  intro f
  induction f with
  | zero =>
    intro k m s σ lw m2 m3 m4 m5 n0 hk hmk hx hM ha hz h0 h1 h2 h3 h4 h5 e2 e3 e4 e5 en
    have n9 := Xe.2.2.2.1
    have ek : k = 62 := by omega
    subst ek
    have nb : rc_nb 62 = 9 := by decide +kernel
    rw [nb] at hx e2
    have l62 : (Int32.ofNat 62).toInt = 62 := by decide
    refine G.2.2.2.2.2.2.2.1 15 tX6_wordOf.1 0 0 23 lw [.int n0] σ post 68 18087 62 (List.Mem.head _) (rd_ml0 rd_k_X6_wordOf_23) rd_d_X6_wordOf_23 (by decide) (Nat.le_of_ble_eq_true rfl) ?_
    have hx2 : x = if s = true ∧ m = z then ((9 : Nat) : Int) else -1 := hx
    cases s with
    | false =>
      have e4' : m4.toInt = 0 := e4
      refine sg_wo2b_run G hct (sx_M_self hM) h0 h1 h2 (by omega) h3 (by omega) h4 (by omega) h5 (by omega) (by omega) (by omega) ?_
      intro r σ' c1 hM'
      exact kk r σ' (hd_tr hM hM' rfl) (by rw [hx2, if_neg (fun q => by cases q.1)]; omega)
    | true =>
      have e4' : m4.toInt = 1 := e4
      rcases Nat.lt_trichotomy m z with h | h | h
      · refine sg_wo2c_run G hct (sx_M_self hM) h0 h1 h2 (by omega) h3 (by omega) h4 (by omega) h5 (by omega) (by omega) (by omega) (by omega) ?_
        intro r σ' c1 hM'
        exact kk r σ' (hd_tr hM hM' rfl) (by rw [hx2, if_neg (by omega)]; omega)
      · refine sg_wo2e_run G hct (sx_M_self hM) h0 h1 h2 (by omega) h3 (by omega) h4 (by omega) h5 (by omega) (by omega) (by omega) (by omega) ?_
        intro r σ' c1 hM'
        exact kk r σ' (hd_tr hM hM' rfl) (by rw [hx2, if_pos ⟨rfl, h⟩]; omega)
      · refine sg_wo2d_run G hct (sx_M_self hM) h0 h1 h2 (by omega) h3 (by omega) h4 (by omega) h5 (by omega) (by omega) (by omega) (by omega) ?_
        intro r σ' c1 hM'
        exact kk r σ' (hd_tr hM hM' rfl) (by rw [hx2, if_neg (by omega)]; omega)
  | succ f ih =>
    intro k m s σ lw m2 m3 m4 m5 n0 hk hmk hx hM ha hz h0 h1 h2 h3 h4 h5 e2 e3 e4 e5 en
    have n9 := Xe.2.2.2.1
    have hk62 : k < 62 := by omega
    have l62 : (Int32.ofNat 62).toInt = 62 := by decide
    obtain ⟨ch1, ch2⟩ := rc_chT k hk62
    obtain ⟨nb1, nb2, nb3⟩ := rc_nbT k hk62
    have hx2 : x = if rc_ch k = 32 then (if s = true ∧ m = z then ((rc_nb k : Nat) : Int) else rc_wo b a z f (k + 1) (rc_nb k + 1) 0 true) else rc_wo b a z f (k + 1) (rc_nb k) (m + 1) (s && (decide (m < z) && b (a + m) == rc_ch k)) := hx
    have b4 : 0 ≤ m4.toInt ∧ m4.toInt ≤ 1 := by rw [e4]; split <;> omega
    refine G.2.2.2.2.2.2.2.1 15 tX6_wordOf.1 0 0 23 lw [.int n0] σ post 68 18087 62 (List.Mem.head _) (rd_ml0 rd_k_X6_wordOf_23) rd_d_X6_wordOf_23 (by decide) (Nat.le_of_ble_eq_true rfl) ?_
    refine sg_wo2a_run G hct (sx_M_self hM) h0 h1 h2 (by omega) h3 (by omega) h4 b4 h5 (by omega) (by omega) (by omega) (by omega) ?_
    intro lw1 y2 y3 y4 y5 c0 σ1 p0 p1 p2 p3 p4 p5 t0 t1 t2 t3 t4 hM1
    have H1 : sx_M z9 hd_C σe 0 0 σ1 := hd_tr hM hM1 rfl
    have a1 : (σ1.2.1 3 4).toInt = a := by rw [hM1.2.2.2.2.1 3 4 _ _ 24 rfl (sx_bit0 _)]; exact ha
    have z1 : (σ1.2.1 3 5).toInt = z := by rw [hM1.2.2.2.2.1 3 5 _ _ 25 rfl (sx_bit0 _)]; exact hz
    have en0 : c0.toInt = k := by omega
    refine G.2.2.2.2.2.2.2.2 15 tX6_wordOf.1 0 0 32 lw1 [] σ1 post 73 18087 62 c0 (List.Mem.head _) (rd_ml1 (w := 0) rd_k_X6_wordOf_32) rd_d_X6_wordOf_32 (by decide) (by decide) (hd_in en0 hk62) ?_
    rw [hd_clamp en0]
    have keep : ∀ {σ' : am_S}, sx_M z9 hd_C σ1 0 0 σ' → sx_M z9 hd_C σe 0 0 σ' ∧ (σ'.2.1 3 4).toInt = a ∧ (σ'.2.1 3 5).toInt = z := by
      intro σ' h
      refine ⟨hd_tr H1 h rfl, ?_, ?_⟩
      · rw [h.2.2.2.2.1 3 4 _ _ 24 rfl (sx_bit0 _)]; exact a1
      · rw [h.2.2.2.2.1 3 5 _ _ 25 rfl (sx_bit0 _)]; exact z1
    by_cases hc : rc_ch k = 32
    · rw [if_pos hc] at hx2 nb1
      have nb3' := nb3 hc
      have go : ∀ (lw3 : List (Nat × Value)) (w2 w3 w4 w5 c3 : Int32) (σ3 : am_S), ¬ (s = true ∧ m = z) → (0, Value.ref 3) ∈ lw3 → (1, Value.retAddr 18087) ∈ lw3 → (2, Value.int w2) ∈ lw3 → (3, Value.int w3) ∈ lw3 → (4, Value.int w4) ∈ lw3 → (5, Value.int w5) ∈ lw3 → w5.toInt = ((k + 1 : Nat) : Int) → c3.toInt = ((k + 1 : Nat) : Int) → w2.toInt = ((rc_nb k + 1 : Nat) : Int) → w3.toInt = 0 → w4.toInt = 1 → sx_M z9 hd_C σ1 0 0 σ3 → am_K g 15 tX6_wordOf.1 0 0 23 lw3 [.retAddr 18087, .int c3] σ3 post := by
        intro lw3 w2 w3 w4 w5 c3 σ3 hno q0 q1 q2 q3 q4 q5 u5 u0 u2 u3 u4 hM3
        rw [if_neg hno] at hx2
        obtain ⟨k1, k2, k3⟩ := keep hM3
        exact ih (k + 1) 0 true σ3 lw3 w2 w3 w4 w5 c3 (by omega) (by omega) (by rw [hx2, nb1]) k1 k2 k3 q0 q1 q2 q3 q4 q5 (by rw [nb1]; exact u2) u3 u4 u5 u0
      cases s with
      | false =>
        have e4' : m4.toInt = 0 := e4
        refine sg_wo3d_run G hct (sx_M_self hM1) p0 p1 p2 (by omega) p3 (by omega) p4 (by omega) p5 (by omega) (by omega) ?_
        intro lw3 w2 w3 w4 w5 c3 σ3 q0 q1 q2 q3 q4 q5 u1 u2 u3 u4 u5 hM3
        exact go lw3 w2 w3 w4 w5 c3 σ3 (fun q => by cases q.1) q0 q1 q2 q3 q4 q5 (by omega) (by omega) (by omega) (by omega) (by omega) hM3
      | true =>
        have e4' : m4.toInt = 1 := e4
        rcases Nat.lt_trichotomy m z with h | h | h
        · refine sg_wo3b_run G hct (sx_M_self hM1) p0 p1 p2 (by omega) p3 (by omega) p4 (by omega) p5 (by omega) (by omega) (by omega) ?_
          intro lw3 w2 w3 w4 w5 c3 σ3 q0 q1 q2 q3 q4 q5 u1 u2 u3 u4 u5 hM3
          exact go lw3 w2 w3 w4 w5 c3 σ3 (by omega) q0 q1 q2 q3 q4 q5 (by omega) (by omega) (by omega) (by omega) (by omega) hM3
        · refine sg_wo3a_run G hct (sx_M_self hM1) p0 p1 p2 (by omega) p3 (by omega) p4 (by omega) p5 (by omega) (by omega) (by omega) ?_
          intro r σ' c1 hM'
          exact kk r σ' (keep hM').1 (by rw [hx2, if_pos ⟨rfl, h⟩]; omega)
        · refine sg_wo3c_run G hct (sx_M_self hM1) p0 p1 p2 (by omega) p3 (by omega) p4 (by omega) p5 (by omega) (by omega) (by omega) ?_
          intro lw3 w2 w3 w4 w5 c3 σ3 q0 q1 q2 q3 q4 q5 u1 u2 u3 u4 u5 hM3
          exact go lw3 w2 w3 w4 w5 c3 σ3 (by omega) q0 q1 q2 q3 q4 q5 (by omega) (by omega) (by omega) (by omega) (by omega) hM3
    · rw [if_neg hc] at hx2 nb1
      have hlet : 97 ≤ rc_ch k ∧ rc_ch k ≤ 122 := by omega
      have go : ∀ (lw3 : List (Nat × Value)) (w2 w3 w4 w5 c3 : Int32) (σ3 : am_S), (0, Value.ref 3) ∈ lw3 → (1, Value.retAddr 18087) ∈ lw3 → (2, Value.int w2) ∈ lw3 → (3, Value.int w3) ∈ lw3 → (4, Value.int w4) ∈ lw3 → (5, Value.int w5) ∈ lw3 → w5.toInt = ((k + 1 : Nat) : Int) → c3.toInt = ((k + 1 : Nat) : Int) → w2.toInt = ((rc_nb k : Nat) : Int) → w3.toInt = ((m + 1 : Nat) : Int) → w4.toInt = (if (s && (decide (m < z) && b (a + m) == rc_ch k)) = true then 1 else 0) → sx_M z9 hd_C σ1 0 0 σ3 → am_K g 15 tX6_wordOf.1 0 0 23 lw3 [.retAddr 18087, .int c3] σ3 post := by
        intro lw3 w2 w3 w4 w5 c3 σ3 q0 q1 q2 q3 q4 q5 u5 u0 u2 u3 u4 hM3
        obtain ⟨k1, k2, k3⟩ := keep hM3
        exact ih (k + 1) (m + 1) _ σ3 lw3 w2 w3 w4 w5 c3 (by omega) (by omega) (by rw [hx2, nb1]) k1 k2 k3 q0 q1 q2 q3 q4 q5 (by rw [nb1]; exact u2) u3 u4 u5 u0
      cases s with
      | false =>
        have e4' : m4.toInt = 0 := e4
        refine sg_wo3e_run G hct (sx_M_self hM1) p0 p1 p2 (by omega) p3 (by omega) p4 (by omega) p5 (by omega) (by omega) ?_
        intro lw3 w2 w3 w4 w5 c3 σ3 q0 q1 q2 q3 q4 q5 u1 u2 u3 u4 u5 hM3
        exact go lw3 w2 w3 w4 w5 c3 σ3 q0 q1 q2 q3 q4 q5 (by omega) (by omega) (by omega) (by omega) (by rw [Bool.false_and, if_neg Bool.noConfusion]; omega) hM3
      | true =>
        have e4' : m4.toInt = 1 := e4
        by_cases h : m < z
        · refine sg_wo3g_run G hct (sx_M_self hM1) p0 p1 p2 (by omega) p3 (by omega) p4 (by omega) p5 (by omega) (by omega) (by omega) (by omega) ?_
          intro lw3 w2 w3 w4 w5 w6 c3 σ3 q0 q1 q2 q3 q4 q5 q6 u1 u2 u3 u4 u5 u6 hM3
          obtain ⟨k1, k2, k3⟩ := keep hM3
          have X3 := rc_Xm Xe k1 (sx_bit0 _) (sx_bit0 _) (sx_bit0 _)
          refine rc_bac G hct (d := 15) (by decide) (sx_M_self hM3) X3 (p := a + m) (by omega) (by omega) rfl rd_d_X6_wordOf_67 rd_k_X6_wordOf_67 (by decide) ?_
          intro r σ4 hM4 hr
          have hb := rc_bX X3 (show a + m < n by omega)
          have hM14 : sx_M z9 hd_C σ1 0 0 σ4 := hd_tr hM3 hM4 rfl
          have ev : ∀ v : Bool, (b (a + m) == rc_ch k) = v → (true && (decide (m < z) && b (a + m) == rc_ch k)) = v := fun v hv => by rw [hv, decide_eq_true h, Bool.true_and, Bool.true_and]
          rcases Nat.lt_trichotomy (b (a + m)) (rc_ch k) with g1 | g1 | g1
          · refine sg_wo4a_run G hct (sx_M_self hM4) q0 q1 q2 (by omega) q3 (by omega) q4 (by omega) q5 (by omega) q6 (by omega) ?_
            intro lw5 v2 v3 v4 v5 c5 σ5 r0 r1 r2 r3 r4 r5 u7 u8 u9 ua ub hM5
            exact go lw5 v2 v3 v4 v5 c5 σ5 r0 r1 r2 r3 r4 r5 (by omega) (by omega) (by omega) (by omega) (by rw [ev false (by rw [beq_eq_false_iff_ne]; omega), if_neg Bool.noConfusion]; omega) (hd_tr hM14 hM5 rfl)
          · refine sg_wo4b_run G hct (sx_M_self hM4) q0 q1 q2 (by omega) q3 (by omega) q4 (by omega) q5 (by omega) q6 (by omega) ?_
            intro lw5 v2 v3 v4 v5 c5 σ5 r0 r1 r2 r3 r4 r5 u7 u8 u9 ua ub hM5
            exact go lw5 v2 v3 v4 v5 c5 σ5 r0 r1 r2 r3 r4 r5 (by omega) (by omega) (by omega) (by omega) (by rw [ev true (by rw [beq_iff_eq]; exact g1), if_pos rfl]; omega) (hd_tr hM14 hM5 rfl)
          · refine sg_wo4c_run G hct (sx_M_self hM4) q0 q1 q2 (by omega) q3 (by omega) q4 (by omega) q5 (by omega) q6 (by omega) ?_
            intro lw5 v2 v3 v4 v5 c5 σ5 r0 r1 r2 r3 r4 r5 u7 u8 u9 ua ub hM5
            exact go lw5 v2 v3 v4 v5 c5 σ5 r0 r1 r2 r3 r4 r5 (by omega) (by omega) (by omega) (by omega) (by rw [ev false (by rw [beq_eq_false_iff_ne]; omega), if_neg Bool.noConfusion]; omega) (hd_tr hM14 hM5 rfl)
        · refine sg_wo3f_run G hct (sx_M_self hM1) p0 p1 p2 (by omega) p3 (by omega) p4 (by omega) p5 (by omega) (by omega) (by omega) ?_
          intro lw3 w2 w3 w4 w5 c3 σ3 q0 q1 q2 q3 q4 q5 u1 u2 u3 u4 u5 hM3
          exact go lw3 w2 w3 w4 w5 c3 σ3 q0 q1 q2 q3 q4 q5 (by omega) (by omega) (by omega) (by omega) (by rw [decide_eq_false h, Bool.false_and, Bool.and_false, if_neg Bool.noConfusion]; omega) hM3
/-- wordOf -/
theorem rc_wordOf (G : sx_G0 g L xs z9 hd_C ex_mt) (hct : rc_ct g) {σ : am_S} (hM : sx_M z9 hd_C σ 0 0 σ) {b : Nat → Nat} {n most : Nat} {t : rd_K} (X : rc_X σ b n most) (N : rc_N σ t) (hw : t.1 = 1 → t.2.1 + t.2.2.1 ≤ n) {lw : List (Nat × Value)} (hl : (0, Value.ref 3) ∈ lw) (hl1 : (1, Value.retAddr 18087) ∈ lw) {post : Option (Option Value) → am_S → Prop} (kk : ∀ (r : Int32) (σ' : am_S), sx_M z9 hd_C σ 0 0 σ' → r.toInt = rc_wh b t → post (some (some (.int r))) σ') : am_K g 15 tX6_wordOf.1 0 0 0 lw [] σ post := by
  have n1 := N.1
  have k0 : rc_kd 0 = 0 := rfl
  by_cases t1 : t.1 = 1
  · rw [t1] at n1
    have n1' : (σ.2.1 3 3).toInt = 2 := n1
    refine sg_wo1c_run G hct hM hl hl1 (by omega) ?_
    intro lw1 y2 y3 y4 y5 c0 σ1 p0 p1 p2 p3 p4 p5 u1 u2 u3 u4 u5 hM1
    have nb0 : rc_nb 0 = 0 := rfl
    refine rc_wL G hct X (a := t.2.1) (z := t.2.2.1) (hw t1) (x := rc_wh b t) kk 62 0 0 true σ1 lw1 y2 y3 y4 y5 c0 rfl (Nat.le_refl _) (rc_wo_all t1).symm hM1 ?_ ?_ p0 p1 p2 p3 p4 p5 (by rw [nb0]; omega) (by omega) (by rw [if_pos rfl]; omega) (by omega) (by omega)
    · rw [hM1.2.2.2.2.1 3 4 _ _ 24 rfl (sx_bit0 _)]; exact N.2.1
    · rw [hM1.2.2.2.2.1 3 5 _ _ 25 rfl (sx_bit0 _)]; exact N.2.2.2.1 t1
  · have hx := rc_wh_no (b := b) t1
    have hk : rc_kd t.1 ≠ 2 := by
      unfold rc_kd
      split
      · decide
      · split
        · decide
        · split <;> decide
    by_cases h : (σ.2.1 3 3).toInt ≤ 1
    · refine sg_wo1a_run G hct hM hl hl1 (by have := Int32.le_toInt (σ.2.1 3 3); omega) ?_
      intro r σ' c1 hM'
      exact kk r σ' hM' (by rw [hx]; omega)
    · refine sg_wo1b_run G hct hM hl hl1 (by have := Int32.toInt_lt (σ.2.1 3 3); omega) ?_
      intro r σ' c1 hM'
      exact kk r σ' hM' (by rw [hx]; omega)
end CW
