/-! the class's wordOf, other texts (written by a program) -/
/-! the reader of the class: which word -/
def sn_cl : List Nat := [110, 111, 116, 32, 111, 112, 101, 110, 32, 102, 97, 105, 114, 32, 97, 104, 101, 97, 100, 32, 112, 114, 105, 99, 101, 32, 116, 97, 107, 101, 115, 32, 98, 111, 117, 103, 104, 116, 32, 110, 117, 109, 98, 101, 114]
def sn_ch (k : Nat) : Nat := sn_cl.getD k 0
theorem sn_chT : ∀ k, k < 45 → (st_tx 19078 k &&& 255).toInt = ((sn_ch k : Nat) : Int) ∧ (sn_ch k = 32 ∨ (97 ≤ sn_ch k ∧ sn_ch k ≤ 122)) := by decide +kernel
/-- blanks ahead of k -/
def sn_nb (k : Nat) : Nat := (sn_cl.take k).countP (fun c => c == 32)
theorem sn_nbT : ∀ k, k < 45 → sn_nb (k + 1) = (if sn_ch k = 32 then sn_nb k + 1 else sn_nb k) ∧ sn_nb k ≤ 9 ∧ (sn_ch k = 32 → sn_nb k ≤ 8) := by decide +kernel
/-- the search, as the class does it: a the token's place, z its size -/
def sn_wo (b : Nat → Nat) (a z : Nat) : Nat → Nat → Nat → Nat → Bool → Int
  | 0, _, i, m, s => if s = true ∧ m = z then (i : Int) else -1
  | f + 1, k, i, m, s => if sn_ch k = 32 then (if s = true ∧ m = z then (i : Int) else sn_wo b a z f (k + 1) (i + 1) 0 true) else sn_wo b a z f (k + 1) i (m + 1) (s && (decide (m < z) && b (a + m) == sn_ch k))
def sn_mt (b : Nat → Nat) (a z : Nat) : Nat → Nat → Nat → Bool
  | 0, _, _ => true
  | j + 1, k, m => (decide (m < z) && b (a + m) == sn_ch k) && sn_mt b a z j (k + 1) (m + 1)
theorem sn_wo_l {b : Nat → Nat} {a z : Nat} : ∀ (j f k i m : Nat) (s : Bool), (∀ t, t < j → sn_ch (k + t) ≠ 32) → sn_wo b a z (j + f) k i m s = sn_wo b a z f (k + j) i (m + j) (s && sn_mt b a z j k m)
  | 0, f, k, i, m, s, _ => by
    show sn_wo b a z (0 + f) k i m s = sn_wo b a z f k i m (s && true)
    rw [Nat.zero_add, Bool.and_true]
  | j + 1, f, k, i, m, s, h => by
    rw [show j + 1 + f = (j + f) + 1 by omega]
    show (if sn_ch k = 32 then (if s = true ∧ m = z then (i : Int) else sn_wo b a z (j + f) (k + 1) (i + 1) 0 true) else sn_wo b a z (j + f) (k + 1) i (m + 1) (s && (decide (m < z) && b (a + m) == sn_ch k))) = _
    rw [if_neg (show sn_ch k ≠ 32 from h 0 (by omega)), sn_wo_l j f (k + 1) i (m + 1) _ (fun t ht => by have := h (t + 1) (by omega); rw [show k + (t + 1) = k + 1 + t by omega] at this; exact this)]
    show sn_wo b a z f (k + 1 + j) i (m + 1 + j) ((s && (decide (m < z) && b (a + m) == sn_ch k)) && sn_mt b a z j (k + 1) (m + 1)) = sn_wo b a z f (k + (j + 1)) i (m + (j + 1)) (s && ((decide (m < z) && b (a + m) == sn_ch k) && sn_mt b a z j (k + 1) (m + 1)))
    rw [Bool.and_assoc, show k + 1 + j = k + (j + 1) by omega, show m + 1 + j = m + (j + 1) by omega]
theorem sn_mt_eq {b c : Nat → Nat} {a z : Nat} : ∀ (j k m : Nat), m + j = z → (∀ t, t < j → sn_ch (k + t) = c (m + t)) → sn_mt b a z j k m = rd_eqs b c j (a + m) m
  | 0, _, _, _, _ => rfl
  | j + 1, k, m, h1, h2 => by
    show ((decide (m < z) && b (a + m) == sn_ch k) && sn_mt b a z j (k + 1) (m + 1)) = (b (a + m) == c m && rd_eqs b c j (a + m + 1) (m + 1))
    have h0 := h2 0 (by omega)
    rw [Nat.add_zero, Nat.add_zero] at h0
    rw [sn_mt_eq j (k + 1) (m + 1) (by omega) (fun t ht => by have := h2 (t + 1) (by omega); rw [show k + (t + 1) = k + 1 + t by omega, show m + (t + 1) = m + 1 + t by omega] at this; exact this), decide_eq_true (show m < z by omega), Bool.true_and, h0]
    rfl
theorem sn_cond {b : Nat → Nat} {t : rd_K} (t1 : t.1 = 1) {w L k : Nat} (hL : (sn_ws w).length = L) (hc : ∀ i, i < L → sn_ch (k + i) = sn_wl w i) : ((true && sn_mt b t.2.1 t.2.2.1 L k 0) = true ∧ 0 + L = t.2.2.1) ↔ sn_isk b w t = true := by
  unfold sn_isk rd_isw
  rw [Bool.true_and, Bool.and_eq_true, Bool.and_eq_true, beq_iff_eq, beq_iff_eq, hL]
  constructor
  · intro ⟨h1, h2⟩
    refine ⟨t1, by omega, ?_⟩
    rw [sn_mt_eq (c := sn_wl w) L k 0 h2 (fun i hi => by rw [Nat.zero_add]; exact hc i hi)] at h1
    exact h1
  · intro ⟨_, h2, h3⟩
    refine ⟨?_, by omega⟩
    rw [sn_mt_eq (c := sn_wl w) L k 0 (by omega) (fun i hi => by rw [Nat.zero_add]; exact hc i hi)]
    exact h3
theorem sn_word {b : Nat → Nat} {t : rd_K} (t1 : t.1 = 1) {w L k f i : Nat} (hL : (sn_ws w).length = L) (hc : ∀ i, i < L → sn_ch (k + i) = sn_wl w i) (hn : ∀ i, i < L → sn_ch (k + i) ≠ 32) (hb : sn_ch (k + L) = 32) : sn_wo b t.2.1 t.2.2.1 (L + (f + 1)) k i 0 true = if sn_isk b w t = true then (i : Int) else sn_wo b t.2.1 t.2.2.1 f (k + L + 1) (i + 1) 0 true := by
  rw [sn_wo_l L (f + 1) k i 0 true hn]
  show (if sn_ch (k + L) = 32 then (if (true && sn_mt b t.2.1 t.2.2.1 L k 0) = true ∧ 0 + L = t.2.2.1 then (i : Int) else sn_wo b t.2.1 t.2.2.1 f (k + L + 1) (i + 1) 0 true) else _) = _
  rw [if_pos hb]
  by_cases h : sn_isk b w t = true
  · rw [if_pos h, if_pos ((sn_cond t1 hL hc).mpr h)]
  · rw [if_neg h, if_neg (fun q => h ((sn_cond t1 hL hc).mp q))]
theorem sn_word9 {b : Nat → Nat} {t : rd_K} (t1 : t.1 = 1) {w L k i : Nat} (hL : (sn_ws w).length = L) (hc : ∀ i, i < L → sn_ch (k + i) = sn_wl w i) (hn : ∀ i, i < L → sn_ch (k + i) ≠ 32) : sn_wo b t.2.1 t.2.2.1 (L + 0) k i 0 true = if sn_isk b w t = true then (i : Int) else -1 := by
  rw [sn_wo_l L 0 k i 0 true hn]
  show (if (true && sn_mt b t.2.1 t.2.2.1 L k 0) = true ∧ 0 + L = t.2.2.1 then (i : Int) else -1) = _
  by_cases h : sn_isk b w t = true
  · rw [if_pos h, if_pos ((sn_cond t1 hL hc).mpr h)]
  · rw [if_neg h, if_neg (fun q => h ((sn_cond t1 hL hc).mp q))]
/-- which of the words -/
def sn_wh (b : Nat → Nat) (t : rd_K) : Int := (if sn_isk b 0 t = true then 0 else (if sn_isk b 1 t = true then 1 else (if sn_isk b 2 t = true then 2 else (if sn_isk b 3 t = true then 3 else (if sn_isk b 4 t = true then 4 else (if sn_isk b 5 t = true then 5 else (if sn_isk b 6 t = true then 6 else (if sn_isk b 7 t = true then 7 else -1))))))))
theorem sn_wo_all {b : Nat → Nat} {t : rd_K} (t1 : t.1 = 1) : sn_wo b t.2.1 t.2.2.1 45 0 0 0 true = sn_wh b t := by
  have e0 := sn_word (b := b) t1 (w := 0) (L := 3) (k := 0) (f := 41) (i := 0) rfl (by decide +kernel) (by decide +kernel) (by decide +kernel)
  have e1 := sn_word (b := b) t1 (w := 1) (L := 4) (k := 4) (f := 36) (i := 1) rfl (by decide +kernel) (by decide +kernel) (by decide +kernel)
  have e2 := sn_word (b := b) t1 (w := 2) (L := 4) (k := 9) (f := 31) (i := 2) rfl (by decide +kernel) (by decide +kernel) (by decide +kernel)
  have e3 := sn_word (b := b) t1 (w := 3) (L := 5) (k := 14) (f := 25) (i := 3) rfl (by decide +kernel) (by decide +kernel) (by decide +kernel)
  have e4 := sn_word (b := b) t1 (w := 4) (L := 5) (k := 20) (f := 19) (i := 4) rfl (by decide +kernel) (by decide +kernel) (by decide +kernel)
  have e5 := sn_word (b := b) t1 (w := 5) (L := 5) (k := 26) (f := 13) (i := 5) rfl (by decide +kernel) (by decide +kernel) (by decide +kernel)
  have e6 := sn_word (b := b) t1 (w := 6) (L := 6) (k := 32) (f := 6) (i := 6) rfl (by decide +kernel) (by decide +kernel) (by decide +kernel)
  have e7 := sn_word9 (b := b) t1 (w := 7) (L := 6) (k := 39) (i := 7) rfl (by decide +kernel) (by decide +kernel)
  refine e0.trans ?_
  unfold sn_wh
  by_cases h0 : sn_isk b 0 t = true
  · rw [if_pos h0, if_pos h0]; rfl
  rw [if_neg h0, if_neg h0]
  refine e1.trans ?_
  by_cases h1 : sn_isk b 1 t = true
  · rw [if_pos h1, if_pos h1]; rfl
  rw [if_neg h1, if_neg h1]
  refine e2.trans ?_
  by_cases h2 : sn_isk b 2 t = true
  · rw [if_pos h2, if_pos h2]; rfl
  rw [if_neg h2, if_neg h2]
  refine e3.trans ?_
  by_cases h3 : sn_isk b 3 t = true
  · rw [if_pos h3, if_pos h3]; rfl
  rw [if_neg h3, if_neg h3]
  refine e4.trans ?_
  by_cases h4 : sn_isk b 4 t = true
  · rw [if_pos h4, if_pos h4]; rfl
  rw [if_neg h4, if_neg h4]
  refine e5.trans ?_
  by_cases h5 : sn_isk b 5 t = true
  · rw [if_pos h5, if_pos h5]; rfl
  rw [if_neg h5, if_neg h5]
  refine e6.trans ?_
  by_cases h6 : sn_isk b 6 t = true
  · rw [if_pos h6, if_pos h6]; rfl
  rw [if_neg h6, if_neg h6]
  refine e7.trans ?_
  by_cases h7 : sn_isk b 7 t = true
  · rw [if_pos h7, if_pos h7]; rfl
  · rw [if_neg h7, if_neg h7]
theorem sn_wh_no {b : Nat → Nat} {t : rd_K} (t1 : t.1 ≠ 1) : sn_wh b t = -1 := by
  have h : ∀ k, ¬ sn_isk b k t = true := by
    intro k q
    unfold sn_isk rd_isw at q
    rw [Bool.and_eq_true, beq_iff_eq] at q
    exact t1 q.1
  unfold sn_wh
  rw [if_neg (h 0), if_neg (h 1), if_neg (h 2), if_neg (h 3), if_neg (h 4), if_neg (h 5), if_neg (h 6), if_neg (h 7)]
section CW
variable {g : am_C} {L : Nat} {xs : Nat → Int32}
theorem sn_wL (G : sx_G0 g L xs z9 hd_C ex_mt) (hct : rc_ct g) {σe : am_S} {b : Nat → Nat} {n most a z : Nat} (Xe : rc_X σe b n most) (haz : a + z ≤ n) {x : Int} {post : Option (Option Value) → am_S → Prop} (kk : ∀ (r : Int32) (σ' : am_S), sx_M z9 hd_C σe 0 0 σ' → r.toInt = x → post (some (some (.int r))) σ') : ∀ (f k m : Nat) (s : Bool) (σ : am_S) (lw : List (Nat × Value)) (m2 m3 m4 m5 n0 : Int32), k + f = 45 → m ≤ k → x = sn_wo b a z f k (sn_nb k) m s → sx_M z9 hd_C σe 0 0 σ → (σ.2.1 3 4).toInt = a → (σ.2.1 3 5).toInt = z → (0, Value.ref 3) ∈ lw → (1, Value.retAddr 19078) ∈ lw → (2, Value.int m2) ∈ lw → (3, Value.int m3) ∈ lw → (4, Value.int m4) ∈ lw → (5, Value.int m5) ∈ lw → m2.toInt = sn_nb k → m3.toInt = m → m4.toInt = (if s = true then 1 else 0) → m5.toInt = k → n0.toInt = k → am_K g 15 tX6_wordOf.1 0 0 23 lw [.retAddr 19078, .int n0] σ post := by
  intro f
  induction f with
  | zero =>
    intro k m s σ lw m2 m3 m4 m5 n0 hk hmk hx hM ha hz h0 h1 h2 h3 h4 h5 e2 e3 e4 e5 en
    have n9 := Xe.2.2.2.1
    have ek : k = 45 := by omega
    subst ek
    have nb : sn_nb 45 = 7 := by decide +kernel
    rw [nb] at hx e2
    have lN : (Int32.ofNat 45).toInt = 45 := by decide
    refine G.2.2.2.2.2.2.2.1 15 tX6_wordOf.1 0 0 23 lw [.int n0] σ post 68 19078 45 (by decide) (rd_ml0 rd_k_X6_wordOf_23) rd_d_X6_wordOf_23 (by decide) (Nat.le_of_ble_eq_true rfl) ?_
    have hx2 : x = if s = true ∧ m = z then ((7 : Nat) : Int) else -1 := hx
    cases s with
    | false =>
      have e4' : m4.toInt = 0 := e4
      refine sg_wn2b_run G hct (sx_M_self hM) h0 h1 h2 (by omega) h3 (by omega) h4 (by omega) h5 (by omega) (by omega) (by omega) ?_
      intro r σ' c1 hM'
      exact kk r σ' (hd_tr hM hM' rfl) (by rw [hx2, if_neg (fun q => by cases q.1)]; omega)
    | true =>
      have e4' : m4.toInt = 1 := e4
      rcases Nat.lt_trichotomy m z with h | h | h
      · refine sg_wn2c_run G hct (sx_M_self hM) h0 h1 h2 (by omega) h3 (by omega) h4 (by omega) h5 (by omega) (by omega) (by omega) (by omega) ?_
        intro r σ' c1 hM'
        exact kk r σ' (hd_tr hM hM' rfl) (by rw [hx2, if_neg (by omega)]; omega)
      · refine sg_wn2e_run G hct (sx_M_self hM) h0 h1 h2 (by omega) h3 (by omega) h4 (by omega) h5 (by omega) (by omega) (by omega) (by omega) ?_
        intro r σ' c1 hM'
        exact kk r σ' (hd_tr hM hM' rfl) (by rw [hx2, if_pos ⟨rfl, h⟩]; omega)
      · refine sg_wn2d_run G hct (sx_M_self hM) h0 h1 h2 (by omega) h3 (by omega) h4 (by omega) h5 (by omega) (by omega) (by omega) (by omega) ?_
        intro r σ' c1 hM'
        exact kk r σ' (hd_tr hM hM' rfl) (by rw [hx2, if_neg (by omega)]; omega)
  | succ f ih =>
    intro k m s σ lw m2 m3 m4 m5 n0 hk hmk hx hM ha hz h0 h1 h2 h3 h4 h5 e2 e3 e4 e5 en
    have n9 := Xe.2.2.2.1
    have hkN : k < 45 := by omega
    have lN : (Int32.ofNat 45).toInt = 45 := by decide
    obtain ⟨ch1, ch2⟩ := sn_chT k hkN
    obtain ⟨nb1, nb2, nb3⟩ := sn_nbT k hkN
    have hx2 : x = if sn_ch k = 32 then (if s = true ∧ m = z then ((sn_nb k : Nat) : Int) else sn_wo b a z f (k + 1) (sn_nb k + 1) 0 true) else sn_wo b a z f (k + 1) (sn_nb k) (m + 1) (s && (decide (m < z) && b (a + m) == sn_ch k)) := hx
    have b4 : 0 ≤ m4.toInt ∧ m4.toInt ≤ 1 := by rw [e4]; split <;> omega
    refine G.2.2.2.2.2.2.2.1 15 tX6_wordOf.1 0 0 23 lw [.int n0] σ post 68 19078 45 (by decide) (rd_ml0 rd_k_X6_wordOf_23) rd_d_X6_wordOf_23 (by decide) (Nat.le_of_ble_eq_true rfl) ?_
    refine sg_wn2a_run G hct (sx_M_self hM) h0 h1 h2 (by omega) h3 (by omega) h4 b4 h5 (by omega) (by omega) (by omega) (by omega) ?_
    intro lw1 y2 y3 y4 y5 c0 σ1 p0 p1 p2 p3 p4 p5 t0 t1 t2 t3 t4 hM1
    have H1 : sx_M z9 hd_C σe 0 0 σ1 := hd_tr hM hM1 rfl
    have a1 : (σ1.2.1 3 4).toInt = a := by rw [hM1.2.2.2.2.1 3 4 _ _ 24 rfl (sx_bit0 _)]; exact ha
    have z1 : (σ1.2.1 3 5).toInt = z := by rw [hM1.2.2.2.2.1 3 5 _ _ 25 rfl (sx_bit0 _)]; exact hz
    have en0 : c0.toInt = k := by omega
    refine G.2.2.2.2.2.2.2.2 15 tX6_wordOf.1 0 0 32 lw1 [] σ1 post 73 19078 45 c0 (by decide) (rd_ml1 (w := 0) rd_k_X6_wordOf_32) rd_d_X6_wordOf_32 (by decide) (by decide) (hd_in en0 hkN) ?_
    rw [hd_clamp en0]
    have keep : ∀ {σ' : am_S}, sx_M z9 hd_C σ1 0 0 σ' → sx_M z9 hd_C σe 0 0 σ' ∧ (σ'.2.1 3 4).toInt = a ∧ (σ'.2.1 3 5).toInt = z := by
      intro σ' h
      refine ⟨hd_tr H1 h rfl, ?_, ?_⟩
      · rw [h.2.2.2.2.1 3 4 _ _ 24 rfl (sx_bit0 _)]; exact a1
      · rw [h.2.2.2.2.1 3 5 _ _ 25 rfl (sx_bit0 _)]; exact z1
    by_cases hc : sn_ch k = 32
    · rw [if_pos hc] at hx2 nb1
      have nb3' := nb3 hc
      have go : ∀ (lw3 : List (Nat × Value)) (w2 w3 w4 w5 c3 : Int32) (σ3 : am_S), ¬ (s = true ∧ m = z) → (0, Value.ref 3) ∈ lw3 → (1, Value.retAddr 19078) ∈ lw3 → (2, Value.int w2) ∈ lw3 → (3, Value.int w3) ∈ lw3 → (4, Value.int w4) ∈ lw3 → (5, Value.int w5) ∈ lw3 → w5.toInt = ((k + 1 : Nat) : Int) → c3.toInt = ((k + 1 : Nat) : Int) → w2.toInt = ((sn_nb k + 1 : Nat) : Int) → w3.toInt = 0 → w4.toInt = 1 → sx_M z9 hd_C σ1 0 0 σ3 → am_K g 15 tX6_wordOf.1 0 0 23 lw3 [.retAddr 19078, .int c3] σ3 post := by
        intro lw3 w2 w3 w4 w5 c3 σ3 hno q0 q1 q2 q3 q4 q5 u5 u0 u2 u3 u4 hM3
        rw [if_neg hno] at hx2
        obtain ⟨k1, k2, k3⟩ := keep hM3
        exact ih (k + 1) 0 true σ3 lw3 w2 w3 w4 w5 c3 (by omega) (by omega) (by rw [hx2, nb1]) k1 k2 k3 q0 q1 q2 q3 q4 q5 (by rw [nb1]; exact u2) u3 u4 u5 u0
      cases s with
      | false =>
        have e4' : m4.toInt = 0 := e4
        refine sg_wn3d_run G hct (sx_M_self hM1) p0 p1 p2 (by omega) p3 (by omega) p4 (by omega) p5 (by omega) (by omega) ?_
        intro lw3 w2 w3 w4 w5 c3 σ3 q0 q1 q2 q3 q4 q5 u1 u2 u3 u4 u5 hM3
        exact go lw3 w2 w3 w4 w5 c3 σ3 (fun q => by cases q.1) q0 q1 q2 q3 q4 q5 (by omega) (by omega) (by omega) (by omega) (by omega) hM3
      | true =>
        have e4' : m4.toInt = 1 := e4
        rcases Nat.lt_trichotomy m z with h | h | h
        · refine sg_wn3b_run G hct (sx_M_self hM1) p0 p1 p2 (by omega) p3 (by omega) p4 (by omega) p5 (by omega) (by omega) (by omega) ?_
          intro lw3 w2 w3 w4 w5 c3 σ3 q0 q1 q2 q3 q4 q5 u1 u2 u3 u4 u5 hM3
          exact go lw3 w2 w3 w4 w5 c3 σ3 (by omega) q0 q1 q2 q3 q4 q5 (by omega) (by omega) (by omega) (by omega) (by omega) hM3
        · refine sg_wn3a_run G hct (sx_M_self hM1) p0 p1 p2 (by omega) p3 (by omega) p4 (by omega) p5 (by omega) (by omega) (by omega) ?_
          intro r σ' c1 hM'
          exact kk r σ' (keep hM').1 (by rw [hx2, if_pos ⟨rfl, h⟩]; omega)
        · refine sg_wn3c_run G hct (sx_M_self hM1) p0 p1 p2 (by omega) p3 (by omega) p4 (by omega) p5 (by omega) (by omega) (by omega) ?_
          intro lw3 w2 w3 w4 w5 c3 σ3 q0 q1 q2 q3 q4 q5 u1 u2 u3 u4 u5 hM3
          exact go lw3 w2 w3 w4 w5 c3 σ3 (by omega) q0 q1 q2 q3 q4 q5 (by omega) (by omega) (by omega) (by omega) (by omega) hM3
    · rw [if_neg hc] at hx2 nb1
      have hlet : 97 ≤ sn_ch k ∧ sn_ch k ≤ 122 := by omega
      have go : ∀ (lw3 : List (Nat × Value)) (w2 w3 w4 w5 c3 : Int32) (σ3 : am_S), (0, Value.ref 3) ∈ lw3 → (1, Value.retAddr 19078) ∈ lw3 → (2, Value.int w2) ∈ lw3 → (3, Value.int w3) ∈ lw3 → (4, Value.int w4) ∈ lw3 → (5, Value.int w5) ∈ lw3 → w5.toInt = ((k + 1 : Nat) : Int) → c3.toInt = ((k + 1 : Nat) : Int) → w2.toInt = ((sn_nb k : Nat) : Int) → w3.toInt = ((m + 1 : Nat) : Int) → w4.toInt = (if (s && (decide (m < z) && b (a + m) == sn_ch k)) = true then 1 else 0) → sx_M z9 hd_C σ1 0 0 σ3 → am_K g 15 tX6_wordOf.1 0 0 23 lw3 [.retAddr 19078, .int c3] σ3 post := by
        intro lw3 w2 w3 w4 w5 c3 σ3 q0 q1 q2 q3 q4 q5 u5 u0 u2 u3 u4 hM3
        obtain ⟨k1, k2, k3⟩ := keep hM3
        exact ih (k + 1) (m + 1) _ σ3 lw3 w2 w3 w4 w5 c3 (by omega) (by omega) (by rw [hx2, nb1]) k1 k2 k3 q0 q1 q2 q3 q4 q5 (by rw [nb1]; exact u2) u3 u4 u5 u0
      cases s with
      | false =>
        have e4' : m4.toInt = 0 := e4
        refine sg_wn3e_run G hct (sx_M_self hM1) p0 p1 p2 (by omega) p3 (by omega) p4 (by omega) p5 (by omega) (by omega) ?_
        intro lw3 w2 w3 w4 w5 c3 σ3 q0 q1 q2 q3 q4 q5 u1 u2 u3 u4 u5 hM3
        exact go lw3 w2 w3 w4 w5 c3 σ3 q0 q1 q2 q3 q4 q5 (by omega) (by omega) (by omega) (by omega) (by rw [Bool.false_and, if_neg Bool.noConfusion]; omega) hM3
      | true =>
        have e4' : m4.toInt = 1 := e4
        by_cases h : m < z
        · refine sg_wn3g_run G hct (sx_M_self hM1) p0 p1 p2 (by omega) p3 (by omega) p4 (by omega) p5 (by omega) (by omega) (by omega) (by omega) ?_
          intro lw3 w2 w3 w4 w5 w6 c3 σ3 q0 q1 q2 q3 q4 q5 q6 u1 u2 u3 u4 u5 u6 hM3
          obtain ⟨k1, k2, k3⟩ := keep hM3
          have X3 := rc_Xm Xe k1 (sx_bit0 _) (sx_bit0 _) (sx_bit0 _)
          refine rc_bac G hct (d := 15) (by decide) (sx_M_self hM3) X3 (p := a + m) (by omega) (by omega) rfl rd_d_X6_wordOf_67 rd_k_X6_wordOf_67 (by decide) ?_
          intro r σ4 hM4 hr
          have hb := rc_bX X3 (show a + m < n by omega)
          have hM14 : sx_M z9 hd_C σ1 0 0 σ4 := hd_tr hM3 hM4 rfl
          have ev : ∀ v : Bool, (b (a + m) == sn_ch k) = v → (true && (decide (m < z) && b (a + m) == sn_ch k)) = v := fun v hv => by rw [hv, decide_eq_true h, Bool.true_and, Bool.true_and]
          rcases Nat.lt_trichotomy (b (a + m)) (sn_ch k) with g1 | g1 | g1
          · refine sg_wn4a_run G hct (sx_M_self hM4) q0 q1 q2 (by omega) q3 (by omega) q4 (by omega) q5 (by omega) q6 (by omega) ?_
            intro lw5 v2 v3 v4 v5 c5 σ5 r0 r1 r2 r3 r4 r5 u7 u8 u9 ua ub hM5
            exact go lw5 v2 v3 v4 v5 c5 σ5 r0 r1 r2 r3 r4 r5 (by omega) (by omega) (by omega) (by omega) (by rw [ev false (by rw [beq_eq_false_iff_ne]; omega), if_neg Bool.noConfusion]; omega) (hd_tr hM14 hM5 rfl)
          · refine sg_wn4b_run G hct (sx_M_self hM4) q0 q1 q2 (by omega) q3 (by omega) q4 (by omega) q5 (by omega) q6 (by omega) ?_
            intro lw5 v2 v3 v4 v5 c5 σ5 r0 r1 r2 r3 r4 r5 u7 u8 u9 ua ub hM5
            exact go lw5 v2 v3 v4 v5 c5 σ5 r0 r1 r2 r3 r4 r5 (by omega) (by omega) (by omega) (by omega) (by rw [ev true (by rw [beq_iff_eq]; exact g1), if_pos rfl]; omega) (hd_tr hM14 hM5 rfl)
          · refine sg_wn4c_run G hct (sx_M_self hM4) q0 q1 q2 (by omega) q3 (by omega) q4 (by omega) q5 (by omega) q6 (by omega) ?_
            intro lw5 v2 v3 v4 v5 c5 σ5 r0 r1 r2 r3 r4 r5 u7 u8 u9 ua ub hM5
            exact go lw5 v2 v3 v4 v5 c5 σ5 r0 r1 r2 r3 r4 r5 (by omega) (by omega) (by omega) (by omega) (by rw [ev false (by rw [beq_eq_false_iff_ne]; omega), if_neg Bool.noConfusion]; omega) (hd_tr hM14 hM5 rfl)
        · refine sg_wn3f_run G hct (sx_M_self hM1) p0 p1 p2 (by omega) p3 (by omega) p4 (by omega) p5 (by omega) (by omega) (by omega) ?_
          intro lw3 w2 w3 w4 w5 c3 σ3 q0 q1 q2 q3 q4 q5 u1 u2 u3 u4 u5 hM3
          exact go lw3 w2 w3 w4 w5 c3 σ3 q0 q1 q2 q3 q4 q5 (by omega) (by omega) (by omega) (by omega) (by rw [decide_eq_false h, Bool.false_and, Bool.and_false, if_neg Bool.noConfusion]; omega) hM3
/-- wordOf -/
theorem sn_wordOf (G : sx_G0 g L xs z9 hd_C ex_mt) (hct : rc_ct g) {σ : am_S} (hM : sx_M z9 hd_C σ 0 0 σ) {b : Nat → Nat} {n most : Nat} {t : rd_K} (X : rc_X σ b n most) (N : rc_N σ t) (hw : t.1 = 1 → t.2.1 + t.2.2.1 ≤ n) {lw : List (Nat × Value)} (hl : (0, Value.ref 3) ∈ lw) (hl1 : (1, Value.retAddr 19078) ∈ lw) {post : Option (Option Value) → am_S → Prop} (kk : ∀ (r : Int32) (σ' : am_S), sx_M z9 hd_C σ 0 0 σ' → r.toInt = sn_wh b t → post (some (some (.int r))) σ') : am_K g 15 tX6_wordOf.1 0 0 0 lw [] σ post := by
  have n1 := N.1
  have k0 : rc_kd 0 = 0 := rfl
  by_cases t1 : t.1 = 1
  · rw [t1] at n1
    have n1' : (σ.2.1 3 3).toInt = 2 := n1
    refine sg_wn1c_run G hct hM hl hl1 (by omega) ?_
    intro lw1 y2 y3 y4 y5 c0 σ1 p0 p1 p2 p3 p4 p5 u1 u2 u3 u4 u5 hM1
    have nb0 : sn_nb 0 = 0 := rfl
    refine sn_wL G hct X (a := t.2.1) (z := t.2.2.1) (hw t1) (x := sn_wh b t) kk 45 0 0 true σ1 lw1 y2 y3 y4 y5 c0 rfl (Nat.le_refl _) (sn_wo_all t1).symm hM1 ?_ ?_ p0 p1 p2 p3 p4 p5 (by rw [nb0]; omega) (by omega) (by rw [if_pos rfl]; omega) (by omega) (by omega)
    · rw [hM1.2.2.2.2.1 3 4 _ _ 24 rfl (sx_bit0 _)]; exact N.2.1
    · rw [hM1.2.2.2.2.1 3 5 _ _ 25 rfl (sx_bit0 _)]; exact N.2.2.2.1 t1
  · have hx := sn_wh_no (b := b) t1
    have hk : rc_kd t.1 ≠ 2 := by
      unfold rc_kd
      split
      · decide
      · split
        · decide
        · split <;> decide
    by_cases h : (σ.2.1 3 3).toInt ≤ 1
    · refine sg_wn1a_run G hct hM hl hl1 (by have := Int32.le_toInt (σ.2.1 3 3); omega) ?_
      intro r σ' c1 hM'
      exact kk r σ' hM' (by rw [hx]; omega)
    · refine sg_wn1b_run G hct hM hl hl1 (by have := Int32.toInt_lt (σ.2.1 3 3); omega) ?_
      intro r σ' c1 hM'
      exact kk r σ' hM' (by rw [hx]; omega)
end CW
/-! the reader of the class: which word -/
def sa_cl : List Nat := [97, 110, 100]
def sa_ch (k : Nat) : Nat := sa_cl.getD k 0
theorem sa_chT : ∀ k, k < 3 → (st_tx 19059 k &&& 255).toInt = ((sa_ch k : Nat) : Int) ∧ (sa_ch k = 32 ∨ (97 ≤ sa_ch k ∧ sa_ch k ≤ 122)) := by decide +kernel
/-- blanks ahead of k -/
def sa_nb (k : Nat) : Nat := (sa_cl.take k).countP (fun c => c == 32)
theorem sa_nbT : ∀ k, k < 3 → sa_nb (k + 1) = (if sa_ch k = 32 then sa_nb k + 1 else sa_nb k) ∧ sa_nb k ≤ 9 ∧ (sa_ch k = 32 → sa_nb k ≤ 8) := by decide +kernel
/-- the search, as the class does it: a the token's place, z its size -/
def sa_wo (b : Nat → Nat) (a z : Nat) : Nat → Nat → Nat → Nat → Bool → Int
  | 0, _, i, m, s => if s = true ∧ m = z then (i : Int) else -1
  | f + 1, k, i, m, s => if sa_ch k = 32 then (if s = true ∧ m = z then (i : Int) else sa_wo b a z f (k + 1) (i + 1) 0 true) else sa_wo b a z f (k + 1) i (m + 1) (s && (decide (m < z) && b (a + m) == sa_ch k))
def sa_mt (b : Nat → Nat) (a z : Nat) : Nat → Nat → Nat → Bool
  | 0, _, _ => true
  | j + 1, k, m => (decide (m < z) && b (a + m) == sa_ch k) && sa_mt b a z j (k + 1) (m + 1)
theorem sa_wo_l {b : Nat → Nat} {a z : Nat} : ∀ (j f k i m : Nat) (s : Bool), (∀ t, t < j → sa_ch (k + t) ≠ 32) → sa_wo b a z (j + f) k i m s = sa_wo b a z f (k + j) i (m + j) (s && sa_mt b a z j k m)
  | 0, f, k, i, m, s, _ => by
    show sa_wo b a z (0 + f) k i m s = sa_wo b a z f k i m (s && true)
    rw [Nat.zero_add, Bool.and_true]
  | j + 1, f, k, i, m, s, h => by
    rw [show j + 1 + f = (j + f) + 1 by omega]
    show (if sa_ch k = 32 then (if s = true ∧ m = z then (i : Int) else sa_wo b a z (j + f) (k + 1) (i + 1) 0 true) else sa_wo b a z (j + f) (k + 1) i (m + 1) (s && (decide (m < z) && b (a + m) == sa_ch k))) = _
    rw [if_neg (show sa_ch k ≠ 32 from h 0 (by omega)), sa_wo_l j f (k + 1) i (m + 1) _ (fun t ht => by have := h (t + 1) (by omega); rw [show k + (t + 1) = k + 1 + t by omega] at this; exact this)]
    show sa_wo b a z f (k + 1 + j) i (m + 1 + j) ((s && (decide (m < z) && b (a + m) == sa_ch k)) && sa_mt b a z j (k + 1) (m + 1)) = sa_wo b a z f (k + (j + 1)) i (m + (j + 1)) (s && ((decide (m < z) && b (a + m) == sa_ch k) && sa_mt b a z j (k + 1) (m + 1)))
    rw [Bool.and_assoc, show k + 1 + j = k + (j + 1) by omega, show m + 1 + j = m + (j + 1) by omega]
theorem sa_mt_eq {b c : Nat → Nat} {a z : Nat} : ∀ (j k m : Nat), m + j = z → (∀ t, t < j → sa_ch (k + t) = c (m + t)) → sa_mt b a z j k m = rd_eqs b c j (a + m) m
  | 0, _, _, _, _ => rfl
  | j + 1, k, m, h1, h2 => by
    show ((decide (m < z) && b (a + m) == sa_ch k) && sa_mt b a z j (k + 1) (m + 1)) = (b (a + m) == c m && rd_eqs b c j (a + m + 1) (m + 1))
    have h0 := h2 0 (by omega)
    rw [Nat.add_zero, Nat.add_zero] at h0
    rw [sa_mt_eq j (k + 1) (m + 1) (by omega) (fun t ht => by have := h2 (t + 1) (by omega); rw [show k + (t + 1) = k + 1 + t by omega, show m + (t + 1) = m + 1 + t by omega] at this; exact this), decide_eq_true (show m < z by omega), Bool.true_and, h0]
    rfl
theorem sa_cond {b : Nat → Nat} {t : rd_K} (t1 : t.1 = 1) {w L k : Nat} (hL : (sn_ws w).length = L) (hc : ∀ i, i < L → sa_ch (k + i) = sn_wl w i) : ((true && sa_mt b t.2.1 t.2.2.1 L k 0) = true ∧ 0 + L = t.2.2.1) ↔ sn_isk b w t = true := by
  unfold sn_isk rd_isw
  rw [Bool.true_and, Bool.and_eq_true, Bool.and_eq_true, beq_iff_eq, beq_iff_eq, hL]
  constructor
  · intro ⟨h1, h2⟩
    refine ⟨t1, by omega, ?_⟩
    rw [sa_mt_eq (c := sn_wl w) L k 0 h2 (fun i hi => by rw [Nat.zero_add]; exact hc i hi)] at h1
    exact h1
  · intro ⟨_, h2, h3⟩
    refine ⟨?_, by omega⟩
    rw [sa_mt_eq (c := sn_wl w) L k 0 (by omega) (fun i hi => by rw [Nat.zero_add]; exact hc i hi)]
    exact h3
theorem sa_word {b : Nat → Nat} {t : rd_K} (t1 : t.1 = 1) {w L k f i : Nat} (hL : (sn_ws w).length = L) (hc : ∀ i, i < L → sa_ch (k + i) = sn_wl w i) (hn : ∀ i, i < L → sa_ch (k + i) ≠ 32) (hb : sa_ch (k + L) = 32) : sa_wo b t.2.1 t.2.2.1 (L + (f + 1)) k i 0 true = if sn_isk b w t = true then (i : Int) else sa_wo b t.2.1 t.2.2.1 f (k + L + 1) (i + 1) 0 true := by
  rw [sa_wo_l L (f + 1) k i 0 true hn]
  show (if sa_ch (k + L) = 32 then (if (true && sa_mt b t.2.1 t.2.2.1 L k 0) = true ∧ 0 + L = t.2.2.1 then (i : Int) else sa_wo b t.2.1 t.2.2.1 f (k + L + 1) (i + 1) 0 true) else _) = _
  rw [if_pos hb]
  by_cases h : sn_isk b w t = true
  · rw [if_pos h, if_pos ((sa_cond t1 hL hc).mpr h)]
  · rw [if_neg h, if_neg (fun q => h ((sa_cond t1 hL hc).mp q))]
theorem sa_word9 {b : Nat → Nat} {t : rd_K} (t1 : t.1 = 1) {w L k i : Nat} (hL : (sn_ws w).length = L) (hc : ∀ i, i < L → sa_ch (k + i) = sn_wl w i) (hn : ∀ i, i < L → sa_ch (k + i) ≠ 32) : sa_wo b t.2.1 t.2.2.1 (L + 0) k i 0 true = if sn_isk b w t = true then (i : Int) else -1 := by
  rw [sa_wo_l L 0 k i 0 true hn]
  show (if (true && sa_mt b t.2.1 t.2.2.1 L k 0) = true ∧ 0 + L = t.2.2.1 then (i : Int) else -1) = _
  by_cases h : sn_isk b w t = true
  · rw [if_pos h, if_pos ((sa_cond t1 hL hc).mpr h)]
  · rw [if_neg h, if_neg (fun q => h ((sa_cond t1 hL hc).mp q))]
/-- which of the words -/
def sa_wh (b : Nat → Nat) (t : rd_K) : Int := (if sn_isk b 8 t = true then 0 else -1)
theorem sa_wo_all {b : Nat → Nat} {t : rd_K} (t1 : t.1 = 1) : sa_wo b t.2.1 t.2.2.1 3 0 0 0 true = sa_wh b t := by
  have e0 := sa_word9 (b := b) t1 (w := 8) (L := 3) (k := 0) (i := 0) rfl (by decide +kernel) (by decide +kernel)
  refine e0.trans ?_
  unfold sa_wh
  by_cases h0 : sn_isk b 8 t = true
  · rw [if_pos h0, if_pos h0]; rfl
  · rw [if_neg h0, if_neg h0]
theorem sa_wh_no {b : Nat → Nat} {t : rd_K} (t1 : t.1 ≠ 1) : sa_wh b t = -1 := by
  have h : ∀ k, ¬ sn_isk b k t = true := by
    intro k q
    unfold sn_isk rd_isw at q
    rw [Bool.and_eq_true, beq_iff_eq] at q
    exact t1 q.1
  unfold sa_wh
  rw [if_neg (h 8)]
section CW
variable {g : am_C} {L : Nat} {xs : Nat → Int32}
theorem sa_wL (G : sx_G0 g L xs z9 hd_C ex_mt) (hct : rc_ct g) {σe : am_S} {b : Nat → Nat} {n most a z : Nat} (Xe : rc_X σe b n most) (haz : a + z ≤ n) {x : Int} {post : Option (Option Value) → am_S → Prop} (kk : ∀ (r : Int32) (σ' : am_S), sx_M z9 hd_C σe 0 0 σ' → r.toInt = x → post (some (some (.int r))) σ') : ∀ (f k m : Nat) (s : Bool) (σ : am_S) (lw : List (Nat × Value)) (m2 m3 m4 m5 n0 : Int32), k + f = 3 → m ≤ k → x = sa_wo b a z f k (sa_nb k) m s → sx_M z9 hd_C σe 0 0 σ → (σ.2.1 3 4).toInt = a → (σ.2.1 3 5).toInt = z → (0, Value.ref 3) ∈ lw → (1, Value.retAddr 19059) ∈ lw → (2, Value.int m2) ∈ lw → (3, Value.int m3) ∈ lw → (4, Value.int m4) ∈ lw → (5, Value.int m5) ∈ lw → m2.toInt = sa_nb k → m3.toInt = m → m4.toInt = (if s = true then 1 else 0) → m5.toInt = k → n0.toInt = k → am_K g 15 tX6_wordOf.1 0 0 23 lw [.retAddr 19059, .int n0] σ post := by
  intro f
  induction f with
  | zero =>
    intro k m s σ lw m2 m3 m4 m5 n0 hk hmk hx hM ha hz h0 h1 h2 h3 h4 h5 e2 e3 e4 e5 en
    have n9 := Xe.2.2.2.1
    have ek : k = 3 := by omega
    subst ek
    have nb : sa_nb 3 = 0 := by decide +kernel
    rw [nb] at hx e2
    have lN : (Int32.ofNat 3).toInt = 3 := by decide
    refine G.2.2.2.2.2.2.2.1 15 tX6_wordOf.1 0 0 23 lw [.int n0] σ post 68 19059 3 (by decide) (rd_ml0 rd_k_X6_wordOf_23) rd_d_X6_wordOf_23 (by decide) (Nat.le_of_ble_eq_true rfl) ?_
    have hx2 : x = if s = true ∧ m = z then ((0 : Nat) : Int) else -1 := hx
    cases s with
    | false =>
      have e4' : m4.toInt = 0 := e4
      refine sg_wa2b_run G hct (sx_M_self hM) h0 h1 h2 (by omega) h3 (by omega) h4 (by omega) h5 (by omega) (by omega) (by omega) ?_
      intro r σ' c1 hM'
      exact kk r σ' (hd_tr hM hM' rfl) (by rw [hx2, if_neg (fun q => by cases q.1)]; omega)
    | true =>
      have e4' : m4.toInt = 1 := e4
      rcases Nat.lt_trichotomy m z with h | h | h
      · refine sg_wa2c_run G hct (sx_M_self hM) h0 h1 h2 (by omega) h3 (by omega) h4 (by omega) h5 (by omega) (by omega) (by omega) (by omega) ?_
        intro r σ' c1 hM'
        exact kk r σ' (hd_tr hM hM' rfl) (by rw [hx2, if_neg (by omega)]; omega)
      · refine sg_wa2e_run G hct (sx_M_self hM) h0 h1 h2 (by omega) h3 (by omega) h4 (by omega) h5 (by omega) (by omega) (by omega) (by omega) ?_
        intro r σ' c1 hM'
        exact kk r σ' (hd_tr hM hM' rfl) (by rw [hx2, if_pos ⟨rfl, h⟩]; omega)
      · refine sg_wa2d_run G hct (sx_M_self hM) h0 h1 h2 (by omega) h3 (by omega) h4 (by omega) h5 (by omega) (by omega) (by omega) (by omega) ?_
        intro r σ' c1 hM'
        exact kk r σ' (hd_tr hM hM' rfl) (by rw [hx2, if_neg (by omega)]; omega)
  | succ f ih =>
    intro k m s σ lw m2 m3 m4 m5 n0 hk hmk hx hM ha hz h0 h1 h2 h3 h4 h5 e2 e3 e4 e5 en
    have n9 := Xe.2.2.2.1
    have hkN : k < 3 := by omega
    have lN : (Int32.ofNat 3).toInt = 3 := by decide
    obtain ⟨ch1, ch2⟩ := sa_chT k hkN
    obtain ⟨nb1, nb2, nb3⟩ := sa_nbT k hkN
    have hx2 : x = if sa_ch k = 32 then (if s = true ∧ m = z then ((sa_nb k : Nat) : Int) else sa_wo b a z f (k + 1) (sa_nb k + 1) 0 true) else sa_wo b a z f (k + 1) (sa_nb k) (m + 1) (s && (decide (m < z) && b (a + m) == sa_ch k)) := hx
    have b4 : 0 ≤ m4.toInt ∧ m4.toInt ≤ 1 := by rw [e4]; split <;> omega
    refine G.2.2.2.2.2.2.2.1 15 tX6_wordOf.1 0 0 23 lw [.int n0] σ post 68 19059 3 (by decide) (rd_ml0 rd_k_X6_wordOf_23) rd_d_X6_wordOf_23 (by decide) (Nat.le_of_ble_eq_true rfl) ?_
    refine sg_wa2a_run G hct (sx_M_self hM) h0 h1 h2 (by omega) h3 (by omega) h4 b4 h5 (by omega) (by omega) (by omega) (by omega) ?_
    intro lw1 y2 y3 y4 y5 c0 σ1 p0 p1 p2 p3 p4 p5 t0 t1 t2 t3 t4 hM1
    have H1 : sx_M z9 hd_C σe 0 0 σ1 := hd_tr hM hM1 rfl
    have a1 : (σ1.2.1 3 4).toInt = a := by rw [hM1.2.2.2.2.1 3 4 _ _ 24 rfl (sx_bit0 _)]; exact ha
    have z1 : (σ1.2.1 3 5).toInt = z := by rw [hM1.2.2.2.2.1 3 5 _ _ 25 rfl (sx_bit0 _)]; exact hz
    have en0 : c0.toInt = k := by omega
    refine G.2.2.2.2.2.2.2.2 15 tX6_wordOf.1 0 0 32 lw1 [] σ1 post 73 19059 3 c0 (by decide) (rd_ml1 (w := 0) rd_k_X6_wordOf_32) rd_d_X6_wordOf_32 (by decide) (by decide) (hd_in en0 hkN) ?_
    rw [hd_clamp en0]
    have keep : ∀ {σ' : am_S}, sx_M z9 hd_C σ1 0 0 σ' → sx_M z9 hd_C σe 0 0 σ' ∧ (σ'.2.1 3 4).toInt = a ∧ (σ'.2.1 3 5).toInt = z := by
      intro σ' h
      refine ⟨hd_tr H1 h rfl, ?_, ?_⟩
      · rw [h.2.2.2.2.1 3 4 _ _ 24 rfl (sx_bit0 _)]; exact a1
      · rw [h.2.2.2.2.1 3 5 _ _ 25 rfl (sx_bit0 _)]; exact z1
    by_cases hc : sa_ch k = 32
    · rw [if_pos hc] at hx2 nb1
      have nb3' := nb3 hc
      have go : ∀ (lw3 : List (Nat × Value)) (w2 w3 w4 w5 c3 : Int32) (σ3 : am_S), ¬ (s = true ∧ m = z) → (0, Value.ref 3) ∈ lw3 → (1, Value.retAddr 19059) ∈ lw3 → (2, Value.int w2) ∈ lw3 → (3, Value.int w3) ∈ lw3 → (4, Value.int w4) ∈ lw3 → (5, Value.int w5) ∈ lw3 → w5.toInt = ((k + 1 : Nat) : Int) → c3.toInt = ((k + 1 : Nat) : Int) → w2.toInt = ((sa_nb k + 1 : Nat) : Int) → w3.toInt = 0 → w4.toInt = 1 → sx_M z9 hd_C σ1 0 0 σ3 → am_K g 15 tX6_wordOf.1 0 0 23 lw3 [.retAddr 19059, .int c3] σ3 post := by
        intro lw3 w2 w3 w4 w5 c3 σ3 hno q0 q1 q2 q3 q4 q5 u5 u0 u2 u3 u4 hM3
        rw [if_neg hno] at hx2
        obtain ⟨k1, k2, k3⟩ := keep hM3
        exact ih (k + 1) 0 true σ3 lw3 w2 w3 w4 w5 c3 (by omega) (by omega) (by rw [hx2, nb1]) k1 k2 k3 q0 q1 q2 q3 q4 q5 (by rw [nb1]; exact u2) u3 u4 u5 u0
      cases s with
      | false =>
        have e4' : m4.toInt = 0 := e4
        refine sg_wa3d_run G hct (sx_M_self hM1) p0 p1 p2 (by omega) p3 (by omega) p4 (by omega) p5 (by omega) (by omega) ?_
        intro lw3 w2 w3 w4 w5 c3 σ3 q0 q1 q2 q3 q4 q5 u1 u2 u3 u4 u5 hM3
        exact go lw3 w2 w3 w4 w5 c3 σ3 (fun q => by cases q.1) q0 q1 q2 q3 q4 q5 (by omega) (by omega) (by omega) (by omega) (by omega) hM3
      | true =>
        have e4' : m4.toInt = 1 := e4
        rcases Nat.lt_trichotomy m z with h | h | h
        · refine sg_wa3b_run G hct (sx_M_self hM1) p0 p1 p2 (by omega) p3 (by omega) p4 (by omega) p5 (by omega) (by omega) (by omega) ?_
          intro lw3 w2 w3 w4 w5 c3 σ3 q0 q1 q2 q3 q4 q5 u1 u2 u3 u4 u5 hM3
          exact go lw3 w2 w3 w4 w5 c3 σ3 (by omega) q0 q1 q2 q3 q4 q5 (by omega) (by omega) (by omega) (by omega) (by omega) hM3
        · refine sg_wa3a_run G hct (sx_M_self hM1) p0 p1 p2 (by omega) p3 (by omega) p4 (by omega) p5 (by omega) (by omega) (by omega) ?_
          intro r σ' c1 hM'
          exact kk r σ' (keep hM').1 (by rw [hx2, if_pos ⟨rfl, h⟩]; omega)
        · refine sg_wa3c_run G hct (sx_M_self hM1) p0 p1 p2 (by omega) p3 (by omega) p4 (by omega) p5 (by omega) (by omega) (by omega) ?_
          intro lw3 w2 w3 w4 w5 c3 σ3 q0 q1 q2 q3 q4 q5 u1 u2 u3 u4 u5 hM3
          exact go lw3 w2 w3 w4 w5 c3 σ3 (by omega) q0 q1 q2 q3 q4 q5 (by omega) (by omega) (by omega) (by omega) (by omega) hM3
    · rw [if_neg hc] at hx2 nb1
      have hlet : 97 ≤ sa_ch k ∧ sa_ch k ≤ 122 := by omega
      have go : ∀ (lw3 : List (Nat × Value)) (w2 w3 w4 w5 c3 : Int32) (σ3 : am_S), (0, Value.ref 3) ∈ lw3 → (1, Value.retAddr 19059) ∈ lw3 → (2, Value.int w2) ∈ lw3 → (3, Value.int w3) ∈ lw3 → (4, Value.int w4) ∈ lw3 → (5, Value.int w5) ∈ lw3 → w5.toInt = ((k + 1 : Nat) : Int) → c3.toInt = ((k + 1 : Nat) : Int) → w2.toInt = ((sa_nb k : Nat) : Int) → w3.toInt = ((m + 1 : Nat) : Int) → w4.toInt = (if (s && (decide (m < z) && b (a + m) == sa_ch k)) = true then 1 else 0) → sx_M z9 hd_C σ1 0 0 σ3 → am_K g 15 tX6_wordOf.1 0 0 23 lw3 [.retAddr 19059, .int c3] σ3 post := by
        intro lw3 w2 w3 w4 w5 c3 σ3 q0 q1 q2 q3 q4 q5 u5 u0 u2 u3 u4 hM3
        obtain ⟨k1, k2, k3⟩ := keep hM3
        exact ih (k + 1) (m + 1) _ σ3 lw3 w2 w3 w4 w5 c3 (by omega) (by omega) (by rw [hx2, nb1]) k1 k2 k3 q0 q1 q2 q3 q4 q5 (by rw [nb1]; exact u2) u3 u4 u5 u0
      cases s with
      | false =>
        have e4' : m4.toInt = 0 := e4
        refine sg_wa3e_run G hct (sx_M_self hM1) p0 p1 p2 (by omega) p3 (by omega) p4 (by omega) p5 (by omega) (by omega) ?_
        intro lw3 w2 w3 w4 w5 c3 σ3 q0 q1 q2 q3 q4 q5 u1 u2 u3 u4 u5 hM3
        exact go lw3 w2 w3 w4 w5 c3 σ3 q0 q1 q2 q3 q4 q5 (by omega) (by omega) (by omega) (by omega) (by rw [Bool.false_and, if_neg Bool.noConfusion]; omega) hM3
      | true =>
        have e4' : m4.toInt = 1 := e4
        by_cases h : m < z
        · refine sg_wa3g_run G hct (sx_M_self hM1) p0 p1 p2 (by omega) p3 (by omega) p4 (by omega) p5 (by omega) (by omega) (by omega) (by omega) ?_
          intro lw3 w2 w3 w4 w5 w6 c3 σ3 q0 q1 q2 q3 q4 q5 q6 u1 u2 u3 u4 u5 u6 hM3
          obtain ⟨k1, k2, k3⟩ := keep hM3
          have X3 := rc_Xm Xe k1 (sx_bit0 _) (sx_bit0 _) (sx_bit0 _)
          refine rc_bac G hct (d := 15) (by decide) (sx_M_self hM3) X3 (p := a + m) (by omega) (by omega) rfl rd_d_X6_wordOf_67 rd_k_X6_wordOf_67 (by decide) ?_
          intro r σ4 hM4 hr
          have hb := rc_bX X3 (show a + m < n by omega)
          have hM14 : sx_M z9 hd_C σ1 0 0 σ4 := hd_tr hM3 hM4 rfl
          have ev : ∀ v : Bool, (b (a + m) == sa_ch k) = v → (true && (decide (m < z) && b (a + m) == sa_ch k)) = v := fun v hv => by rw [hv, decide_eq_true h, Bool.true_and, Bool.true_and]
          rcases Nat.lt_trichotomy (b (a + m)) (sa_ch k) with g1 | g1 | g1
          · refine sg_wa4a_run G hct (sx_M_self hM4) q0 q1 q2 (by omega) q3 (by omega) q4 (by omega) q5 (by omega) q6 (by omega) ?_
            intro lw5 v2 v3 v4 v5 c5 σ5 r0 r1 r2 r3 r4 r5 u7 u8 u9 ua ub hM5
            exact go lw5 v2 v3 v4 v5 c5 σ5 r0 r1 r2 r3 r4 r5 (by omega) (by omega) (by omega) (by omega) (by rw [ev false (by rw [beq_eq_false_iff_ne]; omega), if_neg Bool.noConfusion]; omega) (hd_tr hM14 hM5 rfl)
          · refine sg_wa4b_run G hct (sx_M_self hM4) q0 q1 q2 (by omega) q3 (by omega) q4 (by omega) q5 (by omega) q6 (by omega) ?_
            intro lw5 v2 v3 v4 v5 c5 σ5 r0 r1 r2 r3 r4 r5 u7 u8 u9 ua ub hM5
            exact go lw5 v2 v3 v4 v5 c5 σ5 r0 r1 r2 r3 r4 r5 (by omega) (by omega) (by omega) (by omega) (by rw [ev true (by rw [beq_iff_eq]; exact g1), if_pos rfl]; omega) (hd_tr hM14 hM5 rfl)
          · refine sg_wa4c_run G hct (sx_M_self hM4) q0 q1 q2 (by omega) q3 (by omega) q4 (by omega) q5 (by omega) q6 (by omega) ?_
            intro lw5 v2 v3 v4 v5 c5 σ5 r0 r1 r2 r3 r4 r5 u7 u8 u9 ua ub hM5
            exact go lw5 v2 v3 v4 v5 c5 σ5 r0 r1 r2 r3 r4 r5 (by omega) (by omega) (by omega) (by omega) (by rw [ev false (by rw [beq_eq_false_iff_ne]; omega), if_neg Bool.noConfusion]; omega) (hd_tr hM14 hM5 rfl)
        · refine sg_wa3f_run G hct (sx_M_self hM1) p0 p1 p2 (by omega) p3 (by omega) p4 (by omega) p5 (by omega) (by omega) (by omega) ?_
          intro lw3 w2 w3 w4 w5 c3 σ3 q0 q1 q2 q3 q4 q5 u1 u2 u3 u4 u5 hM3
          exact go lw3 w2 w3 w4 w5 c3 σ3 q0 q1 q2 q3 q4 q5 (by omega) (by omega) (by omega) (by omega) (by rw [decide_eq_false h, Bool.false_and, Bool.and_false, if_neg Bool.noConfusion]; omega) hM3
/-- wordOf -/
theorem sa_wordOf (G : sx_G0 g L xs z9 hd_C ex_mt) (hct : rc_ct g) {σ : am_S} (hM : sx_M z9 hd_C σ 0 0 σ) {b : Nat → Nat} {n most : Nat} {t : rd_K} (X : rc_X σ b n most) (N : rc_N σ t) (hw : t.1 = 1 → t.2.1 + t.2.2.1 ≤ n) {lw : List (Nat × Value)} (hl : (0, Value.ref 3) ∈ lw) (hl1 : (1, Value.retAddr 19059) ∈ lw) {post : Option (Option Value) → am_S → Prop} (kk : ∀ (r : Int32) (σ' : am_S), sx_M z9 hd_C σ 0 0 σ' → r.toInt = sa_wh b t → post (some (some (.int r))) σ') : am_K g 15 tX6_wordOf.1 0 0 0 lw [] σ post := by
  have n1 := N.1
  have k0 : rc_kd 0 = 0 := rfl
  by_cases t1 : t.1 = 1
  · rw [t1] at n1
    have n1' : (σ.2.1 3 3).toInt = 2 := n1
    refine sg_wa1c_run G hct hM hl hl1 (by omega) ?_
    intro lw1 y2 y3 y4 y5 c0 σ1 p0 p1 p2 p3 p4 p5 u1 u2 u3 u4 u5 hM1
    have nb0 : sa_nb 0 = 0 := rfl
    refine sa_wL G hct X (a := t.2.1) (z := t.2.2.1) (hw t1) (x := sa_wh b t) kk 3 0 0 true σ1 lw1 y2 y3 y4 y5 c0 rfl (Nat.le_refl _) (sa_wo_all t1).symm hM1 ?_ ?_ p0 p1 p2 p3 p4 p5 (by rw [nb0]; omega) (by omega) (by rw [if_pos rfl]; omega) (by omega) (by omega)
    · rw [hM1.2.2.2.2.1 3 4 _ _ 24 rfl (sx_bit0 _)]; exact N.2.1
    · rw [hM1.2.2.2.2.1 3 5 _ _ 25 rfl (sx_bit0 _)]; exact N.2.2.2.1 t1
  · have hx := sa_wh_no (b := b) t1
    have hk : rc_kd t.1 ≠ 2 := by
      unfold rc_kd
      split
      · decide
      · split
        · decide
        · split <;> decide
    by_cases h : (σ.2.1 3 3).toInt ≤ 1
    · refine sg_wa1a_run G hct hM hl hl1 (by have := Int32.le_toInt (σ.2.1 3 3); omega) ?_
      intro r σ' c1 hM'
      exact kk r σ' hM' (by rw [hx]; omega)
    · refine sg_wa1b_run G hct hM hl hl1 (by have := Int32.toInt_lt (σ.2.1 3 3); omega) ?_
      intro r σ' c1 hM'
      exact kk r σ' hM' (by rw [hx]; omega)
end CW
/-! the reader of the class: which word -/
def sr_cl : List Nat := [111, 114]
def sr_ch (k : Nat) : Nat := sr_cl.getD k 0
theorem sr_chT : ∀ k, k < 2 → (st_tx 19072 k &&& 255).toInt = ((sr_ch k : Nat) : Int) ∧ (sr_ch k = 32 ∨ (97 ≤ sr_ch k ∧ sr_ch k ≤ 122)) := by decide +kernel
/-- blanks ahead of k -/
def sr_nb (k : Nat) : Nat := (sr_cl.take k).countP (fun c => c == 32)
theorem sr_nbT : ∀ k, k < 2 → sr_nb (k + 1) = (if sr_ch k = 32 then sr_nb k + 1 else sr_nb k) ∧ sr_nb k ≤ 9 ∧ (sr_ch k = 32 → sr_nb k ≤ 8) := by decide +kernel
/-- the search, as the class does it: a the token's place, z its size -/
def sr_wo (b : Nat → Nat) (a z : Nat) : Nat → Nat → Nat → Nat → Bool → Int
  | 0, _, i, m, s => if s = true ∧ m = z then (i : Int) else -1
  | f + 1, k, i, m, s => if sr_ch k = 32 then (if s = true ∧ m = z then (i : Int) else sr_wo b a z f (k + 1) (i + 1) 0 true) else sr_wo b a z f (k + 1) i (m + 1) (s && (decide (m < z) && b (a + m) == sr_ch k))
def sr_mt (b : Nat → Nat) (a z : Nat) : Nat → Nat → Nat → Bool
  | 0, _, _ => true
  | j + 1, k, m => (decide (m < z) && b (a + m) == sr_ch k) && sr_mt b a z j (k + 1) (m + 1)
theorem sr_wo_l {b : Nat → Nat} {a z : Nat} : ∀ (j f k i m : Nat) (s : Bool), (∀ t, t < j → sr_ch (k + t) ≠ 32) → sr_wo b a z (j + f) k i m s = sr_wo b a z f (k + j) i (m + j) (s && sr_mt b a z j k m)
  | 0, f, k, i, m, s, _ => by
    show sr_wo b a z (0 + f) k i m s = sr_wo b a z f k i m (s && true)
    rw [Nat.zero_add, Bool.and_true]
  | j + 1, f, k, i, m, s, h => by
    rw [show j + 1 + f = (j + f) + 1 by omega]
    show (if sr_ch k = 32 then (if s = true ∧ m = z then (i : Int) else sr_wo b a z (j + f) (k + 1) (i + 1) 0 true) else sr_wo b a z (j + f) (k + 1) i (m + 1) (s && (decide (m < z) && b (a + m) == sr_ch k))) = _
    rw [if_neg (show sr_ch k ≠ 32 from h 0 (by omega)), sr_wo_l j f (k + 1) i (m + 1) _ (fun t ht => by have := h (t + 1) (by omega); rw [show k + (t + 1) = k + 1 + t by omega] at this; exact this)]
    show sr_wo b a z f (k + 1 + j) i (m + 1 + j) ((s && (decide (m < z) && b (a + m) == sr_ch k)) && sr_mt b a z j (k + 1) (m + 1)) = sr_wo b a z f (k + (j + 1)) i (m + (j + 1)) (s && ((decide (m < z) && b (a + m) == sr_ch k) && sr_mt b a z j (k + 1) (m + 1)))
    rw [Bool.and_assoc, show k + 1 + j = k + (j + 1) by omega, show m + 1 + j = m + (j + 1) by omega]
theorem sr_mt_eq {b c : Nat → Nat} {a z : Nat} : ∀ (j k m : Nat), m + j = z → (∀ t, t < j → sr_ch (k + t) = c (m + t)) → sr_mt b a z j k m = rd_eqs b c j (a + m) m
  | 0, _, _, _, _ => rfl
  | j + 1, k, m, h1, h2 => by
    show ((decide (m < z) && b (a + m) == sr_ch k) && sr_mt b a z j (k + 1) (m + 1)) = (b (a + m) == c m && rd_eqs b c j (a + m + 1) (m + 1))
    have h0 := h2 0 (by omega)
    rw [Nat.add_zero, Nat.add_zero] at h0
    rw [sr_mt_eq j (k + 1) (m + 1) (by omega) (fun t ht => by have := h2 (t + 1) (by omega); rw [show k + (t + 1) = k + 1 + t by omega, show m + (t + 1) = m + 1 + t by omega] at this; exact this), decide_eq_true (show m < z by omega), Bool.true_and, h0]
    rfl
theorem sr_cond {b : Nat → Nat} {t : rd_K} (t1 : t.1 = 1) {w L k : Nat} (hL : (sn_ws w).length = L) (hc : ∀ i, i < L → sr_ch (k + i) = sn_wl w i) : ((true && sr_mt b t.2.1 t.2.2.1 L k 0) = true ∧ 0 + L = t.2.2.1) ↔ sn_isk b w t = true := by
  unfold sn_isk rd_isw
  rw [Bool.true_and, Bool.and_eq_true, Bool.and_eq_true, beq_iff_eq, beq_iff_eq, hL]
  constructor
  · intro ⟨h1, h2⟩
    refine ⟨t1, by omega, ?_⟩
    rw [sr_mt_eq (c := sn_wl w) L k 0 h2 (fun i hi => by rw [Nat.zero_add]; exact hc i hi)] at h1
    exact h1
  · intro ⟨_, h2, h3⟩
    refine ⟨?_, by omega⟩
    rw [sr_mt_eq (c := sn_wl w) L k 0 (by omega) (fun i hi => by rw [Nat.zero_add]; exact hc i hi)]
    exact h3
theorem sr_word {b : Nat → Nat} {t : rd_K} (t1 : t.1 = 1) {w L k f i : Nat} (hL : (sn_ws w).length = L) (hc : ∀ i, i < L → sr_ch (k + i) = sn_wl w i) (hn : ∀ i, i < L → sr_ch (k + i) ≠ 32) (hb : sr_ch (k + L) = 32) : sr_wo b t.2.1 t.2.2.1 (L + (f + 1)) k i 0 true = if sn_isk b w t = true then (i : Int) else sr_wo b t.2.1 t.2.2.1 f (k + L + 1) (i + 1) 0 true := by
  rw [sr_wo_l L (f + 1) k i 0 true hn]
  show (if sr_ch (k + L) = 32 then (if (true && sr_mt b t.2.1 t.2.2.1 L k 0) = true ∧ 0 + L = t.2.2.1 then (i : Int) else sr_wo b t.2.1 t.2.2.1 f (k + L + 1) (i + 1) 0 true) else _) = _
  rw [if_pos hb]
  by_cases h : sn_isk b w t = true
  · rw [if_pos h, if_pos ((sr_cond t1 hL hc).mpr h)]
  · rw [if_neg h, if_neg (fun q => h ((sr_cond t1 hL hc).mp q))]
theorem sr_word9 {b : Nat → Nat} {t : rd_K} (t1 : t.1 = 1) {w L k i : Nat} (hL : (sn_ws w).length = L) (hc : ∀ i, i < L → sr_ch (k + i) = sn_wl w i) (hn : ∀ i, i < L → sr_ch (k + i) ≠ 32) : sr_wo b t.2.1 t.2.2.1 (L + 0) k i 0 true = if sn_isk b w t = true then (i : Int) else -1 := by
  rw [sr_wo_l L 0 k i 0 true hn]
  show (if (true && sr_mt b t.2.1 t.2.2.1 L k 0) = true ∧ 0 + L = t.2.2.1 then (i : Int) else -1) = _
  by_cases h : sn_isk b w t = true
  · rw [if_pos h, if_pos ((sr_cond t1 hL hc).mpr h)]
  · rw [if_neg h, if_neg (fun q => h ((sr_cond t1 hL hc).mp q))]
/-- which of the words -/
def sr_wh (b : Nat → Nat) (t : rd_K) : Int := (if sn_isk b 9 t = true then 0 else -1)
theorem sr_wo_all {b : Nat → Nat} {t : rd_K} (t1 : t.1 = 1) : sr_wo b t.2.1 t.2.2.1 2 0 0 0 true = sr_wh b t := by
  have e0 := sr_word9 (b := b) t1 (w := 9) (L := 2) (k := 0) (i := 0) rfl (by decide +kernel) (by decide +kernel)
  refine e0.trans ?_
  unfold sr_wh
  by_cases h0 : sn_isk b 9 t = true
  · rw [if_pos h0, if_pos h0]; rfl
  · rw [if_neg h0, if_neg h0]
theorem sr_wh_no {b : Nat → Nat} {t : rd_K} (t1 : t.1 ≠ 1) : sr_wh b t = -1 := by
  have h : ∀ k, ¬ sn_isk b k t = true := by
    intro k q
    unfold sn_isk rd_isw at q
    rw [Bool.and_eq_true, beq_iff_eq] at q
    exact t1 q.1
  unfold sr_wh
  rw [if_neg (h 9)]
section CW
variable {g : am_C} {L : Nat} {xs : Nat → Int32}
theorem sr_wL (G : sx_G0 g L xs z9 hd_C ex_mt) (hct : rc_ct g) {σe : am_S} {b : Nat → Nat} {n most a z : Nat} (Xe : rc_X σe b n most) (haz : a + z ≤ n) {x : Int} {post : Option (Option Value) → am_S → Prop} (kk : ∀ (r : Int32) (σ' : am_S), sx_M z9 hd_C σe 0 0 σ' → r.toInt = x → post (some (some (.int r))) σ') : ∀ (f k m : Nat) (s : Bool) (σ : am_S) (lw : List (Nat × Value)) (m2 m3 m4 m5 n0 : Int32), k + f = 2 → m ≤ k → x = sr_wo b a z f k (sr_nb k) m s → sx_M z9 hd_C σe 0 0 σ → (σ.2.1 3 4).toInt = a → (σ.2.1 3 5).toInt = z → (0, Value.ref 3) ∈ lw → (1, Value.retAddr 19072) ∈ lw → (2, Value.int m2) ∈ lw → (3, Value.int m3) ∈ lw → (4, Value.int m4) ∈ lw → (5, Value.int m5) ∈ lw → m2.toInt = sr_nb k → m3.toInt = m → m4.toInt = (if s = true then 1 else 0) → m5.toInt = k → n0.toInt = k → am_K g 15 tX6_wordOf.1 0 0 23 lw [.retAddr 19072, .int n0] σ post := by
  intro f
  induction f with
  | zero =>
    intro k m s σ lw m2 m3 m4 m5 n0 hk hmk hx hM ha hz h0 h1 h2 h3 h4 h5 e2 e3 e4 e5 en
    have n9 := Xe.2.2.2.1
    have ek : k = 2 := by omega
    subst ek
    have nb : sr_nb 2 = 0 := by decide +kernel
    rw [nb] at hx e2
    have lN : (Int32.ofNat 2).toInt = 2 := by decide
    refine G.2.2.2.2.2.2.2.1 15 tX6_wordOf.1 0 0 23 lw [.int n0] σ post 68 19072 2 (by decide) (rd_ml0 rd_k_X6_wordOf_23) rd_d_X6_wordOf_23 (by decide) (Nat.le_of_ble_eq_true rfl) ?_
    have hx2 : x = if s = true ∧ m = z then ((0 : Nat) : Int) else -1 := hx
    cases s with
    | false =>
      have e4' : m4.toInt = 0 := e4
      refine sg_wr2b_run G hct (sx_M_self hM) h0 h1 h2 (by omega) h3 (by omega) h4 (by omega) h5 (by omega) (by omega) (by omega) ?_
      intro r σ' c1 hM'
      exact kk r σ' (hd_tr hM hM' rfl) (by rw [hx2, if_neg (fun q => by cases q.1)]; omega)
    | true =>
      have e4' : m4.toInt = 1 := e4
      rcases Nat.lt_trichotomy m z with h | h | h
      · refine sg_wr2c_run G hct (sx_M_self hM) h0 h1 h2 (by omega) h3 (by omega) h4 (by omega) h5 (by omega) (by omega) (by omega) (by omega) ?_
        intro r σ' c1 hM'
        exact kk r σ' (hd_tr hM hM' rfl) (by rw [hx2, if_neg (by omega)]; omega)
      · refine sg_wr2e_run G hct (sx_M_self hM) h0 h1 h2 (by omega) h3 (by omega) h4 (by omega) h5 (by omega) (by omega) (by omega) (by omega) ?_
        intro r σ' c1 hM'
        exact kk r σ' (hd_tr hM hM' rfl) (by rw [hx2, if_pos ⟨rfl, h⟩]; omega)
      · refine sg_wr2d_run G hct (sx_M_self hM) h0 h1 h2 (by omega) h3 (by omega) h4 (by omega) h5 (by omega) (by omega) (by omega) (by omega) ?_
        intro r σ' c1 hM'
        exact kk r σ' (hd_tr hM hM' rfl) (by rw [hx2, if_neg (by omega)]; omega)
  | succ f ih =>
    intro k m s σ lw m2 m3 m4 m5 n0 hk hmk hx hM ha hz h0 h1 h2 h3 h4 h5 e2 e3 e4 e5 en
    have n9 := Xe.2.2.2.1
    have hkN : k < 2 := by omega
    have lN : (Int32.ofNat 2).toInt = 2 := by decide
    obtain ⟨ch1, ch2⟩ := sr_chT k hkN
    obtain ⟨nb1, nb2, nb3⟩ := sr_nbT k hkN
    have hx2 : x = if sr_ch k = 32 then (if s = true ∧ m = z then ((sr_nb k : Nat) : Int) else sr_wo b a z f (k + 1) (sr_nb k + 1) 0 true) else sr_wo b a z f (k + 1) (sr_nb k) (m + 1) (s && (decide (m < z) && b (a + m) == sr_ch k)) := hx
    have b4 : 0 ≤ m4.toInt ∧ m4.toInt ≤ 1 := by rw [e4]; split <;> omega
    refine G.2.2.2.2.2.2.2.1 15 tX6_wordOf.1 0 0 23 lw [.int n0] σ post 68 19072 2 (by decide) (rd_ml0 rd_k_X6_wordOf_23) rd_d_X6_wordOf_23 (by decide) (Nat.le_of_ble_eq_true rfl) ?_
    refine sg_wr2a_run G hct (sx_M_self hM) h0 h1 h2 (by omega) h3 (by omega) h4 b4 h5 (by omega) (by omega) (by omega) (by omega) ?_
    intro lw1 y2 y3 y4 y5 c0 σ1 p0 p1 p2 p3 p4 p5 t0 t1 t2 t3 t4 hM1
    have H1 : sx_M z9 hd_C σe 0 0 σ1 := hd_tr hM hM1 rfl
    have a1 : (σ1.2.1 3 4).toInt = a := by rw [hM1.2.2.2.2.1 3 4 _ _ 24 rfl (sx_bit0 _)]; exact ha
    have z1 : (σ1.2.1 3 5).toInt = z := by rw [hM1.2.2.2.2.1 3 5 _ _ 25 rfl (sx_bit0 _)]; exact hz
    have en0 : c0.toInt = k := by omega
    refine G.2.2.2.2.2.2.2.2 15 tX6_wordOf.1 0 0 32 lw1 [] σ1 post 73 19072 2 c0 (by decide) (rd_ml1 (w := 0) rd_k_X6_wordOf_32) rd_d_X6_wordOf_32 (by decide) (by decide) (hd_in en0 hkN) ?_
    rw [hd_clamp en0]
    have keep : ∀ {σ' : am_S}, sx_M z9 hd_C σ1 0 0 σ' → sx_M z9 hd_C σe 0 0 σ' ∧ (σ'.2.1 3 4).toInt = a ∧ (σ'.2.1 3 5).toInt = z := by
      intro σ' h
      refine ⟨hd_tr H1 h rfl, ?_, ?_⟩
      · rw [h.2.2.2.2.1 3 4 _ _ 24 rfl (sx_bit0 _)]; exact a1
      · rw [h.2.2.2.2.1 3 5 _ _ 25 rfl (sx_bit0 _)]; exact z1
    by_cases hc : sr_ch k = 32
    · rw [if_pos hc] at hx2 nb1
      have nb3' := nb3 hc
      have go : ∀ (lw3 : List (Nat × Value)) (w2 w3 w4 w5 c3 : Int32) (σ3 : am_S), ¬ (s = true ∧ m = z) → (0, Value.ref 3) ∈ lw3 → (1, Value.retAddr 19072) ∈ lw3 → (2, Value.int w2) ∈ lw3 → (3, Value.int w3) ∈ lw3 → (4, Value.int w4) ∈ lw3 → (5, Value.int w5) ∈ lw3 → w5.toInt = ((k + 1 : Nat) : Int) → c3.toInt = ((k + 1 : Nat) : Int) → w2.toInt = ((sr_nb k + 1 : Nat) : Int) → w3.toInt = 0 → w4.toInt = 1 → sx_M z9 hd_C σ1 0 0 σ3 → am_K g 15 tX6_wordOf.1 0 0 23 lw3 [.retAddr 19072, .int c3] σ3 post := by
        intro lw3 w2 w3 w4 w5 c3 σ3 hno q0 q1 q2 q3 q4 q5 u5 u0 u2 u3 u4 hM3
        rw [if_neg hno] at hx2
        obtain ⟨k1, k2, k3⟩ := keep hM3
        exact ih (k + 1) 0 true σ3 lw3 w2 w3 w4 w5 c3 (by omega) (by omega) (by rw [hx2, nb1]) k1 k2 k3 q0 q1 q2 q3 q4 q5 (by rw [nb1]; exact u2) u3 u4 u5 u0
      cases s with
      | false =>
        have e4' : m4.toInt = 0 := e4
        refine sg_wr3d_run G hct (sx_M_self hM1) p0 p1 p2 (by omega) p3 (by omega) p4 (by omega) p5 (by omega) (by omega) ?_
        intro lw3 w2 w3 w4 w5 c3 σ3 q0 q1 q2 q3 q4 q5 u1 u2 u3 u4 u5 hM3
        exact go lw3 w2 w3 w4 w5 c3 σ3 (fun q => by cases q.1) q0 q1 q2 q3 q4 q5 (by omega) (by omega) (by omega) (by omega) (by omega) hM3
      | true =>
        have e4' : m4.toInt = 1 := e4
        rcases Nat.lt_trichotomy m z with h | h | h
        · refine sg_wr3b_run G hct (sx_M_self hM1) p0 p1 p2 (by omega) p3 (by omega) p4 (by omega) p5 (by omega) (by omega) (by omega) ?_
          intro lw3 w2 w3 w4 w5 c3 σ3 q0 q1 q2 q3 q4 q5 u1 u2 u3 u4 u5 hM3
          exact go lw3 w2 w3 w4 w5 c3 σ3 (by omega) q0 q1 q2 q3 q4 q5 (by omega) (by omega) (by omega) (by omega) (by omega) hM3
        · refine sg_wr3a_run G hct (sx_M_self hM1) p0 p1 p2 (by omega) p3 (by omega) p4 (by omega) p5 (by omega) (by omega) (by omega) ?_
          intro r σ' c1 hM'
          exact kk r σ' (keep hM').1 (by rw [hx2, if_pos ⟨rfl, h⟩]; omega)
        · refine sg_wr3c_run G hct (sx_M_self hM1) p0 p1 p2 (by omega) p3 (by omega) p4 (by omega) p5 (by omega) (by omega) (by omega) ?_
          intro lw3 w2 w3 w4 w5 c3 σ3 q0 q1 q2 q3 q4 q5 u1 u2 u3 u4 u5 hM3
          exact go lw3 w2 w3 w4 w5 c3 σ3 (by omega) q0 q1 q2 q3 q4 q5 (by omega) (by omega) (by omega) (by omega) (by omega) hM3
    · rw [if_neg hc] at hx2 nb1
      have hlet : 97 ≤ sr_ch k ∧ sr_ch k ≤ 122 := by omega
      have go : ∀ (lw3 : List (Nat × Value)) (w2 w3 w4 w5 c3 : Int32) (σ3 : am_S), (0, Value.ref 3) ∈ lw3 → (1, Value.retAddr 19072) ∈ lw3 → (2, Value.int w2) ∈ lw3 → (3, Value.int w3) ∈ lw3 → (4, Value.int w4) ∈ lw3 → (5, Value.int w5) ∈ lw3 → w5.toInt = ((k + 1 : Nat) : Int) → c3.toInt = ((k + 1 : Nat) : Int) → w2.toInt = ((sr_nb k : Nat) : Int) → w3.toInt = ((m + 1 : Nat) : Int) → w4.toInt = (if (s && (decide (m < z) && b (a + m) == sr_ch k)) = true then 1 else 0) → sx_M z9 hd_C σ1 0 0 σ3 → am_K g 15 tX6_wordOf.1 0 0 23 lw3 [.retAddr 19072, .int c3] σ3 post := by
        intro lw3 w2 w3 w4 w5 c3 σ3 q0 q1 q2 q3 q4 q5 u5 u0 u2 u3 u4 hM3
        obtain ⟨k1, k2, k3⟩ := keep hM3
        exact ih (k + 1) (m + 1) _ σ3 lw3 w2 w3 w4 w5 c3 (by omega) (by omega) (by rw [hx2, nb1]) k1 k2 k3 q0 q1 q2 q3 q4 q5 (by rw [nb1]; exact u2) u3 u4 u5 u0
      cases s with
      | false =>
        have e4' : m4.toInt = 0 := e4
        refine sg_wr3e_run G hct (sx_M_self hM1) p0 p1 p2 (by omega) p3 (by omega) p4 (by omega) p5 (by omega) (by omega) ?_
        intro lw3 w2 w3 w4 w5 c3 σ3 q0 q1 q2 q3 q4 q5 u1 u2 u3 u4 u5 hM3
        exact go lw3 w2 w3 w4 w5 c3 σ3 q0 q1 q2 q3 q4 q5 (by omega) (by omega) (by omega) (by omega) (by rw [Bool.false_and, if_neg Bool.noConfusion]; omega) hM3
      | true =>
        have e4' : m4.toInt = 1 := e4
        by_cases h : m < z
        · refine sg_wr3g_run G hct (sx_M_self hM1) p0 p1 p2 (by omega) p3 (by omega) p4 (by omega) p5 (by omega) (by omega) (by omega) (by omega) ?_
          intro lw3 w2 w3 w4 w5 w6 c3 σ3 q0 q1 q2 q3 q4 q5 q6 u1 u2 u3 u4 u5 u6 hM3
          obtain ⟨k1, k2, k3⟩ := keep hM3
          have X3 := rc_Xm Xe k1 (sx_bit0 _) (sx_bit0 _) (sx_bit0 _)
          refine rc_bac G hct (d := 15) (by decide) (sx_M_self hM3) X3 (p := a + m) (by omega) (by omega) rfl rd_d_X6_wordOf_67 rd_k_X6_wordOf_67 (by decide) ?_
          intro r σ4 hM4 hr
          have hb := rc_bX X3 (show a + m < n by omega)
          have hM14 : sx_M z9 hd_C σ1 0 0 σ4 := hd_tr hM3 hM4 rfl
          have ev : ∀ v : Bool, (b (a + m) == sr_ch k) = v → (true && (decide (m < z) && b (a + m) == sr_ch k)) = v := fun v hv => by rw [hv, decide_eq_true h, Bool.true_and, Bool.true_and]
          rcases Nat.lt_trichotomy (b (a + m)) (sr_ch k) with g1 | g1 | g1
          · refine sg_wr4a_run G hct (sx_M_self hM4) q0 q1 q2 (by omega) q3 (by omega) q4 (by omega) q5 (by omega) q6 (by omega) ?_
            intro lw5 v2 v3 v4 v5 c5 σ5 r0 r1 r2 r3 r4 r5 u7 u8 u9 ua ub hM5
            exact go lw5 v2 v3 v4 v5 c5 σ5 r0 r1 r2 r3 r4 r5 (by omega) (by omega) (by omega) (by omega) (by rw [ev false (by rw [beq_eq_false_iff_ne]; omega), if_neg Bool.noConfusion]; omega) (hd_tr hM14 hM5 rfl)
          · refine sg_wr4b_run G hct (sx_M_self hM4) q0 q1 q2 (by omega) q3 (by omega) q4 (by omega) q5 (by omega) q6 (by omega) ?_
            intro lw5 v2 v3 v4 v5 c5 σ5 r0 r1 r2 r3 r4 r5 u7 u8 u9 ua ub hM5
            exact go lw5 v2 v3 v4 v5 c5 σ5 r0 r1 r2 r3 r4 r5 (by omega) (by omega) (by omega) (by omega) (by rw [ev true (by rw [beq_iff_eq]; exact g1), if_pos rfl]; omega) (hd_tr hM14 hM5 rfl)
          · refine sg_wr4c_run G hct (sx_M_self hM4) q0 q1 q2 (by omega) q3 (by omega) q4 (by omega) q5 (by omega) q6 (by omega) ?_
            intro lw5 v2 v3 v4 v5 c5 σ5 r0 r1 r2 r3 r4 r5 u7 u8 u9 ua ub hM5
            exact go lw5 v2 v3 v4 v5 c5 σ5 r0 r1 r2 r3 r4 r5 (by omega) (by omega) (by omega) (by omega) (by rw [ev false (by rw [beq_eq_false_iff_ne]; omega), if_neg Bool.noConfusion]; omega) (hd_tr hM14 hM5 rfl)
        · refine sg_wr3f_run G hct (sx_M_self hM1) p0 p1 p2 (by omega) p3 (by omega) p4 (by omega) p5 (by omega) (by omega) (by omega) ?_
          intro lw3 w2 w3 w4 w5 c3 σ3 q0 q1 q2 q3 q4 q5 u1 u2 u3 u4 u5 hM3
          exact go lw3 w2 w3 w4 w5 c3 σ3 q0 q1 q2 q3 q4 q5 (by omega) (by omega) (by omega) (by omega) (by rw [decide_eq_false h, Bool.false_and, Bool.and_false, if_neg Bool.noConfusion]; omega) hM3
/-- wordOf -/
theorem sr_wordOf (G : sx_G0 g L xs z9 hd_C ex_mt) (hct : rc_ct g) {σ : am_S} (hM : sx_M z9 hd_C σ 0 0 σ) {b : Nat → Nat} {n most : Nat} {t : rd_K} (X : rc_X σ b n most) (N : rc_N σ t) (hw : t.1 = 1 → t.2.1 + t.2.2.1 ≤ n) {lw : List (Nat × Value)} (hl : (0, Value.ref 3) ∈ lw) (hl1 : (1, Value.retAddr 19072) ∈ lw) {post : Option (Option Value) → am_S → Prop} (kk : ∀ (r : Int32) (σ' : am_S), sx_M z9 hd_C σ 0 0 σ' → r.toInt = sr_wh b t → post (some (some (.int r))) σ') : am_K g 15 tX6_wordOf.1 0 0 0 lw [] σ post := by
  have n1 := N.1
  have k0 : rc_kd 0 = 0 := rfl
  by_cases t1 : t.1 = 1
  · rw [t1] at n1
    have n1' : (σ.2.1 3 3).toInt = 2 := n1
    refine sg_wr1c_run G hct hM hl hl1 (by omega) ?_
    intro lw1 y2 y3 y4 y5 c0 σ1 p0 p1 p2 p3 p4 p5 u1 u2 u3 u4 u5 hM1
    have nb0 : sr_nb 0 = 0 := rfl
    refine sr_wL G hct X (a := t.2.1) (z := t.2.2.1) (hw t1) (x := sr_wh b t) kk 2 0 0 true σ1 lw1 y2 y3 y4 y5 c0 rfl (Nat.le_refl _) (sr_wo_all t1).symm hM1 ?_ ?_ p0 p1 p2 p3 p4 p5 (by rw [nb0]; omega) (by omega) (by rw [if_pos rfl]; omega) (by omega) (by omega)
    · rw [hM1.2.2.2.2.1 3 4 _ _ 24 rfl (sx_bit0 _)]; exact N.2.1
    · rw [hM1.2.2.2.2.1 3 5 _ _ 25 rfl (sx_bit0 _)]; exact N.2.2.2.1 t1
  · have hx := sr_wh_no (b := b) t1
    have hk : rc_kd t.1 ≠ 2 := by
      unfold rc_kd
      split
      · decide
      · split
        · decide
        · split <;> decide
    by_cases h : (σ.2.1 3 3).toInt ≤ 1
    · refine sg_wr1a_run G hct hM hl hl1 (by have := Int32.le_toInt (σ.2.1 3 3); omega) ?_
      intro r σ' c1 hM'
      exact kk r σ' hM' (by rw [hx]; omega)
    · refine sg_wr1b_run G hct hM hl hl1 (by have := Int32.toInt_lt (σ.2.1 3 3); omega) ?_
      intro r σ' c1 hM'
      exact kk r σ' hM' (by rw [hx]; omega)
end CW
