/-! the law's entry, with its texts -/
theorem st_one {s : State} {b : Nat} {own tx : String} {i n a : Nat} {by9 : Nat → Int32} (hR : vk_R own i tx a s) (hn : n < 2 ^ 31) (hex : (Cond.exactly (Term.string own i) "java/lang/String").before #[Value.ref b] s = true) (hco : (Cond.eq (.field (Term.string own i) "java/lang/String" "coder" "B") (.int 0)).before #[Value.ref b] s = true)
    (har : (Cond.arrayOf (.field (Term.string own i) "java/lang/String" "value" "[B") .byte).before #[Value.ref b] s = true) (hle : (Cond.eq (.length (.field (Term.string own i) "java/lang/String" "value" "[B")) (.int (Int32.ofNat n))).before #[Value.ref b] s = true)
    (hel : ∀ j : Nat, j < n → (Cond.eq (.elem (.field (Term.string own i) "java/lang/String" "value" "[B") (.int (Int32.ofNat j))) (.int (by9 j))).before #[Value.ref b] s = true) :
    ∃ v : Nat, va_O "java/lang/String" a (fun q => s.heap.size ≤ q) s s.heap ∧ va_OF "java/lang/String" "coder" "B" (.int 0) a (fun q => s.heap.size ≤ q) s s.heap ∧ va_OF "java/lang/String" "value" "[B" (.ref v) a (fun q => s.heap.size ≤ q) s s.heap ∧ va_T .byte v n (fun j => .int (by9 j)) (fun q => s.heap.size ≤ q) s s.heap := by
  have hA : ∀ a : Nat, a < s.heap.size → ¬ (fun q => s.heap.size ≤ q) a := fun a ha => Nat.not_le.mpr ha
  obtain ⟨a', c, cA, kA, q1, q2, q3, q4, q5, q6, -⟩ := Cond.exactly_spec (args := #[Value.ref b]) (first := s) (o := none) (s := s) (idx := []) (t := Term.string own i) (cls := "java/lang/String") hex
  obtain ⟨t, ht, hT⟩ := va_Tof (f := fun j => .int (by9 j)) (A := fun q => s.heap.size ≤ q) hn har (va_eqt hle) (fun j hj => va_eqt (hel j hj)) hA
  have ea : a' = a := by
    have h2 : (Term.string own i).eval #[Value.ref b] s none [] s = some (.ref a) := hR.2
    rw [q1] at h2
    cases h2
    rfl
  subst ea
  exact ⟨t, ⟨cA, q3, q5, by rw [q6]; exact q2, hA _ (Array.getElem?_eq_some_iff.mp q3).1⟩, vk_OFof q1 (va_eqt hco) hA, vk_OFof q1 ht hA, hT⟩
theorem st_m0 : ∀ j : Nat, j < 62 → Cond.eq (.elem (.field (Term.string "WindowSale$Station" 77) "java/lang/String" "value" "[B") (.int (Int32.ofNat j))) (.int (st_b0 j)) ∈ flatC (Jvm.Cond.and given_1 narrow_1) := by decide +kernel
theorem st_r0 : Cond.stringRef "WindowSale$Station" 77 "walk basket honest shy whistle again runner cost window stands" ∈ lw_tbl := ex_mem_ok (p := 196667) (by decide +kernel)
theorem st_m1 : ∀ j : Nat, j < 33 → Cond.eq (.elem (.field (Term.string "WindowSale$Log" 36) "java/lang/String" "value" "[B") (.int (Int32.ofNat j))) (.int (st_b1 j)) ∈ flatC (Jvm.Cond.and given_1 narrow_1) := by decide +kernel
theorem st_r1 : Cond.stringRef "WindowSale$Log" 36 "train at fruit coin up down waits" ∈ lw_tbl := ex_mem_ok (p := 327868) (by decide +kernel)
theorem st_m2 : ∀ j : Nat, j < 45 → Cond.eq (.elem (.field (Term.string "WindowSale$Sentence" 68) "java/lang/String" "value" "[B") (.int (Int32.ofNat j))) (.int (st_b2 j)) ∈ flatC (Jvm.Cond.and given_1 narrow_1) := by decide +kernel
theorem st_r2 : Cond.stringRef "WindowSale$Sentence" 68 "not open fair ahead price takes bought number" ∈ lw_tbl := ex_mem_ok (p := 327918) (by decide +kernel)
theorem st_m3 : ∀ j : Nat, j < 3 → Cond.eq (.elem (.field (Term.string "WindowSale$Sentence" 49) "java/lang/String" "value" "[B") (.int (Int32.ofNat j))) (.int (st_b3 j)) ∈ flatC (Jvm.Cond.and given_1 narrow_1) := by decide +kernel
theorem st_r3 : Cond.stringRef "WindowSale$Sentence" 49 "and" ∈ lw_tbl := ex_mem_ok (p := 393233) (by decide +kernel)
theorem st_m4 : ∀ j : Nat, j < 2 → Cond.eq (.elem (.field (Term.string "WindowSale$Sentence" 62) "java/lang/String" "value" "[B") (.int (Int32.ofNat j))) (.int (st_b4 j)) ∈ flatC (Jvm.Cond.and given_1 narrow_1) := by decide +kernel
theorem st_r4 : Cond.stringRef "WindowSale$Sentence" 62 "or" ∈ lw_tbl := ex_mem_ok (p := 393234) (by decide +kernel)
theorem st_start {s : State} (l : Launch) (hlf : l.flags = flags0) {b L : Nat} {xs : Nat → Int32} (hL : L < 2 ^ 31) (hts : ∀ w ∈ lw_tbl, w.before #[Value.ref b] s = true) (hX : va_X b L xs s s.heap) (hgv : (Jvm.Cond.and given_1 narrow_1).before #[Value.ref b] s = true) :
    ∃ g : am_C, g.1 = l ∧ g.2.1 = s ∧ g.2.2.2.2.2.1 0 = b ∧ g.2.2.2.2.2.2 = am_X L xs ∧ am_G g ∧ st_G g := by
  have hs := flat_of_before _ hgv
  obtain ⟨g, rfl, rfl, e3, e4, G⟩ := am_start l hlf hL hts hX hgv
  have hA : ∀ a : Nat, a < g.2.1.heap.size → ¬ (fun q => g.2.1.heap.size ≤ q) a := fun a ha => Nat.not_le.mpr ha
  obtain ⟨v0, a0, b0, c0, d0⟩ := st_one (b := b) (n := 62) (by9 := st_b0) (G.2.2.2.2.1 _ _ _ st_r0) (by decide) (hs _ (by decide +kernel)) (hs _ (by decide +kernel)) (hs _ (by decide +kernel)) (hs _ (by decide +kernel)) (fun j hj => hs _ (st_m0 j hj))
  obtain ⟨v1, a1, b1, c1, d1⟩ := st_one (b := b) (n := 33) (by9 := st_b1) (G.2.2.2.2.1 _ _ _ st_r1) (by decide) (hs _ (by decide +kernel)) (hs _ (by decide +kernel)) (hs _ (by decide +kernel)) (hs _ (by decide +kernel)) (fun j hj => hs _ (st_m1 j hj))
  obtain ⟨v2, a2, b2, c2, d2⟩ := st_one (b := b) (n := 45) (by9 := st_b2) (G.2.2.2.2.1 _ _ _ st_r2) (by decide) (hs _ (by decide +kernel)) (hs _ (by decide +kernel)) (hs _ (by decide +kernel)) (hs _ (by decide +kernel)) (fun j hj => hs _ (st_m2 j hj))
  obtain ⟨v3, a3, b3, c3, d3⟩ := st_one (b := b) (n := 3) (by9 := st_b3) (G.2.2.2.2.1 _ _ _ st_r3) (by decide) (hs _ (by decide +kernel)) (hs _ (by decide +kernel)) (hs _ (by decide +kernel)) (hs _ (by decide +kernel)) (fun j hj => hs _ (st_m3 j hj))
  obtain ⟨v4, a4, b4, c4, d4⟩ := st_one (b := b) (n := 2) (by9 := st_b4) (G.2.2.2.2.1 _ _ _ st_r4) (by decide) (hs _ (by decide +kernel)) (hs _ (by decide +kernel)) (hs _ (by decide +kernel)) (hs _ (by decide +kernel)) (fun j hj => hs _ (st_m4 j hj))
  have hZc : va_Z "java/lang/String" "COMPACT_STRINGS" "Z" (.int 1) (fun q => g.2.1.heap.size ≤ q) g.2.1 g.2.1.heap := va_Zof (args := #[Value.ref b]) (hts _ (by decide +kernel)) (hts _ (by decide +kernel)) (va_eqt (hs (Cond.eq (.static "java/lang/String" "COMPACT_STRINGS" "Z") (.int 1)) (by decide +kernel))) hA
  have hZq : va_Zq "jdk/internal/util/Preconditions" "SIOOBE_FORMATTER" "Ljava/util/function/BiFunction;" (fun q => g.2.1.heap.size ≤ q) g.2.1 g.2.1.heap := va_Zqof (args := #[Value.ref b]) (hts _ (by decide +kernel)) (hts _ (by decide +kernel)) (hs _ (by decide +kernel)) hA
  obtain ⟨tF, w, hw, hwv⟩ : ∃ (tF : Nat) (w : Value), (w = .null ∨ w = .retAddr 499999) ∧ va_Z "jdk/internal/util/Preconditions" "SIOOBE_FORMATTER" "Ljava/util/function/BiFunction;" (match w with | .retAddr _ => .ref tF | _ => .null) (fun q => g.2.1.heap.size ≤ q) g.2.1 g.2.1.heap := by
    rcases hZq with h | ⟨t, h⟩
    · exact ⟨0, .null, Or.inl rfl, h⟩
    · exact ⟨t, .retAddr 499999, Or.inr rfl, h⟩
  obtain ⟨xa, x1, x2, x3, y0, y1, y2, y3, y4⟩ : ∃ xa : Nat → Nat, (∀ k, k < 499999 → xa k = g.2.2.2.2.2.1 k) ∧ xa 499999 = tF ∧ True ∧ xa 518087 = v0 ∧ xa 514046 = v1 ∧ xa 519078 = v2 ∧ xa 519059 = v3 ∧ xa 519072 = v4 := by
    refine ⟨fun k => if k = 499999 then tF else if k = 518087 then v0 else if k = 514046 then v1 else if k = 519078 then v2 else if k = 519059 then v3 else if k = 519072 then v4 else g.2.2.2.2.2.1 k, fun k hk => ?_, rfl, trivial, rfl, rfl, rfl, rfl, rfl⟩
    show (if k = 499999 then tF else if k = 518087 then v0 else if k = 514046 then v1 else if k = 519078 then v2 else if k = 519059 then v3 else if k = 519072 then v4 else g.2.2.2.2.2.1 k) = _
    rw [if_neg (by omega), if_neg (by omega), if_neg (by omega), if_neg (by omega), if_neg (by omega), if_neg (by omega)]
  have hsx : ∀ (own : String) (i : Nat) (tx : String), Cond.stringRef own i tx ∈ lw_tbl → am_sx own i < 499999 := by
    intro own i tx hw
    have h9 : (own, i, tx) ∈ am_strl := of_decide_eq_true (List.all_eq_true.mp am_strs _ hw)
    have h8 : am_strl.all (fun q => decide (am_sx q.1 q.2.1 < 499999)) = true := by decide +kernel
    exact of_decide_eq_true (List.all_eq_true.mp h8 _ h9)
  obtain ⟨G1, G2, G3, G4, G5, G6⟩ := G
  refine ⟨(g.1, g.2.1, g.2.2.1, g.2.2.2.1, g.2.2.2.2.1, xa, g.2.2.2.2.2.2), rfl, rfl, ?_, e4, ⟨G1, G2, ?_, ?_, ?_, G6⟩, ⟨?_, hZc, w, hw, ?_⟩⟩
  · show xa 0 = b
    rw [x1 0 (by decide), e3]
  · intro k n f hk
    have hk' : am_X L xs k = some (n, f) := by rw [← e4]; exact hk
    have h := G3 k n f hk
    have hlt : k < 499999 := by
      unfold am_X at hk'
      by_cases q0 : k = 0
      · omega
      · rw [if_neg q0] at hk'
        by_cases q1 : k = 1
        · omega
        · rw [if_neg q1] at hk'
          by_cases q2 : k = 2
          · omega
          · rw [if_neg q2] at hk'
            by_cases q3 : k = 3
            · omega
            · rw [if_neg q3] at hk'
              cases hk'
    show n < 2 ^ 31 ∧ ∃ cell : Cell, g.2.1.heap[xa k]? = some cell ∧ _
    rw [x1 k hlt]
    exact h
  · show va_Z _ _ _ (.ref (xa 1)) _ g.2.1 g.2.1.heap ∧ va_Z _ _ _ (.ref (xa 2)) _ g.2.1 g.2.1.heap ∧ va_Z _ _ _ (.ref (xa 3)) _ g.2.1 g.2.1.heap
    rw [x1 1 (by decide), x1 2 (by decide), x1 3 (by decide)]
    exact G4
  · intro own i tx hw
    show vk_R own i tx (xa (am_sx own i)) g.2.1
    rw [x1 _ (hsx own i tx hw)]
    exact G5 own i tx hw
  · intro k n hm
    have h9 : ∀ (k n v : Nat) (f : Nat → Int32), f = st_tx k → k < 499999 → xa (500000 + k) = v → n < 2 ^ 31 → va_O "java/lang/String" (g.2.2.2.2.2.1 k) (fun q => g.2.1.heap.size ≤ q) g.2.1 g.2.1.heap → va_OF "java/lang/String" "coder" "B" (.int 0) (g.2.2.2.2.2.1 k) (fun q => g.2.1.heap.size ≤ q) g.2.1 g.2.1.heap → va_OF "java/lang/String" "value" "[B" (.ref v) (g.2.2.2.2.2.1 k) (fun q => g.2.1.heap.size ≤ q) g.2.1 g.2.1.heap → va_T .byte v n (fun j => .int (f j)) (fun q => g.2.1.heap.size ≤ q) g.2.1 g.2.1.heap → st_S (g.1, g.2.1, g.2.2.1, g.2.2.2.1, g.2.2.2.2.1, xa, g.2.2.2.2.2.2) k n := by
      intro k n v f hf hk hv hn q1 q2 q3 q4
      subst hf
      show va_O _ (xa k) _ g.2.1 g.2.1.heap ∧ va_OF _ _ _ _ (xa k) _ g.2.1 g.2.1.heap ∧ va_OF _ _ _ (.ref (xa (500000 + k))) (xa k) _ g.2.1 g.2.1.heap ∧ _ ∧ va_T .byte (xa (500000 + k)) n (fun j => .int (st_tx k j)) _ g.2.1 g.2.1.heap
      rw [x1 k hk, hv]
      exact ⟨q1, q2, q3, hn, q4⟩
    simp only [sx_sll, List.mem_cons, Prod.mk.injEq, List.not_mem_nil, or_false] at hm
    rcases hm with ⟨rfl, rfl⟩ | ⟨rfl, rfl⟩ | ⟨rfl, rfl⟩ | ⟨rfl, rfl⟩ | ⟨rfl, rfl⟩
    · exact h9 _ _ _ _ rfl (by decide) y0 (by decide) a0 b0 c0 d0
    · exact h9 _ _ _ _ rfl (by decide) y1 (by decide) a1 b1 c1 d1
    · exact h9 _ _ _ _ rfl (by decide) y2 (by decide) a2 b2 c2 d2
    · exact h9 _ _ _ _ rfl (by decide) y3 (by decide) a3 b3 c3 d3
    · exact h9 _ _ _ _ rfl (by decide) y4 (by decide) a4 b4 c4 d4
  · show va_Z _ _ _ (am_rel (g.1, g.2.1, g.2.2.1, g.2.2.2.1, g.2.2.2.2.1, xa, g.2.2.2.2.2.2) w) _ g.2.1 g.2.1.heap
    rcases hw with rfl | rfl
    · exact hwv
    · show va_Z _ _ _ (.ref (xa 499999)) _ g.2.1 g.2.1.heap
      rw [x2]
      exact hwv
