/-! the law's entry: what is known there, as am_G has it -/
def am_s0 : am_S := ([], fun _ _ => 0, fun _ _ => 0, fun _ _ => .null)
def am_usual (k : Nat) : Int32 := ([1, 12, 6, 6, 0, 6, 3, 1] : List Int32).getD k 0
def am_least (k : Nat) : Int32 := ([1, 0, 0, 0, 0, 0, 0, 0] : List Int32).getD k 0
def am_great (k : Nat) : Int32 := ([5, 24, 12, 12, 30, 11, 12, 99] : List Int32).getD k 0
def am_X (L : Nat) (xs : Nat → Int32) : Nat → Option (Nat × (Nat → Int32)) := fun k => if k = 0 then some (L, xs) else if k = 1 then some (8, am_usual) else if k = 2 then some (8, am_least) else if k = 3 then some (8, am_great) else none
def am_strl : List (String × Nat × String) := [("WindowSale$Station", 77, "walk basket honest shy whistle again runner cost window stands"), ("WindowSale$Log", 36, "train at fruit coin up down waits"), ("WindowSale$Sentence", 68, "not open fair ahead price takes bought number"), ("WindowSale$Sentence", 49, "and"), ("WindowSale$Sentence", 62, "or"), ("WindowSale", 153, "no such window"), ("WindowSale", 177, "nothing such of a window"), ("WindowSale", 258, "no such chance"), ("WindowSale", 264, "none can be so"), ("WindowSale", 273, "no such sale"), ("WindowSale", 286, "no such plan"), ("WindowSale", 327, "no such seller"), ("WindowSale", 332, "no such sellers"), ("WindowSale", 380, "it can't be")]
theorem am_strs : lw_tbl.all (fun w => match w with | .stringRef o i t => decide ((o, i, t) ∈ am_strl) | _ => true) = true := by decide +kernel
def am_sa (s : State) (k : Nat) : Nat := match am_strl.find? (fun q => am_sx q.1 q.2.1 == k) with
  | some q => (match (Term.string q.1 q.2.1).eval #[] s none [] s with
    | some (.ref a) => a
    | _ => 0)
  | none => 0
theorem am_strf : am_strl.all (fun q => decide (am_strl.find? (fun r => am_sx r.1 r.2.1 == am_sx q.1 q.2.1) = some q)) = true := by decide +kernel
theorem am_sa_of {s : State} {q : String × Nat × String} (hq : q ∈ am_strl) {a : Nat} (h : (Term.string q.1 q.2.1).eval #[] s none [] s = some (.ref a)) : am_sa s (am_sx q.1 q.2.1) = a := by
  have h1 := of_decide_eq_true (List.all_eq_true.mp am_strf q hq)
  unfold am_sa
  rw [h1]
  show (match (Term.string q.1 q.2.1).eval #[] s none [] s with | some (.ref a) => a | _ => 0) = a
  rw [h]
theorem am_flat_str {b : Nat} {s : State} (hgv : (Jvm.Cond.and given_1 narrow_1).before #[Value.ref b] s = true) : ∀ q ∈ am_strl, (Cond.exactly (Term.string q.1 q.2.1) "java/lang/String").before #[Value.ref b] s = true := by
  have hs := flat_of_before _ hgv
  intro q hq
  simp only [am_strl, List.mem_cons, List.not_mem_nil, or_false] at hq
  rcases hq with rfl | rfl | rfl | rfl | rfl | rfl | rfl | rfl | rfl | rfl | rfl | rfl | rfl | rfl <;> exact hs _ (by decide +kernel)
theorem am_arr {s : State} {args : Array Value} {ty : FieldType} (h : (Cond.arrayClass ty).before args s = true) : ∃ cA : ClassId, ArrOfT s cA ty ∧ s.vm.findClass ("[" ++ ty.toString) = some cA := by
  obtain ⟨cA, kA, comp, h1, h2, h3⟩ := Cond.arrayClass_spec (args := args) (first := s) (o := none) (s := s) (idx := []) h
  exact ⟨cA, fun n z => ⟨fun k h => (by cases h), kA, h2, comp, h3⟩, h1⟩
theorem am_stat {b : Nat} {s : State} {n : String} {f : Nat → Int32} (hl : (Cond.laysStatic "WindowSale$Station" n "[I").before #[Value.ref b] s = true) (hini : (Cond.initialized "WindowSale$Station").before #[Value.ref b] s = true)
    (ha : (Cond.arrayOf (.static "WindowSale$Station" n "[I") .int).before #[Value.ref b] s = true) (hlen : (Cond.eq (.length (.static "WindowSale$Station" n "[I")) (.int 8)).before #[Value.ref b] s = true) (he : ∀ j : Nat, j < 8 → (Cond.eq (.elem (.static "WindowSale$Station" n "[I") (.int (Int32.ofNat j))) (.int (f j))).before #[Value.ref b] s = true) :
    ∃ t : Nat, va_Z "WindowSale$Station" n "[I" (.ref t) (fun q => s.heap.size ≤ q) s s.heap ∧ va_T .int t 8 (fun j => .int (f j)) (fun q => s.heap.size ≤ q) s s.heap := by
  obtain ⟨t, h1, h2⟩ := va_Tof (N := 8) (f := fun j => .int (f j)) (A := fun q => s.heap.size ≤ q) (by decide) ha (va_eqt hlen) (fun j hj => va_eqt (he j hj)) (fun a ha => Nat.not_le.mpr ha)
  exact ⟨t, va_Zof hl hini h1 (fun a ha => Nat.not_le.mpr ha), h2⟩
theorem am_T_ext {s : State} {t : Nat} {f : Nat → Int32} (h : va_T .int t 8 (fun j => .int (f j)) (fun q => s.heap.size ≤ q) s s.heap) : 8 < 2 ^ 31 ∧ ∃ cell : Cell, s.heap[t]? = some cell ∧ s.isArrayOf cell .int ∧ cell.vm ≠ .unknown ∧ (8 ≤ cell.slots.size ∧ cell.slots.size.toInt32 = Int32.ofNat 8) ∧ ∀ j : Nat, j < 8 → cell.slots[j]? = some (.int (f j)) := by
  obtain ⟨cell, h1, h2, h3, h4, h5, h6, -⟩ := h
  exact ⟨by decide, cell, h1, h2, h3, ⟨h4, h5⟩, h6⟩
theorem am_lt8 {P : Nat → Prop} (h0 : P 0) (h1 : P 1) (h2 : P 2) (h3 : P 3) (h4 : P 4) (h5 : P 5) (h6 : P 6) (h7 : P 7) : ∀ j : Nat, j < 8 → P j := by
  intro j hj
  rcases (show j = 0 ∨ j = 1 ∨ j = 2 ∨ j = 3 ∨ j = 4 ∨ j = 5 ∨ j = 6 ∨ j = 7 by omega) with rfl | rfl | rfl | rfl | rfl | rfl | rfl | rfl <;> assumption
set_option maxHeartbeats 4000000 in
set_option maxRecDepth 100000 in
theorem am_start {s : State} (l : Launch) (hlf : l.flags = flags0) {b L : Nat} {xs : Nat → Int32} (hL : L < 2 ^ 31) (hts : ∀ w ∈ lw_tbl, w.before #[Value.ref b] s = true) (hX : va_X b L xs s s.heap) (hgv : (Jvm.Cond.and given_1 narrow_1).before #[Value.ref b] s = true) :
    ∃ g : am_C, g.1 = l ∧ g.2.1 = s ∧ g.2.2.2.2.2.1 0 = b ∧ g.2.2.2.2.2.2 = am_X L xs ∧ am_G g := by
  have hs := flat_of_before _ hgv
  obtain ⟨c0, iS0, hKn0⟩ := u_known (C := RX0) (T := TX0) (N := 3) (n := 3) hts am_lay0.1 (hts (.instantiable RX0 3) (by decide +kernel))
  obtain ⟨c1, iS1, hKn1⟩ := u_known (C := RX1) (T := TX1) (N := 4) (n := 4) hts am_lay1.1 (hts (.instantiable RX1 4) (by decide +kernel))
  obtain ⟨c2, iS2, hKn2⟩ := u_known (C := RX2) (T := TX2) (N := 8) (n := 8) hts am_lay2.1 (hts (.instantiable RX2 8) (by decide +kernel))
  obtain ⟨c3, iS3, hKn3⟩ := u_known (C := RX3) (T := TX3) (N := 3) (n := 3) hts am_lay3.1 (hts (.instantiable RX3 3) (by decide +kernel))
  obtain ⟨c4, iS4, hKn4⟩ := u_known (C := RX4) (T := TX4) (N := 20) (n := 20) hts am_lay4.1 (hts (.instantiable RX4 20) (by decide +kernel))
  obtain ⟨c5, iS5, hKn5⟩ := u_known (C := RX5) (T := TX5) (N := 6) (n := 6) hts am_lay5.1 (hts (.instantiable RX5 6) (by decide +kernel))
  obtain ⟨c6, iS6, hKn6⟩ := u_known (C := RX6) (T := TX6) (N := 9) (n := 9) hts am_lay6.1 (hts (.instantiable RX6 9) (by decide +kernel))
  obtain ⟨c7, iS7, hKn7⟩ := u_known (C := RX7) (T := TX7) (N := 11) (n := 11) hts am_lay7.1 (hts (.instantiable RX7 11) (by decide +kernel))
  obtain ⟨c8, iS8, hKn8⟩ := u_known (C := RX8) (T := TX8) (N := 4) (n := 4) hts am_lay8.1 (hts (.instantiable RX8 4) (by decide +kernel))
  obtain ⟨c9, iS9, hKn9⟩ := u_known (C := RX9) (T := TX9) (N := 11) (n := 11) hts am_lay9.1 (hts (.instantiable RX9 11) (by decide +kernel))
  obtain ⟨c10, iS10, hKn10⟩ := u_known (C := RX10) (T := TX10) (N := 2) (n := 2) hts am_lay10.1 (hts (.instantiable RX10 2) (by decide +kernel))
  obtain ⟨c11, iS11, hKn11⟩ := u_known (C := RX11) (T := TX11) (N := 17) (n := 17) hts am_lay11.1 (hts (.instantiable RX11 17) (by decide +kernel))
  obtain ⟨c12, iS12, hKn12⟩ := u_known (C := RX12) (T := TX12) (N := 47) (n := 47) hts am_lay12.1 (hts (.instantiable RX12 47) (by decide +kernel))
  obtain ⟨dC, dI, hKc⟩ : ∃ (dC : Nat → ClassId) (dI : Nat → Nat → Nat), ∀ (k : Nat) (q : vw_C), vwCl[k]? = some q → u_Kn s q.1 q.2.1 q.2.2 (dC k) (dI k) := by
    refine ⟨fun k => if k = 0 then c0 else if k = 1 then c1 else if k = 2 then c2 else if k = 3 then c3 else if k = 4 then c4 else if k = 5 then c5 else if k = 6 then c6 else if k = 7 then c7 else if k = 8 then c8 else if k = 9 then c9 else if k = 10 then c10 else if k = 11 then c11 else c12, fun k => if k = 0 then iS0 else if k = 1 then iS1 else if k = 2 then iS2 else if k = 3 then iS3 else if k = 4 then iS4 else if k = 5 then iS5 else if k = 6 then iS6 else if k = 7 then iS7 else if k = 8 then iS8 else if k = 9 then iS9 else if k = 10 then iS10 else if k = 11 then iS11 else iS12, ?_⟩
    intro k q hq
    match k, hq with
    | 0, hq => cases hq; exact hKn0
    | 1, hq => cases hq; exact hKn1
    | 2, hq => cases hq; exact hKn2
    | 3, hq => cases hq; exact hKn3
    | 4, hq => cases hq; exact hKn4
    | 5, hq => cases hq; exact hKn5
    | 6, hq => cases hq; exact hKn6
    | 7, hq => cases hq; exact hKn7
    | 8, hq => cases hq; exact hKn8
    | 9, hq => cases hq; exact hKn9
    | 10, hq => cases hq; exact hKn10
    | 11, hq => cases hq; exact hKn11
    | 12, hq => cases hq; exact hKn12
    | k + 13, hq => simp at hq
  obtain ⟨aI, hI1, hI2⟩ := am_arr (hts _ am_ac_int)
  obtain ⟨aB, hB1, hB2⟩ := am_arr (hts _ am_ac_byte)
  obtain ⟨aJ, hJ1, hJ2⟩ := am_arr (hts _ am_ac_long)
  obtain ⟨aZ, hZ1, hZ2⟩ := am_arr (hts _ am_ac_boolean)
  obtain ⟨compO, aO, kO, hO1, -, hO3, hO4, hO5⟩ := Cond.arrayOver_spec (hts _ am_ao)
  have hini : (Cond.initialized "WindowSale$Station").before #[Value.ref b] s = true := hts _ (by decide +kernel)
  obtain ⟨t1, hU1, hU2⟩ := am_stat (f := am_usual) (n := "USUAL") (hts _ (by decide +kernel)) hini (hs _ (by decide +kernel)) (hs _ (by decide +kernel)) (am_lt8 (hs _ (by decide +kernel)) (hs _ (by decide +kernel)) (hs _ (by decide +kernel)) (hs _ (by decide +kernel)) (hs _ (by decide +kernel)) (hs _ (by decide +kernel)) (hs _ (by decide +kernel)) (hs _ (by decide +kernel)))
  obtain ⟨t2, hV1, hV2⟩ := am_stat (f := am_least) (n := "LEAST") (hts _ (by decide +kernel)) hini (hs _ (by decide +kernel)) (hs _ (by decide +kernel)) (am_lt8 (hs _ (by decide +kernel)) (hs _ (by decide +kernel)) (hs _ (by decide +kernel)) (hs _ (by decide +kernel)) (hs _ (by decide +kernel)) (hs _ (by decide +kernel)) (hs _ (by decide +kernel)) (hs _ (by decide +kernel)))
  obtain ⟨t3, hW1, hW2⟩ := am_stat (f := am_great) (n := "GREATEST") (hts _ (by decide +kernel)) hini (hs _ (by decide +kernel)) (hs _ (by decide +kernel)) (am_lt8 (hs _ (by decide +kernel)) (hs _ (by decide +kernel)) (hs _ (by decide +kernel)) (hs _ (by decide +kernel)) (hs _ (by decide +kernel)) (hs _ (by decide +kernel)) (hs _ (by decide +kernel)) (hs _ (by decide +kernel)))
  obtain ⟨xa, x0, x1, x2, x3, x9⟩ : ∃ xa : Nat → Nat, xa 0 = b ∧ xa 1 = t1 ∧ xa 2 = t2 ∧ xa 3 = t3 ∧ ∀ k, 10 ≤ k → xa k = am_sa s k := by
    refine ⟨fun k => if k = 0 then b else if k = 1 then t1 else if k = 2 then t2 else if k = 3 then t3 else am_sa s k, rfl, rfl, rfl, rfl, fun k hk => ?_⟩
    show (if k = 0 then b else if k = 1 then t1 else if k = 2 then t2 else if k = 3 then t3 else am_sa s k) = _
    rw [if_neg (by omega), if_neg (by omega), if_neg (by omega), if_neg (by omega)]
  obtain ⟨cA, cA1, cA2, cA3, cA4, cA5⟩ : ∃ cA : FieldType → ClassId, cA .int = aI ∧ cA .byte = aB ∧ cA .long = aJ ∧ cA .boolean = aZ ∧ cA (.object "WindowSale$Scene") = aO :=
    ⟨fun ty => match ty with | .int => aI | .byte => aB | .long => aJ | .boolean => aZ | _ => aO, rfl, rfl, rfl, rfl, rfl⟩
  refine ⟨(l, s, #[Value.ref b], (dC, dI), cA, xa, am_X L xs), rfl, rfl, x0, rfl, hts, ?_, ?_, ?_, ?_, ?_⟩
  · refine ⟨hKc, fun k q hq => ?_⟩
    have hq' : [(cA .int, FieldType.int), (cA .byte, .byte), (cA .long, .long), (cA .boolean, .boolean), (cA (.object "WindowSale$Scene"), .object "WindowSale$Scene")][k]? = some q := hq
    rw [cA1, cA2, cA3, cA4, cA5] at hq'
    match k, hq' with
    | 0, hq' => cases hq'; exact ⟨hI1, hI2⟩
    | 1, hq' => cases hq'; exact ⟨hB1, hB2⟩
    | 2, hq' => cases hq'; exact ⟨hJ1, hJ2⟩
    | 3, hq' => cases hq'; exact ⟨hZ1, hZ2⟩
    | 4, hq' => cases hq'; exact ⟨fun n z => ⟨fun k h => (by cases h), kO, hO3, compO, hO4⟩, kO, compO, hO3, hO4, hO1, hO5⟩
    | k + 5, hq' => simp at hq'
  · intro k n f hk
    have hk' : am_X L xs k = some (n, f) := hk
    unfold am_X at hk'
    by_cases e0 : k = 0
    · rw [if_pos e0] at hk'
      cases hk'
      subst e0
      obtain ⟨scr, a1, a2, a3, a4, a5⟩ := hX
      refine ⟨hL, scr, ?_, a2, a3, ⟨by rw [a4]; exact Nat.le_refl _, by rw [a4]⟩, a5⟩
      show s.heap[xa 0]? = _
      rw [x0]
      exact a1
    · rw [if_neg e0] at hk'
      by_cases e1 : k = 1
      · rw [if_pos e1] at hk'
        cases hk'
        subst e1
        show _ ∧ ∃ cell : Cell, s.heap[xa 1]? = some cell ∧ _
        rw [x1]
        exact am_T_ext hU2
      · rw [if_neg e1] at hk'
        by_cases e2 : k = 2
        · rw [if_pos e2] at hk'
          cases hk'
          subst e2
          show _ ∧ ∃ cell : Cell, s.heap[xa 2]? = some cell ∧ _
          rw [x2]
          exact am_T_ext hV2
        · rw [if_neg e2] at hk'
          by_cases e3 : k = 3
          · rw [if_pos e3] at hk'
            cases hk'
            subst e3
            show _ ∧ ∃ cell : Cell, s.heap[xa 3]? = some cell ∧ _
            rw [x3]
            exact am_T_ext hW2
          · rw [if_neg e3] at hk'
            cases hk'
  · show va_Z _ _ _ (.ref (xa 1)) _ s s.heap ∧ va_Z _ _ _ (.ref (xa 2)) _ s s.heap ∧ va_Z _ _ _ (.ref (xa 3)) _ s s.heap
    rw [x1, x2, x3]
    exact ⟨hU1, hV1, hW1⟩
  · intro own i tx hw
    have hm : (own, i, tx) ∈ am_strl := by
      have h9 := List.all_eq_true.mp am_strs _ hw
      exact of_decide_eq_true h9
    obtain ⟨a, c, cell, k, h1, -⟩ := Cond.exactly_spec (args := #[Value.ref b]) (first := s) (o := none) (s := s) (idx := []) (am_flat_str hgv _ hm)
    have h2 := am_sa_of (q := (own, i, tx)) hm h1
    show vk_R own i tx (xa (am_sx own i)) s
    rw [x9 _ (by unfold am_sx; omega), h2]
    exact vk_R.of (hts _ hw) h1
  · refine ⟨?_, ?_, ?_⟩
    · show l.stackTraces = false
      unfold Launch.stackTraces
      rw [hlf]
      decide +kernel
    · exact vx_Zqof (hts _ (by decide +kernel)) (hts _ (by decide +kernel)) (hs _ (by decide +kernel)) (fun a ha => Nat.not_le.mpr ha)
    · exact vx_Zqof (hts _ (by decide +kernel)) (hts _ (by decide +kernel)) (hs _ (by decide +kernel)) (fun a ha => Nat.not_le.mpr ha)
theorem am_Rep0 {g : am_C} : am_Rep g am_s0 g.2.1.heap := by
  refine ⟨rfl, fun i h e hi _ => ?_, fun _ _ => rfl, fun _ _ _ => ⟨rfl, rfl, rfl⟩⟩
  simp [am_s0] at hi
