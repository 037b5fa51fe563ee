/-! rows of arrays, new cells, statics, texts -/
theorem am_Rep_push {g : am_C} {σ : am_S} {H H1 : Heap} {x : am_sh} (hR : am_Rep g σ H) (z : H1.size = H.size + 1) (oq : ∀ q : Nat, q < H.size → H1[q]? = H[q]?) (he : ∀ e, am_ce g σ σ.1.length x = some e → va_at g.2.2.2.1 vwCl (H.size, e) H1) : am_Rep g (σ.1 ++ [x], σ.2) H1 := by
  obtain ⟨r1, r2, r3, r4⟩ := hR
  refine ⟨by rw [z, r1]; simp; omega, fun i y e hi hy => ?_, fun q hq => ?_, fun i j hi => ?_⟩
  · have hy' : am_ce g σ i y = some e := hy
    by_cases h : i < σ.1.length
    · have hi' : σ.1[i]? = some y := by rw [← hi]; exact (List.getElem?_append_left h).symm
      exact (r2 i y e hi' hy').kept (oq _ (by show am_b0 g + i < H.size; omega))
    · have hi2 : (σ.1 ++ [x])[i]? = some y := hi
      rw [List.getElem?_append_right (by omega)] at hi2
      have hz : i - σ.1.length < 1 := (List.getElem?_eq_some_iff.mp hi2).1
      rw [show i - σ.1.length = 0 by omega] at hi2
      cases hi2
      have hie : i = σ.1.length := by omega
      subst hie
      have hh := he e hy'
      rw [r1] at hh
      exact hh
  · rw [oq q (by omega)]
    exact r3 q hq
  · refine r4 i j ?_
    have hi2 : (σ.1 ++ [x]).length ≤ i := hi
    simp at hi2
    omega
section KA
variable {g : am_C} {d : Nat} {M : am_M} {mc ms pc : Nat} {lv : List (Nat × Value)} {st : List Value} {σ : am_S} {post : Option (Option Value) → am_S → Prop}
theorem kr_iald (G : am_G g) {o n : Nat} {i : Int32} (hd : decode M.2.1 pc = .ok (.iaload, 1)) (ho : σ.1[o]? = some (.inr (.int, n))) (hin : vp_in i n) (kk : am_K g d M mc ms (pc + 1) lv (.int (σ.2.1 o i.toNatClampNeg) :: st) σ post) : am_K g d M mc ms pc lv (.int i :: .ref o :: st) σ post := by
  intro p e R s m args below meth c H locs cells slots ls F h1 h2 h3 h4 hR hL hl
  exact va_iald F.1 F.2.1 (am_hK G F.2.2.2.2.2.2.1) (am_P1 (hR.2.1 o _ _ ho rfl)) 0 0 rfl rfl hin hd (kk p e R s m args below meth c H locs cells slots ls F h1 h2 h3 h4 hR hL hl)
theorem kr_bald (G : am_G g) {o n : Nat} {i : Int32} (hd : decode M.2.1 pc = .ok (.baload, 1)) (ho : σ.1[o]? = some (.inr (.byte, n))) (hin : vp_in i n) (kk : am_K g d M mc ms (pc + 1) lv (.int (σ.2.1 o i.toNatClampNeg) :: st) σ post) : am_K g d M mc ms pc lv (.int i :: .ref o :: st) σ post := by
  intro p e R s m args below meth c H locs cells slots ls F h1 h2 h3 h4 hR hL hl
  exact va_bald F.1 F.2.1 (am_hK G F.2.2.2.2.2.2.1) (am_P1 (hR.2.1 o _ _ ho rfl)) 0 1 rfl rfl hin hd (kk p e R s m args below meth c H locs cells slots ls F h1 h2 h3 h4 hR hL hl)
theorem kr_zald (G : am_G g) {o n : Nat} {i : Int32} (hd : decode M.2.1 pc = .ok (.baload, 1)) (ho : σ.1[o]? = some (.inr (.boolean, n))) (hin : vp_in i n) (kk : am_K g d M mc ms (pc + 1) lv (.int (σ.2.1 o i.toNatClampNeg) :: st) σ post) : am_K g d M mc ms pc lv (.int i :: .ref o :: st) σ post := by
  intro p e R s m args below meth c H locs cells slots ls F h1 h2 h3 h4 hR hL hl
  exact va_zald F.1 F.2.1 (am_hK G F.2.2.2.2.2.2.1) (am_P1 (hR.2.1 o _ _ ho rfl)) 0 3 rfl rfl hin hd (kk p e R s m args below meth c H locs cells slots ls F h1 h2 h3 h4 hR hL hl)
theorem kr_lald (G : am_G g) {o n : Nat} {i : Int32} (hd : decode M.2.1 pc = .ok (.laload, 1)) (ho : σ.1[o]? = some (.inr (.long, n))) (hin : vp_in i n) (kk : am_K g d M mc ms (pc + 1) lv (.long (σ.2.2.1 o i.toNatClampNeg) :: st) σ post) : am_K g d M mc ms pc lv (.int i :: .ref o :: st) σ post := by
  intro p e R s m args below meth c H locs cells slots ls F h1 h2 h3 h4 hR hL hl
  exact va_lald F.1 F.2.1 (am_hK G F.2.2.2.2.2.2.1) (am_P1 (hR.2.1 o _ _ ho rfl)) 0 2 rfl rfl hin hd (kk p e R s m args below meth c H locs cells slots ls F h1 h2 h3 h4 hR hL hl)
theorem kr_aald (G : am_G g) {o n x : Nat} {i : Int32} (hd : decode M.2.1 pc = .ok (.aaload, 1)) (ho : σ.1[o]? = some (.inr (.object "WindowSale$Scene", n))) (hin : vp_in i n) (hv : σ.2.2.2 o i.toNatClampNeg = .ref x) (kk : am_K g d M mc ms (pc + 1) lv (.ref x :: st) σ post) : am_K g d M mc ms pc lv (.int i :: .ref o :: st) σ post := by
  intro p e R s m args below meth c H locs cells slots ls F h1 h2 h3 h4 hR hL hl
  refine va_aldq F.1 F.2.1 (am_hK G F.2.2.2.2.2.2.1) (am_P1 (hR.2.1 o _ _ ho rfl)) 0 4 rfl rfl hin hd ?_
  rw [hv]
  exact kk p e R s m args below meth c H locs cells slots ls F h1 h2 h3 h4 hR hL hl
theorem am_ext {H : Heap} {s : State} (G : am_G g) (hW : g.2.1.WarmedH s.vm) (hR : am_Rep g σ H) {x n : Nat} {f : Nat → Int32} (hX : g.2.2.2.2.2.2 x = some (n, f)) : n < 2 ^ 31 ∧ ∃ cell : Cell, H[g.2.2.2.2.2.1 x]? = some cell ∧ s.isArrayOf cell .int ∧ cell.vm ≠ .unknown ∧ (n ≤ cell.slots.size ∧ cell.slots.size.toInt32 = Int32.ofNat n) ∧ ∀ j : Nat, j < n → cell.slots[j]? = some (.int (f j)) := by
  obtain ⟨hn, cell, a1, a2, a3, a4, a5⟩ := G.2.2.1 x n f hX
  exact ⟨hn, cell, by rw [hR.2.2.1 _ (Array.getElem?_eq_some_iff.mp a1).1]; exact a1, State.isArrayOf_alike hW.alike a2, a3, a4, a5⟩
theorem kr_ialdX (G : am_G g) {x n : Nat} {f : Nat → Int32} {i : Int32} (hd : decode M.2.1 pc = .ok (.iaload, 1)) (hX : g.2.2.2.2.2.2 x = some (n, f)) (hin : vp_in i n) (kk : am_K g d M mc ms (pc + 1) lv (.int (f i.toNatClampNeg) :: st) σ post) : am_K g d M mc ms pc lv (.int i :: .retAddr x :: st) σ post := by
  intro p e R s m args below meth c H locs cells slots ls F h1 h2 h3 h4 hR hL hl
  obtain ⟨hn, cell, a1, a2, a3, a4, a5⟩ := am_ext G F.2.2.2.2.2.2.1 hR hX
  exact W.iald (v := .int (f i.toNatClampNeg)) F.1 F.2.1 a1 a2 a3 (fun q => hin (q.elim Or.inl (fun q => Or.inr (Nat.le_trans a4.1 q)))) (a5 _ (Nat.not_le.mp fun q => hin (Or.inr q))) rfl rfl hd (kk p e R s m args below meth c H locs cells slots ls F h1 h2 h3 h4 hR hL hl)
theorem kr_alenX (G : am_G g) {x n : Nat} {f : Nat → Int32} (hd : decode M.2.1 pc = .ok (.arraylength, 1)) (hX : g.2.2.2.2.2.2 x = some (n, f)) (kk : am_K g d M mc ms (pc + 1) lv (.int (nI n) :: st) σ post) : am_K g d M mc ms pc lv (.retAddr x :: st) σ post := by
  intro p e R s m args below meth c H locs cells slots ls F h1 h2 h3 h4 hR hL hl
  obtain ⟨hn, cell, a1, a2, a3, a4, a5⟩ := am_ext G F.2.2.2.2.2.2.1 hR hX
  exact W.alen (n := nI n) F.1 F.2.1 a1 a2 a4.2 rfl rfl hd (kk p e R s m args below meth c H locs cells slots ls F h1 h2 h3 h4 hR hL hl)
theorem kr_alenI (G : am_G g) {o n : Nat} (hd : decode M.2.1 pc = .ok (.arraylength, 1)) (ho : σ.1[o]? = some (.inr (.int, n))) (kk : am_K g d M mc ms (pc + 1) lv (.int (nI n) :: st) σ post) : am_K g d M mc ms pc lv (.ref o :: st) σ post := by
  intro p e R s m args below meth c H locs cells slots ls F h1 h2 h3 h4 hR hL hl
  exact va_alen F.1 F.2.1 (am_hK G F.2.2.2.2.2.2.1) (am_P1 (hR.2.1 o _ _ ho rfl)) 0 0 rfl rfl rfl hd (kk p e R s m args below meth c H locs cells slots ls F h1 h2 h3 h4 hR hL hl)
theorem kr_alenB (G : am_G g) {o n : Nat} (hd : decode M.2.1 pc = .ok (.arraylength, 1)) (ho : σ.1[o]? = some (.inr (.byte, n))) (kk : am_K g d M mc ms (pc + 1) lv (.int (nI n) :: st) σ post) : am_K g d M mc ms pc lv (.ref o :: st) σ post := by
  intro p e R s m args below meth c H locs cells slots ls F h1 h2 h3 h4 hR hL hl
  exact va_alen F.1 F.2.1 (am_hK G F.2.2.2.2.2.2.1) (am_P1 (hR.2.1 o _ _ ho rfl)) 0 1 rfl rfl rfl hd (kk p e R s m args below meth c H locs cells slots ls F h1 h2 h3 h4 hR hL hl)
theorem kr_alenJ (G : am_G g) {o n : Nat} (hd : decode M.2.1 pc = .ok (.arraylength, 1)) (ho : σ.1[o]? = some (.inr (.long, n))) (kk : am_K g d M mc ms (pc + 1) lv (.int (nI n) :: st) σ post) : am_K g d M mc ms pc lv (.ref o :: st) σ post := by
  intro p e R s m args below meth c H locs cells slots ls F h1 h2 h3 h4 hR hL hl
  exact va_alen F.1 F.2.1 (am_hK G F.2.2.2.2.2.2.1) (am_P1 (hR.2.1 o _ _ ho rfl)) 0 2 rfl rfl rfl hd (kk p e R s m args below meth c H locs cells slots ls F h1 h2 h3 h4 hR hL hl)
theorem kr_alenQ (G : am_G g) {o n : Nat} (hd : decode M.2.1 pc = .ok (.arraylength, 1)) (ho : σ.1[o]? = some (.inr (.object "WindowSale$Scene", n))) (kk : am_K g d M mc ms (pc + 1) lv (.int (nI n) :: st) σ post) : am_K g d M mc ms pc lv (.ref o :: st) σ post := by
  intro p e R s m args below meth c H locs cells slots ls F h1 h2 h3 h4 hR hL hl
  exact va_alen F.1 F.2.1 (am_hK G F.2.2.2.2.2.2.1) (am_P1 (hR.2.1 o _ _ ho rfl)) 0 4 rfl rfl rfl hd (kk p e R s m args below meth c H locs cells slots ls F h1 h2 h3 h4 hR hL hl)
theorem kr_iast (G : am_G g) {o n : Nat} {i : Int32} {x : Int32} (hd : decode M.2.1 pc = .ok (.iastore, 1)) (ho : σ.1[o]? = some (.inr (.int, n))) (hin : vp_in i n) (kk : am_K g d M mc ms (pc + 1) lv st (σ.1, am_up σ.2.1 o i.toNatClampNeg x, σ.2.2.1, σ.2.2.2) post) : am_K g d M mc ms pc lv (.int x :: .int i :: .ref o :: st) σ post := by
  intro p e R s m args below meth c H locs cells slots ls F h1 h2 h3 h4 hR hL hl
  have hcell := hR.2.1 o _ _ ho rfl
  refine W.iast F.1 F.2.1 hcell (((am_hK G F.2.2.2.2.2.2.1).2 0 _ rfl).1 n (fun j => .int (σ.2.1 o j))) (fun q => by cases q) (by show ¬ (i < 0 ∨ (arrV _ _ _).slots.size ≤ _); rw [arrV_size]; exact hin) rfl rfl hd fun H1 e1 z oq => ?_
  refine kk p e R s m args below meth c H1 _ cells slots ls F h1 h2 h3 h4 (am_Rep_wr hR (am_wrI σ o i.toNatClampNeg x) ho z oq ?_) ?_ hl
  · intro y hy9
    cases hy9
    show H1[am_b0 g + o]? = some (vp_cell _ _)
    rw [e1]
    rw [vp_cell_i, vp_cell_i, arrV_store]
    congr 2
    funext q
    by_cases hq : q = i.toNatClampNeg
    · subst hq
      simp [updV, am_up]
    · simp [updV, am_up, hq]
  · intro q hq
    rcases List.mem_append.mp hq with h | h
    · exact hL q h
    · rw [List.mem_singleton.mp h]
      exact Nat.le_add_right _ _
theorem kr_bast (G : am_G g) {o n : Nat} {i : Int32} {x y : Int32} (hd : decode M.2.1 pc = .ok (.bastore, 1)) (ho : σ.1[o]? = some (.inr (.byte, n))) (hin : vp_in i n) (hy : narrow .byte (.int x) = .int y) (kk : am_K g d M mc ms (pc + 1) lv st (σ.1, am_up σ.2.1 o i.toNatClampNeg y, σ.2.2.1, σ.2.2.2) post) : am_K g d M mc ms pc lv (.int x :: .int i :: .ref o :: st) σ post := by
  intro p e R s m args below meth c H locs cells slots ls F h1 h2 h3 h4 hR hL hl
  have hcell := hR.2.1 o _ _ ho rfl
  refine W.bast F.1 F.2.1 hcell (((am_hK G F.2.2.2.2.2.2.1).2 1 _ rfl).1 n (fun j => .int (σ.2.1 o j))) (fun q => by cases q) (by show ¬ (i < 0 ∨ (arrV _ _ _).slots.size ≤ _); rw [arrV_size]; exact hin) rfl rfl hd fun H1 e1 z oq => ?_
  refine kk p e R s m args below meth c H1 _ cells slots ls F h1 h2 h3 h4 (am_Rep_wr hR (am_wrI σ o i.toNatClampNeg y) ho z oq ?_) ?_ hl
  · intro y hy9
    cases hy9
    show H1[am_b0 g + o]? = some (vp_cell _ _)
    rw [e1]
    rw [hy]
    rw [vp_cell_i, vp_cell_i, arrV_store]
    congr 2
    funext q
    by_cases hq : q = i.toNatClampNeg
    · subst hq
      simp [updV, am_up]
    · simp [updV, am_up, hq]
  · intro q hq
    rcases List.mem_append.mp hq with h | h
    · exact hL q h
    · rw [List.mem_singleton.mp h]
      exact Nat.le_add_right _ _
theorem kr_zast (G : am_G g) {o n : Nat} {i : Int32} {x y : Int32} (hd : decode M.2.1 pc = .ok (.bastore, 1)) (ho : σ.1[o]? = some (.inr (.boolean, n))) (hin : vp_in i n) (hy : narrow .boolean (.int x) = .int y) (kk : am_K g d M mc ms (pc + 1) lv st (σ.1, am_up σ.2.1 o i.toNatClampNeg y, σ.2.2.1, σ.2.2.2) post) : am_K g d M mc ms pc lv (.int x :: .int i :: .ref o :: st) σ post := by
  intro p e R s m args below meth c H locs cells slots ls F h1 h2 h3 h4 hR hL hl
  have hcell := hR.2.1 o _ _ ho rfl
  refine W.zast F.1 F.2.1 hcell (((am_hK G F.2.2.2.2.2.2.1).2 3 _ rfl).1 n (fun j => .int (σ.2.1 o j))) (fun q => by cases q) (by show ¬ (i < 0 ∨ (arrV _ _ _).slots.size ≤ _); rw [arrV_size]; exact hin) rfl rfl hd fun H1 e1 z oq => ?_
  refine kk p e R s m args below meth c H1 _ cells slots ls F h1 h2 h3 h4 (am_Rep_wr hR (am_wrI σ o i.toNatClampNeg y) ho z oq ?_) ?_ hl
  · intro y hy9
    cases hy9
    show H1[am_b0 g + o]? = some (vp_cell _ _)
    rw [e1]
    rw [hy]
    rw [vp_cell_i, vp_cell_i, arrV_store]
    congr 2
    funext q
    by_cases hq : q = i.toNatClampNeg
    · subst hq
      simp [updV, am_up]
    · simp [updV, am_up, hq]
  · intro q hq
    rcases List.mem_append.mp hq with h | h
    · exact hL q h
    · rw [List.mem_singleton.mp h]
      exact Nat.le_add_right _ _
theorem kr_last (G : am_G g) {o n : Nat} {i : Int32} {x : Int64} (hd : decode M.2.1 pc = .ok (.lastore, 1)) (ho : σ.1[o]? = some (.inr (.long, n))) (hin : vp_in i n) (kk : am_K g d M mc ms (pc + 1) lv st (σ.1, σ.2.1, am_up σ.2.2.1 o i.toNatClampNeg x, σ.2.2.2) post) : am_K g d M mc ms pc lv (.long x :: .int i :: .ref o :: st) σ post := by
  intro p e R s m args below meth c H locs cells slots ls F h1 h2 h3 h4 hR hL hl
  have hcell := hR.2.1 o _ _ ho rfl
  refine W.last F.1 F.2.1 hcell (((am_hK G F.2.2.2.2.2.2.1).2 2 _ rfl).1 n (fun j => .long (σ.2.2.1 o j))) (fun q => by cases q) (by show ¬ (i < 0 ∨ (arrV _ _ _).slots.size ≤ _); rw [arrV_size]; exact hin) rfl rfl hd fun H1 e1 z oq => ?_
  refine kk p e R s m args below meth c H1 _ cells slots ls F h1 h2 h3 h4 (am_Rep_wr hR (am_wrJ σ o i.toNatClampNeg x) ho z oq ?_) ?_ hl
  · intro y hy9
    cases hy9
    show H1[am_b0 g + o]? = some (vp_cell _ _)
    rw [e1]
    rw [vp_cell_l, vp_cell_l, arrV_store]
    congr 2
    funext q
    by_cases hq : q = i.toNatClampNeg
    · subst hq
      simp [updV, am_up]
    · simp [updV, am_up, hq]
  · intro q hq
    rcases List.mem_append.mp hq with h | h
    · exact hL q h
    · rw [List.mem_singleton.mp h]
      exact Nat.le_add_right _ _
theorem kr_aast (G : am_G g) {o n x : Nat} {i : Int32} (hd : decode M.2.1 pc = .ok (.aastore, 1)) (ho : σ.1[o]? = some (.inr (.object "WindowSale$Scene", n))) (hx : σ.1[x]? = some (.inl 7)) (hin : vp_in i n) (kk : am_K g d M mc ms (pc + 1) lv st (σ.1, σ.2.1, σ.2.2.1, am_up σ.2.2.2 o i.toNatClampNeg (.ref x)) post) : am_K g d M mc ms pc lv (.ref x :: .int i :: .ref o :: st) σ post := by
  intro p e R s m args below meth c H locs cells slots ls F h1 h2 h3 h4 hR hL hl
  have hcell := hR.2.1 o _ _ ho rfl
  have hK := am_hK G F.2.2.2.2.2.2.1
  have hlt : i.toNatClampNeg < n := Nat.not_le.mp fun q => hin (Or.inr q)
  have h0 : ¬ i < 0 := fun q => hin (Or.inl q)
  obtain ⟨r', hr', cellV, g1, g2, g3, -⟩ := am_obj hR hx (C := RX7) (T := TX7) (N := 11) rfl
  have hcls := (hK.1 7 (RX7, TX7, 11) rfl).2
  obtain ⟨kA, comp, k1, k2, k3, -⟩ := (hK.2 4 _ rfl).2
  have hcomp : comp = g.2.2.2.1.1 7 := Option.some.inj (k3.symm.trans hcls.1)
  subst hcomp
  obtain ⟨kC, hkC, -⟩ := hcls.2
  refine W.aast F.1 F.2.1 hcell (fun q h => by cases h) (fun h => by cases h) k1 k2 rfl hkC ⟨h0, by show _ < (arrV _ _ _).slots.size; rw [arrV_size]; exact hlt⟩ g1 (fun q h => by rw [g3] at h; cases h) (by rw [g2]; exact hkC) (by rw [g2]; exact va_assign hcls) rfl rfl hd fun H1 e1 z oq => ?_
  refine kk p e R s m args below meth c H1 _ cells slots ls F h1 h2 h3 h4 (am_Rep_wr hR (am_wrR σ o i.toNatClampNeg (.ref x)) ho z oq ?_) ?_ hl
  · intro y hy9
    cases hy9
    show H1[am_b0 g + o]? = some (vp_cell _ _)
    rw [e1]
    rw [vp_cell_q, vp_cell_q, arrV_store]
    congr 2
    funext q
    by_cases hq : q = i.toNatClampNeg
    · subst hq
      simp [updV, am_up, va_rf, am_ad]
    · simp [updV, am_up, hq]
  · intro q hq
    rcases List.mem_append.mp hq with h | h
    · exact hL q h
    · rw [List.mem_singleton.mp h]
      exact Nat.le_add_right _ _
theorem am_dflt (h : ∀ k : Nat, σ.2.1 σ.1.length k = 0 ∧ σ.2.2.1 σ.1.length k = 0 ∧ σ.2.2.2 σ.1.length k = .null) {ty : FieldType} (hk : am_kd ty < 3) (j : Nat) : defaultValue ty = am_rel g (am_fa σ σ.1.length ty j) := by
  obtain ⟨a, b, c⟩ := h j
  unfold am_fa
  rw [a, b, c]
  cases ty <;> first | rfl | (exact absurd hk (by decide))
theorem kr_new (G : am_G g) {idx ci N : Nat} {C : String} {T : u_T} (hc : vwCl[ci]? = some (C, T, N)) (hd : decode M.2.1 pc = .ok (.new idx, 3)) (hlk : Cond.classLink M.1.cls idx C ∈ lw_tbl) (hin : Cond.instantiable C N ∈ lw_tbl) (hini : Cond.initialized C ∈ lw_tbl) (kk : am_K g d M mc ms (pc + 3) lv (.ref σ.1.length :: st) (σ.1 ++ [.inl ci], σ.2) post) : am_K g d M (mc + 1) (ms + N) pc lv st σ post := by
  intro p e R s m args below meth c H locs cells slots ls F h1 h2 h3 h4 hR hL hl
  have hts := am_hts G F.2.2.2.2.2.2.1 args
  have hK := am_hK G F.2.2.2.2.2.2.1
  have hKn := hK.1 ci _ hc
  obtain ⟨hlay, hty, -, hkd⟩ := am_lay hc
  have hr4 : ∀ k : Nat, σ.2.1 σ.1.length k = 0 ∧ σ.2.2.1 σ.1.length k = 0 ∧ σ.2.2.2 σ.1.length k = .null := fun k => hR.2.2.2 _ k (Nat.le_refl _)
  refine W.newcK F.1 F.2.1 F.2.2.2.2.2.1 (am_w G F.2.2.2.2.2.2.1 args hlk rfl) (am_w G F.2.2.2.2.2.2.1 args hin rfl) (am_w G F.2.2.2.2.2.2.1 args hini rfl) rfl hd (by omega) (by omega) hKn.2.1 rfl fun H1 kC hkC e1 z1 o1 => ?_
  rw [show cells + (mc + 1) = cells + 1 + mc by omega, show slots + (ms + N) = slots + N + ms by omega]
  have hh : Value.ref H.size = am_rel g (.ref σ.1.length) := by rw [hR.1]; rfl
  rw [hh]
  refine kk p e R s m args below meth c H1 locs (cells + 1) (slots + N) ls F h1 h2 (by omega) (by omega) (am_Rep_push hR z1 o1 ?_) hL hl
  intro y hy
  have hy' : y = .inr (ci, am_of g σ σ.1.length ci N) := by
    simp [am_ce, hc] at hy
    exact hy.symm
  subst hy'
  refine ⟨_, hc, (u_born (am_ty ci) hts hlay hKn hkC e1 hty).to fun j hj => ?_⟩
  show _ = vp_V _ j
  simp only [vp_V, List.getD, am_of_at g σ σ.1.length ci N j hj, Option.getD_some]
  exact am_dflt hr4 (hkd j hj) j
theorem am_ac_int : Cond.arrayClass .int ∈ lw_tbl := by decide +kernel
theorem am_ac_byte : Cond.arrayClass .byte ∈ lw_tbl := by decide +kernel
theorem am_ac_long : Cond.arrayClass .long ∈ lw_tbl := by decide +kernel
theorem am_ac_boolean : Cond.arrayClass .boolean ∈ lw_tbl := by decide +kernel
theorem kr_new_int (G : am_G g) {n : Int32} {N : Nat} (hd : decode M.2.1 pc = .ok (.newarray .int, 2)) (hn : ¬ n < 0) (hN : n.toNatClampNeg = N) (hb : N ≤ 60000000) (kk : am_K g d M mc ms (pc + 2) lv (.ref σ.1.length :: st) (σ.1 ++ [.inr (.int, N)], σ.2) post) : am_K g d M (mc + 1) (ms + N) pc lv (.int n :: st) σ post := by
  intro p e R s m args below meth c H locs cells slots ls F h1 h2 h3 h4 hR hL hl
  have hK := am_hK G F.2.2.2.2.2.2.1
  have hr4 : ∀ k : Nat, σ.2.1 σ.1.length k = 0 ∧ σ.2.2.1 σ.1.length k = 0 ∧ σ.2.2.2 σ.1.length k = .null := fun k => hR.2.2.2 _ k (Nat.le_refl _)
  refine va_newaK F.1 F.2.1 (atype := .int) (am_w G F.2.2.2.2.2.2.1 args am_ac_int rfl) rfl hd rfl hn hN (by simp only [newarray.typeOf, componentBytes]; omega) (by omega) (by omega) rfl fun H1 cA e1 z1 o1 hA hNm => ?_
  have hcA : cA = g.2.2.2.2.1 .int := Option.some.inj (hNm.symm.trans (hK.2 0 _ rfl).2)
  subst hcA
  rw [show cells + (mc + 1) = cells + 1 + mc by omega, show slots + (ms + N) = slots + N + ms by omega]
  have hh : Value.ref H.size = am_rel g (.ref σ.1.length) := by rw [hR.1]; rfl
  rw [hh]
  refine kk p e R s m args below meth c H1 locs (cells + 1) (slots + N) ls F h1 h2 (by omega) (by omega) (am_Rep_push hR z1 o1 ?_) hL hl
  intro y hy
  cases hy
  show H1[H.size]? = some (vp_cell _ _)
  rw [e1, vp_cell_i]
  congr 2
  funext q
  rw [(hr4 q).1]
  rfl
theorem kr_new_byte (G : am_G g) {n : Int32} {N : Nat} (hd : decode M.2.1 pc = .ok (.newarray .byte, 2)) (hn : ¬ n < 0) (hN : n.toNatClampNeg = N) (hb : N ≤ 60000000) (kk : am_K g d M mc ms (pc + 2) lv (.ref σ.1.length :: st) (σ.1 ++ [.inr (.byte, N)], σ.2) post) : am_K g d M (mc + 1) (ms + N) pc lv (.int n :: st) σ post := by
  intro p e R s m args below meth c H locs cells slots ls F h1 h2 h3 h4 hR hL hl
  have hK := am_hK G F.2.2.2.2.2.2.1
  have hr4 : ∀ k : Nat, σ.2.1 σ.1.length k = 0 ∧ σ.2.2.1 σ.1.length k = 0 ∧ σ.2.2.2 σ.1.length k = .null := fun k => hR.2.2.2 _ k (Nat.le_refl _)
  refine va_newaK F.1 F.2.1 (atype := .byte) (am_w G F.2.2.2.2.2.2.1 args am_ac_byte rfl) rfl hd rfl hn hN (by simp only [newarray.typeOf, componentBytes]; omega) (by omega) (by omega) rfl fun H1 cA e1 z1 o1 hA hNm => ?_
  have hcA : cA = g.2.2.2.2.1 .byte := Option.some.inj (hNm.symm.trans (hK.2 1 _ rfl).2)
  subst hcA
  rw [show cells + (mc + 1) = cells + 1 + mc by omega, show slots + (ms + N) = slots + N + ms by omega]
  have hh : Value.ref H.size = am_rel g (.ref σ.1.length) := by rw [hR.1]; rfl
  rw [hh]
  refine kk p e R s m args below meth c H1 locs (cells + 1) (slots + N) ls F h1 h2 (by omega) (by omega) (am_Rep_push hR z1 o1 ?_) hL hl
  intro y hy
  cases hy
  show H1[H.size]? = some (vp_cell _ _)
  rw [e1, vp_cell_i]
  congr 2
  funext q
  rw [(hr4 q).1]
  rfl
theorem kr_new_long (G : am_G g) {n : Int32} {N : Nat} (hd : decode M.2.1 pc = .ok (.newarray .long, 2)) (hn : ¬ n < 0) (hN : n.toNatClampNeg = N) (hb : N ≤ 60000000) (kk : am_K g d M mc ms (pc + 2) lv (.ref σ.1.length :: st) (σ.1 ++ [.inr (.long, N)], σ.2) post) : am_K g d M (mc + 1) (ms + N) pc lv (.int n :: st) σ post := by
  intro p e R s m args below meth c H locs cells slots ls F h1 h2 h3 h4 hR hL hl
  have hK := am_hK G F.2.2.2.2.2.2.1
  have hr4 : ∀ k : Nat, σ.2.1 σ.1.length k = 0 ∧ σ.2.2.1 σ.1.length k = 0 ∧ σ.2.2.2 σ.1.length k = .null := fun k => hR.2.2.2 _ k (Nat.le_refl _)
  refine va_newaK F.1 F.2.1 (atype := .long) (am_w G F.2.2.2.2.2.2.1 args am_ac_long rfl) rfl hd rfl hn hN (by simp only [newarray.typeOf, componentBytes]; omega) (by omega) (by omega) rfl fun H1 cA e1 z1 o1 hA hNm => ?_
  have hcA : cA = g.2.2.2.2.1 .long := Option.some.inj (hNm.symm.trans (hK.2 2 _ rfl).2)
  subst hcA
  rw [show cells + (mc + 1) = cells + 1 + mc by omega, show slots + (ms + N) = slots + N + ms by omega]
  have hh : Value.ref H.size = am_rel g (.ref σ.1.length) := by rw [hR.1]; rfl
  rw [hh]
  refine kk p e R s m args below meth c H1 locs (cells + 1) (slots + N) ls F h1 h2 (by omega) (by omega) (am_Rep_push hR z1 o1 ?_) hL hl
  intro y hy
  cases hy
  show H1[H.size]? = some (vp_cell _ _)
  rw [e1, vp_cell_l]
  congr 2
  funext q
  rw [(hr4 q).2.1]
  rfl
theorem kr_new_boolean (G : am_G g) {n : Int32} {N : Nat} (hd : decode M.2.1 pc = .ok (.newarray .boolean, 2)) (hn : ¬ n < 0) (hN : n.toNatClampNeg = N) (hb : N ≤ 60000000) (kk : am_K g d M mc ms (pc + 2) lv (.ref σ.1.length :: st) (σ.1 ++ [.inr (.boolean, N)], σ.2) post) : am_K g d M (mc + 1) (ms + N) pc lv (.int n :: st) σ post := by
  intro p e R s m args below meth c H locs cells slots ls F h1 h2 h3 h4 hR hL hl
  have hK := am_hK G F.2.2.2.2.2.2.1
  have hr4 : ∀ k : Nat, σ.2.1 σ.1.length k = 0 ∧ σ.2.2.1 σ.1.length k = 0 ∧ σ.2.2.2 σ.1.length k = .null := fun k => hR.2.2.2 _ k (Nat.le_refl _)
  refine va_newaK F.1 F.2.1 (atype := .boolean) (am_w G F.2.2.2.2.2.2.1 args am_ac_boolean rfl) rfl hd rfl hn hN (by simp only [newarray.typeOf, componentBytes]; omega) (by omega) (by omega) rfl fun H1 cA e1 z1 o1 hA hNm => ?_
  have hcA : cA = g.2.2.2.2.1 .boolean := Option.some.inj (hNm.symm.trans (hK.2 3 _ rfl).2)
  subst hcA
  rw [show cells + (mc + 1) = cells + 1 + mc by omega, show slots + (ms + N) = slots + N + ms by omega]
  have hh : Value.ref H.size = am_rel g (.ref σ.1.length) := by rw [hR.1]; rfl
  rw [hh]
  refine kk p e R s m args below meth c H1 locs (cells + 1) (slots + N) ls F h1 h2 (by omega) (by omega) (am_Rep_push hR z1 o1 ?_) hL hl
  intro y hy
  cases hy
  show H1[H.size]? = some (vp_cell _ _)
  rw [e1, vp_cell_i]
  congr 2
  funext q
  rw [(hr4 q).1]
  rfl
theorem am_ao : Cond.arrayOver (.object "WindowSale$Scene") ∈ lw_tbl := by decide +kernel
theorem kr_newq (G : am_G g) {idx : Nat} {n : Int32} {N : Nat} (hd : decode M.2.1 pc = .ok (.anewarray idx, 3)) (hlk : Cond.classLink M.1.cls idx "WindowSale$Scene" ∈ lw_tbl) (hn : ¬ n < 0) (hN : n.toNatClampNeg = N) (hb : N ≤ 60000000) (kk : am_K g d M mc ms (pc + 3) lv (.ref σ.1.length :: st) (σ.1 ++ [.inr (.object "WindowSale$Scene", N)], σ.2) post) : am_K g d M (mc + 1) (ms + N) pc lv (.int n :: st) σ post := by
  intro p e R s m args below meth c H locs cells slots ls F h1 h2 h3 h4 hR hL hl
  have hK := am_hK G F.2.2.2.2.2.2.1
  have hr4 : ∀ k : Nat, σ.2.1 σ.1.length k = 0 ∧ σ.2.2.1 σ.1.length k = 0 ∧ σ.2.2.2 σ.1.length k = .null := fun k => hR.2.2.2 _ k (Nat.le_refl _)
  subst hN
  have hao : va_AO "WindowSale$Scene" s := va_AO.moved F.2.2.2.2.2.2.1.alike (va_AO.of (G.1 _ am_ao))
  refine W.anew F.1 F.2.1 F.2.2.2.2.2.1 (am_w G F.2.2.2.2.2.2.1 args hlk rfl) (va_AO.use hao) rfl hd rfl hn (by omega) (by omega) (by omega) fun cA kA comp f1 f2 f3 f4 => ?_
  obtain ⟨kA9, comp9, k1, k2, k3, k4⟩ := (hK.2 4 _ rfl).2
  have hcA : cA = g.2.2.2.2.1 (.object "WindowSale$Scene") := Option.some.inj (f1.symm.trans k4)
  subst hcA
  generalize hH1 : H.push ({ cls := g.2.2.2.2.1 (.object "WindowSale$Scene"), slots := Array.replicate n.toNatClampNeg .null, vm := .none } : Cell) = H1
  have z1 : H1.size = H.size + 1 := by rw [← hH1, Array.size_push]
  have e1 : H1[H.size]? = some (arrV (g.2.2.2.2.1 (.object "WindowSale$Scene")) n.toNatClampNeg (fun _ => .null)) := by rw [← hH1, Array.getElem?_push_size, ← arrV_new]
  have o1 : ∀ q : Nat, q < H.size → H1[q]? = H[q]? := fun q hq => by rw [← hH1, Array.getElem?_push, if_neg (Nat.ne_of_lt hq)]
  rw [show cells + (mc + 1) = cells + 1 + mc by omega, show slots + (ms + n.toNatClampNeg) = slots + n.toNatClampNeg + ms by omega]
  have hh : Value.ref H.size = am_rel g (.ref σ.1.length) := by rw [hR.1]; rfl
  rw [hh]
  refine kk p e R s m args below meth c H1 locs (cells + 1) (slots + n.toNatClampNeg) ls F h1 h2 (by omega) (by omega) (am_Rep_push hR z1 o1 ?_) hL hl
  intro y hy
  cases hy
  show H1[H.size]? = some (vp_cell _ _)
  rw [e1, vp_cell_q]
  congr 2
  funext q
  rw [(hr4 q).2.2]
  rfl
theorem kr_gets (G : am_G g) {idx x : Nat} {n : String} (hd : decode M.2.1 pc = .ok (.getstatic idx, 3)) (hZ : va_Z "WindowSale$Station" n "[I" (.ref (g.2.2.2.2.2.1 x)) (fun q => am_b0 g ≤ q) g.2.1 g.2.1.heap) (hlk : Cond.fieldLink M.1.cls idx "WindowSale$Station" n "[I" ∈ lw_tbl) (kk : am_K g d M mc ms (pc + 3) lv (.retAddr x :: st) σ post) : am_K g d M mc ms pc lv st σ post := by
  intro p e R s m args below meth c H locs cells slots ls F h1 h2 h3 h4 hR hL hl
  obtain ⟨cf, kf, fi, f, a, cell, z1, z2, z3, z4, z5, z6, z7, z8⟩ := va_Z.moved F.2.2.2.2.2.2.1.alike hZ
  exact W.gets F.1 F.2.1 F.2.2.2.2.2.1 (am_w G F.2.2.2.2.2.2.1 args hlk rfl) z1 z2 z3 z4 (by rw [hR.2.2.1 a (Nat.not_le.mp z8)]; exact z5) (fun q => by rw [q] at z6; cases z6) z7 rfl hd (kk p e R s m args below meth c H locs cells slots ls F h1 h2 h3 h4 hR hL hl)
theorem kr_ldcS (G : am_G g) {idx x : Nat} {tx : String} (hd : decode M.2.1 pc = .ok (.ldc idx, 2)) (hw : Cond.stringRef M.1.cls idx tx ∈ lw_tbl) (hx : am_sx M.1.cls idx = x) (kk : am_K g d M mc ms (pc + 2) lv (.retAddr x :: st) σ post) : am_K g d M mc ms pc lv st σ post := by
  intro p e R s m args below meth c H locs cells slots ls F h1 h2 h3 h4 hR hL hl
  subst hx
  exact va_ldcS F.1 F.2.1 F.2.2.2.2.2.1 (vk_R.warm F.2.2.2.2.2.2.1 (G.2.2.2.2.1 _ _ _ hw)) hd (kk p e R s m args below meth c H locs cells slots ls F h1 h2 h3 h4 hR hL hl)
end KA
