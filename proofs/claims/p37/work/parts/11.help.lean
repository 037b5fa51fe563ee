/-! small helps for walks that a program writes -/
section KH
variable {g : am_C} {d : Nat} {M M1 : am_M} {mc ms mc1 ms1 pc d1 n idx : Nat} {lv : List (Nat × Value)} {st stk as : List Value} {σ σ1 : am_S} {post post1 : Option (Option Value) → am_S → Prop}
theorem kr_top {x y : Value} (h : x = y) (k : am_K g d M mc ms pc lv (y :: st) σ post) : am_K g d M mc ms pc lv (x :: st) σ post := by rw [h]; exact k
theorem kr_topi {x y : Int32} (h : x = y) (k : am_K g d M mc ms pc lv (.int y :: st) σ post) : am_K g d M mc ms pc lv (.int x :: st) σ post := by rw [h]; exact k
theorem kr_mono (h : ∀ r σ', post1 r σ' → post r σ') (k : am_K g d M mc ms pc lv st σ post1) : am_K g d M mc ms pc lv st σ post := by
  intro p e R s m args below meth c H locs cells slots ls F h1 h2 h3 h4 hR hL hl
  refine am_wmono ?_ (k p e R s m args below meth c H locs cells slots ls F h1 h2 h3 h4 hR hL hl)
  intro t ht
  obtain ⟨o, a1, a2, ⟨⟨v, σ', ho, hp, hr⟩, L9, f1⟩ | ⟨q, e1, E, ce, L9, ⟨e2, σ', h9, hr⟩, e3⟩⟩ := ht
  · exact ⟨o, a1, a2, Or.inl ⟨⟨v, σ', ho, h _ _ hp, hr⟩, L9, f1⟩⟩
  · exact ⟨o, a1, a2, Or.inr ⟨q, e1, E, ce, L9, ⟨e2, σ', h _ _ h9, hr⟩, e3⟩⟩
/-- fewer cells, fewer frames are enough -/
theorem kr_less {d2 mc2 ms2 : Nat} (hd : d2 ≤ d) (hc : mc2 ≤ mc) (hs : ms2 ≤ ms) (k : am_K g d2 M mc2 ms2 pc lv st σ post) : am_K g d M mc ms pc lv st σ post := by
  intro p e R s m args below meth c H locs cells slots ls F h1 h2 h3 h4 hR hL hl
  refine am_wmono ?_ (k p e R s m args below meth c H locs cells slots ls F (by omega) (by omega) (by omega) (by omega) hR hL hl)
  intro t ht
  obtain ⟨o, a1, a2, ⟨h5, L9, ⟨f1, f2, f3⟩, f4⟩ | ⟨q, e1, E, ce, L9, h5, e3, e4, e5, e6, e7, e8⟩⟩ := ht
  · exact ⟨o, a1, a2, Or.inl ⟨h5, L9, ⟨f1, f2, f3.mono (by omega) (by omega)⟩, f4⟩⟩
  · exact ⟨o, a1, a2, Or.inr ⟨q, e1, E, ce, L9, h5, e3, e4, e5, e6, e7.mono (by omega) (by omega), e8⟩⟩
/-- ends that calls come to: just this answer and this memory; some int and this memory -/
abbrev am_to (v : Option Value) (σ1 : am_S) : Option (Option Value) → am_S → Prop := fun r s' => r = some v ∧ s' = σ1
theorem am_to_nt (v : Option Value) (σ1 : am_S) : ∀ σ', ¬ am_to v σ1 none σ' := fun _ h => by cases h.1
abbrev am_any (σ1 : am_S) : Option (Option Value) → am_S → Prop := fun r s' => (∃ x : Int32, r = some (some (.int x))) ∧ s' = σ1
theorem am_any_nt (σ1 : am_S) : ∀ σ', ¬ am_any σ1 none σ' := fun _ h => by obtain ⟨⟨x, h⟩, -⟩ := h; cases h
theorem am_toK {v : Option Value} (k : am_K g d M mc ms pc lv (v.toList ++ st) σ1 post) : ∀ w σ', am_to v σ1 (some w) σ' → am_K g d M mc ms pc lv (w.toList ++ st) σ' post := by
  intro w σ' h
  obtain ⟨h1, rfl⟩ := h
  cases h1
  exact k
theorem am_anyK (k : ∀ x : Int32, am_K g d M mc ms pc lv (.int x :: st) σ1 post) : ∀ w σ', am_any σ1 (some w) σ' → am_K g d M mc ms pc lv (w.toList ++ st) σ' post := by
  intro w σ' h
  obtain ⟨⟨x, h1⟩, rfl⟩ := h
  cases h1
  exact k x
theorem am_ap {S : List am_sh} {o : Nat} {x y : am_sh} (h : S[o]? = some x) : (S ++ [y])[o]? = some x := by
  rw [List.getElem?_append_left (List.getElem?_eq_some_iff.mp h).1]
  exact h
theorem am_last {S : List am_sh} {n : Nat} {x : am_sh} (h : S.length = n) : (S ++ [x])[n]? = some x := by
  rw [← h]
  simp
theorem am_len {S : List am_sh} {n : Nat} {x : am_sh} (h : S.length = n) : (S ++ [x]).length = n + 1 := by simp [h]
theorem kr_newn (G : am_G g) {ci N k : Nat} {C : String} {T : u_T} (hn : σ.1.length = k) (hc : vwCl[ci]? = some (C, T, N)) (hd : decode M.2.1 pc = .ok (.new idx, 3)) (hlk : Cond.classLink M.1.cls idx C ∈ lw_tbl) (hin : Cond.instantiable C N ∈ lw_tbl) (hini : Cond.initialized C ∈ lw_tbl) (kk : am_K g d M mc ms (pc + 3) lv (.ref k :: st) (σ.1 ++ [.inl ci], σ.2) post) : am_K g d M (mc + 1) (ms + N) pc lv st σ post := by
  subst hn
  exact kr_new G hc hd hlk hin hini kk
theorem kr_newn_int (G : am_G g) {x : Int32} {N k : Nat} (hn : σ.1.length = k) (hd : decode M.2.1 pc = .ok (.newarray .int, 2)) (h0 : ¬ x < 0) (hN : x.toNatClampNeg = N) (hb : N ≤ 60000000) (kk : am_K g d M mc ms (pc + 2) lv (.ref k :: st) (σ.1 ++ [.inr (.int, N)], σ.2) post) : am_K g d M (mc + 1) (ms + N) pc lv (.int x :: st) σ post := by
  subst hn
  exact kr_new_int G hd h0 hN hb kk
theorem kr_newn_byte (G : am_G g) {x : Int32} {N k : Nat} (hn : σ.1.length = k) (hd : decode M.2.1 pc = .ok (.newarray .byte, 2)) (h0 : ¬ x < 0) (hN : x.toNatClampNeg = N) (hb : N ≤ 60000000) (kk : am_K g d M mc ms (pc + 2) lv (.ref k :: st) (σ.1 ++ [.inr (.byte, N)], σ.2) post) : am_K g d M (mc + 1) (ms + N) pc lv (.int x :: st) σ post := by
  subst hn
  exact kr_new_byte G hd h0 hN hb kk
theorem kr_newn_long (G : am_G g) {x : Int32} {N k : Nat} (hn : σ.1.length = k) (hd : decode M.2.1 pc = .ok (.newarray .long, 2)) (h0 : ¬ x < 0) (hN : x.toNatClampNeg = N) (hb : N ≤ 60000000) (kk : am_K g d M mc ms (pc + 2) lv (.ref k :: st) (σ.1 ++ [.inr (.long, N)], σ.2) post) : am_K g d M (mc + 1) (ms + N) pc lv (.int x :: st) σ post := by
  subst hn
  exact kr_new_long G hd h0 hN hb kk
theorem kr_newn_boolean (G : am_G g) {x : Int32} {N k : Nat} (hn : σ.1.length = k) (hd : decode M.2.1 pc = .ok (.newarray .boolean, 2)) (h0 : ¬ x < 0) (hN : x.toNatClampNeg = N) (hb : N ≤ 60000000) (kk : am_K g d M mc ms (pc + 2) lv (.ref k :: st) (σ.1 ++ [.inr (.boolean, N)], σ.2) post) : am_K g d M (mc + 1) (ms + N) pc lv (.int x :: st) σ post := by
  subst hn
  exact kr_new_boolean G hd h0 hN hb kk
theorem kr_newnq (G : am_G g) {x : Int32} {N k : Nat} (hn : σ.1.length = k) (hd : decode M.2.1 pc = .ok (.anewarray idx, 3)) (hlk : Cond.classLink M.1.cls idx "WindowSale$Scene" ∈ lw_tbl) (h0 : ¬ x < 0) (hN : x.toNatClampNeg = N) (hb : N ≤ 60000000) (kk : am_K g d M mc ms (pc + 3) lv (.ref k :: st) (σ.1 ++ [.inr (.object "WindowSale$Scene", N)], σ.2) post) : am_K g d M (mc + 1) (ms + N) pc lv (.int x :: st) σ post := by
  subst hn
  exact kr_newq G hd hlk h0 hN hb kk
end KH
