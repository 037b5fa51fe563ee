/-! two ways to speak of one and the same end -/
theorem am_end1 {tb : Tables} {e : Env} {below : List Frame} {s t1 t2 : State} {o1 o2 : Outcome} (h1 : Steps tb e below s t1) (h2 : Steps tb e below s t2) (e1 : Ended t1 below o1) (e2 : Ended t2 below o2) : t1 = t2 := by
  obtain ⟨n1, a1, b1⟩ := h1
  obtain ⟨n2, a2, b2⟩ := h2
  rcases Nat.lt_trichotomy n1 n2 with h | h | h
  · have := b2 n1 h
    rw [a1] at this
    exact absurd this e1.not_within
  · subst h
    exact a1.symm.trans a2
  · have := b1 n2 h
    rw [a2] at this
    exact absurd this e2.not_within
/-- the same heap -/
def am_eqv (g : am_C) (σ σ' : am_S) : Prop := ∃ H : Heap, am_Rep g σ H ∧ am_Rep g σ' H
theorem am_and {g : am_C} {d : Nat} {M : am_M} {mc ms pc : Nat} {lv : List (Nat × Value)} {st : List Value} {σ : am_S} {post1 post2 : Option (Option Value) → am_S → Prop} (h1 : am_K g d M mc ms pc lv st σ post1) (h2 : am_K g d M mc ms pc lv st σ post2) (hi : ∀ v σ', post2 (some v) σ' → v = none ∨ ∃ x : Int32, v = some (.int x)) (hn : ∀ σ', ¬ post2 none σ') : am_K g d M mc ms pc lv st σ (fun r σ' => post1 r σ' ∧ ∃ σ2, post2 r σ2 ∧ am_eqv g σ' σ2) := by
  intro p e R s m args below meth c H locs cells slots ls F a1 a2 a3 a4 hR hL hl T hT X
  obtain ⟨t1, s1, o1, r1, e1, q1⟩ := h1 p e R s m args below meth c H locs cells slots ls F a1 a2 a3 a4 hR hL hl T hT X
  obtain ⟨t2, s2, o2, r2, e2, q2⟩ := h2 p e R s m args below meth c H locs cells slots ls F a1 a2 a3 a4 hR hL hl T hT X
  have et := am_end1 s1 s2 e1 e2
  subst et
  have eo := e1.outcome_unique e2
  subst eo
  refine ⟨t1, s1, o1, r1, e1, ?_⟩
  rcases q2 with ⟨⟨v2, σ2, ev2, p2, R2⟩, -⟩ | ⟨q, eq, E, ce, L, ⟨-, σ2, p2, -⟩, -⟩
  · rcases q1 with ⟨⟨v1, σ1, ev1, p1, R1⟩, hL1⟩ | ⟨q, eq, -⟩
    · have ev : v1 = v2 := by
        rw [ev2] at ev1
        have e3 : v2.map (am_rel g) = v1.map (am_rel g) := by injection ev1
        rcases hi v2 σ2 p2 with rfl | ⟨x, rfl⟩
        · cases v1 with
          | none => rfl
          | some w => cases e3
        · cases v1 with
          | none => cases e3
          | some w =>
            have e4 : am_rel g (.int x) = am_rel g w := Option.some.inj e3
            cases w with
            | int y => exact congrArg some e4.symm
            | ref y => cases e4
            | retAddr y => cases e4
            | _ => first | cases e4 | exact congrArg some e4.symm
      subst ev
      exact Or.inl ⟨⟨v1, σ1, ev1, ⟨p1, σ2, p2, t1.heap, R1, R2⟩, R1⟩, hL1⟩
    · rw [eq] at ev2
      cases ev2
  · exact absurd p2 (hn σ2)
theorem am_eqvI {g : am_C} {σ σ' : am_S} (h : am_eqv g σ σ') {o n k : Nat} {ty : FieldType} (hty : am_kd ty = 0) (h1 : σ.1[o]? = some (.inr (ty, n))) (h2 : σ'.1[o]? = some (.inr (ty, n))) (hk : k < n) : σ.2.1 o k = σ'.2.1 o k := by
  obtain ⟨H, R1, R2⟩ := h
  have c1 : am_ce g σ o (.inr (ty, n)) = some (.inl (g.2.2.2.2.1 ty, n, .inl (σ.2.1 o))) := by
    show am_ar g σ o ty n = _
    unfold am_ar
    rw [hty]
    rfl
  have c2 : am_ce g σ' o (.inr (ty, n)) = some (.inl (g.2.2.2.2.1 ty, n, .inl (σ'.2.1 o))) := by
    show am_ar g σ' o ty n = _
    unfold am_ar
    rw [hty]
    rfl
  have e1 : H[am_b0 g + o]? = some (vp_cell (g.2.2.2.2.1 ty) (n, .inl (σ.2.1 o))) := R1.2.1 o _ _ h1 c1
  have e2 : H[am_b0 g + o]? = some (vp_cell (g.2.2.2.2.1 ty) (n, .inl (σ'.2.1 o))) := R2.2.1 o _ _ h2 c2
  rw [e1] at e2
  have e3 : vp_cell (g.2.2.2.2.1 ty) (n, .inl (σ.2.1 o)) = vp_cell (g.2.2.2.2.1 ty) (n, .inl (σ'.2.1 o)) := Option.some.inj e2
  have f1 := arrV_read (g.2.2.2.2.1 ty) (fun j => Value.int (σ.2.1 o j)) hk
  have f2 := arrV_read (g.2.2.2.2.1 ty) (fun j => Value.int (σ'.2.1 o j)) hk
  rw [vp_cell_i, vp_cell_i] at e3
  rw [e3, f2] at f1
  have f3 : Value.int (σ'.2.1 o k) = Value.int (σ.2.1 o k) := Option.some.inj f1
  injection f3 with f4
  exact f4.symm
theorem am_eqvF {g : am_C} {σ σ' : am_S} (h : am_eqv g σ σ') {o ci k : Nat} {q : vw_C} (hq : vwCl[ci]? = some q) (hk : k < q.2.2) (hty : am_kd (am_ty ci k) = 0) (h1 : σ.1[o]? = some (.inl ci)) (h2 : σ'.1[o]? = some (.inl ci)) : σ.2.1 o k = σ'.2.1 o k := by
  obtain ⟨H, R1, R2⟩ := h
  have c1 : am_ce g σ o (.inl ci) = some (.inr (ci, am_of g σ o ci q.2.2)) := by
    show (vwCl[ci]?).map _ = _
    rw [hq]
    rfl
  have c2 : am_ce g σ' o (.inl ci) = some (.inr (ci, am_of g σ' o ci q.2.2)) := by
    show (vwCl[ci]?).map _ = _
    rw [hq]
    rfl
  obtain ⟨r1, z1, cell1, y1, -, -, w1⟩ := R1.2.1 o _ _ h1 c1
  obtain ⟨r2, z2, cell2, y2, -, -, w2⟩ := R2.2.1 o _ _ h2 c2
  have z1' : vwCl[ci]? = some r1 := z1
  have z2' : vwCl[ci]? = some r2 := z2
  rw [hq] at z1' z2'
  cases z1'
  cases z2'
  have y1' : H[am_b0 g + o]? = some cell1 := y1
  have y2' : H[am_b0 g + o]? = some cell2 := y2
  rw [y1'] at y2'
  cases y2'
  have v1 := w1 k hk
  have v2 := w2 k hk
  rw [v1] at v2
  have v3 : vp_V (am_of g σ o ci q.2.2) k = vp_V (am_of g σ' o ci q.2.2) k := Option.some.inj v2
  have u : ∀ τ : am_S, vp_V (am_of g τ o ci q.2.2) k = .int (τ.2.1 o k) := by
    intro τ
    unfold vp_V am_of
    rw [List.getD_eq_getElem?_getD, List.getElem?_map, List.getElem?_range hk]
    show am_rel g (am_fa τ o (am_ty ci k) k) = _
    rw [ex_fa0 hty]
    rfl
  rw [u, u] at v3
  injection v3
