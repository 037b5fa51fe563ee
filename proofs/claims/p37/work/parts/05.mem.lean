/-! rows that read and write the memory -/
def am_up {α : Type} (f : Nat → Nat → α) (o k : Nat) (v : α) : Nat → Nat → α := fun a b => if a = o ∧ b = k then v else f a b
theorem am_up_s {α : Type} (f : Nat → Nat → α) (o k : Nat) (v : α) : am_up f o k v o k = v := by simp [am_up]
theorem am_up_n {α : Type} (f : Nat → Nat → α) {o k : Nat} (v : α) {a b : Nat} (h : ¬ (a = o ∧ b = k)) : am_up f o k v a b = f a b := by simp [am_up, h]
theorem am_up_o {α : Type} (f : Nat → Nat → α) {o k : Nat} (v : α) {a b : Nat} (h : a ≠ o) : am_up f o k v a b = f a b := by simp [am_up, h]
abbrev am_tys (g : am_C) : List (ClassId × FieldType) := [(g.2.2.2.2.1 .int, .int), (g.2.2.2.2.1 .byte, .byte), (g.2.2.2.2.1 .long, .long), (g.2.2.2.2.1 .boolean, .boolean), (g.2.2.2.2.1 (.object "WindowSale$Scene"), .object "WindowSale$Scene")]
theorem am_P1 {D : va_G} {cl : List vw_C} {q : Nat × va_E} {H : Heap} (h : va_at D cl q H) : va_P D cl [q] H := by
  intro k x hx
  have hz : k < 1 := (List.getElem?_eq_some_iff.mp hx).1
  rw [show k = 0 by omega] at hx
  cases hx
  exact h
theorem am_lay0 : (∀ w ∈ wsX00, w ∈ lw_tbl) ∧ ∀ k, k < 3 → am_kd (tyX0 k) < 3 := ⟨by decide +kernel, by decide +kernel⟩
theorem am_lay1 : (∀ w ∈ wsX10, w ∈ lw_tbl) ∧ ∀ k, k < 4 → am_kd (tyX1 k) < 3 := ⟨by decide +kernel, by decide +kernel⟩
theorem am_lay2 : (∀ w ∈ wsX20, w ∈ lw_tbl) ∧ ∀ k, k < 8 → am_kd (tyX2 k) < 3 := ⟨by decide +kernel, by decide +kernel⟩
theorem am_lay3 : (∀ w ∈ wsX30, w ∈ lw_tbl) ∧ ∀ k, k < 3 → am_kd (tyX3 k) < 3 := ⟨by decide +kernel, by decide +kernel⟩
theorem am_lay4 : (∀ w ∈ wsX40, w ∈ lw_tbl) ∧ ∀ k, k < 20 → am_kd (tyX4 k) < 3 := ⟨by decide +kernel, by decide +kernel⟩
theorem am_lay5 : (∀ w ∈ wsX50, w ∈ lw_tbl) ∧ ∀ k, k < 6 → am_kd (tyX5 k) < 3 := ⟨by decide +kernel, by decide +kernel⟩
theorem am_lay6 : (∀ w ∈ wsX60, w ∈ lw_tbl) ∧ ∀ k, k < 9 → am_kd (tyX6 k) < 3 := ⟨by decide +kernel, by decide +kernel⟩
theorem am_lay7 : (∀ w ∈ wsX70, w ∈ lw_tbl) ∧ ∀ k, k < 11 → am_kd (tyX7 k) < 3 := ⟨by decide +kernel, by decide +kernel⟩
theorem am_lay8 : (∀ w ∈ wsX80, w ∈ lw_tbl) ∧ ∀ k, k < 4 → am_kd (tyX8 k) < 3 := ⟨by decide +kernel, by decide +kernel⟩
theorem am_lay9 : (∀ w ∈ wsX90, w ∈ lw_tbl) ∧ ∀ k, k < 11 → am_kd (tyX9 k) < 3 := ⟨by decide +kernel, by decide +kernel⟩
theorem am_lay10 : (∀ w ∈ wsX100, w ∈ lw_tbl) ∧ ∀ k, k < 2 → am_kd (tyX10 k) < 3 := ⟨by decide +kernel, by decide +kernel⟩
theorem am_lay11 : (∀ w ∈ wsX110, w ∈ lw_tbl) ∧ ∀ k, k < 17 → am_kd (tyX11 k) < 3 := ⟨by decide +kernel, by decide +kernel⟩
theorem am_lay12 : (∀ w ∈ wsX120, w ∈ lw_tbl) ∧ ∀ k, k < 47 → am_kd (tyX12 k) < 3 := ⟨by decide +kernel, by decide +kernel⟩
theorem am_goodlay {C : String} {T : u_T} {N : Nat} (h : ∀ w ∈ u_ws C T N, w ∈ lw_tbl) : ∀ w ∈ u_ws C T N, w ∈ am_T := by
  intro w hw
  refine List.mem_filter.mpr ⟨h w hw, ?_⟩
  obtain ⟨k, -, rfl⟩ := List.mem_map.mp hw
  unfold u_lay
  split <;> rfl
/-- the classes' tables -/
theorem am_lay {ci : Nat} {C : String} {T : u_T} {N : Nat} (h : vwCl[ci]? = some (C, T, N)) : (∀ w ∈ u_ws C T N, w ∈ am_T) ∧ (∀ k, k < N → parseFieldDescriptor (T k).2.2.1 = some (am_ty ci k)) ∧ (∀ a, a < N → ∀ b, b < N → a ≠ b → (T a).2.1 ≠ (T b).2.1) ∧ ∀ k, k < N → am_kd (am_ty ci k) < 3 := by
  match ci, h with
  | 0, h => cases h; exact ⟨am_goodlay am_lay0.1, tyX0_ok, nmX0, am_lay0.2⟩
  | 1, h => cases h; exact ⟨am_goodlay am_lay1.1, tyX1_ok, nmX1, am_lay1.2⟩
  | 2, h => cases h; exact ⟨am_goodlay am_lay2.1, tyX2_ok, nmX2, am_lay2.2⟩
  | 3, h => cases h; exact ⟨am_goodlay am_lay3.1, tyX3_ok, nmX3, am_lay3.2⟩
  | 4, h => cases h; exact ⟨am_goodlay am_lay4.1, tyX4_ok, nmX4, am_lay4.2⟩
  | 5, h => cases h; exact ⟨am_goodlay am_lay5.1, tyX5_ok, nmX5, am_lay5.2⟩
  | 6, h => cases h; exact ⟨am_goodlay am_lay6.1, tyX6_ok, nmX6, am_lay6.2⟩
  | 7, h => cases h; exact ⟨am_goodlay am_lay7.1, tyX7_ok, nmX7, am_lay7.2⟩
  | 8, h => cases h; exact ⟨am_goodlay am_lay8.1, tyX8_ok, nmX8, am_lay8.2⟩
  | 9, h => cases h; exact ⟨am_goodlay am_lay9.1, tyX9_ok, nmX9, am_lay9.2⟩
  | 10, h => cases h; exact ⟨am_goodlay am_lay10.1, tyX10_ok, nmX10, am_lay10.2⟩
  | 11, h => cases h; exact ⟨am_goodlay am_lay11.1, tyX11_ok, nmX11, am_lay11.2⟩
  | 12, h => cases h; exact ⟨am_goodlay am_lay12.1, tyX12_ok, nmX12, am_lay12.2⟩
  | n + 13, h => simp at h
theorem am_obj {g : am_C} {σ : am_S} {H : Heap} (hR : am_Rep g σ H) {o ci : Nat} (ho : σ.1[o]? = some (.inl ci)) {C : String} {T : u_T} {N : Nat} (hc : vwCl[ci]? = some (C, T, N)) : va_at g.2.2.2.1 vwCl (am_b0 g + o, .inr (ci, am_of g σ o ci N)) H := by
  refine hR.2.1 o _ _ ho ?_
  simp [am_ce, hc]
theorem am_of_at (g : am_C) (σ : am_S) (o ci N k : Nat) (hk : k < N) : (am_of g σ o ci N)[k]? = some (am_rel g (am_fa σ o (am_ty ci k) k)) := by
  simp [am_of, hk]
/-- the words of a field's entry -/
def am_FL (own : String) (idx ci k : Nat) : Prop := ∃ (C : String) (T : u_T) (N : Nat), vwCl[ci]? = some (C, T, N) ∧ k < N ∧ (T k).1 = C ∧ (Cond.fieldLink own idx C (T k).2.1 (T k).2.2.1 ∈ lw_tbl ∨ ∃ host, Cond.fieldLinkNest own idx C (T k).2.1 (T k).2.2.1 host ∈ lw_tbl)
theorem am_nest {g : am_C} (G : am_G g) {s : State} (hW : g.2.1.WarmedH s.vm) {own r n d h : String} {i : Nat} (hw : Cond.fieldLinkNest own i r n d h ∈ lw_tbl) (args : Array Value) : (Cond.fieldLinkNest own i r n d h).before args s = true :=
  va_Nw.use rfl (va_Nw.warmF hW (va_Nw.of rfl (G.1 _ hw)))
section KM
variable {g : am_C} {d : Nat} {M : am_M} {mc ms pc : Nat} {lv : List (Nat × Value)} {st : List Value} {σ : am_S} {post : Option (Option Value) → am_S → Prop}
theorem kr_getf (G : am_G g) {idx ci k o : Nat} {v : Value} (hf : am_FL M.1.cls idx ci k) (hd : decode M.2.1 pc = .ok (.getfield idx, 3)) (ho : σ.1[o]? = some (.inl ci)) (hv : am_fa σ o (am_ty ci k) k = v) (kk : am_K g d M mc ms (pc + 3) lv (v :: st) σ post) : am_K g d M mc ms pc lv (.ref o :: st) σ post := by
  intro p e R s m args below meth c H locs cells slots ls F h1 h2 h3 h4 hR hL hl
  obtain ⟨C, T, N, hc, hk, hC, hlk⟩ := hf
  have hv' := am_of_at g σ o ci N k hk
  rw [hv] at hv'
  have hw := kk p e R s m args below meth c H locs cells slots ls F h1 h2 h3 h4 hR hL hl
  have hP := am_P1 (am_obj hR ho hc)
  have hts := am_hts G F.2.2.2.2.2.2.1 args
  rcases hlk with hlk | ⟨host, hlk⟩
  · exact va_get F.1 F.2.1 hts (am_lay hc).1 F.2.2.2.2.2.1 (am_hK G F.2.2.2.2.2.2.1) hP 0 rfl hc k hk (am_w G F.2.2.2.2.2.2.1 args hlk rfl) (fun x hx => by rw [← hC]; exact hx) hv' hd hw
  · exact va_getN F.1 F.2.1 hts (am_lay hc).1 F.2.2.2.2.2.1 (am_hK G F.2.2.2.2.2.2.1) hP 0 rfl hc k hk (am_nest G F.2.2.2.2.2.2.1 hlk args) (fun x hx => by rw [← hC]; exact hx) hv' hd hw
end KM
/-- one place of the memory is written -/
def am_wr (σ σ' : am_S) (o k : Nat) : Prop := σ'.1 = σ.1 ∧ ∀ i j : Nat, ¬ (i = o ∧ j = k) → σ'.2.1 i j = σ.2.1 i j ∧ σ'.2.2.1 i j = σ.2.2.1 i j ∧ σ'.2.2.2 i j = σ.2.2.2 i j
theorem am_wrI (σ : am_S) (o k : Nat) (x : Int32) : am_wr σ (σ.1, am_up σ.2.1 o k x, σ.2.2.1, σ.2.2.2) o k := ⟨rfl, fun i j h => ⟨am_up_n _ _ h, rfl, rfl⟩⟩
theorem am_wrJ (σ : am_S) (o k : Nat) (x : Int64) : am_wr σ (σ.1, σ.2.1, am_up σ.2.2.1 o k x, σ.2.2.2) o k := ⟨rfl, fun i j h => ⟨rfl, am_up_n _ _ h, rfl⟩⟩
theorem am_wrR (σ : am_S) (o k : Nat) (x : Value) : am_wr σ (σ.1, σ.2.1, σ.2.2.1, am_up σ.2.2.2 o k x) o k := ⟨rfl, fun i j h => ⟨rfl, rfl, am_up_n _ _ h⟩⟩
theorem am_wr_fa {σ σ' : am_S} {o k : Nat} (h : am_wr σ σ' o k) {i j : Nat} (hn : ¬ (i = o ∧ j = k)) (ty : FieldType) : am_fa σ' i ty j = am_fa σ i ty j := by
  obtain ⟨a, b, c⟩ := h.2 i j hn
  unfold am_fa
  rw [a, b, c]
theorem am_wr_ce {g : am_C} {σ σ' : am_S} {o k : Nat} (h : am_wr σ σ' o k) {i : Nat} (hn : i ≠ o) (x : am_sh) : am_ce g σ' i x = am_ce g σ i x := by
  have h1 : σ'.2.1 i = σ.2.1 i := funext fun j => (h.2 i j (fun q => hn q.1)).1
  have h2 : σ'.2.2.1 i = σ.2.2.1 i := funext fun j => (h.2 i j (fun q => hn q.1)).2.1
  have h3 : σ'.2.2.2 i = σ.2.2.2 i := funext fun j => (h.2 i j (fun q => hn q.1)).2.2
  cases x with
  | inl ci => simp only [am_ce, am_of, am_fa, h1, h2, h3]
  | inr q => obtain ⟨ty, n⟩ := q; simp only [am_ce, am_ar, h1, h2, h3]
/-- behind a write into cell o -/
theorem am_Rep_wr {g : am_C} {σ σ' : am_S} {H H' : Heap} {o k : Nat} (hR : am_Rep g σ H) (hw : am_wr σ σ' o k) {x : am_sh} (ho : σ.1[o]? = some x) (z : H'.size = H.size) (oq : ∀ q : Nat, q ≠ am_b0 g + o → H'[q]? = H[q]?) (he : ∀ e, am_ce g σ' o x = some e → va_at g.2.2.2.1 vwCl (am_b0 g + o, e) H') : am_Rep g σ' H' := by
  obtain ⟨r1, r2, r3, r4⟩ := hR
  have hol : o < σ.1.length := (List.getElem?_eq_some_iff.mp ho).1
  refine ⟨by rw [z, r1, hw.1], fun i y e hi hy => ?_, fun q hq => ?_, fun i j hi => ?_⟩
  · rw [hw.1] at hi
    by_cases h : i = o
    · subst h
      cases Option.some.inj (hi.symm.trans ho)
      exact he e hy
    · rw [am_wr_ce hw h] at hy
      exact (r2 i y e hi hy).kept (oq _ (fun q => h (by have q' : am_b0 g + i = am_b0 g + o := q; omega)))
  · rw [oq q (by omega)]
    exact r3 q hq
  · rw [hw.1] at hi
    obtain ⟨a, b, c⟩ := hw.2 i j (fun q => by omega)
    rw [a, b, c]
    exact r4 i j hi
/-- the words of an entry that is written -/
def am_FP (own name : String) (idx ci k : Nat) : Prop := ∃ (C : String) (T : u_T) (N : Nat), vwCl[ci]? = some (C, T, N) ∧ k < N ∧ (T k).1 = C ∧ (((T k).2.2.2 = false ∧ (Cond.fieldLink own idx C (T k).2.1 (T k).2.2.1 ∈ lw_tbl ∨ ∃ host, Cond.fieldLinkNest own idx C (T k).2.1 (T k).2.2.1 host ∈ lw_tbl)) ∨ ((T k).2.2.2 = true ∧ Cond.fieldLink own idx C (T k).2.1 (T k).2.2.1 ∈ lw_tbl ∧ own = C ∧ name = "<init>"))
theorem am_of_set {g : am_C} {σ σ' : am_S} {o k ci N : Nat} (hw : am_wr σ σ' o k) (hk : k < N) : am_of g σ' o ci N = (am_of g σ o ci N).set k (am_rel g (am_fa σ' o (am_ty ci k) k)) := by
  apply List.ext_getElem?
  intro j
  by_cases hj : j < N
  · by_cases h : j = k
    · subst h
      rw [List.getElem?_set_self (by simp [am_of, hj]), am_of_at g σ' o ci N j hj]
    · rw [List.getElem?_set_ne (Ne.symm h), am_of_at g σ' o ci N j hj, am_of_at g σ o ci N j hj, am_wr_fa hw (fun q => h q.2)]
  · rw [List.getElem?_eq_none (by simp [am_of]; omega), List.getElem?_eq_none (by simp [am_of]; omega)]
section KP
variable {g : am_C} {d : Nat} {M : am_M} {mc ms pc : Nat} {lv : List (Nat × Value)} {st : List Value} {σ σ' : am_S} {post : Option (Option Value) → am_S → Prop}
theorem kr_put (G : am_G g) {idx ci k o : Nat} {v : Value} (hf : am_FP M.1.cls M.1.name idx ci k) (hd : decode M.2.1 pc = .ok (.putfield idx, 3)) (ho : σ.1[o]? = some (.inl ci)) (hn : narrow (am_ty ci k) (am_rel g v) = am_rel g v) (hfit : fits (am_ty ci k) (am_rel g v) = true) (hw : am_wr σ σ' o k) (hv : am_fa σ' o (am_ty ci k) k = v) (kk : am_K g d M mc ms (pc + 3) lv st σ' post) : am_K g d M mc ms pc lv (v :: .ref o :: st) σ post := by
  intro p e R s m args below meth c H locs cells slots ls F h1 h2 h3 h4 hR hL hl
  obtain ⟨C, T, N, hc, hk, hC, hlk⟩ := hf
  have hts := am_hts G F.2.2.2.2.2.2.1 args
  obtain ⟨hin, hty, hnm, -⟩ := am_lay hc
  have hK := am_hK G F.2.2.2.2.2.2.1
  have hown := F.2.2.2.2.2.1
  have hap := va_apart (own := M.1.cls) hts hin (am_ty ci) hty hnm hK hc
  obtain ⟨r, hr1, cell, q1, q2, q3, q4⟩ := am_obj hR ho hc
  have hr : r = (C, T, N) := Option.some.inj (hr1.symm.trans hc)
  subst hr
  obtain ⟨hS, hfc, kC, hkC, hkind⟩ := hK.1 ci _ hc
  obtain ⟨cf, kf, fi, f, hi, hsl⟩ := hS k hk
  have hi' : s.fieldFound? C (T k).2.1 (T k).2.2.1 = some (cf, kf, fi, f) := by rw [← hC]; exact hi
  have hst := (u_facts hfc hkC (u_lays hts hin hk) hi).1
  have hlen : k < (am_of g σ o ci N).length := by simp [am_of, hk]
  have go : ∀ H' : Heap, H'[am_b0 g + o]? = some (cell.setSlot f.slot (am_rel g v)) → H'.size = H.size → (∀ q, q ≠ am_b0 g + o → H'[q]? = H[q]?) → W p g.1 e R s m args below meth c H' (locs ++ [⟨am_b0 g + o, f.slot⟩]) cells slots (vx_MQ below (am_Qc g post) (am_Xc g post) args s (cells + mc) (slots + ms) (fun q => am_b0 g ≤ q)) (F0 m (pc + 3) ls (st.map (am_rel g))) := by
    intro H' e1 e2 e3
    rw [hsl] at e1
    refine kk p e R s m args below meth c H' _ cells slots ls F h1 h2 h3 h4 (am_Rep_wr hR hw ho e2 e3 ?_) ?_ hl
    · intro x hx
      have hx' : x = .inr (ci, am_of g σ' o ci N) := by
        simp [am_ce, hc] at hx
        exact hx.symm
      subst hx'
      rw [am_of_set hw hk, hv]
      exact ⟨_, hc, t_OB.to (V := updV (vp_V (am_of g σ o ci N)) k (am_rel g v)) ⟨_, e1, q2, q3, t_set q4 hap hk (am_rel g v)⟩ (fun j _ => vp_updV_set hlen (am_rel g v) j)⟩
    · intro q hq
      rcases List.mem_append.mp hq with h | h
      · exact hL q h
      · rw [List.mem_singleton.mp h]
        exact Nat.le_add_right _ _
  rcases hlk with ⟨hnf, hlk⟩ | ⟨hfin, hlk, hoC, hnm1⟩
  · have hlay := hts _ (hin _ (u_in_lay hk))
    unfold u_lay at hlay
    rw [if_neg (by rw [hnf]; decide)] at hlay
    have h6 := u_store hfc hkC hkind hlay hi (hty k hk) hn hfit
    rcases hlk with hlk | ⟨host, hlk⟩
    · exact W.putK F.1 F.2.1 (f := f) ⟨hown, am_w G F.2.2.2.2.2.2.1 args hlk rfl, ⟨_, _, _, hi'⟩, hst⟩ (by rw [q2]; exact h6) q1 q3 (by rw [hsl]; exact k2_hasslot (q4 k hk)) rfl rfl hd go
    · exact va_WputK F.1 F.2.1 (f := f) hown (am_nest G F.2.2.2.2.2.2.1 hlk args) hi' hst (by rw [q2]; exact h6) q1 q3 (by rw [hsl]; exact k2_hasslot (q4 k hk)) rfl rfl hd go
  · have hlay := hts _ (hin _ (u_in_lay hk))
    unfold u_lay at hlay
    rw [if_pos hfin] at hlay
    have hcf : m.cls = cf := by
      obtain ⟨_, _, c', _, _, _, -, -, hf', -, -, -, hown2, -⟩ := Cond.laysFinal_spec hlay
      have e1 : c' = cf := by have := hi.symm.trans hf'; simp at this; exact this.1.symm
      rw [hC, ← hoC] at hown2
      rw [← e1]; exact Option.some.inj (hown.symm.trans hown2)
    have h6 := u_fits hfc hkC hkind (Or.inr hlay) hi (hty k hk) hn hfit
    exact W.putFinK F.1 F.2.1 hown (am_w G F.2.2.2.2.2.2.1 args hlk rfl) hi' hst hcf ((F.2.2.2.2.2.2.2.1 hnm1).trans hnm1) (by rw [q2]; exact h6) q1 q3 (by rw [hsl]; exact k2_hasslot (q4 k hk)) rfl rfl hd go
theorem kr_putI (G : am_G g) {idx ci k o : Nat} {x : Int32} (hf : am_FP M.1.cls M.1.name idx ci k) (hd : decode M.2.1 pc = .ok (.putfield idx, 3)) (ho : σ.1[o]? = some (.inl ci)) (hn : narrow (am_ty ci k) (.int x) = .int x) (hfit : fits (am_ty ci k) (.int x) = true) (hk : am_kd (am_ty ci k) = 0) (kk : am_K g d M mc ms (pc + 3) lv st (σ.1, am_up σ.2.1 o k x, σ.2.2.1, σ.2.2.2) post) : am_K g d M mc ms pc lv (.int x :: .ref o :: st) σ post :=
  kr_put G hf hd ho hn hfit (am_wrI σ o k x) (by unfold am_fa; rw [hk]; show Value.int (am_up σ.2.1 o k x o k) = _; rw [am_up_s]) kk
theorem kr_putJ (G : am_G g) {idx ci k o : Nat} {x : Int64} (hf : am_FP M.1.cls M.1.name idx ci k) (hd : decode M.2.1 pc = .ok (.putfield idx, 3)) (ho : σ.1[o]? = some (.inl ci)) (hn : narrow (am_ty ci k) (.long x) = .long x) (hfit : fits (am_ty ci k) (.long x) = true) (hk : am_kd (am_ty ci k) = 1) (kk : am_K g d M mc ms (pc + 3) lv st (σ.1, σ.2.1, am_up σ.2.2.1 o k x, σ.2.2.2) post) : am_K g d M mc ms pc lv (.long x :: .ref o :: st) σ post :=
  kr_put G hf hd ho hn hfit (am_wrJ σ o k x) (by unfold am_fa; rw [hk]; show Value.long (am_up σ.2.2.1 o k x o k) = _; rw [am_up_s]) kk
theorem kr_putR (G : am_G g) {idx ci k o : Nat} {x : Nat} (hf : am_FP M.1.cls M.1.name idx ci k) (hd : decode M.2.1 pc = .ok (.putfield idx, 3)) (ho : σ.1[o]? = some (.inl ci)) (hk : am_kd (am_ty ci k) = 2) (kk : am_K g d M mc ms (pc + 3) lv st (σ.1, σ.2.1, σ.2.2.1, am_up σ.2.2.2 o k (.ref x)) post) : am_K g d M mc ms pc lv (.ref x :: .ref o :: st) σ post :=
  kr_put G hf hd ho (by cases h : am_ty ci k <;> first | rfl | (rw [h] at hk; cases hk)) (by cases h : am_ty ci k <;> first | rfl | (rw [h] at hk; cases hk)) (am_wrR σ o k (.ref x)) (by unfold am_fa; rw [hk]; show am_up σ.2.2.2 o k (.ref x) o k = _; rw [am_up_s]) kk
end KP
