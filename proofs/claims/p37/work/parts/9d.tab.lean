/-! all contracts hold (written by a program) -/
def P9 (g : am_C) (Cs : Nat → am_S → Prop) (mi : Nat) (c : sx_Ct) : Prop := ∀ T : ex_T, ex_mt mi = some T → (∀ (mi2 : Nat) (T2 : ex_T) (c2 : sx_Ct), ex_mt mi2 = some T2 → c2 ∈ k9 mi2 → c2.1 < c.1 → sx_Holds g z9 Cs T2 c2) → sx_Holds g z9 Cs T c
theorem sx_tabk {g : am_C} {Cs : Nat → am_S → Prop} (h : ∀ (mi : Nat) (c : sx_Ct), c ∈ k9 mi → P9 g Cs mi c) : ∀ (mi : Nat) (T : ex_T) (c : sx_Ct), ex_mt mi = some T → c ∈ k9 mi → sx_Holds g z9 Cs T c := by
  have main : ∀ r : Nat, ∀ (mi : Nat) (T : ex_T) (c : sx_Ct), ex_mt mi = some T → c ∈ k9 mi → c.1 < r → sx_Holds g z9 Cs T c := by
    intro r
    induction r with
    | zero => intro mi T c _ _ h; omega
    | succ r ih =>
      intro mi T c hT hc hr
      exact h mi c hc T hT (fun mi2 T2 c2 a1 a2 a3 => ih mi2 T2 c2 a1 a2 (by omega))
  intro mi T c hT hc
  exact main (c.1 + 1) mi T c hT hc (by omega)
theorem P9_mk {g : am_C} {L : Nat} {xs : Nat → Int32} {Cs : Nat → am_S → Prop} (G : sx_G0 g L xs z9 Cs ex_mt) {mi n : Nat} {T : ex_T} {c : sx_Ct} {cus : List sx_Cu} (hT : ex_mt mi = some T) (h : sx_chk z9 ex_mt k9 T n c cus = true) : P9 g Cs mi c := by
  intro T2 h2 ih
  cases Option.some.inj (h2.symm.trans hT)
  exact sx_contract G hT ih h
theorem k9o_sub {l : List Nat} {mi : Nat} {c : sx_Ct} (h : c ∈ k9o l mi) : c ∈ k9 mi := by
  unfold k9o at h
  generalize List.rec (motive := fun _ => Bool) false (fun q _ ih => q.beq mi || ih) l = b at h
  cases b with
  | true => cases h
  | false => exact h
theorem P9_mko {g : am_C} {L : Nat} {xs : Nat → Int32} {Cs : Nat → am_S → Prop} (G : sx_G0 g L xs z9 Cs ex_mt) {l : List Nat} {mi n : Nat} {T : ex_T} {c : sx_Ct} {cus : List sx_Cu} (hT : ex_mt mi = some T) (h : sx_chk z9 ex_mt (k9o l) T n c cus = true) : P9 g Cs mi c := by
  intro T2 h2 ih
  cases Option.some.inj (h2.symm.trans hT)
  exact sx_contract G hT (fun mi2 T2 c2 a1 a2 a3 => ih mi2 T2 c2 a1 (k9o_sub a2) a3) h
/-- a contract in two: by the ints that it is called with -/
theorem P9_two {g : am_C} {Cs : Nat → am_S → Prop} {mi rk1 rk2 rk d1 d2 d mc ms : Nat} {refs : sx_L} {src : List (Nat ⊕ Nat)} {F1 F2 F : sx_Fa} {ps1 ps2 : List sx_Po} (h1 : P9 g Cs mi (rk1, d1, mc, ms, refs, (src, F1), ps1)) (h2 : P9 g Cs mi (rk2, d2, mc, ms, refs, (src, F2), ps2)) (hd1 : d1 ≤ d) (hd2 : d2 ≤ d) (r1 : rk1 ≤ rk) (r2 : rk2 ≤ rk) (hF : ∀ env, sx_P env F → sx_P env F1 ∨ sx_P env F2) : P9 g Cs mi (rk, d, mc, ms, refs, (src, F), ps1 ++ ps2) := by
  intro T hT ih lw env σ a1 a2 a3 a4
  have weak : ∀ {ps qs : List sx_Po}, (∀ p ∈ ps, p ∈ qs) → ∀ {r : Option (Option Value)} {σ' : am_S}, sx_Post z9 Cs env σ ps r σ' → sx_Post z9 Cs env σ qs r σ' := by
    intro ps qs hs r σ' h
    unfold sx_Post at h ⊢
    cases r with
    | none => exact h
    | some v =>
      obtain ⟨p, p1, p2⟩ := h
      exact ⟨p, hs p p1, p2⟩
  rcases hF env a3 with h | h
  · exact kr_less hd1 (Nat.le_refl _) (Nat.le_refl _) (kr_mono (fun _ _ hp => weak (fun p hp => List.mem_append_left _ hp) hp) (h1 T hT (fun mi2 T2 c2 b1 b2 b3 => ih mi2 T2 c2 b1 b2 (Nat.lt_of_lt_of_le b3 r1)) lw env σ a1 a2 h a4))
  · exact kr_less hd2 (Nat.le_refl _) (Nat.le_refl _) (kr_mono (fun _ _ hp => weak (fun p hp => List.mem_append_right _ hp) hp) (h2 T hT (fun mi2 T2 c2 b1 b2 b3 => ih mi2 T2 c2 b1 b2 (Nat.lt_of_lt_of_le b3 r2)) lw env σ a1 a2 h a4))
theorem sx_P_two {l : sx_A} {lo m m' hi : Int} (hm : m' = m + 1) : ∀ env, sx_P env [(l, lo, hi)] → sx_P env [(l, lo, m)] ∨ sx_P env [(l, m', hi)] := by
  intro env h
  obtain ⟨v, v1, v2, v3⟩ := h _ List.mem_cons_self
  simp only at v1 v2 v3
  by_cases hv : v ≤ m
  · refine .inl (fun q hq => ?_)
    cases List.mem_singleton.mp hq
    exact ⟨v, v1, v2, hv⟩
  · refine .inr (fun q hq => ?_)
    cases List.mem_singleton.mp hq
    exact ⟨v, v1, by show m' ≤ v; omega, v3⟩
def k9_rP (P : Nat → sx_Ct → Prop) : Nat → List (List sx_Ct) → Prop
  | _, [] => True
  | b, s :: t => (∀ c ∈ s, P b c) ∧ k9_rP P (b + 1) t
def k9_tP (P : Nat → sx_Ct → Prop) : Nat → List (List (List sx_Ct)) → Prop
  | _, [] => True
  | b, r :: t => k9_rP P (14 * b) r ∧ k9_tP P (b + 1) t
theorem k9_rP_at {P : Nat → sx_Ct → Prop} : ∀ {l : List (List sx_Ct)} {b i : Nat} {s : List sx_Ct}, k9_rP P b l → ex_nth l i = some s → ∀ c ∈ s, P (b + i) c
  | [], _, _, s, _, h => by
    have h' : none = some s := h
    cases h'
  | q :: t, b, 0, s, hr, h => by
    have h' : some q = some s := h
    cases h'
    exact hr.1
  | q :: t, b, i + 1, s, hr, h => by
    have h' : ex_nth t i = some s := h
    have := k9_rP_at (i := i) hr.2 h'
    rw [show b + (i + 1) = b + 1 + i by omega]
    exact this
theorem k9_tP_at {P : Nat → sx_Ct → Prop} : ∀ {l : List (List (List sx_Ct))} {b i : Nat} {r : List (List sx_Ct)}, k9_tP P b l → ex_nth l i = some r → k9_rP P (14 * (b + i)) r
  | [], _, _, r, _, h => by
    have h' : none = some r := h
    cases h'
  | q :: t, b, 0, r, hr, h => by
    have h' : some q = some r := h
    cases h'
    exact hr.1
  | q :: t, b, i + 1, r, hr, h => by
    have h' : ex_nth t i = some r := h
    have := k9_tP_at (i := i) hr.2 h'
    rw [show b + (i + 1) = b + 1 + i by omega]
    exact this
theorem k9_all {P : Nat → sx_Ct → Prop} (h : k9_tP P 0 k9_l) : ∀ (mi : Nat) (c : sx_Ct), c ∈ k9 mi → P mi c := by
  intro mi c hc
  unfold k9 at hc
  split at hc
  · rename_i l hl
    split at hc
    · rename_i s hs
      have := k9_rP_at (k9_tP_at h hl) hs c hc
      rw [show 14 * (0 + mi / 14) + mi % 14 = mi by omega] at this
      exact this
    · cases hc
  · cases hc
theorem r9_0 {g : am_C} {L : Nat} {xs : Nat → Int32} {Cs : Nat → am_S → Prop} (G : sx_G0 g L xs z9 Cs ex_mt) : P9 g Cs 252 k9_0 := P9_mk G (T := tX6_wordOf) rfl q9_0
theorem r9_1 {g : am_C} {L : Nat} {xs : Nat → Int32} {Cs : Nat → am_S → Prop} (G : sx_G0 g L xs z9 Cs ex_mt) : P9 g Cs 247 k9_1 := P9_mk G (T := tX6_readRun) rfl q9_1
theorem r9_2 {g : am_C} {L : Nat} {xs : Nat → Int32} {Cs : Nat → am_S → Prop} (G : sx_G0 g L xs z9 Cs ex_mt) : P9 g Cs 252 k9_2 := P9_mk G (T := tX6_wordOf) rfl q9_2
theorem r9_3 {g : am_C} {L : Nat} {xs : Nat → Int32} {Cs : Nat → am_S → Prop} (G : sx_G0 g L xs z9 Cs ex_mt) : P9 g Cs 252 k9_3 := P9_mk G (T := tX6_wordOf) rfl q9_3
theorem r9_4 {g : am_C} {L : Nat} {xs : Nat → Int32} {Cs : Nat → am_S → Prop} (G : sx_G0 g L xs z9 Cs ex_mt) : P9 g Cs 25 k9_4 := P9_mk G (T := tX11_copyRow) rfl q9_4
theorem r9_5 {g : am_C} {L : Nat} {xs : Nat → Int32} {Cs : Nat → am_S → Prop} (G : sx_G0 g L xs z9 Cs ex_mt) : P9 g Cs 25 k9_5 := P9_mk G (T := tX11_copyRow) rfl q9_5
theorem r9_6 {g : am_C} {L : Nat} {xs : Nat → Int32} {Cs : Nat → am_S → Prop} (G : sx_G0 g L xs z9 Cs ex_mt) : P9 g Cs 25 k9_6 := P9_mk G (T := tX11_copyRow) rfl q9_6
theorem r9_7 {g : am_C} {L : Nat} {xs : Nat → Int32} {Cs : Nat → am_S → Prop} (G : sx_G0 g L xs z9 Cs ex_mt) : P9 g Cs 25 k9_7 := P9_mk G (T := tX11_copyRow) rfl q9_7
theorem r9_8 {g : am_C} {L : Nat} {xs : Nat → Int32} {Cs : Nat → am_S → Prop} (G : sx_G0 g L xs z9 Cs ex_mt) : P9 g Cs 25 k9_8 := P9_mk G (T := tX11_copyRow) rfl q9_8
theorem r9_9 {g : am_C} {L : Nat} {xs : Nat → Int32} {Cs : Nat → am_S → Prop} (G : sx_G0 g L xs z9 Cs ex_mt) : P9 g Cs 25 k9_9 := P9_mk G (T := tX11_copyRow) rfl q9_9
theorem r9_10 {g : am_C} {L : Nat} {xs : Nat → Int32} {Cs : Nat → am_S → Prop} (G : sx_G0 g L xs z9 Cs ex_mt) : P9 g Cs 25 k9_10 := P9_mk G (T := tX11_copyRow) rfl q9_10
theorem r9_11 {g : am_C} {L : Nat} {xs : Nat → Int32} {Cs : Nat → am_S → Prop} (G : sx_G0 g L xs z9 Cs ex_mt) : P9 g Cs 25 k9_11 := P9_mk G (T := tX11_copyRow) rfl q9_11
theorem r9_12 {g : am_C} {L : Nat} {xs : Nat → Int32} {Cs : Nat → am_S → Prop} (G : sx_G0 g L xs z9 Cs ex_mt) : P9 g Cs 25 k9_12 := P9_mk G (T := tX11_copyRow) rfl q9_12
theorem r9_13 {g : am_C} {L : Nat} {xs : Nat → Int32} {Cs : Nat → am_S → Prop} (G : sx_G0 g L xs z9 Cs ex_mt) : P9 g Cs 25 k9_13 := P9_mk G (T := tX11_copyRow) rfl q9_13
theorem r9_14 {g : am_C} {L : Nat} {xs : Nat → Int32} {Cs : Nat → am_S → Prop} (G : sx_G0 g L xs z9 Cs ex_mt) : P9 g Cs 25 k9_14 := P9_mk G (T := tX11_copyRow) rfl q9_14
theorem r9_15 {g : am_C} {L : Nat} {xs : Nat → Int32} {Cs : Nat → am_S → Prop} (G : sx_G0 g L xs z9 Cs ex_mt) : P9 g Cs 25 k9_15 := P9_mk G (T := tX11_copyRow) rfl q9_15
theorem r9_16 {g : am_C} {L : Nat} {xs : Nat → Int32} {Cs : Nat → am_S → Prop} (G : sx_G0 g L xs z9 Cs ex_mt) : P9 g Cs 25 k9_16 := P9_mk G (T := tX11_copyRow) rfl q9_16
theorem r9_17 {g : am_C} {L : Nat} {xs : Nat → Int32} {Cs : Nat → am_S → Prop} (G : sx_G0 g L xs z9 Cs ex_mt) : P9 g Cs 25 k9_17 := P9_mk G (T := tX11_copyRow) rfl q9_17
theorem r9_18 {g : am_C} {L : Nat} {xs : Nat → Int32} {Cs : Nat → am_S → Prop} (G : sx_G0 g L xs z9 Cs ex_mt) : P9 g Cs 25 k9_18 := P9_mk G (T := tX11_copyRow) rfl q9_18
theorem r9_19 {g : am_C} {L : Nat} {xs : Nat → Int32} {Cs : Nat → am_S → Prop} (G : sx_G0 g L xs z9 Cs ex_mt) : P9 g Cs 25 k9_19 := P9_mk G (T := tX11_copyRow) rfl q9_19
theorem r9_20 {g : am_C} {L : Nat} {xs : Nat → Int32} {Cs : Nat → am_S → Prop} (G : sx_G0 g L xs z9 Cs ex_mt) : P9 g Cs 25 k9_20 := P9_mk G (T := tX11_copyRow) rfl q9_20
theorem r9_21 {g : am_C} {L : Nat} {xs : Nat → Int32} {Cs : Nat → am_S → Prop} (G : sx_G0 g L xs z9 Cs ex_mt) : P9 g Cs 25 k9_21 := P9_mk G (T := tX11_copyRow) rfl q9_21
theorem r9_22 {g : am_C} {L : Nat} {xs : Nat → Int32} {Cs : Nat → am_S → Prop} (G : sx_G0 g L xs z9 Cs ex_mt) : P9 g Cs 25 k9_22 := P9_mk G (T := tX11_copyRow) rfl q9_22
theorem r9_23 {g : am_C} {L : Nat} {xs : Nat → Int32} {Cs : Nat → am_S → Prop} (G : sx_G0 g L xs z9 Cs ex_mt) : P9 g Cs 25 k9_23 := P9_mk G (T := tX11_copyRow) rfl q9_23
theorem r9_24 {g : am_C} {L : Nat} {xs : Nat → Int32} {Cs : Nat → am_S → Prop} (G : sx_G0 g L xs z9 Cs ex_mt) : P9 g Cs 25 k9_24 := P9_mk G (T := tX11_copyRow) rfl q9_24
theorem r9_25 {g : am_C} {L : Nat} {xs : Nat → Int32} {Cs : Nat → am_S → Prop} (G : sx_G0 g L xs z9 Cs ex_mt) : P9 g Cs 25 k9_25 := P9_mk G (T := tX11_copyRow) rfl q9_25
theorem r9_26 {g : am_C} {L : Nat} {xs : Nat → Int32} {Cs : Nat → am_S → Prop} (G : sx_G0 g L xs z9 Cs ex_mt) : P9 g Cs 25 k9_26 := P9_mk G (T := tX11_copyRow) rfl q9_26
theorem r9_27 {g : am_C} {L : Nat} {xs : Nat → Int32} {Cs : Nat → am_S → Prop} (G : sx_G0 g L xs z9 Cs ex_mt) : P9 g Cs 25 k9_27 := P9_mk G (T := tX11_copyRow) rfl q9_27
theorem r9_28 {g : am_C} {L : Nat} {xs : Nat → Int32} {Cs : Nat → am_S → Prop} (G : sx_G0 g L xs z9 Cs ex_mt) : P9 g Cs 25 k9_28 := P9_mk G (T := tX11_copyRow) rfl q9_28
theorem r9_29 {g : am_C} {L : Nat} {xs : Nat → Int32} {Cs : Nat → am_S → Prop} (G : sx_G0 g L xs z9 Cs ex_mt) : P9 g Cs 25 k9_29 := P9_mk G (T := tX11_copyRow) rfl q9_29
theorem r9_30 {g : am_C} {L : Nat} {xs : Nat → Int32} {Cs : Nat → am_S → Prop} (G : sx_G0 g L xs z9 Cs ex_mt) : P9 g Cs 25 k9_30 := P9_mk G (T := tX11_copyRow) rfl q9_30
theorem r9_31 {g : am_C} {L : Nat} {xs : Nat → Int32} {Cs : Nat → am_S → Prop} (G : sx_G0 g L xs z9 Cs ex_mt) : P9 g Cs 25 k9_31 := P9_mk G (T := tX11_copyRow) rfl q9_31
theorem r9_32 {g : am_C} {L : Nat} {xs : Nat → Int32} {Cs : Nat → am_S → Prop} (G : sx_G0 g L xs z9 Cs ex_mt) : P9 g Cs 25 k9_32 := P9_mk G (T := tX11_copyRow) rfl q9_32
theorem r9_33 {g : am_C} {L : Nat} {xs : Nat → Int32} {Cs : Nat → am_S → Prop} (G : sx_G0 g L xs z9 Cs ex_mt) : P9 g Cs 25 k9_33 := P9_mk G (T := tX11_copyRow) rfl q9_33
theorem r9_34 {g : am_C} {L : Nat} {xs : Nat → Int32} {Cs : Nat → am_S → Prop} (G : sx_G0 g L xs z9 Cs ex_mt) : P9 g Cs 25 k9_34 := P9_mk G (T := tX11_copyRow) rfl q9_34
theorem r9_35 {g : am_C} {L : Nat} {xs : Nat → Int32} {Cs : Nat → am_S → Prop} (G : sx_G0 g L xs z9 Cs ex_mt) : P9 g Cs 25 k9_35 := P9_mk G (T := tX11_copyRow) rfl q9_35
theorem r9_36 {g : am_C} {L : Nat} {xs : Nat → Int32} {Cs : Nat → am_S → Prop} (G : sx_G0 g L xs z9 Cs ex_mt) : P9 g Cs 25 k9_36 := P9_mk G (T := tX11_copyRow) rfl q9_36
theorem r9_37 {g : am_C} {L : Nat} {xs : Nat → Int32} {Cs : Nat → am_S → Prop} (G : sx_G0 g L xs z9 Cs ex_mt) : P9 g Cs 297 k9_37 := P9_mk G (T := tX9_longest) rfl q9_37
theorem r9_38 {g : am_C} {L : Nat} {xs : Nat → Int32} {Cs : Nat → am_S → Prop} (G : sx_G0 g L xs z9 Cs ex_mt) : P9 g Cs 3 k9_38 := P9_mk G (T := tJ7_fill_53178) rfl q9_38
theorem r9_39 {g : am_C} {L : Nat} {xs : Nat → Int32} {Cs : Nat → am_S → Prop} (G : sx_G0 g L xs z9 Cs ex_mt) : P9 g Cs 3 k9_39 := P9_mk G (T := tJ7_fill_53178) rfl q9_39
theorem r9_40 {g : am_C} {L : Nat} {xs : Nat → Int32} {Cs : Nat → am_S → Prop} (G : sx_G0 g L xs z9 Cs ex_mt) : P9 g Cs 314 k9_40 := P9_mk G (T := tX9_weightFrom) rfl q9_40
theorem r9_41 {g : am_C} {L : Nat} {xs : Nat → Int32} {Cs : Nat → am_S → Prop} (G : sx_G0 g L xs z9 Cs ex_mt) : P9 g Cs 3 k9_41 := P9_mk G (T := tJ7_fill_53178) rfl q9_41
theorem r9_42 {g : am_C} {L : Nat} {xs : Nat → Int32} {Cs : Nat → am_S → Prop} (G : sx_G0 g L xs z9 Cs ex_mt) : P9 g Cs 234 k9_42 := P9_mk G (T := tX4_weighSales) rfl q9_42
theorem r9_43 {g : am_C} {L : Nat} {xs : Nat → Int32} {Cs : Nat → am_S → Prop} (G : sx_G0 g L xs z9 Cs ex_mt) : P9 g Cs 219 k9_43 := P9_mk G (T := tX4_penceUntil) rfl q9_43
theorem r9_44 {g : am_C} {L : Nat} {xs : Nat → Int32} {Cs : Nat → am_S → Prop} (G : sx_G0 g L xs z9 Cs ex_mt) : P9 g Cs 24 k9_44 := P9_mk G (T := tX11_change) rfl q9_44
theorem r9_45 {g : am_C} {L : Nat} {xs : Nat → Int32} {Cs : Nat → am_S → Prop} (G : sx_G0 g L xs z9 Cs ex_mt) : P9 g Cs 307 k9_45 := P9_mk G (T := tX9_secondsAtDraw) rfl q9_45
theorem r9_46 {g : am_C} {L : Nat} {xs : Nat → Int32} {Cs : Nat → am_S → Prop} (G : sx_G0 g L xs z9 Cs ex_mt) : P9 g Cs 31 k9_46 := P9_mk G (T := tX11_end) rfl q9_46
theorem r9_47 {g : am_C} {L : Nat} {xs : Nat → Int32} {Cs : Nat → am_S → Prop} (G : sx_G0 g L xs z9 Cs ex_mt) : P9 g Cs 33 k9_47 := P9_mk G (T := tX11_fault) rfl q9_47
theorem r9_48 {g : am_C} {L : Nat} {xs : Nat → Int32} {Cs : Nat → am_S → Prop} (G : sx_G0 g L xs z9 Cs ex_mt) : P9 g Cs 34 k9_48 := P9_mk G (T := tX11_feed) rfl q9_48
theorem r9_49 {g : am_C} {L : Nat} {xs : Nat → Int32} {Cs : Nat → am_S → Prop} (G : sx_G0 g L xs z9 Cs ex_mt) : P9 g Cs 36 k9_49 := P9_mk G (T := tX11_heard) rfl q9_49
theorem r9_50 {g : am_C} {L : Nat} {xs : Nat → Int32} {Cs : Nat → am_S → Prop} (G : sx_G0 g L xs z9 Cs ex_mt) : P9 g Cs 25 k9_50 := P9_mk G (T := tX11_copyRow) rfl q9_50
theorem r9_51 {g : am_C} {L : Nat} {xs : Nat → Int32} {Cs : Nat → am_S → Prop} (G : sx_G0 g L xs z9 Cs ex_mt) : P9 g Cs 25 k9_51 := P9_mk G (T := tX11_copyRow) rfl q9_51
theorem r9_52 {g : am_C} {L : Nat} {xs : Nat → Int32} {Cs : Nat → am_S → Prop} (G : sx_G0 g L xs z9 Cs ex_mt) : P9 g Cs 25 k9_52 := P9_mk G (T := tX11_copyRow) rfl q9_52
theorem r9_53 {g : am_C} {L : Nat} {xs : Nat → Int32} {Cs : Nat → am_S → Prop} (G : sx_G0 g L xs z9 Cs ex_mt) : P9 g Cs 25 k9_53 := P9_mk G (T := tX11_copyRow) rfl q9_53
theorem r9_54 {g : am_C} {L : Nat} {xs : Nat → Int32} {Cs : Nat → am_S → Prop} (G : sx_G0 g L xs z9 Cs ex_mt) : P9 g Cs 25 k9_54 := P9_mk G (T := tX11_copyRow) rfl q9_54
theorem r9_55 {g : am_C} {L : Nat} {xs : Nat → Int32} {Cs : Nat → am_S → Prop} (G : sx_G0 g L xs z9 Cs ex_mt) : P9 g Cs 25 k9_55 := P9_mk G (T := tX11_copyRow) rfl q9_55
theorem r9_56 {g : am_C} {L : Nat} {xs : Nat → Int32} {Cs : Nat → am_S → Prop} (G : sx_G0 g L xs z9 Cs ex_mt) : P9 g Cs 25 k9_56 := P9_mk G (T := tX11_copyRow) rfl q9_56
theorem r9_57 {g : am_C} {L : Nat} {xs : Nat → Int32} {Cs : Nat → am_S → Prop} (G : sx_G0 g L xs z9 Cs ex_mt) : P9 g Cs 25 k9_57 := P9_mk G (T := tX11_copyRow) rfl q9_57
theorem r9_58 {g : am_C} {L : Nat} {xs : Nat → Int32} {Cs : Nat → am_S → Prop} (G : sx_G0 g L xs z9 Cs ex_mt) : P9 g Cs 25 k9_58 := P9_mk G (T := tX11_copyRow) rfl q9_58
theorem r9_59 {g : am_C} {L : Nat} {xs : Nat → Int32} {Cs : Nat → am_S → Prop} (G : sx_G0 g L xs z9 Cs ex_mt) : P9 g Cs 25 k9_59 := P9_mk G (T := tX11_copyRow) rfl q9_59
theorem r9_60 {g : am_C} {L : Nat} {xs : Nat → Int32} {Cs : Nat → am_S → Prop} (G : sx_G0 g L xs z9 Cs ex_mt) : P9 g Cs 25 k9_60 := P9_mk G (T := tX11_copyRow) rfl q9_60
theorem r9_61 {g : am_C} {L : Nat} {xs : Nat → Int32} {Cs : Nat → am_S → Prop} (G : sx_G0 g L xs z9 Cs ex_mt) : P9 g Cs 25 k9_61 := P9_mk G (T := tX11_copyRow) rfl q9_61
theorem r9_62 {g : am_C} {L : Nat} {xs : Nat → Int32} {Cs : Nat → am_S → Prop} (G : sx_G0 g L xs z9 Cs ex_mt) : P9 g Cs 25 k9_62 := P9_mk G (T := tX11_copyRow) rfl q9_62
theorem r9_63 {g : am_C} {L : Nat} {xs : Nat → Int32} {Cs : Nat → am_S → Prop} (G : sx_G0 g L xs z9 Cs ex_mt) : P9 g Cs 25 k9_63 := P9_mk G (T := tX11_copyRow) rfl q9_63
theorem r9_64 {g : am_C} {L : Nat} {xs : Nat → Int32} {Cs : Nat → am_S → Prop} (G : sx_G0 g L xs z9 Cs ex_mt) : P9 g Cs 25 k9_64 := P9_mk G (T := tX11_copyRow) rfl q9_64
theorem r9_65 {g : am_C} {L : Nat} {xs : Nat → Int32} {Cs : Nat → am_S → Prop} (G : sx_G0 g L xs z9 Cs ex_mt) : P9 g Cs 25 k9_65 := P9_mk G (T := tX11_copyRow) rfl q9_65
theorem r9_66 {g : am_C} {L : Nat} {xs : Nat → Int32} {Cs : Nat → am_S → Prop} (G : sx_G0 g L xs z9 Cs ex_mt) : P9 g Cs 25 k9_66 := P9_mk G (T := tX11_copyRow) rfl q9_66
theorem r9_67 {g : am_C} {L : Nat} {xs : Nat → Int32} {Cs : Nat → am_S → Prop} (G : sx_G0 g L xs z9 Cs ex_mt) : P9 g Cs 25 k9_67 := P9_mk G (T := tX11_copyRow) rfl q9_67
theorem r9_68 {g : am_C} {L : Nat} {xs : Nat → Int32} {Cs : Nat → am_S → Prop} (G : sx_G0 g L xs z9 Cs ex_mt) : P9 g Cs 25 k9_68 := P9_mk G (T := tX11_copyRow) rfl q9_68
theorem r9_69 {g : am_C} {L : Nat} {xs : Nat → Int32} {Cs : Nat → am_S → Prop} (G : sx_G0 g L xs z9 Cs ex_mt) : P9 g Cs 25 k9_69 := P9_mk G (T := tX11_copyRow) rfl q9_69
theorem r9_70 {g : am_C} {L : Nat} {xs : Nat → Int32} {Cs : Nat → am_S → Prop} (G : sx_G0 g L xs z9 Cs ex_mt) : P9 g Cs 25 k9_70 := P9_mk G (T := tX11_copyRow) rfl q9_70
theorem r9_71 {g : am_C} {L : Nat} {xs : Nat → Int32} {Cs : Nat → am_S → Prop} (G : sx_G0 g L xs z9 Cs ex_mt) : P9 g Cs 25 k9_71 := P9_mk G (T := tX11_copyRow) rfl q9_71
theorem r9_72 {g : am_C} {L : Nat} {xs : Nat → Int32} {Cs : Nat → am_S → Prop} (G : sx_G0 g L xs z9 Cs ex_mt) : P9 g Cs 45 k9_72 := P9_mk G (T := tX11_latest) rfl q9_72
theorem r9_73 {g : am_C} {L : Nat} {xs : Nat → Int32} {Cs : Nat → am_S → Prop} (G : sx_G0 g L xs z9 Cs ex_mt) : P9 g Cs 252 k9_73 := P9_mk G (T := tX6_wordOf) rfl q9_73
theorem r9_74 {g : am_C} {L : Nat} {xs : Nat → Int32} {Cs : Nat → am_S → Prop} (G : sx_G0 g L xs z9 Cs ex_mt) : P9 g Cs 270 k9_74 := P9_mk G (T := tX7_walks) rfl q9_74
theorem r9_75 {g : am_C} {L : Nat} {xs : Nat → Int32} {Cs : Nat → am_S → Prop} (G : sx_G0 g L xs z9 Cs ex_mt) : P9 g Cs 268 k9_75 := P9_mk G (T := tX7_sells) rfl q9_75
theorem r9_76 {g : am_C} {L : Nat} {xs : Nat → Int32} {Cs : Nat → am_S → Prop} (G : sx_G0 g L xs z9 Cs ex_mt) : P9 g Cs 3 k9_76 := P9_mk G (T := tJ7_fill_53178) rfl q9_76
theorem r9_77 {g : am_C} {L : Nat} {xs : Nat → Int32} {Cs : Nat → am_S → Prop} (G : sx_G0 g L xs z9 Cs ex_mt) : P9 g Cs 47 k9_77 := P9_mk G (T := tX11_logged) rfl q9_77
theorem r9_78 {g : am_C} {L : Nat} {xs : Nat → Int32} {Cs : Nat → am_S → Prop} (G : sx_G0 g L xs z9 Cs ex_mt) : P9 g Cs 50 k9_78 := P9_mk G (T := tX11_needs) rfl q9_78
theorem r9_79 {g : am_C} {L : Nat} {xs : Nat → Int32} {Cs : Nat → am_S → Prop} (G : sx_G0 g L xs z9 Cs ex_mt) : P9 g Cs 52 k9_79 := P9_mk G (T := tX11_now) rfl q9_79
theorem r9_80 {g : am_C} {L : Nat} {xs : Nat → Int32} {Cs : Nat → am_S → Prop} (G : sx_G0 g L xs z9 Cs ex_mt) : P9 g Cs 238 k9_80 := P9_mk G (T := tX5_visit) rfl q9_80
theorem r9_81 {g : am_C} {L : Nat} {xs : Nat → Int32} {Cs : Nat → am_S → Prop} (G : sx_G0 g L xs z9 Cs ex_mt) : P9 g Cs 238 k9_81 := P9_mk G (T := tX5_visit) rfl q9_81
theorem r9_82 {g : am_C} {L : Nat} {xs : Nat → Int32} {Cs : Nat → am_S → Prop} (G : sx_G0 g L xs z9 Cs ex_mt) : P9 g Cs 25 k9_82 := P9_mk G (T := tX11_copyRow) rfl q9_82
theorem r9_83 {g : am_C} {L : Nat} {xs : Nat → Int32} {Cs : Nat → am_S → Prop} (G : sx_G0 g L xs z9 Cs ex_mt) : P9 g Cs 25 k9_83 := P9_mk G (T := tX11_copyRow) rfl q9_83
theorem r9_84 {g : am_C} {L : Nat} {xs : Nat → Int32} {Cs : Nat → am_S → Prop} (G : sx_G0 g L xs z9 Cs ex_mt) : P9 g Cs 25 k9_84 := P9_mk G (T := tX11_copyRow) rfl q9_84
theorem r9_85 {g : am_C} {L : Nat} {xs : Nat → Int32} {Cs : Nat → am_S → Prop} (G : sx_G0 g L xs z9 Cs ex_mt) : P9 g Cs 25 k9_85 := P9_mk G (T := tX11_copyRow) rfl q9_85
theorem r9_86 {g : am_C} {L : Nat} {xs : Nat → Int32} {Cs : Nat → am_S → Prop} (G : sx_G0 g L xs z9 Cs ex_mt) : P9 g Cs 25 k9_86 := P9_mk G (T := tX11_copyRow) rfl q9_86
theorem r9_87 {g : am_C} {L : Nat} {xs : Nat → Int32} {Cs : Nat → am_S → Prop} (G : sx_G0 g L xs z9 Cs ex_mt) : P9 g Cs 25 k9_87 := P9_mk G (T := tX11_copyRow) rfl q9_87
theorem r9_88 {g : am_C} {L : Nat} {xs : Nat → Int32} {Cs : Nat → am_S → Prop} (G : sx_G0 g L xs z9 Cs ex_mt) : P9 g Cs 25 k9_88 := P9_mk G (T := tX11_copyRow) rfl q9_88
theorem r9_89 {g : am_C} {L : Nat} {xs : Nat → Int32} {Cs : Nat → am_S → Prop} (G : sx_G0 g L xs z9 Cs ex_mt) : P9 g Cs 25 k9_89 := P9_mk G (T := tX11_copyRow) rfl q9_89
theorem r9_90 {g : am_C} {L : Nat} {xs : Nat → Int32} {Cs : Nat → am_S → Prop} (G : sx_G0 g L xs z9 Cs ex_mt) : P9 g Cs 25 k9_90 := P9_mk G (T := tX11_copyRow) rfl q9_90
theorem r9_91 {g : am_C} {L : Nat} {xs : Nat → Int32} {Cs : Nat → am_S → Prop} (G : sx_G0 g L xs z9 Cs ex_mt) : P9 g Cs 25 k9_91 := P9_mk G (T := tX11_copyRow) rfl q9_91
theorem r9_92 {g : am_C} {L : Nat} {xs : Nat → Int32} {Cs : Nat → am_S → Prop} (G : sx_G0 g L xs z9 Cs ex_mt) : P9 g Cs 25 k9_92 := P9_mk G (T := tX11_copyRow) rfl q9_92
theorem r9_93 {g : am_C} {L : Nat} {xs : Nat → Int32} {Cs : Nat → am_S → Prop} (G : sx_G0 g L xs z9 Cs ex_mt) : P9 g Cs 25 k9_93 := P9_mk G (T := tX11_copyRow) rfl q9_93
theorem r9_94 {g : am_C} {L : Nat} {xs : Nat → Int32} {Cs : Nat → am_S → Prop} (G : sx_G0 g L xs z9 Cs ex_mt) : P9 g Cs 25 k9_94 := P9_mk G (T := tX11_copyRow) rfl q9_94
theorem r9_95 {g : am_C} {L : Nat} {xs : Nat → Int32} {Cs : Nat → am_S → Prop} (G : sx_G0 g L xs z9 Cs ex_mt) : P9 g Cs 25 k9_95 := P9_mk G (T := tX11_copyRow) rfl q9_95
theorem r9_96 {g : am_C} {L : Nat} {xs : Nat → Int32} {Cs : Nat → am_S → Prop} (G : sx_G0 g L xs z9 Cs ex_mt) : P9 g Cs 25 k9_96 := P9_mk G (T := tX11_copyRow) rfl q9_96
theorem r9_97 {g : am_C} {L : Nat} {xs : Nat → Int32} {Cs : Nat → am_S → Prop} (G : sx_G0 g L xs z9 Cs ex_mt) : P9 g Cs 25 k9_97 := P9_mk G (T := tX11_copyRow) rfl q9_97
theorem r9_98 {g : am_C} {L : Nat} {xs : Nat → Int32} {Cs : Nat → am_S → Prop} (G : sx_G0 g L xs z9 Cs ex_mt) : P9 g Cs 25 k9_98 := P9_mk G (T := tX11_copyRow) rfl q9_98
theorem r9_99 {g : am_C} {L : Nat} {xs : Nat → Int32} {Cs : Nat → am_S → Prop} (G : sx_G0 g L xs z9 Cs ex_mt) : P9 g Cs 25 k9_99 := P9_mk G (T := tX11_copyRow) rfl q9_99
theorem r9_100 {g : am_C} {L : Nat} {xs : Nat → Int32} {Cs : Nat → am_S → Prop} (G : sx_G0 g L xs z9 Cs ex_mt) : P9 g Cs 25 k9_100 := P9_mk G (T := tX11_copyRow) rfl q9_100
theorem r9_101 {g : am_C} {L : Nat} {xs : Nat → Int32} {Cs : Nat → am_S → Prop} (G : sx_G0 g L xs z9 Cs ex_mt) : P9 g Cs 25 k9_101 := P9_mk G (T := tX11_copyRow) rfl q9_101
theorem r9_102 {g : am_C} {L : Nat} {xs : Nat → Int32} {Cs : Nat → am_S → Prop} (G : sx_G0 g L xs z9 Cs ex_mt) : P9 g Cs 25 k9_102 := P9_mk G (T := tX11_copyRow) rfl q9_102
theorem r9_103 {g : am_C} {L : Nat} {xs : Nat → Int32} {Cs : Nat → am_S → Prop} (G : sx_G0 g L xs z9 Cs ex_mt) : P9 g Cs 25 k9_103 := P9_mk G (T := tX11_copyRow) rfl q9_103
theorem r9_104 {g : am_C} {L : Nat} {xs : Nat → Int32} {Cs : Nat → am_S → Prop} (G : sx_G0 g L xs z9 Cs ex_mt) : P9 g Cs 271 k9_104 := P9_mk G (T := tX8_bitsOf) rfl q9_104
theorem r9_105 {g : am_C} {L : Nat} {xs : Nat → Int32} {Cs : Nat → am_S → Prop} (G : sx_G0 g L xs z9 Cs ex_mt) : P9 g Cs 25 k9_105 := P9_mk G (T := tX11_copyRow) rfl q9_105
theorem r9_106 {g : am_C} {L : Nat} {xs : Nat → Int32} {Cs : Nat → am_S → Prop} (G : sx_G0 g L xs z9 Cs ex_mt) : P9 g Cs 63 k9_106 := P9_mk G (T := tX11_share) rfl q9_106
theorem r9_107 {g : am_C} {L : Nat} {xs : Nat → Int32} {Cs : Nat → am_S → Prop} (G : sx_G0 g L xs z9 Cs ex_mt) : P9 g Cs 64 k9_107 := P9_mk G (T := tX11_stand) rfl q9_107
theorem r9_108 {g : am_C} {L : Nat} {xs : Nat → Int32} {Cs : Nat → am_S → Prop} (G : sx_G0 g L xs z9 Cs ex_mt) : P9 g Cs 25 k9_108 := P9_mk G (T := tX11_copyRow) rfl q9_108
theorem r9_109 {g : am_C} {L : Nat} {xs : Nat → Int32} {Cs : Nat → am_S → Prop} (G : sx_G0 g L xs z9 Cs ex_mt) : P9 g Cs 252 k9_109 := P9_mk G (T := tX6_wordOf) rfl q9_109
theorem r9_110 {g : am_C} {L : Nat} {xs : Nat → Int32} {Cs : Nat → am_S → Prop} (G : sx_G0 g L xs z9 Cs ex_mt) : P9 g Cs 25 k9_110 := P9_mk G (T := tX11_copyRow) rfl q9_110
theorem r9_111 {g : am_C} {L : Nat} {xs : Nat → Int32} {Cs : Nat → am_S → Prop} (G : sx_G0 g L xs z9 Cs ex_mt) : P9 g Cs 25 k9_111 := P9_mk G (T := tX11_copyRow) rfl q9_111
theorem r9_112 {g : am_C} {L : Nat} {xs : Nat → Int32} {Cs : Nat → am_S → Prop} (G : sx_G0 g L xs z9 Cs ex_mt) : P9 g Cs 25 k9_112 := P9_mk G (T := tX11_copyRow) rfl q9_112
theorem r9_113 {g : am_C} {L : Nat} {xs : Nat → Int32} {Cs : Nat → am_S → Prop} (G : sx_G0 g L xs z9 Cs ex_mt) : P9 g Cs 25 k9_113 := P9_mk G (T := tX11_copyRow) rfl q9_113
theorem r9_114 {g : am_C} {L : Nat} {xs : Nat → Int32} {Cs : Nat → am_S → Prop} (G : sx_G0 g L xs z9 Cs ex_mt) : P9 g Cs 25 k9_114 := P9_mk G (T := tX11_copyRow) rfl q9_114
theorem r9_115 {g : am_C} {L : Nat} {xs : Nat → Int32} {Cs : Nat → am_S → Prop} (G : sx_G0 g L xs z9 Cs ex_mt) : P9 g Cs 25 k9_115 := P9_mk G (T := tX11_copyRow) rfl q9_115
theorem r9_116 {g : am_C} {L : Nat} {xs : Nat → Int32} {Cs : Nat → am_S → Prop} (G : sx_G0 g L xs z9 Cs ex_mt) : P9 g Cs 25 k9_116 := P9_mk G (T := tX11_copyRow) rfl q9_116
theorem r9_117 {g : am_C} {L : Nat} {xs : Nat → Int32} {Cs : Nat → am_S → Prop} (G : sx_G0 g L xs z9 Cs ex_mt) : P9 g Cs 3 k9_117 := P9_mk G (T := tJ7_fill_53178) rfl q9_117
theorem r9_118 {g : am_C} {L : Nat} {xs : Nat → Int32} {Cs : Nat → am_S → Prop} (G : sx_G0 g L xs z9 Cs ex_mt) : P9 g Cs 3 k9_118 := P9_mk G (T := tJ7_fill_53178) rfl q9_118
theorem r9_119 {g : am_C} {L : Nat} {xs : Nat → Int32} {Cs : Nat → am_S → Prop} (G : sx_G0 g L xs z9 Cs ex_mt) : P9 g Cs 3 k9_119 := P9_mk G (T := tJ7_fill_53178) rfl q9_119
theorem r9_120 {g : am_C} {L : Nat} {xs : Nat → Int32} {Cs : Nat → am_S → Prop} (G : sx_G0 g L xs z9 Cs ex_mt) : P9 g Cs 25 k9_120 := P9_mk G (T := tX11_copyRow) rfl q9_120
theorem r9_121 {g : am_C} {L : Nat} {xs : Nat → Int32} {Cs : Nat → am_S → Prop} (G : sx_G0 g L xs z9 Cs ex_mt) : P9 g Cs 25 k9_121 := P9_mk G (T := tX11_copyRow) rfl q9_121
theorem r9_122 {g : am_C} {L : Nat} {xs : Nat → Int32} {Cs : Nat → am_S → Prop} (G : sx_G0 g L xs z9 Cs ex_mt) : P9 g Cs 25 k9_122 := P9_mk G (T := tX11_copyRow) rfl q9_122
theorem r9_123 {g : am_C} {L : Nat} {xs : Nat → Int32} {Cs : Nat → am_S → Prop} (G : sx_G0 g L xs z9 Cs ex_mt) : P9 g Cs 25 k9_123 := P9_mk G (T := tX11_copyRow) rfl q9_123
theorem r9_124 {g : am_C} {L : Nat} {xs : Nat → Int32} {Cs : Nat → am_S → Prop} (G : sx_G0 g L xs z9 Cs ex_mt) : P9 g Cs 25 k9_124 := P9_mk G (T := tX11_copyRow) rfl q9_124
theorem r9_125 {g : am_C} {L : Nat} {xs : Nat → Int32} {Cs : Nat → am_S → Prop} (G : sx_G0 g L xs z9 Cs ex_mt) : P9 g Cs 25 k9_125 := P9_mk G (T := tX11_copyRow) rfl q9_125
theorem r9_126 {g : am_C} {L : Nat} {xs : Nat → Int32} {Cs : Nat → am_S → Prop} (G : sx_G0 g L xs z9 Cs ex_mt) : P9 g Cs 25 k9_126 := P9_mk G (T := tX11_copyRow) rfl q9_126
theorem r9_127 {g : am_C} {L : Nat} {xs : Nat → Int32} {Cs : Nat → am_S → Prop} (G : sx_G0 g L xs z9 Cs ex_mt) : P9 g Cs 25 k9_127 := P9_mk G (T := tX11_copyRow) rfl q9_127
theorem r9_128 {g : am_C} {L : Nat} {xs : Nat → Int32} {Cs : Nat → am_S → Prop} (G : sx_G0 g L xs z9 Cs ex_mt) : P9 g Cs 25 k9_128 := P9_mk G (T := tX11_copyRow) rfl q9_128
theorem r9_129 {g : am_C} {L : Nat} {xs : Nat → Int32} {Cs : Nat → am_S → Prop} (G : sx_G0 g L xs z9 Cs ex_mt) : P9 g Cs 25 k9_129 := P9_mk G (T := tX11_copyRow) rfl q9_129
theorem r9_130 {g : am_C} {L : Nat} {xs : Nat → Int32} {Cs : Nat → am_S → Prop} (G : sx_G0 g L xs z9 Cs ex_mt) : P9 g Cs 25 k9_130 := P9_mk G (T := tX11_copyRow) rfl q9_130
theorem r9_131 {g : am_C} {L : Nat} {xs : Nat → Int32} {Cs : Nat → am_S → Prop} (G : sx_G0 g L xs z9 Cs ex_mt) : P9 g Cs 25 k9_131 := P9_mk G (T := tX11_copyRow) rfl q9_131
theorem r9_132 {g : am_C} {L : Nat} {xs : Nat → Int32} {Cs : Nat → am_S → Prop} (G : sx_G0 g L xs z9 Cs ex_mt) : P9 g Cs 25 k9_132 := P9_mk G (T := tX11_copyRow) rfl q9_132
theorem r9_133 {g : am_C} {L : Nat} {xs : Nat → Int32} {Cs : Nat → am_S → Prop} (G : sx_G0 g L xs z9 Cs ex_mt) : P9 g Cs 25 k9_133 := P9_mk G (T := tX11_copyRow) rfl q9_133
theorem r9_134 {g : am_C} {L : Nat} {xs : Nat → Int32} {Cs : Nat → am_S → Prop} (G : sx_G0 g L xs z9 Cs ex_mt) : P9 g Cs 25 k9_134 := P9_mk G (T := tX11_copyRow) rfl q9_134
theorem r9_135 {g : am_C} {L : Nat} {xs : Nat → Int32} {Cs : Nat → am_S → Prop} (G : sx_G0 g L xs z9 Cs ex_mt) : P9 g Cs 25 k9_135 := P9_mk G (T := tX11_copyRow) rfl q9_135
theorem r9_136 {g : am_C} {L : Nat} {xs : Nat → Int32} {Cs : Nat → am_S → Prop} (G : sx_G0 g L xs z9 Cs ex_mt) : P9 g Cs 25 k9_136 := P9_mk G (T := tX11_copyRow) rfl q9_136
theorem r9_137 {g : am_C} {L : Nat} {xs : Nat → Int32} {Cs : Nat → am_S → Prop} (G : sx_G0 g L xs z9 Cs ex_mt) : P9 g Cs 25 k9_137 := P9_mk G (T := tX11_copyRow) rfl q9_137
theorem r9_138 {g : am_C} {L : Nat} {xs : Nat → Int32} {Cs : Nat → am_S → Prop} (G : sx_G0 g L xs z9 Cs ex_mt) : P9 g Cs 25 k9_138 := P9_mk G (T := tX11_copyRow) rfl q9_138
theorem r9_139 {g : am_C} {L : Nat} {xs : Nat → Int32} {Cs : Nat → am_S → Prop} (G : sx_G0 g L xs z9 Cs ex_mt) : P9 g Cs 25 k9_139 := P9_mk G (T := tX11_copyRow) rfl q9_139
theorem r9_140 {g : am_C} {L : Nat} {xs : Nat → Int32} {Cs : Nat → am_S → Prop} (G : sx_G0 g L xs z9 Cs ex_mt) : P9 g Cs 25 k9_140 := P9_mk G (T := tX11_copyRow) rfl q9_140
theorem r9_141 {g : am_C} {L : Nat} {xs : Nat → Int32} {Cs : Nat → am_S → Prop} (G : sx_G0 g L xs z9 Cs ex_mt) : P9 g Cs 25 k9_141 := P9_mk G (T := tX11_copyRow) rfl q9_141
theorem r9_142 {g : am_C} {L : Nat} {xs : Nat → Int32} {Cs : Nat → am_S → Prop} (G : sx_G0 g L xs z9 Cs ex_mt) : P9 g Cs 25 k9_142 := P9_mk G (T := tX11_copyRow) rfl q9_142
theorem r9_143 {g : am_C} {L : Nat} {xs : Nat → Int32} {Cs : Nat → am_S → Prop} (G : sx_G0 g L xs z9 Cs ex_mt) : P9 g Cs 25 k9_143 := P9_mk G (T := tX11_copyRow) rfl q9_143
theorem r9_144 {g : am_C} {L : Nat} {xs : Nat → Int32} {Cs : Nat → am_S → Prop} (G : sx_G0 g L xs z9 Cs ex_mt) : P9 g Cs 72 k9_144 := P9_mk G (T := tX11_weekly) rfl q9_144
theorem r9_145 {g : am_C} {L : Nat} {xs : Nat → Int32} {Cs : Nat → am_S → Prop} (G : sx_G0 g L xs z9 Cs ex_mt) : P9 g Cs 9 k9_145 := P9_mk G (T := tL_window) rfl q9_145
theorem r9_146 {g : am_C} {L : Nat} {xs : Nat → Int32} {Cs : Nat → am_S → Prop} (G : sx_G0 g L xs z9 Cs ex_mt) : P9 g Cs 316 k9_146 := P9_mk G (T := tX9_weightThatMayBe) rfl q9_146
theorem r9_147 {g : am_C} {L : Nat} {xs : Nat → Int32} {Cs : Nat → am_S → Prop} (G : sx_G0 g L xs z9 Cs ex_mt) : P9 g Cs 53 k9_147 := P9_mk G (T := tX11_part) rfl q9_147
theorem r9_148 {g : am_C} {L : Nat} {xs : Nat → Int32} {Cs : Nat → am_S → Prop} (G : sx_G0 g L xs z9 Cs ex_mt) : P9 g Cs 128 k9_148 := P9_mk G (T := tX12_keep) rfl q9_148
theorem r9_149 {g : am_C} {L : Nat} {xs : Nat → Int32} {Cs : Nat → am_S → Prop} (G : sx_G0 g L xs z9 Cs ex_mt) : P9 g Cs 172 k9_149 := P9_mk G (T := tX12_standing) rfl q9_149
theorem r9_150 {g : am_C} {L : Nat} {xs : Nat → Int32} {Cs : Nat → am_S → Prop} (G : sx_G0 g L xs z9 Cs ex_mt) : P9 g Cs 172 k9_150 := P9_mk G (T := tX12_standing) rfl q9_150
theorem r9_151 {g : am_C} {L : Nat} {xs : Nat → Int32} {Cs : Nat → am_S → Prop} (G : sx_G0 g L xs z9 Cs ex_mt) : P9 g Cs 151 k9_151 := P9_mk G (T := tX12_penceBy) rfl q9_151
theorem r9_152 {g : am_C} {L : Nat} {xs : Nat → Int32} {Cs : Nat → am_S → Prop} (G : sx_G0 g L xs z9 Cs ex_mt) : P9 g Cs 87 k9_152 := P9_mk G (T := tX12_change) rfl q9_152
theorem r9_153 {g : am_C} {L : Nat} {xs : Nat → Int32} {Cs : Nat → am_S → Prop} (G : sx_G0 g L xs z9 Cs ex_mt) : P9 g Cs 103 k9_153 := P9_mk G (T := tX12_end) rfl q9_153
theorem r9_154 {g : am_C} {L : Nat} {xs : Nat → Int32} {Cs : Nat → am_S → Prop} (G : sx_G0 g L xs z9 Cs ex_mt) : P9 g Cs 105 k9_154 := P9_mk G (T := tX12_fault) rfl q9_154
theorem r9_155 {g : am_C} {L : Nat} {xs : Nat → Int32} {Cs : Nat → am_S → Prop} (G : sx_G0 g L xs z9 Cs ex_mt) : P9 g Cs 106 k9_155 := P9_mk G (T := tX12_feed) rfl q9_155
theorem r9_156 {g : am_C} {L : Nat} {xs : Nat → Int32} {Cs : Nat → am_S → Prop} (G : sx_G0 g L xs z9 Cs ex_mt) : P9 g Cs 112 k9_156 := P9_mk G (T := tX12_heard) rfl q9_156
theorem r9_157 {g : am_C} {L : Nat} {xs : Nat → Int32} {Cs : Nat → am_S → Prop} (G : sx_G0 g L xs z9 Cs ex_mt) : P9 g Cs 129 k9_157 := P9_mk G (T := tX12_latest) rfl q9_157
theorem r9_158 {g : am_C} {L : Nat} {xs : Nat → Int32} {Cs : Nat → am_S → Prop} (G : sx_G0 g L xs z9 Cs ex_mt) : P9 g Cs 141 k9_158 := P9_mk G (T := tX12_next) rfl q9_158
theorem r9_159 {g : am_C} {L : Nat} {xs : Nat → Int32} {Cs : Nat → am_S → Prop} (G : sx_G0 g L xs z9 Cs ex_mt) : P9 g Cs 166 k9_159 := P9_mk G (T := tX12_sells) rfl q9_159
theorem r9_160 {g : am_C} {L : Nat} {xs : Nat → Int32} {Cs : Nat → am_S → Prop} (G : sx_G0 g L xs z9 Cs ex_mt) : P9 g Cs 93 k9_160 := P9_mk G (T := tX12_comes) rfl q9_160
theorem r9_161 {g : am_C} {L : Nat} {xs : Nat → Int32} {Cs : Nat → am_S → Prop} (G : sx_G0 g L xs z9 Cs ex_mt) : P9 g Cs 135 k9_161 := P9_mk G (T := tX12_logged) rfl q9_161
theorem r9_162 {g : am_C} {L : Nat} {xs : Nat → Int32} {Cs : Nat → am_S → Prop} (G : sx_G0 g L xs z9 Cs ex_mt) : P9 g Cs 140 k9_162 := P9_mk G (T := tX12_needs) rfl q9_162
theorem r9_163 {g : am_C} {L : Nat} {xs : Nat → Int32} {Cs : Nat → am_S → Prop} (G : sx_G0 g L xs z9 Cs ex_mt) : P9 g Cs 143 k9_163 := P9_mk G (T := tX12_now) rfl q9_163
theorem r9_164 {g : am_C} {L : Nat} {xs : Nat → Int32} {Cs : Nat → am_S → Prop} (G : sx_G0 g L xs z9 Cs ex_mt) : P9 g Cs 156 k9_164 := P9_mk G (T := tX12_race) rfl q9_164
theorem r9_165 {g : am_C} {L : Nat} {xs : Nat → Int32} {Cs : Nat → am_S → Prop} (G : sx_G0 g L xs z9 Cs ex_mt) : P9 g Cs 158 k9_165 := P9_mk G (T := tX12_rowFrom) rfl q9_165
theorem r9_166 {g : am_C} {L : Nat} {xs : Nat → Int32} {Cs : Nat → am_S → Prop} (G : sx_G0 g L xs z9 Cs ex_mt) : P9 g Cs 168 k9_166 := P9_mk G (T := tX12_share) rfl q9_166
theorem r9_167 {g : am_C} {L : Nat} {xs : Nat → Int32} {Cs : Nat → am_S → Prop} (G : sx_G0 g L xs z9 Cs ex_mt) : P9 g Cs 170 k9_167 := P9_mk G (T := tX12_stand) rfl q9_167
theorem r9_168 {g : am_C} {L : Nat} {xs : Nat → Int32} {Cs : Nat → am_S → Prop} (G : sx_G0 g L xs z9 Cs ex_mt) : P9 g Cs 180 k9_168 := P9_mk G (T := tX12_undo) rfl q9_168
theorem r9_169 {g : am_C} {L : Nat} {xs : Nat → Int32} {Cs : Nat → am_S → Prop} (G : sx_G0 g L xs z9 Cs ex_mt) : P9 g Cs 184 k9_169 := P9_mk G (T := tX12_weekly) rfl q9_169
theorem r9_170 {g : am_C} {L : Nat} {xs : Nat → Int32} {Cs : Nat → am_S → Prop} (G : sx_G0 g L xs z9 Cs ex_mt) : P9 g Cs 191 k9_170 := P9_mk G (T := tX12_window) rfl q9_170
theorem r9_171 {g : am_C} {L : Nat} {xs : Nat → Int32} {Cs : Nat → am_S → Prop} (G : sx_G0 g L xs z9 Cs ex_mt) : P9 g Cs 148 k9_171 := P9_mk G (T := tX12_part) rfl q9_171
theorem r9_172 {g : am_C} {L : Nat} {xs : Nat → Int32} {Cs : Nat → am_S → Prop} (G : sx_G0 g L xs z9 Cs ex_mt) : P9 g Cs 148 k9_172 := P9_mk G (T := tX12_part) rfl q9_172
theorem r9_173 {g : am_C} {L : Nat} {xs : Nat → Int32} {Cs : Nat → am_S → Prop} (G : sx_G0 g L xs z9 Cs ex_mt) : P9 g Cs 281 k9_173 := P9_mk G (T := tX8_readOne) rfl q9_173
theorem r9_174 {g : am_C} {L : Nat} {xs : Nat → Int32} {Cs : Nat → am_S → Prop} (G : sx_G0 g L xs z9 Cs ex_mt) : P9 g Cs 250 k9_174 := P9_mk G (T := tX6_step) rfl q9_174
theorem r9_175 {g : am_C} {L : Nat} {xs : Nat → Int32} {Cs : Nat → am_S → Prop} (G : sx_G0 g L xs z9 Cs ex_mt) : P9 g Cs 260 k9_175 := P9_mk G (T := tX7_copyFrom) rfl q9_175
theorem r9_176 {g : am_C} {L : Nat} {xs : Nat → Int32} {Cs : Nat → am_S → Prop} (G : sx_G0 g L xs z9 Cs ex_mt) : P9 g Cs 260 k9_176 := P9_mk G (T := tX7_copyFrom) rfl q9_176
theorem r9_177 {g : am_C} {L : Nat} {xs : Nat → Int32} {Cs : Nat → am_S → Prop} (G : sx_G0 g L xs z9 Cs ex_mt) : P9 g Cs 260 k9_177 := P9_mk G (T := tX7_copyFrom) rfl q9_177
theorem r9_178 {g : am_C} {L : Nat} {xs : Nat → Int32} {Cs : Nat → am_S → Prop} (G : sx_G0 g L xs z9 Cs ex_mt) : P9 g Cs 260 k9_178 := P9_mk G (T := tX7_copyFrom) rfl q9_178
theorem r9_179 {g : am_C} {L : Nat} {xs : Nat → Int32} {Cs : Nat → am_S → Prop} (G : sx_G0 g L xs z9 Cs ex_mt) : P9 g Cs 260 k9_179 := P9_mk G (T := tX7_copyFrom) rfl q9_179
theorem r9_180 {g : am_C} {L : Nat} {xs : Nat → Int32} {Cs : Nat → am_S → Prop} (G : sx_G0 g L xs z9 Cs ex_mt) : P9 g Cs 260 k9_180 := P9_mk G (T := tX7_copyFrom) rfl q9_180
theorem r9_181 {g : am_C} {L : Nat} {xs : Nat → Int32} {Cs : Nat → am_S → Prop} (G : sx_G0 g L xs z9 Cs ex_mt) : P9 g Cs 260 k9_181 := P9_mk G (T := tX7_copyFrom) rfl q9_181
theorem r9_182 {g : am_C} {L : Nat} {xs : Nat → Int32} {Cs : Nat → am_S → Prop} (G : sx_G0 g L xs z9 Cs ex_mt) : P9 g Cs 260 k9_182 := P9_mk G (T := tX7_copyFrom) rfl q9_182
theorem r9_183 {g : am_C} {L : Nat} {xs : Nat → Int32} {Cs : Nat → am_S → Prop} (G : sx_G0 g L xs z9 Cs ex_mt) : P9 g Cs 260 k9_183 := P9_mk G (T := tX7_copyFrom) rfl q9_183
theorem r9_184 {g : am_C} {L : Nat} {xs : Nat → Int32} {Cs : Nat → am_S → Prop} (G : sx_G0 g L xs z9 Cs ex_mt) : P9 g Cs 260 k9_184 := P9_mk G (T := tX7_copyFrom) rfl q9_184
theorem r9_185 {g : am_C} {L : Nat} {xs : Nat → Int32} {Cs : Nat → am_S → Prop} (G : sx_G0 g L xs z9 Cs ex_mt) : P9 g Cs 260 k9_185 := P9_mk G (T := tX7_copyFrom) rfl q9_185
theorem r9_186 {g : am_C} {L : Nat} {xs : Nat → Int32} {Cs : Nat → am_S → Prop} (G : sx_G0 g L xs z9 Cs ex_mt) : P9 g Cs 221 k9_186 := P9_mk G (T := tX4_prepareGains) rfl q9_186
theorem r9_187 {g : am_C} {L : Nat} {xs : Nat → Int32} {Cs : Nat → am_S → Prop} (G : sx_G0 g L xs z9 Cs ex_mt) : P9 g Cs 223 k9_187 := P9_mk G (T := tX4_putAhead) rfl q9_187
theorem r9_188 {g : am_C} {L : Nat} {xs : Nat → Int32} {Cs : Nat → am_S → Prop} (G : sx_G0 g L xs z9 Cs ex_mt) : P9 g Cs 233 k9_188 := P9_mk G (T := tX4_traceBest) rfl q9_188
theorem r9_189 {g : am_C} {L : Nat} {xs : Nat → Int32} {Cs : Nat → am_S → Prop} (G : sx_G0 g L xs z9 Cs ex_mt) : P9 g Cs 21 k9_189 := P9_mk G (T := tX11_better) rfl q9_189
theorem r9_190 {g : am_C} {L : Nat} {xs : Nat → Int32} {Cs : Nat → am_S → Prop} (G : sx_G0 g L xs z9 Cs ex_mt) : P9 g Cs 26 k9_190 := P9_mk G (T := tX11_count) rfl q9_190
theorem r9_191 {g : am_C} {L : Nat} {xs : Nat → Int32} {Cs : Nat → am_S → Prop} (G : sx_G0 g L xs z9 Cs ex_mt) : P9 g Cs 14 k9_191 := P9_mk G (T := tX0_live) rfl q9_191
theorem r9_192 {g : am_C} {L : Nat} {xs : Nat → Int32} {Cs : Nat → am_S → Prop} (G : sx_G0 g L xs z9 Cs ex_mt) : P9 g Cs 37 k9_192 := P9_mk G (T := tX11_idle) rfl q9_192
theorem r9_193 {g : am_C} {L : Nat} {xs : Nat → Int32} {Cs : Nat → am_S → Prop} (G : sx_G0 g L xs z9 Cs ex_mt) : P9 g Cs 260 k9_193 := P9_mk G (T := tX7_copyFrom) rfl q9_193
theorem r9_194 {g : am_C} {L : Nat} {xs : Nat → Int32} {Cs : Nat → am_S → Prop} (G : sx_G0 g L xs z9 Cs ex_mt) : P9 g Cs 260 k9_194 := P9_mk G (T := tX7_copyFrom) rfl q9_194
theorem r9_195 {g : am_C} {L : Nat} {xs : Nat → Int32} {Cs : Nat → am_S → Prop} (G : sx_G0 g L xs z9 Cs ex_mt) : P9 g Cs 197 k9_195 := P9_mk G (T := tX2_judge) rfl q9_195
theorem r9_196 {g : am_C} {L : Nat} {xs : Nat → Int32} {Cs : Nat → am_S → Prop} (G : sx_G0 g L xs z9 Cs ex_mt) : P9 g Cs 56 k9_196 := P9_mk G (T := tX11_race) rfl q9_196
theorem r9_197 {g : am_C} {L : Nat} {xs : Nat → Int32} {Cs : Nat → am_S → Prop} (G : sx_G0 g L xs z9 Cs ex_mt) : P9 g Cs 260 k9_197 := P9_mk G (T := tX7_copyFrom) rfl q9_197
theorem r9_198 {g : am_C} {L : Nat} {xs : Nat → Int32} {Cs : Nat → am_S → Prop} (G : sx_G0 g L xs z9 Cs ex_mt) : P9 g Cs 260 k9_198 := P9_mk G (T := tX7_copyFrom) rfl q9_198
theorem r9_199 {g : am_C} {L : Nat} {xs : Nat → Int32} {Cs : Nat → am_S → Prop} (G : sx_G0 g L xs z9 Cs ex_mt) : P9 g Cs 283 k9_199 := P9_mk G (T := tX8_windowsOf) rfl q9_199
theorem r9_200 {g : am_C} {L : Nat} {xs : Nat → Int32} {Cs : Nat → am_S → Prop} (G : sx_G0 g L xs z9 Cs ex_mt) : P9 g Cs 68 k9_200 := P9_mk G (T := tX11_trust) rfl q9_200
theorem r9_201 {g : am_C} {L : Nat} {xs : Nat → Int32} {Cs : Nat → am_S → Prop} (G : sx_G0 g L xs z9 Cs ex_mt) : P9 g Cs 260 k9_201 := P9_mk G (T := tX7_copyFrom) rfl q9_201
theorem r9_202 {g : am_C} {L : Nat} {xs : Nat → Int32} {Cs : Nat → am_S → Prop} (G : sx_G0 g L xs z9 Cs ex_mt) : P9 g Cs 260 k9_202 := P9_mk G (T := tX7_copyFrom) rfl q9_202
theorem r9_203 {g : am_C} {L : Nat} {xs : Nat → Int32} {Cs : Nat → am_S → Prop} (G : sx_G0 g L xs z9 Cs ex_mt) : P9 g Cs 260 k9_203 := P9_mk G (T := tX7_copyFrom) rfl q9_203
theorem r9_204 {g : am_C} {L : Nat} {xs : Nat → Int32} {Cs : Nat → am_S → Prop} (G : sx_G0 g L xs z9 Cs ex_mt) : P9 g Cs 260 k9_204 := P9_mk G (T := tX7_copyFrom) rfl q9_204
theorem r9_205 {g : am_C} {L : Nat} {xs : Nat → Int32} {Cs : Nat → am_S → Prop} (G : sx_G0 g L xs z9 Cs ex_mt) : P9 g Cs 260 k9_205 := P9_mk G (T := tX7_copyFrom) rfl q9_205
theorem r9_206 {g : am_C} {L : Nat} {xs : Nat → Int32} {Cs : Nat → am_S → Prop} (G : sx_G0 g L xs z9 Cs ex_mt) : P9 g Cs 260 k9_206 := P9_mk G (T := tX7_copyFrom) rfl q9_206
theorem r9_207 {g : am_C} {L : Nat} {xs : Nat → Int32} {Cs : Nat → am_S → Prop} (G : sx_G0 g L xs z9 Cs ex_mt) : P9 g Cs 260 k9_207 := P9_mk G (T := tX7_copyFrom) rfl q9_207
theorem r9_208 {g : am_C} {L : Nat} {xs : Nat → Int32} {Cs : Nat → am_S → Prop} (G : sx_G0 g L xs z9 Cs ex_mt) : P9 g Cs 260 k9_208 := P9_mk G (T := tX7_copyFrom) rfl q9_208
theorem r9_209 {g : am_C} {L : Nat} {xs : Nat → Int32} {Cs : Nat → am_S → Prop} (G : sx_G0 g L xs z9 Cs ex_mt) : P9 g Cs 10 k9_209 := P9_mk G (T := tL_yet) rfl q9_209
theorem r9_210 {g : am_C} {L : Nat} {xs : Nat → Int32} {Cs : Nat → am_S → Prop} (G : sx_G0 g L xs z9 Cs ex_mt) : P9 g Cs 6 k9_210 := P9_mk G (T := tL_gain) rfl q9_210
theorem r9_211 {g : am_C} {L : Nat} {xs : Nat → Int32} {Cs : Nat → am_S → Prop} (G : sx_G0 g L xs z9 Cs ex_mt) : P9 g Cs 7 k9_211 := P9_mk G (T := tL_meant) rfl q9_211
theorem r9_212 {g : am_C} {L : Nat} {xs : Nat → Int32} {Cs : Nat → am_S → Prop} (G : sx_G0 g L xs z9 Cs ex_mt) : P9 g Cs 76 k9_212 := P9_mk G (T := tX12_begin) rfl q9_212
theorem r9_213 {g : am_C} {L : Nat} {xs : Nat → Int32} {Cs : Nat → am_S → Prop} (G : sx_G0 g L xs z9 Cs ex_mt) : P9 g Cs 110 k9_213 := P9_mk G (T := tX12_gainOf) rfl q9_213
theorem r9_214 {g : am_C} {L : Nat} {xs : Nat → Int32} {Cs : Nat → am_S → Prop} (G : sx_G0 g L xs z9 Cs ex_mt) : P9 g Cs 94 k9_214 := P9_mk G (T := tX12_count) rfl q9_214
theorem r9_215 {g : am_C} {L : Nat} {xs : Nat → Int32} {Cs : Nat → am_S → Prop} (G : sx_G0 g L xs z9 Cs ex_mt) : P9 g Cs 97 k9_215 := P9_mk G (T := tX12_does) rfl q9_215
theorem r9_216 {g : am_C} {L : Nat} {xs : Nat → Int32} {Cs : Nat → am_S → Prop} (G : sx_G0 g L xs z9 Cs ex_mt) : P9 g Cs 164 k9_216 := P9_mk G (T := tX12_sell) rfl q9_216
theorem r9_217 {g : am_C} {L : Nat} {xs : Nat → Int32} {Cs : Nat → am_S → Prop} (G : sx_G0 g L xs z9 Cs ex_mt) : P9 g Cs 132 k9_217 := P9_mk G (T := tX12_line) rfl q9_217
theorem r9_218 {g : am_C} {L : Nat} {xs : Nat → Int32} {Cs : Nat → am_S → Prop} (G : sx_G0 g L xs z9 Cs ex_mt) : P9 g Cs 178 k9_218 := P9_mk G (T := tX12_train) rfl q9_218
theorem r9_219 {g : am_C} {L : Nat} {xs : Nat → Int32} {Cs : Nat → am_S → Prop} (G : sx_G0 g L xs z9 Cs ex_mt) : P9 g Cs 181 k9_219 := P9_mk G (T := tX12_waits) rfl q9_219
theorem r9_220 {g : am_C} {L : Nat} {xs : Nat → Int32} {Cs : Nat → am_S → Prop} (G : sx_G0 g L xs z9 Cs ex_mt) : P9 g Cs 182 k9_220 := P9_mk G (T := tX12_walk) rfl q9_220
theorem r9_221 {g : am_C} {L : Nat} {xs : Nat → Int32} {Cs : Nat → am_S → Prop} (G : sx_G0 g L xs z9 Cs ex_mt) : P9 g Cs 192 k9_221 := P9_mk G (T := tX12_yet) rfl q9_221
theorem r9_222 {g : am_C} {L : Nat} {xs : Nat → Int32} {Cs : Nat → am_S → Prop} (G : sx_G0 g L xs z9 Cs ex_mt) : P9 g Cs 137 k9_222 := P9_mk G (T := tX12_meant) rfl q9_222
theorem r9_223 {g : am_C} {L : Nat} {xs : Nat → Int32} {Cs : Nat → am_S → Prop} (G : sx_G0 g L xs z9 Cs ex_mt) : P9 g Cs 279 k9_223 := P9_mk G (T := tX8_readCond) rfl q9_223
theorem r9_224 {g : am_C} {L : Nat} {xs : Nat → Int32} {Cs : Nat → am_S → Prop} (G : sx_G0 g L xs z9 Cs ex_mt) : P9 g Cs 202 k9_224 := P9_mk G (T := tX3_add) rfl q9_224
theorem r9_225 {g : am_C} {L : Nat} {xs : Nat → Int32} {Cs : Nat → am_S → Prop} (G : sx_G0 g L xs z9 Cs ex_mt) : P9 g Cs 222 k9_225 := P9_mk G (T := tX4_prepareStarts) rfl q9_225
theorem r9_226 {g : am_C} {L : Nat} {xs : Nat → Int32} {Cs : Nat → am_S → Prop} (G : sx_G0 g L xs z9 Cs ex_mt) : P9 g Cs 217 k9_226 := P9_mk G (T := tX4_measureUp) rfl q9_226
theorem r9_227 {g : am_C} {L : Nat} {xs : Nat → Int32} {Cs : Nat → am_S → Prop} (G : sx_G0 g L xs z9 Cs ex_mt) : P9 g Cs 216 k9_227 := P9_mk G (T := tX4_measureDown) rfl q9_227
theorem r9_228 {g : am_C} {L : Nat} {xs : Nat → Int32} {Cs : Nat → am_S → Prop} (G : sx_G0 g L xs z9 Cs ex_mt) : P9 g Cs 38 k9_228 := P9_mk G (T := tX11_image) rfl q9_228
theorem r9_229 {g : am_C} {L : Nat} {xs : Nat → Int32} {Cs : Nat → am_S → Prop} (G : sx_G0 g L xs z9 Cs ex_mt) : P9 g Cs 198 k9_229 := P9_mk G (T := tX2_readFrom) rfl q9_229
theorem r9_230 {g : am_C} {L : Nat} {xs : Nat → Int32} {Cs : Nat → am_S → Prop} (G : sx_G0 g L xs z9 Cs ex_mt) : P9 g Cs 57 k9_230 := P9_mk G (T := tX11_restore) rfl q9_230
theorem r9_231 {g : am_C} {L : Nat} {xs : Nat → Int32} {Cs : Nat → am_S → Prop} (G : sx_G0 g L xs z9 Cs ex_mt) : P9 g Cs 58 k9_231 := P9_mk G (T := tX11_said) rfl q9_231
theorem r9_232 {g : am_C} {L : Nat} {xs : Nat → Int32} {Cs : Nat → am_S → Prop} (G : sx_G0 g L xs z9 Cs ex_mt) : P9 g Cs 304 k9_232 := P9_mk G (T := tX9_readStands) rfl q9_232
theorem r9_233 {g : am_C} {L : Nat} {xs : Nat → Int32} {Cs : Nat → am_S → Prop} (G : sx_G0 g L xs z9 Cs ex_mt) : P9 g Cs 69 k9_233 := P9_mk G (T := tX11_undo) rfl q9_233
theorem r9_234 {g : am_C} {L : Nat} {xs : Nat → Int32} {Cs : Nat → am_S → Prop} (G : sx_G0 g L xs z9 Cs ex_mt) : P9 g Cs 88 k9_234 := P9_mk G (T := tX12_chooses) rfl q9_234
theorem r9_235 {g : am_C} {L : Nat} {xs : Nat → Int32} {Cs : Nat → am_S → Prop} (G : sx_G0 g L xs z9 Cs ex_mt) : P9 g Cs 81 k9_235 := P9_mk G (T := tX12_better) rfl q9_235
theorem r9_236 {g : am_C} {L : Nat} {xs : Nat → Int32} {Cs : Nat → am_S → Prop} (G : sx_G0 g L xs z9 Cs ex_mt) : P9 g Cs 115 k9_236 := P9_mk G (T := tX12_idle) rfl q9_236
theorem r9_237 {g : am_C} {L : Nat} {xs : Nat → Int32} {Cs : Nat → am_S → Prop} (G : sx_G0 g L xs z9 Cs ex_mt) : P9 g Cs 133 k9_237 := P9_mk G (T := tX12_log) rfl q9_237
theorem r9_238 {g : am_C} {L : Nat} {xs : Nat → Int32} {Cs : Nat → am_S → Prop} (G : sx_G0 g L xs z9 Cs ex_mt) : P9 g Cs 173 k9_238 := P9_mk G (T := tX12_station) rfl q9_238
theorem r9_239 {g : am_C} {L : Nat} {xs : Nat → Int32} {Cs : Nat → am_S → Prop} (G : sx_G0 g L xs z9 Cs ex_mt) : P9 g Cs 179 k9_239 := P9_mk G (T := tX12_trust) rfl q9_239
theorem r9_240 {g : am_C} {L : Nat} {xs : Nat → Int32} {Cs : Nat → am_S → Prop} (G : sx_G0 g L xs z9 Cs ex_mt) : P9 g Cs 109 k9_240 := P9_mk G (T := tX12_gain) rfl q9_240
theorem r9_241 {g : am_C} {L : Nat} {xs : Nat → Int32} {Cs : Nat → am_S → Prop} (G : sx_G0 g L xs z9 Cs ex_mt) : P9 g Cs 281 k9_241 := P9_mk G (T := tX8_readOne) rfl q9_241
theorem r9_242 {g : am_C} {L : Nat} {xs : Nat → Int32} {Cs : Nat → am_S → Prop} (G : sx_G0 g L xs z9 Cs ex_mt) : P9 g Cs 19 k9_242 := P9_mk G (T := tX11_begin) rfl q9_242
theorem r9_243 {g : am_C} {L : Nat} {xs : Nat → Int32} {Cs : Nat → am_S → Prop} (G : sx_G0 g L xs z9 Cs ex_mt) : P9 g Cs 220 k9_243 := P9_mk G (T := tX4_prepareBest) rfl q9_243
theorem r9_244 {g : am_C} {L : Nat} {xs : Nat → Int32} {Cs : Nat → am_S → Prop} (G : sx_G0 g L xs z9 Cs ex_mt) : P9 g Cs 225 k9_244 := P9_mk G (T := tX4_rowGain) rfl q9_244
theorem r9_245 {g : am_C} {L : Nat} {xs : Nat → Int32} {Cs : Nat → am_S → Prop} (G : sx_G0 g L xs z9 Cs ex_mt) : P9 g Cs 46 k9_245 := P9_mk G (T := tX11_log) rfl q9_245
theorem r9_246 {g : am_C} {L : Nat} {xs : Nat → Int32} {Cs : Nat → am_S → Prop} (G : sx_G0 g L xs z9 Cs ex_mt) : P9 g Cs 60 k9_246 := P9_mk G (T := tX11_sell) rfl q9_246
theorem r9_247 {g : am_C} {L : Nat} {xs : Nat → Int32} {Cs : Nat → am_S → Prop} (G : sx_G0 g L xs z9 Cs ex_mt) : P9 g Cs 300 k9_247 := P9_mk G (T := tX9_readFrom) rfl q9_247
theorem r9_248 {g : am_C} {L : Nat} {xs : Nat → Int32} {Cs : Nat → am_S → Prop} (G : sx_G0 g L xs z9 Cs ex_mt) : P9 g Cs 67 k9_248 := P9_mk G (T := tX11_train) rfl q9_248
theorem r9_249 {g : am_C} {L : Nat} {xs : Nat → Int32} {Cs : Nat → am_S → Prop} (G : sx_G0 g L xs z9 Cs ex_mt) : P9 g Cs 70 k9_249 := P9_mk G (T := tX11_waits) rfl q9_249
theorem r9_250 {g : am_C} {L : Nat} {xs : Nat → Int32} {Cs : Nat → am_S → Prop} (G : sx_G0 g L xs z9 Cs ex_mt) : P9 g Cs 71 k9_250 := P9_mk G (T := tX11_walk) rfl q9_250
theorem r9_251 {g : am_C} {L : Nat} {xs : Nat → Int32} {Cs : Nat → am_S → Prop} (G : sx_G0 g L xs z9 Cs ex_mt) : P9 g Cs 8 k9_251 := P9_mk G (T := tL_plan) rfl q9_251
theorem r9_252 {g : am_C} {L : Nat} {xs : Nat → Int32} {Cs : Nat → am_S → Prop} (G : sx_G0 g L xs z9 Cs ex_mt) : P9 g Cs 154 k9_252 := P9_mk G (T := tX12_plans) rfl q9_252
theorem r9_253 {g : am_C} {L : Nat} {xs : Nat → Int32} {Cs : Nat → am_S → Prop} (G : sx_G0 g L xs z9 Cs ex_mt) : P9 g Cs 279 k9_253 := P9_mk G (T := tX8_readCond) rfl q9_253
theorem r9_254 {g : am_C} {L : Nat} {xs : Nat → Int32} {Cs : Nat → am_S → Prop} (G : sx_G0 g L xs z9 Cs ex_mt) : P9 g Cs 20 k9_254 := P9_mk G (T := tX11_best) rfl q9_254
theorem r9_255 {g : am_C} {L : Nat} {xs : Nat → Int32} {Cs : Nat → am_S → Prop} (G : sx_G0 g L xs z9 Cs ex_mt) : P9 g Cs 22 k9_255 := P9_mk G (T := tX11_border) rfl q9_255
theorem r9_256 {g : am_C} {L : Nat} {xs : Nat → Int32} {Cs : Nat → am_S → Prop} (G : sx_G0 g L xs z9 Cs ex_mt) : P9 g Cs 29 k9_256 := P9_mk G (T := tX11_drawn) rfl q9_256
theorem r9_257 {g : am_C} {L : Nat} {xs : Nat → Int32} {Cs : Nat → am_S → Prop} (G : sx_G0 g L xs z9 Cs ex_mt) : P9 g Cs 48 k9_257 := P9_mk G (T := tX11_luckiest) rfl q9_257
theorem r9_258 {g : am_C} {L : Nat} {xs : Nat → Int32} {Cs : Nat → am_S → Prop} (G : sx_G0 g L xs z9 Cs ex_mt) : P9 g Cs 59 k9_258 := P9_mk G (T := tX11_sale) rfl q9_258
theorem r9_259 {g : am_C} {L : Nat} {xs : Nat → Int32} {Cs : Nat → am_S → Prop} (G : sx_G0 g L xs z9 Cs ex_mt) : P9 g Cs 230 k9_259 := P9_mk G (T := tX4_sellerGain) rfl q9_259
theorem r9_260 {g : am_C} {L : Nat} {xs : Nat → Int32} {Cs : Nat → am_S → Prop} (G : sx_G0 g L xs z9 Cs ex_mt) : P9 g Cs 65 k9_260 := P9_mk G (T := tX11_station) rfl q9_260
theorem r9_261 {g : am_C} {L : Nat} {xs : Nat → Int32} {Cs : Nat → am_S → Prop} (G : sx_G0 g L xs z9 Cs ex_mt) : P9 g Cs 66 k9_261 := P9_mk G (T := tX11_stood) rfl q9_261
theorem r9_262 {g : am_C} {L : Nat} {xs : Nat → Int32} {Cs : Nat → am_S → Prop} (G : sx_G0 g L xs z9 Cs ex_mt) : P9 g Cs 80 k9_262 := P9_mk G (T := tX12_bests) rfl q9_262
theorem r9_263 {g : am_C} {L : Nat} {xs : Nat → Int32} {Cs : Nat → am_S → Prop} (G : sx_G0 g L xs z9 Cs ex_mt) : P9 g Cs 159 k9_263 := P9_mk G (T := tX12_rowGain) rfl q9_263
theorem r9_264 {g : am_C} {L : Nat} {xs : Nat → Int32} {Cs : Nat → am_S → Prop} (G : sx_G0 g L xs z9 Cs ex_mt) : P9 g Cs 152 k9_264 := P9_mk G (T := tX12_plan) rfl q9_264
theorem r9_265 {g : am_C} {L : Nat} {xs : Nat → Int32} {Cs : Nat → am_S → Prop} (G : sx_G0 g L xs z9 Cs ex_mt) : P9 g Cs 281 k9_265 := P9_mk G (T := tX8_readOne) rfl q9_265
theorem r9_266 {g : am_C} {L : Nat} {xs : Nat → Int32} {Cs : Nat → am_S → Prop} (G : sx_G0 g L xs z9 Cs ex_mt) : P9 g Cs 207 k9_266 := P9_mk G (T := tX4_allEarn) rfl q9_266
theorem r9_267 {g : am_C} {L : Nat} {xs : Nat → Int32} {Cs : Nat → am_S → Prop} (G : sx_G0 g L xs z9 Cs ex_mt) : P9 g Cs 5 k9_267 := P9_mk G (T := tL_earns) rfl q9_267
theorem r9_268 {g : am_C} {L : Nat} {xs : Nat → Int32} {Cs : Nat → am_S → Prop} (G : sx_G0 g L xs z9 Cs ex_mt) : P9 g Cs 4 k9_268 := P9_mk G (T := tL_curve) rfl q9_268
theorem r9_269 {g : am_C} {L : Nat} {xs : Nat → Int32} {Cs : Nat → am_S → Prop} (G : sx_G0 g L xs z9 Cs ex_mt) : P9 g Cs 79 k9_269 := P9_mk G (T := tX12_best) rfl q9_269
theorem r9_270 {g : am_C} {L : Nat} {xs : Nat → Int32} {Cs : Nat → am_S → Prop} (G : sx_G0 g L xs z9 Cs ex_mt) : P9 g Cs 84 k9_270 := P9_mk G (T := tX12_border) rfl q9_270
theorem r9_271 {g : am_C} {L : Nat} {xs : Nat → Int32} {Cs : Nat → am_S → Prop} (G : sx_G0 g L xs z9 Cs ex_mt) : P9 g Cs 100 k9_271 := P9_mko G (T := tX12_draws) rfl q9_271
theorem r9_272 {g : am_C} {L : Nat} {xs : Nat → Int32} {Cs : Nat → am_S → Prop} (G : sx_G0 g L xs z9 Cs ex_mt) : P9 g Cs 161 k9_272 := P9_mk G (T := tX12_sale) rfl q9_272
theorem r9_273 {g : am_C} {L : Nat} {xs : Nat → Int32} {Cs : Nat → am_S → Prop} (G : sx_G0 g L xs z9 Cs ex_mt) : P9 g Cs 165 k9_273 := P9_mk G (T := tX12_sellers) rfl q9_273
theorem r9_274 {g : am_C} {L : Nat} {xs : Nat → Int32} {Cs : Nat → am_S → Prop} (G : sx_G0 g L xs z9 Cs ex_mt) : P9 g Cs 174 k9_274 := P9_mk G (T := tX12_stood) rfl q9_274
theorem r9_275 {g : am_C} {L : Nat} {xs : Nat → Int32} {Cs : Nat → am_S → Prop} (G : sx_G0 g L xs z9 Cs ex_mt) : P9 g Cs 102 k9_275 := P9_mk G (T := tX12_earns) rfl q9_275
theorem r9_276 {g : am_C} {L : Nat} {xs : Nat → Int32} {Cs : Nat → am_S → Prop} (G : sx_G0 g L xs z9 Cs ex_mt) : P9 g Cs 95 k9_276 := P9_mk G (T := tX12_curve) rfl q9_276
theorem r9_277 {g : am_C} {L : Nat} {xs : Nat → Int32} {Cs : Nat → am_S → Prop} (G : sx_G0 g L xs z9 Cs ex_mt) : P9 g Cs 279 k9_277 := P9_mk G (T := tX8_readCond) rfl q9_277
theorem r9_278 {g : am_C} {L : Nat} {xs : Nat → Int32} {Cs : Nat → am_S → Prop} (G : sx_G0 g L xs z9 Cs ex_mt) : P9 g Cs 61 k9_278 := P9_mk G (T := tX11_sellers) rfl q9_278
theorem r9_279 {g : am_C} {L : Nat} {xs : Nat → Int32} {Cs : Nat → am_S → Prop} (G : sx_G0 g L xs z9 Cs ex_mt) : P9 g Cs 99 k9_279 := P9_mk G (T := tX12_drawn) rfl q9_279
theorem r9_280 {g : am_C} {L : Nat} {xs : Nat → Int32} {Cs : Nat → am_S → Prop} (G : sx_G0 g L xs z9 Cs ex_mt) : P9 g Cs 136 k9_280 := P9_mk G (T := tX12_luckiest) rfl q9_280
theorem r9_281 {g : am_C} {L : Nat} {xs : Nat → Int32} {Cs : Nat → am_S → Prop} (G : sx_G0 g L xs z9 Cs ex_mt) : P9 g Cs 281 k9_281 := P9_mk G (T := tX8_readOne) rfl q9_281
theorem r9_282 {g : am_C} {L : Nat} {xs : Nat → Int32} {Cs : Nat → am_S → Prop} (G : sx_G0 g L xs z9 Cs ex_mt) : P9 g Cs 279 k9_282 := P9_mk G (T := tX8_readCond) rfl q9_282
theorem r9_283 {g : am_C} {L : Nat} {xs : Nat → Int32} {Cs : Nat → am_S → Prop} (G : sx_G0 g L xs z9 Cs ex_mt) : P9 g Cs 281 k9_283 := P9_mk G (T := tX8_readOne) rfl q9_283
theorem r9_284 {g : am_C} {L : Nat} {xs : Nat → Int32} {Cs : Nat → am_S → Prop} (G : sx_G0 g L xs z9 Cs ex_mt) : P9 g Cs 279 k9_284 := P9_mk G (T := tX8_readCond) rfl q9_284
theorem r9_285 {g : am_C} {L : Nat} {xs : Nat → Int32} {Cs : Nat → am_S → Prop} (G : sx_G0 g L xs z9 Cs ex_mt) : P9 g Cs 281 k9_285 := P9_mk G (T := tX8_readOne) rfl q9_285
theorem r9_286 {g : am_C} {L : Nat} {xs : Nat → Int32} {Cs : Nat → am_S → Prop} (G : sx_G0 g L xs z9 Cs ex_mt) : P9 g Cs 279 k9_286 := P9_mk G (T := tX8_readCond) rfl q9_286
theorem r9_287 {g : am_C} {L : Nat} {xs : Nat → Int32} {Cs : Nat → am_S → Prop} (G : sx_G0 g L xs z9 Cs ex_mt) : P9 g Cs 281 k9_287 := P9_mk G (T := tX8_readOne) rfl q9_287
theorem r9_288 {g : am_C} {L : Nat} {xs : Nat → Int32} {Cs : Nat → am_S → Prop} (G : sx_G0 g L xs z9 Cs ex_mt) : P9 g Cs 279 k9_288 := P9_mk G (T := tX8_readCond) rfl q9_288
theorem r9_289 {g : am_C} {L : Nat} {xs : Nat → Int32} {Cs : Nat → am_S → Prop} (G : sx_G0 g L xs z9 Cs ex_mt) : P9 g Cs 281 k9_289 := P9_mk G (T := tX8_readOne) rfl q9_289
theorem r9_290 {g : am_C} {L : Nat} {xs : Nat → Int32} {Cs : Nat → am_S → Prop} (G : sx_G0 g L xs z9 Cs ex_mt) : P9 g Cs 279 k9_290 := P9_mk G (T := tX8_readCond) rfl q9_290
theorem r9_291 {g : am_C} {L : Nat} {xs : Nat → Int32} {Cs : Nat → am_S → Prop} (G : sx_G0 g L xs z9 Cs ex_mt) : P9 g Cs 281 k9_291 := P9_mk G (T := tX8_readOne) rfl q9_291
theorem r9_292 {g : am_C} {L : Nat} {xs : Nat → Int32} {Cs : Nat → am_S → Prop} (G : sx_G0 g L xs z9 Cs ex_mt) : P9 g Cs 279 k9_292 := P9_mk G (T := tX8_readCond) rfl q9_292
theorem r9_293 {g : am_C} {L : Nat} {xs : Nat → Int32} {Cs : Nat → am_S → Prop} (G : sx_G0 g L xs z9 Cs ex_mt) : P9 g Cs 62 k9_293 := P9_mk G (T := tX11_sentence) rfl q9_293
theorem r9_295 {g : am_C} {L : Nat} {xs : Nat → Int32} {Cs : Nat → am_S → Prop} (G : sx_G0 g L xs z9 Cs ex_mt) : P9 g Cs 160 k9_295 := P9_mk G (T := tX12_said) rfl q9_295
theorem k9_row0 {g : am_C} {L : Nat} {xs : Nat → Int32} {Cs : Nat → am_S → Prop} (G : sx_G0 g L xs z9 Cs ex_mt)  : k9_rP (P9 g Cs) 0 [[], [], [], [k9_38, k9_39, k9_41, k9_76, k9_117, k9_118, k9_119], [k9_268], [k9_267], [k9_210], [k9_211], [k9_251], [k9_145], [k9_209], [], [], []] := ⟨List.forall_mem_nil _, ⟨List.forall_mem_nil _, ⟨List.forall_mem_nil _, ⟨List.forall_mem_cons.mpr ⟨r9_38 G, List.forall_mem_cons.mpr ⟨r9_39 G, List.forall_mem_cons.mpr ⟨r9_41 G, List.forall_mem_cons.mpr ⟨r9_76 G, List.forall_mem_cons.mpr ⟨r9_117 G, List.forall_mem_cons.mpr ⟨r9_118 G, List.forall_mem_cons.mpr ⟨r9_119 G, List.forall_mem_nil _⟩⟩⟩⟩⟩⟩⟩, ⟨List.forall_mem_cons.mpr ⟨r9_268 G, List.forall_mem_nil _⟩, ⟨List.forall_mem_cons.mpr ⟨r9_267 G, List.forall_mem_nil _⟩, ⟨List.forall_mem_cons.mpr ⟨r9_210 G, List.forall_mem_nil _⟩, ⟨List.forall_mem_cons.mpr ⟨r9_211 G, List.forall_mem_nil _⟩, ⟨List.forall_mem_cons.mpr ⟨r9_251 G, List.forall_mem_nil _⟩, ⟨List.forall_mem_cons.mpr ⟨r9_145 G, List.forall_mem_nil _⟩, ⟨List.forall_mem_cons.mpr ⟨r9_209 G, List.forall_mem_nil _⟩, ⟨List.forall_mem_nil _, ⟨List.forall_mem_nil _, ⟨List.forall_mem_nil _, trivial⟩⟩⟩⟩⟩⟩⟩⟩⟩⟩⟩⟩⟩⟩
theorem k9_row1 {g : am_C} {L : Nat} {xs : Nat → Int32} {Cs : Nat → am_S → Prop} (G : sx_G0 g L xs z9 Cs ex_mt)  : k9_rP (P9 g Cs) 14 [[k9_191], [], [], [], [], [k9_242], [k9_254], [k9_189], [k9_255], [], [k9_44], [k9_4, k9_5, k9_6, k9_7, k9_8, k9_9, k9_10, k9_11, k9_12, k9_13, k9_14, k9_15, k9_16, k9_17, k9_18, k9_19, k9_20, k9_21, k9_22, k9_23, k9_24, k9_25, k9_26, k9_27, k9_28, k9_29, k9_30, k9_31, k9_32, k9_33, k9_34, k9_35, k9_36, k9_50, k9_51, k9_52, k9_53, k9_54, k9_55, k9_56, k9_57, k9_58, k9_59, k9_60, k9_61, k9_62, k9_63, k9_64, k9_65, k9_66, k9_67, k9_68, k9_69, k9_70, k9_71, k9_82, k9_83, k9_84, k9_85, k9_86, k9_87, k9_88, k9_89, k9_90, k9_91, k9_92, k9_93, k9_94, k9_95, k9_96, k9_97, k9_98, k9_99, k9_100, k9_101, k9_102, k9_103, k9_105, k9_108, k9_110, k9_111, k9_112, k9_113, k9_114, k9_115, k9_116, k9_120, k9_121, k9_122, k9_123, k9_124, k9_125, k9_126, k9_127, k9_128, k9_129, k9_130, k9_131, k9_132, k9_133, k9_134, k9_135, k9_136, k9_137, k9_138, k9_139, k9_140, k9_141, k9_142, k9_143], [k9_190], []] := ⟨List.forall_mem_cons.mpr ⟨r9_191 G, List.forall_mem_nil _⟩, ⟨List.forall_mem_nil _, ⟨List.forall_mem_nil _, ⟨List.forall_mem_nil _, ⟨List.forall_mem_nil _, ⟨List.forall_mem_cons.mpr ⟨r9_242 G, List.forall_mem_nil _⟩, ⟨List.forall_mem_cons.mpr ⟨r9_254 G, List.forall_mem_nil _⟩, ⟨List.forall_mem_cons.mpr ⟨r9_189 G, List.forall_mem_nil _⟩, ⟨List.forall_mem_cons.mpr ⟨r9_255 G, List.forall_mem_nil _⟩, ⟨List.forall_mem_nil _, ⟨List.forall_mem_cons.mpr ⟨r9_44 G, List.forall_mem_nil _⟩, ⟨List.forall_mem_cons.mpr ⟨r9_4 G, List.forall_mem_cons.mpr ⟨r9_5 G, List.forall_mem_cons.mpr ⟨r9_6 G, List.forall_mem_cons.mpr ⟨r9_7 G, List.forall_mem_cons.mpr ⟨r9_8 G, List.forall_mem_cons.mpr ⟨r9_9 G, List.forall_mem_cons.mpr ⟨r9_10 G, List.forall_mem_cons.mpr ⟨r9_11 G, List.forall_mem_cons.mpr ⟨r9_12 G, List.forall_mem_cons.mpr ⟨r9_13 G, List.forall_mem_cons.mpr ⟨r9_14 G, List.forall_mem_cons.mpr ⟨r9_15 G, List.forall_mem_cons.mpr ⟨r9_16 G, List.forall_mem_cons.mpr ⟨r9_17 G, List.forall_mem_cons.mpr ⟨r9_18 G, List.forall_mem_cons.mpr ⟨r9_19 G, List.forall_mem_cons.mpr ⟨r9_20 G, List.forall_mem_cons.mpr ⟨r9_21 G, List.forall_mem_cons.mpr ⟨r9_22 G, List.forall_mem_cons.mpr ⟨r9_23 G, List.forall_mem_cons.mpr ⟨r9_24 G, List.forall_mem_cons.mpr ⟨r9_25 G, List.forall_mem_cons.mpr ⟨r9_26 G, List.forall_mem_cons.mpr ⟨r9_27 G, List.forall_mem_cons.mpr ⟨r9_28 G, List.forall_mem_cons.mpr ⟨r9_29 G, List.forall_mem_cons.mpr ⟨r9_30 G, List.forall_mem_cons.mpr ⟨r9_31 G, List.forall_mem_cons.mpr ⟨r9_32 G, List.forall_mem_cons.mpr ⟨r9_33 G, List.forall_mem_cons.mpr ⟨r9_34 G, List.forall_mem_cons.mpr ⟨r9_35 G, List.forall_mem_cons.mpr ⟨r9_36 G, List.forall_mem_cons.mpr ⟨r9_50 G, List.forall_mem_cons.mpr ⟨r9_51 G, List.forall_mem_cons.mpr ⟨r9_52 G, List.forall_mem_cons.mpr ⟨r9_53 G, List.forall_mem_cons.mpr ⟨r9_54 G, List.forall_mem_cons.mpr ⟨r9_55 G, List.forall_mem_cons.mpr ⟨r9_56 G, List.forall_mem_cons.mpr ⟨r9_57 G, List.forall_mem_cons.mpr ⟨r9_58 G, List.forall_mem_cons.mpr ⟨r9_59 G, List.forall_mem_cons.mpr ⟨r9_60 G, List.forall_mem_cons.mpr ⟨r9_61 G, List.forall_mem_cons.mpr ⟨r9_62 G, List.forall_mem_cons.mpr ⟨r9_63 G, List.forall_mem_cons.mpr ⟨r9_64 G, List.forall_mem_cons.mpr ⟨r9_65 G, List.forall_mem_cons.mpr ⟨r9_66 G, List.forall_mem_cons.mpr ⟨r9_67 G, List.forall_mem_cons.mpr ⟨r9_68 G, List.forall_mem_cons.mpr ⟨r9_69 G, List.forall_mem_cons.mpr ⟨r9_70 G, List.forall_mem_cons.mpr ⟨r9_71 G, List.forall_mem_cons.mpr ⟨r9_82 G, List.forall_mem_cons.mpr ⟨r9_83 G, List.forall_mem_cons.mpr ⟨r9_84 G, List.forall_mem_cons.mpr ⟨r9_85 G, List.forall_mem_cons.mpr ⟨r9_86 G, List.forall_mem_cons.mpr ⟨r9_87 G, List.forall_mem_cons.mpr ⟨r9_88 G, List.forall_mem_cons.mpr ⟨r9_89 G, List.forall_mem_cons.mpr ⟨r9_90 G, List.forall_mem_cons.mpr ⟨r9_91 G, List.forall_mem_cons.mpr ⟨r9_92 G, List.forall_mem_cons.mpr ⟨r9_93 G, List.forall_mem_cons.mpr ⟨r9_94 G, List.forall_mem_cons.mpr ⟨r9_95 G, List.forall_mem_cons.mpr ⟨r9_96 G, List.forall_mem_cons.mpr ⟨r9_97 G, List.forall_mem_cons.mpr ⟨r9_98 G, List.forall_mem_cons.mpr ⟨r9_99 G, List.forall_mem_cons.mpr ⟨r9_100 G, List.forall_mem_cons.mpr ⟨r9_101 G, List.forall_mem_cons.mpr ⟨r9_102 G, List.forall_mem_cons.mpr ⟨r9_103 G, List.forall_mem_cons.mpr ⟨r9_105 G, List.forall_mem_cons.mpr ⟨r9_108 G, List.forall_mem_cons.mpr ⟨r9_110 G, List.forall_mem_cons.mpr ⟨r9_111 G, List.forall_mem_cons.mpr ⟨r9_112 G, List.forall_mem_cons.mpr ⟨r9_113 G, List.forall_mem_cons.mpr ⟨r9_114 G, List.forall_mem_cons.mpr ⟨r9_115 G, List.forall_mem_cons.mpr ⟨r9_116 G, List.forall_mem_cons.mpr ⟨r9_120 G, List.forall_mem_cons.mpr ⟨r9_121 G, List.forall_mem_cons.mpr ⟨r9_122 G, List.forall_mem_cons.mpr ⟨r9_123 G, List.forall_mem_cons.mpr ⟨r9_124 G, List.forall_mem_cons.mpr ⟨r9_125 G, List.forall_mem_cons.mpr ⟨r9_126 G, List.forall_mem_cons.mpr ⟨r9_127 G, List.forall_mem_cons.mpr ⟨r9_128 G, List.forall_mem_cons.mpr ⟨r9_129 G, List.forall_mem_cons.mpr ⟨r9_130 G, List.forall_mem_cons.mpr ⟨r9_131 G, List.forall_mem_cons.mpr ⟨r9_132 G, List.forall_mem_cons.mpr ⟨r9_133 G, List.forall_mem_cons.mpr ⟨r9_134 G, List.forall_mem_cons.mpr ⟨r9_135 G, List.forall_mem_cons.mpr ⟨r9_136 G, List.forall_mem_cons.mpr ⟨r9_137 G, List.forall_mem_cons.mpr ⟨r9_138 G, List.forall_mem_cons.mpr ⟨r9_139 G, List.forall_mem_cons.mpr ⟨r9_140 G, List.forall_mem_cons.mpr ⟨r9_141 G, List.forall_mem_cons.mpr ⟨r9_142 G, List.forall_mem_cons.mpr ⟨r9_143 G, List.forall_mem_nil _⟩⟩⟩⟩⟩⟩⟩⟩⟩⟩⟩⟩⟩⟩⟩⟩⟩⟩⟩⟩⟩⟩⟩⟩⟩⟩⟩⟩⟩⟩⟩⟩⟩⟩⟩⟩⟩⟩⟩⟩⟩⟩⟩⟩⟩⟩⟩⟩⟩⟩⟩⟩⟩⟩⟩⟩⟩⟩⟩⟩⟩⟩⟩⟩⟩⟩⟩⟩⟩⟩⟩⟩⟩⟩⟩⟩⟩⟩⟩⟩⟩⟩⟩⟩⟩⟩⟩⟩⟩⟩⟩⟩⟩⟩⟩⟩⟩⟩⟩⟩⟩⟩⟩⟩⟩⟩⟩⟩⟩⟩, ⟨List.forall_mem_cons.mpr ⟨r9_190 G, List.forall_mem_nil _⟩, ⟨List.forall_mem_nil _, trivial⟩⟩⟩⟩⟩⟩⟩⟩⟩⟩⟩⟩⟩⟩
theorem k9_row2 {g : am_C} {L : Nat} {xs : Nat → Int32} {Cs : Nat → am_S → Prop} (G : sx_G0 g L xs z9 Cs ex_mt)  : k9_rP (P9 g Cs) 28 [[], [k9_256], [], [k9_46], [], [k9_47], [k9_48], [], [k9_49], [k9_192], [k9_228], [], [], []] := ⟨List.forall_mem_nil _, ⟨List.forall_mem_cons.mpr ⟨r9_256 G, List.forall_mem_nil _⟩, ⟨List.forall_mem_nil _, ⟨List.forall_mem_cons.mpr ⟨r9_46 G, List.forall_mem_nil _⟩, ⟨List.forall_mem_nil _, ⟨List.forall_mem_cons.mpr ⟨r9_47 G, List.forall_mem_nil _⟩, ⟨List.forall_mem_cons.mpr ⟨r9_48 G, List.forall_mem_nil _⟩, ⟨List.forall_mem_nil _, ⟨List.forall_mem_cons.mpr ⟨r9_49 G, List.forall_mem_nil _⟩, ⟨List.forall_mem_cons.mpr ⟨r9_192 G, List.forall_mem_nil _⟩, ⟨List.forall_mem_cons.mpr ⟨r9_228 G, List.forall_mem_nil _⟩, ⟨List.forall_mem_nil _, ⟨List.forall_mem_nil _, ⟨List.forall_mem_nil _, trivial⟩⟩⟩⟩⟩⟩⟩⟩⟩⟩⟩⟩⟩⟩
theorem k9_row3 {g : am_C} {L : Nat} {xs : Nat → Int32} {Cs : Nat → am_S → Prop} (G : sx_G0 g L xs z9 Cs ex_mt)  : k9_rP (P9 g Cs) 42 [[], [], [], [k9_72], [k9_245], [k9_77], [k9_257], [], [k9_78], [], [k9_79], [k9_147], [], []] := ⟨List.forall_mem_nil _, ⟨List.forall_mem_nil _, ⟨List.forall_mem_nil _, ⟨List.forall_mem_cons.mpr ⟨r9_72 G, List.forall_mem_nil _⟩, ⟨List.forall_mem_cons.mpr ⟨r9_245 G, List.forall_mem_nil _⟩, ⟨List.forall_mem_cons.mpr ⟨r9_77 G, List.forall_mem_nil _⟩, ⟨List.forall_mem_cons.mpr ⟨r9_257 G, List.forall_mem_nil _⟩, ⟨List.forall_mem_nil _, ⟨List.forall_mem_cons.mpr ⟨r9_78 G, List.forall_mem_nil _⟩, ⟨List.forall_mem_nil _, ⟨List.forall_mem_cons.mpr ⟨r9_79 G, List.forall_mem_nil _⟩, ⟨List.forall_mem_cons.mpr ⟨r9_147 G, List.forall_mem_nil _⟩, ⟨List.forall_mem_nil _, ⟨List.forall_mem_nil _, trivial⟩⟩⟩⟩⟩⟩⟩⟩⟩⟩⟩⟩⟩⟩
theorem k9_row4 {g : am_C} {L : Nat} {xs : Nat → Int32} {Cs : Nat → am_S → Prop} (G : sx_G0 g L xs z9 Cs ex_mt)  : k9_rP (P9 g Cs) 56 [[k9_196], [k9_230], [k9_231], [k9_258], [k9_246], [k9_278], [k9_293], [k9_106], [k9_107], [k9_260], [k9_261], [k9_248], [k9_200], [k9_233]] := ⟨List.forall_mem_cons.mpr ⟨r9_196 G, List.forall_mem_nil _⟩, ⟨List.forall_mem_cons.mpr ⟨r9_230 G, List.forall_mem_nil _⟩, ⟨List.forall_mem_cons.mpr ⟨r9_231 G, List.forall_mem_nil _⟩, ⟨List.forall_mem_cons.mpr ⟨r9_258 G, List.forall_mem_nil _⟩, ⟨List.forall_mem_cons.mpr ⟨r9_246 G, List.forall_mem_nil _⟩, ⟨List.forall_mem_cons.mpr ⟨r9_278 G, List.forall_mem_nil _⟩, ⟨List.forall_mem_cons.mpr ⟨r9_293 G, List.forall_mem_nil _⟩, ⟨List.forall_mem_cons.mpr ⟨r9_106 G, List.forall_mem_nil _⟩, ⟨List.forall_mem_cons.mpr ⟨r9_107 G, List.forall_mem_nil _⟩, ⟨List.forall_mem_cons.mpr ⟨r9_260 G, List.forall_mem_nil _⟩, ⟨List.forall_mem_cons.mpr ⟨r9_261 G, List.forall_mem_nil _⟩, ⟨List.forall_mem_cons.mpr ⟨r9_248 G, List.forall_mem_nil _⟩, ⟨List.forall_mem_cons.mpr ⟨r9_200 G, List.forall_mem_nil _⟩, ⟨List.forall_mem_cons.mpr ⟨r9_233 G, List.forall_mem_nil _⟩, trivial⟩⟩⟩⟩⟩⟩⟩⟩⟩⟩⟩⟩⟩⟩
theorem k9_row5 {g : am_C} {L : Nat} {xs : Nat → Int32} {Cs : Nat → am_S → Prop} (G : sx_G0 g L xs z9 Cs ex_mt)  : k9_rP (P9 g Cs) 70 [[k9_249], [k9_250], [k9_144], [], [], [], [k9_212], [], [], [k9_269], [k9_262], [k9_235], [], []] := ⟨List.forall_mem_cons.mpr ⟨r9_249 G, List.forall_mem_nil _⟩, ⟨List.forall_mem_cons.mpr ⟨r9_250 G, List.forall_mem_nil _⟩, ⟨List.forall_mem_cons.mpr ⟨r9_144 G, List.forall_mem_nil _⟩, ⟨List.forall_mem_nil _, ⟨List.forall_mem_nil _, ⟨List.forall_mem_nil _, ⟨List.forall_mem_cons.mpr ⟨r9_212 G, List.forall_mem_nil _⟩, ⟨List.forall_mem_nil _, ⟨List.forall_mem_nil _, ⟨List.forall_mem_cons.mpr ⟨r9_269 G, List.forall_mem_nil _⟩, ⟨List.forall_mem_cons.mpr ⟨r9_262 G, List.forall_mem_nil _⟩, ⟨List.forall_mem_cons.mpr ⟨r9_235 G, List.forall_mem_nil _⟩, ⟨List.forall_mem_nil _, ⟨List.forall_mem_nil _, trivial⟩⟩⟩⟩⟩⟩⟩⟩⟩⟩⟩⟩⟩⟩
theorem k9_row6 {g : am_C} {L : Nat} {xs : Nat → Int32} {Cs : Nat → am_S → Prop} (G : sx_G0 g L xs z9 Cs ex_mt)  : k9_rP (P9 g Cs) 84 [[k9_270], [], [], [k9_152], [k9_234], [], [], [], [], [k9_160], [k9_214], [k9_276], [], [k9_215]] := ⟨List.forall_mem_cons.mpr ⟨r9_270 G, List.forall_mem_nil _⟩, ⟨List.forall_mem_nil _, ⟨List.forall_mem_nil _, ⟨List.forall_mem_cons.mpr ⟨r9_152 G, List.forall_mem_nil _⟩, ⟨List.forall_mem_cons.mpr ⟨r9_234 G, List.forall_mem_nil _⟩, ⟨List.forall_mem_nil _, ⟨List.forall_mem_nil _, ⟨List.forall_mem_nil _, ⟨List.forall_mem_nil _, ⟨List.forall_mem_cons.mpr ⟨r9_160 G, List.forall_mem_nil _⟩, ⟨List.forall_mem_cons.mpr ⟨r9_214 G, List.forall_mem_nil _⟩, ⟨List.forall_mem_cons.mpr ⟨r9_276 G, List.forall_mem_nil _⟩, ⟨List.forall_mem_nil _, ⟨List.forall_mem_cons.mpr ⟨r9_215 G, List.forall_mem_nil _⟩, trivial⟩⟩⟩⟩⟩⟩⟩⟩⟩⟩⟩⟩⟩⟩
theorem k9_row7 {g : am_C} {L : Nat} {xs : Nat → Int32} {Cs : Nat → am_S → Prop} (G : sx_G0 g L xs z9 Cs ex_mt)  : k9_rP (P9 g Cs) 98 [[], [k9_279], [k9_271], [], [k9_275], [k9_153], [], [k9_154], [k9_155], [], [], [k9_240], [k9_213], []] := ⟨List.forall_mem_nil _, ⟨List.forall_mem_cons.mpr ⟨r9_279 G, List.forall_mem_nil _⟩, ⟨List.forall_mem_cons.mpr ⟨r9_271 G, List.forall_mem_nil _⟩, ⟨List.forall_mem_nil _, ⟨List.forall_mem_cons.mpr ⟨r9_275 G, List.forall_mem_nil _⟩, ⟨List.forall_mem_cons.mpr ⟨r9_153 G, List.forall_mem_nil _⟩, ⟨List.forall_mem_nil _, ⟨List.forall_mem_cons.mpr ⟨r9_154 G, List.forall_mem_nil _⟩, ⟨List.forall_mem_cons.mpr ⟨r9_155 G, List.forall_mem_nil _⟩, ⟨List.forall_mem_nil _, ⟨List.forall_mem_nil _, ⟨List.forall_mem_cons.mpr ⟨r9_240 G, List.forall_mem_nil _⟩, ⟨List.forall_mem_cons.mpr ⟨r9_213 G, List.forall_mem_nil _⟩, ⟨List.forall_mem_nil _, trivial⟩⟩⟩⟩⟩⟩⟩⟩⟩⟩⟩⟩⟩⟩
theorem k9_row8 {g : am_C} {L : Nat} {xs : Nat → Int32} {Cs : Nat → am_S → Prop} (G : sx_G0 g L xs z9 Cs ex_mt) (r9_294 : P9 g Cs 121 k9_294) (r9_297 : P9 g Cs 116 k9_297) : k9_rP (P9 g Cs) 112 [[k9_156], [], [], [k9_236], [k9_297], [], [], [], [], [k9_294], [], [], [], []] := ⟨List.forall_mem_cons.mpr ⟨r9_156 G, List.forall_mem_nil _⟩, ⟨List.forall_mem_nil _, ⟨List.forall_mem_nil _, ⟨List.forall_mem_cons.mpr ⟨r9_236 G, List.forall_mem_nil _⟩, ⟨List.forall_mem_cons.mpr ⟨r9_297, List.forall_mem_nil _⟩, ⟨List.forall_mem_nil _, ⟨List.forall_mem_nil _, ⟨List.forall_mem_nil _, ⟨List.forall_mem_nil _, ⟨List.forall_mem_cons.mpr ⟨r9_294, List.forall_mem_nil _⟩, ⟨List.forall_mem_nil _, ⟨List.forall_mem_nil _, ⟨List.forall_mem_nil _, ⟨List.forall_mem_nil _, trivial⟩⟩⟩⟩⟩⟩⟩⟩⟩⟩⟩⟩⟩⟩
theorem k9_row9 {g : am_C} {L : Nat} {xs : Nat → Int32} {Cs : Nat → am_S → Prop} (G : sx_G0 g L xs z9 Cs ex_mt)  : k9_rP (P9 g Cs) 126 [[], [], [k9_148], [k9_157], [], [], [k9_217], [k9_237], [], [k9_161], [k9_280], [k9_222], [], []] := ⟨List.forall_mem_nil _, ⟨List.forall_mem_nil _, ⟨List.forall_mem_cons.mpr ⟨r9_148 G, List.forall_mem_nil _⟩, ⟨List.forall_mem_cons.mpr ⟨r9_157 G, List.forall_mem_nil _⟩, ⟨List.forall_mem_nil _, ⟨List.forall_mem_nil _, ⟨List.forall_mem_cons.mpr ⟨r9_217 G, List.forall_mem_nil _⟩, ⟨List.forall_mem_cons.mpr ⟨r9_237 G, List.forall_mem_nil _⟩, ⟨List.forall_mem_nil _, ⟨List.forall_mem_cons.mpr ⟨r9_161 G, List.forall_mem_nil _⟩, ⟨List.forall_mem_cons.mpr ⟨r9_280 G, List.forall_mem_nil _⟩, ⟨List.forall_mem_cons.mpr ⟨r9_222 G, List.forall_mem_nil _⟩, ⟨List.forall_mem_nil _, ⟨List.forall_mem_nil _, trivial⟩⟩⟩⟩⟩⟩⟩⟩⟩⟩⟩⟩⟩⟩
theorem k9_row10 {g : am_C} {L : Nat} {xs : Nat → Int32} {Cs : Nat → am_S → Prop} (G : sx_G0 g L xs z9 Cs ex_mt)  : k9_rP (P9 g Cs) 140 [[k9_162], [k9_158], [], [k9_163], [], [], [], [], [k9_171, k9_172], [], [], [k9_151], [k9_264], []] := ⟨List.forall_mem_cons.mpr ⟨r9_162 G, List.forall_mem_nil _⟩, ⟨List.forall_mem_cons.mpr ⟨r9_158 G, List.forall_mem_nil _⟩, ⟨List.forall_mem_nil _, ⟨List.forall_mem_cons.mpr ⟨r9_163 G, List.forall_mem_nil _⟩, ⟨List.forall_mem_nil _, ⟨List.forall_mem_nil _, ⟨List.forall_mem_nil _, ⟨List.forall_mem_nil _, ⟨List.forall_mem_cons.mpr ⟨r9_171 G, List.forall_mem_cons.mpr ⟨r9_172 G, List.forall_mem_nil _⟩⟩, ⟨List.forall_mem_nil _, ⟨List.forall_mem_nil _, ⟨List.forall_mem_cons.mpr ⟨r9_151 G, List.forall_mem_nil _⟩, ⟨List.forall_mem_cons.mpr ⟨r9_264 G, List.forall_mem_nil _⟩, ⟨List.forall_mem_nil _, trivial⟩⟩⟩⟩⟩⟩⟩⟩⟩⟩⟩⟩⟩⟩
theorem k9_row11 {g : am_C} {L : Nat} {xs : Nat → Int32} {Cs : Nat → am_S → Prop} (G : sx_G0 g L xs z9 Cs ex_mt) (r9_296 : P9 g Cs 167 k9_296) (r9_298 : P9 g Cs 157 k9_298) : k9_rP (P9 g Cs) 154 [[k9_252], [], [k9_164], [k9_298], [k9_165], [k9_263], [k9_295], [k9_272], [], [], [k9_216], [k9_273], [k9_159], [k9_296]] := ⟨List.forall_mem_cons.mpr ⟨r9_252 G, List.forall_mem_nil _⟩, ⟨List.forall_mem_nil _, ⟨List.forall_mem_cons.mpr ⟨r9_164 G, List.forall_mem_nil _⟩, ⟨List.forall_mem_cons.mpr ⟨r9_298, List.forall_mem_nil _⟩, ⟨List.forall_mem_cons.mpr ⟨r9_165 G, List.forall_mem_nil _⟩, ⟨List.forall_mem_cons.mpr ⟨r9_263 G, List.forall_mem_nil _⟩, ⟨List.forall_mem_cons.mpr ⟨r9_295 G, List.forall_mem_nil _⟩, ⟨List.forall_mem_cons.mpr ⟨r9_272 G, List.forall_mem_nil _⟩, ⟨List.forall_mem_nil _, ⟨List.forall_mem_nil _, ⟨List.forall_mem_cons.mpr ⟨r9_216 G, List.forall_mem_nil _⟩, ⟨List.forall_mem_cons.mpr ⟨r9_273 G, List.forall_mem_nil _⟩, ⟨List.forall_mem_cons.mpr ⟨r9_159 G, List.forall_mem_nil _⟩, ⟨List.forall_mem_cons.mpr ⟨r9_296, List.forall_mem_nil _⟩, trivial⟩⟩⟩⟩⟩⟩⟩⟩⟩⟩⟩⟩⟩⟩
theorem k9_row12 {g : am_C} {L : Nat} {xs : Nat → Int32} {Cs : Nat → am_S → Prop} (G : sx_G0 g L xs z9 Cs ex_mt)  : k9_rP (P9 g Cs) 168 [[k9_166], [], [k9_167], [], [k9_149, k9_150], [k9_238], [k9_274], [], [], [], [k9_218], [k9_239], [k9_168], [k9_219]] := ⟨List.forall_mem_cons.mpr ⟨r9_166 G, List.forall_mem_nil _⟩, ⟨List.forall_mem_nil _, ⟨List.forall_mem_cons.mpr ⟨r9_167 G, List.forall_mem_nil _⟩, ⟨List.forall_mem_nil _, ⟨List.forall_mem_cons.mpr ⟨r9_149 G, List.forall_mem_cons.mpr ⟨r9_150 G, List.forall_mem_nil _⟩⟩, ⟨List.forall_mem_cons.mpr ⟨r9_238 G, List.forall_mem_nil _⟩, ⟨List.forall_mem_cons.mpr ⟨r9_274 G, List.forall_mem_nil _⟩, ⟨List.forall_mem_nil _, ⟨List.forall_mem_nil _, ⟨List.forall_mem_nil _, ⟨List.forall_mem_cons.mpr ⟨r9_218 G, List.forall_mem_nil _⟩, ⟨List.forall_mem_cons.mpr ⟨r9_239 G, List.forall_mem_nil _⟩, ⟨List.forall_mem_cons.mpr ⟨r9_168 G, List.forall_mem_nil _⟩, ⟨List.forall_mem_cons.mpr ⟨r9_219 G, List.forall_mem_nil _⟩, trivial⟩⟩⟩⟩⟩⟩⟩⟩⟩⟩⟩⟩⟩⟩
theorem k9_row13 {g : am_C} {L : Nat} {xs : Nat → Int32} {Cs : Nat → am_S → Prop} (G : sx_G0 g L xs z9 Cs ex_mt)  : k9_rP (P9 g Cs) 182 [[k9_220], [], [k9_169], [], [], [], [], [], [], [k9_170], [k9_221], [], [], []] := ⟨List.forall_mem_cons.mpr ⟨r9_220 G, List.forall_mem_nil _⟩, ⟨List.forall_mem_nil _, ⟨List.forall_mem_cons.mpr ⟨r9_169 G, List.forall_mem_nil _⟩, ⟨List.forall_mem_nil _, ⟨List.forall_mem_nil _, ⟨List.forall_mem_nil _, ⟨List.forall_mem_nil _, ⟨List.forall_mem_nil _, ⟨List.forall_mem_nil _, ⟨List.forall_mem_cons.mpr ⟨r9_170 G, List.forall_mem_nil _⟩, ⟨List.forall_mem_cons.mpr ⟨r9_221 G, List.forall_mem_nil _⟩, ⟨List.forall_mem_nil _, ⟨List.forall_mem_nil _, ⟨List.forall_mem_nil _, trivial⟩⟩⟩⟩⟩⟩⟩⟩⟩⟩⟩⟩⟩⟩
theorem k9_row14 {g : am_C} {L : Nat} {xs : Nat → Int32} {Cs : Nat → am_S → Prop} (G : sx_G0 g L xs z9 Cs ex_mt)  : k9_rP (P9 g Cs) 196 [[], [k9_195], [k9_229], [], [], [], [k9_224], [], [], [], [], [k9_266], [], []] := ⟨List.forall_mem_nil _, ⟨List.forall_mem_cons.mpr ⟨r9_195 G, List.forall_mem_nil _⟩, ⟨List.forall_mem_cons.mpr ⟨r9_229 G, List.forall_mem_nil _⟩, ⟨List.forall_mem_nil _, ⟨List.forall_mem_nil _, ⟨List.forall_mem_nil _, ⟨List.forall_mem_cons.mpr ⟨r9_224 G, List.forall_mem_nil _⟩, ⟨List.forall_mem_nil _, ⟨List.forall_mem_nil _, ⟨List.forall_mem_nil _, ⟨List.forall_mem_nil _, ⟨List.forall_mem_cons.mpr ⟨r9_266 G, List.forall_mem_nil _⟩, ⟨List.forall_mem_nil _, ⟨List.forall_mem_nil _, trivial⟩⟩⟩⟩⟩⟩⟩⟩⟩⟩⟩⟩⟩⟩
theorem k9_row15 {g : am_C} {L : Nat} {xs : Nat → Int32} {Cs : Nat → am_S → Prop} (G : sx_G0 g L xs z9 Cs ex_mt)  : k9_rP (P9 g Cs) 210 [[], [], [], [], [], [], [k9_227], [k9_226], [], [k9_43], [k9_243], [k9_186], [k9_225], [k9_187]] := ⟨List.forall_mem_nil _, ⟨List.forall_mem_nil _, ⟨List.forall_mem_nil _, ⟨List.forall_mem_nil _, ⟨List.forall_mem_nil _, ⟨List.forall_mem_nil _, ⟨List.forall_mem_cons.mpr ⟨r9_227 G, List.forall_mem_nil _⟩, ⟨List.forall_mem_cons.mpr ⟨r9_226 G, List.forall_mem_nil _⟩, ⟨List.forall_mem_nil _, ⟨List.forall_mem_cons.mpr ⟨r9_43 G, List.forall_mem_nil _⟩, ⟨List.forall_mem_cons.mpr ⟨r9_243 G, List.forall_mem_nil _⟩, ⟨List.forall_mem_cons.mpr ⟨r9_186 G, List.forall_mem_nil _⟩, ⟨List.forall_mem_cons.mpr ⟨r9_225 G, List.forall_mem_nil _⟩, ⟨List.forall_mem_cons.mpr ⟨r9_187 G, List.forall_mem_nil _⟩, trivial⟩⟩⟩⟩⟩⟩⟩⟩⟩⟩⟩⟩⟩⟩
theorem k9_row16 {g : am_C} {L : Nat} {xs : Nat → Int32} {Cs : Nat → am_S → Prop} (G : sx_G0 g L xs z9 Cs ex_mt)  : k9_rP (P9 g Cs) 224 [[], [k9_244], [], [], [], [], [k9_259], [], [], [k9_188], [k9_42], [], [], []] := ⟨List.forall_mem_nil _, ⟨List.forall_mem_cons.mpr ⟨r9_244 G, List.forall_mem_nil _⟩, ⟨List.forall_mem_nil _, ⟨List.forall_mem_nil _, ⟨List.forall_mem_nil _, ⟨List.forall_mem_nil _, ⟨List.forall_mem_cons.mpr ⟨r9_259 G, List.forall_mem_nil _⟩, ⟨List.forall_mem_nil _, ⟨List.forall_mem_nil _, ⟨List.forall_mem_cons.mpr ⟨r9_188 G, List.forall_mem_nil _⟩, ⟨List.forall_mem_cons.mpr ⟨r9_42 G, List.forall_mem_nil _⟩, ⟨List.forall_mem_nil _, ⟨List.forall_mem_nil _, ⟨List.forall_mem_nil _, trivial⟩⟩⟩⟩⟩⟩⟩⟩⟩⟩⟩⟩⟩⟩
theorem k9_row17 {g : am_C} {L : Nat} {xs : Nat → Int32} {Cs : Nat → am_S → Prop} (G : sx_G0 g L xs z9 Cs ex_mt)  : k9_rP (P9 g Cs) 238 [[k9_80, k9_81], [], [], [], [], [], [], [], [], [k9_1], [], [], [k9_174], []] := ⟨List.forall_mem_cons.mpr ⟨r9_80 G, List.forall_mem_cons.mpr ⟨r9_81 G, List.forall_mem_nil _⟩⟩, ⟨List.forall_mem_nil _, ⟨List.forall_mem_nil _, ⟨List.forall_mem_nil _, ⟨List.forall_mem_nil _, ⟨List.forall_mem_nil _, ⟨List.forall_mem_nil _, ⟨List.forall_mem_nil _, ⟨List.forall_mem_nil _, ⟨List.forall_mem_cons.mpr ⟨r9_1 G, List.forall_mem_nil _⟩, ⟨List.forall_mem_nil _, ⟨List.forall_mem_nil _, ⟨List.forall_mem_cons.mpr ⟨r9_174 G, List.forall_mem_nil _⟩, ⟨List.forall_mem_nil _, trivial⟩⟩⟩⟩⟩⟩⟩⟩⟩⟩⟩⟩⟩⟩
theorem k9_row18 {g : am_C} {L : Nat} {xs : Nat → Int32} {Cs : Nat → am_S → Prop} (G : sx_G0 g L xs z9 Cs ex_mt)  : k9_rP (P9 g Cs) 252 [[k9_0, k9_2, k9_3, k9_73, k9_109], [], [], [], [], [], [], [], [k9_175, k9_176, k9_177, k9_178, k9_179, k9_180, k9_181, k9_182, k9_183, k9_184, k9_185, k9_193, k9_194, k9_197, k9_198, k9_201, k9_202, k9_203, k9_204, k9_205, k9_206, k9_207, k9_208], [], [], [], [], []] := ⟨List.forall_mem_cons.mpr ⟨r9_0 G, List.forall_mem_cons.mpr ⟨r9_2 G, List.forall_mem_cons.mpr ⟨r9_3 G, List.forall_mem_cons.mpr ⟨r9_73 G, List.forall_mem_cons.mpr ⟨r9_109 G, List.forall_mem_nil _⟩⟩⟩⟩⟩, ⟨List.forall_mem_nil _, ⟨List.forall_mem_nil _, ⟨List.forall_mem_nil _, ⟨List.forall_mem_nil _, ⟨List.forall_mem_nil _, ⟨List.forall_mem_nil _, ⟨List.forall_mem_nil _, ⟨List.forall_mem_cons.mpr ⟨r9_175 G, List.forall_mem_cons.mpr ⟨r9_176 G, List.forall_mem_cons.mpr ⟨r9_177 G, List.forall_mem_cons.mpr ⟨r9_178 G, List.forall_mem_cons.mpr ⟨r9_179 G, List.forall_mem_cons.mpr ⟨r9_180 G, List.forall_mem_cons.mpr ⟨r9_181 G, List.forall_mem_cons.mpr ⟨r9_182 G, List.forall_mem_cons.mpr ⟨r9_183 G, List.forall_mem_cons.mpr ⟨r9_184 G, List.forall_mem_cons.mpr ⟨r9_185 G, List.forall_mem_cons.mpr ⟨r9_193 G, List.forall_mem_cons.mpr ⟨r9_194 G, List.forall_mem_cons.mpr ⟨r9_197 G, List.forall_mem_cons.mpr ⟨r9_198 G, List.forall_mem_cons.mpr ⟨r9_201 G, List.forall_mem_cons.mpr ⟨r9_202 G, List.forall_mem_cons.mpr ⟨r9_203 G, List.forall_mem_cons.mpr ⟨r9_204 G, List.forall_mem_cons.mpr ⟨r9_205 G, List.forall_mem_cons.mpr ⟨r9_206 G, List.forall_mem_cons.mpr ⟨r9_207 G, List.forall_mem_cons.mpr ⟨r9_208 G, List.forall_mem_nil _⟩⟩⟩⟩⟩⟩⟩⟩⟩⟩⟩⟩⟩⟩⟩⟩⟩⟩⟩⟩⟩⟩⟩, ⟨List.forall_mem_nil _, ⟨List.forall_mem_nil _, ⟨List.forall_mem_nil _, ⟨List.forall_mem_nil _, ⟨List.forall_mem_nil _, trivial⟩⟩⟩⟩⟩⟩⟩⟩⟩⟩⟩⟩⟩⟩
theorem k9_row19 {g : am_C} {L : Nat} {xs : Nat → Int32} {Cs : Nat → am_S → Prop} (G : sx_G0 g L xs z9 Cs ex_mt)  : k9_rP (P9 g Cs) 266 [[], [], [k9_75], [], [k9_74], [k9_104], [], [], [], [], [], [], [], [k9_223, k9_253, k9_277, k9_282, k9_284, k9_286, k9_288, k9_290, k9_292]] := ⟨List.forall_mem_nil _, ⟨List.forall_mem_nil _, ⟨List.forall_mem_cons.mpr ⟨r9_75 G, List.forall_mem_nil _⟩, ⟨List.forall_mem_nil _, ⟨List.forall_mem_cons.mpr ⟨r9_74 G, List.forall_mem_nil _⟩, ⟨List.forall_mem_cons.mpr ⟨r9_104 G, List.forall_mem_nil _⟩, ⟨List.forall_mem_nil _, ⟨List.forall_mem_nil _, ⟨List.forall_mem_nil _, ⟨List.forall_mem_nil _, ⟨List.forall_mem_nil _, ⟨List.forall_mem_nil _, ⟨List.forall_mem_nil _, ⟨List.forall_mem_cons.mpr ⟨r9_223 G, List.forall_mem_cons.mpr ⟨r9_253 G, List.forall_mem_cons.mpr ⟨r9_277 G, List.forall_mem_cons.mpr ⟨r9_282 G, List.forall_mem_cons.mpr ⟨r9_284 G, List.forall_mem_cons.mpr ⟨r9_286 G, List.forall_mem_cons.mpr ⟨r9_288 G, List.forall_mem_cons.mpr ⟨r9_290 G, List.forall_mem_cons.mpr ⟨r9_292 G, List.forall_mem_nil _⟩⟩⟩⟩⟩⟩⟩⟩⟩, trivial⟩⟩⟩⟩⟩⟩⟩⟩⟩⟩⟩⟩⟩⟩
theorem k9_row20 {g : am_C} {L : Nat} {xs : Nat → Int32} {Cs : Nat → am_S → Prop} (G : sx_G0 g L xs z9 Cs ex_mt)  : k9_rP (P9 g Cs) 280 [[], [k9_173, k9_241, k9_265, k9_281, k9_283, k9_285, k9_287, k9_289, k9_291], [], [k9_199], [], [], [], [], [], [], [], [], [], []] := ⟨List.forall_mem_nil _, ⟨List.forall_mem_cons.mpr ⟨r9_173 G, List.forall_mem_cons.mpr ⟨r9_241 G, List.forall_mem_cons.mpr ⟨r9_265 G, List.forall_mem_cons.mpr ⟨r9_281 G, List.forall_mem_cons.mpr ⟨r9_283 G, List.forall_mem_cons.mpr ⟨r9_285 G, List.forall_mem_cons.mpr ⟨r9_287 G, List.forall_mem_cons.mpr ⟨r9_289 G, List.forall_mem_cons.mpr ⟨r9_291 G, List.forall_mem_nil _⟩⟩⟩⟩⟩⟩⟩⟩⟩, ⟨List.forall_mem_nil _, ⟨List.forall_mem_cons.mpr ⟨r9_199 G, List.forall_mem_nil _⟩, ⟨List.forall_mem_nil _, ⟨List.forall_mem_nil _, ⟨List.forall_mem_nil _, ⟨List.forall_mem_nil _, ⟨List.forall_mem_nil _, ⟨List.forall_mem_nil _, ⟨List.forall_mem_nil _, ⟨List.forall_mem_nil _, ⟨List.forall_mem_nil _, ⟨List.forall_mem_nil _, trivial⟩⟩⟩⟩⟩⟩⟩⟩⟩⟩⟩⟩⟩⟩
theorem k9_row21 {g : am_C} {L : Nat} {xs : Nat → Int32} {Cs : Nat → am_S → Prop} (G : sx_G0 g L xs z9 Cs ex_mt)  : k9_rP (P9 g Cs) 294 [[], [], [], [k9_37], [], [], [k9_247], [], [], [], [k9_232], [], [], [k9_45]] := ⟨List.forall_mem_nil _, ⟨List.forall_mem_nil _, ⟨List.forall_mem_nil _, ⟨List.forall_mem_cons.mpr ⟨r9_37 G, List.forall_mem_nil _⟩, ⟨List.forall_mem_nil _, ⟨List.forall_mem_nil _, ⟨List.forall_mem_cons.mpr ⟨r9_247 G, List.forall_mem_nil _⟩, ⟨List.forall_mem_nil _, ⟨List.forall_mem_nil _, ⟨List.forall_mem_nil _, ⟨List.forall_mem_cons.mpr ⟨r9_232 G, List.forall_mem_nil _⟩, ⟨List.forall_mem_nil _, ⟨List.forall_mem_nil _, ⟨List.forall_mem_cons.mpr ⟨r9_45 G, List.forall_mem_nil _⟩, trivial⟩⟩⟩⟩⟩⟩⟩⟩⟩⟩⟩⟩⟩⟩
theorem k9_row22 {g : am_C} {L : Nat} {xs : Nat → Int32} {Cs : Nat → am_S → Prop} (G : sx_G0 g L xs z9 Cs ex_mt)  : k9_rP (P9 g Cs) 308 [[], [], [], [], [], [], [k9_40], [], [k9_146], [], [], []] := ⟨List.forall_mem_nil _, ⟨List.forall_mem_nil _, ⟨List.forall_mem_nil _, ⟨List.forall_mem_nil _, ⟨List.forall_mem_nil _, ⟨List.forall_mem_nil _, ⟨List.forall_mem_cons.mpr ⟨r9_40 G, List.forall_mem_nil _⟩, ⟨List.forall_mem_nil _, ⟨List.forall_mem_cons.mpr ⟨r9_146 G, List.forall_mem_nil _⟩, ⟨List.forall_mem_nil _, ⟨List.forall_mem_nil _, ⟨List.forall_mem_nil _, trivial⟩⟩⟩⟩⟩⟩⟩⟩⟩⟩⟩⟩
theorem k9_ok {g : am_C} {L : Nat} {xs : Nat → Int32} {Cs : Nat → am_S → Prop} (G : sx_G0 g L xs z9 Cs ex_mt) (r9_294 : P9 g Cs 121 k9_294) (r9_296 : P9 g Cs 167 k9_296) (r9_297 : P9 g Cs 116 k9_297) (r9_298 : P9 g Cs 157 k9_298) : ∀ (mi : Nat) (T : ex_T) (c : sx_Ct), ex_mt mi = some T → c ∈ k9 mi → sx_Holds g z9 Cs T c := sx_tabk (k9_all ⟨k9_row0 G , ⟨k9_row1 G , ⟨k9_row2 G , ⟨k9_row3 G , ⟨k9_row4 G , ⟨k9_row5 G , ⟨k9_row6 G , ⟨k9_row7 G , ⟨k9_row8 G r9_294 r9_297, ⟨k9_row9 G , ⟨k9_row10 G , ⟨k9_row11 G r9_296 r9_298, ⟨k9_row12 G , ⟨k9_row13 G , ⟨k9_row14 G , ⟨k9_row15 G , ⟨k9_row16 G , ⟨k9_row17 G , ⟨k9_row18 G , ⟨k9_row19 G , ⟨k9_row20 G , ⟨k9_row21 G , ⟨k9_row22 G , trivial⟩⟩⟩⟩⟩⟩⟩⟩⟩⟩⟩⟩⟩⟩⟩⟩⟩⟩⟩⟩⟩⟩⟩)
