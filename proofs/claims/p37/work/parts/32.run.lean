/-! the second executor's calls and runs -/
def st_b0 (j : Nat) : Int32 := ([119, 97, 108, 107, 32, 98, 97, 115, 107, 101, 116, 32, 104, 111, 110, 101, 115, 116, 32, 115, 104, 121, 32, 119, 104, 105, 115, 116, 108, 101, 32, 97, 103, 97, 105, 110, 32, 114, 117, 110, 110, 101, 114, 32, 99, 111, 115, 116, 32, 119, 105, 110, 100, 111, 119, 32, 115, 116, 97, 110, 100, 115] : List Int32).getD j 0
def st_b1 (j : Nat) : Int32 := ([116, 114, 97, 105, 110, 32, 97, 116, 32, 102, 114, 117, 105, 116, 32, 99, 111, 105, 110, 32, 117, 112, 32, 100, 111, 119, 110, 32, 119, 97, 105, 116, 115] : List Int32).getD j 0
def st_b2 (j : Nat) : Int32 := ([110, 111, 116, 32, 111, 112, 101, 110, 32, 102, 97, 105, 114, 32, 97, 104, 101, 97, 100, 32, 112, 114, 105, 99, 101, 32, 116, 97, 107, 101, 115, 32, 98, 111, 117, 103, 104, 116, 32, 110, 117, 109, 98, 101, 114] : List Int32).getD j 0
def st_b3 (j : Nat) : Int32 := ([97, 110, 100] : List Int32).getD j 0
def st_b4 (j : Nat) : Int32 := ([111, 114] : List Int32).getD j 0
/-- the texts -/
def st_tx (k : Nat) : Nat → Int32 := if k = 18087 then st_b0 else if k = 14046 then st_b1 else if k = 19078 then st_b2 else if k = 19059 then st_b3 else st_b4
/-- length and charAt of the texts that are looked into -/
def sx_StrOk (g : am_C) : Prop :=
  (∀ (d : Nat) (M : am_M) (mc ms pc : Nat) (lv : List (Nat × Value)) (st : List Value) (σ : am_S) (post : Option (Option Value) → am_S → Prop) (idx k n : Nat), (k, n) ∈ sx_sll → Cond.methodLink M.1.cls idx yJ0_length_8abf5 ∈ lw_tbl → decode M.2.1 pc = .ok (.invokevirtual idx, 3) → 5 ≤ d → (st.map fun v => v.category).sum ≤ 8 → am_K g d M mc ms (pc + 3) lv (.int (Int32.ofNat n) :: st) σ post → am_K g d M mc ms pc lv (.retAddr k :: st) σ post) ∧
  (∀ (d : Nat) (M : am_M) (mc ms pc : Nat) (lv : List (Nat × Value)) (st : List Value) (σ : am_S) (post : Option (Option Value) → am_S → Prop) (idx k n : Nat) (i : Int32), (k, n) ∈ sx_sll → Cond.methodLink M.1.cls idx yJ0_charAt_5068e ∈ lw_tbl → decode M.2.1 pc = .ok (.invokevirtual idx, 3) → 5 ≤ d → (st.map fun v => v.category).sum ≤ 8 → vp_in i n → am_K g d M mc ms (pc + 3) lv (.int (st_tx k i.toNatClampNeg &&& 255) :: st) σ post → am_K g d M mc ms pc lv (.int i :: .retAddr k :: st) σ post)
theorem sx_sl_mem {k : Nat} {K : Nat → Bool} (h : sx_sl k K = true) : ∃ n, (k, n) ∈ sx_sll ∧ K n = true := by
  have main : ∀ l : List (Nat × Nat), List.rec (motive := fun _ => Bool) false (fun q _ ih => bif q.1.beq k then K q.2 else ih) l = true → ∃ n, (k, n) ∈ l ∧ K n = true := by
    intro l
    induction l with
    | nil => intro h; cases h
    | cons q t ih =>
      intro h
      simp only at h
      cases hb : q.1.beq k with
      | true =>
        rw [hb] at h
        refine ⟨q.2, ?_, h⟩
        rw [← Nat.eq_of_beq_eq_true hb]
        exact List.mem_cons_self
      | false =>
        rw [hb] at h
        obtain ⟨n, h1, h2⟩ := ih h
        exact ⟨n, List.mem_cons_of_mem _ h1, h2⟩
  exact main _ h
/-- contracts of a lower rank hold -/
def sx_Cts (x : sx_X) (ct : Nat → List sx_Ct) (rk : Nat) : Prop := ∀ (mi : Nat) (T2 : ex_T) (c : sx_Ct), xm x mi = some T2 → c ∈ ct mi → c.1 < rk → sx_Holds (xg x) (xZ x) (xC x) T2 c
theorem sx_M_self {Z : sx_Z} {Cs : Nat → am_S → Prop} {σe σ : am_S} {md : Nat} (h : sx_M Z Cs σe md 0 σ) : sx_M Z Cs σ 0 0 σ := ⟨h.1, h.2.1, h.2.2.1, h.2.2.2.1, fun _ _ _ _ _ _ _ => rfl, h.2.2.2.2.2.1, h.2.2.2.2.2.2.1, fun _ => rfl, fun _ => rfl⟩
section ZE
variable {x : sx_X} {K : sx_K} {env : List Int} {T T2 : ex_T} {cd : List ex_E} {lv : sx_L} {st as rest : List sx_V} {fs : List sx_Fr} {me : sx_Me} {lw : List (Nat × Value)} {sw xs ys : List Value} {fw : List sx_Fw} {σ : am_S} {pc nx d mc ms bc bs : Nat}
/-- what a call needs -/
def sx_CallOk (x : sx_X) (T T2 : ex_T) (nx d mc ms : Nat) (lw : List (Nat × Value)) (xs ys : List Value) (fw : List sx_Fw) (σ : am_S) : Prop := ∃ (d1 b c mc' ms' : Nat) (post1 : Option (Option Value) → am_S → Prop), d1 + 1 ≤ d ∧ mc + sx_x (xX x) fw = b + mc' ∧ ms + sx_x (xY x) fw = c + ms' ∧ (ys.map fun v => v.category).sum ≤ 8 ∧ (lg_sl xs).length ≤ T2.1.2.2.1 ∧ (T.1.2.2.2.2 = [] → ∀ σ', ¬ post1 none σ') ∧ (∀ σ', post1 none σ' → sx_Q (xg x) (xX x) (xY x) (xp x) fw (some (some (.int 1))) σ') ∧ am_K (xg x) d1 T2.1 b c 0 (lv_args 0 xs) [] σ post1 ∧ ∀ v σ', post1 (some v) σ' → am_K (xg x) d T.1 mc' ms' nx lw (v.toList ++ ys) σ' (sx_Q (xg x) (xX x) (xY x) (xp x) fw)
theorem sx_enter_ok (C : sx_Kx x K) (A : sx_At x env T cd lv st fs me lw sw fw σ) (ok2 : ex_tok (xm x) T2 = true) (ha : sx_SV env as xs) (hr : sx_SV env rest ys) (h : sx_enter K T cd nx d mc ms lv fs me T2 bc bs as rest = true) : sx_CallOk x T T2 nx d mc ms lw xs ys fw σ := by
  unfold sx_enter at h
  cases hb : ((sx_cats rest).ble 8 && (sx_cats as).ble T2.1.2.2.1 && bc.ble mc && bs.ble ms && Nat.ble 1 d) with
  | false => rw [hb] at h; cases h
  | true =>
    rw [hb] at h
    simp only [cond_true, ex_fN_eq] at h
    simp only [Bool.and_eq_true] at hb
    obtain ⟨⟨⟨⟨b1, b2⟩, b3⟩, b4⟩, b5⟩ := hb
    have c1 := ex_ble b1
    have c2 := ex_ble b2
    have c3 := ex_ble b3
    have c4 := ex_ble b4
    have c5 := ex_ble b5
    obtain ⟨l, e1, e2⟩ := sx_args_ok ha h
    refine ⟨d - 1, bc, bs, mc - bc + sx_x (xX x) fw, ms - bs + sx_x (xY x) fw, sx_Q (xg x) (xX x) (xY x) (xp x) ((T.1, nx, d, mc - bc, ms - bs, lw, ys) :: fw), by omega, by omega, by omega, by rw [sx_cats_ok hr]; exact c1, by rw [sx_sl_ok ha]; exact c2, fun hh σ' q => q.1 hh, fun σ' q => q.2, ?_, fun v σ' q => q⟩
    exact C _ _ _ _ _ _ _ _ _ _ _ _ _ ((T.1, nx, d, mc - bc, ms - bs, lw, ys) :: fw) _ e2 ⟨⟨ok2, fun e he => (by cases he)⟩, fun q => (by cases q), A.2.2.1, A.r, e1, trivial, ⟨⟨rfl, rfl, rfl, rfl, rfl⟩, A.1, A.2.2.2.2.1, hr, A.2.1, A.2.2.2.2.2.2⟩⟩
theorem sx_call_ok (B : sx_Bx x) {ct : Nat → List sx_Ct} {rk : Nat} (hct : sx_Cts x ct rk) (C : sx_Kx x K) (A : sx_At x env T cd lv st fs me lw sw fw σ) {mi2 : Nat} (hT2 : xm x mi2 = some T2) (ha : sx_SV env as xs) (hr : sx_SV env rest ys) (h : sx_call (xZ x) K T cd nx d mc ms lv fs me ct rk mi2 T2 bc bs as rest = true) : sx_CallOk x T T2 nx d mc ms lw xs ys fw σ := by
  unfold sx_call at h
  split at h
  · exact sx_enter_ok C A (B.2.2.2.1 mi2 T2 hT2) ha hr h
  · rename_i c cs hcs
    cases hb : ((sx_cats rest).ble 8 && (sx_cats as).ble T2.1.2.2.1 && Nat.ble 1 d) with
    | false => rw [hb] at h; cases h
    | true =>
      rw [hb, cond_true, ex_fN_eq] at h
      simp only [Bool.and_eq_true] at hb
      obtain ⟨⟨b1, b2⟩, b5⟩ := hb
      have c1 := ex_ble b1
      have c2 := ex_ble b2
      have c5 := ex_ble b5
      obtain ⟨l, e1, e2⟩ := sx_args_ok ha h
      obtain ⟨c', m1, m2, m3, m4, m5, vs, m6, m7, m8, ⟨md, m9⟩, m10⟩ := sx_use_ok B.2.2.2.2.1 A.r e1 e2
      have hH := hct mi2 T2 c' hT2 (by rw [hcs]; exact m1) m2
      have hk := hH _ vs σ m6 m7 m8 (sx_M_self m9)
      refine ⟨d - 1, c'.2.2.1, c'.2.2.2.1, mc - c'.2.2.1 + sx_x (xX x) fw, ms - c'.2.2.2.1 + sx_x (xY x) fw, sx_Post (xZ x) (xC x) vs σ c'.2.2.2.2.2.2, by omega, by omega, by omega, by rw [sx_cats_ok hr]; exact c1, by rw [sx_sl_ok ha]; exact c2, fun _ σ' q => q.elim, fun σ' q => q.elim, kr_less m3 (Nat.le_refl _) (Nat.le_refl _) hk, fun v σ' q => ?_⟩
      obtain ⟨v', v1, ext, me', a, d1, d2, d3⟩ := m10 _ σ' q
      cases v1
      have A' := (A.re d1).stk (hr.app ext)
      match a, v, d2, d3 with
      | some a, some b, d2, d3 => exact C _ _ _ _ _ _ _ _ _ _ _ _ _ _ _ d3 (A'.stk ⟨d2, hr.app ext⟩)
      | none, none, _, d3 => exact C _ _ _ _ _ _ _ _ _ _ _ _ _ _ _ d3 A'
      | some _, none, d2, _ => exact d2.elim
      | none, some _, d2, _ => exact d2.elim
theorem tk_calls (B : sx_Bx x) {ct : Nat → List sx_Ct} {rk : Nat} (hct : sx_Cts x ct rk) (C : sx_Kx x K) (A : sx_At x env T cd lv st fs me lw sw fw σ) {i mi2 p : Nat} (hd : decode T.1.2.1 pc = .ok (.invokestatic i, 3)) (hl : ex_lk (xm x) T pc (.invokestatic i) [0, mi2, p] = true) (h : sx_calls (xZ x) K T cd (pc + 3) d mc ms lv st fs me (xm x) ct rk mi2 = true) : sx_am x d T mc ms pc lw sw fw σ := by
  unfold sx_calls at h
  split at h
  · rename_i T2 hT2
    unfold ex_lk at hl
    simp only [hT2] at hl
    rw [Bool.and_eq_true, decide_eq_true_eq] at hl
    obtain ⟨l1, l2⟩ := hl
    split at h
    · rename_i n bc bs ci p1 p2 p3 p4 hm
      obtain ⟨m1, m2, m3⟩ := ex_mok_S (B.2.2.2.1 mi2 T2 hT2) hm
      obtain ⟨as, rest, xs, ys, h1, h2, h3, h4, h5⟩ := sx_pop_ok A.s (acc := []) (aw := []) trivial h
      rw [List.append_nil] at h3
      obtain ⟨d1, b, c, mc', ms', post1, e1, e2, e3, e4, e5, e6, -, e8, e9⟩ := sx_call_ok B hct C A hT2 h3 h4 h5
      show am_K (xg x) d T.1 (mc + sx_x (xX x) fw) (ms + sx_x (xY x) fw) pc lw sw σ _
      rw [e2, e3]
      split at l2
      · rename_i hh
        exact kr_callS B.1 (m1 hh) m3 (ex_mlk_ok l2) hd h1 e5 h2 e4 e1 (e6 l1) e8 e9
      · rename_i hh
        exact kr_callSW B.1 (m2 hh) m3 (ex_mem_ok l2) hd h1 e5 h2 e4 e1 (e6 l1) e8 e9
    · cases h
  · cases h
theorem sx_popv {env : List Int} {n : Nat} {sw xs ys : List Value} {o : Nat} {rest : List sx_V} (h2 : sw = xs.reverse ++ ys) (h4 : sx_SV env (.inr (some (false, o)) :: rest) ys) : ∃ ys', ys = .ref o :: ys' ∧ sx_SV env rest ys' := by
  obtain ⟨v, ys', rfl, hv, h5⟩ := h4.cons
  have e : v = .ref o := hv
  subst e
  exact ⟨ys', rfl, h5⟩
theorem tk_callv (B : sx_Bx x) {ct : Nat → List sx_Ct} {rk : Nat} (hct : sx_Cts x ct rk) (C : sx_Kx x K) (A : sx_At x env T cd lv st fs me lw sw fw σ) {i mi2 p : Nat} (hd : decode T.1.2.1 pc = .ok (.invokevirtual i, 3)) (hl : ex_lk (xm x) T pc (.invokevirtual i) [0, mi2, p] = true) (h : sx_callv (xZ x) K T cd (pc + 3) d mc ms lv st fs me (xm x) ct rk mi2 = true) : sx_am x d T mc ms pc lw sw fw σ := by
  unfold sx_callv at h
  split at h
  · rename_i T2 hT2
    unfold ex_lk at hl
    simp only [hT2] at hl
    rw [Bool.and_eq_true, decide_eq_true_eq] at hl
    obtain ⟨l1, l2⟩ := hl
    split at h
    · rename_i n bc bs ci p1 p2 p3 p4 hm
      obtain ⟨m1, m2, m3, U, N, m4⟩ := ex_mok_V (B.2.2.2.1 mi2 T2 hT2) hm
      obtain ⟨as, rest, xs, ys, h1, h2, h3, h4, h5⟩ := sx_pop_ok A.s (acc := []) (aw := []) trivial h
      rw [List.append_nil] at h3
      split at h5
      · rename_i o rest'
        rw [Bool.and_eq_true] at h5
        have hs := sx_isO_ok A.r h5.1
        obtain ⟨ys', rfl, h6⟩ := sx_popv (n := n) h2 h4
        obtain ⟨d1, b, c, mc', ms', post1, e1, e2, e3, e4, e5, e6, -, e8, e9⟩ := sx_call_ok B hct C A (as := .inr (some (false, o)) :: as) (xs := .ref o :: xs) hT2 ⟨rfl, h3⟩ h6 h5.2
        show am_K (xg x) d T.1 (mc + sx_x (xX x) fw) (ms + sx_x (xY x) fw) pc lw sw σ _
        rw [e2, e3]
        exact kr_callV B.1 m4 hs m1 m2 m3 (ex_mlk_ok l2) hd h1 e5 h2 e4 e1 (e6 l1) e8 e9
      · cases h5
    · cases h
  · cases h
theorem tk_try (B : sx_Bx x) (C : sx_Kx x K) (A : sx_At x env T cd lv st fs me lw sw fw σ) {i mi2 p li pck : Nat} (hd : decode T.1.2.1 pc = .ok (.invokevirtual i, 3)) (hl : ex_lk (xm x) T pc (.invokevirtual i) [1, mi2, p, li, pck] = true) (h : sx_callt (xZ x) K T cd (pc + 3) d mc ms lv st fs me (xm x) mi2 = true) : sx_am x d T mc ms pc lw sw fw σ := by
  unfold sx_callt at h
  split at h
  · rename_i T2 hT2
    unfold ex_lk at hl
    simp only [hT2] at hl
    split at hl
    · rename_i ta tb th tc hh
      simp only [Bool.and_eq_true, decide_eq_true_eq] at hl
      obtain ⟨l1, l2, l3, l4, l5, l6, l7, l8, l9, l10⟩ := hl
      have ok2 := B.2.2.2.1 mi2 T2 hT2
      split at h
      · rename_i n bc bs ci p1 p2 p3 p4 hm
        obtain ⟨m1, m2, m3, U, N, m4⟩ := ex_mok_V ok2 hm
        obtain ⟨as, rest, xs, ys, h1, h2, h3, h4, h5⟩ := sx_pop_ok A.s (acc := []) (aw := []) trivial h
        rw [List.append_nil] at h3
        split at h5
        · rename_i o rest'
          rw [Bool.and_eq_true] at h5
          have hs := sx_isO_ok A.r h5.1
          obtain ⟨ys', rfl, h6⟩ := sx_popv (n := n) h2 h4
          obtain ⟨d1, b, c, mc', ms', post1, e1, e2, e3, e4, e5, -, e7, e8, e9⟩ := sx_enter_ok C A (as := .inr (some (false, o)) :: as) (xs := .ref o :: xs) ok2 ⟨rfl, h3⟩ h6 h5.2
          show am_K (xg x) d T.1 (mc + sx_x (xX x) fw) (ms + sx_x (xY x) fw) pc lw sw σ _
          rw [e2, e3]
          exact kr_try B.1 m4 hs m1 m2 m3 (ex_mem_ok l10) hd h1 e5 h2 e4 e1 l1 hh (by simpa [covers] using l2) l3 (ex_mem_ok l4) (of_decide_eq_true l5) (of_decide_eq_true l6) (of_decide_eq_true l7) l8 l9 e8 e9 e7
        · cases h5
      · cases h
    · cases hl
  · cases h
theorem tk_strs (B : sx_Bx x) (S : sx_StrOk (xg x)) (C : sx_Kx x K) (A : sx_At x env T cd lv st fs me lw sw fw σ) {i w p z : Nat} (hd : decode T.1.2.1 pc = .ok (.invokevirtual i, 3)) (hl : ex_lk (xm x) T pc (.invokevirtual i) [2, w, p, z] = true) (h : sx_strs K T cd (pc + 3) d mc ms lv st fs me w = true) : sx_am x d T mc ms pc lw sw fw σ := by
  unfold sx_strs at h
  cases hb : ((sx_cats st).ble 9 && Nat.ble 5 d) with
  | false => rw [hb] at h; cases h
  | true =>
    rw [hb] at h
    simp only [cond_true] at h
    simp only [Bool.and_eq_true] at hb
    have c1 := ex_ble hb.1
    have c2 := ex_ble hb.2
    split at h
    · split at h
      · rename_i k st'
        obtain ⟨v, sw1, rfl, hv, h3⟩ := A.s.cons
        have e : v = .retAddr k := hv
        subst e
        obtain ⟨n, n1, n2⟩ := sx_sl_mem h
        have hroom : (sw1.map fun v => v.category).sum ≤ 8 := by
          rw [sx_cats_ok h3]
          have c3 : 1 + sx_cats st' ≤ 9 := c1
          omega
        have hn : (Int32.ofNat n).toInt = (n : Int) := by
          have : ∀ q ∈ sx_sll, (Int32.ofNat q.2).toInt = (q.2 : Int) := by decide
          exact this _ n1
        exact S.1 d T.1 _ _ pc lw sw1 σ _ i k n n1 (ex_mem_ok hl) hd c2 hroom (sx_go C n2 (A.stk ⟨⟨Int32.ofNat n, rfl, by rw [hn]; exact sx_const⟩, h3⟩))
      · cases h
    · rename_i w0
      have hlk : Cond.methodLink T.1.1.cls i yJ0_charAt_5068e ∈ lw_tbl := by
        match w, w0, hl with
        | w + 1, _, hl => exact ex_mem_ok hl
      split at h
      · rename_i ei k st'
        obtain ⟨v, sw1, rfl, ⟨a, rfl, ha⟩, h3⟩ := A.s.cons
        obtain ⟨v, sw2, rfl, hv, h4⟩ := h3.cons
        have e : v = .retAddr k := hv
        subst e
        obtain ⟨n, n1, n2⟩ := sx_sl_mem h
        rw [Bool.and_eq_true] at n2
        have hin := sx_ix_ok A.p ha n2.1
        have hroom : (sw2.map fun v => v.category).sum ≤ 8 := by
          rw [sx_cats_ok h4]
          have c3 : 1 + (1 + sx_cats st') ≤ 9 := c1
          omega
        have qa := ex_and_le (st_tx k a.toNatClampNeg) (c := 255) (by decide)
        have ea : (st_tx k a.toNatClampNeg &&& Int32.ofInt (.ofNat 255)) = (st_tx k a.toNatClampNeg &&& 255) := rfl
        rw [ea] at qa
        have q1 : (0 : Int) ≤ (st_tx k a.toNatClampNeg &&& 255).toInt := by omega
        have q2 : (st_tx k a.toNatClampNeg &&& 255).toInt ≤ (65535 : Int) := by omega
        exact S.2 d T.1 _ _ pc lw sw2 σ _ i k n a n1 hlk hd c2 hroom hin.1 (sx_push C (A.stk h4) (sx_new_ex A.r q1 q2 n2.2))
      · cases h
end ZE
