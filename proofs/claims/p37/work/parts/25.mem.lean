/-! pieces of the second executor's steps are right -/
section SM
variable {Z : sx_Z} {Cs : Nat → am_S → Prop} {σe σ : am_S} {env : List Int} {me : sx_Me}
/-- goes on, with words added, with an int that is v -/
def sx_ex (Z : sx_Z) (Cs : Nat → am_S → Prop) (σe : am_S) (env : List Int) (σ : am_S) (v : Int) (K : sx_Me → sx_e → Bool) : Prop := ∃ (ext : List Int) (me' : sx_Me) (e : sx_e), sx_R Z Cs σe (env ++ ext) me' σ ∧ sx_ev (env ++ ext) e = some v ∧ K me' e = true
theorem sx_R.fact (hr : sx_R Z Cs σe env me σ) {fa : sx_Fa} (h : sx_P env fa) : sx_R Z Cs σe env (me.1, me.2.1, me.2.2.1, me.2.2.2.1, fa) σ := ⟨hr.1, hr.2.1, h, hr.2.2.2⟩
theorem sx_ev_w (env : List Int) (v : Int) : sx_ev (env ++ [v]) (sx_w env.length) = some v := by
  have : (env ++ [v])[env.length]? = some v := by simp
  show (match (match (env ++ [v])[env.length]? with
    | some x => some (1 * x + 0)
    | none => none) with
    | some y => some (0 + y)
    | none => none) = some v
  rw [this]
  simp
theorem sx_new_ok (hr : sx_R Z Cs σe env me σ) {lo hi v : Int} (h1 : lo ≤ v) (h2 : v ≤ hi) {K : sx_Me → sx_e → Bool} (h : sx_new me lo hi K = true) : sx_R Z Cs σe (env ++ [v]) (me.1 + 1, me.2.1, me.2.2.1, me.2.2.2.1, ([(.ofNat 1, me.1)], lo, hi) :: me.2.2.2.2) σ ∧ sx_ev (env ++ [v]) (sx_w me.1) = some v ∧ K (me.1 + 1, me.2.1, me.2.2.1, me.2.2.2.1, ([(.ofNat 1, me.1)], lo, hi) :: me.2.2.2.2) (sx_w me.1) = true := by
  obtain ⟨nw, md, xm, tr, fa⟩ := me
  unfold sx_new at h
  simp only at h
  rw [ex_fN_eq] at h
  have hn : env.length = nw := hr.1
  refine ⟨⟨by simp [hn], fun q hq => sx_ev_app _ (hr.2.1 q hq), ?_, hr.2.2.2⟩, by rw [← hn]; exact sx_ev_w env v, h⟩
  refine (hr.2.2.1.app [v]).cons (v := v) ?_ h1 h2
  have := sx_ev_to (sx_ev_w env v)
  rw [hn] at this
  simpa using this
theorem sx_new_ex (hr : sx_R Z Cs σe env me σ) {lo hi v : Int} (h1 : lo ≤ v) (h2 : v ≤ hi) {K : sx_Me → sx_e → Bool} (h : sx_new me lo hi K = true) : sx_ex Z Cs σe env σ v K := by
  obtain ⟨a, b, c⟩ := sx_new_ok hr h1 h2 h
  exact ⟨[v], _, _, a, b, c⟩
theorem sx_i32 (n : Int32) : sx_lo ≤ n.toInt ∧ n.toInt ≤ sx_up := by
  have h1 := Int32.le_toInt n
  have h2 := Int32.toInt_lt n
  have e1 : sx_lo = -2147483648 := rfl
  have e2 : sx_up = 2147483647 := rfl
  rw [e1, e2]
  omega
theorem sx_new_full (hr : sx_R Z Cs σe env me σ) (n : Int32) {K : sx_Me → sx_e → Bool} (h : sx_new me sx_lo sx_up K = true) : sx_ex Z Cs σe env σ n.toInt K := sx_new_ex hr (sx_i32 n).1 (sx_i32 n).2 h
theorem sx_ex_here (hr : sx_R Z Cs σe env me σ) {e : sx_e} {v : Int} (he : sx_ev env e = some v) {K : sx_Me → sx_e → Bool} (h : K me e = true) : sx_ex Z Cs σe env σ v K := ⟨[], me, e, by rw [List.append_nil]; exact hr, by rw [List.append_nil]; exact he, h⟩
theorem sx_wrap_ok (hr : sx_R Z Cs σe env me σ) {e : sx_e} {z : Int} (he : sx_ev env e = some z) {n : Int32} (hn : sx_lo ≤ z → z ≤ sx_up → n.toInt = z) {K : sx_Me → sx_e → Bool} (h : sx_wrap me e K = true) : sx_ex Z Cs σe env σ n.toInt K := by
  unfold sx_wrap at h
  split at h
  · rename_i c
    have hz : z = c := by
      have := sx_ev_to he
      have h0 : (0 : Int) = z - c := Option.some.inj this
      omega
    subst hz
    cases hb : (sx_ile sx_lo z && sx_ile z sx_up) with
    | false => rw [hb] at h; cases h
    | true =>
      rw [hb] at h
      rw [Bool.and_eq_true] at hb
      rw [hn (sx_ile_iff.mp hb.1) (sx_ile_iff.mp hb.2)]
      exact sx_ex_here hr he h
  · rename_i c q l
    obtain ⟨nw, md, xm, tr, fa⟩ := me
    simp only at h
    have hx := sx_ev_to he
    obtain ⟨lo, hi, v, h1, h2, h3, h4⟩ := sx_lb_ok hr.2.2.1 ⟨_, hx⟩ h
    rw [hx] at h1
    cases h1
    cases hb : (sx_ile sx_lo (c + lo) && sx_ile (c + hi) sx_up) with
    | true =>
      rw [hb] at h4
      rw [Bool.and_eq_true] at hb
      have b1 := sx_ile_iff.mp hb.1
      have b2 := sx_ile_iff.mp hb.2
      rw [hn (by simp only at h2 h3; omega) (by simp only at h2 h3; omega)]
      exact sx_ex_here hr he h4
    | false =>
      rw [hb, cond_false] at h4
      cases hc : ((ex_fI (c - sx_up) fun c1 => sx_le0 1 fa (c1, q :: l)) && (sx_negA (q :: l) fun m => ex_fI (sx_lo - c) fun c2 => sx_le0 1 fa (c2, m))) with
      | true =>
        rw [hc] at h4
        rw [Bool.and_eq_true, ex_fI_eq] at hc
        have b1 := sx_le0_ok hr.2.2.1 1 (sx_ev_of (e := (c - sx_up, q :: l)) hx) hc.1
        obtain ⟨m, c1, c2⟩ := sx_negA_ok hc.2
        rw [ex_fI_eq] at c1
        have b2 := sx_le0_ok hr.2.2.1 1 (sx_ev_of (e := (sx_lo - c, m)) (c2 env _ hx)) c1
        simp only at b1 b2
        rw [hn (by omega) (by omega)]
        exact sx_ex_here hr he h4
      | false =>
        rw [hc] at h4
        exact sx_new_full hr n h4
theorem sx_inx_ok {fa : sx_Fa} (hp : sx_P env fa) {e : sx_e} {v : Int} (he : sx_ev env e = some v) {lo hi : Int} (h : sx_inx fa e lo hi = true) : lo ≤ v ∧ v ≤ hi := by
  unfold sx_inx at h
  rw [Bool.and_eq_true] at h
  obtain ⟨d1, a1, a2⟩ := sx_lin_ok h.1
  obtain ⟨d2, b1, b2⟩ := sx_lin_ok h.2
  have c1 := sx_leq_ok hp (a2 env v lo he (by rw [sx_ev_of (e := (lo, [])) (y := 0) rfl]; simp)) a1
  have c2 := sx_leq_ok hp (b2 env v (-hi) he (by rw [sx_ev_of (e := (-hi, [])) (y := 0) rfl]; simp)) b1
  omega
theorem sx_in_ok {fa : sx_Fa} (hp : sx_P env fa) {e : sx_e} {n : Int32} (he : sx_ev env e = some n.toInt) {lo hi : Int} (h : sx_in fa e lo hi = true) : lo ≤ n.toInt ∧ n.toInt ≤ hi := by
  unfold sx_in at h
  rw [Bool.and_eq_true, Bool.or_eq_true, Bool.or_eq_true] at h
  have hr := sx_i32 n
  refine ⟨?_, ?_⟩
  · rcases h.1 with h1 | h1
    · have := sx_ile_iff.mp h1
      omega
    · obtain ⟨d1, a1, a2⟩ := sx_lin_ok h1
      have c1 := sx_leq_ok hp (a2 env n.toInt lo he (by rw [sx_ev_of (e := (lo, [])) (y := 0) rfl]; simp)) a1
      omega
  · rcases h.2 with h1 | h1
    · have := sx_ile_iff.mp h1
      omega
    · obtain ⟨d1, a1, a2⟩ := sx_lin_ok h1
      have c1 := sx_leq_ok hp (a2 env n.toInt (-hi) he (by rw [sx_ev_of (e := (-hi, [])) (y := 0) rfl]; simp)) a1
      omega
theorem sx_conc_ok (hr : sx_R Z Cs σe env me σ) {e : sx_e} {v : Int} (he : sx_ev env e = some v) {K : sx_Me → Int → Bool} (h : sx_conc me e K = true) : ∃ me', sx_R Z Cs σe env me' σ ∧ K me' v = true := by
  unfold sx_conc at h
  split at h
  · rename_i c
    have hz : v = c := by
      have h0 : (0 : Int) = v - c := Option.some.inj (sx_ev_to he)
      omega
    subst hz
    exact ⟨me, hr, h⟩
  · rename_i c a w
    obtain ⟨nw, md, xm, tr, fa⟩ := me
    simp only at h
    obtain ⟨lo, hi, x, h1, h2, h3, h4⟩ := sx_wb_ok hr.2.2.1 h
    cases hb : sx_ile (hi - lo) 64 with
    | false => rw [hb] at h4; cases h4
    | true =>
      rw [hb, cond_true] at h4
      have := ex_all_ok _ h4 x h2 (by omega)
      obtain ⟨fa', g1, g2⟩ := sx_fact_ok hr.2.2.1 (sx_one h1) (Int.le_refl _) (Int.le_refl _) this
      rw [ex_fI_eq] at g2
      have hx : v = c + a * x := by
        have h5 := sx_ev_of (e := (c, [(a, w)])) (sx_ea_mk (l := []) h1 rfl)
        rw [he] at h5
        have h6 := Option.some.inj h5
        have h7 : v = c + (a * x + 0) := h6
        omega
      rw [← hx] at g2
      exact ⟨_, hr.fact g1, g2⟩
  · rename_i c q l _
    obtain ⟨nw, md, xm, tr, fa⟩ := me
    simp only at h
    have hx := sx_ev_to he
    obtain ⟨lo, hi, x, h1, h2, h3, h4⟩ := sx_lb_ok hr.2.2.1 ⟨_, hx⟩ h
    rw [hx] at h1
    cases h1
    simp only at h2 h3
    cases hb : sx_ile (hi - lo) 64 with
    | false => rw [hb] at h4; cases h4
    | true =>
      rw [hb, cond_true] at h4
      have := ex_all_ok _ h4 (v - c) h2 (by omega)
      obtain ⟨fa', g1, g2⟩ := sx_fact_ok hr.2.2.1 hx (Int.le_refl _) (Int.le_refl _) this
      rw [ex_fI_eq, show c + (v - c) = v by omega] at g2
      exact ⟨_, hr.fact g1, g2⟩
/-! places -/
theorem sx_trg_ok {tr : sx_Tr} {key : Nat} {K1 : sx_e → Bool} {K0 : Bool} (h : sx_trg tr key K1 K0 = true) : (∃ e, (key, e) ∈ tr ∧ K1 e = true) ∨ K0 = true := by
  induction tr with
  | nil => exact Or.inr h
  | cons q t ih =>
    have h' : (bif q.1.beq key then K1 q.2 else sx_trg t key K1 K0) = true := h
    cases hb : q.1.beq key with
    | true =>
      rw [hb] at h'
      refine Or.inl ⟨q.2, ?_, h'⟩
      rw [← Nat.eq_of_beq_eq_true hb]
      exact List.mem_cons_self
    | false =>
      rw [hb] at h'
      rcases ih h' with ⟨e, h1, h2⟩ | h1
      · exact Or.inl ⟨e, List.mem_cons_of_mem _ h1, h2⟩
      · exact Or.inr h1
theorem sx_trg_no {tr : sx_Tr} {key : Nat} {K1 : sx_e → Bool} {K0 : Bool} (h : sx_trg tr key K1 K0 = true) : (∃ e, K1 e = true) ∨ ((∀ q ∈ tr, q.1 ≠ key) ∧ K0 = true) := by
  induction tr with
  | nil => exact Or.inr ⟨fun q hq => (by cases hq), h⟩
  | cons q t ih =>
    have h' : (bif q.1.beq key then K1 q.2 else sx_trg t key K1 K0) = true := h
    cases hb : q.1.beq key with
    | true =>
      rw [hb] at h'
      exact Or.inl ⟨q.2, h'⟩
    | false =>
      rw [hb] at h'
      rcases ih h' with h1 | ⟨h1, h2⟩
      · exact Or.inl h1
      · refine Or.inr ⟨fun z hz => ?_, h2⟩
        rcases List.mem_cons.mp hz with rfl | hz
        · exact fun e => by rw [e, Nat.beq_refl] at hb; cases hb
        · exact h1 z hz
theorem sx_key (o k : Nat) (hk : k < 65536) : (65536 * o + k) / 65536 = o ∧ (65536 * o + k) % 65536 = k := by omega
theorem sx_R.at (hr : sx_R Z Cs σe env me σ) {o k : Nat} (hk : k < 65536) {e : sx_e} (h : (65536 * o + k, e) ∈ me.2.2.2.1) : sx_ev env e = some (σ.2.1 o k).toInt := by
  have := hr.2.1 _ h
  simp only at this
  rw [(sx_key o k hk).1, (sx_key o k hk).2] at this
  exact this
theorem sx_filt_ok {F : Nat → Bool} : ∀ {tr : sx_Tr} {K : sx_Tr → Bool}, sx_filt tr F K = true → ∃ r, (∀ q ∈ r, q ∈ tr ∧ F q.1 = true) ∧ K r = true := by
  intro tr
  induction tr with
  | nil => intro K h; exact ⟨[], fun q hq => (by cases hq), h⟩
  | cons q t ih =>
    intro K h
    have h' : (bif F q.1 then sx_filt t F (fun r => K (q :: r)) else sx_filt t F K) = true := h
    cases hb : F q.1 with
    | true =>
      rw [hb] at h'
      obtain ⟨r, h1, h2⟩ := ih h'
      refine ⟨q :: r, fun z hz => ?_, h2⟩
      rcases List.mem_cons.mp hz with rfl | hz
      · exact ⟨List.mem_cons_self, hb⟩
      · exact ⟨List.mem_cons_of_mem _ (h1 z hz).1, (h1 z hz).2⟩
    | false =>
      rw [hb] at h'
      obtain ⟨r, h1, h2⟩ := ih h'
      exact ⟨r, fun z hz => ⟨List.mem_cons_of_mem _ (h1 z hz).1, (h1 z hz).2⟩, h2⟩
/-- slots of clauses are below 65536 -/
def sx_Zok (Z : sx_Z) : Prop := ∀ c ∈ Z.2.2.2.2.1, c.2.2.1 < 65536 ∧ c.2.2.2.1 + c.2.2.2.2 ≤ 65536
theorem sx_cl1_ok (hZ : sx_Zok Z) (hr : sx_R Z Cs σe env me σ) {o k : Nat} {e : sx_e} (he : sx_ev env e = some (k : Int)) (h : sx_cl1 Z me o e = true) : 1 ≤ (σ.2.1 o k).toInt := by
  have main : ∀ cl : List sx_Cl, (∀ c ∈ cl, c ∈ Z.2.2.2.2.1) → List.rec (motive := fun _ => Bool) false (fun c _ ih => (c.2.1.beq o && (!sx_bit me.2.2.1 c.1 && (ex_fN (65536 * o + c.2.2.1) fun key => sx_trg me.2.2.2.1 key (fun f => (sx_lin (-1) f e fun d => ex_fI (d.1 + (1 - .ofNat c.2.2.2.1)) fun c0 => sx_le0 1 me.2.2.2.2 (c0, d.2)) && (sx_in me.2.2.2.2 e (.ofNat c.2.2.2.1) (.ofNat c.2.2.2.1 + .ofNat c.2.2.2.2 - 1))) false))) || ih) cl = true → 1 ≤ (σ.2.1 o k).toInt := by
    intro cl
    induction cl with
    | nil => intro _ h; cases h
    | cons c t ih =>
      intro hm h
      rcases (Bool.or_eq_true _ _).mp h with h1 | h1
      · rw [Bool.and_eq_true, Bool.and_eq_true, ex_fN_eq] at h1
        obtain ⟨a1, a2, a3⟩ := h1
        have ho := Nat.eq_of_beq_eq_true a1
        have hc := hm c List.mem_cons_self
        have hz := hZ c hc
        rcases sx_trg_ok a3 with ⟨f, f1, f2⟩ | f1
        · rw [Bool.and_eq_true] at f2
          have hf := hr.at hz.1 f1
          obtain ⟨d, d1, d2⟩ := sx_lin_ok f2.1
          rw [ex_fI_eq] at d1
          have d3 := d2 env _ _ hf he
          have d4 := sx_le0_ok hr.2.2.1 1 (sx_ev_of (e := (d.1 + (1 - .ofNat c.2.2.2.1), d.2)) (sx_ev_to (e := d) d3)) d1
          have hkb : sx_lo ≤ (k : Int) := by
            have e1 : sx_lo = -2147483648 := rfl
            rw [e1]; omega
          have d5 : ((c.2.2.2.1 : Nat) : Int) ≤ (k : Int) ∧ (k : Int) ≤ ((c.2.2.2.1 : Nat) : Int) + ((c.2.2.2.2 : Nat) : Int) - 1 := by
            have f3 := f2.2
            unfold sx_in at f3
            rw [Bool.and_eq_true, Bool.or_eq_true, Bool.or_eq_true] at f3
            refine ⟨?_, ?_⟩
            · rcases f3.1 with g1 | g1
              · have := sx_ile_iff.mp g1
                have : ((c.2.2.2.1 : Nat) : Int) ≤ sx_lo := this
                omega
              · obtain ⟨d', a1', a2'⟩ := sx_lin_ok g1
                have c1 := sx_leq_ok hr.2.2.1 (a2' env k _ he (by rw [sx_ev_of (e := (_, [])) (y := 0) rfl])) a1'
                have c1' : -1 * (k : Int) + (((c.2.2.2.1 : Nat) : Int) + 0) ≤ 0 := c1
                omega
            · rcases f3.2 with g1 | g1
              · have g2 := sx_ile_iff.mp g1
                have g3 : sx_up ≤ ((c.2.2.2.1 : Nat) : Int) + ((c.2.2.2.2 : Nat) : Int) - 1 := g2
                have e2 : sx_up = 2147483647 := rfl
                rw [e2] at g3
                omega
              · obtain ⟨d', a1', a2'⟩ := sx_lin_ok g1
                have c1 := sx_leq_ok hr.2.2.1 (a2' env k _ he (by rw [sx_ev_of (e := (_, [])) (y := 0) rfl])) a1'
                have c1' : 1 * (k : Int) + (-(((c.2.2.2.1 : Nat) : Int) + ((c.2.2.2.2 : Nat) : Int) - 1) + 0) ≤ 0 := c1
                omega
          have d6 : d.1 + (1 - ((c.2.2.2.1 : Nat) : Int)) + (-1 * (σ.2.1 o c.2.2.1).toInt + (k : Int) - d.1) ≤ 0 := d4
          have hb : sx_bit me.2.2.1 c.1 = false := by simpa using a2
          have := hr.2.2.2.2.2.2.2.2.1 c hc hb (k - c.2.2.2.1) (by omega) (by rw [ho]; omega)
          rw [ho, show c.2.2.2.1 + (k - c.2.2.2.1) = k by omega] at this
          exact this
        · cases f1
      · exact ih (fun z hz => hm z (List.mem_cons_of_mem _ hz)) h1
  exact main _ (fun c hc => hc) h
theorem sx_rd_ok (hZ : sx_Zok Z) (hr : sx_R Z Cs σe env me σ) {o k : Nat} {K : sx_Me → sx_e → Bool} (h : sx_rd Z me o k K = true) : sx_ex Z Cs σe env σ (σ.2.1 o k).toInt K := by
  unfold sx_rd at h
  rw [ex_fN_eq, Bool.and_eq_true] at h
  have hk := ex_blt h.1
  rcases sx_trg_ok h.2 with ⟨e, h1, h2⟩ | h1
  · exact sx_ex_here hr (hr.at hk h1) h2
  · obtain ⟨lo, hi, u, a1, a2⟩ := sx_at_ok h1
    have hb := hr.2.2.2.2.2.1 o k lo hi u a1
    have main : ∀ lo', lo' ≤ (σ.2.1 o k).toInt → (bif sx_ieq lo' hi then K me (lo', []) else sx_new me lo' hi fun me e => match me with
      | (nw, md, xm, tr, fa) => K (nw, md, xm, (65536 * o + k, e) :: tr, fa) e) = true → sx_ex Z Cs σe env σ (σ.2.1 o k).toInt K := by
      intro lo' hlo h2
      cases he : sx_ieq lo' hi with
      | true =>
        rw [he] at h2
        have := sx_ieq_iff.mp he
        refine sx_ex_here hr (e := (lo', [])) ?_ h2
        rw [sx_ev_of (e := (lo', [])) (y := 0) rfl]
        congr 1
        show lo' + 0 = _
        omega
      | false =>
        rw [he, cond_false] at h2
        obtain ⟨b1, b2, b3⟩ := sx_new_ok hr hlo hb.2 h2
        refine ⟨[(σ.2.1 o k).toInt], (me.1 + 1, me.2.1, me.2.2.1, (65536 * o + k, sx_w me.1) :: me.2.2.2.1, ([(.ofNat 1, me.1)], lo', hi) :: me.2.2.2.2), sx_w me.1, ⟨b1.1, fun q hq => ?_, b1.2.2.1, b1.2.2.2⟩, b2, b3⟩
        rcases List.mem_cons.mp hq with rfl | hq
        · show _ = some (σ.2.1 ((65536 * o + k) / 65536) ((65536 * o + k) % 65536)).toInt
          rw [(sx_key o k hk).1, (sx_key o k hk).2]
          exact b2
        · exact b1.2.1 q hq
    cases hc : sx_cl1 Z me o (.ofNat k, []) with
    | true =>
      rw [hc] at a2
      simp only [cond_true] at a2
      obtain ⟨c, c1, c2, c3, c4⟩ := sx_max_ok a2
      have h1' := sx_cl1_ok hZ hr (o := o) (k := k) (e := (.ofNat k, [])) (by rw [sx_ev_of (e := (.ofNat k, [])) (y := 0) rfl]; simp) hc
      exact main c (by omega) c4
    | false =>
      rw [hc] at a2
      simp only [cond_false] at a2
      rw [ex_fI_eq] at a2
      exact main lo hb.1 a2
end SM
