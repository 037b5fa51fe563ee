/-! arrays, ends of methods, throws, Math -/
theorem sx_row_in {L : Nat} {xs : Nat → Int32} {k : Nat} (h0 : k ≠ 0) (h4 : k < 4) : ∃ f, am_X L xs k = some (8, f) ∧ ∀ j, 0 ≤ (f j).toInt ∧ (f j).toInt ≤ 99 := by
  have main : ∀ l : List Int32, (∀ a ∈ l, 0 ≤ a.toInt ∧ a.toInt ≤ 99) → ∀ j, 0 ≤ (l.getD j 0).toInt ∧ (l.getD j 0).toInt ≤ 99 := by
    intro l hl j
    by_cases hj : j < l.length
    · rw [List.getD_eq_getElem?_getD, List.getElem?_eq_getElem hj]
      exact hl _ (List.getElem_mem hj)
    · rw [List.getD_eq_getElem?_getD, List.getElem?_eq_none (by omega)]
      exact ⟨by decide, by decide⟩
  rcases (show k = 1 ∨ k = 2 ∨ k = 3 by omega) with rfl | rfl | rfl
  · exact ⟨am_usual, rfl, main _ (by decide)⟩
  · exact ⟨am_least, rfl, main _ (by decide)⟩
  · exact ⟨am_great, rfl, main _ (by decide)⟩
section ZC
variable {x : sx_X} {K : sx_K} {env : List Int} {T : ex_T} {cd : List ex_E} {lv : sx_L} {st : List sx_V} {fs : List sx_Fr} {me : sx_Me} {lw : List (Nat × Value)} {sw : List Value} {fw : List sx_Fw} {σ : am_S} {pc nx d mc ms : Nat}
theorem tk_iald (B : sx_Bx x) (C : sx_Kx x K) (A : sx_At x env T cd lv st fs me lw sw fw σ) {t1 t2 : Nat} (row : ∀ (t o n : Nat) (i : Int32) (sw : List Value), t = t1 ∨ t = t2 → σ.1[o]? = some (.inr (ex_ty t, n)) → vp_in i n → sx_am x d T mc ms nx lw (.int (σ.2.1 o i.toNatClampNeg) :: sw) fw σ → sx_am x d T mc ms pc lw (.int i :: .ref o :: sw) fw σ) (rowX : t1 = 0 → ∀ (k n : Nat) (f : Nat → Int32) (i : Int32) (sw : List Value), (xg x).2.2.2.2.2.2 k = some (n, f) → vp_in i n → sx_am x d T mc ms nx lw (.int (f i.toNatClampNeg) :: sw) fw σ → sx_am x d T mc ms pc lw (.int i :: .retAddr k :: sw) fw σ) (h : sx_iald (xZ x) K T cd nx d mc ms lv st fs me (xw x) t1 t2 = true) : sx_am x d T mc ms pc lw sw fw σ := by
  unfold sx_iald at h
  split at h
  · rename_i i o st'
    obtain ⟨v, sw1, rfl, ⟨a, rfl, ha⟩, h3⟩ := A.s.cons
    obtain ⟨v, sw2, rfl, hv, h4⟩ := h3.cons
    have e : v = .ref o := hv
    subst e
    obtain ⟨t, n, h1, h2⟩ := sx_isA_ok A.r h
    rw [Bool.and_eq_true, Bool.or_eq_true] at h2
    obtain ⟨g1, g2⟩ := sx_rdx_ok B A.r ha h2.2
    exact row t o n a sw2 (h2.1.imp Nat.eq_of_beq_eq_true Nat.eq_of_beq_eq_true) h1 g1 (sx_push C (A.stk h4) g2)
  · rename_i i k st'
    obtain ⟨v, sw1, rfl, ⟨a, rfl, ha⟩, h3⟩ := A.s.cons
    obtain ⟨v, sw2, rfl, hv, h4⟩ := h3.cons
    have e : v = .retAddr k := hv
    subst e
    rw [Bool.and_eq_true] at h
    have ht := Nat.eq_of_beq_eq_true h.1
    have h0 := h.2
    split at h0
    · split at h0
      · rename_i w hw
        rw [Bool.and_eq_true, Bool.and_eq_true] at h0
        obtain ⟨b1, b2, b3⟩ := h0
        have hx := sx_ev_to ha
        obtain ⟨m, c1, c2⟩ := sx_negA_ok b1
        rw [ex_fI_eq] at c1
        have d1 := sx_le0_ok A.p 2 (sx_ev_of (e := (-i.1, m)) (c2 env _ hx)) c1
        have hL : sx_ev env (sx_w w) = some (xL x : Int) := by
          have h5 := (A.2.2.1.1 w hw).1
          rw [sx_ev_of (e := sx_w w) (sx_ea_mk (l := []) h5 rfl)]
          congr 1
          show (0 : Int) + (1 * (xL x : Int) + 0) = _
          omega
        obtain ⟨e2, c3, c4⟩ := sx_lin_ok b2
        rw [ex_fI_eq] at c3
        have c5 := c4 env _ _ hL ha
        have d2 := sx_le0_ok A.p 2 (sx_ev_of (e := (e2.1 + 1, e2.2)) (sx_ev_to (e := e2) c5)) c3
        have d1' : -i.1 + -(a.toInt - i.1) ≤ 0 := d1
        have d2' : e2.1 + 1 + (-1 * (xL x : Int) + a.toInt - e2.1) ≤ 0 := d2
        have hxg : (xg x).2.2.2.2.2.2 0 = some (xL x, x.2.1.2) := by rw [B.2.1]; rfl
        have hin := sx_ixn (a := a) (j := a.toInt.toNat) (n := xL x) (by omega) (by omega)
        refine rowX ht 0 (xL x) _ a sw2 hxg hin.1 ?_
        unfold sx_scr at b3
        split at b3
        · rename_i c a1 v
          rw [Bool.and_eq_true, Bool.and_eq_true, Bool.and_eq_true, ex_fN_eq] at b3
          obtain ⟨t1, t2, t3, t4⟩ := b3
          have u1 := ex_blt t1
          have u2 := sx_ieq_iff.mp t2
          have u3 := Nat.eq_of_beq_eq_true t3
          obtain ⟨-, i0, i1, i2⟩ := A.2.2.1.1 w hw
          have u4 : a.toInt = (c : Int) + (i0 : Int) := by
            have h6 := sx_ev_of (e := (.ofNat c, [(a1, v)])) (sx_ea_mk (l := []) (a := a1) (by rw [u3]; exact i1) rfl)
            rw [ha, u2] at h6
            have h7 := Option.some.inj h6
            have h8 : a.toInt = (c : Int) + (1 * (i0 : Int) + 0) := h7
            omega
          have u5 := i2 c u1 (by omega)
          rw [hin.2, show a.toInt.toNat = i0 + c by omega]
          exact sx_go C t4 (A.stk ⟨⟨_, rfl, by
            rw [sx_ev_of (e := sx_w (w + 2 + c)) (sx_ea_mk (l := []) u5 rfl)]
            congr 1
            show (0 : Int) + (1 * _ + 0) = _
            omega⟩, h4⟩)
        · cases b3
      · cases h0
    · rename_i k0
      rw [Bool.and_eq_true, Bool.and_eq_true] at h0
      obtain ⟨b1, b2, b3⟩ := h0
      have hin := sx_ix_ok A.p ha b1
      obtain ⟨f, f1, f2⟩ := sx_row_in (L := xL x) (xs := x.2.1.2) (fun q => k0 q) (ex_blt b2)
      exact rowX ht k 8 f a sw2 (by rw [B.2.1]; exact f1) hin.1 (sx_push C (A.stk h4) (sx_new_ex A.r (f2 _).1 (f2 _).2 b3))
  · cases h
theorem tk_lald (B : sx_Bx x) (C : sx_Kx x K) (A : sx_At x env T cd lv st fs me lw sw fw σ) (hd : decode T.1.2.1 pc = .ok (.laload, 1)) (h : sx_lald (xZ x) K T cd (pc + 1) d mc ms lv st fs me = true) : sx_am x d T mc ms pc lw sw fw σ := by
  unfold sx_lald at h
  split at h
  · rename_i i o st'
    obtain ⟨v, sw1, rfl, ⟨a, rfl, ha⟩, h3⟩ := A.s.cons
    obtain ⟨v, sw2, rfl, hv, h4⟩ := h3.cons
    have e : v = .ref o := hv
    subst e
    obtain ⟨t, n, h1, h2⟩ := sx_isA_ok A.r h
    rw [Bool.and_eq_true, Bool.and_eq_true] at h2
    have ht := Nat.eq_of_beq_eq_true h2.1
    subst ht
    have hin := sx_ix_ok A.p ha h2.2.1
    exact kr_lald B.1 hd h1 hin.1 (sx_go C h2.2.2 (A.stk ⟨⟨_, rfl⟩, h4⟩))
  · cases h
theorem tk_aald (B : sx_Bx x) (C : sx_Kx x K) (A : sx_At x env T cd lv st fs me lw sw fw σ) (hd : decode T.1.2.1 pc = .ok (.aaload, 1)) (h : sx_aald (xZ x) K T cd (pc + 1) d mc ms lv st fs me = true) : sx_am x d T mc ms pc lw sw fw σ := by
  unfold sx_aald at h
  split at h
  · rename_i i o st'
    obtain ⟨v, sw1, rfl, ⟨a, rfl, ha⟩, h3⟩ := A.s.cons
    obtain ⟨v, sw2, rfl, hv, h4⟩ := h3.cons
    have e : v = .ref o := hv
    subst e
    obtain ⟨t, n, h1, h2⟩ := sx_isA_ok A.r h
    rw [Bool.and_eq_true] at h2
    have ht := Nat.eq_of_beq_eq_true h2.1
    subst ht
    obtain ⟨me', g1, g2⟩ := sx_conc_ok A.r ha h2.2
    split at g2
    · rename_i j hj
      rw [Bool.and_eq_true] at g2
      have hin := sx_ixn (ex_blt g2.1) hj
      have g3 := g2.2
      split at g3
      · rename_i r hrf
        refine kr_aald B.1 hd h1 hin.1 (x := r) ?_ (sx_go C g3 ((A.re0 g1).stk ⟨rfl, h4⟩))
        rw [hin.2]
        exact g1.2.2.2.2.1 o j r hrf
      · cases g3
    · cases g2
  · cases h
theorem tk_iast (B : sx_Bx x) (C : sx_Kx x K) (A : sx_At x env T cd lv st fs me lw sw fw σ) (hd : decode T.1.2.1 pc = .ok (.iastore, 1)) (h : sx_iast (xZ x) K T cd (pc + 1) d mc ms lv st fs me = true) : sx_am x d T mc ms pc lw sw fw σ := by
  unfold sx_iast at h
  split at h
  · rename_i e i o st'
    obtain ⟨v, sw0, rfl, ⟨z, rfl, hz⟩, h5⟩ := A.s.cons
    obtain ⟨v, sw1, rfl, ⟨a, rfl, ha⟩, h3⟩ := h5.cons
    obtain ⟨v, sw2, rfl, hv, h4⟩ := h3.cons
    have e : v = .ref o := hv
    subst e
    obtain ⟨t, n, h1, h2⟩ := sx_isA_ok A.r h
    rw [Bool.and_eq_true, Bool.and_eq_true] at h2
    have ht := Nat.eq_of_beq_eq_true h2.1
    subst ht
    obtain ⟨g1, me', g2, g3⟩ := sx_wrx_ok B (Nat.le_of_lt (ex_blt h2.2.1)) A.r ha hz h2.2.2
    exact kr_iast B.1 hd h1 g1 (sx_go C g3 ((A.stk h4).re0 g2))
  · cases h
theorem tk_bast (B : sx_Bx x) (C : sx_Kx x K) (A : sx_At x env T cd lv st fs me lw sw fw σ) (hd : decode T.1.2.1 pc = .ok (.bastore, 1)) (h : sx_bast (xZ x) K T cd (pc + 1) d mc ms lv st fs me = true) : sx_am x d T mc ms pc lw sw fw σ := by
  unfold sx_bast at h
  split at h
  · rename_i e i o st'
    obtain ⟨v, sw0, rfl, ⟨z, rfl, hz⟩, h5⟩ := A.s.cons
    obtain ⟨v, sw1, rfl, ⟨a, rfl, ha⟩, h3⟩ := h5.cons
    obtain ⟨v, sw2, rfl, hv, h4⟩ := h3.cons
    have e : v = .ref o := hv
    subst e
    obtain ⟨t, n, h1, h2⟩ := sx_isA_ok A.r h
    split at h2
    · rw [Bool.and_eq_true] at h2
      obtain ⟨ext, me1, e1, k1, k2, k3⟩ := sx_bits_ok (o := 11) (y := 0) A.r hz sx_const h2.2
      obtain ⟨g1, me', g2, g3⟩ := sx_wrx_ok B (Nat.le_of_lt (ex_blt h2.1)) k1 (sx_ev_app ext ha) k2 k3
      exact kr_bast B.1 hd h1 g1 (y := z.toInt8.toInt32) rfl (sx_go C g3 ((A.stk h4).re g2))
    · rw [Bool.and_eq_true] at h2
      obtain ⟨ext, me1, e1, k1, k2, k3⟩ := sx_bits_ok (o := 3) (y := 1) A.r hz sx_const h2.2
      obtain ⟨g1, me', g2, g3⟩ := sx_wrx_ok B (Nat.le_of_lt (ex_blt h2.1)) k1 (sx_ev_app ext ha) k2 k3
      exact kr_zast B.1 hd h1 g1 (y := z &&& 1) rfl (sx_go C g3 ((A.stk h4).re g2))
    · cases h2
  · cases h
theorem tk_last (B : sx_Bx x) (C : sx_Kx x K) (A : sx_At x env T cd lv st fs me lw sw fw σ) (hd : decode T.1.2.1 pc = .ok (.lastore, 1)) (h : sx_last (xZ x) K T cd (pc + 1) d mc ms lv st fs me = true) : sx_am x d T mc ms pc lw sw fw σ := by
  unfold sx_last at h
  split at h
  · rename_i i o st'
    obtain ⟨v, sw0, rfl, ⟨z, rfl⟩, h5⟩ := A.s.cons
    obtain ⟨v, sw1, rfl, ⟨a, rfl, ha⟩, h3⟩ := h5.cons
    obtain ⟨v, sw2, rfl, hv, h4⟩ := h3.cons
    have e : v = .ref o := hv
    subst e
    obtain ⟨t, n, h1, h2⟩ := sx_isA_ok A.r h
    rw [Bool.and_eq_true, Bool.and_eq_true] at h2
    have ht := Nat.eq_of_beq_eq_true h2.1
    subst ht
    have hin := sx_ix_ok A.p ha h2.2.1
    exact kr_last B.1 hd h1 hin.1 (sx_go C (by have q := h2.2.2; rw [sx_lg_eq] at q; exact q) ((A.stk h4).re0 (A.r.longs B.2.2.2.2.2 o _ (fun e => funext fun _ => am_up_o _ _ (Ne.symm e)))))
  · cases h
/-! ends -/
/-- the end that the run began with -/
def sx_Rk (x : sx_X) (R : Option sx_V → sx_Me → Bool) : Prop := ∀ (v : Option sx_V) (me : sx_Me) (env : List Int) (v' : Option Value) (σ : am_S), R v me = true → sx_Len (xL x) x.2.1.2 (xw x) (xr x) env → sx_Rx x env me σ → (match v, v' with
  | some a, some b => sx_val env a b
  | none, none => True
  | _, _ => False) → xp x (some v') σ
theorem sx_back_ok (C : sx_Kx x K) {R : Option sx_V → sx_Me → Bool} (hR : sx_Rk x R) (hl : sx_Len (xL x) x.2.1.2 (xw x) (xr x) env) (hr : sx_Rx x env me σ) (hf : sx_FR (xm x) (xT x) env fs fw) {v : Option sx_V} {v' : Option Value} (hv : match v, v' with
  | some a, some b => sx_val env a b
  | none, none => True
  | _, _ => False) (h : sx_back K fs me R v = true) : sx_Q (xg x) (xX x) (xY x) (xp x) fw (some v') σ := by
  unfold sx_back at h
  split at h
  · rename_i T2 cd2 pc2 d2 mc2 ms2 lv2 st2 fs2
    cases fw with
    | nil => exact hf.elim
    | cons w fw =>
      obtain ⟨⟨f1, f2, f3, f4, f5⟩, f6, f7, f8, f9, f10⟩ := hf
      simp only at f1 f2 f3 f4 f5 f6 f7 f8 f9
      show am_K (xg x) w.2.2.1 w.1 (w.2.2.2.1 + sx_x (xX x) fw) (w.2.2.2.2.1 + sx_x (xY x) fw) w.2.1 w.2.2.2.2.2.1 (v'.toList ++ w.2.2.2.2.2.2) σ (sx_Q (xg x) (xX x) (xY x) (xp x) fw)
      rw [f1, f2, f3, f4, f5]
      match v, v', hv, h with
      | some a, some b, hv, h => exact C _ _ _ _ _ _ _ _ _ _ _ _ _ _ _ h ⟨f6, f9, hl, hr, f7, ⟨hv, f8⟩, f10⟩
      | none, none, _, h => exact C _ _ _ _ _ _ _ _ _ _ _ _ _ _ _ h ⟨f6, f9, hl, hr, f7, f8, f10⟩
      | some _, none, hv, _ => exact hv.elim
      | none, some _, hv, _ => exact hv.elim
  · cases fw with
    | nil => exact hR v me env v' σ h hl hr hv
    | cons w fw => exact hf.elim
theorem tk_iret (C : sx_Kx x K) {R : Option sx_V → sx_Me → Bool} (hR : sx_Rk x R) (A : sx_At x env T cd lv st fs me lw sw fw σ) {ty : FieldType} (hret : T.1.2.2.2.1 = some ty) (hd : decode T.1.2.1 pc = .ok (.ireturn, 1)) (h : sx_iret K st fs me R ty = true) : sx_am x d T mc ms pc lw sw fw σ := by
  unfold sx_iret at h
  split at h
  · rename_i e
    obtain ⟨v, sw0, rfl, ⟨z, rfl, hz⟩, h5⟩ := A.s.cons
    rw [h5.nil]
    split at h
    · exact kr_ireturn hd hret rfl (sx_back_ok C hR A.2.2.1 A.r A.2.2.2.2.2.2 (v := some (.inl e)) (v' := some (.int z)) ⟨z, rfl, hz⟩ h)
    · rw [Bool.and_eq_true] at h
      have hb := sx_in_ok A.p hz h.1
      exact kr_ireturn hd hret (sx_nar01 rfl hb.1 hb.2).1 (sx_back_ok C hR A.2.2.1 A.r A.2.2.2.2.2.2 (v := some (.inl e)) (v' := some (.int z)) ⟨z, rfl, hz⟩ h.2)
    · cases h
  · cases h
theorem sx_junk {Z : sx_Z} {Cs : Nat → am_S → Prop} {σe σ : am_S} {env : List Int} {me : sx_Me} (hCs : sx_CsOk Z Cs) (hr : sx_R Z Cs σe env me σ) (J : List am_sh) : sx_R Z Cs σe env me (σ.1 ++ J, σ.2) :=
  ⟨hr.1, hr.2.1, hr.2.2.1, fun o h hh => by
    have := hr.2.2.2.1 o h hh
    show (σ.1 ++ J)[o]? = some h
    rw [List.getElem?_append_left (List.getElem?_eq_some_iff.mp this).1]
    exact this, hr.2.2.2.2.1, hr.2.2.2.2.2.1, hr.2.2.2.2.2.2.1, hr.2.2.2.2.2.2.2.1, hr.2.2.2.2.2.2.2.2.1, fun c hc hb => hCs c hc σ _ (fun _ _ _ => rfl) (hr.2.2.2.2.2.2.2.2.2.1 c hc hb), hr.2.2.2.2.2.2.2.2.2.2⟩
theorem tk_throw (B : sx_Bx x) (C : sx_Kx x K) {R : Option sx_V → sx_Me → Bool} (hR : sx_Rk x R) (A : sx_At x env T cd lv st fs me lw sw fw σ) {i is wd p1 p2 : Nat} (hd : decode T.1.2.1 pc = .ok (.new i, 3)) (hl : ex_lk (xm x) T pc (.new i) [1, is, wd, p1, p2] = true) (h : sx_throw K d mc ms st fs me R = true) : sx_am x d T mc ms pc lw sw fw σ := by
  unfold sx_throw at h
  unfold ex_lk at hl
  simp only at hl
  rw [Bool.and_eq_true, Bool.and_eq_true, Bool.and_eq_true, Bool.and_eq_true, Bool.and_eq_true, Bool.and_eq_true, decide_eq_true_eq, decide_eq_true_eq, decide_eq_true_eq] at hl
  obtain ⟨l1, l2, l3, l4, l5, l6, l7⟩ := hl
  cases hb : ((sx_cats st).ble 8 && Nat.ble 6 d && Nat.ble 1 mc && Nat.ble 6 ms) with
  | false => rw [hb] at h; cases h
  | true =>
    rw [hb] at h
    simp only [Bool.and_eq_true] at hb
    obtain ⟨⟨⟨b1, b2⟩, b3⟩, b4⟩ := hb
    have c1 := ex_ble b1
    have c2 := ex_ble b2
    have c3 := ex_ble b3
    have c4 := ex_ble b4
    simp only [cond_true] at h
    have hs : ∃ tx, Cond.stringRef RX11 is tx ∈ lw_tbl := by
      split at l6
      · rename_i o j tx hq
        simp only [Bool.and_eq_true, decide_eq_true_eq] at l6
        obtain ⟨rfl, rfl⟩ := l6
        exact ⟨tx, lw_at_mem hq⟩
      · cases l6
    obtain ⟨tx, hs⟩ := hs
    have hroom : (sw.map fun v => v.category).sum ≤ 8 := by rw [sx_cats_ok A.s]; exact c1
    have hf := A.2.2.2.2.2.2
    have hpost : ∀ J : List am_sh, (∀ z ∈ J, z = .inl 99) → sx_Q (xg x) (xX x) (xY x) (xp x) fw none (σ.1 ++ J, σ.2) := by
      intro J _
      split at h
      · rename_i f fs2
        split at h
        · cases h
        · rename_i hh
          match fw, hf with
          | w :: fw2, hf =>
            obtain ⟨⟨f1, -⟩, -, -, -, -, g10⟩ := hf
            have hq := sx_back_ok C hR A.2.2.1 (sx_junk B.2.2.2.2.2 A.r J) g10 (v := some (.inl (.ofNat 1, []))) (v' := some (.int 1)) ⟨1, rfl, sx_const⟩ h
            exact ⟨by rw [f1]; exact hh, hq⟩
          | [], hf => exact hf.elim
      · cases h
    have hfw : ∃ w fw2, fw = w :: fw2 := by
      split at h
      · cases fw with
        | nil => exact hf.elim
        | cons w fw2 => exact ⟨w, fw2, rfl⟩
      · cases h
    obtain ⟨w, fw2, rfl⟩ := hfw
    show am_K (xg x) d T.1 (mc + 0) (ms + 0) pc lw sw σ _
    rw [show mc + 0 = mc - 1 + 1 by omega, show ms + 0 = ms - 6 + 6 by omega]
    split at l7
    · simp only [Bool.and_eq_true] at l7
      exact kr_throwS B.1 l1 l2 l3 hd (of_decide_eq_true l4) (of_decide_eq_true l7.1) (of_decide_eq_true l7.2.1) (of_decide_eq_true l7.2.2) (ex_mem_ok l5) hs c2 hroom hpost
    · simp only [Bool.and_eq_true] at l7
      exact kr_throwSW B.1 l1 l2 l3 hd (of_decide_eq_true l4) (of_decide_eq_true l7.1) (of_decide_eq_true l7.2.1) (of_decide_eq_true l7.2.2) (ex_mem_ok l5) hs c2 hroom hpost
theorem tk_math (B : sx_Bx x) (C : sx_Kx x K) (A : sx_At x env T cd lv st fs me lw sw fw σ) {i w p z : Nat} (hd : decode T.1.2.1 pc = .ok (.invokestatic i, 3)) (hl : ex_lk (xm x) T pc (.invokestatic i) [1, w, p, z] = true) (h : sx_math K T cd (pc + 3) d mc ms lv st fs me w = true) : sx_am x d T mc ms pc lw sw fw σ := by
  unfold sx_math at h
  cases hb : ((sx_cats st).ble 10 && Nat.ble 1 d) with
  | false => rw [hb] at h; cases h
  | true =>
    rw [hb] at h
    simp only [cond_true] at h
    simp only [Bool.and_eq_true] at hb
    have c1 := ex_ble hb.1
    have c2 := ex_ble hb.2
    split at h
    · split at h
      · rename_i ey ex st'
        obtain ⟨v, sw1, rfl, ⟨b, rfl, h2⟩, h3⟩ := A.s.cons
        obtain ⟨v, sw2, rfl, ⟨a, rfl, h4⟩, h5⟩ := h3.cons
        have hroom : (sw2.map fun v => v.category).sum ≤ 8 := by
          rw [sx_cats_ok h5]
          have c3 : 1 + (1 + sx_cats st') ≤ 10 := c1
          omega
        obtain ⟨nw, md, xm, tr, fa⟩ := me
        simp only at h
        obtain ⟨fa1, a1, ⟨a2, a3⟩ | ⟨a2, a3⟩⟩ := sx_cmp_ok A.p h4 h2 h
        · refine kr_mmax B.1 (ex_mem_ok hl) hd c2 hroom ?_
          rw [if_pos ((ex_rel_lt _ _).mp a2)]
          exact sx_go C a3 ((A.re0 (A.r.fact a1)).stk ⟨⟨b, rfl, h2⟩, h5⟩)
        · refine kr_mmax B.1 (ex_mem_ok hl) hd c2 hroom ?_
          rw [if_neg (fun q => a2 ((ex_rel_lt _ _).mpr q))]
          exact sx_go C a3 ((A.re0 (A.r.fact a1)).stk ⟨⟨a, rfl, h4⟩, h5⟩)
      · cases h
    · split at h
      · rename_i ey ex st'
        obtain ⟨v, sw1, rfl, ⟨b, rfl, h2⟩, h3⟩ := A.s.cons
        obtain ⟨v, sw2, rfl, ⟨a, rfl, h4⟩, h5⟩ := h3.cons
        have hroom : (sw2.map fun v => v.category).sum ≤ 8 := by
          rw [sx_cats_ok h5]
          have c3 : 1 + (1 + sx_cats st') ≤ 10 := c1
          omega
        obtain ⟨nw, md, xm, tr, fa⟩ := me
        simp only at h
        obtain ⟨fa1, a1, ⟨a2, a3⟩ | ⟨a2, a3⟩⟩ := sx_cmp_ok A.p h2 h4 h
        · refine kr_mmin B.1 (ex_mem_ok hl) hd c2 hroom ?_
          rw [if_pos ((ex_rel_lt _ _).mp a2)]
          exact sx_go C a3 ((A.re0 (A.r.fact a1)).stk ⟨⟨b, rfl, h2⟩, h5⟩)
        · refine kr_mmin B.1 (ex_mem_ok hl) hd c2 hroom ?_
          rw [if_neg (fun q => a2 ((ex_rel_lt _ _).mpr q))]
          exact sx_go C a3 ((A.re0 (A.r.fact a1)).stk ⟨⟨a, rfl, h4⟩, h5⟩)
      · cases h
    · rename_i w0 w1
      have hlk : Cond.methodLink T.1.1.cls i Lib.Math.abs.name ∈ lw_tbl := by
        match w, w0, w1, hl with
        | w + 2, _, _, hl => exact ex_mem_ok hl
      split at h
      · obtain ⟨v, sw1, rfl, ⟨b, rfl, h2⟩, h3⟩ := A.s.cons
        rw [Bool.and_eq_true] at h
        have hroom : (sw1.map fun v => v.category).sum ≤ 8 := by
          rw [sx_cats_ok h3]
          exact ex_ble h.1
        exact kr_mabs B.1 hlk hd c2 hroom (sx_push C (A.stk h3) (sx_new_full A.r _ h.2))
      · cases h
end ZC
