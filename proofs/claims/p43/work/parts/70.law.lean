/-! the law's loop, turn by turn (written by a program) -/
noncomputable def sx_contra (fa : sx_Fa) : Bool := sx_any fa fun l lo hi => (ex_fI (1 - lo) fun c => sx_leq0 fa (c, l)) || (sx_negA l fun m => ex_fI (hi + 1) fun c => sx_leq0 fa (c, m))
theorem sx_contra_ok {env : List Int} {fa : sx_Fa} (hp : sx_P env fa) (h : sx_contra fa = true) : False := by
  obtain ⟨l, lo, hi, v, e1, e2, e3, e4⟩ := sx_any_ok hp h
  rcases (Bool.or_eq_true _ _).mp e4 with h1 | h1
  · rw [ex_fI_eq] at h1
    have := sx_leq0_ok hp (sx_ev_of (e := (1 - lo, l)) e1) h1
    simp only at this
    omega
  · obtain ⟨m, h2, h3⟩ := sx_negA_ok h1
    rw [ex_fI_eq] at h2
    have := sx_leq0_ok hp (sx_ev_of (e := (hi + 1, m)) (h3 env _ e1)) h2
    simp only at this
    omega
def lw_refs : sx_L := [(0, .inr (some (true, 0))), (1, .inr (some (false, 0))), (2, .inr (some (false, 118))), (3, .inr (some (false, 138)))]
def lw_fa : sx_Fa := [([(.ofNat 1, 0)], .ofNat 0, .ofNat 3072), ([(.ofNat 1, 1)], .ofNat 0, .ofNat 3078), ([(.ofNat 1, 2)], sx_lo, sx_up), ([(.ofNat 1, 3)], sx_lo, sx_up), ([(.ofNat 1, 4)], sx_lo, sx_up), ([(.ofNat 1, 5)], sx_lo, sx_up), ([(.ofNat 1, 6)], sx_lo, sx_up), ([(.ofNat 1, 7)], sx_lo, sx_up), ([(.ofNat 1, 8)], .ofNat 0, .ofNat 940), ([(.ofNat 1, 9)], .ofNat 0, .ofNat 940), ([(.ofNat 1, 10)], .ofNat 0, .ofNat 1), ([(.ofNat 1, 11)], .ofNat 0, .ofNat 1), ([(.ofNat 1, 12)], .ofNat 0, .ofNat 1), ([(.ofNat 1, 13)], .ofNat 0, .ofNat 1), ([(.ofNat 1, 8), (.negSucc 0, 9)], .ofNat 0, .ofNat 0), ([(.ofNat 1, 10), (.negSucc 0, 11)], .ofNat 0, .ofNat 0), ([(.ofNat 1, 12), (.negSucc 0, 13)], .ofNat 0, .ofNat 0)]
def lw_tr : sx_Tr := [(65537, sx_w 8), (7733250, sx_w 9), (5636099, sx_w 10), (8978432, sx_w 11), (6684675, sx_w 12), (8978433, sx_w 13)]
noncomputable def lw_pr (me : sx_Me) (kx km : Nat) : Bool := sx_rdk z9 me kx fun me ex => sx_rdk z9 me km fun me em => (sx_lin (-1) em ex fun d => sx_inx me.2.2.2.2 d 0 0) || sx_contra me.2.2.2.2
theorem lw_pr_ok {Cs : Nat → am_S → Prop} {σe σ : am_S} {env : List Int} {me : sx_Me} (hZ : sx_Zok z9) (hr : sx_R z9 Cs σe env me σ) {kx km : Nat} (h : lw_pr me kx km = true) : σ.2.1 (kx / 65536) (kx % 65536) = σ.2.1 (km / 65536) (km % 65536) := by
  obtain ⟨e1, me1, f1, g1, g2, g3⟩ := sx_rdk_ok hZ hr h
  obtain ⟨e2, me2, f2, j1, j2, j3⟩ := sx_rdk_ok hZ g1 g3
  rcases (Bool.or_eq_true _ _).mp j3 with k1 | k1
  · obtain ⟨r, r1, r2⟩ := sx_lin_ok k1
    have r3 := sx_inx_ok j1.2.2.1 (r2 _ _ _ j2 (sx_ev_app e2 g2)) r1
    refine Int32.toInt_inj.mp ?_
    have r4 : -1 * (σ.2.1 (km / 65536) (km % 65536)).toInt + (σ.2.1 (kx / 65536) (kx % 65536)).toInt = 0 := Int.le_antisymm r3.2 r3.1
    omega
  · exact (sx_contra_ok j1.2.2.1 k1).elim
noncomputable def lw_F (d : Nat) (lv : sx_L) (st : List sx_V) (me : sx_Me) : Bool := Nat.ble 100 d && (st.isEmpty && (me.2.2.1.beq 0 && (sx_refs lv lw_refs && ((match sx_fnd lv 4 with
  | some (.inl e) => sx_ieq e.1 6 && (sx_sameA e.2 [(.ofNat 1, 1)] && sx_lin (-1) (sx_w 0) e fun d => sx_leq me.2.2.2.2 d)
  | _ => false) && (lw_pr me 65537 7733250 && (lw_pr me 5636099 8978432 && (lw_pr me 6684675 8978433 && true)))))))
noncomputable def lw_H : sx_Hk := fun pc => bif pc.beq 23 then some lw_F else none
noncomputable def lw_R (v : Option sx_V) (me : sx_Me) : Bool := (match v with
  | some (.inl (c, [])) => sx_ieq c 1
  | _ => false) || sx_contra me.2.2.2.2
noncomputable def lw_run : Bool := sx_run z9 ex_mt k9 100 (some 0) lw_R lw_H 90 tL_law [] 23 100 1 6 ((4, .inl (sx_w 1)) :: lw_refs) [] [] (14, 0, 0, lw_tr, lw_fa)
theorem lw_one : lw_run = true := by decide +kernel
abbrev lw_lw (i : Nat) : List (Nat × Value) := [(4, .int (Int32.ofNat i)), (0, .retAddr 0), (1, .ref 0), (2, .ref 118), (3, .ref 138)]
abbrev lw_env (L : Nat) (xs : Nat → Int32) (i : Nat) (a0 a1 a2 : Int) : List Int := [(L : Int), (i : Int), (xs (i + 0)).toInt, (xs (i + 1)).toInt, (xs (i + 2)).toInt, (xs (i + 3)).toInt, (xs (i + 4)).toInt, (xs (i + 5)).toInt, a0, a0, a1, a1, a2, a2]
def lw_post : Option (Option Value) → am_S → Prop := fun r _ => r = some (some (.int 1))
def lw_eq (σ : am_S) : Prop := σ.2.1 1 1 = σ.2.1 118 2 ∧ σ.2.1 86 3 = σ.2.1 137 0 ∧ σ.2.1 102 3 = σ.2.1 137 1 ∧ True
theorem lw_Pf {L : Nat} {xs : Nat → Int32} {i : Nat} {a0 a1 a2 : Int} (hL : L ≤ 3072) (hi : i ≤ 3078) (h0 : 0 ≤ a0 ∧ a0 ≤ 940) (h1 : 0 ≤ a1 ∧ a1 ≤ 1) (h2 : 0 ≤ a2 ∧ a2 ≤ 1) : sx_P (lw_env L xs i a0 a1 a2) lw_fa := by
  have lo : ∀ x : Int32, (sx_lo : Int) ≤ 1 * x.toInt + 0 ∧ 1 * x.toInt + 0 ≤ sx_up := fun x => by
    rw [Int.one_mul, Int.add_zero]
    exact ⟨Int32.le_toInt x, Int32.toInt_le x⟩
  intro q hq
  simp only [lw_fa, List.mem_cons, List.not_mem_nil, or_false] at hq
  rcases hq with rfl | rfl | rfl | rfl | rfl | rfl | rfl | rfl | rfl | rfl | rfl | rfl | rfl | rfl | rfl | rfl | rfl
  · exact ⟨1 * (L : Int) + 0, rfl, by show (0 : Int) ≤ 1 * L + 0; omega, by show (1 : Int) * L + 0 ≤ 3072; omega⟩
  · exact ⟨1 * (i : Int) + 0, rfl, by show (0 : Int) ≤ 1 * i + 0; omega, by show (1 : Int) * i + 0 ≤ 3078; omega⟩
  · exact ⟨1 * (xs (i + 0)).toInt + 0, rfl, (lo _).1, (lo _).2⟩
  · exact ⟨1 * (xs (i + 1)).toInt + 0, rfl, (lo _).1, (lo _).2⟩
  · exact ⟨1 * (xs (i + 2)).toInt + 0, rfl, (lo _).1, (lo _).2⟩
  · exact ⟨1 * (xs (i + 3)).toInt + 0, rfl, (lo _).1, (lo _).2⟩
  · exact ⟨1 * (xs (i + 4)).toInt + 0, rfl, (lo _).1, (lo _).2⟩
  · exact ⟨1 * (xs (i + 5)).toInt + 0, rfl, (lo _).1, (lo _).2⟩
  · exact ⟨1 * a0 + 0, rfl, by show (0 : Int) ≤ 1 * a0 + 0; omega, by show 1 * a0 + 0 ≤ 940; omega⟩
  · exact ⟨1 * a0 + 0, rfl, by show (0 : Int) ≤ 1 * a0 + 0; omega, by show 1 * a0 + 0 ≤ 940; omega⟩
  · exact ⟨1 * a1 + 0, rfl, by show (0 : Int) ≤ 1 * a1 + 0; omega, by show 1 * a1 + 0 ≤ 1; omega⟩
  · exact ⟨1 * a1 + 0, rfl, by show (0 : Int) ≤ 1 * a1 + 0; omega, by show 1 * a1 + 0 ≤ 1; omega⟩
  · exact ⟨1 * a2 + 0, rfl, by show (0 : Int) ≤ 1 * a2 + 0; omega, by show 1 * a2 + 0 ≤ 1; omega⟩
  · exact ⟨1 * a2 + 0, rfl, by show (0 : Int) ≤ 1 * a2 + 0; omega, by show 1 * a2 + 0 ≤ 1; omega⟩
  · exact ⟨1 * a0 + (-1 * a0 + 0), rfl, by show (0 : Int) ≤ 1 * a0 + (-1 * a0 + 0); omega, by show 1 * a0 + (-1 * a0 + 0) ≤ (0 : Int); omega⟩
  · exact ⟨1 * a1 + (-1 * a1 + 0), rfl, by show (0 : Int) ≤ 1 * a1 + (-1 * a1 + 0); omega, by show 1 * a1 + (-1 * a1 + 0) ≤ (0 : Int); omega⟩
  · exact ⟨1 * a2 + (-1 * a2 + 0), rfl, by show (0 : Int) ≤ 1 * a2 + (-1 * a2 + 0); omega, by show 1 * a2 + (-1 * a2 + 0) ≤ (0 : Int); omega⟩
theorem lw_turn {g : am_C} {L : Nat} {xs : Nat → Int32} {Cs : Nat → am_S → Prop} (G : sx_G0 g L xs z9 Cs ex_mt) (hct : ∀ (mi : Nat) (T : ex_T) (c : sx_Ct), ex_mt mi = some T → c ∈ k9 mi → sx_Holds g z9 Cs T c) {n i : Nat} {σ : am_S} (hi : i ≤ 3078) (hM : sx_M z9 Cs σ 0 0 σ) (hlen : lw_eq σ) (next : ∀ σ' : am_S, i + 6 ≤ L → sx_M z9 Cs σ' 0 0 σ' → lw_eq σ' → am_K g 100 mL_law n (6 * n) 23 (lw_lw (i + 6)) [] σ' lw_post) : am_K g 100 mL_law (1 + n) (6 + 6 * n) 23 (lw_lw i) [] σ lw_post := by
  let env : List Int := lw_env L xs i (σ.2.1 1 1).toInt (σ.2.1 86 3).toInt (σ.2.1 102 3).toInt
  let x : sx_X := (g, (L, xs), z9, Cs, ex_mt, tL_law, σ, (n, 6 * n), lw_post, some 0, env)
  have B : sx_Bx x := ⟨G.1, G.2.1, G.2.2.1, G.2.2.2.1, G.2.2.2.2.1, G.2.2.2.2.2.1⟩
  have hlenw : sx_Len L xs (some 0) env env := by
    refine ⟨fun w hw => ?_, [], by rw [List.append_nil]⟩
    cases hw
    refine ⟨rfl, i, rfl, fun c hc _ => ?_⟩
    match c, hc with
    | 0, _ => rfl
    | 1, _ => rfl
    | 2, _ => rfl
    | 3, _ => rfl
    | 4, _ => rfl
    | 5, _ => rfl
  have hR : sx_Rk x lw_R := by
    intro v me env' v' σ' h _ hr hv
    rcases (Bool.or_eq_true _ _).mp h with h1 | h1
    · match v, v', hv, h1 with
      | some (.inl (c, [])), some b, hv, h1 =>
        obtain ⟨m, m1, m2⟩ := hv
        have hc := sx_ieq_iff.mp h1
        have m3 : m.toInt = c := Option.some.inj (m2.symm.trans sx_const)
        have : m = 1 := Int32.toInt_inj.mp (by rw [m3, hc]; rfl)
        show some (some b) = some (some (.int 1))
        rw [m1, this]
    · exact (sx_contra_ok hr.2.2.1 h1).elim
  have hH : sx_Hks x lw_H := by
    intro pc F cd lv st me env' lw sw σ' d mc ms hF h A
    have hpc : pc = 23 ∧ F = lw_F := by
      unfold lw_H at hF
      cases hb : pc.beq 23 with
      | true => rw [hb] at hF; exact ⟨Nat.eq_of_beq_eq_true hb, (Option.some.inj hF).symm⟩
      | false => rw [hb] at hF; cases hF
    obtain ⟨rfl, rfl⟩ := hpc
    unfold lw_F at h
    simp only [Bool.and_eq_true] at h
    obtain ⟨b1, b2, b3, b4, b5, p0, p1, p2, -⟩ := h
    have hst : st = [] := by simpa using b2
    subst hst
    rw [A.s.nil]
    have hr : sx_R z9 Cs σ env' me σ' := A.2.2.2.1
    obtain ⟨l1, ext, l3⟩ := A.2.2.1
    obtain ⟨l1a, i', l1b, _⟩ := l1 0 rfl
    have l1a' : env'[0]? = some (L : Int) := l1a
    have l1c : env'[1]? = some (i : Int) := by rw [l3]; rfl
    have refs := sx_refs_ok A.2.2.2.2.1 b4
    have hM' : sx_M z9 Cs σ' 0 0 σ' := by
      have := hr.2.2.2
      rw [Nat.eq_of_beq_eq_true b3] at this
      exact sx_M_self this
    have hl4 : (4, Value.int (Int32.ofNat (i + 6))) ∈ lw ∧ i + 6 ≤ L := by
      cases hf : sx_fnd lv 4 with
      | none => rw [hf] at b5; cases b5
      | some v =>
        rw [hf] at b5
        match v, hf, b5 with
        | .inl e, hf, b5 =>
          simp only [Bool.and_eq_true] at b5
          obtain ⟨c1, c2, c3⟩ := b5
          obtain ⟨z, z1, m, z2, z3⟩ := sx_LV_mem A.2.2.2.2.1 hf
          have he : e = (6, [(1, 1)]) := Prod.ext (sx_ieq_iff.mp c1) (sx_sameA_eq c2)
          have hev : sx_ev env' (6, [(1, 1)]) = some (6 + (1 * (i : Int) + 0)) := sx_ev_of (e := (6, [(1, 1)])) (sx_ea_mk (l := []) l1c rfl)
          rw [he, hev] at z3
          have hm : m.toInt = 6 + (1 * (i : Int) + 0) := (Option.some.inj z3).symm
          obtain ⟨r, r1, r2⟩ := sx_lin_ok c3
          have hw0 : sx_ev env' (sx_w 0) = some (L : Int) := sx_ev_wat l1a'
          have r3 := sx_leq_ok hr.2.2.1 (r2 env' _ _ hw0 (by rw [he]; exact hev)) r1
          have hL := G.2.2.1
          have hm2 : m = Int32.ofNat (i + 6) := Int32.toInt_inj.mp (by
            rw [hm, Int32.toInt_ofNat_of_lt (by omega)]
            omega)
          refine ⟨?_, by omega⟩
          rw [← hm2, ← z2]
          exact z1
        | .inr _, hf, b5 => cases b5
    have hlen' : lw_eq σ' := ⟨lw_pr_ok G.2.2.2.2.1 hr p0, lw_pr_ok G.2.2.2.2.1 hr p1, lw_pr_ok G.2.2.2.2.1 hr p2, trivial⟩
    have nx := next σ' hl4.2 hM' hlen'
    show am_K g d tL_law.1 (mc + n) (ms + 6 * n) 23 lw [] σ' lw_post
    refine kr_less (ex_ble b1) (Nat.le_add_left _ _) (Nat.le_add_left _ _) (kr_sub ?_ nx)
    intro q hq
    simp only [lw_lw, List.mem_cons, List.not_mem_nil, or_false] at hq
    rcases hq with rfl | rfl | rfl | rfl | rfl
    · exact hl4.1
    · obtain ⟨v, v1, v2⟩ := refs (0, .inr (some (true, 0))) (by simp [lw_refs])
      have v3 : v = .retAddr 0 := v2
      rw [← v3]; exact v1
    · obtain ⟨v, v1, v2⟩ := refs (1, .inr (some (false, 0))) (by simp [lw_refs])
      have v3 : v = .ref 0 := v2
      rw [← v3]; exact v1
    · obtain ⟨v, v1, v2⟩ := refs (2, .inr (some (false, 118))) (by simp [lw_refs])
      have v3 : v = .ref 118 := v2
      rw [← v3]; exact v1
    · obtain ⟨v, v1, v2⟩ := refs (3, .inr (some (false, 138))) (by simp [lw_refs])
      have v3 : v = .ref 138 := v2
      rw [← v3]; exact v1
  have K := tk_run (x := x) B G.2.2.2.2.2.2.2 (rk := 100) (fun mi T c h1 h2 _ => hct mi T c h1 h2) hR hH 90
  refine K tL_law [] 23 100 1 6 ((4, .inl (sx_w 1)) :: lw_refs) [] [] (14, 0, 0, lw_tr, lw_fa) env (lw_lw i) [] [] σ lw_one ⟨⟨G.2.2.2.1 0 tL_law rfl, fun e he => (by cases he)⟩, fun _ => rfl, hlenw, ⟨rfl, ?_, lw_Pf G.2.2.1 hi (hM.2.2.1 1 1 0 940 _ rfl) (hM.2.2.1 86 3 0 1 _ rfl) (hM.2.2.1 102 3 0 1 _ rfl), hM⟩, ?_, trivial, trivial⟩
  · intro q hq
    simp only [lw_tr, List.mem_cons, List.not_mem_nil, or_false] at hq
    obtain ⟨q0, q1, q2, -⟩ := hlen
    rcases hq with rfl | rfl | rfl | rfl | rfl | rfl
    · exact sx_ev_wat (env := env) (w := 8) rfl
    · refine (sx_ev_wat (env := env) (w := 9) rfl).trans ?_
      show some (σ.2.1 1 1).toInt = some (σ.2.1 118 2).toInt
      rw [q0]
    · exact sx_ev_wat (env := env) (w := 10) rfl
    · refine (sx_ev_wat (env := env) (w := 11) rfl).trans ?_
      show some (σ.2.1 86 3).toInt = some (σ.2.1 137 0).toInt
      rw [q1]
    · exact sx_ev_wat (env := env) (w := 12) rfl
    · refine (sx_ev_wat (env := env) (w := 13) rfl).trans ?_
      show some (σ.2.1 102 3).toInt = some (σ.2.1 137 1).toInt
      rw [q2]
  · refine ⟨rfl, ⟨Int32.ofNat i, rfl, ?_⟩, ⟨rfl, rfl, ⟨rfl, rfl, ⟨rfl, rfl, ⟨rfl, rfl, trivial⟩⟩⟩⟩⟩
    rw [Int32.toInt_ofNat_of_lt (by omega)]
    exact sx_ev_wat (env := env) (w := 1) rfl
/-- turn upon turn -/
theorem lw_turns {g : am_C} {L : Nat} {xs : Nat → Int32} {Cs : Nat → am_S → Prop} (G : sx_G0 g L xs z9 Cs ex_mt) (hct : ∀ (mi : Nat) (T : ex_T) (c : sx_Ct), ex_mt mi = some T → c ∈ k9 mi → sx_Holds g z9 Cs T c) : ∀ (n i : Nat) (σ : am_S), L ≤ i + 6 * n + 5 → i ≤ 3078 → sx_M z9 Cs σ 0 0 σ → lw_eq σ → am_K g 100 mL_law (1 + n) (6 + 6 * n) 23 (lw_lw i) [] σ lw_post := by
  intro n
  induction n with
  | zero =>
    intro i σ h1 h2 h3 h4
    exact lw_turn G hct h2 h3 h4 (fun σ' hb _ _ => by omega)
  | succ n ih =>
    intro i σ h1 h2 h3 h4
    refine lw_turn G hct h2 h3 h4 (fun σ' hb m1 m2 => ?_)
    have hL := G.2.2.1
    have := ih (i + 6) σ' (by omega) (by omega) m1 m2
    exact kr_less (Nat.le_refl _) (by omega) (by omega) this
