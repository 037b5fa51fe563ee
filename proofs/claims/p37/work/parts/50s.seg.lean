/-! segments: runs from a place to places, with what lies on the stack there -/
abbrev sg_S : Type := Option (Bool × Nat)
/-- a place: pc, units, other locals, words and facts, the stack (none: an int, a word of its own) -/
abbrev sg_Cu : Type := Nat × Nat × sx_L × sx_As × List sg_S
def sg_St : List sg_S → List Value → List Int → Prop
  | [], [], [] => True
  | none :: s, x :: sw, v :: ws => (∃ n : Int32, x = .int n ∧ v = n.toInt) ∧ sg_St s sw ws
  | some r :: s, x :: sw, ws => sx_val [] (.inr (some r)) x ∧ sg_St s sw ws
  | _, _, _ => False
noncomputable def sg_stk (spec : List sg_S) (st : List sx_V) (K : List sx_e → Bool) : Bool := List.rec (motive := fun _ => List sx_V → (List sx_e → Bool) → Bool) (fun st K => match st with
  | [] => K []
  | _ => false) (fun s _ ih st K => match s with
  | none => (match st with
    | .inl e :: st => ih st (fun θ => K (e :: θ))
    | _ => false)
  | some r => (match st with
    | .inr (some q) :: st => (q.1 == r.1) && (q.2.beq r.2 && ih st K)
    | _ => false)) spec st K
theorem sg_stk_ok {env : List Int} : ∀ {spec : List sg_S} {st : List sx_V} {sw : List Value} {K : List sx_e → Bool}, sx_SV env st sw → sg_stk spec st K = true → ∃ θ ws, sx_Th env θ ws ∧ sg_St spec sw ws ∧ K θ = true := by
  intro spec
  induction spec with
  | nil =>
    intro st sw K hs h
    match st, hs, h with
    | [], hs, h =>
      rw [hs.nil]
      exact ⟨[], [], trivial, trivial, h⟩
    | _ :: _, hs, h => exact Bool.noConfusion (show false = true from h)
  | cons s t ih =>
    intro st sw K hs h
    match s, st, hs, h with
    | none, .inl e :: st, hs, h =>
      obtain ⟨x, sw', rfl, h1, h2⟩ := hs.cons
      obtain ⟨θ, ws, a1, a2, a3⟩ := ih (K := fun θ => K (e :: θ)) h2 h
      obtain ⟨n, n1, n2⟩ := h1
      exact ⟨e :: θ, n.toInt :: ws, ⟨n2, a1⟩, ⟨⟨n, n1, rfl⟩, a2⟩, a3⟩
    | some r, .inr (some q) :: st, hs, h =>
      have h' : ((q.1 == r.1) && (q.2.beq r.2 && sg_stk t st K)) = true := h
      rw [Bool.and_eq_true, Bool.and_eq_true] at h'
      obtain ⟨x, sw', rfl, h1, h2⟩ := hs.cons
      obtain ⟨θ, ws, a1, a2, a3⟩ := ih h2 h'.2.2
      have e : q = r := Prod.ext (eq_of_beq h'.1) (Nat.eq_of_beq_eq_true h'.2.1)
      subst e
      refine ⟨θ, ws, a1, ⟨?_, a2⟩, a3⟩
      match q, h1 with
      | (false, o), h1 => exact h1
      | (true, o), h1 => exact h1
    | none, [], _, h => exact Bool.noConfusion (show false = true from h)
    | none, .inr _ :: _, _, h => exact Bool.noConfusion (show false = true from h)
    | some _, [], _, h => exact Bool.noConfusion (show false = true from h)
    | some _, .inl _ :: _, _, h => exact Bool.noConfusion (show false = true from h)
    | some _, .inr none :: _, _, h => exact Bool.noConfusion (show false = true from h)
noncomputable def sg_mks (spec : List sg_S) (w : Nat) (K : Nat → List sx_V → Bool) : Bool := List.rec (motive := fun _ => Nat → (Nat → List sx_V → Bool) → Bool) (fun w K => K w []) (fun s _ ih w K => match s with
  | none => ex_fN (w + 1) fun w1 => ih w1 (fun n st => K n (.inl (sx_w w) :: st))
  | some r => ih w (fun n st => K n (.inr (some r) :: st))) spec w K
theorem sg_mks_ok {env : List Int} : ∀ {spec : List sg_S} {w : Nat} {sw : List Value} {ws : List Int} {K : Nat → List sx_V → Bool}, sg_St spec sw ws → (∀ j v, ws[j]? = some v → env[w + j]? = some v) → sg_mks spec w K = true → ∃ st, sx_SV env st sw ∧ K (w + ws.length) st = true := by
  intro spec
  induction spec with
  | nil =>
    intro w sw ws K hs he h
    match sw, ws, hs with
    | [], [], _ => exact ⟨[], trivial, h⟩
  | cons s t ih =>
    intro w sw ws K hs he h
    match s, sw, ws, hs, h with
    | none, x :: sw, v :: ws, hs, h =>
      have h' : (ex_fN (w + 1) fun w1 => sg_mks t w1 (fun n st => K n (.inl (sx_w w) :: st))) = true := h
      rw [ex_fN_eq] at h'
      obtain ⟨⟨n, n1, n2⟩, hs2⟩ := hs
      obtain ⟨st, a1, a2⟩ := ih (w := w + 1) hs2 (fun j u hu => by
        have := he (j + 1) u hu
        rw [show w + 1 + j = w + (j + 1) by omega]
        exact this) h'
      refine ⟨.inl (sx_w w) :: st, ⟨⟨n, n1, ?_⟩, a1⟩, ?_⟩
      · rw [← n2]
        exact sx_ev_wat (he 0 v rfl)
      · rw [show w + (v :: ws).length = w + 1 + ws.length by simp; omega]
        exact a2
    | some r, x :: sw, ws, hs, h =>
      obtain ⟨st, a1, a2⟩ := ih (w := w) (K := fun n st => K n (.inr (some r) :: st)) hs.2 he h
      refine ⟨.inr (some r) :: st, ⟨?_, a1⟩, a2⟩
      match r, hs.1 with
      | (false, o), h1 => exact h1
      | (true, o), h1 => exact h1
    | none, [], _, hs, _ => exact hs.elim
    | none, _ :: _, [], hs, _ => exact hs.elim
    | some _, [], _, hs, _ => exact hs.elim
noncomputable def sg_cutk (Z : sx_Z) (n0 d0 : Nat) (c : sg_Cu) (d : Nat) (lv : sx_L) (st : List sx_V) (me : sx_Me) : Bool := d0.ble d && ((Nat.lor me.2.1 c.2.1).beq c.2.1 && (me.2.2.1.beq 0 && (sx_refs lv c.2.2.1 && sx_bind Z lv c.2.2.2.1.1 me fun me θ => sg_stk c.2.2.2.2 st fun θ2 => sx_idk n0 [] fun ids => sx_hold (ids ++ (θ ++ θ2)) me.2.2.2.2 c.2.2.2.1.2)))
noncomputable def sg_cuts (Z : sx_Z) (n0 d0 : Nat) (cus : List sg_Cu) (pc d : Nat) (lv : sx_L) (st : List sx_V) (me : sx_Me) : Bool := List.rec (motive := fun _ => Bool) false (fun c _ ih => (bif c.1.beq pc then sg_cutk Z n0 d0 c d lv st me else false) || ih) cus
noncomputable def sg_cuth (Z : sx_Z) (n0 d0 : Nat) (cus : List sg_Cu) : sx_Hk := fun pc => List.rec (motive := fun _ => Option (Nat → sx_L → List sx_V → sx_Me → Bool)) none (fun c _ ih => bif c.1.beq pc then some (sg_cuts Z n0 d0 cus pc) else ih) cus
/-- a state at a place -/
def sg_Head (Z : sx_Z) (Cs : Nat → am_S → Prop) (σe : am_S) (env0 : List Int) (u : sg_Cu) (lw : List (Nat × Value)) (sw : List Value) (vs ws : List Int) (σ : am_S) : Prop := sx_Srcs lw σ u.2.2.2.1.1 vs ∧ sx_Refs lw u.2.2.1 ∧ sg_St u.2.2.2.2 sw ws ∧ sx_P (env0 ++ (vs ++ ws)) u.2.2.2.1.2 ∧ sx_M Z Cs σe u.2.1 0 σ
noncomputable def sg_chk (Z : sx_Z) (mt : Nat → Option ex_T) (ct : Nat → List sx_Ct) (rk : Nat) (T : ex_T) (n d : Nat) (S : sg_Cu) (ps : List sx_Po) (cus : List sg_Cu) : Bool := sx_mkl S.2.2.2.1.1 0 S.2.2.1 fun lv => sx_mkt S.2.2.2.1.1 0 [] fun tr => ex_fN S.2.2.2.1.1.length fun m => sg_mks S.2.2.2.2 m fun n0 st => sx_run Z mt ct rk none (sx_retk Z n0 ps) (sg_cuth Z n0 d cus) n T [] S.1 d 0 0 lv st [] (n0, 0, 0, tr, S.2.2.2.1.2)
section SG
variable {g : am_C} {L : Nat} {xs : Nat → Int32} {Z : sx_Z} {Cs : Nat → am_S → Prop} {mt : Nat → Option ex_T} {ct : Nat → List sx_Ct} {T : ex_T}
theorem sg_cuth_ok (G : sx_G0 g L xs Z Cs mt) {σe : am_S} {env0 : List Int} {cus : List sg_Cu} {post : Option (Option Value) → am_S → Prop} {d0 : Nat} {x : sx_X} (hx : xg x = g ∧ xZ x = Z ∧ xC x = Cs ∧ xe x = σe ∧ xp x = post ∧ xT x = T) (hpre : ∃ more, xr x = env0 ++ more)
    (ih : ∀ u ∈ cus, ∀ (lw : List (Nat × Value)) (sw : List Value) (vs ws : List Int) (σ : am_S), sg_Head Z Cs σe env0 u lw sw vs ws σ → am_K g d0 T.1 0 0 u.1 lw sw σ post) : sx_Hks x (sg_cuth Z env0.length d0 cus) := by
  obtain ⟨x0, x1, x2, x3, x4, x5⟩ := hx
  intro pc F cd lv st me env lw sw σ d mc ms hF h A
  have hr : sx_R Z Cs σe env me σ := by rw [← x1, ← x2, ← x3]; exact A.r
  obtain ⟨more, hm⟩ := hpre
  obtain ⟨ext, he⟩ := A.2.2.1.2
  have hpref : env = env0 ++ (more ++ ext) := by rw [he, hm, List.append_assoc]
  have fnd : ∀ l : List sg_Cu, List.rec (motive := fun _ => Option (Nat → sx_L → List sx_V → sx_Me → Bool)) none (fun c _ ih => bif c.1.beq pc then some (sg_cuts Z env0.length d0 cus pc) else ih) l = some F → F = sg_cuts Z env0.length d0 cus pc := by
    intro l
    induction l with
    | nil => intro h; cases h
    | cons q t ih =>
      intro h
      simp only at h
      cases hb : q.1.beq pc with
      | true =>
        rw [hb] at h
        exact (Option.some.inj h).symm
      | false =>
        rw [hb] at h
        exact ih h
  have hF' := fnd cus hF
  subst hF'
  have any : ∀ l : List sg_Cu, (∀ u ∈ l, u ∈ cus) → List.rec (motive := fun _ => Bool) false (fun c _ ih => (bif c.1.beq pc then sg_cutk Z env0.length d0 c d lv st me else false) || ih) l = true → ∃ u ∈ cus, u.1 = pc ∧ sg_cutk Z env0.length d0 u d lv st me = true := by
    intro l
    induction l with
    | nil => intro _ h; cases h
    | cons q t ih =>
      intro hq h
      rcases (Bool.or_eq_true _ _).mp h with h1 | h1
      · cases hb : q.1.beq pc with
        | true => rw [hb] at h1; exact ⟨q, hq q List.mem_cons_self, Nat.eq_of_beq_eq_true hb, h1⟩
        | false => rw [hb] at h1; cases h1
      · exact ih (fun z hz => hq z (List.mem_cons_of_mem _ hz)) h1
  obtain ⟨u, hu, hpc, h⟩ := any cus (fun u hu => hu) h
  unfold sg_cutk at h
  simp only [Bool.and_eq_true] at h
  obtain ⟨b1, b3, b4, b5, b6⟩ := h
  obtain ⟨ext2, me2, θ, vs, a1, a2, a3, a4⟩ := sx_bind_ok G.2.2.2.2.1 hr A.2.2.2.2.1 b6
  obtain ⟨θ2, ws, w1, w2, w3⟩ := sg_stk_ok (A.s.app ext2) a4
  have hlen : env0.length ≤ (env ++ ext2).length := by rw [hpref]; simp
  obtain ⟨ids, c1, c2⟩ := sx_idk_ok (acc := []) (vs := []) hlen trivial w3
  have htake : (env ++ ext2).take env0.length ++ [] = env0 := by rw [hpref]; simp
  rw [htake] at c1
  have ht := c1.append (a3.append w1)
  have hM : sx_M Z Cs σe u.2.1 0 σ := by
    refine sx_M_mask b3 ?_
    have := hr.2.2.2
    rw [Nat.eq_of_beq_eq_true b4] at this
    exact this
  have key := ih u hu lw sw vs ws σ ⟨a2, sx_refs_ok A.2.2.2.2.1 b5, w2, sx_hold_ok a1.2.2.1 ht c2, hM⟩
  show am_K (xg x) d (xT x).1 (mc + xX x) (ms + xY x) pc lw sw σ (xp x)
  rw [x0, x4, x5, ← hpc]
  exact kr_less (ex_ble b1) (Nat.zero_le _) (Nat.zero_le _) key
theorem sg_seg (G : sx_G0 g L xs Z Cs mt) {mi rk n d : Nat} (hT : mt mi = some T) (hct : ∀ (mi : Nat) (T2 : ex_T) (c' : sx_Ct), mt mi = some T2 → c' ∈ ct mi → c'.1 < rk → sx_Holds g Z Cs T2 c') {S : sg_Cu} {ps : List sx_Po} {cus : List sg_Cu} (h : sg_chk Z mt ct rk T n d S ps cus = true) {lw : List (Nat × Value)} {sw : List Value} {vs ws : List Int} {σ : am_S} (hs : sx_Srcs lw σ S.2.2.2.1.1 vs) (hrf : sx_Refs lw S.2.2.1) (hst : sg_St S.2.2.2.2 sw ws) (hp : sx_P (vs ++ ws) S.2.2.2.1.2) (hM : sx_M Z Cs σ 0 0 σ) {post : Option (Option Value) → am_S → Prop} (hret : ∀ r σ', sx_Post Z Cs (vs ++ ws) σ ps r σ' → post r σ') (hcut : ∀ u ∈ cus, ∀ (lw' : List (Nat × Value)) (sw' : List Value) (vs' ws' : List Int) (σ' : am_S), sg_Head Z Cs σ (vs ++ ws) u lw' sw' vs' ws' σ' → am_K g d T.1 0 0 u.1 lw' sw' σ' post) : am_K g d T.1 0 0 S.1 lw sw σ post := by
  let x : sx_X := (g, (L, xs), Z, Cs, mt, T, σ, (0, 0), post, none, vs ++ ws)
  let x0 : sx_X := (g, (L, xs), Z, Cs, mt, T, σ, (0, 0), sx_Post Z Cs (vs ++ ws) σ ps, none, vs ++ ws)
  have B : sx_Bx x := ⟨G.1, G.2.1, G.2.2.1, G.2.2.2.1, G.2.2.2.2.1, G.2.2.2.2.2.1⟩
  unfold sg_chk at h
  obtain ⟨lwr, r1, r2⟩ := sx_Refs_lv (vs ++ ws) hrf
  obtain ⟨lv, lw', l1, l2, l3⟩ := sx_mkl_ok (w := 0) (env := vs ++ ws) hs (fun j v hj => by rw [Nat.zero_add]; exact sx_get_app ws hj) r1 r2 h
  obtain ⟨tr, t1, t2⟩ := sx_mkt_ok (w := 0) (env := vs ++ ws) (acc := []) hs (fun j v hj => by rw [Nat.zero_add]; exact sx_get_app ws hj) (fun q hq => by cases hq) l3
  rw [ex_fN_eq, sx_Srcs_len hs] at t2
  obtain ⟨st, s1, s2⟩ := sg_mks_ok (env := vs ++ ws) hst (fun j v hj => sx_at_app hj) t2
  rw [← List.length_append] at s2
  have hR0 : sx_Rk x0 (sx_retk Z (vs ++ ws).length ps) := sx_retk_ok G ⟨rfl, rfl, rfl, rfl⟩ ⟨[], by rw [List.append_nil]⟩
  have hR : sx_Rk x (sx_retk Z (vs ++ ws).length ps) := fun v me env v' σ' h hl hr hv => hret _ _ (hR0 v me env v' σ' h hl hr hv)
  have hH : sx_Hks x (sg_cuth Z (vs ++ ws).length d cus) := sg_cuth_ok (T := T) G (post := post) ⟨rfl, rfl, rfl, rfl, rfl, rfl⟩ ⟨[], by rw [List.append_nil]⟩ hcut
  have K := tk_run (x := x) B G.2.2.2.2.2.2.2 hct hR hH n
  have key := K T [] S.1 d 0 0 lv st [] _ (vs ++ ws) lw' sw [] σ s2 ⟨⟨G.2.2.2.1 mi T hT, fun e he => (by cases he)⟩, fun _ => rfl, ⟨fun w hw => (by cases hw), ⟨[], by rw [List.append_nil]⟩⟩, ⟨rfl, t1, hp, hM⟩, l1, s1, trivial⟩
  exact kr_sub l2 key
end SG
