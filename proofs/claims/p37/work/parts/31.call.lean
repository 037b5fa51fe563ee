/-! contracts: what they say, and calls by them -/
def sx_Src (lw : List (Nat × Value)) (σ : am_S) (s : Nat ⊕ Nat) (v : Int) : Prop := match s with
  | .inl i => ∃ n : Int32, (i, Value.int n) ∈ lw ∧ v = n.toInt
  | .inr key => v = (σ.2.1 (key / 65536) (key % 65536)).toInt
def sx_Srcs (lw : List (Nat × Value)) (σ : am_S) : List (Nat ⊕ Nat) → List Int → Prop
  | [], [] => True
  | s :: l, v :: m => sx_Src lw σ s v ∧ sx_Srcs lw σ l m
  | _, _ => False
def sx_Keys (σ : am_S) : List Nat → List Int → Prop
  | [], [] => True
  | key :: l, v :: m => v = (σ.2.1 (key / 65536) (key % 65536)).toInt ∧ sx_Keys σ l m
  | _, _ => False
def sx_Refs (lw : List (Nat × Value)) (rs : sx_L) : Prop := ∀ q ∈ rs, ∃ v, (q.1, v) ∈ lw ∧ sx_val [] q.2 v
/-- the ways to end, out of the entry's words and memory -/
def sx_Post (Z : sx_Z) (Cs : Nat → am_S → Prop) (env : List Int) (σ : am_S) (ps : List sx_Po) (r : Option (Option Value)) (σ' : am_S) : Prop := match r with
  | some v => ∃ p ∈ ps, sx_M Z Cs σ p.1 0 σ' ∧ ∃ ks : List Int, sx_Keys σ' p.2.2.1 ks ∧ (match p.2.1, v with
    | true, some w => ∃ n : Int32, w = .int n ∧ sx_P (env ++ n.toInt :: ks) p.2.2.2
    | false, none => sx_P (env ++ ks) p.2.2.2
    | _, _ => False)
  | none => False
def sx_Holds (g : am_C) (Z : sx_Z) (Cs : Nat → am_S → Prop) (T : ex_T) (c : sx_Ct) : Prop := ∀ (lw : List (Nat × Value)) (env : List Int) (σ : am_S), sx_Srcs lw σ c.2.2.2.2.2.1.1 env → sx_Refs lw c.2.2.2.2.1 → sx_P env c.2.2.2.2.2.1.2 → sx_M Z Cs σ 0 0 σ → am_K g c.2.1 T.1 c.2.2.1 c.2.2.2.1 0 lw [] σ (sx_Post Z Cs env σ c.2.2.2.2.2.2)
/-- forms and what they are -/
def sx_Th (env : List Int) : List sx_e → List Int → Prop
  | [], [] => True
  | e :: θ, v :: vs => sx_ev env e = some v ∧ sx_Th env θ vs
  | _, _ => False
theorem sx_Th.app {env : List Int} (ext : List Int) : ∀ {θ : List sx_e} {vs : List Int}, sx_Th env θ vs → sx_Th (env ++ ext) θ vs
  | [], [], _ => trivial
  | _ :: _, _ :: _, ⟨h1, h2⟩ => ⟨sx_ev_app ext h1, h2.app ext⟩
  | [], _ :: _, h => h.elim
  | _ :: _, [], h => h.elim
theorem sx_Th.append {env : List Int} {b : List sx_e} {y : List Int} : ∀ {a : List sx_e} {z : List Int}, sx_Th env a z → sx_Th env b y → sx_Th env (a ++ b) (z ++ y)
  | [], [], _, h => h
  | _ :: _, _ :: _, ⟨h1, h2⟩, h => ⟨h1, h2.append h⟩
  | [], _ :: _, h, _ => h.elim
  | _ :: _, [], h, _ => h.elim
theorem sx_Th.at {env : List Int} : ∀ {θ : List sx_e} {vs : List Int} {w : Nat} {e : sx_e}, sx_Th env θ vs → ex_nth θ w = some e → ∃ v, vs[w]? = some v ∧ sx_ev env e = some v := by
  intro θ
  induction θ with
  | nil => intro vs w e _ h; cases h
  | cons a θ ih =>
    intro vs w e ht h
    cases vs with
    | nil => exact ht.elim
    | cons v vs =>
      cases w with
      | zero => cases h; exact ⟨v, rfl, ht.1⟩
      | succ w =>
        obtain ⟨u, u1, u2⟩ := ih (vs := vs) ht.2 h
        exact ⟨u, u1, u2⟩
theorem sx_sub_ok {env : List Int} {θ : List sx_e} {vs : List Int} (ht : sx_Th env θ vs) {l : sx_A} {K : sx_e → Bool} (h : sx_sub θ l K = true) : ∃ r y, K r = true ∧ sx_ea vs l = some y ∧ sx_ev env r = some y := by
  have main : ∀ (l : sx_A) (acc : sx_e) (a : Int), sx_ev env acc = some a → List.rec (motive := fun _ => sx_e → Bool) K (fun q _ ih acc => match ex_nth θ q.2 with
    | some e => sx_lin q.1 e acc ih
    | none => false) l acc = true → ∃ r y, K r = true ∧ sx_ea vs l = some y ∧ sx_ev env r = some (a + y) := by
    intro l
    induction l with
    | nil => intro acc a ha h; exact ⟨acc, 0, h, rfl, by rw [ha, Int.add_zero]⟩
    | cons q t ih =>
      intro acc a ha h
      simp only at h
      split at h
      · rename_i e he
        obtain ⟨v, v1, v2⟩ := ht.at he
        obtain ⟨r1, a1, a2⟩ := sx_lin_ok h
        obtain ⟨r, y, b1, b2, b3⟩ := ih r1 _ (a2 env _ _ v2 ha) a1
        refine ⟨r, q.1 * v + y, b1, sx_ea_mk v1 b2, ?_⟩
        rw [b3]
        congr 1
        omega
      · cases h
  obtain ⟨r, y, a1, a2, a3⟩ := main l (.ofNat 0, []) 0 sx_const h
  exact ⟨r, y, a1, a2, by rw [a3, Int.zero_add]⟩
theorem sx_hold_ok {env : List Int} {fa : sx_Fa} (hp : sx_P env fa) {θ : List sx_e} {vs : List Int} (ht : sx_Th env θ vs) {fs : sx_Fa} (h : sx_hold θ fa fs = true) : sx_P vs fs := by
  induction fs with
  | nil => intro q hq; cases hq
  | cons q t ih =>
    have h' : ((sx_sub θ q.1 fun e => sx_inx fa e q.2.1 q.2.2) && sx_hold θ fa t) = true := h
    rw [Bool.and_eq_true] at h'
    intro z hz
    rcases List.mem_cons.mp hz with rfl | hz
    · obtain ⟨r, y, a1, a2, a3⟩ := sx_sub_ok ht h'.1
      exact ⟨y, a2, sx_inx_ok hp a3 a1⟩
    · exact ih h'.2 z hz
theorem sx_gain_ok {env : List Int} {θ : List sx_e} {vs : List Int} (ht : sx_Th env θ vs) : ∀ {fs : sx_Fa} {fa : sx_Fa} {K : sx_Fa → Bool}, sx_P env fa → sx_P vs fs → sx_gain θ fs fa K = true → ∃ fa', sx_P env fa' ∧ K fa' = true := by
  intro fs
  induction fs with
  | nil => intro fa K hp _ h; exact ⟨fa, hp, h⟩
  | cons q t ih =>
    intro fa K hp hv h
    have h' : (sx_sub θ q.1 fun e => sx_fact fa e.2 (q.2.1 - e.1) (q.2.2 - e.1) fun fa => sx_gain θ t fa K) = true := h
    obtain ⟨r, y, a1, a2, a3⟩ := sx_sub_ok ht h'
    obtain ⟨y', b1, b2, b3⟩ := hv q List.mem_cons_self
    cases Option.some.inj (a2.symm.trans b1)
    obtain ⟨fa', c1, c2⟩ := sx_fact_ok hp (sx_ev_to a3) (by omega) (by omega) a1
    exact ih c1 hv.tail c2
section ZD
variable {Z : sx_Z} {Cs : Nat → am_S → Prop} {σe σ : am_S} {env : List Int} {me : sx_Me}
theorem sx_rdk_ok (hZ : sx_Zok Z) (hr : sx_R Z Cs σe env me σ) {key : Nat} {K : sx_Me → sx_e → Bool} (h : sx_rdk Z me key K = true) : sx_ex Z Cs σe env σ (σ.2.1 (key / 65536) (key % 65536)).toInt K := by
  unfold sx_rdk at h
  rw [ex_fN_eq, ex_fN_eq] at h
  exact sx_rd_ok hZ hr h
theorem sx_LV_mem {lv : sx_L} {lw : List (Nat × Value)} (hl : sx_LV env lv lw) {i : Nat} {v : sx_V} (h : sx_fnd lv i = some v) : ∃ z, (i, z) ∈ lw ∧ sx_val env v z := by
  obtain ⟨j, z, h1, h2⟩ := sx_fnd_ok hl h
  exact ⟨z, List.mem_of_getElem? h1, h2⟩
theorem sx_bind_ok (hZ : sx_Zok Z) {lv : sx_L} {lw : List (Nat × Value)} : ∀ {src : List (Nat ⊕ Nat)} {env : List Int} {me : sx_Me} {K : sx_Me → List sx_e → Bool}, sx_R Z Cs σe env me σ → sx_LV env lv lw → sx_bind Z lv src me K = true → ∃ (ext : List Int) (me' : sx_Me) (θ : List sx_e) (vs : List Int), sx_R Z Cs σe (env ++ ext) me' σ ∧ sx_Srcs lw σ src vs ∧ sx_Th (env ++ ext) θ vs ∧ K me' θ = true := by
  intro src
  induction src with
  | nil => intro env me K hr hl h; exact ⟨[], me, [], [], by rw [List.append_nil]; exact hr, trivial, trivial, h⟩
  | cons s t ih =>
    intro env me K hr hl h
    match s, h with
    | .inl i, h =>
      have h' : (match sx_fnd lv i with
        | some (.inl e) => sx_bind Z lv t me fun me θ => K me (e :: θ)
        | _ => false) = true := h
      split at h'
      · rename_i e he
        obtain ⟨z, z1, n, z2, z3⟩ := sx_LV_mem hl he
        obtain ⟨ext, me', θ, vs, a1, a2, a3, a4⟩ := ih hr hl h'
        refine ⟨ext, me', e :: θ, n.toInt :: vs, a1, ⟨⟨n, ?_, rfl⟩, a2⟩, ⟨sx_ev_app ext z3, a3⟩, a4⟩
        rw [← z2]
        exact z1
      · cases h'
    | .inr key, h =>
      have h' : (sx_rdk Z me key fun me e => sx_bind Z lv t me fun me θ => K me (e :: θ)) = true := h
      obtain ⟨ext1, me1, e, b1, b2, b3⟩ := sx_rdk_ok hZ hr h'
      obtain ⟨ext, me', θ, vs, a1, a2, a3, a4⟩ := ih b1 (hl.app ext1) b3
      refine ⟨ext1 ++ ext, me', e :: θ, _ :: vs, by rw [← List.append_assoc]; exact a1, ⟨rfl, a2⟩, by rw [← List.append_assoc]; exact ⟨sx_ev_app ext b2, a3⟩, a4⟩
theorem sx_bindk_ok (hZ : sx_Zok Z) : ∀ {keys : List Nat} {env : List Int} {me : sx_Me} {K : sx_Me → List sx_e → Bool}, sx_R Z Cs σe env me σ → sx_bindk Z keys me K = true → ∃ (ext : List Int) (me' : sx_Me) (θ : List sx_e) (vs : List Int), sx_R Z Cs σe (env ++ ext) me' σ ∧ sx_Keys σ keys vs ∧ sx_Th (env ++ ext) θ vs ∧ K me' θ = true := by
  intro keys
  induction keys with
  | nil => intro env me K hr h; exact ⟨[], me, [], [], by rw [List.append_nil]; exact hr, trivial, trivial, h⟩
  | cons key t ih =>
    intro env me K hr h
    have h' : (sx_rdk Z me key fun me e => sx_bindk Z t me fun me θ => K me (e :: θ)) = true := h
    obtain ⟨ext1, me1, e, b1, b2, b3⟩ := sx_rdk_ok hZ hr h'
    obtain ⟨ext, me', θ, vs, a1, a2, a3, a4⟩ := ih b1 b3
    refine ⟨ext1 ++ ext, me', e :: θ, _ :: vs, by rw [← List.append_assoc]; exact a1, ⟨rfl, a2⟩, by rw [← List.append_assoc]; exact ⟨sx_ev_app ext b2, a3⟩, a4⟩
theorem sx_Keys_eq {σ : am_S} : ∀ {keys : List Nat} {a b : List Int}, sx_Keys σ keys a → sx_Keys σ keys b → a = b
  | [], [], [], _, _ => rfl
  | _ :: _, _ :: _, _ :: _, ⟨h1, h2⟩, ⟨h3, h4⟩ => by rw [h1, h3, sx_Keys_eq h2 h4]
  | [], [], _ :: _, _, h => h.elim
  | [], _ :: _, _, h, _ => h.elim
  | _ :: _, [], _, h, _ => h.elim
  | _ :: _, _ :: _, [], _, h => h.elim
/-- behind a call -/
theorem sx_kill_ok {σ' : am_S} {m : Nat} (hr : sx_R Z Cs σe env me σ) (hx : me.2.2.1 = 0) (hM : sx_M Z Cs σ m 0 σ') {K : sx_Tr → Bool} (h : sx_kill Z m me.2.2.2.1 K = true) : ∃ tr', sx_R Z Cs σe env (me.1, Nat.lor me.2.1 m, 0, tr', me.2.2.2.2) σ' ∧ K tr' = true := by
  unfold sx_kill at h
  obtain ⟨tr', h1, h2⟩ := sx_filt_ok h
  refine ⟨tr', ⟨hr.1, fun q hq => ?_, hr.2.2.1, hM.1, hM.2.1, hM.2.2.1, hM.2.2.2.1, fun o k lo hi u a1 a2 => ?_, fun c hc _ => hM.2.2.2.2.2.1 c hc (by rw [sx_bit_eq]; exact Nat.zero_testBit _), fun c hc _ => hM.2.2.2.2.2.2.1 c hc (by rw [sx_bit_eq]; exact Nat.zero_testBit _), fun a2 => ?_, fun a2 => ?_⟩, h2⟩
  · obtain ⟨a1, a2⟩ := h1 q hq
    rw [ex_fN_eq, ex_fN_eq] at a2
    obtain ⟨lo, hi, u, b1, b2⟩ := sx_at_ok a2
    have hb : sx_bit m u = false := by simpa using b2
    rw [hM.2.2.2.2.1 _ _ lo hi u b1 hb]
    exact hr.2.1 q a1
  · rw [sx_bit_or, Bool.or_eq_false_iff] at a2
    rw [hM.2.2.2.2.1 o k lo hi u a1 a2.2]
    exact hr.2.2.2.2.2.2.2.1 o k lo hi u a1 a2.1
  · rw [sx_bit_or, Bool.or_eq_false_iff] at a2
    rw [hM.2.2.2.2.2.2.2.1 a2.2]
    exact hr.2.2.2.2.2.2.2.2.2.2.1 a2.1
  · rw [sx_bit_or, Bool.or_eq_false_iff] at a2
    rw [hM.2.2.2.2.2.2.2.2 a2.2]
    exact hr.2.2.2.2.2.2.2.2.2.2.2 a2.1
/-- an answer and its abstract one -/
def sx_opt (env : List Int) (v : Option sx_V) (v' : Option Value) : Prop := match v, v' with
  | some a, some b => sx_val env a b
  | none, none => True
  | _, _ => False
theorem sx_end1_ok (hZ : sx_Zok Z) (hr : sx_R Z Cs σe env me σ) (hx : me.2.2.1 = 0) {θ : List sx_e} {vs : List Int} (ht : sx_Th env θ vs) {p : sx_Po} {σ' : am_S} (hM : sx_M Z Cs σ p.1 0 σ') {ks : List Int} (hk : sx_Keys σ' p.2.2.1 ks) {v : Option Value} (hv : match p.2.1, v with
    | true, some w => ∃ n : Int32, w = .int n ∧ sx_P (vs ++ n.toInt :: ks) p.2.2.2
    | false, none => sx_P (vs ++ ks) p.2.2.2
    | _, _ => False) {K : sx_Me → Option sx_V → Bool} (h : sx_end1 Z θ me p K = true) : ∃ (ext : List Int) (me' : sx_Me) (a : Option sx_V), sx_R Z Cs σe (env ++ ext) me' σ' ∧ sx_opt (env ++ ext) a v ∧ K me' a = true := by
  unfold sx_end1 at h
  have h0 : (sx_kill Z p.1 me.2.2.2.1 fun tr => ex_fN (Nat.lor me.2.1 p.1) fun md => (bif p.2.1 then sx_new (me.1, md, me.2.2.1, tr, me.2.2.2.2) sx_lo sx_up fun me w => sx_bindk Z p.2.2.1 me fun me ks => (match me with
      | (nw, md, xm, tr, fa) => sx_gain (θ ++ w :: ks) p.2.2.2 fa fun fa => K (nw, md, xm, tr, fa) (some (.inl w)))
    else sx_bindk Z p.2.2.1 (me.1, md, me.2.2.1, tr, me.2.2.2.2) fun me ks => (match me with
      | (nw, md, xm, tr, fa) => sx_gain (θ ++ ks) p.2.2.2 fa fun fa => K (nw, md, xm, tr, fa) none))) = true := h
  obtain ⟨tr', r1, h1⟩ := sx_kill_ok hr hx hM h0
  rw [ex_fN_eq, hx] at h1
  cases hb : p.2.1 with
  | true =>
    rw [hb] at hv h1
    rw [cond_true] at h1
    match v, hv with
    | some w, ⟨n, hw, hp⟩ =>
      obtain ⟨a1, a2, a3⟩ := sx_new_ok r1 (sx_i32 n).1 (sx_i32 n).2 h1
      obtain ⟨ext, me', θ2, vs2, b1, b2, b3, b4⟩ := sx_bindk_ok hZ a1 a3
      rw [sx_Keys_eq b2 hk] at b3
      have ht' : sx_Th (env ++ [n.toInt] ++ ext) (θ ++ sx_w me.1 :: θ2) (vs ++ n.toInt :: ks) := ((ht.app [n.toInt]).app ext).append ⟨sx_ev_app ext a2, b3⟩
      obtain ⟨fa', c1, c2⟩ := sx_gain_ok ht' b1.2.2.1 hp b4
      refine ⟨[n.toInt] ++ ext, _, _, ?_, ?_, c2⟩
      · rw [← List.append_assoc]
        exact b1.fact c1
      · rw [hw, ← List.append_assoc]
        exact ⟨n, rfl, sx_ev_app ext a2⟩
    | none, hv => exact hv.elim
  | false =>
    rw [hb] at hv h1
    rw [cond_false] at h1
    match v, hv with
    | none, hp =>
      obtain ⟨ext, me', θ2, vs2, b1, b2, b3, b4⟩ := sx_bindk_ok hZ r1 h1
      rw [sx_Keys_eq b2 hk] at b3
      obtain ⟨fa', c1, c2⟩ := sx_gain_ok ((ht.app ext).append b3) b1.2.2.1 hp b4
      exact ⟨ext, _, none, b1.fact c1, trivial, c2⟩
    | some w, hv => exact hv.elim
theorem sx_ends_ok (hZ : sx_Zok Z) (hr : sx_R Z Cs σe env me σ) (hx : me.2.2.1 = 0) {θ : List sx_e} {vs : List Int} (ht : sx_Th env θ vs) {K : sx_Me → Option sx_V → Bool} : ∀ {ps : List sx_Po}, sx_ends Z θ me ps K = true → ∀ (r : Option (Option Value)) (σ' : am_S), sx_Post Z Cs vs σ ps r σ' → ∃ v, r = some v ∧ ∃ (ext : List Int) (me' : sx_Me) (a : Option sx_V), sx_R Z Cs σe (env ++ ext) me' σ' ∧ sx_opt (env ++ ext) a v ∧ K me' a = true := by
  intro ps h r σ' hp
  cases r with
  | none => exact hp.elim
  | some v =>
    obtain ⟨p, hm, hM, ks, hk, hv⟩ := hp
    refine ⟨v, rfl, sx_end1_ok hZ hr hx ht hM hk hv ?_⟩
    induction ps with
    | nil => cases hm
    | cons q t ih =>
      have h' : (sx_end1 Z θ me q K && sx_ends Z θ me t K) = true := h
      rw [Bool.and_eq_true] at h'
      rcases List.mem_cons.mp hm with rfl | hm
      · exact h'.1
      · exact ih h'.2 hm
theorem sx_sameV_ok {v w : sx_V} (h : sx_sameV v w = true) {z : Value} (hv : sx_val env v z) : sx_val [] w z := by
  unfold sx_sameV at h
  split at h
  · exact hv
  · rename_i a p b q
    rw [Bool.and_eq_true] at h
    have e1 : a = b := by simpa using h.1
    have e2 := Nat.eq_of_beq_eq_true h.2
    subst e1
    subst e2
    cases a <;> exact hv
  · cases h
theorem sx_refs_ok {lv : sx_L} {lw : List (Nat × Value)} (hl : sx_LV env lv lw) {rs : sx_L} (h : sx_refs lv rs = true) : sx_Refs lw rs := by
  induction rs with
  | nil => intro q hq; cases hq
  | cons q t ih =>
    have h' : ((match sx_fnd lv q.1 with
      | some v => sx_sameV v q.2
      | none => false) && sx_refs lv t) = true := h
    rw [Bool.and_eq_true] at h'
    intro z hz
    rcases List.mem_cons.mp hz with rfl | hz
    · have h1 := h'.1
      split at h1
      · rename_i v hv
        obtain ⟨y, y1, y2⟩ := sx_LV_mem hl hv
        exact ⟨y, y1, sx_sameV_ok h1 y2⟩
      · cases h1
    · exact ih h'.2 z hz
theorem sx_use_ok (hZ : sx_Zok Z) {lv : sx_L} {lw : List (Nat × Value)} (hr : sx_R Z Cs σe env me σ) (hl : sx_LV env lv lw) {rk d mc ms : Nat} {K : Nat → Nat → sx_Me → Option sx_V → Bool} : ∀ {cs : List sx_Ct}, sx_use Z rk d mc ms lv me cs K = true → ∃ c ∈ cs, c.1 < rk ∧ c.2.1 ≤ d ∧ c.2.2.1 ≤ mc ∧ c.2.2.2.1 ≤ ms ∧ ∃ vs : List Int, sx_Srcs lw σ c.2.2.2.2.2.1.1 vs ∧ sx_Refs lw c.2.2.2.2.1 ∧ sx_P vs c.2.2.2.2.2.1.2 ∧ (∃ md, sx_M Z Cs σe md 0 σ) ∧ ∀ (r : Option (Option Value)) (σ' : am_S), sx_Post Z Cs vs σ c.2.2.2.2.2.2 r σ' → ∃ v, r = some v ∧ ∃ (ext : List Int) (me' : sx_Me) (a : Option sx_V), sx_R Z Cs σe (env ++ ext) me' σ' ∧ sx_opt (env ++ ext) a v ∧ K (mc - c.2.2.1) (ms - c.2.2.2.1) me' a = true := by
  intro cs
  induction cs with
  | nil => intro h; cases h
  | cons c t ih =>
    intro h
    have h' : (bif sx_refs lv c.2.2.2.2.1 then (sx_bind Z lv c.2.2.2.2.2.1.1 me fun me1 θ => bif sx_hold θ me1.2.2.2.2 c.2.2.2.2.2.1.2 then c.1.blt rk && (me1.2.2.1.beq 0 && (c.2.1.ble d && (c.2.2.1.ble mc && (c.2.2.2.1.ble ms && (ex_fN (mc - c.2.2.1) fun mc1 => ex_fN (ms - c.2.2.2.1) fun ms1 => sx_ends Z θ me1 c.2.2.2.2.2.2 (K mc1 ms1)))))) else sx_use Z rk d mc ms lv me t K) else sx_use Z rk d mc ms lv me t K) = true := h
    have later : sx_use Z rk d mc ms lv me t K = true → ∃ c' ∈ c :: t, c'.1 < rk ∧ c'.2.1 ≤ d ∧ c'.2.2.1 ≤ mc ∧ c'.2.2.2.1 ≤ ms ∧ ∃ vs : List Int, sx_Srcs lw σ c'.2.2.2.2.2.1.1 vs ∧ sx_Refs lw c'.2.2.2.2.1 ∧ sx_P vs c'.2.2.2.2.2.1.2 ∧ (∃ md, sx_M Z Cs σe md 0 σ) ∧ ∀ (r : Option (Option Value)) (σ' : am_S), sx_Post Z Cs vs σ c'.2.2.2.2.2.2 r σ' → ∃ v, r = some v ∧ ∃ (ext : List Int) (me' : sx_Me) (a : Option sx_V), sx_R Z Cs σe (env ++ ext) me' σ' ∧ sx_opt (env ++ ext) a v ∧ K (mc - c'.2.2.1) (ms - c'.2.2.2.1) me' a = true := by
      intro hu
      obtain ⟨c', m1, m2⟩ := ih hu
      exact ⟨c', List.mem_cons_of_mem _ m1, m2⟩
    cases hrf : sx_refs lv c.2.2.2.2.1 with
    | false => rw [hrf] at h'; exact later h'
    | true =>
      rw [hrf, cond_true] at h'
      obtain ⟨ext, me1, θ, vs, a1, a2, a3, a4⟩ := sx_bind_ok hZ hr hl h'
      cases hh : sx_hold θ me1.2.2.2.2 c.2.2.2.2.2.1.2 with
      | false => rw [hh] at a4; exact later a4
      | true =>
        rw [hh, cond_true] at a4
        simp only [Bool.and_eq_true] at a4
        obtain ⟨b1, b2, b3, b4, b5, b6⟩ := a4
        rw [ex_fN_eq, ex_fN_eq] at b6
        have hx := Nat.eq_of_beq_eq_true b2
        refine ⟨c, List.mem_cons_self, ex_blt b1, ex_ble b3, ex_ble b4, ex_ble b5, vs, a2, sx_refs_ok hl hrf, sx_hold_ok a1.2.2.1 a3 hh, ⟨me1.2.1, ?_⟩, fun r σ' hp => ?_⟩
        · have := a1.2.2.2
          rw [hx] at this
          exact this
        · obtain ⟨v, v1, ext2, me', a, d1, d2, d3⟩ := sx_ends_ok hZ a1 hx a3 b6 r σ' hp
          exact ⟨v, v1, ext ++ ext2, me', a, by rw [← List.append_assoc]; exact d1, by rw [← List.append_assoc]; exact d2, d3⟩
end ZD
