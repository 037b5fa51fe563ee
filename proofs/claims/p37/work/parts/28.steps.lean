/-! each step of the second executor is a row: what is known at a state -/
theorem kr_sub {g : am_C} {d : Nat} {M : am_M} {mc ms pc : Nat} {lv lv' : List (Nat × Value)} {st : List Value} {σ : am_S} {post : Option (Option Value) → am_S → Prop} (h : ∀ q ∈ lv', q ∈ lv) (k : am_K g d M mc ms pc lv' st σ post) : am_K g d M mc ms pc lv st σ post := by
  intro p e R s m args below meth c H locs cells slots ls F h1 h2 h3 h4 hR hL hl
  refine k p e R s m args below meth c H locs cells slots ls F h1 h2 h3 h4 hR hL ⟨hl.1, hl.2.1, fun q hq => ?_⟩
  obtain ⟨z, hz, rfl⟩ := List.mem_map.mp hq
  exact hl.2.2 _ (List.mem_map.mpr ⟨z, h z hz, rfl⟩)
/-- a caller: method, pc, depth, cells, slots, locals, stack -/
abbrev sx_Fw : Type := am_M × Nat × Nat × Nat × Nat × List (Nat × Value) × List Value
def sx_x (X : Nat) (fw : List sx_Fw) : Nat := match fw with
  | [] => X
  | _ => 0
def sx_Q (g : am_C) (X Y : Nat) (post : Option (Option Value) → am_S → Prop) : List sx_Fw → Option (Option Value) → am_S → Prop
  | [] => post
  | f :: fw => fun r σ => match r with
    | some v => am_K g f.2.2.1 f.1 (f.2.2.2.1 + sx_x X fw) (f.2.2.2.2.1 + sx_x Y fw) f.2.1 f.2.2.2.2.2.1 (v.toList ++ f.2.2.2.2.2.2) σ (sx_Q g X Y post fw)
    | none => f.1.2.2.2.2 ≠ [] ∧ sx_Q g X Y post fw (some (some (.int 1))) σ
def sx_FR (mt : Nat → Option ex_T) (T0 : ex_T) (env : List Int) : List sx_Fr → List sx_Fw → Prop
  | [], [] => True
  | f :: fs, w :: fw => (w.1 = f.1.1 ∧ w.2.1 = f.2.2.1 ∧ w.2.2.1 = f.2.2.2.1 ∧ w.2.2.2.1 = f.2.2.2.2.1 ∧ w.2.2.2.2.1 = f.2.2.2.2.2.1) ∧ ex_okF mt f.1 f.2.1 ∧ sx_LV env f.2.2.2.2.2.2.1 w.2.2.2.2.2.1 ∧ sx_SV env f.2.2.2.2.2.2.2 w.2.2.2.2.2.2 ∧ (fs = [] → f.1 = T0) ∧ sx_FR mt T0 env fs fw
  | _, _ => False
theorem sx_FR.app {mt : Nat → Option ex_T} {T0 : ex_T} {env : List Int} (ext : List Int) : ∀ {fs : List sx_Fr} {fw : List sx_Fw}, sx_FR mt T0 env fs fw → sx_FR mt T0 (env ++ ext) fs fw
  | [], [], _ => trivial
  | _ :: _, _ :: _, ⟨h1, h2, h3, h4, h5, h6⟩ => ⟨h1, h2, h3.app ext, h4.app ext, h5, sx_FR.app ext h6⟩
  | [], _ :: _, h => h.elim
  | _ :: _, [], h => h.elim
def sx_Len (L : Nat) (xs : Nat → Int32) (Lw : Option Nat) (pre : List Int) (env : List Int) : Prop := (∀ w, Lw = some w → env[w]? = some (L : Int) ∧ ∃ i : Nat, env[w + 1]? = some (i : Int) ∧ ∀ c, c < 6 → i + c < L → env[w + 2 + c]? = some (xs (i + c)).toInt) ∧ ∃ ext, env = pre ++ ext
/-- what is fixed: launch and script, tables, clauses, methods, the method that the run began with, its entry's memory, more cells and slots, its end, the word of the script's length, the words that it began with -/
abbrev sx_X : Type := am_C × (Nat × (Nat → Int32)) × sx_Z × (Nat → am_S → Prop) × (Nat → Option ex_T) × ex_T × am_S × (Nat × Nat) × (Option (Option Value) → am_S → Prop) × Option Nat × List Int
abbrev xg (x : sx_X) : am_C := x.1
abbrev xL (x : sx_X) : Nat := x.2.1.1
abbrev xZ (x : sx_X) : sx_Z := x.2.2.1
abbrev xC (x : sx_X) : Nat → am_S → Prop := x.2.2.2.1
abbrev xm (x : sx_X) : Nat → Option ex_T := x.2.2.2.2.1
abbrev xT (x : sx_X) : ex_T := x.2.2.2.2.2.1
abbrev xe (x : sx_X) : am_S := x.2.2.2.2.2.2.1
abbrev xX (x : sx_X) : Nat := x.2.2.2.2.2.2.2.1.1
abbrev xY (x : sx_X) : Nat := x.2.2.2.2.2.2.2.1.2
abbrev xp (x : sx_X) : Option (Option Value) → am_S → Prop := x.2.2.2.2.2.2.2.2.1
abbrev xw (x : sx_X) : Option Nat := x.2.2.2.2.2.2.2.2.2.1
abbrev xr (x : sx_X) : List Int := x.2.2.2.2.2.2.2.2.2.2
def sx_Bx (x : sx_X) : Prop := am_G (xg x) ∧ (xg x).2.2.2.2.2.2 = am_X (xL x) x.2.1.2 ∧ xL x ≤ 3072 ∧ (∀ mi T, xm x mi = some T → ex_tok (xm x) T = true) ∧ sx_Zok (xZ x) ∧ sx_CsOk (xZ x) (xC x)
abbrev sx_Rx (x : sx_X) (env : List Int) (me : sx_Me) (σ : am_S) : Prop := sx_R (xZ x) (xC x) (xe x) env me σ
def sx_At (x : sx_X) (env : List Int) (T : ex_T) (cd : List ex_E) (lv : sx_L) (st : List sx_V) (fs : List sx_Fr) (me : sx_Me) (lw : List (Nat × Value)) (sw : List Value) (fw : List sx_Fw) (σ : am_S) : Prop :=
  ex_okF (xm x) T cd ∧ (fs = [] → T = xT x) ∧ sx_Len (xL x) x.2.1.2 (xw x) (xr x) env ∧ sx_Rx x env me σ ∧ sx_LV env lv lw ∧ sx_SV env st sw ∧ sx_FR (xm x) (xT x) env fs fw
abbrev sx_am (x : sx_X) (d : Nat) (T : ex_T) (mc ms pc : Nat) (lw : List (Nat × Value)) (sw : List Value) (fw : List sx_Fw) (σ : am_S) : Prop := am_K (xg x) d T.1 (mc + sx_x (xX x) fw) (ms + sx_x (xY x) fw) pc lw sw σ (sx_Q (xg x) (xX x) (xY x) (xp x) fw)
/-- K is right -/
def sx_Kx (x : sx_X) (K : sx_K) : Prop := ∀ (T : ex_T) (cd : List ex_E) (pc d mc ms : Nat) (lv : sx_L) (st : List sx_V) (fs : List sx_Fr) (me : sx_Me) (env : List Int) (lw : List (Nat × Value)) (sw : List Value) (fw : List sx_Fw) (σ : am_S), K T cd pc d mc ms lv st fs me = true → sx_At x env T cd lv st fs me lw sw fw σ → sx_am x d T mc ms pc lw sw fw σ
theorem sx_ci_ok {n : Int} {K : Int → Bool} (h : sx_ci n K = true) : (Int32.ofInt n).toInt = n ∧ K n = true := by
  unfold sx_ci at h
  cases hb : (sx_ile sx_lo n && sx_ile n sx_up) with
  | false => rw [hb] at h; cases h
  | true =>
    rw [hb, cond_true, ex_fI_eq] at h
    rw [Bool.and_eq_true] at hb
    exact ⟨sx_wrapI n (sx_ile_iff.mp hb.1) (sx_ile_iff.mp hb.2), h⟩
section ZA
variable {x : sx_X} {K : sx_K} {env : List Int} {T : ex_T} {cd : List ex_E} {lv : sx_L} {st : List sx_V} {fs : List sx_Fr} {me : sx_Me} {lw : List (Nat × Value)} {sw : List Value} {fw : List sx_Fw} {σ : am_S} {pc nx d mc ms : Nat}
theorem sx_At.re (A : sx_At x env T cd lv st fs me lw sw fw σ) {ext : List Int} {me' : sx_Me} {σ' : am_S} (hr : sx_Rx x (env ++ ext) me' σ') : sx_At x (env ++ ext) T cd lv st fs me' lw sw fw σ' :=
  ⟨A.1, A.2.1, ⟨fun w hw => ⟨sx_get_app ext (A.2.2.1.1 w hw).1, (A.2.2.1.1 w hw).2.elim fun i hi => ⟨i, sx_get_app ext hi.1, fun c h1 h2 => sx_get_app ext (hi.2 c h1 h2)⟩⟩, A.2.2.1.2.elim fun e he => ⟨e ++ ext, by rw [he, List.append_assoc]⟩⟩, hr, A.2.2.2.2.1.app ext, A.2.2.2.2.2.1.app ext, A.2.2.2.2.2.2.app ext⟩
theorem sx_At.re0 (A : sx_At x env T cd lv st fs me lw sw fw σ) {me' : sx_Me} {σ' : am_S} (hr : sx_Rx x env me' σ') : sx_At x env T cd lv st fs me' lw sw fw σ' := ⟨A.1, A.2.1, A.2.2.1, hr, A.2.2.2.2⟩
theorem sx_At.stk (A : sx_At x env T cd lv st fs me lw sw fw σ) {st' : List sx_V} {sw' : List Value} (hs : sx_SV env st' sw') : sx_At x env T cd lv st' fs me lw sw' fw σ := ⟨A.1, A.2.1, A.2.2.1, A.2.2.2.1, A.2.2.2.2.1, hs, A.2.2.2.2.2.2⟩
theorem sx_At.lvs (A : sx_At x env T cd lv st fs me lw sw fw σ) {lv' : sx_L} {lw' : List (Nat × Value)} (hs : sx_LV env lv' lw') : sx_At x env T cd lv' st fs me lw' sw fw σ := ⟨A.1, A.2.1, A.2.2.1, A.2.2.2.1, hs, A.2.2.2.2.2⟩
theorem sx_At.jmp (A : sx_At x env T cd lv st fs me lw sw fw σ) : sx_At x env T [] lv st fs me lw sw fw σ := ⟨ex_ok0 A.1, A.2⟩
theorem sx_At.r (A : sx_At x env T cd lv st fs me lw sw fw σ) : sx_Rx x env me σ := A.2.2.2.1
theorem sx_At.p (A : sx_At x env T cd lv st fs me lw sw fw σ) : sx_P env me.2.2.2.2 := A.2.2.2.1.2.2.1
theorem sx_At.s (A : sx_At x env T cd lv st fs me lw sw fw σ) : sx_SV env st sw := A.2.2.2.2.2.1
/-- an int comes onto the stack -/
theorem sx_push (C : sx_Kx x K) (A : sx_At x env T cd lv st fs me lw sw fw σ) {n : Int32} (h : sx_ex (xZ x) (xC x) (xe x) env σ n.toInt (fun me e => K T cd nx d mc ms lv (.inl e :: st) fs me)) : sx_am x d T mc ms nx lw (.int n :: sw) fw σ := by
  obtain ⟨ext, me', e, h1, h2, h3⟩ := h
  exact C _ _ _ _ _ _ _ _ _ _ _ _ _ _ _ h3 ((A.re h1).stk ⟨⟨n, rfl, h2⟩, A.s.app ext⟩)
theorem tk_iload (C : sx_Kx x K) (A : sx_At x env T cd lv st fs me lw sw fw σ) {i : Nat} (row : ∀ (j : Nat) (z : Int32), lw[j]? = some (i, .int z) → sx_am x d T mc ms nx lw (.int z :: sw) fw σ → sx_am x d T mc ms pc lw sw fw σ) (h : sx_iload K T cd nx d mc ms lv st fs me i = true) : sx_am x d T mc ms pc lw sw fw σ := by
  unfold sx_iload at h
  split at h
  · rename_i e he
    obtain ⟨j, z, h1, n, rfl, h3⟩ := sx_fnd_ok A.2.2.2.2.1 he
    exact row j n h1 (C _ _ _ _ _ _ _ _ _ _ _ _ _ _ _ h (A.stk ⟨⟨n, rfl, h3⟩, A.s⟩))
  · cases h
theorem tk_lload (C : sx_Kx x K) (A : sx_At x env T cd lv st fs me lw sw fw σ) {i : Nat} (row : ∀ (j : Nat) (z : Int64), lw[j]? = some (i, .long z) → sx_am x d T mc ms nx lw (.long z :: sw) fw σ → sx_am x d T mc ms pc lw sw fw σ) (h : sx_lload K T cd nx d mc ms lv st fs me i = true) : sx_am x d T mc ms pc lw sw fw σ := by
  unfold sx_lload at h
  split at h
  · rename_i he
    obtain ⟨j, z, h1, n, rfl⟩ := sx_fnd_ok A.2.2.2.2.1 he
    exact row j n h1 (C _ _ _ _ _ _ _ _ _ _ _ _ _ _ _ h (A.stk ⟨⟨n, rfl⟩, A.s⟩))
  · cases h
theorem tk_aload (C : sx_Kx x K) (A : sx_At x env T cd lv st fs me lw sw fw σ) {i : Nat} (row : ∀ (j : Nat) (z : Nat), lw[j]? = some (i, .ref z) → sx_am x d T mc ms nx lw (.ref z :: sw) fw σ → sx_am x d T mc ms pc lw sw fw σ) (rowX : ∀ (j : Nat) (z : Nat), lw[j]? = some (i, .retAddr z) → sx_am x d T mc ms nx lw (.retAddr z :: sw) fw σ → sx_am x d T mc ms pc lw sw fw σ) (h : sx_aload K T cd nx d mc ms lv st fs me i = true) : sx_am x d T mc ms pc lw sw fw σ := by
  unfold sx_aload at h
  split at h
  · rename_i r he
    obtain ⟨j, z, h1, h2⟩ := sx_fnd_ok A.2.2.2.2.1 he
    have hk := C _ _ _ _ _ _ _ _ _ _ _ _ _ _ _ h (A.stk (sw' := z :: sw) ⟨h2, A.s⟩)
    match r, h2 with
    | (false, o), h2 =>
      have e : z = .ref o := h2
      subst e
      exact row j o h1 hk
    | (true, o), h2 =>
      have e : z = .retAddr o := h2
      subst e
      exact rowX j o h1 hk
  · cases h
theorem tk_istore (C : sx_Kx x K) (A : sx_At x env T cd lv st fs me lw sw fw σ) {i : Nat} (row : ∀ (z : Int32) (lw' : List (Nat × Value)) (sw' : List Value), (i, Value.int z) :: lw.filter (fun q => !(q.1 == i) && !(q.1 + 1 == i && q.2.category == 2)) = lw' → sx_am x d T mc ms nx lw' sw' fw σ → sx_am x d T mc ms pc lw (.int z :: sw') fw σ) (h : sx_istore K T cd nx d mc ms lv st fs me i = true) : sx_am x d T mc ms pc lw sw fw σ := by
  unfold sx_istore at h
  split at h
  · rename_i e st'
    obtain ⟨v, sw', rfl, ⟨n, rfl, h2⟩, h3⟩ := A.s.cons
    obtain ⟨r, e1, e2⟩ := sx_fil_ok A.2.2.2.2.1 h
    exact row n _ _ rfl (C _ _ _ _ _ _ _ _ _ _ _ _ _ _ _ e2 ((A.stk h3).lvs ⟨rfl, ⟨n, rfl, h2⟩, e1⟩))
  · cases h
theorem tk_lstore (C : sx_Kx x K) (A : sx_At x env T cd lv st fs me lw sw fw σ) {i : Nat} (row : ∀ (z : Int64) (lw' : List (Nat × Value)) (sw' : List Value), (i, Value.long z) :: lw.filter (fun q => !(q.1 == i) && (!(q.1 == i + 1) && !(q.1 + 1 == i && q.2.category == 2))) = lw' → sx_am x d T mc ms nx lw' sw' fw σ → sx_am x d T mc ms pc lw (.long z :: sw') fw σ) (h : sx_lstore K T cd nx d mc ms lv st fs me i = true) : sx_am x d T mc ms pc lw sw fw σ := by
  unfold sx_lstore at h
  split at h
  · obtain ⟨v, sw', rfl, ⟨n, rfl⟩, h3⟩ := A.s.cons
    obtain ⟨r, e1, e2⟩ := sx_fil2_ok A.2.2.2.2.1 h
    exact row n _ _ rfl (C _ _ _ _ _ _ _ _ _ _ _ _ _ _ _ e2 ((A.stk h3).lvs ⟨rfl, ⟨n, rfl⟩, e1⟩))
  · cases h
theorem tk_astore (C : sx_Kx x K) (A : sx_At x env T cd lv st fs me lw sw fw σ) {i : Nat} (row : ∀ (z : Nat) (lw' : List (Nat × Value)) (sw' : List Value), (i, Value.ref z) :: lw.filter (fun q => !(q.1 == i) && !(q.1 + 1 == i && q.2.category == 2)) = lw' → sx_am x d T mc ms nx lw' sw' fw σ → sx_am x d T mc ms pc lw (.ref z :: sw') fw σ) (rowX : ∀ (z : Nat) (lw' : List (Nat × Value)) (sw' : List Value), (i, Value.retAddr z) :: lw.filter (fun q => !(q.1 == i) && !(q.1 + 1 == i && q.2.category == 2)) = lw' → sx_am x d T mc ms nx lw' sw' fw σ → sx_am x d T mc ms pc lw (.retAddr z :: sw') fw σ) (h : sx_astore K T cd nx d mc ms lv st fs me i = true) : sx_am x d T mc ms pc lw sw fw σ := by
  unfold sx_astore at h
  split at h
  · rename_i q st'
    obtain ⟨v, sw', rfl, h2, h3⟩ := A.s.cons
    obtain ⟨r, e1, e2⟩ := sx_fil_ok A.2.2.2.2.1 h
    have hk := C _ _ _ _ _ _ _ _ _ _ _ _ _ _ _ e2 ((A.stk h3).lvs (lw' := (i, v) :: _) ⟨rfl, h2, e1⟩)
    match q, h2 with
    | (false, o), h2 =>
      have e : v = .ref o := h2
      subst e
      exact row o _ _ rfl hk
    | (true, o), h2 =>
      have e : v = .retAddr o := h2
      subst e
      exact rowX o _ _ rfl hk
  · cases h
theorem tk_iinc (C : sx_Kx x K) (A : sx_At x env T cd lv st fs me lw sw fw σ) {i : Nat} {n : Int} (hn : i < T.1.2.2.1) (hd : decode T.1.2.1 pc = .ok (.iinc i n, 3)) (h : sx_iinc K T cd (pc + 3) d mc ms lv st fs me i n = true) : sx_am x d T mc ms pc lw sw fw σ := by
  unfold sx_iinc at h
  split at h
  · rename_i e he
    obtain ⟨j, z, h1, m, rfl, h3⟩ := sx_fnd_ok A.2.2.2.2.1 he
    obtain ⟨hw, h⟩ := sx_ci_ok h
    rw [ex_fI_eq] at h
    have h4 := sx_ev_of (e := (e.1 + n, e.2)) (sx_ev_to (e := e) h3)
    have h5 : sx_ev env (e.1 + n, e.2) = some (m.toInt + n) := by
      rw [h4]
      congr 1
      show e.1 + n + (m.toInt - e.1) = _
      omega
    obtain ⟨ext, me', e', g1, g2, g3⟩ := sx_wrap_ok A.r h5 (n := m + Int32.ofInt n) (fun a b => by
      have := sx_addI m (Int32.ofInt n) (by rw [hw]; exact a) (by rw [hw]; exact b)
      rw [hw] at this
      exact this) h
    obtain ⟨r, e1, e2⟩ := sx_fil_ok (A.2.2.2.2.1.app ext) g3
    exact kr_iinc j hd h1 rfl hn rfl (C _ _ _ _ _ _ _ _ _ _ _ _ _ _ _ e2 ((A.re g1).lvs ⟨rfl, ⟨_, rfl, g2⟩, e1⟩))
  · cases h
theorem tk_arith (C : sx_Kx x K) (A : sx_At x env T cd lv st fs me lw sw fw σ) {o : Nat} (row : ∀ (a b : Int32) (sw' : List Value), (o = 9 ∨ o = 10 → ¬ b = 0) → sx_am x d T mc ms nx lw (.int (ex_bin o a b) :: sw') fw σ → sx_am x d T mc ms pc lw (.int b :: .int a :: sw') fw σ) (h : sx_arith K T cd nx d mc ms lv st fs me o = true) : sx_am x d T mc ms pc lw sw fw σ := by
  unfold sx_arith at h
  split at h
  · rename_i y e st'
    obtain ⟨v, sw1, rfl, ⟨b, rfl, h2⟩, h3⟩ := A.s.cons
    obtain ⟨v, sw2, rfl, ⟨a, rfl, h4⟩, h5⟩ := h3.cons
    have A' := A.stk h5
    split at h
    · obtain ⟨e', g1, g2⟩ := sx_lin_ok h
      refine row a b _ (fun q => by omega) (sx_push C A' (sx_wrap_ok A.r (g2 env _ _ h2 h4) (fun p q => ?_) g1))
      show (a + b).toInt = _
      rw [show 1 * b.toInt + a.toInt = a.toInt + b.toInt by omega] at p q ⊢
      exact sx_addI a b p q
    · obtain ⟨e', g1, g2⟩ := sx_lin_ok h
      refine row a b _ (fun q => by omega) (sx_push C A' (sx_wrap_ok A.r (g2 env _ _ h2 h4) (fun p q => ?_) g1))
      show (a - b).toInt = _
      rw [show -1 * b.toInt + a.toInt = a.toInt - b.toInt by omega] at p q ⊢
      exact sx_subI a b p q
    · exact row a b _ (fun q => by omega) (sx_push C A' (sx_mul_ok A.r h4 h2 h))
    · have := sx_div_ok A.r (Or.inl rfl) h4 h2 h
      exact row a b _ (fun _ => this.1) (sx_push C A' this.2)
    · have := sx_div_ok A.r (Or.inr rfl) h4 h2 h
      exact row a b _ (fun _ => this.1) (sx_push C A' this.2)
    · rename_i o0 o1 o2 o3 o4
      exact row a b _ (fun q => q.elim (fun z => (o3 z).elim) (fun z => (o4 z).elim)) (sx_push C A' (sx_bits_ok A.r h4 h2 h))
  · cases h
theorem tk_neg (C : sx_Kx x K) (A : sx_At x env T cd lv st fs me lw sw fw σ) (hd : decode T.1.2.1 pc = .ok (.ineg, 1)) (h : sx_un K T cd (pc + 1) d mc ms lv st fs me 1 = true) : sx_am x d T mc ms pc lw sw fw σ := by
  unfold sx_un at h
  split at h
  · obtain ⟨v, sw1, rfl, ⟨b, rfl, h2⟩, h3⟩ := A.s.cons
    simp only at h
    obtain ⟨e', g1, g2⟩ := sx_lin_ok h
    refine kr_ineg hd (sx_push C (A.stk h3) (sx_wrap_ok A.r (g2 env _ _ h2 sx_const) (fun p q => ?_) g1))
    rw [show -1 * b.toInt + 0 = 0 - b.toInt by omega] at p q ⊢
    have : -b = 0 - b := by rw [Int32.zero_sub]
    rw [this]
    exact sx_subI 0 b p q
  · cases h
theorem tk_i2b (C : sx_Kx x K) (A : sx_At x env T cd lv st fs me lw sw fw σ) (hd : decode T.1.2.1 pc = .ok (.i2b, 1)) (h : sx_un K T cd (pc + 1) d mc ms lv st fs me 11 = true) : sx_am x d T mc ms pc lw sw fw σ := by
  unfold sx_un at h
  split at h
  · obtain ⟨v, sw1, rfl, ⟨b, rfl, h2⟩, h3⟩ := A.s.cons
    exact kr_i2b hd (sx_push C (A.stk h3) (sx_bits_ok (o := 11) (y := 0) A.r h2 sx_const h))
  · cases h
theorem sx_jif_ok (C : sx_Kx x K) (A : sx_At x env T cd lv st fs me lw sw fw σ) {r tgt : Nat} {e1 e2 : sx_e} {a b : Int} (ha : sx_ev env e1 = some a) (hb : sx_ev env e2 = some b) (h : sx_jif K T cd nx d mc ms lv fs me r tgt e1 e2 st = true) : (ex_rel r a b ∧ sx_am x d T mc ms tgt lw sw fw σ) ∨ (¬ ex_rel r a b ∧ sx_am x d T mc ms nx lw sw fw σ) := by
  obtain ⟨nw, md, xm, tr, fa⟩ := me
  unfold sx_jif at h
  simp only at h
  obtain ⟨fa', h1, ⟨h2, h3⟩ | ⟨h2, h3⟩⟩ := sx_cmp_ok A.p ha hb h
  · exact Or.inl ⟨h2, C _ _ _ _ _ _ _ _ _ _ _ _ _ _ _ h3 (A.jmp.re0 (A.r.fact h1))⟩
  · exact Or.inr ⟨h2, C _ _ _ _ _ _ _ _ _ _ _ _ _ _ _ h3 (A.re0 (A.r.fact h1))⟩
theorem tk_if (C : sx_Kx x K) (A : sx_At x env T cd lv st fs me lw sw fw σ) {c : ClassFile.Cond} {off : Int} {tgt : Nat} (hd : decode T.1.2.1 pc = .ok (.ifCond c off, 3)) (ht : (pc : Int) + off = (tgt : Int)) (h : sx_if K T cd (pc + 3) d mc ms lv st fs me (ex_cc c) tgt = true) : sx_am x d T mc ms pc lw sw fw σ := by
  unfold sx_if at h
  split at h
  · obtain ⟨v, sw1, rfl, ⟨b, rfl, h2⟩, h3⟩ := A.s.cons
    have e0 : sx_ev env (.ofNat 0, []) = some (0 : Int32).toInt := sx_const
    rcases sx_jif_ok C (A.stk h3) h2 e0 h with ⟨g1, g2⟩ | ⟨g1, g2⟩
    · exact kr_if hd ht (fun _ => g2) (fun q => absurd g1 q)
    · exact kr_if hd ht (fun q => absurd q g1) (fun _ => g2)
  · cases h
theorem tk_icmp (C : sx_Kx x K) (A : sx_At x env T cd lv st fs me lw sw fw σ) {c : ClassFile.Cond} {off : Int} {tgt : Nat} (hd : decode T.1.2.1 pc = .ok (.if_icmp c off, 3)) (ht : (pc : Int) + off = (tgt : Int)) (h : sx_icmp K T cd (pc + 3) d mc ms lv st fs me (ex_cc c) tgt = true) : sx_am x d T mc ms pc lw sw fw σ := by
  unfold sx_icmp at h
  split at h
  · obtain ⟨v, sw1, rfl, ⟨b, rfl, h2⟩, h3⟩ := A.s.cons
    obtain ⟨v, sw2, rfl, ⟨a, rfl, h4⟩, h5⟩ := h3.cons
    rcases sx_jif_ok C (A.stk h5) h4 h2 h with ⟨g1, g2⟩ | ⟨g1, g2⟩
    · exact kr_icmp hd ht (fun _ => g2) (fun q => absurd g1 q)
    · exact kr_icmp hd ht (fun q => absurd q g1) (fun _ => g2)
  · cases h
theorem sx_jump_ok (C : sx_Kx x K) (A : sx_At x env T cd lv st fs me lw sw fw σ) {off : Int} (h : sx_jump K T d mc ms lv fs pc off st me = true) : ∃ tgt : Nat, (pc : Int) + off = (tgt : Int) ∧ sx_am x d T mc ms tgt lw sw fw σ := by
  unfold sx_jump at h
  split at h
  · rename_i t ht
    rw [ex_fN_eq] at h
    exact ⟨t, ht, C _ _ _ _ _ _ _ _ _ _ _ _ _ _ _ h A.jmp⟩
  · cases h
theorem sx_nth_get {α : Type} : ∀ {l : List α} {n : Nat} {a : α}, ex_nth l n = some a → l[n]? = some a := by
  intro l
  induction l with
  | nil => intro n a h; cases h
  | cons b l ih =>
    intro n a h
    cases n with
    | zero => exact h
    | succ n => exact ih h
theorem tk_table (C : sx_Kx x K) (A : sx_At x env T cd lv st fs me lw sw fw σ) {dflt lo hi : Int} {offs : Array Int} {len : Nat} (hd : decode T.1.2.1 pc = .ok (.tableswitch dflt lo hi offs, len)) (h : sx_table K T d mc ms lv st fs me pc dflt lo hi offs = true) : sx_am x d T mc ms pc lw sw fw σ := by
  unfold sx_table at h
  split at h
  · obtain ⟨v, sw1, rfl, ⟨b, rfl, h2⟩, h3⟩ := A.s.cons
    have A' := A.stk h3
    obtain ⟨nw, md, xm, tr, fa⟩ := me
    simp only at h
    obtain ⟨fa1, a1, ⟨a2, a3⟩ | ⟨a2, a3⟩⟩ := sx_cmp_ok A.p h2 (sx_const (c := lo)) h
    · obtain ⟨tgt, t1, t2⟩ := sx_jump_ok C (A'.re0 (A.r.fact a1)) a3
      exact kr_tableOut hd (Or.inl a2) t1 t2
    · obtain ⟨fa2, b1, ⟨b2, b3⟩ | ⟨b2, b3⟩⟩ := sx_cmp_ok a1 h2 (sx_const (c := hi)) a3
      · obtain ⟨tgt, t1, t2⟩ := sx_jump_ok C (A'.re0 (A.r.fact b1)) b3
        exact kr_tableOut hd (Or.inr b2) t1 t2
      · obtain ⟨me', c1, c2⟩ := sx_conc_ok (A.r.fact b1) h2 b3
        split at c2
        · rename_i off ho
          obtain ⟨tgt, t1, t2⟩ := sx_jump_ok C (A'.re0 c1) c2
          refine kr_tableIn hd a2 b2 ?_ t1 t2
          have := sx_nth_get ho
          rw [Array.getElem?_toList] at this
          exact this
        · cases c2
  · cases h
theorem tk_lookup (C : sx_Kx x K) (A : sx_At x env T cd lv st fs me lw sw fw σ) {dflt : Int} {ps : Array (Int × Int)} {len : Nat} (hd : decode T.1.2.1 pc = .ok (.lookupswitch dflt ps, len)) (hp : (ps.toList.zip (ps.toList.drop 1)).all (fun (a, next) => a.1 < next.1) = true) (h : sx_lookup K T d mc ms lv st fs me pc dflt ps = true) : sx_am x d T mc ms pc lw sw fw σ := by
  unfold sx_lookup at h
  split at h
  · rename_i e st'
    obtain ⟨v, sw1, rfl, ⟨b, rfl, h2⟩, h3⟩ := A.s.cons
    have A' := A.stk h3
    have main : ∀ (l : List (Int × Int)) (me' : sx_Me), sx_Rx x env me' σ → sx_lookl K T d mc ms lv fs pc dflt e st' l me' = true → ∃ (off : Int) (tgt : Nat), Op.lookupswitch.offset l dflt b.toInt = off ∧ (pc : Int) + off = (tgt : Int) ∧ sx_am x d T mc ms tgt lw sw1 fw σ := by
      intro l
      induction l with
      | nil =>
        intro me' hr h
        obtain ⟨tgt, t1, t2⟩ := sx_jump_ok C (A'.re0 hr) h
        exact ⟨dflt, tgt, rfl, t1, t2⟩
      | cons q l ih =>
        intro me' hr h
        obtain ⟨nw, md, xm, tr, fa⟩ := me'
        have h' : (sx_cmp fa 0 e (q.1, []) (fun fa => sx_jump K T d mc ms lv fs pc q.2 st' (nw, md, xm, tr, fa)) fun fa => sx_lookl K T d mc ms lv fs pc dflt e st' l (nw, md, xm, tr, fa)) = true := h
        obtain ⟨fa1, a1, ⟨a2, a3⟩ | ⟨a2, a3⟩⟩ := sx_cmp_ok hr.2.2.1 h2 (sx_const (c := q.1)) h'
        · obtain ⟨tgt, t1, t2⟩ := sx_jump_ok C (A'.re0 (hr.fact a1)) a3
          refine ⟨q.2, tgt, ?_, t1, t2⟩
          have a2' : b.toInt = q.1 := a2
          unfold Op.lookupswitch.offset
          simp [a2']
        · obtain ⟨off, tgt, t1, t2, t3⟩ := ih _ (hr.fact a1) a3
          refine ⟨off, tgt, ?_, t2, t3⟩
          have a2' : ¬ b.toInt = q.1 := a2
          rw [← t1]
          show (if q.1 = b.toInt then q.2 else Op.lookupswitch.offset l dflt b.toInt) = _
          rw [if_neg (fun z => a2' z.symm)]
    obtain ⟨off, tgt, t1, t2, t3⟩ := main _ _ A.r h
    exact kr_lookup hd hp t1 t2 t3
  · cases h
end ZA
