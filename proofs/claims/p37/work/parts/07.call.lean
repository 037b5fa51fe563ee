/-! calls -/
theorem am_wmono {p : Program} {l : Launch} {e : Env} {R : Room} {s : State} {m : MethodId} {args : Array Value} {below : List Frame} {meth : Method} {c : Code} {H : Heap} {locs : List Loc} {cells slots : Nat} {Q Q' : State → Prop} {f : JFrame} (hq : ∀ t, Q t → Q' t) (h : W p l e R s m args below meth c H locs cells slots Q f) : W p l e R s m args below meth c H locs cells slots Q' f := by
  intro T hT X
  obtain ⟨t, a, b⟩ := h T hT X
  exact ⟨t, a, hq t b⟩
theorem am_args (g : am_C) : ∀ (as : List Value) (i : Nat), lv_args i (as.map (am_rel g)) = am_lv g (lv_args i as)
  | [], _ => rfl
  | a :: as, i => by
    simp only [List.map_cons, lv_args, am_cat, am_args g as]
    rfl
theorem am_sl (g : am_C) (as : List Value) : (lg_sl (as.map (am_rel g))).length = (lg_sl as).length := by
  induction as with
  | nil => rfl
  | cons a l ih =>
    simp only [lg_sl, List.map_cons, List.flatMap_cons, List.length_append, am_cat] at ih ⊢
    rw [ih]
    congr 1
    split <;> rfl
/-- a method that is called by its words -/
def am_MO (M : am_M) (n : Nat) : Prop := plainName M.1.cls = true ∧ M.2.2.2.2 = [] ∧ Cond.code M.1 M.2.1 M.2.2.1 M.2.2.2.1 ∈ lw_tbl ∧ Cond.initialized M.1.cls ∈ lw_tbl ∧ (M.1.cls ≠ "java/lang/invoke/MethodHandle" ∧ M.1.cls ≠ "java/lang/invoke/VarHandle") ∧ (parseMethodDescriptor M.1.desc).map (fun d => d.parameters.length) = some n ∧ M.2.2.1 ≤ 21
def am_ML (own : String) (idx : Nat) (y : MethodName) : Prop := Cond.methodLink own idx y ∈ lw_tbl ∨ ∃ host, Cond.methodLinkNest own idx y host ∈ lw_tbl
abbrev am_rm (d mc ms : Nat) : Room := { frames := d, cells := mc, slots := ms, locals := 40 * d }
abbrev am_Pc (g : am_C) (as : List Value) (σ : am_S) : Array Value → State → Prop := va_Pc (as.map (am_rel g)) (fun U => am_Rep g σ U.heap ∧ g.2.1.WarmedH U.vm)
theorem am_blind (g : am_C) (as : List Value) (σ : am_S) : FrameBlind (am_Pc g as σ) := fun a U f mk q => ⟨q.1, q.2.1, q.2.2⟩
theorem am_body {g : am_C} {M : am_M} {n : Nat} (hO : am_MO M n) {d mc ms : Nat} {p : Program} {e : Env} {s : State} {m : MethodId} {args : Array Value} {below : List Frame} {meth : Method} {c : Code} {s₁ : State} (B : BodyLoose p g.1 M.1 (headSpec [Cond.code M.1 M.2.1 M.2.2.1 M.2.2.2.1] (am_rm d mc ms)) M.2.1 M.2.2.1 M.2.2.2.1 e s m args below meth c s₁) (hml : c.maxLocals = M.2.2.1) {σ : am_S} (hR : am_Rep g σ s.heap) (hW : g.2.1.WarmedH s.vm) : am_F g M p s m meth c := by
  refine ⟨B.exec, B.bytes, hml, B.returns, B.notSynchronized, findClass_of_methodNamed B.named, hW, fun _ => (name_of_methodNamed B.named B.method).1, Or.inr ?_, by rw [hR.1]; exact Nat.le_add_right _ _, hR.2.2.1⟩
  obtain ⟨meth9, c9, e1, e2, -, -, -, -, h7, -⟩ := Cond.code_spec B.named (atoms_spec (ws := [Cond.code M.1 M.2.1 M.2.2.1 M.2.2.2.1]) B.pre _ List.mem_cons_self)
  cases Option.some.inj (e1.symm.trans B.method)
  cases Option.some.inj (e2.symm.trans (Stand.of_body B).code)
  rw [Array.isEmpty_iff.mp h7, hO.2.1]
  rfl
theorem am_met {g : am_C} {d mc ms n : Nat} {M : am_M} {as : List Value} {σ : am_S} {post : Option (Option Value) → am_S → Prop} (hO : am_MO M n) (hlen : (lg_sl as).length ≤ M.2.2.1) (hnt : ∀ σ', ¬ post none σ') (k : am_K g d M mc ms 0 (lv_args 0 as) [] σ post) : Met g.1 M.1 [Cond.code M.1 M.2.1 M.2.2.1 M.2.2.2.1] (am_rm d mc ms) (am_Pc g as σ) (am_Qc g post) mc ms (fun q => am_b0 g ≤ q) := by
  refine Met.ofW (cc := M.2.1) (maxL := M.2.2.1) (ret := M.2.2.2.1) hO.1 rfl ?_
  intro p e s m args below meth c s₁ B hml hv
  obtain ⟨rfl, hR, hW⟩ := hv
  rw [lg_entry_eq]
  have hl := lv_entry (as.map (am_rel g)) (n := M.2.2.1) (by rw [am_sl]; exact hlen)
  rw [am_args] at hl
  have hw := k p e (am_rm d mc ms) s m (as.map (am_rel g)).toArray below meth c s.heap [] 0 0 _ (am_body hO B hml hR hW) (Nat.le_refl _) (Nat.le_refl _) (by show 0 + mc ≤ mc; omega) (by show 0 + ms ≤ ms; omega) hR (fun q h => by cases h) hl
  rw [Nat.zero_add, Nat.zero_add] at hw
  refine am_wmono ?_ hw
  intro t ht
  obtain ⟨o, a1, a2, a3 | ⟨q, -, E, ce, L, ⟨-, σ', h9, -⟩, -⟩⟩ := ht
  · exact ⟨o, a1, a2, a3⟩
  · exact absurd h9 (hnt σ')
section KC
variable {g : am_C} {d : Nat} {M M1 : am_M} {mc ms mc1 ms1 pc d1 n idx : Nat} {lv : List (Nat × Value)} {st stk as : List Value} {σ : am_S} {post post1 : Option (Option Value) → am_S → Prop}
theorem am_cb (G : am_G g) {s : State} (hW : g.2.1.WarmedH s.vm) (hO : am_MO M1 n) (hd1 : d1 + 1 ≤ d) {R : Room} (h1 : d ≤ R.frames) (h2 : 40 * d ≤ R.locals) (args : Array Value) :
    (am_rm d1 mc1 ms1).cells = mc1 ∧ (am_rm d1 mc1 ms1).slots = ms1 ∧ (am_rm d1 mc1 ms1).frames + 1 ≤ R.frames ∧ 8 + (M1.2.2.1 + 11) + (am_rm d1 mc1 ms1).locals ≤ R.locals ∧ (∀ w ∈ [Cond.code M1.1 M1.2.1 M1.2.2.1 M1.2.2.2.1], ∀ (a' : Array Value) (U : State), s.WarmedH U.vm → w.before a' U = true) ∧ Cond.code M1.1 M1.2.1 M1.2.2.1 M1.2.2.2.1 ∈ [Cond.code M1.1 M1.2.1 M1.2.2.1 M1.2.2.2.1] ∧
    (Cond.code M1.1 M1.2.1 M1.2.2.1 M1.2.2.2.1).before args s = true ∧ (Cond.initialized M1.1.cls).before args s = true ∧ (M1.1.cls ≠ "java/lang/invoke/MethodHandle" ∧ M1.1.cls ≠ "java/lang/invoke/VarHandle") ∧ (∀ sig, parseMethodDescriptor M1.1.desc = some sig → n = sig.parameters.length) := by
  obtain ⟨-, -, hcw, hini, hne, hpd, hml⟩ := hO
  refine ⟨rfl, rfl, ?_, ?_, ?_, List.mem_cons_self, am_w G hW args hcw rfl, am_w G hW args hini rfl, hne, ?_⟩
  · show d1 + 1 ≤ R.frames
    omega
  · show 8 + (M1.2.2.1 + 11) + 40 * d1 ≤ R.locals
    omega
  · intro w hw a' U hU
    rw [List.mem_singleton.mp hw]
    exact am_w G (State.WarmedH.trans hW hU) a' hcw rfl
  · intro sig h
    rw [h] at hpd
    exact (Option.some.inj hpd).symm
theorem am_ps {s : State} {H : Heap} (hW : g.2.1.WarmedH s.vm) (hR : am_Rep g σ H) : PreS s H (am_Pc g as σ) (as.map (am_rel g)) :=
  ⟨am_blind g as σ, fun U hU hWU => ⟨rfl, by rw [hU]; exact hR, State.WarmedH.trans hW hWU⟩⟩
/-- what goes on behind a call -/
theorem am_after {p : Program} {e : Env} {R : Room} {s : State} {m : MethodId} {args : Array Value} {below : List Frame} {meth : Method} {c : Code} {H : Heap} {locs : List Loc} {cells slots : Nat} {ls : Array Slot} {a9 : Array Value} (F : am_F g M p s m meth c) (h1 : d ≤ R.frames) (h2 : 40 * d ≤ R.locals) (h3 : cells + (mc1 + mc) ≤ R.cells) (h4 : slots + (ms1 + ms) ≤ R.slots) (hL : ∀ q ∈ locs, am_b0 g ≤ q.base) (hl : lv_has ls M.2.2.1 (am_lv g lv))
    (hr : va_Run p g.1 e R s m args below meth c H locs cells slots mc1 ms1 (F0 m pc ls (stk.map (am_rel g))) (st.map (am_rel g)) (am_Qc g post1 a9) (fun q => am_b0 g ≤ q)) (kk : ∀ v σ', post1 (some v) σ' → am_K g d M mc ms (pc + 3) lv (v.toList ++ st) σ' post) :
    W p g.1 e R s m args below meth c H locs cells slots (vx_MQ below (am_Qc g post) (am_Xc g post) args s (cells + (mc1 + mc)) (slots + (ms1 + ms)) (fun q => am_b0 g ≤ q)) (F0 m pc ls (stk.map (am_rel g))) := by
  intro T hT X
  obtain ⟨v, st₀, t, T', L, h0, X', hL', e1, e2, ⟨v', σ', ho, hp, hR'⟩, stp⟩ := hr T hT X
  cases ho
  rw [← Nat.add_assoc, ← Nat.add_assoc]
  have hw := kk v' σ' hp p e R s m args below meth c T'.heap (locs ++ L) (cells + mc1) (slots + ms1) ls F h1 h2 (by omega) (by omega) (by rw [e1]; exact hR') (fun q hq => by
    rcases List.mem_append.mp hq with h | h
    · exact hL q h
    · exact hL' q h) hl
  obtain ⟨t2, a1, b1⟩ := hw T' rfl X'
  refine ⟨t2, stp t2 ?_, b1⟩
  have he : (v'.map (am_rel g)).toList ++ st.map (am_rel g) = (v'.toList ++ st).map (am_rel g) := by cases v' <;> rfl
  show Steps p.tables e below (T'.setTop (F0 m (pc + 3) ls ((v'.map (am_rel g)).toList ++ st.map (am_rel g)))) t2
  rw [he]
  exact a1
theorem am_stk (hst : stk = as.reverse ++ st) : stk.map (am_rel g) = (as.map (am_rel g)).reverse ++ st.map (am_rel g) := by
  rw [hst, List.map_append, List.map_reverse]
theorem am_rest {m : MethodId} {ls : Array Slot} {x : List Value} (hroom : (st.map fun v => v.category).sum ≤ 8) : 2 * (F0 m pc ls x).monitorRoom + ((st.map (am_rel g)).map fun v => v.category).sum ≤ 8 := by
  have : (st.map (am_rel g)).map (fun v => v.category) = st.map (fun v => v.category) := by
    rw [List.map_map]
    apply List.map_congr_left
    intro v _
    exact am_cat g v
  rw [this]
  show 2 * 0 + _ ≤ 8
  omega
theorem kr_callS (G : am_G g) (hO : am_MO M1 n) (hs : Cond.static M1.1 ∈ lw_tbl) (hlk : am_ML M.1.cls idx M1.1) (hd : decode M.2.1 pc = .ok (.invokestatic idx, 3)) (hn : as.length = n) (hlen : (lg_sl as).length ≤ M1.2.2.1) (hst : stk = as.reverse ++ st) (hroom : (st.map fun v => v.category).sum ≤ 8) (hd1 : d1 + 1 ≤ d) (hnt : ∀ σ', ¬ post1 none σ') (k1 : am_K g d1 M1 mc1 ms1 0 (lv_args 0 as) [] σ post1) (kk : ∀ v σ', post1 (some v) σ' → am_K g d M mc ms (pc + 3) lv (v.toList ++ st) σ' post) : am_K g d M (mc1 + mc) (ms1 + ms) pc lv stk σ post := by
  intro p e R s m args below meth c H locs cells slots ls F h1 h2 h3 h4 hR hL hl
  have hW := F.2.2.2.2.2.2.1
  have cb := am_cb (mc1 := mc1) (ms1 := ms1) (M1 := M1) G hW hO hd1 h1 h2 args
  refine am_after (a9 := (as.map (am_rel g)).toArray) F h1 h2 h3 h4 hL hl ?_ kk
  rcases hlk with hlk | ⟨host, hlk⟩
  · exact va_runS (Ts := am_T) ⟨F.1, F.2.1, F.2.2.1, F.2.2.2.2.2.1, am_hts G hW args⟩ (am_met hO hlen hnt k1) ⟨⟨cb.1, cb.2.1, cb.2.2.1, cb.2.2.2.1, cb.2.2.2.2.1, cb.2.2.2.2.2.1, cb.2.2.2.2.2.2.1, cb.2.2.2.2.2.2.2.1, cb.2.2.2.2.2.2.2.2.1, cb.2.2.2.2.2.2.2.2.2, am_w G hW args hlk rfl⟩, am_w G hW args hs rfl⟩ (am_ps hW hR) rfl (by rw [List.length_map]; exact hn) hl.1 (am_stk hst) (am_rest hroom) hd ⟨by omega, by omega⟩
  · exact va_runSN (Ts := am_T) ⟨F.1, F.2.1, F.2.2.1, F.2.2.2.2.2.1, am_hts G hW args⟩ (am_met hO hlen hnt k1) ⟨⟨⟨cb.1, cb.2.1, cb.2.2.1, cb.2.2.2.1, cb.2.2.2.2.1, cb.2.2.2.2.2.1⟩, cb.2.2.2.2.2.2.1, cb.2.2.2.2.2.2.2.1, cb.2.2.2.2.2.2.2.2.1, cb.2.2.2.2.2.2.2.2.2, va_Nw.use rfl (va_Nw.warmM hW (va_Nw.of rfl (G.1 _ hlk)))⟩, am_w G hW args hs rfl, trivial⟩ (am_ps hW hR) rfl (by rw [List.length_map]; exact hn) hl.1 (am_stk hst) (am_rest hroom) hd ⟨by omega, by omega⟩
theorem kr_callV (G : am_G g) {o ci N : Nat} {T : u_T} (hc : vwCl[ci]? = some (M1.1.cls, T, N)) (ho : σ.1[o]? = some (.inl ci)) (hO : am_MO M1 n) (hs : Cond.instanceMethod M1.1 ∈ lw_tbl) (hsel : Cond.selects M1.1.cls M1.1 M1.1 ∈ lw_tbl) (hlk : am_ML M.1.cls idx M1.1) (hd : decode M.2.1 pc = .ok (.invokevirtual idx, 3)) (hn : as.length = n) (hlen : (lg_sl (.ref o :: as)).length ≤ M1.2.2.1) (hst : stk = as.reverse ++ .ref o :: st) (hroom : (st.map fun v => v.category).sum ≤ 8) (hd1 : d1 + 1 ≤ d) (hnt : ∀ σ', ¬ post1 none σ') (k1 : am_K g d1 M1 mc1 ms1 0 (lv_args 0 (.ref o :: as)) [] σ post1) (kk : ∀ v σ', post1 (some v) σ' → am_K g d M mc ms (pc + 3) lv (v.toList ++ st) σ' post) : am_K g d M (mc1 + mc) (ms1 + ms) pc lv stk σ post := by
  intro p e R s m args below meth c H locs cells slots ls F h1 h2 h3 h4 hR hL hl
  have hW := F.2.2.2.2.2.2.1
  have cb := am_cb (mc1 := mc1) (ms1 := ms1) (M1 := M1) G hW hO hd1 h1 h2 args
  have hpv : PreV s H M1.1.cls (am_b0 g + o) (am_Pc g (.ref o :: as) σ) (as.map (am_rel g)) := ⟨am_blind g _ σ, va_recv (am_hK G hW) (am_P1 (am_obj hR ho hc)) (q0 := 0) hc rfl, (am_ps hW hR).2⟩
  have hst' : (F0 m pc ls (stk.map (am_rel g))).stack = (as.map (am_rel g)).reverse ++ .ref (am_b0 g + o) :: st.map (am_rel g) := by
    show stk.map (am_rel g) = _
    rw [hst, List.map_append, List.map_reverse]
    rfl
  refine am_after (a9 := (Value.ref (am_b0 g + o) :: as.map (am_rel g)).toArray) F h1 h2 h3 h4 hL hl ?_ kk
  rcases hlk with hlk | ⟨host, hlk⟩
  · exact va_runV (Ts := am_T) ⟨F.1, F.2.1, F.2.2.1, F.2.2.2.2.2.1, am_hts G hW args⟩ (am_met hO hlen hnt k1) ⟨⟨cb.1, cb.2.1, cb.2.2.1, cb.2.2.2.1, cb.2.2.2.2.1, cb.2.2.2.2.2.1, cb.2.2.2.2.2.2.1, cb.2.2.2.2.2.2.2.1, cb.2.2.2.2.2.2.2.2.1, cb.2.2.2.2.2.2.2.2.2, am_w G hW args hlk rfl⟩, am_w G hW args hs rfl, am_w G hW args hsel rfl⟩ hpv rfl (by rw [List.length_map]; exact hn) hl.1 hst' (am_rest hroom) hd ⟨by omega, by omega⟩
  · exact va_runVN (Ts := am_T) ⟨F.1, F.2.1, F.2.2.1, F.2.2.2.2.2.1, am_hts G hW args⟩ (am_met hO hlen hnt k1) ⟨⟨⟨cb.1, cb.2.1, cb.2.2.1, cb.2.2.2.1, cb.2.2.2.2.1, cb.2.2.2.2.2.1⟩, cb.2.2.2.2.2.2.1, cb.2.2.2.2.2.2.2.1, cb.2.2.2.2.2.2.2.2.1, cb.2.2.2.2.2.2.2.2.2, va_Nw.use rfl (va_Nw.warmM hW (va_Nw.of rfl (G.1 _ hlk)))⟩, am_w G hW args hs rfl, am_w G hW args hsel rfl⟩ hpv rfl (by rw [List.length_map]; exact hn) hl.1 hst' (am_rest hroom) hd ⟨by omega, by omega⟩
theorem kr_callI (G : am_G g) {o : Nat} (hO : am_MO M1 n) (hret : M1.2.2.2.1 = none) (hnm : M1.1.name = "<init>") (hs : Cond.instanceMethod M1.1 ∈ lw_tbl) (hlk : am_ML M.1.cls idx M1.1) (hd : decode M.2.1 pc = .ok (.invokespecial idx, 3)) (hn : as.length = n) (hlen : (lg_sl (.ref o :: as)).length ≤ M1.2.2.1) (hst : stk = as.reverse ++ .ref o :: st) (hroom : (st.map fun v => v.category).sum ≤ 8) (hd1 : d1 + 1 ≤ d) (hnt : ∀ σ', ¬ post1 none σ') (k1 : am_K g d1 M1 mc1 ms1 0 (lv_args 0 (.ref o :: as)) [] σ post1) (kk : ∀ v σ', post1 (some v) σ' → am_K g d M mc ms (pc + 3) lv (v.toList ++ st) σ' post) : am_K g d M (mc1 + mc) (ms1 + ms) pc lv stk σ post := by
  intro p e R s m args below meth c H locs cells slots ls F h1 h2 h3 h4 hR hL hl
  have hW := F.2.2.2.2.2.2.1
  have cb := am_cb (mc1 := mc1) (ms1 := ms1) (M1 := M1) G hW hO hd1 h1 h2 args
  have hM := am_met hO hlen hnt k1
  rw [hret] at cb hM
  have hst' : (F0 m pc ls (stk.map (am_rel g))).stack = (as.map (am_rel g)).reverse ++ .ref (am_b0 g + o) :: st.map (am_rel g) := by
    show stk.map (am_rel g) = _
    rw [hst, List.map_append, List.map_reverse]
    rfl
  refine am_after (a9 := (Value.ref (am_b0 g + o) :: as.map (am_rel g)).toArray) F h1 h2 h3 h4 hL hl ?_ kk
  rcases hlk with hlk | ⟨host, hlk⟩
  · exact va_runI (Ts := am_T) ⟨F.1, F.2.1, F.2.2.1, F.2.2.2.2.2.1, am_hts G hW args⟩ hM ⟨⟨cb.1, cb.2.1, cb.2.2.1, cb.2.2.2.1, cb.2.2.2.2.1, cb.2.2.2.2.2.1, cb.2.2.2.2.2.2.1, cb.2.2.2.2.2.2.2.1, cb.2.2.2.2.2.2.2.2.1, cb.2.2.2.2.2.2.2.2.2, am_w G hW args hlk rfl⟩, hnm, am_w G hW args hs rfl⟩ (am_ps (as := .ref o :: as) hW hR) rfl (by rw [List.length_map]; exact hn) hl.1 hst' (am_rest hroom) hd ⟨by omega, by omega⟩
  · exact va_runIN (Ts := am_T) ⟨F.1, F.2.1, F.2.2.1, F.2.2.2.2.2.1, am_hts G hW args⟩ hM ⟨⟨⟨cb.1, cb.2.1, cb.2.2.1, cb.2.2.2.1, cb.2.2.2.2.1, cb.2.2.2.2.2.1⟩, cb.2.2.2.2.2.2.1, cb.2.2.2.2.2.2.2.1, cb.2.2.2.2.2.2.2.2.1, cb.2.2.2.2.2.2.2.2.2, va_Nw.use rfl (va_Nw.warmM hW (va_Nw.of rfl (G.1 _ hlk)))⟩, hnm, am_w G hW args hs rfl⟩ (am_ps (as := .ref o :: as) hW hR) rfl (by rw [List.length_map]; exact hn) hl.1 hst' (am_rest hroom) hd ⟨by omega, by omega⟩
theorem am_oi : Cond.instanceMethod Lib.objectInit ∈ lw_tbl ∧ Cond.code Lib.objectInit ⟨#[0xb1]⟩ 1 none ∈ lw_tbl := ⟨by decide +kernel, by decide +kernel⟩
theorem kr_objInit (G : am_G g) {o : Nat} (hlk : Cond.methodLink M.1.cls idx Lib.objectInit ∈ lw_tbl) (hd : decode M.2.1 pc = .ok (.invokespecial idx, 3)) (hd1 : 1 ≤ d) (hroom : (st.map fun v => v.category).sum ≤ 8) (kk : am_K g d M mc ms (pc + 3) lv st σ post) : am_K g d M mc ms pc lv (.ref o :: st) σ post := by
  intro p e R s m args below meth c H locs cells slots ls F h1 h2 h3 h4 hR hL hl
  have hW := F.2.2.2.2.2.2.1
  have hr := am_rest (g := g) (m := m) (pc := pc) (ls := ls) (x := []) hroom
  refine W.objInit F.1 F.2.1 F.2.2.2.2.2.1 (am_w G hW args hlk rfl) (am_w G hW args am_oi.1 rfl) (am_w G hW args am_oi.2 rfl) rfl (by rw [F.2.2.1]; exact hl.1) rfl hd (by omega) ?_ (kk p e R s m args below meth c H locs cells slots ls F h1 h2 h3 h4 hR hL hl)
  show 2 * 0 + _ + 12 ≤ R.locals
  have hr' : 2 * 0 + ((st.map (am_rel g)).map fun v => v.category).sum ≤ 8 := hr
  omega
end KC
