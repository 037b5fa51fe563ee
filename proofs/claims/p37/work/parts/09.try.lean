/-! the throw as a row; a call that may throw, in a method that catches it and answers 1; calls of such methods -/
def am_isD (w : Cond) : Bool := match w with
  | .declares _ => true
  | _ => false
def am_hw (w : Cond) : Bool := decide (w = .isRef (.static Bundle.tN "UNASSIGNED_STACK" Bundle.steD)) || decide (w = .isRef (.static Bundle.tN "SUPPRESSED_SENTINEL" Bundle.listD)) || decide (w = .laysStatic Bundle.tN "UNASSIGNED_STACK" Bundle.steD) || decide (w = .laysStatic Bundle.tN "SUPPRESSED_SENTINEL" Bundle.listD)
theorem am_thr_ok : (am_thr RX11 155).all (fun w => am_hw w || (decide (w ∈ lw_tbl) && (goodWord w || am_isD w))) = true := by decide +kernel
theorem am_thr_at {g : am_C} (G : am_G g) {s : State} (hW : g.2.1.WarmedH s.vm) (hq : ∀ q : Nat, q < am_b0 g → s.heap[q]? = g.2.1.heap[q]?) (args : Array Value) : ∀ w ∈ am_thr RX11 155, w.before args s = true := by
  intro w hw
  have h := List.all_eq_true.mp am_thr_ok w hw
  have hU : vx_Zq Bundle.tN "UNASSIGNED_STACK" Bundle.steD (fun q => am_b0 g ≤ q) s s.heap := vx_Zq.moved hW.alike (G.2.2.2.2.2.2.1.kept (fun a ha _ => hq a ha))
  have hN : vx_Zq Bundle.tN "SUPPRESSED_SENTINEL" Bundle.listD (fun q => am_b0 g ≤ q) s s.heap := vx_Zq.moved hW.alike (G.2.2.2.2.2.2.2.kept (fun a ha _ => hq a ha))
  rw [Bool.or_eq_true] at h
  rcases h with h | h
  · simp only [am_hw, Bool.or_eq_true, decide_eq_true_eq] at h
    rcases h with ((h | h) | h) | h
    · rw [h]; exact vx_isRefq hU.1
    · rw [h]; exact vx_isRefq hN.1
    · rw [h]; exact hU.2.word
    · rw [h]; exact hN.2.word
  · rw [Bool.and_eq_true, decide_eq_true_eq, Bool.or_eq_true] at h
    obtain ⟨h1, h2 | h2⟩ := h
    · exact am_w G hW args h1 h2
    · match w, h1, h2 with
      | .declares x, h1, _ => exact va_Nw.use rfl (va_Nw.warmD hW (va_Nw.of rfl (G.1 _ h1)))
theorem am_Rep_junk {g : am_C} {σ : am_S} {H H1 : Heap} (hR : am_Rep g σ H) (z : H.size ≤ H1.size) (oq : ∀ q : Nat, q < H.size → H1[q]? = H[q]?) : am_Rep g (σ.1 ++ List.replicate (H1.size - H.size) (.inl 99), σ.2) H1 := by
  obtain ⟨r1, r2, r3, r4⟩ := hR
  refine ⟨?_, fun i y e hi hy => ?_, fun q hq => ?_, fun i j hi => ?_⟩
  · show H1.size = am_b0 g + (σ.1 ++ List.replicate (H1.size - H.size) (Sum.inl 99)).length
    rw [List.length_append, List.length_replicate]
    omega
  · have hy' : am_ce g σ i y = some e := hy
    have hi2 : (σ.1 ++ List.replicate (H1.size - H.size) (Sum.inl 99))[i]? = some y := hi
    by_cases h : i < σ.1.length
    · rw [List.getElem?_append_left h] at hi2
      exact (r2 i y e hi2 hy').kept (oq _ (by show am_b0 g + i < H.size; omega))
    · rw [List.getElem?_append_right (by omega)] at hi2
      have := List.eq_of_mem_replicate (List.mem_of_getElem? hi2)
      subst this
      cases hy'
  · rw [oq q (by omega)]
    exact r3 q hq
  · refine r4 i j ?_
    have hi2 : (σ.1 ++ List.replicate (H1.size - H.size) (Sum.inl 99)).length ≤ i := hi
    rw [List.length_append] at hi2
    omega
theorem am_ini_nse : Cond.initialized am_nse ∈ lw_tbl ∧ Cond.castable am_nse am_nse ∈ lw_tbl := ⟨by decide +kernel, by decide +kernel⟩
section KT
variable {g : am_C} {d : Nat} {M M1 : am_M} {mc ms mc1 ms1 pc d1 n idx : Nat} {lv : List (Nat × Value)} {st stk as : List Value} {σ : am_S} {post post1 : Option (Option Value) → am_S → Prop}
set_option maxHeartbeats 4000000 in
/-- the throw, from behind the text on: the text by whatever step -/
theorem am_throw (G : am_G g) {ik : Nat} {ln : Nat} (hown : M.1.cls = RX11) (hnl : M.1.name ≠ "law") (hh : M.2.2.2.2 = []) (d0 : decode M.2.1 pc = .ok (.new ik, 3)) (d3 : decode M.2.1 (pc + 3) = .ok (.dup, 1)) (d6 : decode M.2.1 (pc + 4 + ln) = .ok (.invokespecial 155, 3)) (d9 : decode M.2.1 (pc + 4 + ln + 3) = .ok (.athrow, 1)) (hk : Cond.classLink RX11 ik am_nse ∈ lw_tbl) (hd1 : 6 ≤ d) (hroom : (st.map fun v => v.category).sum ≤ 8) (hp : ∀ J : List am_sh, (∀ x ∈ J, x = .inl 99) → post none (σ.1 ++ J, σ.2)) (sa : Nat)
    (htext : ∀ (p : Program) (e : Env) (R : Room) (s : State) (m : MethodId) (args : Array Value) (below : List Frame) (meth : Method) (c : Code) (T : State) (locs : List Loc) (cells slots : Nat), p.tables.exec = Jvm.exec → c.code = M.2.1 → s.vm.findClass RX11 = some m.cls → g.2.1.WarmedH s.vm → Stand p g.1 e R s m args below meth c T locs cells slots → ∀ (f : JFrame), f.method = m → f.pc = pc + 4 → ∀ target, Steps p.tables e below (T.setTop { f with pc := f.pc + ln, stack := .ref sa :: f.stack }) target → Steps p.tables e below (T.setTop f) target) :
    am_K g d M (mc + 1) (ms + 6) pc lv st σ post := by
  intro p e R s m args below meth c H locs cells slots ls F h1 h2 h3 h4 hR hL hl T hT X
  have hW := F.2.2.2.2.2.2.1
  have hexec := F.1
  have hb := F.2.1
  have htr : e.platform.stackTraces = false := (show e.platform.stackTraces = g.1.stackTraces by rw [X.admits.platform]).trans G.2.2.2.2.2.1
  have Y := vx_rebase X (R' := { frames := R.frames, locals := R.locals, cells := 1, slots := 6 }) (Nat.le_refl _) (Nat.le_refl _) (by show cells + 1 ≤ R.cells; omega) (by show slots + 6 ≤ R.slots; omega)
  obtain ⟨s', hA⟩ : ∃ z, z = (T.setVm s.vm).setFrames (.invoking m args :: below) := ⟨_, rfl⟩
  rw [← hA] at Y
  have hvm : s'.vm = s.vm := by rw [hA]; rfl
  have hhp : s'.heap = H := by rw [hA]; exact hT
  have hW' : g.2.1.WarmedH s'.vm := by rw [hvm]; exact hW
  have hW0 : s.WarmedH s'.vm := by rw [hvm]; exact State.WarmedH.refl s
  have hwd := am_thr_at G hW' (by rw [hhp]; exact hR.2.2.1) args
  have hown' : s'.vm.findClass RX11 = some m.cls := by rw [hvm, ← hown]; exact F.2.2.2.2.2.1
  have hins : (Cond.instantiable am_nse 6).before args s' = true := hwd _ (by simp [am_thr])
  obtain ⟨vm₁, cX, kX, hfX, hkX, -, -, X₁, st1⟩ := Y.newCold hexec (own := RX11) (C := am_nse) (index := ik) (n := 6) hown' (am_w G hW' args hk rfl) hins (am_w G hW' args am_ini_nse.1 rfl)
    (g := F0 m pc ls (st.map (am_rel g))) rfl (by rw [hb]; exact d0) (Nat.le_refl _) (Nat.le_refl _)
  generalize hT1 : (T.setVm vm₁).pushCell { cls := cX, slots := kX.instanceTypes.map defaultValue, vm := .none } = T1 at X₁ st1
  have hcat : (Value.ref T.heap.size).category = 1 := rfl
  have hcellA : T1.heap[T.heap.size]? = some (freshCell cX kX) := by rw [← hT1]; exact State.heap_pushCell_size _ _
  have d3' : decode c.code (pc + 3) = .ok (.dup, 1) := by rw [hb]; exact d3
  have hrm := am_rest (g := g) (m := m) (pc := pc) (ls := ls) (x := []) hroom
  have hrm' : 2 * 0 + ((st.map (am_rel g)).map fun v => v.category).sum ≤ 8 := hrm
  obtain ⟨U, hsteps, hrun, hend, hWU, hsame, ce, hce, hcv, hcl⟩ := am_ctor X₁ hexec htr (own := RX11) (ic := 155) hown' hwd (fun x hx => nomatch hx) hfX hkX hcellA (by rw [hhp, hT]; exact Nat.le_refl _) (msg := .ref sa) rfl
    (f := { method := m, pc := pc + 4 + ln, locals := ls, stack := .ref sa :: .ref T.heap.size :: .ref T.heap.size :: st.map (am_rel g), locked := none }) rfl (by rw [F.2.2.1]; exact hl.1) rfl rfl (rest := st.map (am_rel g)) rfl
    (by rw [hb]; exact d6) (by rw [hb]; exact d9) (by rw [F.2.2.2.2.2.2.2.2.1.resolve_left hnl, hh]; intro x hx; cases hx) (by show 5 < R.frames; omega) (by show 2 * 0 + _ + 81 ≤ R.locals; simp only [List.map_cons, List.sum_cons, hcat]; omega) F.2.2.2.2.1
  obtain ⟨f1, f2⟩ := vx_frame hsame
  rw [hhp] at f1 f2
  have hWs : s.WarmedH U.vm := State.WarmedH.trans hW0 hWU
  have hall : s.sameButNew ({ U with vm := s.vm } : State) locs (cells + (mc + 1)) (slots + (ms + 6)) := by
    subst hA
    obtain ⟨e1, e2⟩ := hsame
    rw [State.setFrames_setFrames] at e1
    have h2 : (T.setVm s.vm).sameButNew ({ U with vm := s.vm } : State) [] (0 + 1) (0 + 6) := ⟨e1, e2⟩
    have h3 := X.same.trans h2
    rw [List.append_nil] at h3
    exact h3.mono (by omega) (by omega)
  refine ⟨U, ?_, .threw T.heap.size, hrun, hend, Or.inr ⟨T.heap.size, rfl, am_nse, ce, locs, ⟨rfl, _, hp _ (fun x hx => List.eq_of_mem_replicate hx), am_Rep_junk hR f1 (fun q hq => f2 q hq (fun z hz => nomatch hz))⟩, hce, hcv, by rw [hvm] at hcl; exact hcl, hWs, hall, hL⟩⟩
  refine st1 _ ?_
  show Steps p.tables e below (T1.setTop { method := m, pc := pc + 3, locals := ls, stack := .ref T.heap.size :: st.map (am_rel g), locked := none }) _
  jvm_step X₁.here [X₁.here.top, hexec, d3', Value.category]
  exact htext p e _ s' m args below meth c T1 _ _ _ hexec hb hown' hW' X₁ { method := m, pc := pc + 4, locals := ls, stack := .ref T.heap.size :: .ref T.heap.size :: st.map (am_rel g), locked := none } rfl rfl _ hsteps
theorem kr_throwS (G : am_G g) {ik is : Nat} {tx : String} (hown : M.1.cls = RX11) (hnl : M.1.name ≠ "law") (hh : M.2.2.2.2 = []) (d0 : decode M.2.1 pc = .ok (.new ik, 3)) (d3 : decode M.2.1 (pc + 3) = .ok (.dup, 1)) (d4 : decode M.2.1 (pc + 4) = .ok (.ldc is, 2)) (d6 : decode M.2.1 (pc + 6) = .ok (.invokespecial 155, 3)) (d9 : decode M.2.1 (pc + 9) = .ok (.athrow, 1)) (hk : Cond.classLink RX11 ik am_nse ∈ lw_tbl) (hs : Cond.stringRef RX11 is tx ∈ lw_tbl) (hd1 : 6 ≤ d) (hroom : (st.map fun v => v.category).sum ≤ 8) (hp : ∀ J : List am_sh, (∀ x ∈ J, x = .inl 99) → post none (σ.1 ++ J, σ.2)) : am_K g d M (mc + 1) (ms + 6) pc lv st σ post := by
  refine am_throw G (ln := 2) hown hnl hh d0 d3 d6 d9 hk hd1 hroom hp (g.2.2.2.2.2.1 (am_sx RX11 is)) ?_
  intro p e R s m args below meth c T locs cells slots hx hb ho hW X f hf hpc target htg
  have hstr := vk_R.warm hW (G.2.2.2.2.1 _ _ _ hs)
  have h1 : decode c.code f.pc = .ok (.ldc is, 2) := by rw [hb, hpc]; exact d4
  exact X.ldcString hx (own := RX11) (text := tx) (index := is) ho hstr.1 hstr.2 hf h1 target htg
theorem kr_throwSW (G : am_G g) {ik is : Nat} {tx : String} (hown : M.1.cls = RX11) (hnl : M.1.name ≠ "law") (hh : M.2.2.2.2 = []) (d0 : decode M.2.1 pc = .ok (.new ik, 3)) (d3 : decode M.2.1 (pc + 3) = .ok (.dup, 1)) (d4 : decode M.2.1 (pc + 4) = .ok (.ldc_w is, 3)) (d6 : decode M.2.1 (pc + 7) = .ok (.invokespecial 155, 3)) (d9 : decode M.2.1 (pc + 10) = .ok (.athrow, 1)) (hk : Cond.classLink RX11 ik am_nse ∈ lw_tbl) (hs : Cond.stringRef RX11 is tx ∈ lw_tbl) (hd1 : 6 ≤ d) (hroom : (st.map fun v => v.category).sum ≤ 8) (hp : ∀ J : List am_sh, (∀ x ∈ J, x = .inl 99) → post none (σ.1 ++ J, σ.2)) : am_K g d M (mc + 1) (ms + 6) pc lv st σ post := by
  refine am_throw G (ln := 3) hown hnl hh d0 d3 d6 d9 hk hd1 hroom hp (g.2.2.2.2.2.1 (am_sx RX11 is)) ?_
  intro p e R s m args below meth c T locs cells slots hx hb ho hW X f hf hpc target htg
  have hstr := vk_R.warm hW (G.2.2.2.2.1 _ _ _ hs)
  have h1 : decode c.code f.pc = .ok (.ldc_w is, 3) := by rw [hb, hpc]; exact d4
  exact X.ldcStringW hx (own := RX11) (text := tx) (index := is) ho hstr.1 hstr.2 hf h1 target htg
theorem am_vmet (hO : am_MO M1 n) (hlen : (lg_sl as).length ≤ M1.2.2.1) (k : am_K g d M1 mc ms 0 (lv_args 0 as) [] σ post) : vx_Met g.1 M1.1 [Cond.code M1.1 M1.2.1 M1.2.2.1 M1.2.2.2.1] (am_rm d mc ms) (am_Pc g as σ) (am_Qc g post) (am_Xc g post) mc ms (fun q => am_b0 g ≤ q) := by
  refine vx_ofW (cc := M1.2.1) (maxL := M1.2.2.1) (ret := M1.2.2.2.1) hO.1 rfl ?_
  intro p e s m args below meth c s₁ B hml _ hv
  obtain ⟨rfl, hR, hW⟩ := hv
  rw [lg_entry_eq]
  have hl := lv_entry (as.map (am_rel g)) (n := M1.2.2.1) (by rw [am_sl]; exact hlen)
  rw [am_args] at hl
  have hw := k p e (am_rm d mc ms) s m (as.map (am_rel g)).toArray below meth c s.heap [] 0 0 _ (am_body hO B hml hR hW) (Nat.le_refl _) (Nat.le_refl _) (by show 0 + mc ≤ mc; omega) (by show 0 + ms ≤ ms; omega) hR (fun q h => by cases h) hl
  rw [Nat.zero_add, Nat.zero_add] at hw
  exact hw
set_option maxHeartbeats 4000000 in
theorem kr_try (G : am_G g) {o ci N : Nat} {T : u_T} (hc : vwCl[ci]? = some (M1.1.cls, T, N)) (ho : σ.1[o]? = some (.inl ci)) (hO : am_MO M1 n) (hs : Cond.instanceMethod M1.1 ∈ lw_tbl) (hsel : Cond.selects M1.1.cls M1.1 M1.1 ∈ lw_tbl) (hlk : Cond.methodLink M.1.cls idx M1.1 ∈ lw_tbl) (hd : decode M.2.1 pc = .ok (.invokevirtual idx, 3)) (hn : as.length = n) (hlen : (lg_sl (.ref o :: as)).length ≤ M1.2.2.1) (hst : stk = as.reverse ++ .ref o :: st) (hroom : (st.map fun v => v.category).sum ≤ 8) (hd1 : d1 + 1 ≤ d)
    {ta tb th tc li : Nat} (hnl : M.1.name ≠ "law") (hh : M.2.2.2.2 = [(ta, tb, th, tc)]) (hcov : covers ⟨ta, tb, th, tc⟩ pc = true) (hct : tc ≠ 0) (hck : Cond.classLink M.1.cls tc am_nse ∈ lw_tbl) (dh : decode M.2.1 th = .ok (.astore li, 2)) (di : decode M.2.1 (th + 2) = .ok (.iconst 1, 1)) (dr : decode M.2.1 (th + 2 + 1) = .ok (.ireturn, 1)) (hli : li < M.2.2.1) (hret : M.2.2.2.1 = some .int)
    (k1 : am_K g d1 M1 mc1 ms1 0 (lv_args 0 (.ref o :: as)) [] σ post1) (kk : ∀ v σ', post1 (some v) σ' → am_K g d M mc ms (pc + 3) lv (v.toList ++ st) σ' post) (kx : ∀ σ', post1 none σ' → post (some (some (.int 1))) σ') : am_K g d M (mc1 + mc) (ms1 + ms) pc lv stk σ post := by
  intro p e R s m args below meth c H locs cells slots ls F h1 h2 h3 h4 hR hL hl
  have hW := F.2.2.2.2.2.2.1
  have cb := am_cb (mc1 := mc1) (ms1 := ms1) (M1 := M1) G hW hO hd1 h1 h2 args
  have hpv : PreV s H M1.1.cls (am_b0 g + o) (am_Pc g (.ref o :: as) σ) (as.map (am_rel g)) := ⟨am_blind g _ σ, va_recv (am_hK G hW) (am_P1 (am_obj hR ho hc)) (q0 := 0) hc rfl, (am_ps hW hR).2⟩
  have hst' : (F0 m pc ls (stk.map (am_rel g))).stack = (as.map (am_rel g)).reverse ++ .ref (am_b0 g + o) :: st.map (am_rel g) := by
    show stk.map (am_rel g) = _
    rw [hst, List.map_append, List.map_reverse]
    rfl
  have hr := vx_runV (Ts := am_T) ⟨F.1, F.2.1, F.2.2.1, F.2.2.2.2.2.1, am_hts G hW args⟩ (am_vmet hO hlen k1) (cells := cells) (slots := slots) (e := e) (below := below) (meth := meth) (locs := locs) ⟨⟨cb.1, cb.2.1, cb.2.2.1, cb.2.2.2.1, cb.2.2.2.2.1, cb.2.2.2.2.2.1, cb.2.2.2.2.2.2.1, cb.2.2.2.2.2.2.2.1, cb.2.2.2.2.2.2.2.2.1, cb.2.2.2.2.2.2.2.2.2, am_w G hW args hlk rfl⟩, am_w G hW args hs rfl, am_w G hW args hsel rfl⟩ hpv rfl (by rw [List.length_map]; exact hn) hl.1 hst' (am_rest hroom) hd ⟨by omega, by omega⟩
  intro T' hT X
  rcases hr T' hT X with ⟨v, st₀, t, T2, L, h0, X', hL', e1, e2, ⟨v', σ', ho', hp', hR'⟩, stp⟩ | ⟨q, st₀, t, T2, L, E, ce, h0, X', hL', e1, e2, ⟨hE, σ', hp', hR'⟩, hce, hcv, hcl, stp⟩
  · cases ho'
    rw [← Nat.add_assoc, ← Nat.add_assoc]
    have hw := kk v' σ' hp' p e R s m args below meth c T2.heap (locs ++ L) (cells + mc1) (slots + ms1) ls F h1 h2 (by omega) (by omega) (by rw [e1]; exact hR') (fun q hq => by
      rcases List.mem_append.mp hq with h | h
      · exact hL q h
      · exact hL' q h) hl
    obtain ⟨t2, a1, b1⟩ := hw T2 rfl X'
    refine ⟨t2, stp t2 ?_, b1⟩
    have he : (v'.map (am_rel g)).toList ++ st.map (am_rel g) = (v'.toList ++ st).map (am_rel g) := by cases v' <;> rfl
    show Steps p.tables e below (T2.setTop (F0 m (pc + 3) ls ((v'.map (am_rel g)).toList ++ st.map (am_rel g)))) t2
    rw [he]
    exact a1
  · subst hE
    have hwx : vx_W p g.1 e R s m args below meth c T2.heap (locs ++ L) (cells + mc1) (slots + ms1) (vx_MQ below (am_Qc g post) (am_Xc g post) args s (cells + (mc1 + mc)) (slots + (ms1 + ms)) (fun q => am_b0 g ≤ q)) (F0 m pc ls (st.map (am_rel g))) q := by
      refine vx_catch (own := M.1.cls) (name := am_nse) (E := am_nse) (ce := ce) F.2.2.2.2.2.1 [] ⟨ta, tb, th, tc⟩ [] (by rw [F.2.2.2.2.2.2.2.2.1.resolve_left hnl, hh]; rfl) (fun z hz => by cases hz) hcov hct (am_w G hW args hck rfl) (va_Nw.use rfl (va_Nw.warmC hW (va_Nw.of rfl (G.1 _ am_ini_nse.2)))) (by rw [e1]; exact hce) hcv hcl ?_
      refine lv_astore F.1 F.2.1 dh hl hli rfl (fun ls' h' => ?_)
      refine lv_iconst (v := 1) F.1 F.2.1 di (by decide) ?_
      rw [← Nat.add_assoc, ← Nat.add_assoc]
      refine W.widen (Nat.le_add_right _ mc) (Nat.le_add_right _ ms) (vx_ret ?_)
      exact W.iret F.1 F.2.1 (F.2.2.2.1.trans hret) (fun t3 ht3 _ => ⟨some (.int 1), σ', rfl, kx σ' hp', by rw [ht3, e1]; exact hR'⟩) (fun z hz => by
        rcases List.mem_append.mp hz with h | h
        · exact hL z h
        · exact hL' z h) dr F.2.2.2.2.1
    obtain ⟨t2, a1, b1⟩ := hwx T2 rfl X'
    exact ⟨t2, stp.trans a1, b1⟩
/-- a method with a table -/
def am_MW (M : am_M) (n : Nat) : Prop := plainName M.1.cls = true ∧ Cond.codeWith M.1 M.2.1 M.2.2.1 M.2.2.2.1 M.2.2.2.2 ∈ lw_tbl ∧ Cond.initialized M.1.cls ∈ lw_tbl ∧ (M.1.cls ≠ "java/lang/invoke/MethodHandle" ∧ M.1.cls ≠ "java/lang/invoke/VarHandle") ∧ (parseMethodDescriptor M.1.desc).map (fun d => d.parameters.length) = some n ∧ M.2.2.1 ≤ 21
theorem am_metW (hO : am_MW M1 n) (hlen : (lg_sl as).length ≤ M1.2.2.1) (hnt : ∀ σ', ¬ post none σ') (k : am_K g d M1 mc ms 0 (lv_args 0 as) [] σ post) : Met g.1 M1.1 [Cond.codeWith M1.1 M1.2.1 M1.2.2.1 M1.2.2.2.1 M1.2.2.2.2] (am_rm d mc ms) (am_Pc g as σ) (am_Qc g post) mc ms (fun q => am_b0 g ≤ q) := by
  refine va_MetW (cc := M1.2.1) (maxL := M1.2.2.1) (ret := M1.2.2.2.1) (hh := M1.2.2.2.2) hO.1 rfl ?_
  intro p e s m args below meth c s₁ B hml hv
  obtain ⟨rfl, hR, hW⟩ := hv
  rw [lg_entry_eq]
  have hl := lv_entry (as.map (am_rel g)) (n := M1.2.2.1) (by rw [am_sl]; exact hlen)
  rw [am_args] at hl
  have hF : am_F g M1 p s m meth c := ⟨B.exec, B.bytes, hml, B.returns, B.notSynchronized, findClass_of_methodNamed B.named, hW, fun _ => (name_of_methodNamed B.named B.method).1, Or.inr (vx_table (x := M1.1) B (atoms_spec (ws := [Cond.codeWith M1.1 M1.2.1 M1.2.2.1 M1.2.2.2.1 M1.2.2.2.2]) B.pre _ List.mem_cons_self)), by rw [hR.1]; exact Nat.le_add_right _ _, hR.2.2.1⟩
  have hw := k p e (am_rm d mc ms) s m (as.map (am_rel g)).toArray below meth c s.heap [] 0 0 _ hF (Nat.le_refl _) (Nat.le_refl _) (by show 0 + mc ≤ mc; omega) (by show 0 + ms ≤ ms; omega) hR (fun q h => by cases h) hl
  rw [Nat.zero_add, Nat.zero_add] at hw
  refine am_wmono ?_ hw
  intro t ht
  obtain ⟨o, a1, a2, a3 | ⟨q, -, E, ce, L, ⟨-, σ', h9, -⟩, -⟩⟩ := ht
  · exact ⟨o, a1, a2, a3⟩
  · exact absurd h9 (hnt σ')
theorem kr_callSW (G : am_G g) (hO : am_MW M1 n) (hs : Cond.static M1.1 ∈ lw_tbl) (hlk : Cond.methodLink M.1.cls idx M1.1 ∈ lw_tbl) (hd : decode M.2.1 pc = .ok (.invokestatic idx, 3)) (hn : as.length = n) (hlen : (lg_sl as).length ≤ M1.2.2.1) (hst : stk = as.reverse ++ st) (hroom : (st.map fun v => v.category).sum ≤ 8) (hd1 : d1 + 1 ≤ d) (hnt : ∀ σ', ¬ post1 none σ') (k1 : am_K g d1 M1 mc1 ms1 0 (lv_args 0 as) [] σ post1) (kk : ∀ v σ', post1 (some v) σ' → am_K g d M mc ms (pc + 3) lv (v.toList ++ st) σ' post) : am_K g d M (mc1 + mc) (ms1 + ms) pc lv stk σ post := by
  intro p e R s m args below meth c H locs cells slots ls F h1 h2 h3 h4 hR hL hl
  have hW := F.2.2.2.2.2.2.1
  obtain ⟨hO1, hO2, hO3, hO4, hO5, hO6⟩ := hO
  refine am_after (a9 := (as.map (am_rel g)).toArray) F h1 h2 h3 h4 hL hl ?_ kk
  refine vx_runSW (n := n) (Ts := am_T) ⟨F.1, F.2.1, F.2.2.1, F.2.2.2.2.2.1, am_hts G hW args⟩ (am_metW (d := d1) (mc := mc1) (ms := ms1) ⟨hO1, hO2, hO3, hO4, hO5, hO6⟩ hlen hnt k1) ⟨⟨rfl, rfl, ?_, ?_, ?_, List.mem_cons_self⟩, ?_, am_w G hW args hO3 rfl, hO4, ?_, am_w G hW args hlk rfl, am_w G hW args hs rfl⟩ (am_ps hW hR) rfl (by rw [List.length_map]; exact hn) hl.1 (am_stk hst) (am_rest hroom) hd ⟨by omega, by omega⟩
  · show d1 + 1 ≤ R.frames
    omega
  · show 8 + (M1.2.2.1 + 11) + 40 * d1 ≤ R.locals
    omega
  · intro w hw a' U hU
    rw [List.mem_singleton.mp hw]
    exact am_w G (State.WarmedH.trans hW hU) a' hO2 rfl
  · exact am_w G hW args hO2 rfl
  · intro sig h
    rw [h] at hO5
    exact (Option.some.inj hO5).symm
end KT
