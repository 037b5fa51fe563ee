/-- what is alike at the start -/
theorem lw_rl0 {σ : am_S} (hcs : ∀ q ∈ xh_cs, (σ.2.1 (q.1 / 65536) (q.1 % 65536)).toInt = q.2) : lw_rl σ := by
  have w : (σ.2.1 4 7).toInt = 0 := hcs (262151, 0) (by decide)
  have t : (σ.2.1 4 8).toInt = 1 := hcs (262152, 1) (by decide)
  have a : (σ.2.1 9 0).toInt = 10 := hcs (589824, 10) (by decide)
  have b : (σ.2.1 10 0).toInt = 1 := hcs (655360, 1) (by decide)
  have x : (σ.2.1 120 0).toInt = 0 := hcs (7864320, 0) (by decide)
  have y : (σ.2.1 120 1).toInt = 0 := hcs (7864321, 0) (by decide)
  have p : (σ.2.1 86 3).toInt = 0 := hcs (5636099, 0) (by decide)
  have q : (σ.2.1 102 3).toInt = 0 := hcs (6684675, 0) (by decide)
  have p1 : (σ.2.1 137 0).toInt = 0 := hcs (8978432, 0) (by decide)
  have q1 : (σ.2.1 137 1).toInt = 0 := hcs (8978433, 0) (by decide)
  have e0 : σ.2.1 11 0 = σ.2.1 120 54 := Int32.toInt_inj.mp ((show (σ.2.1 11 0).toInt = 1 from hcs (720896, 1) (by decide)).trans (show (σ.2.1 120 54).toInt = 1 from hcs (7864374, 1) (by decide)).symm)
  have e1 : σ.2.1 11 1 = σ.2.1 120 55 := Int32.toInt_inj.mp ((show (σ.2.1 11 1).toInt = 12 from hcs (720897, 12) (by decide)).trans (show (σ.2.1 120 55).toInt = 12 from hcs (7864375, 12) (by decide)).symm)
  have e2 : σ.2.1 11 2 = σ.2.1 120 56 := Int32.toInt_inj.mp ((show (σ.2.1 11 2).toInt = 6 from hcs (720898, 6) (by decide)).trans (show (σ.2.1 120 56).toInt = 6 from hcs (7864376, 6) (by decide)).symm)
  have e3 : σ.2.1 11 3 = σ.2.1 120 57 := Int32.toInt_inj.mp ((show (σ.2.1 11 3).toInt = 6 from hcs (720899, 6) (by decide)).trans (show (σ.2.1 120 57).toInt = 6 from hcs (7864377, 6) (by decide)).symm)
  have e4 : σ.2.1 11 4 = σ.2.1 120 58 := Int32.toInt_inj.mp ((show (σ.2.1 11 4).toInt = 0 from hcs (720900, 0) (by decide)).trans (show (σ.2.1 120 58).toInt = 0 from hcs (7864378, 0) (by decide)).symm)
  have e5 : σ.2.1 11 5 = σ.2.1 120 59 := Int32.toInt_inj.mp ((show (σ.2.1 11 5).toInt = 6 from hcs (720901, 6) (by decide)).trans (show (σ.2.1 120 59).toInt = 6 from hcs (7864379, 6) (by decide)).symm)
  have e6 : σ.2.1 11 6 = σ.2.1 120 60 := Int32.toInt_inj.mp ((show (σ.2.1 11 6).toInt = 3 from hcs (720902, 3) (by decide)).trans (show (σ.2.1 120 60).toInt = 3 from hcs (7864380, 3) (by decide)).symm)
  have e7 : σ.2.1 11 7 = σ.2.1 120 61 := Int32.toInt_inj.mp ((show (σ.2.1 11 7).toInt = 1 from hcs (720903, 1) (by decide)).trans (show (σ.2.1 120 61).toInt = 1 from hcs (7864381, 1) (by decide)).symm)
  refine ⟨⟨w.trans x.symm, fun _ => ⟨t, a, b⟩, fun n => absurd y n, ?_⟩, ⟨Int32.toInt_inj.mp (p.trans p1.symm), Int32.toInt_inj.mp (q.trans q1.symm)⟩, fun n => absurd (Int32.toInt_inj.mp p1) n, fun n => absurd (Int32.toInt_inj.mp q1) n⟩
  intro r hr k hk
  rw [x, y] at hk
  have h7 : r = 0 ∨ r = 1 ∨ r = 2 ∨ r = 3 ∨ r = 4 ∨ r = 5 ∨ r = 6 := by omega
  rcases h7 with rfl | rfl | rfl | rfl | rfl | rfl | rfl
  · exact absurd hk (Nat.not_lt_zero k)
  · exact absurd hk (Nat.not_lt_zero k)
  · exact absurd hk (Nat.not_lt_zero k)
  · exact absurd hk (Nat.not_lt_zero k)
  · exact absurd hk (Nat.not_lt_zero k)
  · exact absurd hk (Nat.not_lt_zero k)
  · have hk8 : k < 8 := hk
    have h8 : k = 0 ∨ k = 1 ∨ k = 2 ∨ k = 3 ∨ k = 4 ∨ k = 5 ∨ k = 6 ∨ k = 7 := by omega
    rcases h8 with rfl | rfl | rfl | rfl | rfl | rfl | rfl | rfl
    · exact e0
    · exact e1
    · exact e2
    · exact e3
    · exact e4
    · exact e5
    · exact e6
    · exact e7
theorem lw_rw0 {σ : am_S} (hcs : ∀ q ∈ xh_cs, (σ.2.1 (q.1 / 65536) (q.1 % 65536)).toInt = q.2) : lw_rw σ := by
  have x : (σ.2.1 120 0).toInt = 0 := hcs (7864320, 0) (by decide)
  have y : (σ.2.1 120 1).toInt = 0 := hcs (7864321, 0) (by decide)
  have w : (σ.2.1 120 54).toInt = 1 := hcs (7864374, 1) (by decide)
  have p1 : (σ.2.1 137 0).toInt = 0 := hcs (8978432, 0) (by decide)
  have q1 : (σ.2.1 137 1).toInt = 0 := hcs (8978433, 0) (by decide)
  refine ⟨lw_rl0 hcs, ⟨fun k hk => ?_, fun k hk => ?_, ?_⟩, fun n => absurd (Int32.toInt_inj.mp p1) n, fun n => absurd (Int32.toInt_inj.mp q1) n⟩
  · rw [x] at hk; exact absurd hk (Nat.not_lt_zero k)
  · rw [y] at hk; exact absurd hk (Nat.not_lt_zero k)
  · rw [w]; decide
theorem lw_rp0 {σ : am_S} (hcs : ∀ q ∈ xh_cs, (σ.2.1 (q.1 / 65536) (q.1 % 65536)).toInt = q.2) : lw_rp σ := ⟨lw_rw0 hcs, pk_ok0 (Int32.toInt_inj.mp (show (σ.2.1 68 17).toInt = 0 from hcs (4456465, 0) (by decide))) (Int32.toInt_inj.mp (show (σ.2.1 68 18).toInt = 0 from hcs (4456466, 0) (by decide))) (Int32.toInt_inj.mp (show (σ.2.1 68 19).toInt = 0 from hcs (4456467, 0) (by decide)))⟩
/-- the tapes at the start -/
theorem lw_tp0 {σ : am_S} (hlen : ∀ q ∈ xh_pairs, σ.2.1 (q.1 / 65536) (q.1 % 65536) = σ.2.1 (q.2 / 65536) (q.2 % 65536)) : lw_tp σ := by
  intro k hk
  have h : σ.2.1 ((131072 + k) / 65536) ((131072 + k) % 65536) = σ.2.1 ((7798784 + k) / 65536) ((7798784 + k) % 65536) := hlen (131072 + k, 7798784 + k) (List.mem_append_right _ (List.mem_map.mpr ⟨k, List.mem_range.mpr hk, rfl⟩))
  have e1 : (131072 + k) / 65536 = 2 := by omega
  have e2 : (131072 + k) % 65536 = k := by omega
  have e3 : (7798784 + k) / 65536 = 119 := by omega
  have e4 : (7798784 + k) % 65536 = k := by omega
  rw [e1, e2, e3, e4] at h
  exact h
/-! THE CLAIM OUT OF ONE WALK OF THE LAW'S BODY. Your part is whole_start (and what it stands on); all else here is the same for every law, but numbers. -/
def R_law : String := "WindowSaleLaw"
def lw_P (b : Addr) (xs : List Int32) (args : Array Value) (s : State) : Prop := args = #[.ref b] ∧ s.IntsAt b xs ∧ xs.length ≤ 3072 ∧ (Jvm.Cond.and given_1 narrow_1).before args s = true
def lw_Q (_ : Array Value) (s : State) (o : Outcome) (t : State) : Prop := o = .returned (some (.int 1)) ∧ Framed s o t [] 601024 7293034
def lw_Z (below : List Frame) (a : Array Value) (s : State) : State → Prop := fun t => ∃ o, t.status = .running ∧ Ended t below o ∧ lw_Q a s o t
/-- the law's own end, with 1 on the stack, nothing written that was there before, its room as the claim has it -/
theorem lw_ret {p : Program} {l : Launch} {e : Env} {s : State} {m : MethodId} {below : List Frame} {meth : Method} {c : Code} {b : Nat} (hx : p.tables.exec = Jvm.exec) (hb : c.code = code) (hr : meth.sig.returnType = ret) (hlocks : meth.locks = false) {pc : Nat} {H : Heap} {ls : Array Slot} (hdg : decode code pc = .ok (.ireturn, 1)) : W p l e room_1 s m #[Value.ref b] below meth c H [] 601024 7293034 (lw_Z below #[Value.ref b] s) (F0 m pc ls [.int 1]) := by
  intro T hT X
  obtain ⟨fs, hret, hrun, hended, hW, hframe⟩ := X.leave (v := some (.int 1)) (hlocks := hlocks) (fun h => by rw [hr] at h; cases h)
  have hmeth' : T.vm.method? m = some meth := X.method'
  refine ⟨T.setFrames fs, ?_, .returned (some (.int 1)), hrun, hended, rfl, ⟨_, rfl⟩, hW, hframe⟩
  jvm_step X.here [X.here.top, hx, hb, hdg, hmeth', hr, ret, narrow_b1]
  (try refine ⟨rfl, ?_⟩); (try refine ⟨rfl, ?_⟩)
  first | (intro acts; rw [hret _ acts rfl rfl rfl]) | rw [hret _ _ rfl rfl rfl]
  exact Steps.refl _
/-- what holds at the law's entry: the machine, the code, the tables' words (any of lw_tbl by 'hts w (by decide +kernel)'), the script of L ints xs at the cell b, what the Statement gives of the start (any of its parts by flat_of_before) -/
def lw_At (p : Program) (s : State) (m : MethodId) (meth : Method) (c : Code) (b L : Nat) (xs : Nat → Int32) : Prop :=
  p.tables.exec = Jvm.exec ∧ c.code = code ∧ meth.sig.returnType = ret ∧ c.maxLocals = 7 ∧ s.vm.findClass R_law = some m.cls ∧ (∀ w ∈ lw_tbl, w.before #[Value.ref b] s = true) ∧ va_X b L xs s s.heap ∧ b < s.heap.size ∧ meth.locks = false ∧ (Jvm.Cond.and given_1 narrow_1).before #[Value.ref b] s = true
theorem law_K {g : am_C} (G : am_G g) (S : st_G g) {L : Nat} {xs : Nat → Int32} (hX : g.2.2.2.2.2.2 = am_X L xs) (hL : L ≤ 3072) : am_K g 100 mL_law 601024 7293034 0 [(0, .retAddr 0)] [] am_s0 (fun r _ => r = some (some (.int 1))) := by
  have G0 : sx_G0 g L xs z9 hd_C ex_mt := ⟨G, hX, hL, ex_mt_ok, hd_Zok, hd_CsOk, hd_CsOk2, st_ok G S⟩
  refine xh_start G hX hL (fun σ hM hlen hcs => ?_)
  exact lw_turns G0 (h9_ok G0) 512 0 σ (by omega) (by decide) hM ⟨hlen (65537, 7733250) (by simp [xh_pairs]), lw_tp0 hlen, lw_rp0 hcs⟩
theorem whole_start {p : Program} {e : Env} {s : State} {m : MethodId} {below : List Frame} {meth : Method} {c : Code} (l : Launch) (hlf : l.flags = flags0) {b L : Nat} {xs : Nat → Int32} (hL : L ≤ 3072) (C0 : lw_At p s m meth c b L xs) : W p l e room_1 s m #[Value.ref b] below meth c s.heap [] 0 0 (lw_Z below #[Value.ref b] s) (entryFrame m ([Value.ref b] : List Value).toArray 7) := by
  obtain ⟨hx, hb, hr, hml, hown, hts, hX, hbl, hlocks, hgv⟩ := id C0
  obtain ⟨g, rfl, rfl, h0, hgX, G, S⟩ := st_start l hlf (by omega) hts hX hgv
  rw [lg_entry_eq]
  have hl := lv_entry ([Value.ref b]) (n := 7) (Nat.le_of_ble_eq_true rfl)
  have hl' : lv_has ((lg_sl [Value.ref b] ++ List.replicate (7 - (lg_sl [Value.ref b]).length) Slot.unset).toArray) 7 (am_lv g [(0, .retAddr 0)]) := by
    have e1 : am_lv g [(0, .retAddr 0)] = [(0, .ref b)] := by
      show [(0, Value.ref (g.2.2.2.2.2.1 0))] = _
      rw [h0]
    rw [e1]
    exact hl
  have F : am_F g mL_law p g.2.1 m meth c := ⟨hx, hb, hml, hr, hlocks, hown, State.WarmedH.refl _, fun h => absurd h (by decide), Or.inl rfl, Nat.le_refl _, fun _ _ => rfl⟩
  have hw := law_K G S hgX hL p e room_1 g.2.1 m #[Value.ref b] below meth c g.2.1.heap [] 0 0 _ F (by decide) (by decide) (by decide) (by decide) am_Rep0 (fun q h => by cases h) hl'
  refine am_wmono ?_ hw
  intro t ht
  obtain ⟨o, a1, a2, ⟨⟨v, σ', ho, hp, -⟩, L9, ⟨f1, f2, f3⟩, f4⟩ | ⟨q, -, E, ce, L9, ⟨-, σ', h9, -⟩, -⟩⟩ := ht
  · cases hp
    refine ⟨o, a1, a2, ho, f1, f2, f3.weaken (fun y hy hlt => ?_) (Nat.le_refl _) (Nat.le_refl _)⟩
    exact absurd hlt (Nat.not_lt.mpr (f4 y hy))
  · cases h9
set_option maxHeartbeats 4000000 in
theorem lw_walk (l : Launch) (hlf : l.flags = flags0) (b : Addr) (xs : List Int32) : MetFree l x (headSpec (Jvm.Cond.code x code maxLocals ret :: tables_1) room_1) (lw_P b xs) (fun _ _ _ _ _ => True) lw_Q := by
  refine MetFree.of_bodyS (code := code) (maxLocals := maxLocals) (ret := ret) (by decide) ?_ ?_
  · intro args s m h hn
    obtain ⟨meth, c, h1, h2, h3, h4, h5, h6, -, -⟩ := Cond.code_spec hn (atoms_spec (ws := Jvm.Cond.code x code maxLocals ret :: tables_1) h _ List.mem_cons_self)
    exact ⟨meth, c, h1, h2, h3, h4, h5, h6⟩
  · intro p e s m args below meth c s₁ B hml0 hP _
    obtain ⟨rfl, hx, hbd, hgv⟩ := hP
    obtain ⟨scr, harrAt, hlist, hof, hsmall⟩ := hx
    obtain ⟨hcb, hkn, -, -⟩ := State.arrayAt?_spec harrAt
    have hown : s.vm.findClass R_law = some m.cls := findClass_of_methodNamed B.named
    have hts0 : ∀ c ∈ (Jvm.Cond.code x code maxLocals ret :: tables_1), c.before #[Value.ref b] s = true := atoms_spec (ws := Jvm.Cond.code x code maxLocals ret :: tables_1) B.pre
    have hts : ∀ w ∈ lw_tbl, w.before #[Value.ref b] s = true := k2_hts_sels lw_privs (fun w hw => hts0 w (List.mem_cons_of_mem _ hw)) lw_privs_ok
    have hml : c.maxLocals = 7 := B.maxLocals_eq (hts0 _ List.mem_cons_self)
    have X₀ : Stand p l e room_1 s m #[Value.ref b] below meth c s₁ [] 0 0 := Stand.of_body B
    have hh0 : s₁.heap = s.heap := by rw [B.state]; rfl
    have hsz : scr.slots.size = xs.length := by rw [← Array.length_toList, hlist, List.length_map]
    have hval : ∀ j : Nat, j < xs.length → scr.slots[j]? = some (.int (xs.getD j 0)) := fun j hj => by
      rw [← Array.getElem?_toList, hlist]
      simp [hj]
    have hbl : b < s.heap.size := (Array.getElem?_eq_some_iff.mp hcb).1
    have hX : va_X b xs.length (fun j => xs.getD j 0) s s.heap := ⟨scr, hcb, hof, hkn, hsz, hval⟩
    have K : W p l e room_1 s m #[Value.ref b] below meth c s₁.heap [] 0 0 (lw_Z below #[Value.ref b] s) (entryFrame m ([Value.ref b] : List Value).toArray 7) := by
      rw [hh0]
      exact whole_start l hlf hbd ⟨B.exec, B.bytes, B.returns, hml, hown, hts, hX, hbl, B.notSynchronized, hgv⟩
    obtain ⟨t, a1, o, b1, b2, b3⟩ := K s₁ rfl X₀
    exact ⟨t, o, a1, b1, b2, b3⟩
theorem lw_pre_spec {args : Array Value} {s : State} (h : (Jvm.Cond.and given_1 narrow_1).before args s = true) (hr : rest_1_c.before args s = true) : ∃ (b : Addr) (xs : List Int32), lw_P b xs args s := by
  have hs := flat_of_before _ h
  have hq := flat_of_before _ hr
  have hc : (Cond.count 1).before args s = true := hs _ (by decide +kernel)
  have harr : (Cond.arrayOf (.arg 0) .int).before args s = true := hs _ (by decide +kernel)
  have hle : (Cond.le (.length (.arg 0)) (.int 3072)).before args s = true := hs _ (by decide +kernel)
  have hlen : (Cond.isInt (.length (.arg 0))).before args s = true := hq _ (by decide +kernel)
  have hall : (Cond.all (.arg 0) (.isInt (.elem (.arg 0) (.index 0)))).before args s = true := hq _ (by decide +kernel)
  obtain ⟨b, xs, hb, hx⟩ := State.ints_of_pre rfl harr hlen hall
  have hsm : xs.length < 2 ^ 31 := hx.choose_spec.2.2.2
  have hev : (Term.length (.arg 0)).eval args s none [] s = some (.int xs.length.toInt32) := hx.length_eval hb
  have hv := Cond.le_ints hev (show (Term.int 3072).eval args s none [] s = some (.int 3072) from rfl)
  have hd : xs.length.toInt32 ≤ 3072 := by
    simpa [Cond.before, Cond.holds, hv] using hle
  have hN : xs.length ≤ 3072 := (Int32.ofNat_le_ofNat hsm (by decide)).mp (show Int32.ofNat xs.length ≤ Int32.ofNat 3072 from hd)
  exact ⟨b, xs, Cond.one_arg hc (show args[0]? = some (.ref b) from hb), hx, hN, h⟩
theorem lw_comes (l : Launch) (hlf : l.flags = flags0) : Comes l x (Jvm.Cond.code x code maxLocals ret :: tables_1) room_1 (fun tb e args s => Calls_1 tb e args s ∧ rest_1 tb e args s ∧ Pre_1 tb e args s)
    (fun _ _ args s o t => lw_Q args s o t) := by
  intro p e ha hc hk s m args below hf hfit hheap happ hpre
  obtain ⟨b, xs, hP⟩ := lw_pre_spec hpre.2.2 hpre.2.1
  obtain ⟨k, o, h1, h2, h3, hQ⟩ := lw_walk l hlf b xs p e ha hc hk s m args below hf ((Spec.applies_iff_loose hf).mp happ).1 hP trivial
  exact ⟨k, o, h1, h2, h3, hQ⟩
theorem lw_frame {s t : State} {o : Outcome} {args : Array Value} (h : Framed s o t [] 601024 7293034) :
    Framed s o t (fieldLocs frame_1_writes args s ++ arrayLocs frame_1_arrays args s ++ staticLocs frame_1_statics s) 601024 7293034 := h
theorem lw_limb (L : Cond) (hL : ∀ (args : Array Value) (s t : State), L.after args s (.returned (some (.int 1))) t = true) :
    ArmFor flags0 classFile x code maxLocals ret World_1 tables_1 room_1 Calls_1 rest_1 Pre_1
      (fun tb e a s o t => postC L tb e a s o t ∧ Framed s o t (fieldLocs frame_1_writes a s ++ arrayLocs frame_1_arrays a s ++ staticLocs frame_1_statics s) 601024 7293034) := by
  intro l hlf _ _ p e ha hc hk s m args below hf hfit hheap happ hpre
  obtain ⟨k, o, h1, h2, h3, rfl, hF⟩ := lw_comes l hlf p e ha hc hk s m args below hf hfit hheap happ hpre
  exact ⟨k, _, h1, h2, h3, hL args s _, lw_frame hF⟩
theorem i_vc : Claimed_1_1 ∧ Claimed_1_2 := ⟨lw_limb limb_1_1 (fun args s t => by simp [limb_1_1, Cond.after, Cond.holds, Cond.value]), lw_limb limb_1_2 (fun args s t => Cond.after_iff.mpr (by
  first | (rw [show limb_1_2 = Cond.eq .result (.int 1) from rfl, Cond.eq_ints (x := 1) (y := 1) rfl rfl]; simp; done) | (simp [limb_1_2, Cond.value, Term.eval]; done)))⟩
