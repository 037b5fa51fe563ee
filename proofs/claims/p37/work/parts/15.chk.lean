/-! what the tables must keep to -/
/-- the words in groups, each looked up by itself -/
def lw_grp (j : Nat) : List Cond := match j with
  | 0 => k2_sels lw_privs
  | 1 => tables_1_1
  | 2 => tables_1_2
  | 3 => tables_1_3
  | 4 => tables_1_4
  | 5 => tables_1_5
  | 6 => tables_1_6
  | 7 => tables_1_7
  | 8 => tables_1_8
  | 9 => tables_1_9
  | _ => []
theorem lw_tb0 : lw_tbl = k2_sels lw_privs ++ (tables_1_1 ++ (tables_1_2 ++ (tables_1_3 ++ (tables_1_4 ++ (tables_1_5 ++ (tables_1_6 ++ (tables_1_7 ++ (tables_1_8 ++ (tables_1_9))))))))) := rfl
theorem lw_grp_ok (j : Nat) : ∀ u ∈ lw_grp j, u ∈ lw_tbl := by
  unfold lw_grp
  split
  · intro u h; rw [lw_tb0]; exact List.mem_append_left _ h
  · intro u h; rw [lw_tb0]; exact List.mem_append_right _ (List.mem_append_left _ h)
  · intro u h; rw [lw_tb0]; exact List.mem_append_right _ (List.mem_append_right _ (List.mem_append_left _ h))
  · intro u h; rw [lw_tb0]; exact List.mem_append_right _ (List.mem_append_right _ (List.mem_append_right _ (List.mem_append_left _ h)))
  · intro u h; rw [lw_tb0]; exact List.mem_append_right _ (List.mem_append_right _ (List.mem_append_right _ (List.mem_append_right _ (List.mem_append_left _ h))))
  · intro u h; rw [lw_tb0]; exact List.mem_append_right _ (List.mem_append_right _ (List.mem_append_right _ (List.mem_append_right _ (List.mem_append_right _ (List.mem_append_left _ h)))))
  · intro u h; rw [lw_tb0]; exact List.mem_append_right _ (List.mem_append_right _ (List.mem_append_right _ (List.mem_append_right _ (List.mem_append_right _ (List.mem_append_right _ (List.mem_append_left _ h))))))
  · intro u h; rw [lw_tb0]; exact List.mem_append_right _ (List.mem_append_right _ (List.mem_append_right _ (List.mem_append_right _ (List.mem_append_right _ (List.mem_append_right _ (List.mem_append_right _ (List.mem_append_left _ h)))))))
  · intro u h; rw [lw_tb0]; exact List.mem_append_right _ (List.mem_append_right _ (List.mem_append_right _ (List.mem_append_right _ (List.mem_append_right _ (List.mem_append_right _ (List.mem_append_right _ (List.mem_append_right _ (List.mem_append_left _ h))))))))
  · intro u h; rw [lw_tb0]; exact List.mem_append_right _ (List.mem_append_right _ (List.mem_append_right _ (List.mem_append_right _ (List.mem_append_right _ (List.mem_append_right _ (List.mem_append_right _ (List.mem_append_right _ (List.mem_append_right _ (h)))))))))
  · exact fun u h => absurd h List.not_mem_nil
def lw_at (p : Nat) : Option Cond := (lw_grp (p / 65536))[p % 65536]?
theorem lw_at_mem {p : Nat} {u : Cond} (h : lw_at p = some u) : u ∈ lw_tbl := lw_grp_ok _ u (List.mem_of_getElem? h)
def ex_mem (p : Nat) (w : Jvm.Cond) : Bool := match lw_at p with
  | some u => decide (u = w)
  | none => false
theorem ex_mem_ok {p : Nat} {w : Jvm.Cond} (h : ex_mem p w = true) : w ∈ lw_tbl := by
  unfold ex_mem at h
  split at h
  · rename_i u hu
    rw [← of_decide_eq_true h]
    exact lw_at_mem hu
  · cases h
def ex_flk (own : String) (idx : Nat) (C nm ds : String) (p : Nat) : Bool := match lw_at p with
  | some (.fieldLink a b c d e) => decide (a = own) && (decide (b = idx) && (decide (c = C) && (decide (d = nm) && decide (e = ds))))
  | some (.fieldLinkNest a b c d e _) => decide (a = own) && (decide (b = idx) && (decide (c = C) && (decide (d = nm) && decide (e = ds))))
  | _ => false
theorem ex_flk_ok {own : String} {idx : Nat} {C nm ds : String} {p : Nat} (h : ex_flk own idx C nm ds p = true) : Cond.fieldLink own idx C nm ds ∈ lw_tbl ∨ ∃ host, Cond.fieldLinkNest own idx C nm ds host ∈ lw_tbl := by
  unfold ex_flk at h
  split at h
  · rename_i a b c d e hu
    simp only [Bool.and_eq_true, decide_eq_true_eq] at h
    obtain ⟨rfl, rfl, rfl, rfl, rfl⟩ := h
    exact Or.inl (lw_at_mem hu)
  · rename_i a b c d e w hu
    simp only [Bool.and_eq_true, decide_eq_true_eq] at h
    obtain ⟨rfl, rfl, rfl, rfl, rfl⟩ := h
    exact Or.inr ⟨w, lw_at_mem hu⟩
  · cases h
def ex_mlk (own : String) (idx : Nat) (y : MethodName) (p : Nat) : Bool := match lw_at p with
  | some (.methodLink a b c) => decide (a = own) && (decide (b = idx) && decide (c = y))
  | some (.methodLinkNest a b c _) => decide (a = own) && (decide (b = idx) && decide (c = y))
  | _ => false
theorem ex_mlk_ok {own : String} {idx : Nat} {y : MethodName} {p : Nat} (h : ex_mlk own idx y p = true) : am_ML own idx y := by
  unfold ex_mlk at h
  split at h
  · rename_i a b c hu
    simp only [Bool.and_eq_true, decide_eq_true_eq] at h
    obtain ⟨rfl, rfl, rfl⟩ := h
    exact Or.inl (lw_at_mem hu)
  · rename_i a b c w hu
    simp only [Bool.and_eq_true, decide_eq_true_eq] at h
    obtain ⟨rfl, rfl, rfl⟩ := h
    exact Or.inr ⟨w, lw_at_mem hu⟩
  · cases h
def ex_ln (ins : Instr) (len : Nat) : Bool := match ins with
  | .tableswitch _ _ _ _ => true
  | .lookupswitch _ _ => true
  | .bipush _ => len.beq 2
  | .iload _ => len.beq 2
  | .aload _ => len.beq 2
  | .istore _ => len.beq 2
  | .astore _ => len.beq 2
  | .lload _ => len.beq 2
  | .lstore _ => len.beq 2
  | .ldc _ => len.beq 2
  | .newarray _ => len.beq 2
  | .sipush _ => len.beq 3
  | .iinc _ _ => len.beq 3
  | .ifCond _ _ => len.beq 3
  | .if_icmp _ _ => len.beq 3
  | .goto _ => len.beq 3
  | .ifnonnull _ => len.beq 3
  | .ldc_w _ => len.beq 3
  | .ldc2_w _ => len.beq 3
  | .getstatic _ => len.beq 3
  | .getfield _ => len.beq 3
  | .putfield _ => len.beq 3
  | .new _ => len.beq 3
  | .anewarray _ => len.beq 3
  | .invokestatic _ => len.beq 3
  | .invokevirtual _ => len.beq 3
  | .invokespecial _ => len.beq 3
  | _ => len.beq 1
def ex_dec (c : ByteArray) (pc : Nat) (ins : Instr) (len : Nat) : Bool := decide (decode c pc = .ok (ins, len))
def ex_lk (mt : Nat → Option ex_T) (T : ex_T) (pc : Nat) (ins : Instr) (ex : List Nat) : Bool := match ins with
  | .bipush n => decide ((Int8.ofInt n).toInt32 = Int32.ofInt n)
  | .sipush n => decide ((Int16.ofInt n).toInt32 = Int32.ofInt n)
  | .istore_n k => decide (k.val < T.1.2.2.1)
  | .istore k => decide (k < T.1.2.2.1)
  | .astore_n k => decide (k.val < T.1.2.2.1)
  | .astore k => decide (k < T.1.2.2.1)
  | .iinc k _ => decide (k < T.1.2.2.1)
  | .lstore_n k => decide (k.val + 1 < T.1.2.2.1)
  | .lstore k => decide (k + 1 < T.1.2.2.1)
  | .ifCond _ off => (match ex with
    | [t] => decide ((pc : Int) + off = (t : Int))
    | _ => true)
  | .if_icmp _ off => (match ex with
    | [t] => decide ((pc : Int) + off = (t : Int))
    | _ => true)
  | .goto off => (match ex with
    | [t] => decide ((pc : Int) + off = (t : Int))
    | _ => true)
  | .ifnonnull off => (match ex with
    | [t] => decide ((pc : Int) + off = (t : Int))
    | _ => true)
  | .lookupswitch _ ps => (ps.toList.zip (ps.toList.drop 1)).all (fun (a, next) => a.1 < next.1)
  | .ldc i => (match ex with
    | [r, p] => ex_mem p (.constant T.1.1.cls i (Int32.ofInt (.ofNat r)))
    | [k, p, _] => decide (am_sx T.1.1.cls i = k) && (match lw_at p with
      | some (.stringRef o j _) => decide (o = T.1.1.cls) && decide (j = i)
      | _ => false)
    | _ => true)
  | .ldc_w i => (match ex with
    | [r, p] => ex_mem p (.constant T.1.1.cls i (Int32.ofInt (.ofNat r)))
    | _ => true)
  | .ldc2_w i => (match ex with
    | [r, p] => ex_mem p (.constantLong T.1.1.cls i (Int64.ofNat r))
    | _ => true)
  | .getstatic i => (match ex with
    | [1, p] => ex_mem p (.fieldLink T.1.1.cls i "WindowSale$Station" "USUAL" "[I")
    | [2, p] => ex_mem p (.fieldLink T.1.1.cls i "WindowSale$Station" "LEAST" "[I")
    | [3, p] => ex_mem p (.fieldLink T.1.1.cls i "WindowSale$Station" "GREATEST" "[I")
    | [_, _] => false
    | _ => true)
  | .getfield i => (match ex with
    | [ci, k, kd, p] => (match vwCl[ci]? with
      | some (C, U, N) => decide (k < N) && (decide ((U k).1 = C) && (ex_flk T.1.1.cls i C (U k).2.1 (U k).2.2.1 p && decide (am_kd (am_ty ci k) = kd)))
      | none => false)
    | _ => true)
  | .putfield i => (match ex with
    | [ci, k, kd, p] => (match vwCl[ci]? with
      | some (C, U, N) => decide (k < N) && (decide ((U k).1 = C) && ((match (U k).2.2.2 with
          | false => ex_flk T.1.1.cls i C (U k).2.1 (U k).2.2.1 p
          | true => ex_mem p (.fieldLink T.1.1.cls i C (U k).2.1 (U k).2.2.1) && (decide (T.1.1.cls = C) && decide (T.1.1.name = "<init>"))) && (match kd with
          | 0 => decide (am_ty ci k = .int)
          | 1 => decide (am_ty ci k = .long)
          | 2 => decide (am_kd (am_ty ci k) = 2)
          | _ => decide (am_kd (am_ty ci k) = 0))))
      | none => false)
    | _ => true)
  | .new i => (match ex with
    | [0, ci, N, p1, p2, p3] => (match vwCl[ci]? with
      | some (C, _, N1) => decide (N1 = N) && (ex_mem p1 (.classLink T.1.1.cls i C) && (ex_mem p2 (.instantiable C N) && ex_mem p3 (.initialized C)))
      | none => false)
    | [1, is, wd, p1, p2] => decide (T.1.1.cls = RX11) && (decide (T.1.1.name ≠ "law") && (decide (T.1.2.2.2.2 = []) && (ex_dec T.1.2.1 (pc + 3) .dup 1 && (ex_mem p1 (.classLink RX11 i am_nse) && ((match lw_at p2 with
      | some (.stringRef o j _) => decide (o = RX11) && decide (j = is)
      | _ => false) && (match wd with
      | 0 => ex_dec T.1.2.1 (pc + 4) (.ldc is) 2 && (ex_dec T.1.2.1 (pc + 6) (.invokespecial 155) 3 && ex_dec T.1.2.1 (pc + 9) .athrow 1)
      | _ => ex_dec T.1.2.1 (pc + 4) (.ldc_w is) 3 && (ex_dec T.1.2.1 (pc + 7) (.invokespecial 155) 3 && ex_dec T.1.2.1 (pc + 10) .athrow 1)))))))
    | _ => true)
  | .anewarray i => (match ex with
    | [p] => ex_mem p (.classLink T.1.1.cls i "WindowSale$Scene")
    | _ => false)
  | .invokestatic i => (match ex with
    | [0, mi2, p] => (match mt mi2 with
      | some T2 => decide (T.1.2.2.2.2 = []) && (match T2.1.2.2.2.2 with
        | [] => ex_mlk T.1.1.cls i T2.1.1 p
        | _ => ex_mem p (.methodLink T.1.1.cls i T2.1.1))
      | none => true)
    | [1, 0, p, _] => ex_mem p (.methodLink T.1.1.cls i Lib.Math.max.name)
    | [1, 1, p, _] => ex_mem p (.methodLink T.1.1.cls i Lib.Math.min.name)
    | [1, _, p, _] => ex_mem p (.methodLink T.1.1.cls i Lib.Math.abs.name)
    | _ => true)
  | .invokevirtual i => (match ex with
    | [0, mi2, p] => (match mt mi2 with
      | some T2 => decide (T.1.2.2.2.2 = []) && ex_mlk T.1.1.cls i T2.1.1 p
      | none => true)
    | [2, 0, p, _] => ex_mem p (.methodLink T.1.1.cls i yJ0_length_8abf5)
    | [2, _, p, _] => ex_mem p (.methodLink T.1.1.cls i yJ0_charAt_5068e)
    | [1, mi2, p, li, pck] => (match mt mi2 with
      | some T2 => (match T.1.2.2.2.2 with
        | [(ta, tb, th, tc)] => decide (T.1.1.name ≠ "law") && (covers ⟨ta, tb, th, tc⟩ pc && (decide (tc ≠ 0) && (ex_mem pck (.classLink T.1.1.cls tc am_nse) && (ex_dec T.1.2.1 th (.astore li) 2 && (ex_dec T.1.2.1 (th + 2) (.iconst 1) 1 && (ex_dec T.1.2.1 (th + 2 + 1) .ireturn 1 && (decide (li < T.1.2.2.1) && (decide (T.1.2.2.2.1 = some .int) && ex_mem p (.methodLink T.1.1.cls i T2.1.1)))))))))
        | _ => false)
      | none => true)
    | _ => true)
  | .invokespecial i => (match ex with
    | [0, mi2, p] => (match mt mi2 with
      | some T2 => decide (T.1.2.2.2.2 = []) && ex_mlk T.1.1.cls i T2.1.1 p
      | none => true)
    | [1, p] => ex_mem p (.methodLink T.1.1.cls i Lib.objectInit)
    | _ => true)
  | _ => true
def ex_chk (mt : Nat → Option ex_T) (T : ex_T) (e : ex_E) : Bool := ex_dec T.1.2.1 e.1 e.2.1 e.2.2.1 && (ex_ln e.2.1 e.2.2.1 && (e.2.2.2.1.beq (e.1 + e.2.2.1) && ex_lk mt T e.1 e.2.1 e.2.2.2.2))
/-- bytes compared one by one -/
noncomputable def ex_bys (a b : List UInt8) : Bool := List.rec (motive := fun _ => List UInt8 → Bool) (fun b => b.isEmpty) (fun x _ ih b => match b with
  | [] => false
  | y :: b => x.toNat.beq y.toNat && ih b) a b
theorem ex_bys_eq : ∀ {a b : List UInt8}, ex_bys a b = true → a = b := by
  intro a
  induction a with
  | nil =>
    intro b h
    cases b with
    | nil => rfl
    | cons => exact Bool.noConfusion (show false = true from h)
  | cons x a ih =>
    intro b h
    cases b with
    | nil => exact Bool.noConfusion (show false = true from h)
    | cons y b =>
      have h' : (x.toNat.beq y.toNat && ex_bys a b) = true := h
      rw [Bool.and_eq_true] at h'
      rw [UInt8.toNat_inj.mp (Nat.eq_of_beq_eq_true h'.1), ih h'.2]
/-- a word of the table that holds a code -/
noncomputable def ex_memC (p : Nat) (w : Jvm.Cond) : Bool := match lw_at p with
  | some (.code a b c d) => (match w with
    | .code a' b' c' d' => decide (a = a') && (ex_bys b.data.toList b'.data.toList && (decide (c = c') && decide (d = d')))
    | _ => false)
  | some (.codeWith a b c d e) => (match w with
    | .codeWith a' b' c' d' e' => decide (a = a') && (ex_bys b.data.toList b'.data.toList && (decide (c = c') && (decide (d = d') && decide (e = e'))))
    | _ => false)
  | _ => false
theorem ex_memC_ok {p : Nat} {w : Jvm.Cond} (h : ex_memC p w = true) : w ∈ lw_tbl := by
  unfold ex_memC at h
  split at h
  · rename_i a b c d hu
    split at h
    · simp only [Bool.and_eq_true, decide_eq_true_eq] at h
      obtain ⟨rfl, e, rfl, rfl⟩ := h
      have eb := ByteArray.ext (Array.ext' (ex_bys_eq e))
      subst eb
      exact lw_at_mem hu
    · cases h
  · rename_i a b c d q hu
    split at h
    · simp only [Bool.and_eq_true, decide_eq_true_eq] at h
      obtain ⟨rfl, e, rfl, rfl, rfl⟩ := h
      have eb := ByteArray.ext (Array.ext' (ex_bys_eq e))
      subst eb
      exact lw_at_mem hu
    · cases h
  · cases h
noncomputable def ex_mok (T : ex_T) : Bool := match T.2.1 with
  | [kind, n, _, _, ci, pcode, pini, pst, psel] => plainName T.1.1.cls && ((match T.1.2.2.2.2 with
      | [] => ex_memC pcode (.code T.1.1 T.1.2.1 T.1.2.2.1 T.1.2.2.2.1)
      | _ => ex_memC pcode (.codeWith T.1.1 T.1.2.1 T.1.2.2.1 T.1.2.2.2.1 T.1.2.2.2.2)) && (ex_mem pini (.initialized T.1.1.cls) && (decide (T.1.1.cls ≠ "java/lang/invoke/MethodHandle" ∧ T.1.1.cls ≠ "java/lang/invoke/VarHandle") && (decide ((parseMethodDescriptor T.1.1.desc).map (fun d => d.parameters.length) = some n) && (decide (T.1.2.2.1 ≤ 21) && (match kind with
      | 0 => ex_mem pst (.static T.1.1)
      | 1 => ex_mem pst (.instanceMethod T.1.1) && (ex_mem psel (.selects T.1.1.cls T.1.1 T.1.1) && ((match vwCl[ci]? with
        | some q => decide (q.1 = T.1.1.cls)
        | none => false) && decide (T.1.2.2.2.2 = [])))
      | _ => ex_mem pst (.instanceMethod T.1.1) && (decide (T.1.1.name = "<init>") && (decide (T.1.2.2.2.1 = none) && decide (T.1.2.2.2.2 = [])))))))))
  | _ => true
noncomputable def ex_tok (mt : Nat → Option ex_T) (T : ex_T) : Bool := ex_mok T && T.2.2.all (fun b => b.all fun e => ex_chk mt T e)
theorem ex_tok_at {mt : Nat → Option ex_T} {T : ex_T} (h : ex_tok mt T = true) {pc : Nat} : ∀ e ∈ ex_look T pc, ex_chk mt T e = true := by
  intro e he
  unfold ex_tok at h
  rw [Bool.and_eq_true] at h
  obtain ⟨b, hb, hm⟩ := ex_look_mem e he
  exact List.all_eq_true.mp (List.all_eq_true.mp h.2 b hb) e hm
