/-! MY ABSTRACT MEMORY. A heap of numbered cells (number i lies at the address b0 + i): shapes, and what they hold as three memories: ints, longs, references. -/
/-- the shape of a cell: an object of class number ci in vwCl (13 or more: a cell of which nothing is said), or an array -/
abbrev am_sh : Type := Nat ⊕ (FieldType × Nat)
abbrev am_S : Type := List am_sh × (Nat → Nat → Int32) × (Nat → Nat → Int64) × (Nat → Nat → Value)
/-- what is fixed in a run of the law: launch, the state at the law's entry, its arguments, the classes' numbers and slots, the array classes' numbers, addresses of outer arrays (0 the script, 1 .. static rows) and what they hold -/
abbrev am_C : Type := Launch × State × Array Value × va_G × (FieldType → ClassId) × (Nat → Nat) × (Nat → Option (Nat × (Nat → Int32)))
/-- a method: name, bytes, locals, return, handlers -/
abbrev am_M : Type := MethodName × ByteArray × Nat × Option FieldType × List (Nat × Nat × Nat × Nat)
def am_b0 (g : am_C) : Nat := g.2.1.heap.size
def am_rel (g : am_C) (v : Value) : Value := match v with
  | .ref i => .ref (am_b0 g + i)
  | .retAddr k => .ref (g.2.2.2.2.2.1 k)
  | v => v
def am_ad (g : am_C) (v : Value) : Option Nat := match v with
  | .ref i => some (am_b0 g + i)
  | .retAddr k => some (g.2.2.2.2.2.1 k)
  | _ => none
def am_kd (ty : FieldType) : Nat := match ty with
  | .int => 0
  | .byte => 0
  | .boolean => 0
  | .long => 1
  | .object _ => 2
  | .array _ => 2
  | _ => 3
def am_ty (ci : Nat) : Nat → FieldType := match ci with
  | 0 => tyX0
  | 1 => tyX1
  | 2 => tyX2
  | 3 => tyX3
  | 4 => tyX4
  | 5 => tyX5
  | 6 => tyX6
  | 7 => tyX7
  | 8 => tyX8
  | 9 => tyX9
  | 10 => tyX10
  | 11 => tyX11
  | _ => tyX12
def am_fa (σ : am_S) (o : Nat) (ty : FieldType) (k : Nat) : Value := match am_kd ty with
  | 0 => .int (σ.2.1 o k)
  | 1 => .long (σ.2.2.1 o k)
  | _ => σ.2.2.2 o k
def am_of (g : am_C) (σ : am_S) (i ci n : Nat) : List Value := (List.range n).map (fun k => am_rel g (am_fa σ i (am_ty ci k) k))
def am_ar (g : am_C) (σ : am_S) (i : Nat) (ty : FieldType) (n : Nat) : Option va_E := match am_kd ty with
  | 0 => some (.inl (g.2.2.2.2.1 ty, n, .inl (σ.2.1 i)))
  | 1 => some (.inl (g.2.2.2.2.1 ty, n, .inr (.inl (σ.2.2.1 i))))
  | 2 => some (.inl (g.2.2.2.2.1 ty, n, .inr (.inr (.inr (.inr (fun k => am_ad g (σ.2.2.2 i k)))))))
  | _ => none
def am_ce (g : am_C) (σ : am_S) (i : Nat) (h : am_sh) : Option va_E := match h with
  | .inl ci => (vwCl[ci]?).map (fun q => .inr (ci, am_of g σ i ci q.2.2))
  | .inr (ty, n) => am_ar g σ i ty n
/-- the heap holds the memory -/
def am_Rep (g : am_C) (σ : am_S) (H : Heap) : Prop :=
  H.size = am_b0 g + σ.1.length ∧
  (∀ (i : Nat) (h : am_sh) (e : va_E), σ.1[i]? = some h → am_ce g σ i h = some e → va_at g.2.2.2.1 vwCl (am_b0 g + i, e) H) ∧
  (∀ q : Nat, q < am_b0 g → H[q]? = g.2.1.heap[q]?) ∧
  (∀ o k : Nat, σ.1.length ≤ o → σ.2.1 o k = 0 ∧ σ.2.2.1 o k = 0 ∧ σ.2.2.2 o k = .null)
def am_lv (g : am_C) (lv : List (Nat × Value)) : List (Nat × Value) := lv.map (fun q => (q.1, am_rel g q.2))
/-- the frame that runs is one of M -/
def am_F (g : am_C) (M : am_M) (p : Program) (s : State) (m : MethodId) (meth : Method) (c : Code) : Prop :=
  p.tables.exec = Jvm.exec ∧ c.code = M.2.1 ∧ c.maxLocals = M.2.2.1 ∧ meth.sig.returnType = M.2.2.2.1 ∧ meth.locks = false ∧ s.vm.findClass M.1.cls = some m.cls ∧ g.2.1.WarmedH s.vm ∧ (M.1.name = "<init>" → meth.name = M.1.name) ∧ (M.1.name = "law" ∨ c.exceptionTable.toList = tableOf M.2.2.2.2) ∧ am_b0 g ≤ s.heap.size ∧ ∀ q : Nat, q < am_b0 g → s.heap[q]? = g.2.1.heap[q]?
def am_Qc (g : am_C) (post : Option (Option Value) → am_S → Prop) : Array Value → State → Outcome → State → Prop := fun _ _ o t =>
  ∃ (v : Option Value) (σ' : am_S), o = .returned (v.map (am_rel g)) ∧ post (some v) σ' ∧ am_Rep g σ' t.heap
def am_Xc (g : am_C) (post : Option (Option Value) → am_S → Prop) : String → State → State → Prop := fun E _ t =>
  E = "java/util/NoSuchElementException" ∧ ∃ σ' : am_S, post none σ' ∧ am_Rep g σ' t.heap
/-- FROM HERE the method comes to an end with 'post' (none: it throws), with at most d frames below it, mc cells of ms slots more -/
def am_K (g : am_C) (d : Nat) (M : am_M) (mc ms : Nat) (pc : Nat) (lv : List (Nat × Value)) (st : List Value) (σ : am_S) (post : Option (Option Value) → am_S → Prop) : Prop :=
  ∀ (p : Program) (e : Env) (R : Room) (s : State) (m : MethodId) (args : Array Value) (below : List Frame) (meth : Method) (c : Code) (H : Heap) (locs : List Loc) (cells slots : Nat) (ls : Array Slot),
    am_F g M p s m meth c → d ≤ R.frames → 40 * d ≤ R.locals → cells + mc ≤ R.cells → slots + ms ≤ R.slots → am_Rep g σ H → (∀ q ∈ locs, am_b0 g ≤ q.base) → lv_has ls M.2.2.1 (am_lv g lv) →
    W p g.1 e R s m args below meth c H locs cells slots (vx_MQ below (am_Qc g post) (am_Xc g post) args s (cells + mc) (slots + ms) (fun q => am_b0 g ≤ q)) (F0 m pc ls (st.map (am_rel g)))
theorem am_cat (g : am_C) (v : Value) : (am_rel g v).category = v.category := by cases v <;> rfl
theorem am_at {g : am_C} {lv : List (Nat × Value)} {j i : Nat} {v : Value} (h : lv[j]? = some (i, v)) : (am_lv g lv)[j]? = some (i, am_rel g v) := by
  simp [am_lv, h]
theorem am_filt1 (g : am_C) (i : Nat) (lv : List (Nat × Value)) : (am_lv g lv).filter (fun q => !(q.1 == i) && !(q.1 + 1 == i && q.2.category == 2)) = am_lv g (lv.filter (fun q => !(q.1 == i) && !(q.1 + 1 == i && q.2.category == 2))) := by
  induction lv with
  | nil => rfl
  | cons a l ih =>
    simp only [am_lv, List.map_cons, List.filter_cons, am_cat] at ih ⊢
    rw [ih]
    split <;> simp
theorem am_filt2 (g : am_C) (i : Nat) (lv : List (Nat × Value)) : (am_lv g lv).filter (fun q => !(q.1 == i) && (!(q.1 == i + 1) && !(q.1 + 1 == i && q.2.category == 2))) = am_lv g (lv.filter (fun q => !(q.1 == i) && (!(q.1 == i + 1) && !(q.1 + 1 == i && q.2.category == 2)))) := by
  induction lv with
  | nil => rfl
  | cons a l ih =>
    simp only [am_lv, List.map_cons, List.filter_cons, am_cat] at ih ⊢
    rw [ih]
    split <;> simp
/-- the words that stay true under warmer tables -/
def am_T : List Cond := lw_tbl.filter goodWord
/-- the number of a text among the outer things -/
def am_sx (own : String) (i : Nat) : Nat := 10 + i + 1000 * own.length
/-- what is known from the law's entry on -/
def am_G (g : am_C) : Prop :=
  (∀ w ∈ lw_tbl, w.before g.2.2.1 g.2.1 = true) ∧
  va_K g.2.2.2.1 vwCl [(g.2.2.2.2.1 .int, .int), (g.2.2.2.2.1 .byte, .byte), (g.2.2.2.2.1 .long, .long), (g.2.2.2.2.1 .boolean, .boolean), (g.2.2.2.2.1 (.object "WindowSale$Scene"), .object "WindowSale$Scene")] g.2.1 ∧
  (∀ (k n : Nat) (f : Nat → Int32), g.2.2.2.2.2.2 k = some (n, f) → n < 2 ^ 31 ∧ ∃ cell : Cell, g.2.1.heap[g.2.2.2.2.2.1 k]? = some cell ∧ g.2.1.isArrayOf cell .int ∧ cell.vm ≠ .unknown ∧ (n ≤ cell.slots.size ∧ cell.slots.size.toInt32 = Int32.ofNat n) ∧ ∀ j : Nat, j < n → cell.slots[j]? = some (.int (f j))) ∧
  (va_Z "WindowSale$Station" "USUAL" "[I" (.ref (g.2.2.2.2.2.1 1)) (fun q => am_b0 g ≤ q) g.2.1 g.2.1.heap ∧ va_Z "WindowSale$Station" "LEAST" "[I" (.ref (g.2.2.2.2.2.1 2)) (fun q => am_b0 g ≤ q) g.2.1 g.2.1.heap ∧ va_Z "WindowSale$Station" "GREATEST" "[I" (.ref (g.2.2.2.2.2.1 3)) (fun q => am_b0 g ≤ q) g.2.1 g.2.1.heap) ∧
  (∀ (own : String) (i : Nat) (tx : String), Cond.stringRef own i tx ∈ lw_tbl → vk_R own i tx (g.2.2.2.2.2.1 (am_sx own i)) g.2.1) ∧
  (g.1.stackTraces = false ∧ vx_Zq Bundle.tN "UNASSIGNED_STACK" Bundle.steD (fun q => am_b0 g ≤ q) g.2.1 g.2.1.heap ∧ vx_Zq Bundle.tN "SUPPRESSED_SENTINEL" Bundle.listD (fun q => am_b0 g ≤ q) g.2.1 g.2.1.heap)
theorem am_hts {g : am_C} (G : am_G g) {s : State} (hW : g.2.1.WarmedH s.vm) (args : Array Value) : ∀ w ∈ am_T, w.before args s = true := by
  intro w hw
  have h1 := List.mem_filter.mp hw
  exact word_at hW (good_of_word h1.2) (G.1 w h1.1)
theorem am_w {g : am_C} (G : am_G g) {s : State} (hW : g.2.1.WarmedH s.vm) (args : Array Value) {w : Cond} (h : w ∈ lw_tbl) (hg : goodWord w = true) : w.before args s = true := am_hts G hW args w (List.mem_filter.mpr ⟨h, hg⟩)
theorem am_hK {g : am_C} (G : am_G g) {s : State} (hW : g.2.1.WarmedH s.vm) : va_K g.2.2.2.1 vwCl [(g.2.2.2.2.1 .int, .int), (g.2.2.2.2.1 .byte, .byte), (g.2.2.2.2.1 .long, .long), (g.2.2.2.2.1 .boolean, .boolean), (g.2.2.2.2.1 (.object "WindowSale$Scene"), .object "WindowSale$Scene")] s := va_K.moved hW.alike G.2.1
