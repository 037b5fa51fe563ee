/-! AN EXECUTOR over my abstract memory, with words that are not known: it tries every road; what it says true of is proved in the parts behind. Written so that the kernel runs it: all that goes into the next state is forced first (the functions go on with K).
Std.Format serves as a type of trees. An int: .nest n .nil (the number n), .tag k .line (the word k), .tag o (.append a b) (the operation o of two). A trie: .append v (.append l r). -/
abbrev ex_F : Type := Std.Format
abbrev ex_V : Type := ex_F ⊕ (Nat ⊕ (Nat ⊕ Option Nat))
abbrev ex_L : Type := List (Nat × ex_V)
/-- pc, instruction, length, next pc, what the links lead to -/
abbrev ex_E : Type := Nat × Instr × Nat × Nat × List Nat
/-- a method: itself, what its words are, its code in blocks of 32 bytes -/
abbrev ex_T : Type := am_M × List Nat × List (List ex_E)
/-- method, the code that comes next, pc, depth left, cells left, slots left, locals, stack -/
abbrev ex_Fr : Type := ex_T × List ex_E × Nat × Nat × Nat × Nat × ex_L × List ex_V
/-- number of cells, whether more cells lie behind them, shapes, ints, longs, references -/
abbrev ex_Me : Type := Nat × Bool × ex_F × ex_F × ex_F × ex_F
abbrev ex_Pa : Type := List (ex_F × Int × Int)
abbrev ex_K : Type := ex_T → List ex_E → Nat → Nat → Nat → Nat → ex_L → List ex_V → List ex_Fr → ex_Me → ex_Pa → Bool
abbrev ex_c (n : Int) : ex_F := .nest n .nil
abbrev ex_len : ex_F := .tag 100 .line
/-! forcing -/
noncomputable def ex_fN {β : Type} (n : Nat) (K : Nat → β) : β := Nat.casesOn n (K 0) (fun m => K (m + 1))
noncomputable def ex_fI {β : Type} (n : Int) (K : Int → β) : β := Int.casesOn n (fun m => ex_fN m fun m => K (.ofNat m)) (fun m => ex_fN m fun m => K (.negSucc m))
def ex_fF {β : Type} (e : ex_F) (K : ex_F → β) : β := match e with
  | .nil => K .nil
  | .line => K .line
  | .align b => K (.align b)
  | .text s => K (.text s)
  | .nest n f => K (.nest n f)
  | .append a b => K (.append a b)
  | .group a b => K (.group a b)
  | .tag n f => K (.tag n f)
theorem ex_fN_eq {β : Type} (n : Nat) (K : Nat → β) : ex_fN n K = K n := by cases n <;> rfl
theorem ex_fI_eq {β : Type} (n : Int) (K : Int → β) : ex_fI n K = K n := by
  cases n with
  | ofNat m => exact ex_fN_eq m (fun m => K (.ofNat m))
  | negSucc m => exact ex_fN_eq m (fun m => K (.negSucc m))
theorem ex_fF_eq {β : Type} (e : ex_F) (K : ex_F → β) : ex_fF e K = K e := by cases e <;> rfl
/-! lists -/
noncomputable def ex_nth {α : Type} (l : List α) (n : Nat) : Option α := List.rec (motive := fun _ => Nat → Option α) (fun _ => none) (fun a _ ih n => Nat.casesOn n (some a) ih) l n
theorem ex_nth_mem {α : Type} {l : List α} {n : Nat} {a : α} (h : ex_nth l n = some a) : a ∈ l := by
  induction l generalizing n with
  | nil => cases h
  | cons b l ih =>
    cases n with
    | zero => cases h; exact List.mem_cons_self
    | succ m => exact List.mem_cons_of_mem _ (ih h)
noncomputable def ex_drop (l : List ex_E) (pc : Nat) : List ex_E := List.rec (motive := fun _ => List ex_E) [] (fun e l ih => bif e.1.beq pc then e :: l else ih) l
theorem ex_drop_mem {l : List ex_E} {pc : Nat} : ∀ e ∈ ex_drop l pc, e ∈ l := by
  induction l with
  | nil => intro e h; exact h
  | cons b l ih =>
    intro e h
    have h' : e ∈ (bif b.1.beq pc then b :: l else ex_drop l pc) := h
    cases hb : b.1.beq pc with
    | true => rw [hb] at h'; exact h'
    | false => rw [hb] at h'; exact List.mem_cons_of_mem _ (ih e h')
noncomputable def ex_look (T : ex_T) (pc : Nat) : List ex_E := match ex_nth T.2.2 (pc / 32) with
  | none => []
  | some b => ex_drop b pc
theorem ex_look_mem {T : ex_T} {pc : Nat} : ∀ e ∈ ex_look T pc, ∃ b ∈ T.2.2, e ∈ b := by
  intro e h
  unfold ex_look at h
  split at h
  · cases h
  · rename_i b hb
    exact ⟨b, ex_nth_mem hb, ex_drop_mem e h⟩
/-! tries -/
theorem ex_beq (k n : Nat) : k.beq n = decide (k = n) := by
  by_cases h : k = n
  · rw [decide_eq_true h, h]; exact Nat.beq_refl n
  · rw [decide_eq_false h]; exact Bool.eq_false_iff.mpr (fun q => h (Nat.eq_of_beq_eq_true q))
def ex_node (t : ex_F) : ex_F × ex_F × ex_F := match t with
  | .append w (.append l r) => (w, l, r)
  | _ => (.nil, .nil, .nil)
noncomputable def ex_get1 (ih : ex_F → Nat → ex_F) (t : ex_F) (k : Nat) : ex_F := match t with
  | .append v (.append l r) => bif k.beq 0 then v else bif (k % 2).beq 1 then ex_fN (k / 2) fun q => ih l q else ex_fN (k / 2 - 1) fun q => ih r q
  | _ => .nil
noncomputable def ex_get (d : Nat) : ex_F → Nat → ex_F := Nat.rec (motive := fun _ => ex_F → Nat → ex_F) (fun _ _ => .nil) (fun _ ih => ex_get1 ih) d
def ex_put1 (ih : ex_F → Nat → ex_F → ex_F) (t : ex_F) (k : Nat) (v : ex_F) : ex_F := match ex_node t with
  | (w, l, r) => bif k.beq 0 then .append v (.append l r) else bif (k % 2).beq 1 then .append w (.append (ih l (k / 2) v) r) else .append w (.append l (ih r (k / 2 - 1) v))
noncomputable def ex_put (d : Nat) : ex_F → Nat → ex_F → ex_F := Nat.rec (motive := fun _ => ex_F → Nat → ex_F → ex_F) (fun t _ _ => t) (fun _ ih => ex_put1 ih) d
noncomputable def ex_set1 (ih : ex_F → Nat → ex_F → (ex_F → Bool) → Bool) (t : ex_F) (k : Nat) (v : ex_F) (K : ex_F → Bool) : Bool := match ex_node t with
  | (w, l, r) => bif k.beq 0 then K (.append v (.append l r)) else bif (k % 2).beq 1 then ex_fN (k / 2) fun q => ih l q v fun l' => K (.append w (.append l' r)) else ex_fN (k / 2 - 1) fun q => ih r q v fun r' => K (.append w (.append l r'))
noncomputable def ex_set (d : Nat) : ex_F → Nat → ex_F → (ex_F → Bool) → Bool := Nat.rec (motive := fun _ => ex_F → Nat → ex_F → (ex_F → Bool) → Bool) (fun t _ _ K => K t) (fun _ ih => ex_set1 ih) d
theorem ex_set_eq (d : Nat) : ∀ (t : ex_F) (k : Nat) (v : ex_F) (K : ex_F → Bool), ex_set d t k v K = K (ex_put d t k v) := by
  induction d with
  | zero => intro t k v K; rfl
  | succ d ih =>
    intro t k v K
    show ex_set1 (ex_set d) t k v K = K (ex_put1 (ex_put d) t k v)
    unfold ex_set1 ex_put1
    rcases ex_node t with ⟨w, l, r⟩
    dsimp only
    rw [ex_fN_eq, ex_fN_eq, ih, ih]
    cases k.beq 0
    · cases (k % 2).beq 1 <;> rfl
    · rfl
theorem ex_get_nil (d k : Nat) : ex_get d .nil k = .nil := by cases d <;> rfl
theorem ex_get_s (d : Nat) (w l r : ex_F) (k : Nat) : ex_get (d + 1) (.append w (.append l r)) k = if k = 0 then w else if k % 2 = 1 then ex_get d l (k / 2) else ex_get d r (k / 2 - 1) := by
  show (bif k.beq 0 then w else bif (k % 2).beq 1 then ex_fN (k / 2) fun q => ex_get d l q else ex_fN (k / 2 - 1) fun q => ex_get d r q) = _
  rw [ex_fN_eq, ex_fN_eq, ex_beq, ex_beq]
  by_cases h : k = 0
  · simp [h]
  · by_cases h2 : k % 2 = 1 <;> simp [h, h2]
theorem ex_get_n (d : Nat) (t : ex_F) (k : Nat) : ex_get (d + 1) t k = ex_get (d + 1) (.append (ex_node t).1 (.append (ex_node t).2.1 (ex_node t).2.2)) k := by
  unfold ex_node
  split
  · rfl
  · rename_i h
    rw [ex_get_s, ex_get_nil, ex_get_nil]
    have e1 : ex_get (d + 1) t k = .nil := by
      show ex_get1 (ex_get d) t k = .nil
      unfold ex_get1
      split
      · exact absurd rfl (h _ _ _)
      · rfl
    rw [e1]
    split
    · rfl
    · split <;> rfl
theorem ex_put_s (d : Nat) (t : ex_F) (k : Nat) (v : ex_F) : ∃ w l r : ex_F, (∀ q, ex_get (d + 1) t q = ex_get (d + 1) (.append w (.append l r)) q) ∧ ex_put (d + 1) t k v = if k = 0 then .append v (.append l r) else if k % 2 = 1 then .append w (.append (ex_put d l (k / 2) v) r) else .append w (.append l (ex_put d r (k / 2 - 1) v)) := by
  refine ⟨(ex_node t).1, (ex_node t).2.1, (ex_node t).2.2, fun q => ex_get_n d t q, ?_⟩
  show ex_put1 (ex_put d) t k v = _
  unfold ex_put1
  rcases ex_node t with ⟨w, l, r⟩
  dsimp only
  rw [ex_beq, ex_beq]
  by_cases h : k = 0
  · simp [h]
  · by_cases h2 : k % 2 = 1 <;> simp [h, h2]
theorem ex_get_put (d : Nat) : ∀ (t : ex_F) (k q : Nat) (v : ex_F), k + 1 < 2 ^ d → q + 1 < 2 ^ d → ex_get d (ex_put d t k v) q = if q = k then v else ex_get d t q := by
  induction d with
  | zero => intro t k q v h; omega
  | succ d ih =>
    intro t k q v hk hq
    obtain ⟨w, l, r, hg, hp⟩ := ex_put_s d t k v
    rw [hp, hg]
    have hpow : 2 ^ (d + 1) = 2 * 2 ^ d := by rw [Nat.pow_succ]; omega
    by_cases h0 : k = 0
    · rw [if_pos h0, ex_get_s, ex_get_s]
      by_cases hq0 : q = 0
      · rw [if_pos hq0, if_pos (by omega)]
      · rw [if_neg (show ¬ q = k by omega), if_neg hq0, if_neg hq0]
    · rw [if_neg h0]
      by_cases h1 : k % 2 = 1
      · rw [if_pos h1, ex_get_s, ex_get_s]
        by_cases hq0 : q = 0
        · rw [if_pos hq0, if_neg (by omega), if_pos hq0]
        · rw [if_neg hq0, if_neg hq0]
          by_cases hq1 : q % 2 = 1
          · rw [if_pos hq1, if_pos hq1, ih _ _ _ _ (by omega) (by omega)]
            by_cases e : q = k
            · rw [if_pos e, if_pos (by omega)]
            · rw [if_neg e, if_neg (by omega)]
          · rw [if_neg hq1, if_neg hq1, if_neg (by omega)]
      · rw [if_neg h1, ex_get_s, ex_get_s]
        by_cases hq0 : q = 0
        · rw [if_pos hq0, if_neg (by omega), if_pos hq0]
        · rw [if_neg hq0, if_neg hq0]
          by_cases hq1 : q % 2 = 1
          · rw [if_pos hq1, if_pos hq1, if_neg (by omega)]
          · rw [if_neg hq1, if_neg hq1, ih _ _ _ _ (by omega) (by omega)]
            by_cases e : q = k
            · rw [if_pos e, if_pos (by omega)]
            · rw [if_neg e, if_neg (by omega)]
