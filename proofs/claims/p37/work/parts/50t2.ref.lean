/-! locals that hold references, any number of them -/
theorem hd_rfn {lw : List (Nat × Value)} : sx_Refs lw [] := fun q hq => by cases hq
theorem hd_rfc {lw : List (Nat × Value)} {i o : Nat} {l : sx_L} (h : (i, Value.ref o) ∈ lw) (t : sx_Refs lw l) : sx_Refs lw ((i, .inr (some (false, o))) :: l) := by
  intro q hq
  rcases List.mem_cons.mp hq with e | hq
  · rw [e]
    exact ⟨_, h, rfl⟩
  · exact t q hq
theorem hd_rfcx {lw : List (Nat × Value)} {i o : Nat} {l : sx_L} (h : (i, Value.retAddr o) ∈ lw) (t : sx_Refs lw l) : sx_Refs lw ((i, .inr (some (true, o))) :: l) := by
  intro q hq
  rcases List.mem_cons.mp hq with e | hq
  · rw [e]
    exact ⟨_, h, rfl⟩
  · exact t q hq
theorem hd_rfh {lw : List (Nat × Value)} {i o : Nat} {t : sx_L} (h : sx_Refs lw ((i, .inr (some (false, o))) :: t)) : (i, Value.ref o) ∈ lw := by
  obtain ⟨v, h1, h2⟩ := h _ List.mem_cons_self
  have e : v = .ref o := h2
  rw [← e]
  exact h1
theorem hd_rfhx {lw : List (Nat × Value)} {i o : Nat} {t : sx_L} (h : sx_Refs lw ((i, .inr (some (true, o))) :: t)) : (i, Value.retAddr o) ∈ lw := by
  obtain ⟨v, h1, h2⟩ := h _ List.mem_cons_self
  have e : v = .retAddr o := h2
  rw [← e]
  exact h1
theorem hd_rfT {lw : List (Nat × Value)} {q : Nat × sx_V} {t : sx_L} (h : sx_Refs lw (q :: t)) : sx_Refs lw t := fun z hz => h z (List.mem_cons_of_mem _ hz)
theorem hd_strx {s : List sg_S} {o : Nat} {sw : List Value} {ws : List Int} (h : sg_St (some (true, o) :: s) sw ws) : ∃ sw', sw = .retAddr o :: sw' ∧ sg_St s sw' ws := by
  match sw, ws, h with
  | x :: sw, ws, h => exact ⟨sw, by rw [show x = .retAddr o from h.1], h.2⟩
