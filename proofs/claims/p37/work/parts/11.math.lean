/-! Math.max, Math.min, Math.abs of ints -/
theorem am_math : (Cond.initialized "java/lang/Math" ∈ lw_tbl ∧ Cond.static Lib.Math.max.name ∈ lw_tbl ∧ Cond.code Lib.Math.max.name Lib.Math.max.code 2 (some .int) ∈ lw_tbl) ∧ (Cond.static Lib.Math.min.name ∈ lw_tbl ∧ Cond.code Lib.Math.min.name Lib.Math.min.code 2 (some .int) ∈ lw_tbl) ∧ Cond.static Lib.Math.abs.name ∈ lw_tbl ∧ Cond.code Lib.Math.abs.name Lib.Math.abs.code 1 (some .int) ∈ lw_tbl := by decide +kernel
section KMA
variable {g : am_C} {d : Nat} {M : am_M} {mc ms pc idx : Nat} {lv : List (Nat × Value)} {st : List Value} {σ : am_S} {post : Option (Option Value) → am_S → Prop}
theorem kr_mmax (G : am_G g) {x y : Int32} (hlk : Cond.methodLink M.1.cls idx Lib.Math.max.name ∈ lw_tbl) (hd : decode M.2.1 pc = .ok (.invokestatic idx, 3)) (hd1 : 1 ≤ d) (hroom : (st.map fun v => v.category).sum ≤ 8) (kk : am_K g d M mc ms (pc + 3) lv (.int (if x < y then y else x) :: st) σ post) : am_K g d M mc ms pc lv (.int y :: .int x :: st) σ post := by
  intro p e R s m args below meth c H locs cells slots ls F h1 h2 h3 h4 hR hL hl
  have hW := F.2.2.2.2.2.2.1
  have hr : 2 * 0 + ((st.map (am_rel g)).map fun v => v.category).sum ≤ 8 := am_rest (g := g) (m := m) (pc := pc) (ls := ls) (x := []) hroom
  exact va_mmax F.1 F.2.1 (F.2.2.1.trans hl.1.symm) F.2.2.2.2.2.1 (am_w G hW args hlk rfl) (am_w G hW args am_math.1.2.1 rfl) (am_w G hW args am_math.1.1 rfl) (am_w G hW args am_math.1.2.2 rfl) (by omega) (by omega) (by omega) (by omega) hd (kk p e R s m args below meth c H locs cells slots ls F h1 h2 h3 h4 hR hL hl)
theorem kr_mmin (G : am_G g) {x y : Int32} (hlk : Cond.methodLink M.1.cls idx Lib.Math.min.name ∈ lw_tbl) (hd : decode M.2.1 pc = .ok (.invokestatic idx, 3)) (hd1 : 1 ≤ d) (hroom : (st.map fun v => v.category).sum ≤ 8) (kk : am_K g d M mc ms (pc + 3) lv (.int (if y < x then y else x) :: st) σ post) : am_K g d M mc ms pc lv (.int y :: .int x :: st) σ post := by
  intro p e R s m args below meth c H locs cells slots ls F h1 h2 h3 h4 hR hL hl
  have hW := F.2.2.2.2.2.2.1
  have hr : 2 * 0 + ((st.map (am_rel g)).map fun v => v.category).sum ≤ 8 := am_rest (g := g) (m := m) (pc := pc) (ls := ls) (x := []) hroom
  exact va_mmin F.1 F.2.1 (F.2.2.1.trans hl.1.symm) F.2.2.2.2.2.1 (am_w G hW args hlk rfl) (am_w G hW args am_math.2.1.1 rfl) (am_w G hW args am_math.1.1 rfl) (am_w G hW args am_math.2.1.2 rfl) (by omega) (by omega) (by omega) (by omega) hd (kk p e R s m args below meth c H locs cells slots ls F h1 h2 h3 h4 hR hL hl)
theorem kr_mabs (G : am_G g) {x : Int32} (hlk : Cond.methodLink M.1.cls idx Lib.Math.abs.name ∈ lw_tbl) (hd : decode M.2.1 pc = .ok (.invokestatic idx, 3)) (hd1 : 1 ≤ d) (hroom : (st.map fun v => v.category).sum ≤ 8) (kk : am_K g d M mc ms (pc + 3) lv (.int (if 0 ≤ x then x else 0 - x) :: st) σ post) : am_K g d M mc ms pc lv (.int x :: st) σ post := by
  intro p e R s m args below meth c H locs cells slots ls F h1 h2 h3 h4 hR hL hl
  have hW := F.2.2.2.2.2.2.1
  have hr : 2 * 0 + ((st.map (am_rel g)).map fun v => v.category).sum ≤ 8 := am_rest (g := g) (m := m) (pc := pc) (ls := ls) (x := []) hroom
  exact va_mabs F.1 F.2.1 (F.2.2.1.trans hl.1.symm) F.2.2.2.2.2.1 (am_w G hW args hlk rfl) (am_w G hW args am_math.2.2.1 rfl) (am_w G hW args am_math.1.1 rfl) (am_w G hW args am_math.2.2.2 rfl) (by omega) (by omega) (by omega) (by omega) hd (kk p e R s m args below meth c H locs cells slots ls F h1 h2 h3 h4 hR hL hl)
end KMA
