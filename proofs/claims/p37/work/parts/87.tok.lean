/-! the reader of the reference: next, whole; and as it is called -/
section RX
variable {g : am_C} {L : Nat} {xs : Nat → Int32}
theorem rd_next (G : sx_G0 g L xs zK hd_T ex_mt) {σ : am_S} (hM : sx_M zK hd_T σ 0 0 σ) {b : Nat → Nat} {n most p : Nat} (X : rd_X σ b n most) (hp : (σ.2.1 118 4).toInt = p) {lw : List (Nat × Value)} (hl : (0, Value.ref 118) ∈ lw) {post : Option (Option Value) → am_S → Prop} (k : ∀ σ', sx_M zK hd_T σ rd_mN 0 σ' → rd_N σ' b (rd_tok b n most p) → post (some none) σ') : am_K g 10 tX12_next.1 0 0 0 lw [] σ post := by
  have et : rd_tok b n most p = rd_tk1 b n most (rd_sk b n (n - p) p) := rfl
  refine rd_skip G X (q := rd_sk b n (n - p) p) ?_ (n - p) p σ lw (Nat.le_refl _) (sx_M_mask (by decide +kernel) hM) hp rfl hl
  intro σ1 lw1 H1 p1 hl1
  refine rd_tail G X H1 p1 hl1 (fun σ' h1 h2 => k σ' h1 (by rw [et]; exact h2)) ?_
  intro σ2 lw2 x2 x3 H2 p2 a2 s2 hlt hno hl2 h2 h3 hcl hx3
  have e2 : (rd_ltr (b (rd_sk b n (n - p) p)) || rd_dgt (b (rd_sk b n (n - p) p))) = true := by
    rcases hcl with h | h
    · rw [h.2]; rfl
    · rw [h.2, Bool.or_true]
  have kend : ∀ σ', sx_M zK hd_T σ rd_mN 0 σ' → rd_N σ' b (rd_tk2 b (rd_sk b n (n - p) p) (rd_rn b n (n - rd_sk b n (n - p) p) (rd_sk b n (n - p) p))) → post (some none) σ' := by
    intro σ' h4 h5
    refine k σ' h4 ?_
    rw [et]
    unfold rd_tk1
    rw [if_neg hno, if_neg (by omega), if_pos e2]
    exact h5
  obtain ⟨i0, hi0⟩ := List.getElem?_of_mem hl2
  refine kr_aload_n i0 rd_d_X12_next_171 hi0 ?_
  refine kr_lconst rd_d_X12_next_172 (v := 0) rfl ?_
  have hty := (rd_FP rd_k_X12_next_173).2
  refine kr_putJ G.1 (rd_FP rd_k_X12_next_173).1 rd_d_X12_next_173 (H2.1 118 (.inl 12) rfl) (by rw [hty]; rfl) (by rw [hty]; rfl) (by rw [hty]; rfl) ?_
  have H3 := rd_lgM H2 (by decide +kernel) (am_up σ2.2.2.1 118 15 0) (funext fun _ => am_up_o _ _ (by decide))
  refine sg_nx5z_run G hd_ctK (sx_M_self H3) hl2 h2 h3 ?_
  intro lw4 y2 y3 σ4 t0 t2 t3 d2 d3 d4 hM4
  have H4 := hd_tr H3 hM4 (by decide +kernel)
  have F4 : rd_F σ4 b (rd_sk b n (n - p) p) 0 0 0 := by
    refine ⟨?_, ?_, ?_, ?_, ?_⟩
    · rw [hM4.2.2.2.2.1 118 4 _ _ 363 rfl (by decide +kernel)]
      exact p2
    · rw [hM4.2.2.2.2.1 118 10 _ _ 369 rfl (by decide +kernel)]
      exact a2
    · rw [hM4.2.2.2.2.1 118 11 _ _ 370 rfl (by decide +kernel)]
      exact s2
    · show (σ4.2.1 118 12).toInt = ((0 : Nat) : Int)
      omega
    · rw [hM4.2.2.2.2.2.2.2.1 (by decide +kernel)]
      show am_up σ2.2.2.1 118 15 0 118 15 = 0
      rw [am_up_s]
  have ea : ∀ P : Nat → Bool, y3.toInt = (if rd_all P b 0 (rd_sk b n (n - p) p) = true then 1 else 0) := by
    intro P
    rw [if_pos (show rd_all P b 0 (rd_sk b n (n - p) p) = true from rfl)]
    omega
  rcases hcl with h | h
  · exact rd_run G X (x2 := x2) (P := rd_ltr) hlt (Or.inl ⟨h.1, rfl, h.2⟩) kend n 0 σ4 lw4 y2 y3 (by omega) H4 F4 (by omega) (ea _) (fun k hk => absurd hk (by omega)) (by omega) rfl t0 t2 t3
  · exact rd_run G X (x2 := x2) (P := rd_dgt) hlt (Or.inr ⟨h.1, rfl, h.2⟩) kend n 0 σ4 lw4 y2 y3 (by omega) H4 F4 (by omega) (ea _) (fun k hk => absurd hk (by omega)) (by omega) rfl t0 t2 t3
/-- next, called -/
theorem rd_nxc (G : sx_G0 g L xs zK hd_T ex_mt) {T : ex_T} {d : Nat} (hdp : 11 ≤ d) {σ : am_S} (hM : sx_M zK hd_T σ 0 0 σ) {b : Nat → Nat} {n most p : Nat} (X : rd_X σ b n most) (hp : (σ.2.1 118 4).toInt = p) {lw : List (Nat × Value)} {pc i mi q : Nat} (hT : ex_mt mi = some tX12_next) (hd : decode T.1.2.1 pc = .ok (.invokevirtual i, 3)) (hl : ex_lk ex_mt T pc (.invokevirtual i) [0, mi, q] = true) {st : List Value} (hroom : (st.map fun v => v.category).sum ≤ 8) {post : Option (Option Value) → am_S → Prop} (kk : ∀ σ', sx_M zK hd_T σ rd_mN 0 σ' → rd_N σ' b (rd_tok b n most p) → am_K g d T.1 0 0 (pc + 3) lw st σ' post) : am_K g d T.1 0 0 pc lw (.ref 118 :: st) σ post := by
  refine rd_call G (T2 := tX12_next) hT hd hl rfl (hM.1 118 (.inl 12) rfl) (as := []) (st := st) rfl (Nat.le_of_ble_eq_true rfl) rfl hroom (d1 := 10) hdp (post1 := fun r σ' => r = some none ∧ sx_M zK hd_T σ rd_mN 0 σ' ∧ rd_N σ' b (rd_tok b n most p)) (fun _ h => by cases h.1) (rd_next G hM X hp (by simp [lv_args]) (fun σ' h1 h2 => ⟨rfl, h1, h2⟩)) ?_
  intro v σ' ⟨hv, h1, h2⟩
  cases hv
  exact kk σ' h1 h2
end RX
