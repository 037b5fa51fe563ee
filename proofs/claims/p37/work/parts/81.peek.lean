/-! the reader of the reference: bytes -/
def rd_pk (b : Nat → Nat) (n p : Nat) : Int := if p < n then (b p : Int) else -1
theorem rd_by_int (t : Nat → Int32) (k : Nat) : (t k &&& 255).toInt = ((rd_by t k : Nat) : Int) := by
  have h := ex_and_le (t k) (c := 255) (by decide)
  have e : (t k &&& Int32.ofInt (.ofNat 255)) = (t k &&& 255) := rfl
  rw [e] at h
  unfold rd_by
  omega
theorem rd_by_le (t : Nat → Int32) (k : Nat) : rd_by t k ≤ 255 := by
  have h := ex_and_le (t k) (c := 255) (by decide)
  have e : (t k &&& Int32.ofInt (.ofNat 255)) = (t k &&& 255) := rfl
  rw [e, rd_by_int] at h
  omega
theorem sx_bit0 (u : Nat) : sx_bit 0 u = false := by rw [sx_bit_eq]; exact Nat.zero_testBit _
theorem rd_a119 {k : Nat} (h : k < 940) : sx_atl (z9.1 119) k = some (.negSucc 127, .ofNat 127, 406) := by
  show sx_atl [(940, .negSucc 127, .ofNat 127, 406)] k = _
  unfold sx_atl
  rw [if_pos h]
section RD
variable {g : am_C} {L : Nat} {xs : Nat → Int32}
theorem rd_peek (G : sx_G0 g L xs zK hd_T ex_mt) {σ : am_S} {lw : List (Nat × Value)} {post : Option (Option Value) → am_S → Prop} (hM : sx_M zK hd_T σ 0 0 σ) (hl : (0, Value.ref 118) ∈ lw) (k : ∀ (r : Int32) (σ' : am_S), sx_M zK hd_T σ 0 0 σ' → r.toInt = rd_pk (rd_by (σ.2.1 119)) (σ.2.1 118 3).toInt.toNat (σ.2.1 118 4).toInt.toNat → post (some (some (.int r))) σ') : am_K g 3 tX12_peek.1 0 0 0 lw [] σ post := by
  have hz := hd_kd_118_3 hM
  have hp := hd_kd_118_4 hM
  refine sg_pk1_run G hd_ctK hM hl ?_ ?_
  · intro r σ' f1 f2 hM1
    refine k r σ' hM1 ?_
    unfold rd_pk
    rw [if_neg (by omega)]
    omega
  · intro lw1 n0 σ1 hl1 f1 f2 hM1
    have en : n0.toInt = (((σ.2.1 118 4).toInt.toNat : Nat) : Int) := by omega
    refine kr_bald G.1 rd_d_X12_peek_19 (hM1.1 119 (.inr (.byte, 940)) rfl) (hd_in en (by omega)) ?_
    rw [hd_clamp en]
    refine sg_pk2_run G hd_ctK (sx_M_self hM1) hl1 ?_
    intro lw2 a c σ2 hl2 f3 f4 hM2
    obtain rfl : a = 255 := Int32.toInt_inj.mp (by have : (255 : Int32).toInt = 255 := rfl; omega)
    obtain rfl : c = σ1.2.1 119 (σ.2.1 118 4).toInt.toNat := Int32.toInt_inj.mp (by omega)
    refine kr_iand rd_d_X12_peek_23 ?_
    refine sg_pk3_run G hd_ctK (sx_M_self hM2) hl2 ?_
    intro r σ3 f5 hM3
    refine k r σ3 (hd_tr (hd_tr hM1 hM2 rfl) hM3 rfl) ?_
    have hb := rd_by_int (σ1.2.1 119) (σ.2.1 118 4).toInt.toNat
    have e : rd_by (σ1.2.1 119) (σ.2.1 118 4).toInt.toNat = rd_by (σ.2.1 119) (σ.2.1 118 4).toInt.toNat := by
      unfold rd_by
      rw [hM1.2.2.2.2.1 119 (σ.2.1 118 4).toInt.toNat _ _ _ (rd_a119 (by omega)) (sx_bit0 _)]
    unfold rd_pk
    rw [if_pos (by omega)]
    omega
end RD
