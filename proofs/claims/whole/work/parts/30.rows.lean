/-! rows: what a lane keeps of an int; places -/
def lnI (lane : Nat) (v : Int32) : Int32 := if lane = 0 then v.toInt8.toInt32 else if lane = 1 then v.toInt16.toInt32 else v
theorem sh24 (v : Int32) : (v <<< (nI 24 &&& 31)) >>> (nI 24 &&& 31) = v.toInt8.toInt32 := by
  apply Int32.toInt_inj.mp
  rw [pk_shr _ _ 24 (by decide)]
  have h1 : (v <<< (nI 24 &&& 31)).toBitVec = v.toBitVec <<< 24 := by
    apply BitVec.eq_of_toNat_eq
    rw [pk_shl _ _ 24 (by decide)]
    simp [BitVec.toNat_shiftLeft, Nat.shiftLeft_eq]
  have h2 : (v <<< (nI 24 &&& 31)).toInt = (v.toBitVec <<< 24).toInt := by rw [← h1]; rfl
  rw [h2]
  have h3 : v.toInt8.toInt32.toInt = ((v.toBitVec.setWidth 8).signExtend 32).toInt := by
    show (BitVec.signExtend 32 (BitVec.signExtend 8 v.toBitVec)).toInt = _
    rw [BitVec.signExtend_eq_setWidth_of_le _ (by decide : 8 ≤ 32)]
  rw [h3, ← BitVec.toInt_sshiftRight]
  refine congrArg BitVec.toInt ?_
  apply BitVec.eq_of_getLsbD_eq
  intro j hj
  simp only [BitVec.getLsbD_sshiftRight, BitVec.getLsbD_signExtend, BitVec.getLsbD_shiftLeft, BitVec.getLsbD_setWidth, BitVec.msb_eq_getLsbD_last]
  by_cases c : j < 8
  · have : 24 + j < 32 := by omega
    have : ¬ 24 + j < 24 := by omega
    simp [*]
  · have : ¬ 24 + j < 32 := by omega
    simp [*]
theorem sh16 (v : Int32) : (v <<< (nI 16 &&& 31)) >>> (nI 16 &&& 31) = v.toInt16.toInt32 := by
  apply Int32.toInt_inj.mp
  rw [pk_shr _ _ 16 (by decide)]
  have h1 : (v <<< (nI 16 &&& 31)).toBitVec = v.toBitVec <<< 16 := by
    apply BitVec.eq_of_toNat_eq
    rw [pk_shl _ _ 16 (by decide)]
    simp [BitVec.toNat_shiftLeft, Nat.shiftLeft_eq]
  have h2 : (v <<< (nI 16 &&& 31)).toInt = (v.toBitVec <<< 16).toInt := by rw [← h1]; rfl
  rw [h2]
  have h3 : v.toInt16.toInt32.toInt = ((v.toBitVec.setWidth 16).signExtend 32).toInt := by
    show (BitVec.signExtend 32 (BitVec.signExtend 16 v.toBitVec)).toInt = _
    rw [BitVec.signExtend_eq_setWidth_of_le _ (by decide : 16 ≤ 32)]
  rw [h3, ← BitVec.toInt_sshiftRight]
  refine congrArg BitVec.toInt ?_
  apply BitVec.eq_of_getLsbD_eq
  intro j hj
  simp only [BitVec.getLsbD_sshiftRight, BitVec.getLsbD_signExtend, BitVec.getLsbD_shiftLeft, BitVec.getLsbD_setWidth, BitVec.msb_eq_getLsbD_last]
  by_cases c : j < 16
  · have : 16 + j < 32 := by omega
    have : ¬ 16 + j < 16 := by omega
    simp [*]
  · have : ¬ 16 + j < 32 := by omega
    simp [*]
abbrev hld (x n : Int32) (z : Nat) : Prop := 0 ≤ x ∧ 0 ≤ n ∧ x.toInt + n.toInt ≤ (z : Int)
theorem in_hld {x n : Int32} {z : Nat} (hz : z ≤ 40) (hn : 0 ≤ n) : ((0 : Int64) ≤ x.toInt64 ∧ x.toInt64 ≤ (nI z).toInt64 - n.toInt64) ↔ hld x n z := by
  have e : (0 : Int64) = (0 : Int32).toInt64 := rfl
  have hn0 : (0 : Int) ≤ n.toInt := by
    have := Int32.le_iff_toInt_le.mp hn
    exact this
  have hn1 : n.toInt < 2 ^ 31 := Int32.toInt_lt n
  have h2 : ((nI z).toInt64 - n.toInt64).toInt = (z : Int) - n.toInt := by
    rw [Int64.toInt_sub, Int32.toInt_toInt64, Int32.toInt_toInt64, nI_int (by omega)]
    apply Int.bmod_eq_of_le <;> omega
  rw [e, w_le]
  unfold hld
  rw [Int64.le_iff_toInt_le, h2, Int32.toInt_toInt64]
  constructor
  · intro h; exact ⟨h.1, hn, by omega⟩
  · intro h; exact ⟨h.1, by omega⟩
theorem hld_of {x n : Int32} {z : Nat} (hz : z ≤ 40) (h : hld x n z) : ∃ o m : Nat, x = nI o ∧ n = nI m ∧ o + m ≤ z := by
  obtain ⟨h1, h2, h3⟩ := h
  obtain ⟨o, ho, rfl⟩ := nI_of (Int32.not_lt.mpr h1)
  obtain ⟨m, hm, rfl⟩ := nI_of (Int32.not_lt.mpr h2)
  rw [nI_int ho, nI_int hm] at h3
  exact ⟨o, m, rfl, rfl, by omega⟩
theorem hld_n {o m z : Nat} (hz : z ≤ 40) (h : o + m ≤ z) : hld (nI o) (nI m) z := ⟨nI_pos' (by omega), nI_pos' (by omega), by rw [nI_int (by omega), nI_int (by omega)]; omega⟩
theorem cpy_cpy {α : Type} (f g h : Nat → α) (sp dp m : Nat) : va_cpy (va_cpy f g sp 0 m) h 0 dp m = va_cpy f h sp dp m := by
  funext k
  by_cases c : dp ≤ k ∧ k < dp + m
  · rw [cpy_in c.1 c.2, cpy_in (by omega) (by omega), cpy_in c.1 c.2]
    congr 1
    omega
  · rw [cpy_out (by omega), cpy_out (by omega)]
