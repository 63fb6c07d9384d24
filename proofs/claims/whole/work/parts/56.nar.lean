/-! numbers that are cut to their bits -/
theorem nar_bits (v : BitVec 64) (k s : Nat) (hk : 0 < k) (hs : s + k = 64) : (v <<< s).sshiftRight s = (v.setWidth k).signExtend 64 := by
  apply BitVec.eq_of_getLsbD_eq
  intro i hi
  rw [BitVec.getLsbD_sshiftRight, BitVec.getLsbD_signExtend]
  have h64 : decide (64 ≤ i) = false := decide_eq_false (by omega)
  have hi64 : decide (i < 64) = true := decide_eq_true hi
  rw [h64, hi64, Bool.not_false, Bool.true_and, Bool.true_and]
  have hm : (v <<< s).msb = (v.setWidth k).msb := by
    rw [BitVec.msb_eq_getLsbD_last, BitVec.msb_eq_getLsbD_last, BitVec.getLsbD_shiftLeft, BitVec.getLsbD_setWidth]
    have a1 : decide (64 - 1 < 64) = true := by decide
    have a2 : decide (64 - 1 < s) = false := decide_eq_false (by omega)
    have a3 : decide (k - 1 < k) = true := decide_eq_true (by omega)
    rw [a1, a2, a3, Bool.not_false, Bool.true_and, Bool.true_and, Bool.true_and]
    congr 1
    omega
  by_cases h : i < k
  · rw [if_pos (by omega), if_pos h, BitVec.getLsbD_shiftLeft, BitVec.getLsbD_setWidth]
    have a1 : decide (s + i < 64) = true := decide_eq_true (by omega)
    have a2 : decide (s + i < s) = false := decide_eq_false (by omega)
    have a3 : decide (i < k) = true := decide_eq_true h
    rw [a1, a2, a3, Bool.not_false, Bool.true_and, Bool.true_and, Bool.true_and]
    congr 1
    omega
  · rw [if_neg (by omega), if_neg h, hm]
theorem nar8 (v : Int64) : (v.toInt32.toInt8.toInt32).toInt64 = (v <<< ((56 : Int32).toInt64 &&& 63)) >>> ((56 : Int32).toInt64 &&& 63) := by
  have hs : ((56 : Int32).toInt64 &&& 63) = 56 := by decide
  rw [hs]
  apply Int64.toBitVec_inj.mp
  have h1 : (56 : Int64).toBitVec.smod 64 = 56#64 := by decide
  have e : ((v <<< (56 : Int64)) >>> (56 : Int64)).toBitVec = (v.toBitVec <<< 56).sshiftRight 56 := by
    rw [Int64.toBitVec_shiftRight, Int64.toBitVec_shiftLeft, h1]
    rfl
  rw [e, nar_bits v.toBitVec 8 56 (by decide) (by decide)]
  show ((((v.toBitVec.signExtend 32).signExtend 8).signExtend 32).signExtend 64) = _
  apply BitVec.eq_of_getLsbD_eq
  intro i hi
  have hi64 : decide (i < 64) = true := decide_eq_true hi
  have lx : ∀ X : BitVec 32, (BitVec.signExtend 64 X).getLsbD i = if i < 32 then X.getLsbD i else X.msb := fun X => by rw [BitVec.getLsbD_signExtend, hi64, Bool.true_and]
  have ly : ∀ Y : BitVec 8, (BitVec.signExtend 64 Y).getLsbD i = if i < 8 then Y.getLsbD i else Y.msb := fun Y => by rw [BitVec.getLsbD_signExtend, hi64, Bool.true_and]
  rw [lx, ly]
  have h7 : ((v.toBitVec.signExtend 32).signExtend 8).msb = (v.toBitVec.setWidth 8).msb := by
    rw [BitVec.msb_eq_getLsbD_last, BitVec.msb_eq_getLsbD_last, BitVec.getLsbD_signExtend, BitVec.getLsbD_signExtend, BitVec.getLsbD_setWidth]
    simp
  have h31 : (((v.toBitVec.signExtend 32).signExtend 8).signExtend 32).msb = (v.toBitVec.setWidth 8).msb := by
    rw [BitVec.msb_eq_getLsbD_last, BitVec.getLsbD_signExtend, if_neg (by decide), h7]
    simp
  by_cases c : i < 8
  · rw [if_pos (show i < 32 by omega), if_pos c, BitVec.getLsbD_signExtend, if_pos c, BitVec.getLsbD_signExtend, if_pos (show i < 32 by omega), BitVec.getLsbD_signExtend, if_pos hi, BitVec.getLsbD_setWidth]
    simp [c, show i < 32 by omega]
  · rw [if_neg c]
    by_cases d : i < 32
    · rw [if_pos d, BitVec.getLsbD_signExtend, if_neg c, h7]
      simp [d]
    · rw [if_neg d, h31]
theorem nar16 (v : Int64) : (v.toInt32.toInt16.toInt32).toInt64 = (v <<< ((48 : Int32).toInt64 &&& 63)) >>> ((48 : Int32).toInt64 &&& 63) := by
  have hs : ((48 : Int32).toInt64 &&& 63) = 48 := by decide
  rw [hs]
  apply Int64.toBitVec_inj.mp
  have h1 : (48 : Int64).toBitVec.smod 64 = 48#64 := by decide
  have e : ((v <<< (48 : Int64)) >>> (48 : Int64)).toBitVec = (v.toBitVec <<< 48).sshiftRight 48 := by
    rw [Int64.toBitVec_shiftRight, Int64.toBitVec_shiftLeft, h1]
    rfl
  rw [e, nar_bits v.toBitVec 16 48 (by decide) (by decide)]
  show ((((v.toBitVec.signExtend 32).signExtend 16).signExtend 32).signExtend 64) = _
  apply BitVec.eq_of_getLsbD_eq
  intro i hi
  have hi64 : decide (i < 64) = true := decide_eq_true hi
  have lx : ∀ X : BitVec 32, (BitVec.signExtend 64 X).getLsbD i = if i < 32 then X.getLsbD i else X.msb := fun X => by rw [BitVec.getLsbD_signExtend, hi64, Bool.true_and]
  have ly : ∀ Y : BitVec 16, (BitVec.signExtend 64 Y).getLsbD i = if i < 16 then Y.getLsbD i else Y.msb := fun Y => by rw [BitVec.getLsbD_signExtend, hi64, Bool.true_and]
  rw [lx, ly]
  have h7 : ((v.toBitVec.signExtend 32).signExtend 16).msb = (v.toBitVec.setWidth 16).msb := by
    rw [BitVec.msb_eq_getLsbD_last, BitVec.msb_eq_getLsbD_last, BitVec.getLsbD_signExtend, BitVec.getLsbD_signExtend, BitVec.getLsbD_setWidth]
    simp
  have h31 : (((v.toBitVec.signExtend 32).signExtend 16).signExtend 32).msb = (v.toBitVec.setWidth 16).msb := by
    rw [BitVec.msb_eq_getLsbD_last, BitVec.getLsbD_signExtend, if_neg (by decide), h7]
    simp
  by_cases c : i < 16
  · rw [if_pos (show i < 32 by omega), if_pos c, BitVec.getLsbD_signExtend, if_pos c, BitVec.getLsbD_signExtend, if_pos (show i < 32 by omega), BitVec.getLsbD_signExtend, if_pos hi, BitVec.getLsbD_setWidth]
    simp [c, show i < 32 by omega]
  · rw [if_neg c]
    by_cases d : i < 32
    · rw [if_pos d, BitVec.getLsbD_signExtend, if_neg c, h7]
      simp [d]
    · rw [if_neg d, h31]
