/-! bytes fed -/
theorem sh_u : ∀ s, s < 32 → (((nI s).toUInt32 &&& Int32.toUInt32 31).toBitVec % 32).toNat = s := by decide +kernel
theorem sh_s : ∀ s, s < 32 → ((nI s &&& 31).toBitVec.smod 32).toNat = s := by decide +kernel
theorem bit255 : ∀ j, j < 32 → (nI 255).toBitVec.getLsbD j = decide (j < 8) := by decide +kernel
theorem by8 (b : Int32) (s : Nat) (hs : s ≤ 24) : (ushr b (nI s) &&& nI 255) = ((b >>> (nI s &&& 31)) &&& nI 255) := by
  apply Int32.toBitVec_inj.mp
  apply BitVec.eq_of_getLsbD_eq
  intro j hj
  rw [Int32.toBitVec_and, Int32.toBitVec_and, BitVec.getLsbD_and, BitVec.getLsbD_and, bit255 j hj]
  by_cases c : j < 8
  · congr 1
    unfold ushr
    have h1 : (b.toUInt32 >>> ((nI s).toUInt32 &&& Int32.toUInt32 31)).toInt32.toBitVec = b.toBitVec >>> s := by
      show (b.toUInt32 >>> ((nI s).toUInt32 &&& Int32.toUInt32 31)).toBitVec = _
      rw [UInt32.toBitVec_shiftRight, BitVec.ushiftRight_eq', sh_u s (by omega)]
      rfl
    have h2 : (b >>> (nI s &&& 31)).toBitVec = b.toBitVec.sshiftRight s := by
      rw [Int32.toBitVec_shiftRight, BitVec.sshiftRight_eq', sh_s s (by omega)]
    rw [h1, h2, BitVec.getLsbD_ushiftRight, BitVec.getLsbD_sshiftRight]
    rw [if_pos (show s + j < 32 by omega), decide_eq_false (show ¬ 32 ≤ j by omega)]
    rfl
  · simp [c]
theorem in255 (b : Int32) : inN 255 (b &&& nI 255) := by
  refine ⟨(b &&& nI 255).toBitVec.toNat, ?_, ?_⟩
  · rw [Int32.toBitVec_and, BitVec.toNat_and]
    exact Nat.and_le_right
  · exact Int32.toBitVec_inj.mp (by show _ = BitVec.ofNat 32 _; simp)
