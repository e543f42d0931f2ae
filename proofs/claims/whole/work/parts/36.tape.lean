theorem sh_b (x : Int32) (s : Int32) (n : Nat) (hn : n ≤ 24) (hs : s = nI n) : (x >>> (s &&& 31)) &&& 255 = (x.toUInt32 >>> (s.toUInt32 &&& Int32.toUInt32 31)).toInt32 &&& 255 := by
  subst hs
  apply Int32.toBitVec_inj.mp
  have h1 : ∀ n, n ≤ 24 → (nI n &&& 31).toBitVec.smod 32 = BitVec.ofNat 32 n ∧ ((nI n).toUInt32 &&& Int32.toUInt32 31).toBitVec % 32 = BitVec.ofNat 32 n := by decide +kernel
  obtain ⟨e1, e2⟩ := h1 n hn
  rw [Int32.toBitVec_and, Int32.toBitVec_and, Int32.toBitVec_shiftRight, UInt32.toBitVec_toInt32, UInt32.toBitVec_shiftRight, e1, e2]
  ext i hi
  simp only [BitVec.getElem_and]
  by_cases h8 : i < 8
  · congr 1
    simp [BitVec.sshiftRight', BitVec.getElem_sshiftRight, BitVec.getElem_ushiftRight]
    rw [dif_pos (by omega)]
    exact (BitVec.getLsbD_eq_getElem (by omega)).symm
  · have h9 : (Int32.toBitVec 255)[i] = false := by
      have h7 : ∀ i, i < 32 → ¬ i < 8 → (Int32.toBitVec 255).getLsbD i = false := by decide +kernel
      rw [← BitVec.getLsbD_eq_getElem]
      exact h7 i hi h8
    rw [h9]
    simp
