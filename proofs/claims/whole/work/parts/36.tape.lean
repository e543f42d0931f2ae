theorem sh_b (x : Int32) (s : Int32) (n : Nat) (hn : n ≤ 24) (hs : s = nI n) : (x >>> (s &&& 31)) &&& 255 = (x.toUInt32 >>> (s.toUInt32 &&& Int32.toUInt32 31)).toInt32 &&& 255 := by
  subst hs
  apply Int32.toBitVec_inj.mp
  have h1 : ∀ n, n ≤ 24 → (nI n &&& 31).toBitVec.smod 32 = BitVec.ofNat 32 n ∧ ((nI n).toUInt32 &&& Int32.toUInt32 31).toBitVec % 32 = BitVec.ofNat 32 n := by decide +kernel
  obtain ⟨e1, e2⟩ := h1 n hn
  rw [Int32.toBitVec_and, Int32.toBitVec_and, Int32.toBitVec_shiftRight, UInt32.toBitVec_toInt32, UInt32.toBitVec_shiftRight, e1, e2]
  ext i hi
  simp only [BitVec.getElem_and]
  by_cases h8 : i < 8
  · congr 1
    simp [BitVec.sshiftRight', BitVec.getElem_sshiftRight, BitVec.getElem_ushiftRight]
    rw [dif_pos (by omega)]
    exact (BitVec.getLsbD_eq_getElem (by omega)).symm
  · have h9 : (Int32.toBitVec 255)[i] = false := by
      have h7 : ∀ i, i < 32 → ¬ i < 8 → (Int32.toBitVec 255).getLsbD i = false := by decide +kernel
      rw [← BitVec.getLsbD_eq_getElem]
      exact h7 i hi h8
    rw [h9]
    simp
def t_feed (f : Nat → Int32) (L : Nat) (a b c : Int32) : Nat → Int32 := t_word (t_word (t_word f L a 4) (L + 4) b 4) (L + 4 + 4) c 4
def f_feed (L : Nat) : Int32 := if 84 < L then -1000000003 else nI (L + 12)
set_option maxHeartbeats 1000000 in
set_option maxRecDepth 100000 in
theorem c_feed (l : Launch) (G : Gm) (I : Hp) (L : Nat) (hL : L ≤ 96) (h0 : I 32 0 = nI L) (a b c : Int32) : Meth l G yX7_feed cX7_feed 4 (some (FieldType.int)) 2 0 0 [.ref 0, .int a, .int b, .int c] LAY I (fun r lay1 I1 => r = some (.int (f_feed L)) ∧ lay1 = LAY ∧ (84 < L → I1 = I) ∧ (¬ 84 < L → I1 32 0 = nI (L + 12) ∧ I1 33 = t_feed (I 33) L a b c ∧ (∀ j, j ≠ 0 → I1 32 j = I 32 j) ∧ (∀ q, q ≠ 32 → q ≠ 33 → I1 q = I q))) := by
  refine Meth.of (by decide +kernel) (by simp [Value.category]) (Nat.le_of_ble_eq_true rfl) ?_
  refine A_aload_n rfl dX7_feed_0 ?_
  refine A_getR fr_X7_19.g rfl lay_0 rfl dX7_feed_1 ?_
  refine A_getI fr_X7_204.g rfl lay_32 dX7_feed_4 ?_
  refine A_bipush bp_84 dX7_feed_7 ?_
  rw [h0]
  refine A_icmp_le 15 rfl dX7_feed_9 (fun cq9 => ?_) (fun cq9 => ?_)
  · skip
    have hl : L ≤ 84 := (le_nI (rfl : nI L = nI L) (show (84 : Int32) = nI 84 from rfl) (by omega) (by omega)).mp cq9
    refine A_aload_n rfl dX7_feed_15 ?_
    refine A_getR fr_X7_19.g rfl lay_0 rfl dX7_feed_16 ?_
    refine A_iload_n rfl dX7_feed_19 ?_
    refine A_callV (s_takes l G I (L) (by omega) h0 a) m_X6_takes ml_X7_207 rfl lay_32 rfl (by decide) rfl rfl (Nat.le_of_ble_eq_true rfl) (by decide) (by decide) (by decide) dX7_feed_20 (fun _ _ _ hqq => congrArg List.length hqq.2.1) ?_
    rintro _ _ K1 ⟨rfl, rfl, hz1, hb1, hn1, hf1⟩
    refine A_aload_n rfl dX7_feed_23 ?_
    refine A_getR fr_X7_19.g rfl lay_0 rfl dX7_feed_24 ?_
    refine A_iload_n rfl dX7_feed_27 ?_
    refine A_callV (s_takes l G K1 (L + 4) (by omega) hz1 b) m_X6_takes ml_X7_207 rfl lay_32 rfl (by decide) rfl rfl (Nat.le_of_ble_eq_true rfl) (by decide) (by decide) (by decide) dX7_feed_28 (fun _ _ _ hqq => congrArg List.length hqq.2.1) ?_
    rintro _ _ K2 ⟨rfl, rfl, hz2, hb2, hn2, hf2⟩
    refine A_aload_n rfl dX7_feed_31 ?_
    refine A_getR fr_X7_19.g rfl lay_0 rfl dX7_feed_32 ?_
    refine A_iload_n rfl dX7_feed_35 ?_
    refine A_callV (s_takes l G K2 (L + 4 + 4) (by omega) hz2 c) m_X6_takes ml_X7_207 rfl lay_32 rfl (by decide) rfl rfl (Nat.le_of_ble_eq_true rfl) (by decide) (by decide) (by decide) dX7_feed_36 (fun _ _ _ hqq => congrArg List.length hqq.2.1) ?_
    rintro _ _ K3 ⟨rfl, rfl, hz3, hb3, hn3, hf3⟩
    refine A_aload_n rfl dX7_feed_39 ?_
    refine A_getR fr_X7_19.g rfl lay_0 rfl dX7_feed_40 ?_
    refine A_getI fr_X7_204.g rfl lay_32 dX7_feed_43 ?_
    refine A_iret rfl rfl rfl rfl dX7_feed_46 ?_
    have hl2 : ¬ 84 < L := by omega
    rw [f_feed, if_neg hl2]
    refine ⟨by rw [hz3], rfl, fun h9 => absurd h9 hl2, fun _ => ⟨by rw [hz3], by rw [hb3, hb2, hb1]; rfl, fun j hj => by rw [hn3 j hj, hn2 j hj, hn1 j hj], fun q h1 h2 => by rw [hf3 q h1 h2, hf2 q h1 h2, hf1 q h1 h2]⟩⟩
  · skip
    refine A_ldc kc_X7_65 rfl dX7_feed_12 ?_
    refine A_iret rfl rfl rfl rfl dX7_feed_14 ?_
    have hl : 84 < L := by
      have hq1 := mt (le_nI (rfl : nI L = nI L) (show (84 : Int32) = nI 84 from rfl) (by omega) (by omega)).mpr cq9
      omega
    rw [f_feed, if_pos hl]
    exact ⟨rfl, rfl, fun _ => rfl, fun h9 => absurd hl h9⟩
