def f_fee (N : Nrow) : Int32 := if q_cnt N 1 < 0 then N 6 else q_text N (q_cnt N 1).toNatClampNeg (N 2) (N 6) 0
def f_fine (N : Nrow) (v : Int32) : Int32 := if 0 ≤ v ∧ v < N 1 then (if q_cnt N 2 < 0 then N (20 + 5 * v.toNatClampNeg) else q_text N (q_cnt N 2).toNatClampNeg (N (20 + 5 * v.toNatClampNeg)) (N (19 + 5 * v.toNatClampNeg)) 0) else -1000000001
set_option maxHeartbeats 1000000 in
set_option maxRecDepth 100000 in
theorem c_fee (l : Launch) (G : Gm) (I : Hp) (N : Nrow) (n : Nat) (hn : n ≤ 10) (hN : N 1 = nI n) (hR : RepJ I 36 N) (T : Nat) (hK : KnJ N) (hTx : TxJ N T) (hLw : LwR I N T) (hDo : DoJ N)  : Meth l G yX7_fee cX7_fee 2 (some (FieldType.int)) 4 0 0 [.ref 0] LAY I (fun r lay1 I1 => r = some (.int (f_fee N)) ∧ lay1 = LAY ∧ ∀ q, q ≠ 2 → I1 q = I q) := by
  have hcn : I (36 + 7) 1 = q_cnt N 1 := hR.2.2.2.2.2.2.2 1 (by decide)
  refine Meth.of (by decide +kernel) (by simp [Value.category]) (Nat.le_of_ble_eq_true rfl) ?_
  refine A_aload_n rfl dX7_fee_0 ?_
  refine A_getR fr_X7_28.g rfl lay_0 rfl dX7_fee_1 ?_
  refine A_getR fr_X7_197 rfl (lj j36) rfl dX7_fee_4 ?_
  refine A_iconst ic_1 dX7_fee_7 ?_
  refine A_iald 1 rfl (lj7 j36) (by decide) (by decide) dX7_fee_8 ?_
  refine A_istore_n (by decide) rfl dX7_fee_9 ?_
  refine A_iload_n rfl dX7_fee_10 ?_
  refine A_if_ge 24 rfl dX7_fee_11 (fun cq11 => ?_) (fun cq11 => ?_)
  · skip
    rcases cnt_in hTx (ky := 1) (by decide) with hc | ⟨t, len, ht1, ht2, hc, hn0, hir, hwf⟩
    · exfalso; rw [hcn, show q_cnt N 1 = -1 from hc] at cq11; exact absurd cq11 (by decide)
    have hlw := lw_len hLw ht1 (by decide) hwf.1 hn0
    rw [hcn, show q_cnt N 1 = nI t from hc] at cq11 ⊢
    refine A_aload_n rfl dX7_fee_24 ?_
    refine A_getR fr_X7_10.g rfl lay_0 rfl dX7_fee_25 ?_
    refine A_iload_n rfl dX7_fee_28 ?_
    refine A_aload_n rfl dX7_fee_29 ?_
    refine A_getR fr_X7_28.g rfl lay_0 rfl dX7_fee_30 ?_
    refine A_getI fr_X7_153.g rfl (lj j36) dX7_fee_33 ?_
    refine A_aload_n rfl dX7_fee_36 ?_
    refine A_getR fr_X7_28.g rfl lay_0 rfl dX7_fee_37 ?_
    refine A_getI fr_X7_166.g rfl (lj j36) dX7_fee_40 ?_
    refine A_iconst ic_0 dX7_fee_43 ?_
    refine A_callV (s_gives l G I t ht2 (fun k => N (94 + 96 * t + k)) len 2 _ _ _ hlw.1 hlw.2 hwf (by decide)) m_X3_gives ml_X7_200 rfl lay_1 rfl (by decide) rfl rfl (Nat.le_of_ble_eq_true rfl) (by decide) (by decide) (by decide) dX7_fee_44 (fun _ _ _ h => congrArg List.length h.2.1) ?_
    rintro _ _ K2 ⟨rfl, rfl, hf2⟩
    refine A_iret rfl rfl rfl rfl dX7_fee_47 ?_
    first
      | (have h7 : ¬ 0 ≤ I (36 + 7) 1 := cq11; rw [hcn] at h7; rw [f_fee, if_pos (Int32.not_le.mp h7)]; exact ⟨by rw [hR.1.2.2.2.2.1], rfl, fun _ _ => rfl⟩)
      | (refine ⟨?_, rfl, hf2⟩; rw [f_fee]; rw [show q_cnt N 1 = nI t from hc, if_neg (nI_pos (by omega)), nI_clamp (by omega)]; unfold q_text; rw [hir, nI_clamp (by have := hwf.1; omega), hR.1.2.2.2.2.1, hR.1.2.2.2.2.2.1]; rfl)
  · skip
    refine A_aload_n rfl dX7_fee_14 ?_
    refine A_getR fr_X7_28.g rfl lay_0 rfl dX7_fee_15 ?_
    refine A_getI fr_X7_166.g rfl (lj j36) dX7_fee_18 ?_
    refine A_goto 47 rfl dX7_fee_21 ?_
    refine A_iret rfl rfl rfl rfl dX7_fee_47 ?_
    first
      | (have h7 : ¬ 0 ≤ I (36 + 7) 1 := cq11; rw [hcn] at h7; rw [f_fee, if_pos (Int32.not_le.mp h7)]; exact ⟨by rw [hR.1.2.2.2.2.1], rfl, fun _ _ => rfl⟩)
      | (refine ⟨?_, rfl, hf2⟩; rw [f_fee]; rw [show q_cnt N 1 = nI t from hc, if_neg (nI_pos (by omega)), nI_clamp (by omega)]; unfold q_text; rw [hir, nI_clamp (by have := hwf.1; omega), hR.1.2.2.2.2.1, hR.1.2.2.2.2.2.1]; rfl)
set_option maxHeartbeats 1000000 in
set_option maxRecDepth 100000 in
theorem m_fee (l : Launch) (G : Gm) (I : Hp) (N : Nrow) (h87 : I 87 = N) (n : Nat) (hn : n ≤ 10) (hN : N 1 = nI n) (T : Nat) (hTx : TxJ N T)  : Meth l G yX8_fee cX8_fee 2 (some (FieldType.int)) 3 0 0 [.ref 86] LAY I (fun r lay1 I1 => r = some (.int (f_fee N)) ∧ lay1 = LAY ∧ ∀ q, q ≠ 97 → q ≠ 98 → I1 q = I q) := by
  subst h87
  refine Meth.of (by decide +kernel) (by simp [Value.category]) (Nat.le_of_ble_eq_true rfl) ?_
  refine A_aload_n rfl dX8_fee_0 ?_
  refine A_iconst ic_1 dX8_fee_1 ?_
  refine A_callV (t_cnt l G I _ rfl T hTx.1 hTx.2.1 1) m_X8_counts ml_X8_102 rfl lay_86 rfl (by decide) rfl rfl (Nat.le_of_ble_eq_true rfl) (by decide) (by decide) (by decide) dX8_fee_2 (fun _ _ _ h => congrArg List.length h.2.1) ?_
  rintro _ _ _ ⟨rfl, rfl, e9⟩
  refine AW_I e9 ?_
  clear e9
  refine A_istore_n (by decide) rfl dX8_fee_5 ?_
  refine A_aload_n rfl dX8_fee_6 ?_
  refine A_getR fr_X8_49.g rfl lay_86 rfl dX8_fee_7 ?_
  refine A_iconst ic_0 dX8_fee_10 ?_
  refine A_aload_n rfl dX8_fee_11 ?_
  refine A_getR fr_X8_9.g rfl lay_86 rfl dX8_fee_12 ?_
  refine A_iconst ic_2 dX8_fee_15 ?_
  refine A_iald 2 rfl lay_87 (by decide) (by decide) dX8_fee_16 ?_
  refine A_iast 0 rfl lay_98 (by decide) (by decide) dX8_fee_17 ?_
  refine A_aload_n rfl dX8_fee_18 ?_
  refine A_getR fr_X8_49.g rfl lay_86 rfl dX8_fee_19 ?_
  refine A_iconst ic_1 dX8_fee_22 ?_
  refine A_aload_n rfl dX8_fee_23 ?_
  refine A_getR fr_X8_9.g rfl lay_86 rfl dX8_fee_24 ?_
  refine A_bipush bp_6 dX8_fee_27 ?_
  refine A_iald 6 rfl lay_87 (by decide) (by decide) dX8_fee_29 ?_
  refine A_iast 1 rfl lay_98 (by decide) (by decide) dX8_fee_30 ?_
  refine A_iload_n rfl dX8_fee_31 ?_
  refine A_if_ge 45 rfl dX8_fee_32 (fun cq32 => ?_) (fun cq32 => ?_)
  · skip
    rcases cnt_in hTx (ky := 1) (by decide) with hc | ⟨t, len, ht1, ht2, hc, hn0, hir, hwf⟩
    · exfalso; rw [show q_cnt (I 87) 1 = -1 from hc] at cq32; exact absurd cq32 (by decide)
    rw [show q_cnt (I 87) 1 = nI t from hc] at cq32 ⊢
    have hnm : ∀ z, z < 2 → (up2 (up2 I 98 0 (I 87 2)) 98 1 (I 87 6)) 98 z = q_nm (I 87 2) (I 87 6) 0 z := by
      intro z hz
      rcases (show z = 0 ∨ z = 1 by omega) with rfl | rfl
      · rw [up2_ni (by decide), up2_same]; rfl
      · rw [up2_same]; rfl
    refine A_aload_n rfl dX8_fee_45 ?_
    refine A_iload_n rfl dX8_fee_46 ?_
    refine A_callV (t_wo l G _ (fun k => I 87 (94 + 96 * t + k)) (q_nm (I 87 2) (I 87 6) 0) t len 2 ht2 (fun k => by rw [up2_ne (by decide), up2_ne (by decide)]) (by rw [up2_ne (by decide), up2_ne (by decide)]; exact hir) hwf (by decide) hnm) m_X8_worksOut ml_X8_108 rfl lay_86 rfl (by decide) rfl rfl (Nat.le_of_ble_eq_true rfl) (by decide) (by decide) (by decide) dX8_fee_47 (fun _ _ _ h => congrArg List.length h.2.1) ?_
    rintro _ _ K2 ⟨rfl, rfl, hf2⟩
    refine A_iret rfl rfl rfl rfl dX8_fee_50 ?_
    first
      | (have h7 : ¬ 0 ≤ q_cnt (I 87) 1 := cq32; rw [f_fee, if_pos (Int32.not_le.mp h7)]; exact ⟨by rw [up2_ne (by decide), up2_ne (by decide)], rfl, (fun q h1 h2 => by rw [up2_ne h2, up2_ne h2])⟩)
      | (refine ⟨?_, rfl, fun q h1 h2 => (hf2 q h1).trans (by rw [up2_ne h2, up2_ne h2])⟩; rw [f_fee]; rw [show q_cnt (I 87) 1 = nI t from hc, if_neg (nI_pos (by omega)), nI_clamp (by omega)]; unfold q_text; rw [hir, nI_clamp (by have := hwf.1; omega)]; rfl)
  · skip
    refine A_aload_n rfl dX8_fee_35 ?_
    refine A_getR fr_X8_9.g rfl lay_86 rfl dX8_fee_36 ?_
    refine A_bipush bp_6 dX8_fee_39 ?_
    refine A_iald 6 rfl lay_87 (by decide) (by decide) dX8_fee_41 ?_
    refine A_goto 50 rfl dX8_fee_42 ?_
    refine A_iret rfl rfl rfl rfl dX8_fee_50 ?_
    first
      | (have h7 : ¬ 0 ≤ q_cnt (I 87) 1 := cq32; rw [f_fee, if_pos (Int32.not_le.mp h7)]; exact ⟨by rw [up2_ne (by decide), up2_ne (by decide)], rfl, (fun q h1 h2 => by rw [up2_ne h2, up2_ne h2])⟩)
      | (refine ⟨?_, rfl, fun q h1 h2 => (hf2 q h1).trans (by rw [up2_ne h2, up2_ne h2])⟩; rw [f_fee]; rw [show q_cnt (I 87) 1 = nI t from hc, if_neg (nI_pos (by omega)), nI_clamp (by omega)]; unfold q_text; rw [hir, nI_clamp (by have := hwf.1; omega)]; rfl)
set_option maxHeartbeats 1000000 in
set_option maxRecDepth 100000 in
theorem c_fine (l : Launch) (G : Gm) (I : Hp) (N : Nrow) (n : Nat) (hn : n ≤ 10) (hN : N 1 = nI n) (hR : RepJ I 36 N) (T : Nat) (hK : KnJ N) (hTx : TxJ N T) (hLw : LwR I N T) (hDo : DoJ N) (v : Int32) : Meth l G yX7_fine cX7_fine 3 (some (FieldType.int)) 4 0 0 [.ref 0, .int v] LAY I (fun r lay1 I1 => r = some (.int (f_fine N v)) ∧ lay1 = LAY ∧ ∀ q, q ≠ 2 → I1 q = I q) := by
  have hcn : I (36 + 7) 2 = q_cnt N 2 := hR.2.2.2.2.2.2.2 2 (by decide)
  refine Meth.of (by decide +kernel) (by simp [Value.category]) (Nat.le_of_ble_eq_true rfl) ?_
  refine A_aload_n rfl dX7_fine_0 ?_
  refine A_getR fr_X7_28.g rfl lay_0 rfl dX7_fine_1 ?_
  refine A_iload_n rfl dX7_fine_4 ?_
  refine A_callV (s_has l G 36 j36 I _) m_X0_has ml_X7_70 rfl (lj j36) rfl (by decide) rfl rfl (Nat.le_of_ble_eq_true rfl) (by decide) (by decide) (by decide) dX7_fine_5 (fun _ _ _ h => congrArg List.length h.2.1) ?_
  rintro _ _ _ ⟨rfl, rfl, e9⟩
  refine AW_I e9 ?_
  clear e9
  refine A_if_ne 14 rfl dX7_fine_8 (fun cq8 => ?_) (fun cq8 => ?_)
  · skip
    have hv := b2i_p.mp cq8
    rw [hR.1.1] at hv
    obtain ⟨i, hi, rfl⟩ := jur_get hn hN hv
    have e5 : I (36 + 5) i = N (20 + 5 * i) := hR.2.2.2.2.2.1 i (by omega)
    have e4 : I (36 + 4) i = N (19 + 5 * i) := hR.2.2.2.2.1 i (by omega)
    refine A_aload_n rfl dX7_fine_14 ?_
    refine A_getR fr_X7_28.g rfl lay_0 rfl dX7_fine_15 ?_
    refine A_getR fr_X7_197 rfl (lj j36) rfl dX7_fine_18 ?_
    refine A_iconst ic_2 dX7_fine_21 ?_
    refine A_iald 2 rfl (lj7 j36) (by decide) (by decide) dX7_fine_22 ?_
    refine A_istore_n (by decide) rfl dX7_fine_23 ?_
    refine A_iload_n rfl dX7_fine_24 ?_
    refine A_if_ge 40 rfl dX7_fine_25 (fun cq25 => ?_) (fun cq25 => ?_)
    · skip
      rcases cnt_in hTx (ky := 2) (by decide) with hc | ⟨t, len, ht1, ht2, hc, hn0, hir, hwf⟩
      · exfalso; rw [hcn, show q_cnt N 2 = -1 from hc] at cq25; exact absurd cq25 (by decide)
      have hlw := lw_len hLw ht1 (by decide) hwf.1 hn0
      rw [hcn, show q_cnt N 2 = nI t from hc] at cq25 ⊢
      refine A_aload_n rfl dX7_fine_40 ?_
      refine A_getR fr_X7_10.g rfl lay_0 rfl dX7_fine_41 ?_
      refine A_iload_n rfl dX7_fine_44 ?_
      refine A_aload_n rfl dX7_fine_45 ?_
      refine A_getR fr_X7_28.g rfl lay_0 rfl dX7_fine_46 ?_
      refine A_getR fr_X7_86 rfl (lj j36) rfl dX7_fine_49 ?_
      refine A_iload_n rfl dX7_fine_52 ?_
      refine A_iald _ rfl (lj5 j36) (by omega) (by decide) dX7_fine_53 ?_
      refine A_aload_n rfl dX7_fine_54 ?_
      refine A_getR fr_X7_28.g rfl lay_0 rfl dX7_fine_55 ?_
      refine A_getR fr_X7_83 rfl (lj j36) rfl dX7_fine_58 ?_
      refine A_iload_n rfl dX7_fine_61 ?_
      refine A_iald _ rfl (lj4 j36) (by omega) (by decide) dX7_fine_62 ?_
      refine A_iconst ic_0 dX7_fine_63 ?_
      refine A_callV (s_gives l G I t ht2 (fun k => N (94 + 96 * t + k)) len 2 _ _ _ hlw.1 hlw.2 hwf (by decide)) m_X3_gives ml_X7_200 rfl lay_1 rfl (by decide) rfl rfl (Nat.le_of_ble_eq_true rfl) (by decide) (by decide) (by decide) dX7_fine_64 (fun _ _ _ h => congrArg List.length h.2.1) ?_
      rintro _ _ K2 ⟨rfl, rfl, hf2⟩
      refine A_iret rfl rfl rfl rfl dX7_fine_67 ?_
      rw [f_fine, if_pos hv, nI_clamp (by omega)]
      first
        | (have h7 : ¬ 0 ≤ I (36 + 7) 2 := cq25; rw [hcn] at h7; rw [if_pos (Int32.not_le.mp h7)]; exact ⟨by rw [e5], rfl, fun _ _ => rfl⟩)
        | (refine ⟨?_, rfl, hf2⟩; rw [show q_cnt N 2 = nI t from hc, if_neg (nI_pos (by omega)), nI_clamp (by omega)]; unfold q_text; rw [hir, nI_clamp (by have := hwf.1; omega), e5, e4]; rfl)
    · skip
      refine A_aload_n rfl dX7_fine_28 ?_
      refine A_getR fr_X7_28.g rfl lay_0 rfl dX7_fine_29 ?_
      refine A_getR fr_X7_86 rfl (lj j36) rfl dX7_fine_32 ?_
      refine A_iload_n rfl dX7_fine_35 ?_
      refine A_iald _ rfl (lj5 j36) (by omega) (by decide) dX7_fine_36 ?_
      refine A_goto 67 rfl dX7_fine_37 ?_
      refine A_iret rfl rfl rfl rfl dX7_fine_67 ?_
      rw [f_fine, if_pos hv, nI_clamp (by omega)]
      first
        | (have h7 : ¬ 0 ≤ I (36 + 7) 2 := cq25; rw [hcn] at h7; rw [if_pos (Int32.not_le.mp h7)]; exact ⟨by rw [e5], rfl, fun _ _ => rfl⟩)
        | (refine ⟨?_, rfl, hf2⟩; rw [show q_cnt N 2 = nI t from hc, if_neg (nI_pos (by omega)), nI_clamp (by omega)]; unfold q_text; rw [hir, nI_clamp (by have := hwf.1; omega), e5, e4]; rfl)
  · skip
    refine A_ldc kc_X7_60 rfl dX7_fine_11 ?_
    refine A_iret rfl rfl rfl rfl dX7_fine_13 ?_
    have h7 := b2i_q.mp cq8
    rw [hR.1.1] at h7
    rw [f_fine, if_neg h7]
    exact ⟨rfl, rfl, fun _ _ => rfl⟩
set_option maxHeartbeats 1000000 in
set_option maxRecDepth 100000 in
theorem m_fine (l : Launch) (G : Gm) (I : Hp) (N : Nrow) (h87 : I 87 = N) (n : Nat) (hn : n ≤ 10) (hN : N 1 = nI n) (T : Nat) (hTx : TxJ N T) (v : Int32) : Meth l G yX8_fine cX8_fine 3 (some (FieldType.int)) 3 0 0 [.ref 86, .int v] LAY I (fun r lay1 I1 => r = some (.int (f_fine N v)) ∧ lay1 = LAY ∧ ∀ q, q ≠ 97 → q ≠ 98 → I1 q = I q) := by
  subst h87
  refine Meth.of (by decide +kernel) (by simp [Value.category]) (Nat.le_of_ble_eq_true rfl) ?_
  refine A_aload_n rfl dX8_fine_0 ?_
  refine A_iload_n rfl dX8_fine_1 ?_
  refine A_callV (t_isJuror l G I _ rfl _ n hn hN) m_X8_isJuror ml_X8_118 rfl lay_86 rfl (by decide) rfl rfl (Nat.le_of_ble_eq_true rfl) (by decide) (by decide) (by decide) dX8_fine_2 (fun _ _ _ h => congrArg List.length h.2.1) ?_
  rintro _ _ _ ⟨rfl, rfl, e9⟩
  refine AW_I e9 ?_
  clear e9
  refine A_if_ne 11 rfl dX8_fine_5 (fun cq5 => ?_) (fun cq5 => ?_)
  · skip
    have hv := b2i_p.mp cq5
    obtain ⟨i, hi, rfl⟩ := jur_get hn hN hv
    refine A_aload_n rfl dX8_fine_11 ?_
    refine A_iconst ic_2 dX8_fine_12 ?_
    refine A_callV (t_cnt l G I _ rfl T hTx.1 hTx.2.1 2) m_X8_counts ml_X8_102 rfl lay_86 rfl (by decide) rfl rfl (Nat.le_of_ble_eq_true rfl) (by decide) (by decide) (by decide) dX8_fine_13 (fun _ _ _ h => congrArg List.length h.2.1) ?_
    rintro _ _ _ ⟨rfl, rfl, e9⟩
    refine AW_I e9 ?_
    clear e9
    refine A_istore_n (by decide) rfl dX8_fine_16 ?_
    refine A_aload_n rfl dX8_fine_17 ?_
    refine A_getR fr_X8_49.g rfl lay_86 rfl dX8_fine_18 ?_
    refine A_iconst ic_0 dX8_fine_21 ?_
    refine A_aload_n rfl dX8_fine_22 ?_
    refine A_iload_n rfl dX8_fine_23 ?_
    refine A_iconst ic_4 dX8_fine_24 ?_
    refine A_callV (t_of l G I _ rfl i 4 (by omega)) m_X8_of ml_X8_94 rfl lay_86 rfl (by decide) rfl rfl (Nat.le_of_ble_eq_true rfl) (by decide) (by decide) (by decide) dX8_fine_25 (fun _ _ _ h => congrArg List.length h.2.1) ?_
    rintro _ _ _ ⟨rfl, rfl, e9⟩
    refine AW_I e9 ?_
    clear e9
    refine A_iast 0 rfl lay_98 (by decide) (by decide) dX8_fine_28 ?_
    refine A_aload_n rfl dX8_fine_29 ?_
    refine A_getR fr_X8_49.g rfl lay_86 rfl dX8_fine_30 ?_
    refine A_iconst ic_1 dX8_fine_33 ?_
    refine A_aload_n rfl dX8_fine_34 ?_
    refine A_iload_n rfl dX8_fine_35 ?_
    refine A_iconst ic_3 dX8_fine_36 ?_
    refine A_callV (t_of l G _ (I 87) (by rw [up2_ne (by decide)]) i 3 (by omega)) m_X8_of ml_X8_94 rfl lay_86 rfl (by decide) rfl rfl (Nat.le_of_ble_eq_true rfl) (by decide) (by decide) (by decide) dX8_fine_37 (fun _ _ _ h => congrArg List.length h.2.1) ?_
    rintro _ _ _ ⟨rfl, rfl, e9⟩
    refine AW_I e9 ?_
    clear e9
    refine A_iast 1 rfl lay_98 (by decide) (by decide) dX8_fine_40 ?_
    refine A_iload_n rfl dX8_fine_41 ?_
    refine A_if_ge 54 rfl dX8_fine_42 (fun cq42 => ?_) (fun cq42 => ?_)
    · skip
      rcases cnt_in hTx (ky := 2) (by decide) with hc | ⟨t, len, ht1, ht2, hc, hn0, hir, hwf⟩
      · exfalso; rw [show q_cnt (I 87) 2 = -1 from hc] at cq42; exact absurd cq42 (by decide)
      rw [show q_cnt (I 87) 2 = nI t from hc] at cq42 ⊢
      have hnm : ∀ z, z < 2 → (up2 (up2 I 98 0 (I 87 (16 + 4 + 5 * i))) 98 1 (I 87 (16 + 3 + 5 * i))) 98 z = q_nm (I 87 (16 + 4 + 5 * i)) (I 87 (16 + 3 + 5 * i)) 0 z := by
        intro z hz
        rcases (show z = 0 ∨ z = 1 by omega) with rfl | rfl
        · rw [up2_ni (by decide), up2_same]; rfl
        · rw [up2_same]; rfl
      refine A_aload_n rfl dX8_fine_54 ?_
      refine A_iload_n rfl dX8_fine_55 ?_
      refine A_callV (t_wo l G _ (fun k => I 87 (94 + 96 * t + k)) (q_nm (I 87 (16 + 4 + 5 * i)) (I 87 (16 + 3 + 5 * i)) 0) t len 2 ht2 (fun k => by rw [up2_ne (by decide), up2_ne (by decide)]) (by rw [up2_ne (by decide), up2_ne (by decide)]; exact hir) hwf (by decide) hnm) m_X8_worksOut ml_X8_108 rfl lay_86 rfl (by decide) rfl rfl (Nat.le_of_ble_eq_true rfl) (by decide) (by decide) (by decide) dX8_fine_56 (fun _ _ _ h => congrArg List.length h.2.1) ?_
      rintro _ _ K2 ⟨rfl, rfl, hf2⟩
      refine A_iret rfl rfl rfl rfl dX8_fine_59 ?_
      rw [f_fine, if_pos hv, nI_clamp (by omega)]
      first
        | (have h7 : ¬ 0 ≤ q_cnt (I 87) 2 := cq42; rw [if_pos (Int32.not_le.mp h7)]; exact ⟨rfl, rfl, (fun q h1 h2 => by rw [up2_ne h2, up2_ne h2])⟩)
        | (refine ⟨?_, rfl, fun q h1 h2 => (hf2 q h1).trans (by rw [up2_ne h2, up2_ne h2])⟩; rw [show q_cnt (I 87) 2 = nI t from hc, if_neg (nI_pos (by omega)), nI_clamp (by omega)]; unfold q_text; rw [hir, nI_clamp (by have := hwf.1; omega)]; rfl)
    · skip
      refine A_aload_n rfl dX8_fine_45 ?_
      refine A_iload_n rfl dX8_fine_46 ?_
      refine A_iconst ic_4 dX8_fine_47 ?_
      refine A_callV (t_of l G _ (I 87) (by rw [up2_ne (by decide), up2_ne (by decide)]) i 4 (by omega)) m_X8_of ml_X8_94 rfl lay_86 rfl (by decide) rfl rfl (Nat.le_of_ble_eq_true rfl) (by decide) (by decide) (by decide) dX8_fine_48 (fun _ _ _ h => congrArg List.length h.2.1) ?_
      rintro _ _ _ ⟨rfl, rfl, e9⟩
      refine AW_I e9 ?_
      clear e9
      refine A_goto 59 rfl dX8_fine_51 ?_
      refine A_iret rfl rfl rfl rfl dX8_fine_59 ?_
      rw [f_fine, if_pos hv, nI_clamp (by omega)]
      first
        | (have h7 : ¬ 0 ≤ q_cnt (I 87) 2 := cq42; rw [if_pos (Int32.not_le.mp h7)]; exact ⟨rfl, rfl, (fun q h1 h2 => by rw [up2_ne h2, up2_ne h2])⟩)
        | (refine ⟨?_, rfl, fun q h1 h2 => (hf2 q h1).trans (by rw [up2_ne h2, up2_ne h2])⟩; rw [show q_cnt (I 87) 2 = nI t from hc, if_neg (nI_pos (by omega)), nI_clamp (by omega)]; unfold q_text; rw [hir, nI_clamp (by have := hwf.1; omega)]; rfl)
  · skip
    refine A_ldc kc_X8_88 rfl dX8_fine_8 ?_
    refine A_iret rfl rfl rfl rfl dX8_fine_10 ?_
    rw [f_fine, if_neg (b2i_q.mp cq5)]
    exact ⟨rfl, rfl, fun _ _ _ => rfl⟩
