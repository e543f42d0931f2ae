def f_tt (N : Nrow) (v w : Int32) : Int32 := if (0 ≤ v ∧ v ≤ N 7 - 1) ∧ (0 ≤ w ∧ w ≤ 1) then (if w = 0 then N (66 + 2 * v.toNatClampNeg) / 1000 else N (67 + 2 * v.toNatClampNeg)) else -1000000001
theorem isQ_t {t : Nat} (h : t < 14) : isQ (4 + 2 * t) := ⟨t, by omega, by omega, rfl⟩
theorem ix_2 (t : Nat) : (66 : Int32) + 2 * nI t = nI (66 + 2 * t) := by rw [show (66 : Int32) = nI 66 from rfl, show (2 : Int32) = nI 2 from rfl, pk_mul, nI_add]
theorem ix_21 (t : Nat) : (66 : Int32) + 2 * nI t + 1 = nI (67 + 2 * t) := by rw [ix_2, nI_1]; congr 1; omega
theorem key_div {key len : Nat} (hk : key ≤ 2) (hl : len ≤ 96) : nI (1000 * key + len) / 1000 = nI key := by
  rw [show (1000 : Int32) = nI 1000 from rfl, pk_div (by omega) (by decide) (by decide)]
  congr 1
  omega
set_option maxHeartbeats 1000000 in
set_option maxRecDepth 100000 in
theorem c_textTold (l : Launch) (G : Gm) (I : Hp) (N : Nrow) (n : Nat) (hn : n ≤ 10) (hN : N 1 = nI n) (hR : RepJ I 36 N) (T : Nat) (hK : KnJ N) (hTx : TxJ N T) (hLw : LwR I N T) (hDo : DoJ N) (v w : Int32) : Meth l G yX7_textTold cX7_textTold 4 (some (FieldType.int)) 2 0 0 [.ref 0, .int v, .int w] LAY I (fun r lay1 I1 => r = some (.int (f_tt N v w)) ∧ lay1 = LAY ∧ I1 = I) := by
  refine Meth.of (by decide +kernel) (by simp [Value.category]) (Nat.le_of_ble_eq_true rfl) ?_
  refine A_iload_n rfl dX7_textTold_0 ?_
  refine A_iconst ic_0 dX7_textTold_1 ?_
  refine A_aload_n rfl dX7_textTold_2 ?_
  refine A_getR fr_X7_28.g rfl lay_0 rfl dX7_textTold_3 ?_
  refine A_getI fr_X7_214.g rfl (lj j36) dX7_textTold_6 ?_
  refine A_iconst ic_1 dX7_textTold_9 ?_
  refine A_isub dX7_textTold_10 ?_
  rw [hR.1.2.2.2.2.2.2.2]
  refine A_callS (s_within l G _ _ _ _ _) m_X7_within ml_X7_56 rfl rfl rfl (Nat.le_of_ble_eq_true rfl) (by decide) (by decide) (by decide) dX7_textTold_11 (fun _ _ _ h => congrArg List.length h.2.1) ?_
  rintro _ _ _ ⟨rfl, rfl, e9⟩
  refine AW_I e9 ?_
  clear e9
  refine A_if_eq 26 rfl dX7_textTold_14 (fun cq14 => ?_) (fun cq14 => ?_)
  · skip
    refine A_ldc kc_X7_60 rfl dX7_textTold_26 ?_
    refine A_iret rfl rfl rfl rfl dX7_textTold_28 ?_
    have hno : ¬ ((0 ≤ v ∧ v ≤ N 7 - 1) ∧ (0 ≤ w ∧ w ≤ 1)) := by
      first
        | (have h7 := b2i_q.mp cq14; exact fun h9 => h7 h9.1)
        | (have h7 := b2i_q.mp cq23; exact fun h9 => h7 h9.2)
    rw [f_tt, if_neg hno]
    exact ⟨rfl, rfl, rfl⟩
  · skip
    refine A_iload_n rfl dX7_textTold_17 ?_
    refine A_iconst ic_0 dX7_textTold_18 ?_
    refine A_iconst ic_1 dX7_textTold_19 ?_
    refine A_callS (s_within l G _ _ _ _ _) m_X7_within ml_X7_56 rfl rfl rfl (Nat.le_of_ble_eq_true rfl) (by decide) (by decide) (by decide) dX7_textTold_20 (fun _ _ _ h => congrArg List.length h.2.1) ?_
    rintro _ _ _ ⟨rfl, rfl, e9⟩
    refine AW_I e9 ?_
    clear e9
    refine A_if_ne 29 rfl dX7_textTold_23 (fun cq23 => ?_) (fun cq23 => ?_)
    · skip
      have hok : (0 ≤ v ∧ v ≤ N 7 - 1) ∧ (0 ≤ w ∧ w ≤ 1) := ⟨b2i_p.mp cq14, b2i_p.mp cq23⟩
      obtain ⟨t, ht, rfl⟩ := pl_get (m := T) (by have := hTx.1; omega) hTx.2.1 ((le_pred (by have := hTx.1; omega) hTx.2.1).mp hok.1)
      have ht2 : t < 14 := by have := hTx.1; omega
      obtain ⟨key, len, g1, g2, g3, g4, g5, -, -⟩ := hLw t ht
      refine A_aload_n rfl dX7_textTold_29 ?_
      refine A_getR fr_X7_10.g rfl lay_0 rfl dX7_textTold_30 ?_
      refine A_iload_n rfl dX7_textTold_33 ?_
      refine A_callV (s_at l G I t ht2) m_X3_at ml_X7_217 rfl lay_1 rfl (by decide) rfl rfl (Nat.le_of_ble_eq_true rfl) (by decide) (by decide) (by decide) dX7_textTold_34 (fun _ _ _ h => congrArg List.length h.2.1) ?_
      rintro _ _ _ ⟨rfl, rfl, e9⟩
      refine AW_I e9 ?_
      clear e9
      refine A_astore_n (by decide) rfl dX7_textTold_37 ?_
      refine A_iload_n rfl dX7_textTold_38 ?_
      refine A_if_ne 49 rfl dX7_textTold_39 (fun cq39 => ?_) (fun cq39 => ?_)
      · skip
        refine A_aload_n rfl dX7_textTold_49 ?_
        refine A_getI fr_X7_237.g rfl (ll (isQ_t ht2)) dX7_textTold_50 ?_
        refine A_iret rfl rfl rfl rfl dX7_textTold_53 ?_
        rw [f_tt, if_pos hok, nI_clamp (by omega)]
        first | (have h7 : w = 0 := cq39; rw [if_pos h7, g3, key_div g1 g2]; exact ⟨by rw [g4], rfl, rfl⟩) | (have h7 : ¬ w = 0 := cq39; rw [if_neg h7]; exact ⟨by rw [g5], rfl, rfl⟩)
      · skip
        refine A_aload_n rfl dX7_textTold_42 ?_
        refine A_getI fr_X7_230.g rfl (ll (isQ_t ht2)) dX7_textTold_43 ?_
        refine A_goto 53 rfl dX7_textTold_46 ?_
        refine A_iret rfl rfl rfl rfl dX7_textTold_53 ?_
        rw [f_tt, if_pos hok, nI_clamp (by omega)]
        first | (have h7 : w = 0 := cq39; rw [if_pos h7, g3, key_div g1 g2]; exact ⟨by rw [g4], rfl, rfl⟩) | (have h7 : ¬ w = 0 := cq39; rw [if_neg h7]; exact ⟨by rw [g5], rfl, rfl⟩)
    · skip
      refine A_ldc kc_X7_60 rfl dX7_textTold_26 ?_
      refine A_iret rfl rfl rfl rfl dX7_textTold_28 ?_
      have hno : ¬ ((0 ≤ v ∧ v ≤ N 7 - 1) ∧ (0 ≤ w ∧ w ≤ 1)) := by
        first
          | (have h7 := b2i_q.mp cq14; exact fun h9 => h7 h9.1)
          | (have h7 := b2i_q.mp cq23; exact fun h9 => h7 h9.2)
      rw [f_tt, if_neg hno]
      exact ⟨rfl, rfl, rfl⟩
set_option maxHeartbeats 1000000 in
set_option maxRecDepth 100000 in
theorem m_textTold (l : Launch) (G : Gm) (I : Hp) (N : Nrow) (h87 : I 87 = N) (n : Nat) (hn : n ≤ 10) (hN : N 1 = nI n) (T : Nat) (hTx : TxJ N T) (v w : Int32) : Meth l G yX8_textTold cX8_textTold 3 (some (FieldType.int)) 2 0 0 [.ref 86, .int v, .int w] LAY I (fun r lay1 I1 => r = some (.int (f_tt N v w)) ∧ lay1 = LAY ∧ I1 = I) := by
  subst h87
  refine Meth.of (by decide +kernel) (by simp [Value.category]) (Nat.le_of_ble_eq_true rfl) ?_
  refine A_iload_n rfl dX8_textTold_0 ?_
  refine A_iconst ic_0 dX8_textTold_1 ?_
  refine A_aload_n rfl dX8_textTold_2 ?_
  refine A_getR fr_X8_9.g rfl lay_86 rfl dX8_textTold_3 ?_
  refine A_bipush bp_7 dX8_textTold_6 ?_
  refine A_iald 7 rfl lay_87 (by decide) (by decide) dX8_textTold_8 ?_
  refine A_iconst ic_1 dX8_textTold_9 ?_
  refine A_isub dX8_textTold_10 ?_
  refine A_callS (s_in l G _ _ _ _ _) m_X8_in ml_X8_80 rfl rfl rfl (Nat.le_of_ble_eq_true rfl) (by decide) (by decide) (by decide) dX8_textTold_11 (fun _ _ _ h => congrArg List.length h.2.1) ?_
  rintro _ _ _ ⟨rfl, rfl, e9⟩
  refine AW_I e9 ?_
  clear e9
  refine A_if_eq 26 rfl dX8_textTold_14 (fun cq14 => ?_) (fun cq14 => ?_)
  · skip
    refine A_ldc kc_X8_88 rfl dX8_textTold_26 ?_
    refine A_iret rfl rfl rfl rfl dX8_textTold_28 ?_
    have hno : ¬ ((0 ≤ v ∧ v ≤ I 87 7 - 1) ∧ (0 ≤ w ∧ w ≤ 1)) := by
      first
        | (have h7 := b2i_q.mp cq14; exact fun h9 => h7 h9.1)
        | (have h7 := b2i_q.mp cq23; exact fun h9 => h7 h9.2)
    rw [f_tt, if_neg hno]
    exact ⟨rfl, rfl, rfl⟩
  · skip
    refine A_iload_n rfl dX8_textTold_17 ?_
    refine A_iconst ic_0 dX8_textTold_18 ?_
    refine A_iconst ic_1 dX8_textTold_19 ?_
    refine A_callS (s_in l G _ _ _ _ _) m_X8_in ml_X8_80 rfl rfl rfl (Nat.le_of_ble_eq_true rfl) (by decide) (by decide) (by decide) dX8_textTold_20 (fun _ _ _ h => congrArg List.length h.2.1) ?_
    rintro _ _ _ ⟨rfl, rfl, e9⟩
    refine AW_I e9 ?_
    clear e9
    refine A_if_ne 29 rfl dX8_textTold_23 (fun cq23 => ?_) (fun cq23 => ?_)
    · skip
      have hok : (0 ≤ v ∧ v ≤ I 87 7 - 1) ∧ (0 ≤ w ∧ w ≤ 1) := ⟨b2i_p.mp cq14, b2i_p.mp cq23⟩
      obtain ⟨t, ht, rfl⟩ := pl_get (m := T) (by have := hTx.1; omega) hTx.2.1 ((le_pred (by have := hTx.1; omega) hTx.2.1).mp hok.1)
      have ht2 : t < 14 := by have := hTx.1; omega
      refine A_iload_n rfl dX8_textTold_29 ?_
      refine A_if_ne 51 rfl dX8_textTold_30 (fun cq30 => ?_) (fun cq30 => ?_)
      · skip
        refine A_aload_n rfl dX8_textTold_51 ?_
        refine A_getR fr_X8_9.g rfl lay_86 rfl dX8_textTold_52 ?_
        refine A_bipush bp_66 dX8_textTold_55 ?_
        refine A_iconst ic_2 dX8_textTold_57 ?_
        refine A_iload_n rfl dX8_textTold_58 ?_
        refine A_imul dX8_textTold_59 ?_
        refine A_iadd dX8_textTold_60 ?_
        refine A_iconst ic_1 dX8_textTold_61 ?_
        refine A_iadd dX8_textTold_62 ?_
        refine A_iald (67 + 2 * t) (ix_21 t) lay_87 (by omega) (by decide) dX8_textTold_63 ?_
        refine A_iret rfl rfl rfl rfl dX8_textTold_64 ?_
        rw [f_tt, if_pos hok, nI_clamp (by omega)]
        first | (have h7 : w = 0 := cq30; rw [if_pos h7]; exact ⟨rfl, rfl, rfl⟩) | (have h7 : ¬ w = 0 := cq30; rw [if_neg h7]; exact ⟨rfl, rfl, rfl⟩)
      · skip
        refine A_aload_n rfl dX8_textTold_33 ?_
        refine A_getR fr_X8_9.g rfl lay_86 rfl dX8_textTold_34 ?_
        refine A_bipush bp_66 dX8_textTold_37 ?_
        refine A_iconst ic_2 dX8_textTold_39 ?_
        refine A_iload_n rfl dX8_textTold_40 ?_
        refine A_imul dX8_textTold_41 ?_
        refine A_iadd dX8_textTold_42 ?_
        refine A_iald (66 + 2 * t) (ix_2 t) lay_87 (by omega) (by decide) dX8_textTold_43 ?_
        refine A_sipush sp_1000 dX8_textTold_44 ?_
        refine A_idiv dX8_textTold_47 (by decide) ?_
        refine A_goto 64 rfl dX8_textTold_48 ?_
        refine A_iret rfl rfl rfl rfl dX8_textTold_64 ?_
        rw [f_tt, if_pos hok, nI_clamp (by omega)]
        first | (have h7 : w = 0 := cq30; rw [if_pos h7]; exact ⟨rfl, rfl, rfl⟩) | (have h7 : ¬ w = 0 := cq30; rw [if_neg h7]; exact ⟨rfl, rfl, rfl⟩)
    · skip
      refine A_ldc kc_X8_88 rfl dX8_textTold_26 ?_
      refine A_iret rfl rfl rfl rfl dX8_textTold_28 ?_
      have hno : ¬ ((0 ≤ v ∧ v ≤ I 87 7 - 1) ∧ (0 ≤ w ∧ w ≤ 1)) := by
        first
          | (have h7 := b2i_q.mp cq14; exact fun h9 => h7 h9.1)
          | (have h7 := b2i_q.mp cq23; exact fun h9 => h7 h9.2)
      rw [f_tt, if_neg hno]
      exact ⟨rfl, rfl, rfl⟩
def f_tell (wt : Nat) : Int32 := if wt = 60 then -1000000003 else nI (wt + 1)
set_option maxHeartbeats 1000000 in
set_option maxRecDepth 100000 in
theorem c_tell (l : Launch) (G : Gm) (I : Hp) (wt : Nat) (hwt : wt ≤ 60) (hw : I 0 8 = nI wt) (x : Int32) : Meth l G yX7_tell cX7_tell 2 (some (FieldType.int)) 1 0 0 [.ref 0, .int x] LAY I (fun r lay1 I1 => r = some (.int (f_tell wt)) ∧ lay1 = LAY ∧ I1 = if wt = 60 then I else up2 (up2 I 85 wt x) 0 8 (nI (wt + 1))) := by
  refine Meth.of (by decide +kernel) (by simp [Value.category]) (Nat.le_of_ble_eq_true rfl) ?_
  refine A_aload_n rfl dX7_tell_0 ?_
  refine A_getI fr_X7_285.g rfl lay_0 dX7_tell_1 ?_
  refine A_bipush bp_60 dX7_tell_4 ?_
  rw [hw]
  refine A_icmp_lt 12 rfl dX7_tell_6 (fun cq6 => ?_) (fun cq6 => ?_)
  · skip
    refine A_aload_n rfl dX7_tell_12 ?_
    refine A_getR fr_X7_52.g rfl lay_0 rfl dX7_tell_13 ?_
    refine A_aload_n rfl dX7_tell_16 ?_
    refine A_getI fr_X7_285.g rfl lay_0 dX7_tell_17 ?_
    have hlt : wt < 60 := (nI_ltI (by omega) (by omega)).mp cq6
    rw [hw]
    refine A_iload_n rfl dX7_tell_20 ?_
    refine A_iast wt rfl lay_85 (by omega) (by decide) dX7_tell_21 ?_
    refine A_aload_n rfl dX7_tell_22 ?_
    refine A_dup rfl dX7_tell_23 ?_
    refine A_getI fr_X7_285.g rfl lay_0 dX7_tell_24 ?_
    refine A_iconst ic_1 dX7_tell_27 ?_
    rw [show (up2 I 85 wt x) 0 8 = nI wt by rw [up2_ne (by decide)]; exact hw]
    refine A_iadd dX7_tell_28 ?_
    rw [nI_1]
    refine A_putI fr_X7_285 rfl lay_0 rfl rfl dX7_tell_29 ?_
    refine A_aload_n rfl dX7_tell_32 ?_
    refine A_getI fr_X7_285.g rfl lay_0 dX7_tell_33 ?_
    refine A_iret rfl rfl rfl rfl dX7_tell_36 ?_
    have hne : ¬ wt = 60 := by omega
    rw [f_tell, if_neg hne, if_neg hne]
    exact ⟨by rw [up2_same], rfl, rfl⟩
  · skip
    refine A_ldc kc_X7_65 rfl dX7_tell_9 ?_
    refine A_iret rfl rfl rfl rfl dX7_tell_11 ?_
    have hlt : wt = 60 := by
      have hq1 := mt (nI_ltI (a := wt) (b := 60) (by omega) (by omega)).mpr cq6
      omega
    rw [f_tell, if_pos hlt, if_pos hlt]
    exact ⟨rfl, rfl, rfl⟩
set_option maxHeartbeats 1000000 in
set_option maxRecDepth 100000 in
theorem m_tell (l : Launch) (G : Gm) (I : Hp) (wt : Nat) (hwt : wt ≤ 60) (hw : I 86 33 = nI wt) (x : Int32) : Meth l G yX8_tell cX8_tell 2 (some (FieldType.int)) 1 0 0 [.ref 86, .int x] LAY I (fun r lay1 I1 => r = some (.int (f_tell wt)) ∧ lay1 = LAY ∧ I1 = if wt = 60 then I else up2 (up2 I 107 wt x) 86 33 (nI (wt + 1))) := by
  refine Meth.of (by decide +kernel) (by simp [Value.category]) (Nat.le_of_ble_eq_true rfl) ?_
  refine A_aload_n rfl dX8_tell_0 ?_
  refine A_getI fr_X8_276.g rfl lay_86 dX8_tell_1 ?_
  refine A_bipush bp_60 dX8_tell_4 ?_
  rw [hw]
  refine A_icmp_ne 12 rfl dX8_tell_6 (fun cq6 => ?_) (fun cq6 => ?_)
  · skip
    refine A_aload_n rfl dX8_tell_12 ?_
    refine A_getR fr_X8_76.g rfl lay_86 rfl dX8_tell_13 ?_
    refine A_aload_n rfl dX8_tell_16 ?_
    refine A_getI fr_X8_276.g rfl lay_86 dX8_tell_17 ?_
    have hlt : wt < 60 := by
      have hq1 := mt (nI_eq (a := wt) (b := 60) (by omega) (by omega)).mpr cq6
      omega
    rw [hw]
    refine A_iload_n rfl dX8_tell_20 ?_
    refine A_iast wt rfl lay_107 (by omega) (by decide) dX8_tell_21 ?_
    refine A_aload_n rfl dX8_tell_22 ?_
    refine A_dup rfl dX8_tell_23 ?_
    refine A_getI fr_X8_276.g rfl lay_86 dX8_tell_24 ?_
    refine A_iconst ic_1 dX8_tell_27 ?_
    rw [show (up2 I 107 wt x) 86 33 = nI wt by rw [up2_ne (by decide)]; exact hw]
    refine A_iadd dX8_tell_28 ?_
    rw [nI_1]
    refine A_putI fr_X8_276 rfl lay_86 rfl rfl dX8_tell_29 ?_
    refine A_aload_n rfl dX8_tell_32 ?_
    refine A_getI fr_X8_276.g rfl lay_86 dX8_tell_33 ?_
    refine A_iret rfl rfl rfl rfl dX8_tell_36 ?_
    have hne : ¬ wt = 60 := by omega
    rw [f_tell, if_neg hne, if_neg hne]
    exact ⟨by rw [up2_same], rfl, rfl⟩
  · skip
    refine A_ldc kc_X8_89 rfl dX8_tell_9 ?_
    refine A_iret rfl rfl rfl rfl dX8_tell_11 ?_
    have hlt : wt = 60 := (nI_eq (a := wt) (b := 60) (by omega) (by omega)).mp cq6
    rw [f_tell, if_pos hlt, if_pos hlt]
    exact ⟨rfl, rfl, rfl⟩
set_option maxHeartbeats 1000000 in
set_option maxRecDepth 100000 in
theorem c_keep (l : Launch) (G : Gm) (I : Hp) : Meth l G yX7_keep cX7_keep 1 (some (FieldType.int)) 2 0 0 [.ref 0] LAY I (fun r lay1 I1 => r = some (.int (I 36 8)) ∧ lay1 = LAY ∧ I1 = up2 (beJ I 36 44) 0 9 1) := by
  refine Meth.of (by decide +kernel) (by simp [Value.category]) (Nat.le_of_ble_eq_true rfl) ?_
  refine A_aload_n rfl dX7_keep_0 ?_
  refine A_getR fr_X7_32.g rfl lay_0 rfl dX7_keep_1 ?_
  refine A_aload_n rfl dX7_keep_4 ?_
  refine A_getR fr_X7_28.g rfl lay_0 rfl dX7_keep_5 ?_
  refine A_callV (s_become l G 36 44 j36 j44 (by decide) I) m_X0_become ml_X7_179 rfl (lj j44) rfl (by decide) rfl rfl (Nat.le_of_ble_eq_true rfl) (by decide) (by decide) (by decide) dX7_keep_8 (fun _ _ _ h => congrArg List.length h.2.1) ?_
  rintro _ _ _ ⟨rfl, rfl, e9⟩
  refine AW_I e9 ?_
  clear e9
  refine A_aload_n rfl dX7_keep_11 ?_
  refine A_iconst ic_1 dX7_keep_12 ?_
  refine A_putI fr_X7_288 rfl lay_0 rfl rfl dX7_keep_13 ?_
  refine A_aload_n rfl dX7_keep_16 ?_
  refine A_getR fr_X7_28.g rfl lay_0 rfl dX7_keep_17 ?_
  refine A_getI fr_X7_61.g rfl (lj j36) dX7_keep_20 ?_
  refine A_iret rfl rfl rfl rfl dX7_keep_23 ?_
  exact ⟨by rw [up2_ne (by decide), beJ_o (by decide)], rfl, rfl⟩
set_option maxHeartbeats 1000000 in
set_option maxRecDepth 100000 in
theorem m_keep (l : Launch) (G : Gm) (I : Hp) : Meth l G yX8_keep cX8_keep 1 (some (FieldType.int)) 2 0 0 [.ref 86] LAY I (fun r lay1 I1 => r = some (.int (I 87 1)) ∧ lay1 = LAY ∧ I1 = up2 (setR I 88 (cpN (I 87) (I 88) 1438)) 86 3 1) := by
  refine Meth.of (by decide +kernel) (by simp [Value.category]) (Nat.le_of_ble_eq_true rfl) ?_
  refine A_aload_n rfl dX8_keep_0 ?_
  refine A_getR fr_X8_9.g rfl lay_86 rfl dX8_keep_1 ?_
  refine A_aload_n rfl dX8_keep_4 ?_
  refine A_getR fr_X8_13.g rfl lay_86 rfl dX8_keep_5 ?_
  refine A_callS (t_copyAll l G I 87 88 lay_87 lay_88 (by decide)) m_X8_copyAll ml_X8_283 rfl rfl rfl (Nat.le_of_ble_eq_true rfl) (by decide) (by decide) (by decide) dX8_keep_8 (fun _ _ _ h => congrArg List.length h.2.1) ?_
  rintro _ _ _ ⟨rfl, rfl, e9⟩
  refine AW_I e9 ?_
  clear e9
  refine A_aload_n rfl dX8_keep_11 ?_
  refine A_iconst ic_1 dX8_keep_12 ?_
  refine A_putI fr_X8_279 rfl lay_86 rfl rfl dX8_keep_13 ?_
  refine A_aload_n rfl dX8_keep_16 ?_
  refine A_getR fr_X8_9.g rfl lay_86 rfl dX8_keep_17 ?_
  refine A_iconst ic_1 dX8_keep_20 ?_
  refine A_iald 1 rfl lay_87 (by decide) (by decide) dX8_keep_21 ?_
  refine A_iret rfl rfl rfl rfl dX8_keep_22 ?_
  exact ⟨by rw [up2_ne (by decide), setR_n (by decide)], rfl, rfl⟩
set_option maxHeartbeats 1000000 in
set_option maxRecDepth 100000 in
theorem c_back (l : Launch) (G : Gm) (I : Hp) : Meth l G yX7_back cX7_back 1 (some (FieldType.int)) 2 0 0 [.ref 0] LAY I (fun r lay1 I1 => r = some (.int (if I 0 9 = 0 then -1000000002 else I 44 8)) ∧ lay1 = LAY ∧ I1 = if I 0 9 = 0 then I else beJ I 44 36) := by
  refine Meth.of (by decide +kernel) (by simp [Value.category]) (Nat.le_of_ble_eq_true rfl) ?_
  refine A_aload_n rfl dX7_back_0 ?_
  refine A_getI fr_X7_288.g rfl lay_0 dX7_back_1 ?_
  refine A_if_ne 11 rfl dX7_back_4 (fun cq4 => ?_) (fun cq4 => ?_)
  · skip
    refine A_aload_n rfl dX7_back_11 ?_
    refine A_getR fr_X7_28.g rfl lay_0 rfl dX7_back_12 ?_
    refine A_aload_n rfl dX7_back_15 ?_
    refine A_getR fr_X7_32.g rfl lay_0 rfl dX7_back_16 ?_
    refine A_callV (s_become l G 44 36 j44 j36 (by decide) I) m_X0_become ml_X7_179 rfl (lj j36) rfl (by decide) rfl rfl (Nat.le_of_ble_eq_true rfl) (by decide) (by decide) (by decide) dX7_back_19 (fun _ _ _ h => congrArg List.length h.2.1) ?_
    rintro _ _ _ ⟨rfl, rfl, e9⟩
    refine AW_I e9 ?_
    clear e9
    refine A_aload_n rfl dX7_back_22 ?_
    refine A_getR fr_X7_28.g rfl lay_0 rfl dX7_back_23 ?_
    refine A_getI fr_X7_61.g rfl (lj j36) dX7_back_26 ?_
    refine A_iret rfl rfl rfl rfl dX7_back_29 ?_
    rw [if_neg cq4, if_neg cq4]
    exact ⟨by rw [beJ_8], rfl, rfl⟩
  · skip
    refine A_ldcw kc_X7_284 rfl dX7_back_7 ?_
    refine A_iret rfl rfl rfl rfl dX7_back_10 ?_
    rw [if_pos cq4, if_pos cq4]
    exact ⟨rfl, rfl, rfl⟩
set_option maxHeartbeats 1000000 in
set_option maxRecDepth 100000 in
theorem m_back (l : Launch) (G : Gm) (I : Hp) : Meth l G yX8_back cX8_back 1 (some (FieldType.int)) 2 0 0 [.ref 86] LAY I (fun r lay1 I1 => r = some (.int (if I 86 3 = 0 then -1000000002 else I 88 1)) ∧ lay1 = LAY ∧ I1 = if I 86 3 = 0 then I else setR I 87 (cpN (I 88) (I 87) 1438)) := by
  refine Meth.of (by decide +kernel) (by simp [Value.category]) (Nat.le_of_ble_eq_true rfl) ?_
  refine A_aload_n rfl dX8_back_0 ?_
  refine A_getI fr_X8_279.g rfl lay_86 dX8_back_1 ?_
  refine A_if_ne 11 rfl dX8_back_4 (fun cq4 => ?_) (fun cq4 => ?_)
  · skip
    refine A_aload_n rfl dX8_back_11 ?_
    refine A_getR fr_X8_13.g rfl lay_86 rfl dX8_back_12 ?_
    refine A_aload_n rfl dX8_back_15 ?_
    refine A_getR fr_X8_9.g rfl lay_86 rfl dX8_back_16 ?_
    refine A_callS (t_copyAll l G I 88 87 lay_88 lay_87 (by decide)) m_X8_copyAll ml_X8_283 rfl rfl rfl (Nat.le_of_ble_eq_true rfl) (by decide) (by decide) (by decide) dX8_back_19 (fun _ _ _ h => congrArg List.length h.2.1) ?_
    rintro _ _ _ ⟨rfl, rfl, e9⟩
    refine AW_I e9 ?_
    clear e9
    refine A_aload_n rfl dX8_back_22 ?_
    refine A_getR fr_X8_9.g rfl lay_86 rfl dX8_back_23 ?_
    refine A_iconst ic_1 dX8_back_26 ?_
    refine A_iald 1 rfl lay_87 (by decide) (by decide) dX8_back_27 ?_
    refine A_iret rfl rfl rfl rfl dX8_back_28 ?_
    rw [if_neg cq4, if_neg cq4]
    exact ⟨by rw [setR_s, cpN, if_pos (by decide)], rfl, rfl⟩
  · skip
    refine A_ldcw kc_X8_275 rfl dX8_back_7 ?_
    refine A_iret rfl rfl rfl rfl dX8_back_10 ?_
    rw [if_pos cq4, if_pos cq4]
    exact ⟨rfl, rfl, rfl⟩
