def q_lots (N : Nrow) (n : Nat) : Nat → Nrow
  | 0 => N
  | k + 1 => q_lot (q_lots N n k) (n + k)
theorem lot_1 (N : Nrow) (n : Nat) : q_lot N n 1 = N 1 + 1 := by
  unfold q_lot q_add
  rw [upd_s, upd_n (by decide), upd_n (by decide), upd_n (by decide), upd_n (by decide)]
theorem lots_1 {N : Nrow} {n : Nat} (hN : N 1 = nI n) : ∀ k, q_lots N n k 1 = nI (n + k)
  | 0 => hN
  | k + 1 => by rw [q_lots, lot_1, lots_1 hN k, nI_1]; rfl
def g_deal (N : Nrow) (n : Nat) (x : Int32) : Int32 × Nrow := if 1 ≤ x ∧ x ≤ 10 then (nI (if x.toNatClampNeg < 10 - n then x.toNatClampNeg else 10 - n), q_lots N n (if x.toNatClampNeg < 10 - n then x.toNatClampNeg else 10 - n)) else (-1000000001, N)
theorem in_get10 {v : Int32} (h : 1 ≤ v ∧ v ≤ 10) : ∃ i, 1 ≤ i ∧ i ≤ 10 ∧ v = nI i := by
  obtain ⟨i, h1, rfl⟩ := in_get (a := 10) rfl ⟨Int32.le_trans (by decide) h.1, h.2⟩
  refine ⟨i, ?_, h1, rfl⟩
  apply Nat.one_le_iff_ne_zero.mpr
  rintro rfl
  exact absurd h.1 (by decide)
set_option maxHeartbeats 1000000 in
set_option maxRecDepth 100000 in
theorem c_deal (l : Launch) (G : Gm) (I : Hp) (N : Nrow) (n : Nat) (hn : n ≤ 10) (hN : N 1 = nI n) (hR : RepJ I 36 N) (x : Int32) : Meth l G yX7_deal cX7_deal 4 (some (FieldType.int)) 3 0 0 [.ref 0, .int x] LAY I (fun r lay1 I1 => r = some (.int (g_deal N n x).1) ∧ lay1 = LAY ∧ NowC I I1 (g_deal N n x).2) := by
  have loop : ∀ (lpn : Nat) (i m k : Nat) (K : Hp), m - k = lpn → (nI i = x) → (k ≤ m) → (n + m ≤ 10) → (g_deal N n x = (nI m, q_lots N n m)) → (RepJ K 36 (q_lots N n k)) → (∀ q, (q < 36 ∨ 44 ≤ q) → K q = I q) → AW l G yX7_deal cX7_deal 4 (some (FieldType.int)) 3 0 0 (fun r lay1 I1 => r = some (.int (g_deal N n x).1) ∧ lay1 = LAY ∧ NowC I I1 (g_deal N n x).2) 0 0 30 [some (.ref 0), some (.int x), some (.int (nI m)), some (.int (nI k))] [] LAY K := by
    intro lpn
    induction lpn using Nat.strongRecOn with
    | _ lpn ih =>
      intro i m k K hms hi hk hm hgd hRk hfr
      refine A_iload_n rfl dX7_deal_30 ?_
      refine A_iload_n rfl dX7_deal_31 ?_
      refine A_icmp_ge 48 rfl dX7_deal_32 (fun cq32 => ?_) (fun cq32 => ?_)
      · skip
        have hkn := (le_nI (rfl : nI m = nI m) (rfl : nI k = nI k) (by omega) (by omega)).mp cq32
        have hke : k = m := by omega
        subst hke
        refine A_iload_n rfl dX7_deal_48 ?_
        refine A_iret rfl rfl rfl rfl dX7_deal_49 ?_
        rw [hgd]
        exact ⟨rfl, rfl, hRk, hfr⟩
      · skip
        have hkn : k < m := by
          have hq1 := mt (le_nI (rfl : nI m = nI m) (rfl : nI k = nI k) (by omega) (by omega)).mpr cq32
          omega
        refine A_aload_n rfl dX7_deal_35 ?_
        refine A_getR fr_X7_28.g rfl lay_0 rfl dX7_deal_36 ?_
        refine A_callV (s_lot l G 36 j36 K _ (n + k) (by omega) (lots_1 hN k) hRk) m_X0_addByLot ml_X7_144 rfl (lj j36) rfl (by decide) rfl rfl (Nat.le_of_ble_eq_true rfl) (by decide) (by decide) (by decide) dX7_deal_39 (fun _ _ _ hqq => congrArg List.length hqq.2.1) ?_
        rintro _ _ K2 ⟨rfl, rfl, hR2, hf2⟩
        refine A_iinc ic_1 rfl (by decide) rfl dX7_deal_42 ?_
        refine A_goto 30 rfl dX7_deal_45 ?_
        refine AW_L (by rw [nI_1 k]) ?_
        exact ih (m - (k + 1)) (by omega) i m (k + 1) _ rfl hi (by omega) hm hgd hR2 (fun q hq => (hf2 q hq).trans (hfr q hq))
  refine Meth.of (by decide +kernel) (by simp [Value.category]) (Nat.le_of_ble_eq_true rfl) ?_
  refine A_iload_n rfl dX7_deal_0 ?_
  refine A_iconst ic_1 dX7_deal_1 ?_
  refine A_bipush bp_10 dX7_deal_2 ?_
  refine A_callS (s_within l G _ _ _ _ _) m_X7_within ml_X7_56 rfl rfl rfl (Nat.le_of_ble_eq_true rfl) (by decide) (by decide) (by decide) dX7_deal_4 (fun _ _ _ h => congrArg List.length h.2.1) ?_
  rintro _ _ _ ⟨rfl, rfl, e9⟩
  refine AW_I e9 ?_
  clear e9
  refine A_if_ne 13 rfl dX7_deal_7 (fun cq7 => ?_) (fun cq7 => ?_)
  · skip
    have hok := b2i_p.mp cq7
    obtain ⟨i, hi0, hi, rfl⟩ := in_get10 hok
    have e8 : I 36 8 = nI n := hR.1.1.trans hN
    refine A_iload_n rfl dX7_deal_13 ?_
    refine A_bipush bp_10 dX7_deal_14 ?_
    refine A_aload_n rfl dX7_deal_16 ?_
    refine A_getR fr_X7_28.g rfl lay_0 rfl dX7_deal_17 ?_
    refine A_getI fr_X7_61.g rfl (lj j36) dX7_deal_20 ?_
    rw [e8]
    refine A_isub dX7_deal_23 ?_
    rw [show (10 : Int32) - nI n = nI (10 - n) by rw [show (10 : Int32) = nI 10 from rfl, nI_subL hn]]
    refine A_callS (s_min l G _ _ _ _) m_J9_min_7cf53 ml_X7_139 rfl rfl rfl (Nat.le_of_ble_eq_true rfl) (by decide) (by decide) (by decide) dX7_deal_24 (fun _ _ _ h => congrArg List.length h.2.1) ?_
    rintro _ _ _ ⟨rfl, rfl, e9⟩
    refine AW_I e9 ?_
    clear e9
    rw [show (if nI (10 - n) < nI i then nI (10 - n) else nI i) = nI (if i < 10 - n then i else 10 - n) by
      by_cases hlt : 10 - n < i
      · rw [if_pos ((nI_ltI (by omega) (by omega)).mpr hlt), if_neg (by omega)]
      · rw [if_neg (mt (nI_ltI (by omega) (by omega)).mp hlt)]; congr 1; split <;> omega]
    refine A_istore_n (by decide) rfl dX7_deal_27 ?_
    refine A_iconst ic_0 dX7_deal_28 ?_
    refine A_istore_n (by decide) rfl dX7_deal_29 ?_
    exact loop _ i (if i < 10 - n then i else 10 - n) 0 I rfl rfl (by omega) (by split <;> omega) (by rw [g_deal, if_pos hok, nI_clamp (by omega)]) hR (fun _ _ => rfl)
  · skip
    refine A_ldc kc_X7_60 rfl dX7_deal_10 ?_
    refine A_iret rfl rfl rfl rfl dX7_deal_12 ?_
    have eg : g_deal N n x = (-1000000001, N) := by rw [g_deal, if_neg (b2i_q.mp cq7)]
    rw [eg]
    exact ⟨rfl, rfl, NowC.rf hR⟩
set_option maxHeartbeats 1000000 in
set_option maxRecDepth 100000 in
theorem m_deal (l : Launch) (G : Gm) (I : Hp) (N : Nrow) (h87 : I 87 = N) (n : Nat) (hn : n ≤ 10) (hN : N 1 = nI n) (x : Int32) : Meth l G yX8_deal cX8_deal 7 (some (FieldType.int)) 3 0 0 [.ref 86, .int x] LAY I (fun r lay1 I1 => r = some (.int (g_deal N n x).1) ∧ lay1 = LAY ∧ I1 = setN I (g_deal N n x).2) := by
  subst h87
  have loop : ∀ (lpn : Nat) (i m k : Nat) (K : Hp) (o3 o4 o5 o6 : Option Value), i - k = lpn → (nI i = x) → (i ≤ 10) → (k ≤ i) → (m = if i < 10 - n then i else 10 - n) → (k ≤ m) → (g_deal (I 87) n x = (nI m, q_lots (I 87) n m)) → (K = setN I (q_lots (I 87) n k)) → AW l G yX8_deal cX8_deal 7 (some (FieldType.int)) 3 0 0 (fun r lay1 I1 => r = some (.int (g_deal (I 87) n x).1) ∧ lay1 = LAY ∧ I1 = setN I (g_deal (I 87) n x).2) 0 0 15 [some (.ref 86), some (.int x), some (.int (nI k)), o3, o4, o5, o6] [] LAY K := by
    intro lpn
    induction lpn using Nat.strongRecOn with
    | _ lpn ih =>
      intro i m k K o3 o4 o5 o6 hms hi hi1 hk hm hkm hgd hKe
      subst hKe
      subst hi
      have h1k : (setN I (q_lots (I 87) n k)) 87 1 = nI (n + k) := (congrFun setN_87 1).trans (lots_1 hN k)
      refine A_iload_n rfl dX8_deal_15 ?_
      refine A_iload_n rfl dX8_deal_16 ?_
      refine A_icmp_ge 81 rfl dX8_deal_17 (fun cq17 => ?_) (fun cq17 => ?_)
      · skip
        have hke : k = m := by
          first
            | (have h7 := (le_nI (rfl : nI i = nI i) (rfl : nI k = nI k) (by omega) (by omega)).mp cq17; rw [hm] at hkm ⊢; split at hkm <;> split <;> omega)
            | (have h7 := (le_nI (show (10 : Int32) = nI 10 from rfl) h1k (by omega) (by omega)).mp cq28; rw [hm] at hkm ⊢; split at hkm <;> split <;> omega)
        clear hm
        subst hke
        refine A_iload_n rfl dX8_deal_81 ?_
        refine A_iret rfl rfl rfl rfl dX8_deal_82 ?_
        rw [hgd]
        exact ⟨rfl, rfl, rfl⟩
      · skip
        have hkn : k < i := by
          have hq1 := mt (le_nI (rfl : nI i = nI i) (rfl : nI k = nI k) (by omega) (by omega)).mpr cq17
          omega
        refine A_aload_n rfl dX8_deal_20 ?_
        refine A_getR fr_X8_9.g rfl lay_86 rfl dX8_deal_21 ?_
        refine A_iconst ic_1 dX8_deal_24 ?_
        refine A_iald 1 rfl lay_87 (by decide) (by decide) dX8_deal_25 ?_
        refine A_bipush bp_10 dX8_deal_26 ?_
        refine A_icmp_ge 81 rfl dX8_deal_28 (fun cq28 => ?_) (fun cq28 => ?_)
        · skip
          have hke : k = m := by
            first
              | (have h7 := (le_nI (rfl : nI i = nI i) (rfl : nI k = nI k) (by omega) (by omega)).mp cq17; rw [hm] at hkm ⊢; split at hkm <;> split <;> omega)
              | (have h7 := (le_nI (show (10 : Int32) = nI 10 from rfl) h1k (by omega) (by omega)).mp cq28; rw [hm] at hkm ⊢; split at hkm <;> split <;> omega)
          clear hm
          subst hke
          refine A_iload_n rfl dX8_deal_81 ?_
          refine A_iret rfl rfl rfl rfl dX8_deal_82 ?_
          rw [hgd]
          exact ⟨rfl, rfl, rfl⟩
        · skip
          have hn10 : n + k < 10 := by
            have hq1 := mt (le_nI (show (10 : Int32) = nI 10 from rfl) h1k (by omega) (by omega)).mpr cq28
            omega
          have hkm2 : k < m := by rw [hm]; split <;> omega
          refine A_aload_n rfl dX8_deal_31 ?_
          refine A_callV (t_draw l G _ _ setN_87) m_X8_draw ml_X8_149 rfl lay_86 rfl (by decide) rfl rfl (Nat.le_of_ble_eq_true rfl) (by decide) (by decide) (by decide) dX8_deal_32 (fun _ _ _ h => congrArg List.length h.2.1) ?_
          rintro _ _ _ ⟨rfl, rfl, e9⟩
          refine AW_I e9 ?_
          clear e9
          refine A_bipush bp_6 dX8_deal_35 ?_
          refine A_irem dX8_deal_37 (by decide) ?_
          refine A_istore_n (by decide) rfl dX8_deal_38 ?_
          refine A_aload_n rfl dX8_deal_39 ?_
          refine A_callV (t_draw l G _ _ setN_87) m_X8_draw ml_X8_149 rfl lay_86 rfl (by decide) rfl rfl (Nat.le_of_ble_eq_true rfl) (by decide) (by decide) (by decide) dX8_deal_40 (fun _ _ _ h => congrArg List.length h.2.1) ?_
          rintro _ _ _ ⟨rfl, rfl, e9⟩
          refine AW_I e9 ?_
          clear e9
          refine A_iconst ic_2 dX8_deal_43 ?_
          refine A_irem dX8_deal_44 (by decide) ?_
          refine A_istore (by decide) rfl dX8_deal_45 ?_
          refine A_aload_n rfl dX8_deal_47 ?_
          refine A_callV (t_draw l G _ _ setN_87) m_X8_draw ml_X8_149 rfl lay_86 rfl (by decide) rfl rfl (Nat.le_of_ble_eq_true rfl) (by decide) (by decide) (by decide) dX8_deal_48 (fun _ _ _ h => congrArg List.length h.2.1) ?_
          rintro _ _ _ ⟨rfl, rfl, e9⟩
          refine AW_I e9 ?_
          clear e9
          refine A_sipush sp_256 dX8_deal_51 ?_
          refine A_irem dX8_deal_54 (by decide) ?_
          refine A_istore (by decide) rfl dX8_deal_55 ?_
          refine A_aload_n rfl dX8_deal_57 ?_
          refine A_iload_n rfl dX8_deal_58 ?_
          refine A_iload rfl dX8_deal_59 ?_
          refine A_iload rfl dX8_deal_61 ?_
          refine A_aload_n rfl dX8_deal_63 ?_
          refine A_callV (t_draw l G _ _ setN_87) m_X8_draw ml_X8_149 rfl lay_86 rfl (by decide) rfl rfl (Nat.le_of_ble_eq_true rfl) (by decide) (by decide) (by decide) dX8_deal_64 (fun _ _ _ h => congrArg List.length h.2.1) ?_
          rintro _ _ _ ⟨rfl, rfl, e9⟩
          refine AW_I e9 ?_
          clear e9
          refine A_bipush bp_30 dX8_deal_67 ?_
          refine A_irem dX8_deal_69 (by decide) ?_
          refine A_callV (t_comes l G _ _ setN_87 (n + k) (by omega) (by rw [upd_n (by decide), upd_n (by decide), upd_n (by decide), upd_n (by decide)]; exact lots_1 hN k) _ _ _ _) m_X8_comes ml_X8_90 rfl lay_86 rfl (by decide) rfl rfl (Nat.le_of_ble_eq_true rfl) (by decide) (by decide) (by decide) dX8_deal_70 (fun _ _ _ h => congrArg List.length h.2.1) ?_
          rintro _ _ _ ⟨rfl, rfl, e9⟩
          refine AW_I e9 ?_
          clear e9
          refine A_istore (by decide) rfl dX8_deal_73 ?_
          refine A_iinc ic_1 rfl (by decide) rfl dX8_deal_75 ?_
          refine A_goto 15 rfl dX8_deal_78 ?_
          refine AW_L (by rw [nI_1 k]) ?_
          refine ih (i - (k + 1)) (by omega) i m (k + 1) _ _ _ _ _ rfl rfl hi1 (by omega) hm (by omega) hgd ?_
          rw [setN_set, setN_set, setN_set, setN_set, setN_set]
          rw [q_lots, q_lot]
          simp only [upd_s]
          rfl
  refine Meth.of (by decide +kernel) (by simp [Value.category]) (Nat.le_of_ble_eq_true rfl) ?_
  refine A_iload_n rfl dX8_deal_0 ?_
  refine A_iconst ic_1 dX8_deal_1 ?_
  refine A_bipush bp_10 dX8_deal_2 ?_
  refine A_callS (s_in l G _ _ _ _ _) m_X8_in ml_X8_80 rfl rfl rfl (Nat.le_of_ble_eq_true rfl) (by decide) (by decide) (by decide) dX8_deal_4 (fun _ _ _ h => congrArg List.length h.2.1) ?_
  rintro _ _ _ ⟨rfl, rfl, e9⟩
  refine AW_I e9 ?_
  clear e9
  refine A_if_ne 13 rfl dX8_deal_7 (fun cq7 => ?_) (fun cq7 => ?_)
  · skip
    have hok := b2i_p.mp cq7
    obtain ⟨i, hi0, hi, rfl⟩ := in_get10 hok
    refine A_iconst ic_0 dX8_deal_13 ?_
    refine A_istore_n (by decide) rfl dX8_deal_14 ?_
    exact loop _ i _ 0 I _ _ _ _ rfl rfl hi (by omega) rfl (by omega) (by rw [g_deal, if_pos hok, nI_clamp (by omega)]) setN_self.symm
  · skip
    refine A_ldc kc_X8_88 rfl dX8_deal_10 ?_
    refine A_iret rfl rfl rfl rfl dX8_deal_12 ?_
    have eg : g_deal (I 87) n x = (-1000000001, I 87) := by rw [g_deal, if_neg (b2i_q.mp cq7)]
    rw [eg]
    exact ⟨rfl, rfl, by rw [setN_self]⟩
def f_told (N : Nrow) (v w : Int32) : Int32 := if 0 ≤ v ∧ v < N 1 then (if w = 0 then N (16 + 5 * v.toNatClampNeg) else if w = 1 then N (17 + 5 * v.toNatClampNeg) else if w = 2 then N (18 + 5 * v.toNatClampNeg) else if w = 3 then N (19 + 5 * v.toNatClampNeg) else if w = 4 then N (20 + 5 * v.toNatClampNeg) else if w = 5 then q_bel N v.toNatClampNeg else if w = 6 then b2i (q_gui N v.toNatClampNeg) else if w = 7 then q_par N v else if w = 8 then q_worth (N (16 + 5 * v.toNatClampNeg)) (N (19 + 5 * v.toNatClampNeg)) else -1000000001) else -1000000001
set_option maxHeartbeats 1000000 in
set_option maxRecDepth 100000 in
theorem c_told (l : Launch) (G : Gm) (I : Hp) (N : Nrow) (n : Nat) (hn : n ≤ 10) (hN : N 1 = nI n) (hR : RepJ I 36 N) (T : Nat) (hK : KnJ N) (hTx : TxJ N T) (hLw : LwR I N T) (hDo : DoJ N) (v w : Int32) : Meth l G yX7_told cX7_told 3 (some (FieldType.int)) 7 0 0 [.ref 0, .int v, .int w] LAY I (fun r lay1 I1 => r = some (.int (f_told N v w)) ∧ lay1 = LAY ∧ ∀ q, q ≠ 2 → I1 q = I q) := by
  refine Meth.of (by decide +kernel) (by simp [Value.category]) (Nat.le_of_ble_eq_true rfl) ?_
  refine A_aload_n rfl dX7_told_0 ?_
  refine A_getR fr_X7_28.g rfl lay_0 rfl dX7_told_1 ?_
  refine A_iload_n rfl dX7_told_4 ?_
  refine A_callV (s_has l G 36 j36 I _) m_X0_has ml_X7_70 rfl (lj j36) rfl (by decide) rfl rfl (Nat.le_of_ble_eq_true rfl) (by decide) (by decide) (by decide) dX7_told_5 (fun _ _ _ h => congrArg List.length h.2.1) ?_
  rintro _ _ _ ⟨rfl, rfl, e9⟩
  refine AW_I e9 ?_
  clear e9
  refine A_if_ne 14 rfl dX7_told_8 (fun cq8 => ?_) (fun cq8 => ?_)
  · skip
    have hv := b2i_p.mp cq8
    rw [hR.1.1] at hv
    obtain ⟨i, hi, rfl⟩ := jur_get hn hN hv
    refine A_iload_n rfl dX7_told_14 ?_
    refine A_tsw 163 rfl dX7_told_15 rfl (fun jsw off hjsw cq15 => ?_) (fun cq15 => ?_)
    · match jsw, hjsw, cq15 with
      | 0, hjsw, cq15 =>
        cases hjsw
        replace cq15 := i_eq cq15 (ic_0)
        refine ⟨64, rfl, ?_⟩
        refine A_aload_n rfl dX7_told_64 ?_
        refine A_getR fr_X7_28.g rfl lay_0 rfl dX7_told_65 ?_
        refine A_getR fr_X7_74 rfl (lj j36) rfl dX7_told_68 ?_
        refine A_iload_n rfl dX7_told_71 ?_
        refine A_iald _ rfl (lj1 j36) (by omega) (by decide) dX7_told_72 ?_
        refine A_iret rfl rfl rfl rfl dX7_told_73 ?_
        subst cq15
        have eg : f_told N (nI i) 0 = N (16 + 5 * i) := by rw [f_told, if_pos hv, if_pos rfl, nI_clamp (by omega)]
        rw [eg]
        exact ⟨by rw [hR.2.1 i (by omega)], rfl, fun _ _ => rfl⟩
      | 1, hjsw, cq15 =>
        cases hjsw
        replace cq15 := i_eq cq15 (ic_1)
        refine ⟨74, rfl, ?_⟩
        refine A_aload_n rfl dX7_told_74 ?_
        refine A_getR fr_X7_28.g rfl lay_0 rfl dX7_told_75 ?_
        refine A_getR fr_X7_77 rfl (lj j36) rfl dX7_told_78 ?_
        refine A_iload_n rfl dX7_told_81 ?_
        refine A_iald _ rfl (lj2 j36) (by omega) (by decide) dX7_told_82 ?_
        refine A_iret rfl rfl rfl rfl dX7_told_83 ?_
        subst cq15
        have eg : f_told N (nI i) 1 = N (17 + 5 * i) := by rw [f_told, if_pos hv, if_neg (by decide), if_pos rfl, nI_clamp (by omega)]
        rw [eg]
        exact ⟨by rw [hR.2.2.1 i (by omega)], rfl, fun _ _ => rfl⟩
      | 2, hjsw, cq15 =>
        cases hjsw
        replace cq15 := i_eq cq15 (ic_2)
        refine ⟨84, rfl, ?_⟩
        refine A_aload_n rfl dX7_told_84 ?_
        refine A_getR fr_X7_28.g rfl lay_0 rfl dX7_told_85 ?_
        refine A_getR fr_X7_80 rfl (lj j36) rfl dX7_told_88 ?_
        refine A_iload_n rfl dX7_told_91 ?_
        refine A_iald _ rfl (lj3 j36) (by omega) (by decide) dX7_told_92 ?_
        refine A_iret rfl rfl rfl rfl dX7_told_93 ?_
        subst cq15
        have eg : f_told N (nI i) 2 = N (18 + 5 * i) := by rw [f_told, if_pos hv, if_neg (by decide), if_neg (by decide), if_pos rfl, nI_clamp (by omega)]
        rw [eg]
        exact ⟨by rw [hR.2.2.2.1 i (by omega)], rfl, fun _ _ => rfl⟩
      | 3, hjsw, cq15 =>
        cases hjsw
        replace cq15 := i_eq cq15 (ic_3)
        refine ⟨94, rfl, ?_⟩
        refine A_aload_n rfl dX7_told_94 ?_
        refine A_getR fr_X7_28.g rfl lay_0 rfl dX7_told_95 ?_
        refine A_getR fr_X7_83 rfl (lj j36) rfl dX7_told_98 ?_
        refine A_iload_n rfl dX7_told_101 ?_
        refine A_iald _ rfl (lj4 j36) (by omega) (by decide) dX7_told_102 ?_
        refine A_iret rfl rfl rfl rfl dX7_told_103 ?_
        subst cq15
        have eg : f_told N (nI i) 3 = N (19 + 5 * i) := by rw [f_told, if_pos hv, if_neg (by decide), if_neg (by decide), if_neg (by decide), if_pos rfl, nI_clamp (by omega)]
        rw [eg]
        exact ⟨by rw [hR.2.2.2.2.1 i (by omega)], rfl, fun _ _ => rfl⟩
      | 4, hjsw, cq15 =>
        cases hjsw
        replace cq15 := i_eq cq15 (ic_4)
        refine ⟨104, rfl, ?_⟩
        refine A_aload_n rfl dX7_told_104 ?_
        refine A_getR fr_X7_28.g rfl lay_0 rfl dX7_told_105 ?_
        refine A_getR fr_X7_86 rfl (lj j36) rfl dX7_told_108 ?_
        refine A_iload_n rfl dX7_told_111 ?_
        refine A_iald _ rfl (lj5 j36) (by omega) (by decide) dX7_told_112 ?_
        refine A_iret rfl rfl rfl rfl dX7_told_113 ?_
        subst cq15
        have eg : f_told N (nI i) 4 = N (20 + 5 * i) := by rw [f_told, if_pos hv, if_neg (by decide), if_neg (by decide), if_neg (by decide), if_neg (by decide), if_pos rfl, nI_clamp (by omega)]
        rw [eg]
        exact ⟨by rw [hR.2.2.2.2.2.1 i (by omega)], rfl, fun _ _ => rfl⟩
      | 5, hjsw, cq15 =>
        cases hjsw
        replace cq15 := i_eq cq15 (ic_5)
        refine ⟨114, rfl, ?_⟩
        refine A_aload_n rfl dX7_told_114 ?_
        refine A_getR fr_X7_28.g rfl lay_0 rfl dX7_told_115 ?_
        refine A_iload_n rfl dX7_told_118 ?_
        refine A_callV (s_bel l G 36 j36 I N T hR hK hTx hLw hDo i (by omega)) m_X0_believes ml_X7_89 rfl (lj j36) rfl (by decide) rfl rfl (Nat.le_of_ble_eq_true rfl) (by decide) (by decide) (by decide) dX7_told_119 (fun _ _ _ h => congrArg List.length h.2.1) ?_
        rintro _ _ K2 ⟨rfl, rfl, hf2⟩
        refine A_iret rfl rfl rfl rfl dX7_told_122 ?_
        subst cq15
        have eg : f_told N (nI i) 5 = q_bel N i := by rw [f_told, if_pos hv, if_neg (by decide), if_neg (by decide), if_neg (by decide), if_neg (by decide), if_neg (by decide), if_pos rfl, nI_clamp (by omega)]
        rw [eg]
        exact ⟨rfl, rfl, hf2⟩
      | 6, hjsw, cq15 =>
        cases hjsw
        replace cq15 := i_eq cq15 (ic_6)
        refine ⟨123, rfl, ?_⟩
        refine A_aload_n rfl dX7_told_123 ?_
        refine A_getR fr_X7_28.g rfl lay_0 rfl dX7_told_124 ?_
        refine A_iload_n rfl dX7_told_127 ?_
        refine A_callV (s_verdict l G 36 j36 I N T hR hK hTx hLw hDo i (by omega)) m_X0_verdict ml_X7_93 rfl (lj j36) rfl (by decide) rfl rfl (Nat.le_of_ble_eq_true rfl) (by decide) (by decide) (by decide) dX7_told_128 (fun _ _ _ h => congrArg List.length h.2.1) ?_
        rintro _ _ K2 ⟨rfl, rfl, hf2⟩
        refine A_iret rfl rfl rfl rfl dX7_told_131 ?_
        subst cq15
        have eg : f_told N (nI i) 6 = b2i (q_gui N i) := by rw [f_told, if_pos hv, if_neg (by decide), if_neg (by decide), if_neg (by decide), if_neg (by decide), if_neg (by decide), if_neg (by decide), if_pos rfl, nI_clamp (by omega)]
        rw [eg]
        exact ⟨rfl, rfl, hf2⟩
      | 7, hjsw, cq15 =>
        cases hjsw
        replace cq15 := i_eq cq15 (ic_7)
        refine ⟨132, rfl, ?_⟩
        refine A_aload_n rfl dX7_told_132 ?_
        refine A_getR fr_X7_28.g rfl lay_0 rfl dX7_told_133 ?_
        refine A_iload_n rfl dX7_told_136 ?_
        refine A_callV (s_par l G 36 j36 I N n hn hN hR (by omega) _) m_X0_partner ml_X7_96 rfl (lj j36) rfl (by decide) rfl rfl (Nat.le_of_ble_eq_true rfl) (by decide) (by decide) (by decide) dX7_told_137 (fun _ _ _ h => congrArg List.length h.2.1) ?_
        rintro _ _ _ ⟨rfl, rfl, e9⟩
        refine AW_I e9 ?_
        clear e9
        refine A_iret rfl rfl rfl rfl dX7_told_140 ?_
        subst cq15
        have eg : f_told N (nI i) 7 = q_par N (nI i) := by rw [f_told, if_pos hv, if_neg (by decide), if_neg (by decide), if_neg (by decide), if_neg (by decide), if_neg (by decide), if_neg (by decide), if_neg (by decide), if_pos rfl]
        rw [eg]
        exact ⟨rfl, rfl, fun _ _ => rfl⟩
      | 8, hjsw, cq15 =>
        cases hjsw
        replace cq15 := i_eq cq15 (ic_8)
        refine ⟨141, rfl, ?_⟩
        refine A_aload_n rfl dX7_told_141 ?_
        refine A_getR fr_X7_28.g rfl lay_0 rfl dX7_told_142 ?_
        refine A_getR fr_X7_74 rfl (lj j36) rfl dX7_told_145 ?_
        refine A_iload_n rfl dX7_told_148 ?_
        refine A_iald _ rfl (lj1 j36) (by omega) (by decide) dX7_told_149 ?_
        refine A_aload_n rfl dX7_told_150 ?_
        refine A_getR fr_X7_28.g rfl lay_0 rfl dX7_told_151 ?_
        refine A_getR fr_X7_83 rfl (lj j36) rfl dX7_told_154 ?_
        refine A_iload_n rfl dX7_told_157 ?_
        refine A_iald _ rfl (lj4 j36) (by omega) (by decide) dX7_told_158 ?_
        refine A_callS (s_worth l G _ _ _ _) m_X1_worth ml_X7_99 rfl rfl rfl (Nat.le_of_ble_eq_true rfl) (by decide) (by decide) (by decide) dX7_told_159 (fun _ _ _ h => congrArg List.length h.2.1) ?_
        rintro _ _ _ ⟨rfl, rfl, e9⟩
        refine AW_I e9 ?_
        clear e9
        refine A_iret rfl rfl rfl rfl dX7_told_162 ?_
        subst cq15
        have eg : f_told N (nI i) 8 = q_worth (N (16 + 5 * i)) (N (19 + 5 * i)) := by rw [f_told, if_pos hv, if_neg (by decide), if_neg (by decide), if_neg (by decide), if_neg (by decide), if_neg (by decide), if_neg (by decide), if_neg (by decide), if_neg (by decide), if_pos rfl, nI_clamp (by omega)]
        rw [eg]
        exact ⟨by rw [hR.2.1 i (by omega), hR.2.2.2.2.1 i (by omega)], rfl, fun _ _ => rfl⟩
      | jsw + 9, hjsw, _ => exact absurd hjsw (by simp)
    · skip
      refine A_ldc kc_X7_60 rfl dX7_told_163 ?_
      refine A_iret rfl rfl rfl rfl dX7_told_165 ?_
      have hnw : w ≠ 0 ∧ w ≠ 1 ∧ w ≠ 2 ∧ w ≠ 3 ∧ w ≠ 4 ∧ w ≠ 5 ∧ w ≠ 6 ∧ w ≠ 7 ∧ w ≠ 8 := by rcases cq15 with h9 | h9 <;> refine ⟨fun h => ?_, fun h => ?_, fun h => ?_, fun h => ?_, fun h => ?_, fun h => ?_, fun h => ?_, fun h => ?_, fun h => ?_⟩ <;> (subst h; revert h9; decide)
      have eg : f_told N (nI i) w = -1000000001 := by rw [f_told, if_pos hv, if_neg hnw.1, if_neg hnw.2.1, if_neg hnw.2.2.1, if_neg hnw.2.2.2.1, if_neg hnw.2.2.2.2.1, if_neg hnw.2.2.2.2.2.1, if_neg hnw.2.2.2.2.2.2.1, if_neg hnw.2.2.2.2.2.2.2.1, if_neg hnw.2.2.2.2.2.2.2.2]
      rw [eg]
      exact ⟨rfl, rfl, fun _ _ => rfl⟩
  · skip
    refine A_ldc kc_X7_60 rfl dX7_told_11 ?_
    refine A_iret rfl rfl rfl rfl dX7_told_13 ?_
    have h7 := b2i_q.mp cq8
    rw [hR.1.1] at h7
    have eg : f_told N v w = -1000000001 := by rw [f_told, if_neg h7]
    rw [eg]
    exact ⟨rfl, rfl, fun _ _ => rfl⟩
set_option maxHeartbeats 1000000 in
set_option maxRecDepth 100000 in
theorem m_told (l : Launch) (G : Gm) (I : Hp) (N : Nrow) (h87 : I 87 = N) (n : Nat) (hn : n ≤ 10) (hN : N 1 = nI n) (T : Nat) (hTx : TxJ N T) (v w : Int32) : Meth l G yX8_told cX8_told 3 (some (FieldType.int)) 5 0 0 [.ref 86, .int v, .int w] LAY I (fun r lay1 I1 => r = some (.int (f_told N v w)) ∧ lay1 = LAY ∧ ∀ q, q ≠ 97 → q ≠ 98 → I1 q = I q) := by
  subst h87
  refine Meth.of (by decide +kernel) (by simp [Value.category]) (Nat.le_of_ble_eq_true rfl) ?_
  refine A_aload_n rfl dX8_told_0 ?_
  refine A_iload_n rfl dX8_told_1 ?_
  refine A_callV (t_isJuror l G I _ rfl _ n hn hN) m_X8_isJuror ml_X8_118 rfl lay_86 rfl (by decide) rfl rfl (Nat.le_of_ble_eq_true rfl) (by decide) (by decide) (by decide) dX8_told_2 (fun _ _ _ h => congrArg List.length h.2.1) ?_
  rintro _ _ _ ⟨rfl, rfl, e9⟩
  refine AW_I e9 ?_
  clear e9
  refine A_if_ne 11 rfl dX8_told_5 (fun cq5 => ?_) (fun cq5 => ?_)
  · skip
    have hv := b2i_p.mp cq5
    obtain ⟨i, hi, rfl⟩ := jur_get hn hN hv
    refine A_iload_n rfl dX8_told_11 ?_
    refine A_tsw 103 rfl dX8_told_12 rfl (fun jsw off hjsw cq12 => ?_) (fun cq12 => ?_)
    · match jsw, hjsw, cq12 with
      | 0, hjsw, cq12 =>
        cases hjsw
        replace cq12 := i_eq cq12 (ic_0)
        refine ⟨64, rfl, ?_⟩
        obtain ⟨k, hk, rfl, eqw⟩ : ∃ k, k ≤ 4 ∧ w = nI k ∧ f_told (I 87) (nI i) w = I 87 (16 + k + 5 * i) := by
          first
            | (have h7 : w = 0 := cq12; subst h7; exact ⟨0, by decide, rfl, by rw [f_told, if_pos hv, if_pos rfl, nI_clamp (by omega)]⟩)
            | (have h7 : w = 1 := cq12; subst h7; exact ⟨1, by decide, rfl, by rw [f_told, if_pos hv, if_neg (by decide), if_pos rfl, nI_clamp (by omega)]⟩)
            | (have h7 : w = 2 := cq12; subst h7; exact ⟨2, by decide, rfl, by rw [f_told, if_pos hv, if_neg (by decide), if_neg (by decide), if_pos rfl, nI_clamp (by omega)]⟩)
            | (have h7 : w = 3 := cq12; subst h7; exact ⟨3, by decide, rfl, by rw [f_told, if_pos hv, if_neg (by decide), if_neg (by decide), if_neg (by decide), if_pos rfl, nI_clamp (by omega)]⟩)
            | (have h7 : w = 4 := cq12; subst h7; exact ⟨4, by decide, rfl, by rw [f_told, if_pos hv, if_neg (by decide), if_neg (by decide), if_neg (by decide), if_neg (by decide), if_pos rfl, nI_clamp (by omega)]⟩)
        refine A_aload_n rfl dX8_told_64 ?_
        refine A_iload_n rfl dX8_told_65 ?_
        refine A_iload_n rfl dX8_told_66 ?_
        refine A_callV (t_of l G I _ rfl i k (by omega)) m_X8_of ml_X8_94 rfl lay_86 rfl (by decide) rfl rfl (Nat.le_of_ble_eq_true rfl) (by decide) (by decide) (by decide) dX8_told_67 (fun _ _ _ h => congrArg List.length h.2.1) ?_
        rintro _ _ _ ⟨rfl, rfl, e9⟩
        refine AW_I e9 ?_
        clear e9
        refine A_iret rfl rfl rfl rfl dX8_told_70 ?_
        rw [eqw]
        exact ⟨rfl, rfl, fun _ _ _ => rfl⟩
      | 1, hjsw, cq12 =>
        cases hjsw
        replace cq12 := i_eq cq12 (ic_1)
        refine ⟨64, rfl, ?_⟩
        obtain ⟨k, hk, rfl, eqw⟩ : ∃ k, k ≤ 4 ∧ w = nI k ∧ f_told (I 87) (nI i) w = I 87 (16 + k + 5 * i) := by
          first
            | (have h7 : w = 0 := cq12; subst h7; exact ⟨0, by decide, rfl, by rw [f_told, if_pos hv, if_pos rfl, nI_clamp (by omega)]⟩)
            | (have h7 : w = 1 := cq12; subst h7; exact ⟨1, by decide, rfl, by rw [f_told, if_pos hv, if_neg (by decide), if_pos rfl, nI_clamp (by omega)]⟩)
            | (have h7 : w = 2 := cq12; subst h7; exact ⟨2, by decide, rfl, by rw [f_told, if_pos hv, if_neg (by decide), if_neg (by decide), if_pos rfl, nI_clamp (by omega)]⟩)
            | (have h7 : w = 3 := cq12; subst h7; exact ⟨3, by decide, rfl, by rw [f_told, if_pos hv, if_neg (by decide), if_neg (by decide), if_neg (by decide), if_pos rfl, nI_clamp (by omega)]⟩)
            | (have h7 : w = 4 := cq12; subst h7; exact ⟨4, by decide, rfl, by rw [f_told, if_pos hv, if_neg (by decide), if_neg (by decide), if_neg (by decide), if_neg (by decide), if_pos rfl, nI_clamp (by omega)]⟩)
        refine A_aload_n rfl dX8_told_64 ?_
        refine A_iload_n rfl dX8_told_65 ?_
        refine A_iload_n rfl dX8_told_66 ?_
        refine A_callV (t_of l G I _ rfl i k (by omega)) m_X8_of ml_X8_94 rfl lay_86 rfl (by decide) rfl rfl (Nat.le_of_ble_eq_true rfl) (by decide) (by decide) (by decide) dX8_told_67 (fun _ _ _ h => congrArg List.length h.2.1) ?_
        rintro _ _ _ ⟨rfl, rfl, e9⟩
        refine AW_I e9 ?_
        clear e9
        refine A_iret rfl rfl rfl rfl dX8_told_70 ?_
        rw [eqw]
        exact ⟨rfl, rfl, fun _ _ _ => rfl⟩
      | 2, hjsw, cq12 =>
        cases hjsw
        replace cq12 := i_eq cq12 (ic_2)
        refine ⟨64, rfl, ?_⟩
        obtain ⟨k, hk, rfl, eqw⟩ : ∃ k, k ≤ 4 ∧ w = nI k ∧ f_told (I 87) (nI i) w = I 87 (16 + k + 5 * i) := by
          first
            | (have h7 : w = 0 := cq12; subst h7; exact ⟨0, by decide, rfl, by rw [f_told, if_pos hv, if_pos rfl, nI_clamp (by omega)]⟩)
            | (have h7 : w = 1 := cq12; subst h7; exact ⟨1, by decide, rfl, by rw [f_told, if_pos hv, if_neg (by decide), if_pos rfl, nI_clamp (by omega)]⟩)
            | (have h7 : w = 2 := cq12; subst h7; exact ⟨2, by decide, rfl, by rw [f_told, if_pos hv, if_neg (by decide), if_neg (by decide), if_pos rfl, nI_clamp (by omega)]⟩)
            | (have h7 : w = 3 := cq12; subst h7; exact ⟨3, by decide, rfl, by rw [f_told, if_pos hv, if_neg (by decide), if_neg (by decide), if_neg (by decide), if_pos rfl, nI_clamp (by omega)]⟩)
            | (have h7 : w = 4 := cq12; subst h7; exact ⟨4, by decide, rfl, by rw [f_told, if_pos hv, if_neg (by decide), if_neg (by decide), if_neg (by decide), if_neg (by decide), if_pos rfl, nI_clamp (by omega)]⟩)
        refine A_aload_n rfl dX8_told_64 ?_
        refine A_iload_n rfl dX8_told_65 ?_
        refine A_iload_n rfl dX8_told_66 ?_
        refine A_callV (t_of l G I _ rfl i k (by omega)) m_X8_of ml_X8_94 rfl lay_86 rfl (by decide) rfl rfl (Nat.le_of_ble_eq_true rfl) (by decide) (by decide) (by decide) dX8_told_67 (fun _ _ _ h => congrArg List.length h.2.1) ?_
        rintro _ _ _ ⟨rfl, rfl, e9⟩
        refine AW_I e9 ?_
        clear e9
        refine A_iret rfl rfl rfl rfl dX8_told_70 ?_
        rw [eqw]
        exact ⟨rfl, rfl, fun _ _ _ => rfl⟩
      | 3, hjsw, cq12 =>
        cases hjsw
        replace cq12 := i_eq cq12 (ic_3)
        refine ⟨64, rfl, ?_⟩
        obtain ⟨k, hk, rfl, eqw⟩ : ∃ k, k ≤ 4 ∧ w = nI k ∧ f_told (I 87) (nI i) w = I 87 (16 + k + 5 * i) := by
          first
            | (have h7 : w = 0 := cq12; subst h7; exact ⟨0, by decide, rfl, by rw [f_told, if_pos hv, if_pos rfl, nI_clamp (by omega)]⟩)
            | (have h7 : w = 1 := cq12; subst h7; exact ⟨1, by decide, rfl, by rw [f_told, if_pos hv, if_neg (by decide), if_pos rfl, nI_clamp (by omega)]⟩)
            | (have h7 : w = 2 := cq12; subst h7; exact ⟨2, by decide, rfl, by rw [f_told, if_pos hv, if_neg (by decide), if_neg (by decide), if_pos rfl, nI_clamp (by omega)]⟩)
            | (have h7 : w = 3 := cq12; subst h7; exact ⟨3, by decide, rfl, by rw [f_told, if_pos hv, if_neg (by decide), if_neg (by decide), if_neg (by decide), if_pos rfl, nI_clamp (by omega)]⟩)
            | (have h7 : w = 4 := cq12; subst h7; exact ⟨4, by decide, rfl, by rw [f_told, if_pos hv, if_neg (by decide), if_neg (by decide), if_neg (by decide), if_neg (by decide), if_pos rfl, nI_clamp (by omega)]⟩)
        refine A_aload_n rfl dX8_told_64 ?_
        refine A_iload_n rfl dX8_told_65 ?_
        refine A_iload_n rfl dX8_told_66 ?_
        refine A_callV (t_of l G I _ rfl i k (by omega)) m_X8_of ml_X8_94 rfl lay_86 rfl (by decide) rfl rfl (Nat.le_of_ble_eq_true rfl) (by decide) (by decide) (by decide) dX8_told_67 (fun _ _ _ h => congrArg List.length h.2.1) ?_
        rintro _ _ _ ⟨rfl, rfl, e9⟩
        refine AW_I e9 ?_
        clear e9
        refine A_iret rfl rfl rfl rfl dX8_told_70 ?_
        rw [eqw]
        exact ⟨rfl, rfl, fun _ _ _ => rfl⟩
      | 4, hjsw, cq12 =>
        cases hjsw
        replace cq12 := i_eq cq12 (ic_4)
        refine ⟨64, rfl, ?_⟩
        obtain ⟨k, hk, rfl, eqw⟩ : ∃ k, k ≤ 4 ∧ w = nI k ∧ f_told (I 87) (nI i) w = I 87 (16 + k + 5 * i) := by
          first
            | (have h7 : w = 0 := cq12; subst h7; exact ⟨0, by decide, rfl, by rw [f_told, if_pos hv, if_pos rfl, nI_clamp (by omega)]⟩)
            | (have h7 : w = 1 := cq12; subst h7; exact ⟨1, by decide, rfl, by rw [f_told, if_pos hv, if_neg (by decide), if_pos rfl, nI_clamp (by omega)]⟩)
            | (have h7 : w = 2 := cq12; subst h7; exact ⟨2, by decide, rfl, by rw [f_told, if_pos hv, if_neg (by decide), if_neg (by decide), if_pos rfl, nI_clamp (by omega)]⟩)
            | (have h7 : w = 3 := cq12; subst h7; exact ⟨3, by decide, rfl, by rw [f_told, if_pos hv, if_neg (by decide), if_neg (by decide), if_neg (by decide), if_pos rfl, nI_clamp (by omega)]⟩)
            | (have h7 : w = 4 := cq12; subst h7; exact ⟨4, by decide, rfl, by rw [f_told, if_pos hv, if_neg (by decide), if_neg (by decide), if_neg (by decide), if_neg (by decide), if_pos rfl, nI_clamp (by omega)]⟩)
        refine A_aload_n rfl dX8_told_64 ?_
        refine A_iload_n rfl dX8_told_65 ?_
        refine A_iload_n rfl dX8_told_66 ?_
        refine A_callV (t_of l G I _ rfl i k (by omega)) m_X8_of ml_X8_94 rfl lay_86 rfl (by decide) rfl rfl (Nat.le_of_ble_eq_true rfl) (by decide) (by decide) (by decide) dX8_told_67 (fun _ _ _ h => congrArg List.length h.2.1) ?_
        rintro _ _ _ ⟨rfl, rfl, e9⟩
        refine AW_I e9 ?_
        clear e9
        refine A_iret rfl rfl rfl rfl dX8_told_70 ?_
        rw [eqw]
        exact ⟨rfl, rfl, fun _ _ _ => rfl⟩
      | 5, hjsw, cq12 =>
        cases hjsw
        replace cq12 := i_eq cq12 (ic_5)
        refine ⟨71, rfl, ?_⟩
        refine A_aload_n rfl dX8_told_71 ?_
        refine A_iload_n rfl dX8_told_72 ?_
        refine A_callV (t_bel l G I _ rfl i (by omega) T hTx) m_X8_believesOf ml_X8_115 rfl lay_86 rfl (by decide) rfl rfl (Nat.le_of_ble_eq_true rfl) (by decide) (by decide) (by decide) dX8_told_73 (fun _ _ _ h => congrArg List.length h.2.1) ?_
        rintro _ _ K2 ⟨rfl, rfl, hf2⟩
        refine A_iret rfl rfl rfl rfl dX8_told_76 ?_
        subst cq12
        have eg : f_told (I 87) (nI i) 5 = q_bel (I 87) i := by rw [f_told, if_pos hv, if_neg (by decide), if_neg (by decide), if_neg (by decide), if_neg (by decide), if_neg (by decide), if_pos rfl, nI_clamp (by omega)]
        rw [eg]
        exact ⟨rfl, rfl, hf2⟩
      | 6, hjsw, cq12 =>
        cases hjsw
        replace cq12 := i_eq cq12 (ic_6)
        refine ⟨77, rfl, ?_⟩
        refine A_aload_n rfl dX8_told_77 ?_
        refine A_iload_n rfl dX8_told_78 ?_
        refine A_callV (t_gui l G I _ rfl i (by omega) T hTx) m_X8_isGuilty ml_X8_122 rfl lay_86 rfl (by decide) rfl rfl (Nat.le_of_ble_eq_true rfl) (by decide) (by decide) (by decide) dX8_told_79 (fun _ _ _ h => congrArg List.length h.2.1) ?_
        rintro _ _ K2 ⟨rfl, rfl, hf2⟩
        refine A_if_eq 89 rfl dX8_told_82 (fun cq82 => ?_) (fun cq82 => ?_)
        · skip
          refine A_iconst ic_0 dX8_told_89 ?_
          refine A_iret rfl rfl rfl rfl dX8_told_90 ?_
          subst cq12
          have eg : f_told (I 87) (nI i) 6 = b2i (q_gui (I 87) i) := by rw [f_told, if_pos hv, if_neg (by decide), if_neg (by decide), if_neg (by decide), if_neg (by decide), if_neg (by decide), if_neg (by decide), if_pos rfl, nI_clamp (by omega)]
          rw [eg]
          exact ⟨by first | (have h7 := b2i_0.mp cq82; rw [h7]; rfl) | (have h7 := b2i_1.mp cq82; rw [h7]; rfl), rfl, hf2⟩
        · skip
          refine A_iconst ic_1 dX8_told_85 ?_
          refine A_goto 90 rfl dX8_told_86 ?_
          refine A_iret rfl rfl rfl rfl dX8_told_90 ?_
          subst cq12
          have eg : f_told (I 87) (nI i) 6 = b2i (q_gui (I 87) i) := by rw [f_told, if_pos hv, if_neg (by decide), if_neg (by decide), if_neg (by decide), if_neg (by decide), if_neg (by decide), if_neg (by decide), if_pos rfl, nI_clamp (by omega)]
          rw [eg]
          exact ⟨by first | (have h7 := b2i_0.mp cq82; rw [h7]; rfl) | (have h7 := b2i_1.mp cq82; rw [h7]; rfl), rfl, hf2⟩
      | 7, hjsw, cq12 =>
        cases hjsw
        replace cq12 := i_eq cq12 (ic_7)
        refine ⟨91, rfl, ?_⟩
        refine A_aload_n rfl dX8_told_91 ?_
        refine A_iload_n rfl dX8_told_92 ?_
        refine A_callV (t_par l G I _ rfl n (by omega) hn hN _) m_X8_partnerOf ml_X8_125 rfl lay_86 rfl (by decide) rfl rfl (Nat.le_of_ble_eq_true rfl) (by decide) (by decide) (by decide) dX8_told_93 (fun _ _ _ h => congrArg List.length h.2.1) ?_
        rintro _ _ _ ⟨rfl, rfl, e9⟩
        refine AW_I e9 ?_
        clear e9
        refine A_iret rfl rfl rfl rfl dX8_told_96 ?_
        subst cq12
        have eg : f_told (I 87) (nI i) 7 = q_par (I 87) (nI i) := by rw [f_told, if_pos hv, if_neg (by decide), if_neg (by decide), if_neg (by decide), if_neg (by decide), if_neg (by decide), if_neg (by decide), if_neg (by decide), if_pos rfl]
        rw [eg]
        exact ⟨rfl, rfl, fun _ _ _ => rfl⟩
      | 8, hjsw, cq12 =>
        cases hjsw
        replace cq12 := i_eq cq12 (ic_8)
        refine ⟨97, rfl, ?_⟩
        refine A_aload_n rfl dX8_told_97 ?_
        refine A_iload_n rfl dX8_told_98 ?_
        refine A_callV (t_worth l G I _ rfl i (by omega)) m_X8_worthOf ml_X8_128 rfl lay_86 rfl (by decide) rfl rfl (Nat.le_of_ble_eq_true rfl) (by decide) (by decide) (by decide) dX8_told_99 (fun _ _ _ h => congrArg List.length h.2.1) ?_
        rintro _ _ _ ⟨rfl, rfl, e9⟩
        refine AW_I e9 ?_
        clear e9
        refine A_iret rfl rfl rfl rfl dX8_told_102 ?_
        subst cq12
        have eg : f_told (I 87) (nI i) 8 = q_worth (I 87 (16 + 5 * i)) (I 87 (19 + 5 * i)) := by rw [f_told, if_pos hv, if_neg (by decide), if_neg (by decide), if_neg (by decide), if_neg (by decide), if_neg (by decide), if_neg (by decide), if_neg (by decide), if_neg (by decide), if_pos rfl, nI_clamp (by omega)]
        rw [eg]
        exact ⟨rfl, rfl, fun _ _ _ => rfl⟩
      | jsw + 9, hjsw, _ => exact absurd hjsw (by simp)
    · skip
      refine A_ldc kc_X8_88 rfl dX8_told_103 ?_
      refine A_iret rfl rfl rfl rfl dX8_told_105 ?_
      have hnw : w ≠ 0 ∧ w ≠ 1 ∧ w ≠ 2 ∧ w ≠ 3 ∧ w ≠ 4 ∧ w ≠ 5 ∧ w ≠ 6 ∧ w ≠ 7 ∧ w ≠ 8 := by rcases cq12 with h9 | h9 <;> refine ⟨fun h => ?_, fun h => ?_, fun h => ?_, fun h => ?_, fun h => ?_, fun h => ?_, fun h => ?_, fun h => ?_, fun h => ?_⟩ <;> (subst h; revert h9; decide)
      have eg : f_told (I 87) (nI i) w = -1000000001 := by rw [f_told, if_pos hv, if_neg hnw.1, if_neg hnw.2.1, if_neg hnw.2.2.1, if_neg hnw.2.2.2.1, if_neg hnw.2.2.2.2.1, if_neg hnw.2.2.2.2.2.1, if_neg hnw.2.2.2.2.2.2.1, if_neg hnw.2.2.2.2.2.2.2.1, if_neg hnw.2.2.2.2.2.2.2.2]
      rw [eg]
      exact ⟨rfl, rfl, fun _ _ _ => rfl⟩
  · skip
    refine A_ldc kc_X8_88 rfl dX8_told_8 ?_
    refine A_iret rfl rfl rfl rfl dX8_told_10 ?_
    have eg : f_told (I 87) v w = -1000000001 := by rw [f_told, if_neg (b2i_q.mp cq5)]
    rw [eg]
    exact ⟨rfl, rfl, fun _ _ _ => rfl⟩
def f_tells (N : Nrow) (v w : Int32) : Int32 := if (0 ≤ v ∧ v < N 1) ∧ (0 ≤ w ∧ w < N 1) ∧ v ≠ w then (if q_tell N (-1) v.toNatClampNeg w.toNatClampNeg < 0 then -1000000005 else q_tell N (-1) v.toNatClampNeg w.toNatClampNeg) else -1000000001
theorem tb_8 : ∀ f, f < 8 → ¬ q_tb (nI f) = 0 ∧ bcF (q_tb (nI f) - 1) = nI f := by decide +kernel
theorem nI_nm1 {a : Nat} (h : a < 2 ^ 31) : ¬ nI a = -1 := fun e => absurd (nI_pos' h) (by rw [e]; decide)
set_option maxHeartbeats 1000000 in
set_option maxRecDepth 100000 in
theorem c_tells (l : Launch) (G : Gm) (I : Hp) (N : Nrow) (n : Nat) (hn : n ≤ 10) (hN : N 1 = nI n) (hR : RepJ I 36 N) (hK : KnJ N) (v w : Int32) : Meth l G yX7_tells cX7_tells 4 (some (FieldType.int)) 3 0 0 [.ref 0, .int v, .int w] LAY I (fun r lay1 I1 => r = some (.int (f_tells N v w)) ∧ lay1 = LAY ∧ I1 = I) := by
  refine Meth.of (by decide +kernel) (by simp [Value.category]) (Nat.le_of_ble_eq_true rfl) ?_
  refine A_aload_n rfl dX7_tells_0 ?_
  refine A_getR fr_X7_28.g rfl lay_0 rfl dX7_tells_1 ?_
  refine A_iload_n rfl dX7_tells_4 ?_
  refine A_callV (s_has l G 36 j36 I _) m_X0_has ml_X7_70 rfl (lj j36) rfl (by decide) rfl rfl (Nat.le_of_ble_eq_true rfl) (by decide) (by decide) (by decide) dX7_tells_5 (fun _ _ _ h => congrArg List.length h.2.1) ?_
  rintro _ _ _ ⟨rfl, rfl, e9⟩
  refine AW_I e9 ?_
  clear e9
  refine A_if_eq 27 rfl dX7_tells_8 (fun cq8 => ?_) (fun cq8 => ?_)
  · skip
    refine A_ldc kc_X7_60 rfl dX7_tells_27 ?_
    refine A_iret rfl rfl rfl rfl dX7_tells_29 ?_
    have hno : ¬ ((0 ≤ v ∧ v < N 1) ∧ (0 ≤ w ∧ w < N 1) ∧ v ≠ w) := by
      rw [← hR.1.1]
      first
        | (have h7 := b2i_q.mp cq8; exact fun h9 => h7 h9.1)
        | (have h7 := b2i_q.mp cq19; exact fun h9 => h7 h9.2.1)
        | (have h7 : v = w := cq24; exact fun h9 => h9.2.2 h7)
    rw [f_tells, if_neg hno]
    exact ⟨rfl, rfl, rfl⟩
  · skip
    refine A_aload_n rfl dX7_tells_11 ?_
    refine A_getR fr_X7_28.g rfl lay_0 rfl dX7_tells_12 ?_
    refine A_iload_n rfl dX7_tells_15 ?_
    refine A_callV (s_has l G 36 j36 I _) m_X0_has ml_X7_70 rfl (lj j36) rfl (by decide) rfl rfl (Nat.le_of_ble_eq_true rfl) (by decide) (by decide) (by decide) dX7_tells_16 (fun _ _ _ h => congrArg List.length h.2.1) ?_
    rintro _ _ _ ⟨rfl, rfl, e9⟩
    refine AW_I e9 ?_
    clear e9
    refine A_if_eq 27 rfl dX7_tells_19 (fun cq19 => ?_) (fun cq19 => ?_)
    · skip
      refine A_ldc kc_X7_60 rfl dX7_tells_27 ?_
      refine A_iret rfl rfl rfl rfl dX7_tells_29 ?_
      have hno : ¬ ((0 ≤ v ∧ v < N 1) ∧ (0 ≤ w ∧ w < N 1) ∧ v ≠ w) := by
        rw [← hR.1.1]
        first
          | (have h7 := b2i_q.mp cq8; exact fun h9 => h7 h9.1)
          | (have h7 := b2i_q.mp cq19; exact fun h9 => h7 h9.2.1)
          | (have h7 : v = w := cq24; exact fun h9 => h9.2.2 h7)
      rw [f_tells, if_neg hno]
      exact ⟨rfl, rfl, rfl⟩
    · skip
      refine A_iload_n rfl dX7_tells_22 ?_
      refine A_iload_n rfl dX7_tells_23 ?_
      refine A_icmp_ne 30 rfl dX7_tells_24 (fun cq24 => ?_) (fun cq24 => ?_)
      · skip
        have hok : (0 ≤ v ∧ v < N 1) ∧ (0 ≤ w ∧ w < N 1) ∧ v ≠ w := ⟨by rw [← hR.1.1]; exact b2i_p.mp cq8, by rw [← hR.1.1]; exact b2i_p.mp cq19, cq24⟩
        obtain ⟨i, hi, rfl⟩ := jur_get hn hN hok.1
        obtain ⟨j, hj, rfl⟩ := jur_get hn hN hok.2.1
        refine A_aload_n rfl dX7_tells_30 ?_
        refine A_getR fr_X7_28.g rfl lay_0 rfl dX7_tells_31 ?_
        refine A_iload_n rfl dX7_tells_34 ?_
        refine A_iload_n rfl dX7_tells_35 ?_
        refine A_callS (s_passes l G 36 j36 I N hR i j (by omega) (by omega) (-1) (nI_nm1 (by omega)) hK) m_X1_passes ml_X7_105 rfl rfl rfl (Nat.le_of_ble_eq_true rfl) (by decide) (by decide) (by decide) dX7_tells_36 (fun _ _ _ h => congrArg List.length h.2.1) ?_
        rintro _ _ _ ⟨rfl, rfl, e9⟩
        refine AW_I e9 ?_
        clear e9
        refine A_istore_n (by decide) rfl dX7_tells_39 ?_
        refine A_iload_n rfl dX7_tells_40 ?_
        refine A_if_ne 49 rfl dX7_tells_41 (fun cq41 => ?_) (fun cq41 => ?_)
        · skip
          refine A_iload_n rfl dX7_tells_49 ?_
          refine A_iconst ic_1 dX7_tells_50 ?_
          refine A_isub dX7_tells_51 ?_
          refine A_callS (s_bc l G _ _ _) m_J6_bitCount_0f7a4 ml_X7_110 rfl rfl rfl (Nat.le_of_ble_eq_true rfl) (by decide) (by decide) (by decide) dX7_tells_52 (fun _ _ _ h => congrArg List.length h.2.1) ?_
          rintro _ _ _ ⟨rfl, rfl, e9⟩
          refine AW_I e9 ?_
          clear e9
          refine A_iret rfl rfl rfl rfl dX7_tells_55 ?_
          rw [f_tells, if_pos hok, nI_clamp (by omega), nI_clamp (by omega)]
          rcases tell_in N (-1) i j with h6 | ⟨f, h5, h6⟩ <;> rw [h6] at cq41 ⊢
          · first | (have h7 : ¬ q_tb (-1) = 0 := cq41; exact absurd (by decide) h7) | (rw [if_pos (by decide)]; exact ⟨rfl, rfl, rfl⟩)
          · first | (have h7 : q_tb (nI f) = 0 := cq41; exact absurd h7 (tb_8 f h5).1) | (rw [if_neg (nI_pos (by omega)), (tb_8 f h5).2]; exact ⟨rfl, rfl, rfl⟩)
        · skip
          refine A_ldc kc_X7_109 rfl dX7_tells_44 ?_
          refine A_goto 55 rfl dX7_tells_46 ?_
          refine A_iret rfl rfl rfl rfl dX7_tells_55 ?_
          rw [f_tells, if_pos hok, nI_clamp (by omega), nI_clamp (by omega)]
          rcases tell_in N (-1) i j with h6 | ⟨f, h5, h6⟩ <;> rw [h6] at cq41 ⊢
          · first | (have h7 : ¬ q_tb (-1) = 0 := cq41; exact absurd (by decide) h7) | (rw [if_pos (by decide)]; exact ⟨rfl, rfl, rfl⟩)
          · first | (have h7 : q_tb (nI f) = 0 := cq41; exact absurd h7 (tb_8 f h5).1) | (rw [if_neg (nI_pos (by omega)), (tb_8 f h5).2]; exact ⟨rfl, rfl, rfl⟩)
      · skip
        refine A_ldc kc_X7_60 rfl dX7_tells_27 ?_
        refine A_iret rfl rfl rfl rfl dX7_tells_29 ?_
        have hno : ¬ ((0 ≤ v ∧ v < N 1) ∧ (0 ≤ w ∧ w < N 1) ∧ v ≠ w) := by
          rw [← hR.1.1]
          first
            | (have h7 := b2i_q.mp cq8; exact fun h9 => h7 h9.1)
            | (have h7 := b2i_q.mp cq19; exact fun h9 => h7 h9.2.1)
            | (have h7 : v = w := cq24; exact fun h9 => h9.2.2 h7)
        rw [f_tells, if_neg hno]
        exact ⟨rfl, rfl, rfl⟩
set_option maxHeartbeats 1000000 in
set_option maxRecDepth 100000 in
theorem m_tells (l : Launch) (G : Gm) (I : Hp) (N : Nrow) (h87 : I 87 = N) (n : Nat) (hn : n ≤ 10) (hN : N 1 = nI n) (hsil : I 86 4 = -1) (v w : Int32) : Meth l G yX8_tells cX8_tells 3 (some (FieldType.int)) 3 0 0 [.ref 86, .int v, .int w] LAY I (fun r lay1 I1 => r = some (.int (f_tells N v w)) ∧ lay1 = LAY ∧ I1 = I) := by
  subst h87
  refine Meth.of (by decide +kernel) (by simp [Value.category]) (Nat.le_of_ble_eq_true rfl) ?_
  refine A_aload_n rfl dX8_tells_0 ?_
  refine A_iload_n rfl dX8_tells_1 ?_
  refine A_callV (t_isJuror l G I _ rfl _ n hn hN) m_X8_isJuror ml_X8_118 rfl lay_86 rfl (by decide) rfl rfl (Nat.le_of_ble_eq_true rfl) (by decide) (by decide) (by decide) dX8_tells_2 (fun _ _ _ h => congrArg List.length h.2.1) ?_
  rintro _ _ _ ⟨rfl, rfl, e9⟩
  refine AW_I e9 ?_
  clear e9
  refine A_if_eq 33 rfl dX8_tells_5 (fun cq5 => ?_) (fun cq5 => ?_)
  · skip
    refine A_ldc kc_X8_88 rfl dX8_tells_33 ?_
    refine A_iret rfl rfl rfl rfl dX8_tells_35 ?_
    first
      | (have h7 := b2i_q.mp cq5; rw [f_tells, if_neg (fun h9 => h7 h9.1)]; exact ⟨rfl, rfl, rfl⟩)
      | (have h7 := b2i_q.mp cq13; rw [f_tells, if_neg (fun h9 => h7 h9.2.1)]; exact ⟨rfl, rfl, rfl⟩)
      | (have h7 : v = w := cq18; rw [f_tells, if_neg (fun h9 => h9.2.2 h7)]; exact ⟨rfl, rfl, rfl⟩)
      | (rw [f_tells, if_pos hok, nI_clamp (by omega), nI_clamp (by omega)]; exact ⟨rfl, rfl, rfl⟩)
  · skip
    refine A_aload_n rfl dX8_tells_8 ?_
    refine A_iload_n rfl dX8_tells_9 ?_
    refine A_callV (t_isJuror l G I _ rfl _ n hn hN) m_X8_isJuror ml_X8_118 rfl lay_86 rfl (by decide) rfl rfl (Nat.le_of_ble_eq_true rfl) (by decide) (by decide) (by decide) dX8_tells_10 (fun _ _ _ h => congrArg List.length h.2.1) ?_
    rintro _ _ _ ⟨rfl, rfl, e9⟩
    refine AW_I e9 ?_
    clear e9
    refine A_if_eq 33 rfl dX8_tells_13 (fun cq13 => ?_) (fun cq13 => ?_)
    · skip
      refine A_ldc kc_X8_88 rfl dX8_tells_33 ?_
      refine A_iret rfl rfl rfl rfl dX8_tells_35 ?_
      first
        | (have h7 := b2i_q.mp cq5; rw [f_tells, if_neg (fun h9 => h7 h9.1)]; exact ⟨rfl, rfl, rfl⟩)
        | (have h7 := b2i_q.mp cq13; rw [f_tells, if_neg (fun h9 => h7 h9.2.1)]; exact ⟨rfl, rfl, rfl⟩)
        | (have h7 : v = w := cq18; rw [f_tells, if_neg (fun h9 => h9.2.2 h7)]; exact ⟨rfl, rfl, rfl⟩)
        | (rw [f_tells, if_pos hok, nI_clamp (by omega), nI_clamp (by omega)]; exact ⟨rfl, rfl, rfl⟩)
    · skip
      refine A_iload_n rfl dX8_tells_16 ?_
      refine A_iload_n rfl dX8_tells_17 ?_
      refine A_icmp_eq 33 rfl dX8_tells_18 (fun cq18 => ?_) (fun cq18 => ?_)
      · skip
        refine A_ldc kc_X8_88 rfl dX8_tells_33 ?_
        refine A_iret rfl rfl rfl rfl dX8_tells_35 ?_
        first
          | (have h7 := b2i_q.mp cq5; rw [f_tells, if_neg (fun h9 => h7 h9.1)]; exact ⟨rfl, rfl, rfl⟩)
          | (have h7 := b2i_q.mp cq13; rw [f_tells, if_neg (fun h9 => h7 h9.2.1)]; exact ⟨rfl, rfl, rfl⟩)
          | (have h7 : v = w := cq18; rw [f_tells, if_neg (fun h9 => h9.2.2 h7)]; exact ⟨rfl, rfl, rfl⟩)
          | (rw [f_tells, if_pos hok, nI_clamp (by omega), nI_clamp (by omega)]; exact ⟨rfl, rfl, rfl⟩)
      · skip
        have hok : (0 ≤ v ∧ v < I 87 1) ∧ (0 ≤ w ∧ w < I 87 1) ∧ v ≠ w := ⟨b2i_p.mp cq5, b2i_p.mp cq13, cq18⟩
        obtain ⟨i, hi, rfl⟩ := jur_get hn hN hok.1
        obtain ⟨j, hj, rfl⟩ := jur_get hn hN hok.2.1
        refine A_aload_n rfl dX8_tells_21 ?_
        refine A_iload_n rfl dX8_tells_22 ?_
        refine A_iload_n rfl dX8_tells_23 ?_
        refine A_callV (t_tell l G I _ rfl (-1) hsil i j (by omega) (by omega)) m_X8_tellsOf ml_X8_131 rfl lay_86 rfl (by decide) rfl rfl (Nat.le_of_ble_eq_true rfl) (by decide) (by decide) (by decide) dX8_tells_24 (fun _ _ _ h => congrArg List.length h.2.1) ?_
        rintro _ _ _ ⟨rfl, rfl, e9⟩
        refine AW_I e9 ?_
        clear e9
        refine A_callS (s_told0 l G _ _ _) m_X8_told0 ml_X8_134 rfl rfl rfl (Nat.le_of_ble_eq_true rfl) (by decide) (by decide) (by decide) dX8_tells_27 (fun _ _ _ h => congrArg List.length h.2.1) ?_
        rintro _ _ _ ⟨rfl, rfl, e9⟩
        refine AW_I e9 ?_
        clear e9
        refine A_goto 35 rfl dX8_tells_30 ?_
        refine A_iret rfl rfl rfl rfl dX8_tells_35 ?_
        first
          | (have h7 := b2i_q.mp cq5; rw [f_tells, if_neg (fun h9 => h7 h9.1)]; exact ⟨rfl, rfl, rfl⟩)
          | (have h7 := b2i_q.mp cq13; rw [f_tells, if_neg (fun h9 => h7 h9.2.1)]; exact ⟨rfl, rfl, rfl⟩)
          | (have h7 : v = w := cq18; rw [f_tells, if_neg (fun h9 => h9.2.2 h7)]; exact ⟨rfl, rfl, rfl⟩)
          | (rw [f_tells, if_pos hok, nI_clamp (by omega), nI_clamp (by omega)]; exact ⟨rfl, rfl, rfl⟩)
def f_jury (N : Nrow) (n : Nat) (w : Int32) : Int32 := if w = 0 then q_com N n else if w = 1 then q_vo N n else if w = 2 then N 6 else if w = 3 then q_kn N n else if w = 4 then q_any N n else -1000000001
set_option maxHeartbeats 1000000 in
set_option maxRecDepth 100000 in
theorem c_jury (l : Launch) (G : Gm) (I : Hp) (N : Nrow) (n : Nat) (hn : n ≤ 10) (hN : N 1 = nI n) (hR : RepJ I 36 N) (T : Nat) (hK : KnJ N) (hTx : TxJ N T) (hLw : LwR I N T) (hDo : DoJ N) (w : Int32) : Meth l G yX7_jury cX7_jury 2 (some (FieldType.int)) 7 0 0 [.ref 0, .int w] LAY I (fun r lay1 I1 => r = some (.int (f_jury N n w)) ∧ lay1 = LAY ∧ ∀ q, q ≠ 2 → I1 q = I q) := by
  refine Meth.of (by decide +kernel) (by simp [Value.category]) (Nat.le_of_ble_eq_true rfl) ?_
  refine A_iload_n rfl dX7_jury_0 ?_
  refine A_tsw 76 rfl dX7_jury_1 rfl (fun jsw off hjsw cq1 => ?_) (fun cq1 => ?_)
  · match jsw, hjsw, cq1 with
    | 0, hjsw, cq1 =>
      cases hjsw
      replace cq1 := i_eq cq1 (ic_0)
      refine ⟨36, rfl, ?_⟩
      refine A_aload_n rfl dX7_jury_36 ?_
      refine A_getR fr_X7_28.g rfl lay_0 rfl dX7_jury_37 ?_
      refine A_callV (s_com l G 36 j36 I N n hn hN hR) m_X0_common ml_X7_159 rfl (lj j36) rfl (by decide) rfl rfl (Nat.le_of_ble_eq_true rfl) (by decide) (by decide) (by decide) dX7_jury_40 (fun _ _ _ h => congrArg List.length h.2.1) ?_
      rintro _ _ _ ⟨rfl, rfl, e9⟩
      refine AW_I e9 ?_
      clear e9
      refine A_iret rfl rfl rfl rfl dX7_jury_43 ?_
      subst cq1
      have eg : f_jury N n 0 = q_com N n := by rw [f_jury, if_pos rfl]
      rw [eg]
      exact ⟨rfl, rfl, fun _ _ => rfl⟩
    | 1, hjsw, cq1 =>
      cases hjsw
      replace cq1 := i_eq cq1 (ic_1)
      refine ⟨44, rfl, ?_⟩
      refine A_aload_n rfl dX7_jury_44 ?_
      refine A_getR fr_X7_28.g rfl lay_0 rfl dX7_jury_45 ?_
      refine A_callV (s_vo l G 36 j36 I N T hR hK hTx hLw hDo n hn hN) m_X0_votes ml_X7_163 rfl (lj j36) rfl (by decide) rfl rfl (Nat.le_of_ble_eq_true rfl) (by decide) (by decide) (by decide) dX7_jury_48 (fun _ _ _ h => congrArg List.length h.2.1) ?_
      rintro _ _ K2 ⟨rfl, rfl, hf2⟩
      refine A_iret rfl rfl rfl rfl dX7_jury_51 ?_
      subst cq1
      have eg : f_jury N n 1 = q_vo N n := by rw [f_jury, if_neg (by decide), if_pos rfl]
      rw [eg]
      exact ⟨rfl, rfl, hf2⟩
    | 2, hjsw, cq1 =>
      cases hjsw
      replace cq1 := i_eq cq1 (ic_2)
      refine ⟨52, rfl, ?_⟩
      refine A_aload_n rfl dX7_jury_52 ?_
      refine A_getR fr_X7_28.g rfl lay_0 rfl dX7_jury_53 ?_
      refine A_getI fr_X7_166.g rfl (lj j36) dX7_jury_56 ?_
      refine A_iret rfl rfl rfl rfl dX7_jury_59 ?_
      subst cq1
      have eg : f_jury N n 2 = N 6 := by rw [f_jury, if_neg (by decide), if_neg (by decide), if_pos rfl]
      rw [eg]
      exact ⟨by rw [hR.1.2.2.2.2.1], rfl, fun _ _ => rfl⟩
    | 3, hjsw, cq1 =>
      cases hjsw
      replace cq1 := i_eq cq1 (ic_3)
      refine ⟨60, rfl, ?_⟩
      refine A_aload_n rfl dX7_jury_60 ?_
      refine A_getR fr_X7_28.g rfl lay_0 rfl dX7_jury_61 ?_
      refine A_callV (s_kn l G 36 j36 I N n hn hN hR hK) m_X0_known ml_X7_169 rfl (lj j36) rfl (by decide) rfl rfl (Nat.le_of_ble_eq_true rfl) (by decide) (by decide) (by decide) dX7_jury_64 (fun _ _ _ h => congrArg List.length h.2.1) ?_
      rintro _ _ _ ⟨rfl, rfl, e9⟩
      refine AW_I e9 ?_
      clear e9
      refine A_iret rfl rfl rfl rfl dX7_jury_67 ?_
      subst cq1
      have eg : f_jury N n 3 = q_kn N n := by rw [f_jury, if_neg (by decide), if_neg (by decide), if_neg (by decide), if_pos rfl]
      rw [eg]
      exact ⟨rfl, rfl, fun _ _ => rfl⟩
    | 4, hjsw, cq1 =>
      cases hjsw
      replace cq1 := i_eq cq1 (ic_4)
      refine ⟨68, rfl, ?_⟩
      refine A_aload_n rfl dX7_jury_68 ?_
      refine A_getR fr_X7_28.g rfl lay_0 rfl dX7_jury_69 ?_
      refine A_callV (s_any l G 36 j36 I N n hn hN hR) m_X0_any ml_X7_172 rfl (lj j36) rfl (by decide) rfl rfl (Nat.le_of_ble_eq_true rfl) (by decide) (by decide) (by decide) dX7_jury_72 (fun _ _ _ h => congrArg List.length h.2.1) ?_
      rintro _ _ _ ⟨rfl, rfl, e9⟩
      refine AW_I e9 ?_
      clear e9
      refine A_iret rfl rfl rfl rfl dX7_jury_75 ?_
      subst cq1
      have eg : f_jury N n 4 = q_any N n := by rw [f_jury, if_neg (by decide), if_neg (by decide), if_neg (by decide), if_neg (by decide), if_pos rfl]
      rw [eg]
      exact ⟨rfl, rfl, fun _ _ => rfl⟩
    | jsw + 5, hjsw, _ => exact absurd hjsw (by simp)
  · skip
    refine A_ldc kc_X7_60 rfl dX7_jury_76 ?_
    refine A_iret rfl rfl rfl rfl dX7_jury_78 ?_
    have hnw : w ≠ 0 ∧ w ≠ 1 ∧ w ≠ 2 ∧ w ≠ 3 ∧ w ≠ 4 := by rcases cq1 with h9 | h9 <;> refine ⟨fun h => ?_, fun h => ?_, fun h => ?_, fun h => ?_, fun h => ?_⟩ <;> (subst h; revert h9; decide)
    have eg : f_jury N n w = -1000000001 := by rw [f_jury, if_neg hnw.1, if_neg hnw.2.1, if_neg hnw.2.2.1, if_neg hnw.2.2.2.1, if_neg hnw.2.2.2.2]
    rw [eg]
    exact ⟨rfl, rfl, fun _ _ => rfl⟩
set_option maxHeartbeats 1000000 in
set_option maxRecDepth 100000 in
theorem m_jury (l : Launch) (G : Gm) (I : Hp) (N : Nrow) (h87 : I 87 = N) (n : Nat) (hn : n ≤ 10) (hN : N 1 = nI n) (T : Nat) (hTx : TxJ N T) (w : Int32) : Meth l G yX8_jury cX8_jury 2 (some (FieldType.int)) 6 0 0 [.ref 86, .int w] LAY I (fun r lay1 I1 => r = some (.int (f_jury N n w)) ∧ lay1 = LAY ∧ ∀ q, q ≠ 97 → q ≠ 98 → I1 q = I q) := by
  subst h87
  refine Meth.of (by decide +kernel) (by simp [Value.category]) (Nat.le_of_ble_eq_true rfl) ?_
  refine A_iload_n rfl dX8_jury_0 ?_
  refine A_tsw 64 rfl dX8_jury_1 rfl (fun jsw off hjsw cq1 => ?_) (fun cq1 => ?_)
  · match jsw, hjsw, cq1 with
    | 0, hjsw, cq1 =>
      cases hjsw
      replace cq1 := i_eq cq1 (ic_0)
      refine ⟨36, rfl, ?_⟩
      refine A_aload_n rfl dX8_jury_36 ?_
      refine A_callV (t_com l G I _ rfl n hn hN) m_X8_common ml_X8_165 rfl lay_86 rfl (by decide) rfl rfl (Nat.le_of_ble_eq_true rfl) (by decide) (by decide) (by decide) dX8_jury_37 (fun _ _ _ h => congrArg List.length h.2.1) ?_
      rintro _ _ _ ⟨rfl, rfl, e9⟩
      refine AW_I e9 ?_
      clear e9
      refine A_iret rfl rfl rfl rfl dX8_jury_40 ?_
      subst cq1
      have eg : f_jury (I 87) n 0 = q_com (I 87) n := by rw [f_jury, if_pos rfl]
      rw [eg]
      exact ⟨rfl, rfl, fun _ _ _ => rfl⟩
    | 1, hjsw, cq1 =>
      cases hjsw
      replace cq1 := i_eq cq1 (ic_1)
      refine ⟨41, rfl, ?_⟩
      refine A_aload_n rfl dX8_jury_41 ?_
      refine A_callV (t_vo l G I _ rfl n hn hN T hTx) m_X8_votes ml_X8_168 rfl lay_86 rfl (by decide) rfl rfl (Nat.le_of_ble_eq_true rfl) (by decide) (by decide) (by decide) dX8_jury_42 (fun _ _ _ h => congrArg List.length h.2.1) ?_
      rintro _ _ K2 ⟨rfl, rfl, hf2⟩
      refine A_iret rfl rfl rfl rfl dX8_jury_45 ?_
      subst cq1
      have eg : f_jury (I 87) n 1 = q_vo (I 87) n := by rw [f_jury, if_neg (by decide), if_pos rfl]
      rw [eg]
      exact ⟨rfl, rfl, hf2⟩
    | 2, hjsw, cq1 =>
      cases hjsw
      replace cq1 := i_eq cq1 (ic_2)
      refine ⟨46, rfl, ?_⟩
      refine A_aload_n rfl dX8_jury_46 ?_
      refine A_getR fr_X8_9.g rfl lay_86 rfl dX8_jury_47 ?_
      refine A_bipush bp_6 dX8_jury_50 ?_
      refine A_iald 6 rfl lay_87 (by decide) (by decide) dX8_jury_52 ?_
      refine A_iret rfl rfl rfl rfl dX8_jury_53 ?_
      subst cq1
      have eg : f_jury (I 87) n 2 = I 87 6 := by rw [f_jury, if_neg (by decide), if_neg (by decide), if_pos rfl]
      rw [eg]
      exact ⟨rfl, rfl, fun _ _ _ => rfl⟩
    | 3, hjsw, cq1 =>
      cases hjsw
      replace cq1 := i_eq cq1 (ic_3)
      refine ⟨54, rfl, ?_⟩
      refine A_aload_n rfl dX8_jury_54 ?_
      refine A_callV (t_kn l G I _ rfl n hn hN) m_X8_knownAll ml_X8_171 rfl lay_86 rfl (by decide) rfl rfl (Nat.le_of_ble_eq_true rfl) (by decide) (by decide) (by decide) dX8_jury_55 (fun _ _ _ h => congrArg List.length h.2.1) ?_
      rintro _ _ _ ⟨rfl, rfl, e9⟩
      refine AW_I e9 ?_
      clear e9
      refine A_iret rfl rfl rfl rfl dX8_jury_58 ?_
      subst cq1
      have eg : f_jury (I 87) n 3 = q_kn (I 87) n := by rw [f_jury, if_neg (by decide), if_neg (by decide), if_neg (by decide), if_pos rfl]
      rw [eg]
      exact ⟨rfl, rfl, fun _ _ _ => rfl⟩
    | 4, hjsw, cq1 =>
      cases hjsw
      replace cq1 := i_eq cq1 (ic_4)
      refine ⟨59, rfl, ?_⟩
      refine A_aload_n rfl dX8_jury_59 ?_
      refine A_callV (t_any l G I _ rfl n hn hN) m_X8_any ml_X8_174 rfl lay_86 rfl (by decide) rfl rfl (Nat.le_of_ble_eq_true rfl) (by decide) (by decide) (by decide) dX8_jury_60 (fun _ _ _ h => congrArg List.length h.2.1) ?_
      rintro _ _ _ ⟨rfl, rfl, e9⟩
      refine AW_I e9 ?_
      clear e9
      refine A_iret rfl rfl rfl rfl dX8_jury_63 ?_
      subst cq1
      have eg : f_jury (I 87) n 4 = q_any (I 87) n := by rw [f_jury, if_neg (by decide), if_neg (by decide), if_neg (by decide), if_neg (by decide), if_pos rfl]
      rw [eg]
      exact ⟨rfl, rfl, fun _ _ _ => rfl⟩
    | jsw + 5, hjsw, _ => exact absurd hjsw (by simp)
  · skip
    refine A_ldc kc_X8_88 rfl dX8_jury_64 ?_
    refine A_iret rfl rfl rfl rfl dX8_jury_66 ?_
    have hnw : w ≠ 0 ∧ w ≠ 1 ∧ w ≠ 2 ∧ w ≠ 3 ∧ w ≠ 4 := by rcases cq1 with h9 | h9 <;> refine ⟨fun h => ?_, fun h => ?_, fun h => ?_, fun h => ?_, fun h => ?_⟩ <;> (subst h; revert h9; decide)
    have eg : f_jury (I 87) n w = -1000000001 := by rw [f_jury, if_neg hnw.1, if_neg hnw.2.1, if_neg hnw.2.2.1, if_neg hnw.2.2.2.1, if_neg hnw.2.2.2.2]
    rw [eg]
    exact ⟨rfl, rfl, fun _ _ _ => rfl⟩
def f_count (N : Nrow) (n : Nat) (wt tp w : Int32) : Int32 := if w = 0 then N 1 else if w = 1 then N 2 else if w = 2 then N 3 else if w = 3 then N 4 else if w = 4 then N 5 else if w = 5 then q_vo N n else if w = 6 then N 7 else if w = 7 then wt else if w = 8 then tp else if w = 9 then N 0 else -1000000001
set_option maxHeartbeats 1000000 in
set_option maxRecDepth 100000 in
theorem c_count (l : Launch) (G : Gm) (I : Hp) (N : Nrow) (n : Nat) (hn : n ≤ 10) (hN : N 1 = nI n) (hR : RepJ I 36 N) (T : Nat) (hK : KnJ N) (hTx : TxJ N T) (hLw : LwR I N T) (hDo : DoJ N) (w : Int32) : Meth l G yX7_count cX7_count 2 (some (FieldType.int)) 7 0 0 [.ref 0, .int w] LAY I (fun r lay1 I1 => r = some (.int (f_count N n (I 0 8) (I 32 0) w)) ∧ lay1 = LAY ∧ ∀ q, q ≠ 2 → I1 q = I q) := by
  refine Meth.of (by decide +kernel) (by simp [Value.category]) (Nat.le_of_ble_eq_true rfl) ?_
  refine A_iload_n rfl dX7_count_0 ?_
  refine A_tsw 133 rfl dX7_count_1 rfl (fun jsw off hjsw cq1 => ?_) (fun cq1 => ?_)
  · match jsw, hjsw, cq1 with
    | 0, hjsw, cq1 =>
      cases hjsw
      replace cq1 := i_eq cq1 (ic_0)
      refine ⟨56, rfl, ?_⟩
      refine A_aload_n rfl dX7_count_56 ?_
      refine A_getR fr_X7_28.g rfl lay_0 rfl dX7_count_57 ?_
      refine A_getI fr_X7_61.g rfl (lj j36) dX7_count_60 ?_
      refine A_iret rfl rfl rfl rfl dX7_count_63 ?_
      subst cq1
      have eg : f_count N n (I 0 8) (I 32 0) 0 = N 1 := by rw [f_count, if_pos rfl]
      rw [eg]
      exact ⟨by rw [hR.1.1], rfl, fun _ _ => rfl⟩
    | 1, hjsw, cq1 =>
      cases hjsw
      replace cq1 := i_eq cq1 (ic_1)
      refine ⟨64, rfl, ?_⟩
      refine A_aload_n rfl dX7_count_64 ?_
      refine A_getR fr_X7_28.g rfl lay_0 rfl dX7_count_65 ?_
      refine A_getI fr_X7_153.g rfl (lj j36) dX7_count_68 ?_
      refine A_iret rfl rfl rfl rfl dX7_count_71 ?_
      subst cq1
      have eg : f_count N n (I 0 8) (I 32 0) 1 = N 2 := by rw [f_count, if_neg (by decide), if_pos rfl]
      rw [eg]
      exact ⟨by rw [hR.1.2.2.2.2.2.1], rfl, fun _ _ => rfl⟩
    | 2, hjsw, cq1 =>
      cases hjsw
      replace cq1 := i_eq cq1 (ic_2)
      refine ⟨72, rfl, ?_⟩
      refine A_aload_n rfl dX7_count_72 ?_
      refine A_getR fr_X7_28.g rfl lay_0 rfl dX7_count_73 ?_
      refine A_getI fr_X7_130.g rfl (lj j36) dX7_count_76 ?_
      refine A_iret rfl rfl rfl rfl dX7_count_79 ?_
      subst cq1
      have eg : f_count N n (I 0 8) (I 32 0) 2 = N 3 := by rw [f_count, if_neg (by decide), if_neg (by decide), if_pos rfl]
      rw [eg]
      exact ⟨by rw [hR.1.2.1], rfl, fun _ _ => rfl⟩
    | 3, hjsw, cq1 =>
      cases hjsw
      replace cq1 := i_eq cq1 (ic_3)
      refine ⟨80, rfl, ?_⟩
      refine A_aload_n rfl dX7_count_80 ?_
      refine A_getR fr_X7_28.g rfl lay_0 rfl dX7_count_81 ?_
      refine A_getI fr_X7_133.g rfl (lj j36) dX7_count_84 ?_
      refine A_iret rfl rfl rfl rfl dX7_count_87 ?_
      subst cq1
      have eg : f_count N n (I 0 8) (I 32 0) 3 = N 4 := by rw [f_count, if_neg (by decide), if_neg (by decide), if_neg (by decide), if_pos rfl]
      rw [eg]
      exact ⟨by rw [hR.1.2.2.1], rfl, fun _ _ => rfl⟩
    | 4, hjsw, cq1 =>
      cases hjsw
      replace cq1 := i_eq cq1 (ic_4)
      refine ⟨88, rfl, ?_⟩
      refine A_aload_n rfl dX7_count_88 ?_
      refine A_getR fr_X7_28.g rfl lay_0 rfl dX7_count_89 ?_
      refine A_getI fr_X7_136.g rfl (lj j36) dX7_count_92 ?_
      refine A_iret rfl rfl rfl rfl dX7_count_95 ?_
      subst cq1
      have eg : f_count N n (I 0 8) (I 32 0) 4 = N 5 := by rw [f_count, if_neg (by decide), if_neg (by decide), if_neg (by decide), if_neg (by decide), if_pos rfl]
      rw [eg]
      exact ⟨by rw [hR.1.2.2.2.1], rfl, fun _ _ => rfl⟩
    | 5, hjsw, cq1 =>
      cases hjsw
      replace cq1 := i_eq cq1 (ic_5)
      refine ⟨96, rfl, ?_⟩
      refine A_aload_n rfl dX7_count_96 ?_
      refine A_getR fr_X7_28.g rfl lay_0 rfl dX7_count_97 ?_
      refine A_callV (s_vo l G 36 j36 I N T hR hK hTx hLw hDo n hn hN) m_X0_votes ml_X7_163 rfl (lj j36) rfl (by decide) rfl rfl (Nat.le_of_ble_eq_true rfl) (by decide) (by decide) (by decide) dX7_count_100 (fun _ _ _ h => congrArg List.length h.2.1) ?_
      rintro _ _ K2 ⟨rfl, rfl, hf2⟩
      refine A_iret rfl rfl rfl rfl dX7_count_103 ?_
      subst cq1
      have eg : f_count N n (I 0 8) (I 32 0) 5 = q_vo N n := by rw [f_count, if_neg (by decide), if_neg (by decide), if_neg (by decide), if_neg (by decide), if_neg (by decide), if_pos rfl]
      rw [eg]
      exact ⟨rfl, rfl, hf2⟩
    | 6, hjsw, cq1 =>
      cases hjsw
      replace cq1 := i_eq cq1 (ic_6)
      refine ⟨104, rfl, ?_⟩
      refine A_aload_n rfl dX7_count_104 ?_
      refine A_getR fr_X7_28.g rfl lay_0 rfl dX7_count_105 ?_
      refine A_getI fr_X7_214.g rfl (lj j36) dX7_count_108 ?_
      refine A_iret rfl rfl rfl rfl dX7_count_111 ?_
      subst cq1
      have eg : f_count N n (I 0 8) (I 32 0) 6 = N 7 := by rw [f_count, if_neg (by decide), if_neg (by decide), if_neg (by decide), if_neg (by decide), if_neg (by decide), if_neg (by decide), if_pos rfl]
      rw [eg]
      exact ⟨by rw [hR.1.2.2.2.2.2.2.2], rfl, fun _ _ => rfl⟩
    | 7, hjsw, cq1 =>
      cases hjsw
      replace cq1 := i_eq cq1 (ic_7)
      refine ⟨112, rfl, ?_⟩
      refine A_aload_n rfl dX7_count_112 ?_
      refine A_getI fr_X7_285.g rfl lay_0 dX7_count_113 ?_
      refine A_iret rfl rfl rfl rfl dX7_count_116 ?_
      subst cq1
      have eg : f_count N n (I 0 8) (I 32 0) 7 = I 0 8 := by rw [f_count, if_neg (by decide), if_neg (by decide), if_neg (by decide), if_neg (by decide), if_neg (by decide), if_neg (by decide), if_neg (by decide), if_pos rfl]
      rw [eg]
      exact ⟨rfl, rfl, fun _ _ => rfl⟩
    | 8, hjsw, cq1 =>
      cases hjsw
      replace cq1 := i_eq cq1 (ic_8)
      refine ⟨117, rfl, ?_⟩
      refine A_aload_n rfl dX7_count_117 ?_
      refine A_getR fr_X7_19.g rfl lay_0 rfl dX7_count_118 ?_
      refine A_getI fr_X7_204.g rfl lay_32 dX7_count_121 ?_
      refine A_iret rfl rfl rfl rfl dX7_count_124 ?_
      subst cq1
      have eg : f_count N n (I 0 8) (I 32 0) 8 = I 32 0 := by rw [f_count, if_neg (by decide), if_neg (by decide), if_neg (by decide), if_neg (by decide), if_neg (by decide), if_neg (by decide), if_neg (by decide), if_neg (by decide), if_pos rfl]
      rw [eg]
      exact ⟨rfl, rfl, fun _ _ => rfl⟩
    | 9, hjsw, cq1 =>
      cases hjsw
      replace cq1 := i_eq cq1 (ic_9)
      refine ⟨125, rfl, ?_⟩
      refine A_aload_n rfl dX7_count_125 ?_
      refine A_getR fr_X7_28.g rfl lay_0 rfl dX7_count_126 ?_
      refine A_getI fr_X7_147.g rfl (lj j36) dX7_count_129 ?_
      refine A_iret rfl rfl rfl rfl dX7_count_132 ?_
      subst cq1
      have eg : f_count N n (I 0 8) (I 32 0) 9 = N 0 := by rw [f_count, if_neg (by decide), if_neg (by decide), if_neg (by decide), if_neg (by decide), if_neg (by decide), if_neg (by decide), if_neg (by decide), if_neg (by decide), if_neg (by decide), if_pos rfl]
      rw [eg]
      exact ⟨by rw [hR.1.2.2.2.2.2.2.1], rfl, fun _ _ => rfl⟩
    | jsw + 10, hjsw, _ => exact absurd hjsw (by simp)
  · skip
    refine A_ldc kc_X7_60 rfl dX7_count_133 ?_
    refine A_iret rfl rfl rfl rfl dX7_count_135 ?_
    have hnw : w ≠ 0 ∧ w ≠ 1 ∧ w ≠ 2 ∧ w ≠ 3 ∧ w ≠ 4 ∧ w ≠ 5 ∧ w ≠ 6 ∧ w ≠ 7 ∧ w ≠ 8 ∧ w ≠ 9 := by rcases cq1 with h9 | h9 <;> refine ⟨fun h => ?_, fun h => ?_, fun h => ?_, fun h => ?_, fun h => ?_, fun h => ?_, fun h => ?_, fun h => ?_, fun h => ?_, fun h => ?_⟩ <;> (subst h; revert h9; decide)
    have eg : f_count N n (I 0 8) (I 32 0) w = -1000000001 := by rw [f_count, if_neg hnw.1, if_neg hnw.2.1, if_neg hnw.2.2.1, if_neg hnw.2.2.2.1, if_neg hnw.2.2.2.2.1, if_neg hnw.2.2.2.2.2.1, if_neg hnw.2.2.2.2.2.2.1, if_neg hnw.2.2.2.2.2.2.2.1, if_neg hnw.2.2.2.2.2.2.2.2.1, if_neg hnw.2.2.2.2.2.2.2.2.2]
    rw [eg]
    exact ⟨rfl, rfl, fun _ _ => rfl⟩
set_option maxHeartbeats 1000000 in
set_option maxRecDepth 100000 in
theorem m_count (l : Launch) (G : Gm) (I : Hp) (N : Nrow) (h87 : I 87 = N) (n : Nat) (hn : n ≤ 10) (hN : N 1 = nI n) (T : Nat) (hTx : TxJ N T) (w : Int32) : Meth l G yX8_count cX8_count 2 (some (FieldType.int)) 6 0 0 [.ref 86, .int w] LAY I (fun r lay1 I1 => r = some (.int (f_count N n (I 86 33) (I 86 7) w)) ∧ lay1 = LAY ∧ ∀ q, q ≠ 97 → q ≠ 98 → I1 q = I q) := by
  subst h87
  refine Meth.of (by decide +kernel) (by simp [Value.category]) (Nat.le_of_ble_eq_true rfl) ?_
  refine A_iload_n rfl dX8_count_0 ?_
  refine A_tsw 109 rfl dX8_count_1 rfl (fun jsw off hjsw cq1 => ?_) (fun cq1 => ?_)
  · match jsw, hjsw, cq1 with
    | 0, hjsw, cq1 =>
      cases hjsw
      replace cq1 := i_eq cq1 (ic_0)
      refine ⟨56, rfl, ?_⟩
      refine A_aload_n rfl dX8_count_56 ?_
      refine A_getR fr_X8_9.g rfl lay_86 rfl dX8_count_57 ?_
      refine A_iconst ic_1 dX8_count_60 ?_
      refine A_iald 1 rfl lay_87 (by decide) (by decide) dX8_count_61 ?_
      refine A_iret rfl rfl rfl rfl dX8_count_62 ?_
      subst cq1
      have eg : f_count (I 87) n (I 86 33) (I 86 7) 0 = I 87 1 := by rw [f_count, if_pos rfl]
      rw [eg]
      exact ⟨rfl, rfl, fun _ _ _ => rfl⟩
    | 1, hjsw, cq1 =>
      cases hjsw
      replace cq1 := i_eq cq1 (ic_1)
      refine ⟨63, rfl, ?_⟩
      refine A_aload_n rfl dX8_count_63 ?_
      refine A_getR fr_X8_9.g rfl lay_86 rfl dX8_count_64 ?_
      refine A_iconst ic_2 dX8_count_67 ?_
      refine A_iald 2 rfl lay_87 (by decide) (by decide) dX8_count_68 ?_
      refine A_iret rfl rfl rfl rfl dX8_count_69 ?_
      subst cq1
      have eg : f_count (I 87) n (I 86 33) (I 86 7) 1 = I 87 2 := by rw [f_count, if_neg (by decide), if_pos rfl]
      rw [eg]
      exact ⟨rfl, rfl, fun _ _ _ => rfl⟩
    | 2, hjsw, cq1 =>
      cases hjsw
      replace cq1 := i_eq cq1 (ic_2)
      refine ⟨70, rfl, ?_⟩
      obtain ⟨k, hk, rfl, eqw⟩ : ∃ k, k ≤ 4 ∧ w = nI k ∧ f_count (I 87) n (I 86 33) (I 86 7) w = I 87 (1 + k) := by
        first
          | (have h7 : w = 2 := cq1; subst h7; exact ⟨2, by decide, rfl, by rw [f_count, if_neg (by decide), if_neg (by decide), if_pos rfl]⟩)
          | (have h7 : w = 3 := cq1; subst h7; exact ⟨3, by decide, rfl, by rw [f_count, if_neg (by decide), if_neg (by decide), if_neg (by decide), if_pos rfl]⟩)
          | (have h7 : w = 4 := cq1; subst h7; exact ⟨4, by decide, rfl, by rw [f_count, if_neg (by decide), if_neg (by decide), if_neg (by decide), if_neg (by decide), if_pos rfl]⟩)
      refine A_aload_n rfl dX8_count_70 ?_
      refine A_getR fr_X8_9.g rfl lay_86 rfl dX8_count_71 ?_
      refine A_iconst ic_1 dX8_count_74 ?_
      refine A_iload_n rfl dX8_count_75 ?_
      refine A_iadd dX8_count_76 ?_
      rw [show (1 : Int32) + nI k = nI (1 + k) by rw [show (1 : Int32) = nI 1 from rfl, nI_add]]
      refine A_iald (1 + k) rfl lay_87 (by omega) (by decide) dX8_count_77 ?_
      refine A_iret rfl rfl rfl rfl dX8_count_78 ?_
      rw [eqw]
      exact ⟨rfl, rfl, fun _ _ _ => rfl⟩
    | 3, hjsw, cq1 =>
      cases hjsw
      replace cq1 := i_eq cq1 (ic_3)
      refine ⟨70, rfl, ?_⟩
      obtain ⟨k, hk, rfl, eqw⟩ : ∃ k, k ≤ 4 ∧ w = nI k ∧ f_count (I 87) n (I 86 33) (I 86 7) w = I 87 (1 + k) := by
        first
          | (have h7 : w = 2 := cq1; subst h7; exact ⟨2, by decide, rfl, by rw [f_count, if_neg (by decide), if_neg (by decide), if_pos rfl]⟩)
          | (have h7 : w = 3 := cq1; subst h7; exact ⟨3, by decide, rfl, by rw [f_count, if_neg (by decide), if_neg (by decide), if_neg (by decide), if_pos rfl]⟩)
          | (have h7 : w = 4 := cq1; subst h7; exact ⟨4, by decide, rfl, by rw [f_count, if_neg (by decide), if_neg (by decide), if_neg (by decide), if_neg (by decide), if_pos rfl]⟩)
      refine A_aload_n rfl dX8_count_70 ?_
      refine A_getR fr_X8_9.g rfl lay_86 rfl dX8_count_71 ?_
      refine A_iconst ic_1 dX8_count_74 ?_
      refine A_iload_n rfl dX8_count_75 ?_
      refine A_iadd dX8_count_76 ?_
      rw [show (1 : Int32) + nI k = nI (1 + k) by rw [show (1 : Int32) = nI 1 from rfl, nI_add]]
      refine A_iald (1 + k) rfl lay_87 (by omega) (by decide) dX8_count_77 ?_
      refine A_iret rfl rfl rfl rfl dX8_count_78 ?_
      rw [eqw]
      exact ⟨rfl, rfl, fun _ _ _ => rfl⟩
    | 4, hjsw, cq1 =>
      cases hjsw
      replace cq1 := i_eq cq1 (ic_4)
      refine ⟨70, rfl, ?_⟩
      obtain ⟨k, hk, rfl, eqw⟩ : ∃ k, k ≤ 4 ∧ w = nI k ∧ f_count (I 87) n (I 86 33) (I 86 7) w = I 87 (1 + k) := by
        first
          | (have h7 : w = 2 := cq1; subst h7; exact ⟨2, by decide, rfl, by rw [f_count, if_neg (by decide), if_neg (by decide), if_pos rfl]⟩)
          | (have h7 : w = 3 := cq1; subst h7; exact ⟨3, by decide, rfl, by rw [f_count, if_neg (by decide), if_neg (by decide), if_neg (by decide), if_pos rfl]⟩)
          | (have h7 : w = 4 := cq1; subst h7; exact ⟨4, by decide, rfl, by rw [f_count, if_neg (by decide), if_neg (by decide), if_neg (by decide), if_neg (by decide), if_pos rfl]⟩)
      refine A_aload_n rfl dX8_count_70 ?_
      refine A_getR fr_X8_9.g rfl lay_86 rfl dX8_count_71 ?_
      refine A_iconst ic_1 dX8_count_74 ?_
      refine A_iload_n rfl dX8_count_75 ?_
      refine A_iadd dX8_count_76 ?_
      rw [show (1 : Int32) + nI k = nI (1 + k) by rw [show (1 : Int32) = nI 1 from rfl, nI_add]]
      refine A_iald (1 + k) rfl lay_87 (by omega) (by decide) dX8_count_77 ?_
      refine A_iret rfl rfl rfl rfl dX8_count_78 ?_
      rw [eqw]
      exact ⟨rfl, rfl, fun _ _ _ => rfl⟩
    | 5, hjsw, cq1 =>
      cases hjsw
      replace cq1 := i_eq cq1 (ic_5)
      refine ⟨79, rfl, ?_⟩
      refine A_aload_n rfl dX8_count_79 ?_
      refine A_callV (t_vo l G I _ rfl n hn hN T hTx) m_X8_votes ml_X8_168 rfl lay_86 rfl (by decide) rfl rfl (Nat.le_of_ble_eq_true rfl) (by decide) (by decide) (by decide) dX8_count_80 (fun _ _ _ h => congrArg List.length h.2.1) ?_
      rintro _ _ K2 ⟨rfl, rfl, hf2⟩
      refine A_iret rfl rfl rfl rfl dX8_count_83 ?_
      subst cq1
      have eg : f_count (I 87) n (I 86 33) (I 86 7) 5 = q_vo (I 87) n := by rw [f_count, if_neg (by decide), if_neg (by decide), if_neg (by decide), if_neg (by decide), if_neg (by decide), if_pos rfl]
      rw [eg]
      exact ⟨rfl, rfl, hf2⟩
    | 6, hjsw, cq1 =>
      cases hjsw
      replace cq1 := i_eq cq1 (ic_6)
      refine ⟨84, rfl, ?_⟩
      refine A_aload_n rfl dX8_count_84 ?_
      refine A_getR fr_X8_9.g rfl lay_86 rfl dX8_count_85 ?_
      refine A_bipush bp_7 dX8_count_88 ?_
      refine A_iald 7 rfl lay_87 (by decide) (by decide) dX8_count_90 ?_
      refine A_iret rfl rfl rfl rfl dX8_count_91 ?_
      subst cq1
      have eg : f_count (I 87) n (I 86 33) (I 86 7) 6 = I 87 7 := by rw [f_count, if_neg (by decide), if_neg (by decide), if_neg (by decide), if_neg (by decide), if_neg (by decide), if_neg (by decide), if_pos rfl]
      rw [eg]
      exact ⟨rfl, rfl, fun _ _ _ => rfl⟩
    | 7, hjsw, cq1 =>
      cases hjsw
      replace cq1 := i_eq cq1 (ic_7)
      refine ⟨92, rfl, ?_⟩
      refine A_aload_n rfl dX8_count_92 ?_
      refine A_getI fr_X8_276.g rfl lay_86 dX8_count_93 ?_
      refine A_iret rfl rfl rfl rfl dX8_count_96 ?_
      subst cq1
      have eg : f_count (I 87) n (I 86 33) (I 86 7) 7 = I 86 33 := by rw [f_count, if_neg (by decide), if_neg (by decide), if_neg (by decide), if_neg (by decide), if_neg (by decide), if_neg (by decide), if_neg (by decide), if_pos rfl]
      rw [eg]
      exact ⟨rfl, rfl, fun _ _ _ => rfl⟩
    | 8, hjsw, cq1 =>
      cases hjsw
      replace cq1 := i_eq cq1 (ic_8)
      refine ⟨97, rfl, ?_⟩
      refine A_aload_n rfl dX8_count_97 ?_
      refine A_getI fr_X8_200.g rfl lay_86 dX8_count_98 ?_
      refine A_iret rfl rfl rfl rfl dX8_count_101 ?_
      subst cq1
      have eg : f_count (I 87) n (I 86 33) (I 86 7) 8 = I 86 7 := by rw [f_count, if_neg (by decide), if_neg (by decide), if_neg (by decide), if_neg (by decide), if_neg (by decide), if_neg (by decide), if_neg (by decide), if_neg (by decide), if_pos rfl]
      rw [eg]
      exact ⟨rfl, rfl, fun _ _ _ => rfl⟩
    | 9, hjsw, cq1 =>
      cases hjsw
      replace cq1 := i_eq cq1 (ic_9)
      refine ⟨102, rfl, ?_⟩
      refine A_aload_n rfl dX8_count_102 ?_
      refine A_getR fr_X8_9.g rfl lay_86 rfl dX8_count_103 ?_
      refine A_iconst ic_0 dX8_count_106 ?_
      refine A_iald 0 rfl lay_87 (by decide) (by decide) dX8_count_107 ?_
      refine A_iret rfl rfl rfl rfl dX8_count_108 ?_
      subst cq1
      have eg : f_count (I 87) n (I 86 33) (I 86 7) 9 = I 87 0 := by rw [f_count, if_neg (by decide), if_neg (by decide), if_neg (by decide), if_neg (by decide), if_neg (by decide), if_neg (by decide), if_neg (by decide), if_neg (by decide), if_neg (by decide), if_pos rfl]
      rw [eg]
      exact ⟨rfl, rfl, fun _ _ _ => rfl⟩
    | jsw + 10, hjsw, _ => exact absurd hjsw (by simp)
  · skip
    refine A_ldc kc_X8_88 rfl dX8_count_109 ?_
    refine A_iret rfl rfl rfl rfl dX8_count_111 ?_
    have hnw : w ≠ 0 ∧ w ≠ 1 ∧ w ≠ 2 ∧ w ≠ 3 ∧ w ≠ 4 ∧ w ≠ 5 ∧ w ≠ 6 ∧ w ≠ 7 ∧ w ≠ 8 ∧ w ≠ 9 := by rcases cq1 with h9 | h9 <;> refine ⟨fun h => ?_, fun h => ?_, fun h => ?_, fun h => ?_, fun h => ?_, fun h => ?_, fun h => ?_, fun h => ?_, fun h => ?_, fun h => ?_⟩ <;> (subst h; revert h9; decide)
    have eg : f_count (I 87) n (I 86 33) (I 86 7) w = -1000000001 := by rw [f_count, if_neg hnw.1, if_neg hnw.2.1, if_neg hnw.2.2.1, if_neg hnw.2.2.2.1, if_neg hnw.2.2.2.2.1, if_neg hnw.2.2.2.2.2.1, if_neg hnw.2.2.2.2.2.2.1, if_neg hnw.2.2.2.2.2.2.2.1, if_neg hnw.2.2.2.2.2.2.2.2.1, if_neg hnw.2.2.2.2.2.2.2.2.2]
    rw [eg]
    exact ⟨rfl, rfl, fun _ _ _ => rfl⟩
