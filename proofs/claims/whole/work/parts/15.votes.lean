theorem held_q (v : Int32) : heldF v 0 100 = q_hold v := by
  unfold heldF q_hold
  simp only [Int32.lt_iff_toInt_lt, Int32.reduceToInt]
  by_cases h1 : v.toInt < 0
  · rw [if_pos h1, if_pos (show v.toInt < 100 by omega), if_neg (by omega)]
  · rw [if_neg h1]
    by_cases h2 : v.toInt < 100
    · rw [if_pos h2, if_neg (show ¬ 100 < v.toInt by omega)]
      by_cases h3 : 0 < v.toInt
      · rw [if_pos h3]
      · rw [if_neg h3, ← Int32.toInt_inj, Int32.toInt_zero]; omega
    · rw [if_neg h2, if_pos (by decide)]
      by_cases h3 : 100 < v.toInt
      · rw [if_pos h3]
      · rw [if_neg h3, ← Int32.toInt_inj, show (100 : Int32).toInt = 100 from rfl]; omega
theorem hold_in (v : Int32) : ∃ p, p ≤ 100 ∧ q_hold v = nI p := by
  unfold q_hold
  split
  · exact ⟨0, by omega, rfl⟩
  · rename_i h1
    split
    · exact ⟨100, by omega, rfl⟩
    · rename_i h2
      obtain ⟨p, hp1, hp2⟩ := nI_of2 (x := v) (M := 100) (n := 100) rfl h1 (Int32.not_lt.mp h2)
      exact ⟨p, hp1, hp2⟩
def q_mo (p : Int32) : Int32 := if 50 < p then 10 else if p < 50 then -10 else 0
theorem more_q (p : Int32) : heldF (p + q_mo p) 0 100 = q_more p := by
  rw [held_q]
  unfold q_more q_mo
  congr 1
  split
  · rfl
  · split
    · rw [Int32.sub_eq_add_neg]
    · simp
theorem less_q {p d : Nat} (hp : p ≤ 100) (hd : d ≤ 40) : (if 0 < nI p - nI d then nI p - nI d else 0) = q_less (nI p) (nI d) := by
  unfold q_less
  have e : (nI p - nI d).toInt = (p : Int) - d := pk_sub_toInt (by omega) (by omega)
  have h1 : (0 < nI p - nI d) ↔ d < p := by rw [Int32.lt_iff_toInt_lt, e, Int32.toInt_zero]; omega
  have h2 : (nI p < nI d) ↔ p < d := nI_ltI (by omega) (by omega)
  by_cases h : d < p
  · rw [if_pos (h1.mpr h), if_neg (fun q => absurd (h2.mp q) (by omega))]
  · rw [if_neg (fun q => h (h1.mp q))]
    by_cases h3 : p < d
    · rw [if_pos (h2.mpr h3)]
    · rw [if_neg (fun q => h3 (h2.mp q)), sub_nI (by omega), show p - d = 0 by omega]; rfl
set_option maxHeartbeats 1000000 in
set_option maxRecDepth 100000 in
theorem s_sbel (l : Launch) (G : Gm) (lay : Lay) (I : Hp) (p : Int32) : Meth l G yX1_swayedBelief cX1_swayedBelief 2 (some (FieldType.int)) 3 0 0 [.int p] lay I (fun r lay1 I1 => r = some (.int (q_more p)) ∧ lay1 = lay ∧ I1 = I) := by
  have j23 : ∀ (ps : Int32), (ps = q_mo p) → AW l G yX1_swayedBelief cX1_swayedBelief 2 (some (FieldType.int)) 3 0 0 (fun r lay1 I1 => r = some (.int (q_more p)) ∧ lay1 = lay ∧ I1 = I) 0 0 23 [some (.int p), none] [.int ps] lay I := by
    intro ps hps
    subst hps
    refine A_istore_n (by decide) rfl dX1_swayedBelief_23 ?_
    refine A_iload_n rfl dX1_swayedBelief_24 ?_
    refine A_iload_n rfl dX1_swayedBelief_25 ?_
    refine A_iadd dX1_swayedBelief_26 ?_
    refine A_iconst ic_0 dX1_swayedBelief_27 ?_
    refine A_bipush bp_100 dX1_swayedBelief_28 ?_
    refine A_callN (s_held l G _ _ _ _ _) m_X7_held rfl (by decide) rfl rfl (Nat.le_of_ble_eq_true rfl) (by decide) (by decide) (by decide) dX1_swayedBelief_30 (fun _ _ _ h => congrArg List.length h.2.1) ?_
    rintro _ _ _ ⟨rfl, rfl, e9⟩
    refine AW_I e9 ?_
    clear e9
    refine A_iret rfl rfl rfl rfl dX1_swayedBelief_33 ?_
    exact ⟨by rw [more_q], rfl, rfl⟩
  refine Meth.of (by decide +kernel) (by simp [Value.category]) (Nat.le_of_ble_eq_true rfl) ?_
  refine A_iload_n rfl dX1_swayedBelief_0 ?_
  refine A_bipush bp_50 dX1_swayedBelief_1 ?_
  refine A_icmp_le 11 rfl dX1_swayedBelief_3 (fun cq3 => ?_) (fun cq3 => ?_)
  · skip
    refine A_iload_n rfl dX1_swayedBelief_11 ?_
    refine A_bipush bp_50 dX1_swayedBelief_12 ?_
    refine A_icmp_ge 22 rfl dX1_swayedBelief_14 (fun cq14 => ?_) (fun cq14 => ?_)
    · skip
      refine A_iconst ic_0 dX1_swayedBelief_22 ?_
      refine j23 _ ?_
      unfold q_mo
      first | rw [if_pos (Int32.not_le.mp cq3)] | rw [if_neg (Int32.not_lt.mpr cq3), if_pos (Int32.not_le.mp cq14)] | rw [if_neg (Int32.not_lt.mpr cq3), if_neg (Int32.not_lt.mpr cq14)]
    · skip
      refine A_bipush bp_m10 dX1_swayedBelief_17 ?_
      refine A_goto 23 rfl dX1_swayedBelief_19 ?_
      refine j23 _ ?_
      unfold q_mo
      first | rw [if_pos (Int32.not_le.mp cq3)] | rw [if_neg (Int32.not_lt.mpr cq3), if_pos (Int32.not_le.mp cq14)] | rw [if_neg (Int32.not_lt.mpr cq3), if_neg (Int32.not_lt.mpr cq14)]
  · skip
    refine A_bipush bp_10 dX1_swayedBelief_6 ?_
    refine A_goto 23 rfl dX1_swayedBelief_8 ?_
    refine j23 _ ?_
    unfold q_mo
    first | rw [if_pos (Int32.not_le.mp cq3)] | rw [if_neg (Int32.not_lt.mpr cq3), if_pos (Int32.not_le.mp cq14)] | rw [if_neg (Int32.not_lt.mpr cq3), if_neg (Int32.not_lt.mpr cq14)]
def q_belK (k p d : Int32) : Int32 := if k = 1 then q_less p d else if k = 2 then q_more p else if k = 3 then (q_less p d + 50) / 2 else if k = 4 then 100 - q_more p else p
set_option maxHeartbeats 1000000 in
set_option maxRecDepth 100000 in
theorem s_belK (l : Launch) (G : Gm) (lay : Lay) (I : Hp) (k : Int32) (p d : Nat) (hp : p ≤ 100) (hd : d ≤ 40) : Meth l G yX1_belief cX1_belief 3 (some (FieldType.int)) 4 0 0 [.int k, .int (nI p), .int (nI d)] lay I (fun r lay1 I1 => r = some (.int (q_belK k (nI p) (nI d))) ∧ lay1 = lay ∧ I1 = I) := by
  refine Meth.of (by decide +kernel) (by simp [Value.category]) (Nat.le_of_ble_eq_true rfl) ?_
  refine A_iload_n rfl dX1_belief_0 ?_
  refine A_tsw 62 rfl dX1_belief_1 rfl (fun jsw off hjsw cq1 => ?_) (fun cq1 => ?_)
  · match jsw, hjsw, cq1 with
    | 0, hjsw, cq1 =>
      cases hjsw
      replace cq1 := i_eq cq1 (ic_1)
      refine ⟨32, rfl, ?_⟩
      refine A_iload_n rfl dX1_belief_32 ?_
      refine A_iload_n rfl dX1_belief_33 ?_
      refine A_callS (s_dbel l G _ _ _ _) m_X1_doubtingBelief ml_X1_21 rfl rfl rfl (Nat.le_of_ble_eq_true rfl) (by decide) (by decide) (by decide) dX1_belief_34 (fun _ _ _ h => congrArg List.length h.2.1) ?_
      rintro _ _ _ ⟨rfl, rfl, e9⟩
      refine AW_I e9 ?_
      clear e9
      refine A_iret rfl rfl rfl rfl dX1_belief_37 ?_
      subst cq1
      exact ⟨by rw [less_q hp hd]; rfl, rfl, rfl⟩
    | 1, hjsw, cq1 =>
      cases hjsw
      replace cq1 := i_eq cq1 (ic_2)
      refine ⟨49, rfl, ?_⟩
      refine A_iload_n rfl dX1_belief_49 ?_
      refine A_callS (s_sbel l G _ _ _) m_X1_swayedBelief ml_X1_25 rfl rfl rfl (Nat.le_of_ble_eq_true rfl) (by decide) (by decide) (by decide) dX1_belief_50 (fun _ _ _ h => congrArg List.length h.2.1) ?_
      rintro _ _ _ ⟨rfl, rfl, e9⟩
      refine AW_I e9 ?_
      clear e9
      refine A_iret rfl rfl rfl rfl dX1_belief_53 ?_
      subst cq1
      exact ⟨rfl, rfl, rfl⟩
    | 2, hjsw, cq1 =>
      cases hjsw
      replace cq1 := i_eq cq1 (ic_3)
      refine ⟨38, rfl, ?_⟩
      refine A_iload_n rfl dX1_belief_38 ?_
      refine A_iload_n rfl dX1_belief_39 ?_
      refine A_callS (s_dbel l G _ _ _ _) m_X1_doubtingBelief ml_X1_21 rfl rfl rfl (Nat.le_of_ble_eq_true rfl) (by decide) (by decide) (by decide) dX1_belief_40 (fun _ _ _ h => congrArg List.length h.2.1) ?_
      rintro _ _ _ ⟨rfl, rfl, e9⟩
      refine AW_I e9 ?_
      clear e9
      refine A_bipush bp_50 dX1_belief_43 ?_
      refine A_iadd dX1_belief_45 ?_
      refine A_iconst ic_2 dX1_belief_46 ?_
      refine A_idiv dX1_belief_47 (by decide) ?_
      refine A_iret rfl rfl rfl rfl dX1_belief_48 ?_
      subst cq1
      exact ⟨by rw [less_q hp hd]; rfl, rfl, rfl⟩
    | 3, hjsw, cq1 =>
      cases hjsw
      replace cq1 := i_eq cq1 (ic_4)
      refine ⟨54, rfl, ?_⟩
      refine A_bipush bp_100 dX1_belief_54 ?_
      refine A_iload_n rfl dX1_belief_56 ?_
      refine A_callS (s_sbel l G _ _ _) m_X1_swayedBelief ml_X1_25 rfl rfl rfl (Nat.le_of_ble_eq_true rfl) (by decide) (by decide) (by decide) dX1_belief_57 (fun _ _ _ h => congrArg List.length h.2.1) ?_
      rintro _ _ _ ⟨rfl, rfl, e9⟩
      refine AW_I e9 ?_
      clear e9
      refine A_isub dX1_belief_60 ?_
      refine A_iret rfl rfl rfl rfl dX1_belief_61 ?_
      subst cq1
      exact ⟨rfl, rfl, rfl⟩
    | jsw + 4, hjsw, _ => exact absurd hjsw (by simp)
  · skip
    refine A_iload_n rfl dX1_belief_62 ?_
    refine A_iret rfl rfl rfl rfl dX1_belief_63 ?_
    have hne : ∀ v : Int32, 1 ≤ v.toInt → v.toInt ≤ 4 → k ≠ v := by
      intro v hv1 hv2 hv3
      subst hv3
      omega
    exact ⟨by unfold q_belK; rw [if_neg (hne 1 (by decide) (by decide)), if_neg (hne 2 (by decide) (by decide)), if_neg (hne 3 (by decide) (by decide)), if_neg (hne 4 (by decide) (by decide))], rfl, rfl⟩
/-- the component's laws hold a row's texts -/
def LwR (I : Hp) (N : Nrow) (T : Nat) : Prop := ∀ t, t < T → ∃ key len, key ≤ 2 ∧ len ≤ 96 ∧ N (66 + 2 * t) = nI (1000 * key + len) ∧ I (4 + 2 * t) 0 = nI key ∧ I (4 + 2 * t) 1 = N (67 + 2 * t) ∧ I (4 + 2 * t) 3 = nI len ∧ ∀ k, k < len → I (4 + 2 * t + 1) k = q_enc (N (94 + 96 * t + k))
/-- doubts -/
def DoJ (N : Nrow) : Prop := ∀ i, i < 10 → ∃ d, d ≤ 40 ∧ N (19 + 5 * i) = nI d
theorem lw_len {I : Hp} {N : Nrow} {T t ky len : Nat} (h : LwR I N T) (ht : t < T) (hky : ky ≤ 2) (hl : len ≤ 96) (hn : N (66 + 2 * t) = nI (1000 * ky + len)) : I (4 + 2 * t) 3 = nI len ∧ ∀ k, k < len → I (4 + 2 * t + 1) k = q_enc (N (94 + 96 * t + k)) := by
  obtain ⟨key, l2, h1, h2, h3, -, -, h6, h7⟩ := h t ht
  have e : 1000 * ky + len = 1000 * key + l2 := (nI_eq (by omega) (by omega)).mp (hn.symm.trans h3)
  have e2 : l2 = len := by omega
  subst e2
  exact ⟨h6, h7⟩
set_option maxHeartbeats 1000000 in
set_option maxRecDepth 100000 in
theorem s_trusts (l : Launch) (G : Gm) (j : Nat) (hj : isJ j) (I : Hp) (N : Nrow) (T : Nat) (hR : RepJ I j N) (hK : KnJ N) (hTx : TxJ N T) (hLw : LwR I N T) (i : Nat) (hi : i < 10) : Meth l G yX0_trusts cX0_trusts 5 (some (FieldType.int)) 4 0 0 [.ref j, .int (nI i)] LAY I (fun r lay1 I1 => r = some (.int (q_plain N i)) ∧ lay1 = LAY ∧ ∀ q, q ≠ 2 → I1 q = I q) := by
  have e3 : I (j + 3) i = N (18 + 5 * i) := hR.2.2.2.1 i hi
  have e4 : I (j + 4) i = N (19 + 5 * i) := hR.2.2.2.2.1 i hi
  have hcn : I (j + 7) 0 = q_cnt N 0 := hR.2.2.2.2.2.2.2 0 (by decide)
  have j80 : ∀ (w tt v : Int32) (K : Hp), (q_hold v = q_plain N i) → (∀ q, q ≠ 2 → K q = I q) → AW l G yX0_trusts cX0_trusts 5 (some (FieldType.int)) 4 0 0 (fun r lay1 I1 => r = some (.int (q_plain N i)) ∧ lay1 = LAY ∧ ∀ q, q ≠ 2 → I1 q = I q) 0 0 80 [some (.ref j), some (.int (nI i)), some (.int w), some (.int tt), none] [.int v] LAY K := by
    intro w tt v K hv hfr
    refine A_istore (by decide) rfl dX0_trusts_80 ?_
    refine A_iload rfl dX0_trusts_82 ?_
    refine A_iconst ic_0 dX0_trusts_84 ?_
    refine A_bipush bp_100 dX0_trusts_85 ?_
    refine A_callN (s_held l G _ _ _ _ _) m_X7_held rfl (by decide) rfl rfl (Nat.le_of_ble_eq_true rfl) (by decide) (by decide) (by decide) dX0_trusts_87 (fun _ _ _ h => congrArg List.length h.2.1) ?_
    rintro _ _ _ ⟨rfl, rfl, e9⟩
    refine AW_I e9 ?_
    clear e9
    refine A_iret rfl rfl rfl rfl dX0_trusts_90 ?_
    exact ⟨by rw [held_q, hv], rfl, hfr⟩
  have loop : ∀ (lpn : Nat) (k : Nat) (x s : Int32), 8 - k = lpn → (k ≤ 8) → (x = nI k) → (s = q_wt N (N (18 + 5 * i)) k) → AW l G yX0_trusts cX0_trusts 5 (some (FieldType.int)) 4 0 0 (fun r lay1 I1 => r = some (.int (q_plain N i)) ∧ lay1 = LAY ∧ ∀ q, q ≠ 2 → I1 q = I q) 0 0 4 [some (.ref j), some (.int (nI i)), some (.int s), some (.int x), none] [] LAY I := by
    intro lpn
    induction lpn using Nat.strongRecOn with
    | _ lpn ih =>
      intro k x s hms hk hx hs
      subst hx
      refine A_iload_n rfl dX0_trusts_4 ?_
      refine A_bipush bp_8 dX0_trusts_5 ?_
      refine A_icmp_ge 38 rfl dX0_trusts_7 (fun cq7 => ?_) (fun cq7 => ?_)
      · skip
        have hkn := (le_nI (show (8 : Int32) = nI 8 from rfl) rfl (by omega) (by omega)).mp cq7
        have hke : k = 8 := by omega
        subst hke
        subst hs
        refine A_aload_n rfl dX0_trusts_38 ?_
        refine A_getR fr_X0_30.g rfl (lj hj) rfl dX0_trusts_39 ?_
        refine A_iconst ic_0 dX0_trusts_42 ?_
        refine A_iald 0 rfl (lj7 hj) (by decide) (by decide) dX0_trusts_43 ?_
        refine A_istore_n (by decide) rfl dX0_trusts_44 ?_
        refine A_iload_n rfl dX0_trusts_45 ?_
        refine A_if_ge 56 rfl dX0_trusts_46 (fun cq46 => ?_) (fun cq46 => ?_)
        · skip
          rcases cnt_in hTx (ky := 0) (by decide) with hc | ⟨t, len, ht1, ht2, hc, hn0, hir, hwf⟩
          · exfalso; rw [hcn, show q_cnt N 0 = -1 from hc] at cq46; exact absurd cq46 (by decide)
          have hlw := lw_len hLw ht1 (by decide) hwf.1 hn0
          rw [hcn, show q_cnt N 0 = nI t from hc] at cq46 ⊢
          refine A_aload_n rfl dX0_trusts_56 ?_
          refine A_getR fr_X0_43.g rfl (lj hj) rfl dX0_trusts_57 ?_
          refine A_iload_n rfl dX0_trusts_60 ?_
          refine A_aload_n rfl dX0_trusts_61 ?_
          refine A_getR fr_X0_18.g rfl (lj hj) rfl dX0_trusts_62 ?_
          refine A_iload_n rfl dX0_trusts_65 ?_
          refine A_iald _ rfl (lj3 hj) (by omega) (by decide) dX0_trusts_66 ?_
          refine A_callS (s_bc l G _ _ _) m_J6_bitCount_0f7a4 ml_X0_106 rfl rfl rfl (Nat.le_of_ble_eq_true rfl) (by decide) (by decide) (by decide) dX0_trusts_67 (fun _ _ _ h => congrArg List.length h.2.1) ?_
          rintro _ _ _ ⟨rfl, rfl, e9⟩
          refine AW_I e9 ?_
          clear e9
          refine A_iload_n rfl dX0_trusts_70 ?_
          refine A_aload_n rfl dX0_trusts_71 ?_
          refine A_getR fr_X0_21.g rfl (lj hj) rfl dX0_trusts_72 ?_
          refine A_iload_n rfl dX0_trusts_75 ?_
          refine A_iald _ rfl (lj4 hj) (by omega) (by decide) dX0_trusts_76 ?_
          refine A_callV (s_gives l G I t ht2 (fun k => N (94 + 96 * t + k)) len 3 _ _ _ hlw.1 hlw.2 hwf (by decide)) m_X3_gives ml_X0_111 rfl lay_1 rfl (by decide) rfl rfl (Nat.le_of_ble_eq_true rfl) (by decide) (by decide) (by decide) dX0_trusts_77 (fun _ _ _ hqq => congrArg List.length hqq.2.1) ?_
          rintro _ _ K2 ⟨rfl, rfl, hf2⟩
          first
            | (have h7 : ¬ 0 ≤ I (j + 7) 0 := cq46; refine j80 _ _ _ I ?_ (fun _ _ => rfl); rw [hcn] at h7; unfold q_plain; rw [if_pos (Int32.not_le.mp h7)])
            | (refine j80 _ _ _ _ ?_ hf2; unfold q_plain; rw [show q_cnt N 0 = nI t from hc, if_neg (Int32.not_lt.mpr cq46), nI_clamp (by omega)]; unfold q_text; rw [hir, nI_clamp (by have := hwf.1; omega), e3, e4, bc_kn hK hi]; rfl)
        · skip
          refine A_bipush bp_50 dX0_trusts_49 ?_
          refine A_iload_n rfl dX0_trusts_51 ?_
          refine A_iadd dX0_trusts_52 ?_
          refine A_goto 80 rfl dX0_trusts_53 ?_
          first
            | (have h7 : ¬ 0 ≤ I (j + 7) 0 := cq46; refine j80 _ _ _ I ?_ (fun _ _ => rfl); rw [hcn] at h7; unfold q_plain; rw [if_pos (Int32.not_le.mp h7)])
            | (refine j80 _ _ _ _ ?_ hf2; unfold q_plain; rw [show q_cnt N 0 = nI t from hc, if_neg (Int32.not_lt.mpr cq46), nI_clamp (by omega)]; unfold q_text; rw [hir, nI_clamp (by have := hwf.1; omega), e3, e4, bc_kn hK hi]; rfl)
      · skip
        have hkn : k < 8 := by
          have hq1 := mt (le_nI (show (8 : Int32) = nI 8 from rfl) (rfl : nI k = nI k) (by omega) (by omega)).mpr cq7
          omega
        refine A_aload_n rfl dX0_trusts_10 ?_
        refine A_getR fr_X0_18.g rfl (lj hj) rfl dX0_trusts_11 ?_
        refine A_iload_n rfl dX0_trusts_14 ?_
        refine A_iald _ rfl (lj3 hj) (by omega) (by decide) dX0_trusts_15 ?_
        refine A_iload_n rfl dX0_trusts_16 ?_
        refine A_ishr dX0_trusts_17 ?_
        refine A_iconst ic_1 dX0_trusts_18 ?_
        refine A_iand dX0_trusts_19 ?_
        refine A_if_eq 32 rfl dX0_trusts_20 (fun cq20 => ?_) (fun cq20 => ?_)
        · skip
          refine A_iinc ic_1 rfl (by decide) rfl dX0_trusts_32 ?_
          refine A_goto 4 rfl dX0_trusts_35 ?_
          refine ih (8 - (k + 1)) (by omega) (k + 1) _ _ rfl (by omega) (nI_1 k) ?_
          rw [hs, q_wt]
          first
            | (have h7 : q_bit (I (j + 3) i) k = 0 := cq20; rw [e3] at h7; rw [h7]; simp)
            | (have h7 : ¬ q_bit (I (j + 3) i) k = 0 := cq20; rw [e3] at h7; rw [(bit_01 _ k).resolve_left h7, hR.2.2.2.2.2.2.1 k (by omega)]; simp)
        · skip
          refine A_iload_n rfl dX0_trusts_23 ?_
          refine A_aload_n rfl dX0_trusts_24 ?_
          refine A_getR fr_X0_27.g rfl (lj hj) rfl dX0_trusts_25 ?_
          refine A_iload_n rfl dX0_trusts_28 ?_
          refine A_iald _ rfl (lj6 hj) (by omega) (by decide) dX0_trusts_29 ?_
          refine A_iadd dX0_trusts_30 ?_
          refine A_istore_n (by decide) rfl dX0_trusts_31 ?_
          refine A_iinc ic_1 rfl (by decide) rfl dX0_trusts_32 ?_
          refine A_goto 4 rfl dX0_trusts_35 ?_
          refine ih (8 - (k + 1)) (by omega) (k + 1) _ _ rfl (by omega) (nI_1 k) ?_
          rw [hs, q_wt]
          first
            | (have h7 : q_bit (I (j + 3) i) k = 0 := cq20; rw [e3] at h7; rw [h7]; simp)
            | (have h7 : ¬ q_bit (I (j + 3) i) k = 0 := cq20; rw [e3] at h7; rw [(bit_01 _ k).resolve_left h7, hR.2.2.2.2.2.2.1 k (by omega)]; simp)
  refine Meth.of (by decide +kernel) (by simp [Value.category]) (Nat.le_of_ble_eq_true rfl) ?_
  refine A_iconst ic_0 dX0_trusts_0 ?_
  refine A_istore_n (by decide) rfl dX0_trusts_1 ?_
  refine A_iconst ic_0 dX0_trusts_2 ?_
  refine A_istore_n (by decide) rfl dX0_trusts_3 ?_
  exact loop 8 0 _ _ rfl (by omega) nI_0.symm rfl
theorem plain_in (N : Nrow) (i : Nat) : ∃ p, p ≤ 100 ∧ q_plain N i = nI p := hold_in _
set_option maxHeartbeats 1000000 in
set_option maxRecDepth 100000 in
theorem s_bel (l : Launch) (G : Gm) (j : Nat) (hj : isJ j) (I : Hp) (N : Nrow) (T : Nat) (hR : RepJ I j N) (hK : KnJ N) (hTx : TxJ N T) (hLw : LwR I N T) (hDo : DoJ N) (i : Nat) (hi : i < 10) : Meth l G yX0_believes cX0_believes 2 (some (FieldType.int)) 5 0 0 [.ref j, .int (nI i)] LAY I (fun r lay1 I1 => r = some (.int (q_bel N i)) ∧ lay1 = LAY ∧ ∀ q, q ≠ 2 → I1 q = I q) := by
  obtain ⟨p, hp, hpe⟩ := plain_in N i
  obtain ⟨d, hd, hde⟩ := hDo i hi
  have e1 : I (j + 1) i = N (16 + 5 * i) := hR.2.1 i hi
  have e4 : I (j + 4) i = N (19 + 5 * i) := hR.2.2.2.2.1 i hi
  refine Meth.of (by decide +kernel) (by simp [Value.category]) (Nat.le_of_ble_eq_true rfl) ?_
  refine A_aload_n rfl dX0_believes_0 ?_
  refine A_getR fr_X0_9.g rfl (lj hj) rfl dX0_believes_1 ?_
  refine A_iload_n rfl dX0_believes_4 ?_
  refine A_iald _ rfl (lj1 hj) (by omega) (by decide) dX0_believes_5 ?_
  refine A_aload_n rfl dX0_believes_6 ?_
  refine A_iload_n rfl dX0_believes_7 ?_
  refine A_callV (s_trusts l G j hj I N T hR hK hTx hLw i hi) m_X0_trusts ml_X0_100 rfl (lj hj) rfl (by decide) rfl rfl (Nat.le_of_ble_eq_true rfl) (by decide) (by decide) (by decide) dX0_believes_8 (fun _ _ _ hqq => congrArg List.length hqq.2.1) ?_
  rintro _ _ K2 ⟨rfl, rfl, hf2⟩
  rw [hpe]
  refine A_aload_n rfl dX0_believes_11 ?_
  refine A_getR fr_X0_21.g rfl (lj hj) rfl dX0_believes_12 ?_
  refine A_iload_n rfl dX0_believes_15 ?_
  refine A_iald _ rfl (lj4 hj) (by omega) (by decide) dX0_believes_16 ?_
  rw [show K2 (j + 4) i = nI d from by rw [hf2 _ (by rcases hj with rfl | rfl | rfl <;> decide), e4, hde]]
  refine A_callS (s_belK l G _ _ _ p d hp hd) m_X1_belief ml_X0_103 rfl rfl rfl (Nat.le_of_ble_eq_true rfl) (by decide) (by decide) (by decide) dX0_believes_17 (fun _ _ _ h => congrArg List.length h.2.1) ?_
  rintro _ _ _ ⟨rfl, rfl, e9⟩
  refine AW_I e9 ?_
  clear e9
  refine A_iret rfl rfl rfl rfl dX0_believes_20 ?_
  exact ⟨by rw [e1]; unfold q_bel; rw [hpe, hde]; rfl, rfl, hf2⟩
theorem lw_other {I K : Hp} {N : Nrow} {T : Nat} (h : LwR I N T) (hfr : ∀ q, q ≠ 2 → K q = I q) : LwR K N T := by
  intro t ht
  obtain ⟨key, len, h1, h2, h3, h4, h5, h6, h7⟩ := h t ht
  exact ⟨key, len, h1, h2, h3, by rw [hfr _ (by omega)]; exact h4, by rw [hfr _ (by omega)]; exact h5, by rw [hfr _ (by omega)]; exact h6, fun k hk => by rw [hfr _ (by omega)]; exact h7 k hk⟩
theorem isJ_2 {j : Nat} (h : isJ j) : 36 ≤ j ∧ j ≤ 52 := by rcases h with rfl | rfl | rfl <;> decide
set_option maxHeartbeats 1000000 in
set_option maxRecDepth 100000 in
theorem s_verdict (l : Launch) (G : Gm) (j : Nat) (hj : isJ j) (I : Hp) (N : Nrow) (T : Nat) (hR : RepJ I j N) (hK : KnJ N) (hTx : TxJ N T) (hLw : LwR I N T) (hDo : DoJ N) (i : Nat) (hi : i < 10) : Meth l G yX0_verdict cX0_verdict 2 (some (FieldType.int)) 6 0 0 [.ref j, .int (nI i)] LAY I (fun r lay1 I1 => r = some (.int (b2i (q_gui N i))) ∧ lay1 = LAY ∧ ∀ q, q ≠ 2 → I1 q = I q) := by
  have hj2 := isJ_2 hj
  refine Meth.of (by decide +kernel) (by simp [Value.category]) (Nat.le_of_ble_eq_true rfl) ?_
  refine A_aload_n rfl dX0_verdict_0 ?_
  refine A_iload_n rfl dX0_verdict_1 ?_
  refine A_callV (s_bel l G j hj I N T hR hK hTx hLw hDo i hi) m_X0_believes ml_X0_120 rfl (lj hj) rfl (by decide) rfl rfl (Nat.le_of_ble_eq_true rfl) (by decide) (by decide) (by decide) dX0_verdict_2 (fun _ _ _ hqq => congrArg List.length hqq.2.1) ?_
  rintro _ _ K2 ⟨rfl, rfl, hf2⟩
  refine A_aload_n rfl dX0_verdict_5 ?_
  refine A_getI fr_X0_33.g rfl (lj hj) dX0_verdict_6 ?_
  refine A_icmp_lt 16 rfl dX0_verdict_9 (fun cq9 => ?_) (fun cq9 => ?_)
  · skip
    refine A_iconst ic_0 dX0_verdict_16 ?_
    refine A_iret rfl rfl rfl rfl dX0_verdict_17 ?_
    refine ⟨?_, rfl, hf2⟩
    rw [hf2 j (by omega), hR.1.2.1] at cq9
    unfold q_gui
    first | rw [b2i_ff (Int32.not_le.mpr cq9)] | rw [b2i_tt (Int32.not_lt.mp cq9)]
  · skip
    refine A_iconst ic_1 dX0_verdict_12 ?_
    refine A_goto 17 rfl dX0_verdict_13 ?_
    refine A_iret rfl rfl rfl rfl dX0_verdict_17 ?_
    refine ⟨?_, rfl, hf2⟩
    rw [hf2 j (by omega), hR.1.2.1] at cq9
    unfold q_gui
    first | rw [b2i_ff (Int32.not_le.mpr cq9)] | rw [b2i_tt (Int32.not_lt.mp cq9)]
set_option maxHeartbeats 1000000 in
set_option maxRecDepth 100000 in
theorem s_vo (l : Launch) (G : Gm) (j : Nat) (hj : isJ j) (I : Hp) (N : Nrow) (T : Nat) (hR : RepJ I j N) (hK : KnJ N) (hTx : TxJ N T) (hLw : LwR I N T) (hDo : DoJ N) (n : Nat) (hn : n ≤ 10) (hN : N 1 = nI n) : Meth l G yX0_votes cX0_votes 3 (some (FieldType.int)) 6 0 0 [.ref j] LAY I (fun r lay1 I1 => r = some (.int (q_vo N n)) ∧ lay1 = LAY ∧ ∀ q, q ≠ 2 → I1 q = I q) := by
  have hj2 := isJ_2 hj
  have loop : ∀ (lpn : Nat) (k : Nat) (x s : Int32) (K : Hp), n - k = lpn → (k ≤ n) → (x = nI k) → (s = q_vo N k) → (∀ q, q ≠ 2 → K q = I q) → AW l G yX0_votes cX0_votes 3 (some (FieldType.int)) 6 0 0 (fun r lay1 I1 => r = some (.int (q_vo N n)) ∧ lay1 = LAY ∧ ∀ q, q ≠ 2 → I1 q = I q) 0 0 4 [some (.ref j), some (.int s), some (.int x)] [] LAY K := by
    intro lpn
    induction lpn using Nat.strongRecOn with
    | _ lpn ih =>
      intro k x s K hms hk hx hs hfr
      subst hx
      have hsz : K j 8 = nI n := by rw [hfr j (by omega)]; exact hR.1.1.trans hN
      refine A_iload_n rfl dX0_votes_4 ?_
      refine A_aload_n rfl dX0_votes_5 ?_
      refine A_getI fr_X0_53.g rfl (lj hj) dX0_votes_6 ?_
      refine A_icmp_ge 33 rfl dX0_votes_9 (fun cq9 => ?_) (fun cq9 => ?_)
      · skip
        have hkn := (le_nI hsz rfl (by omega) (by omega)).mp cq9
        have hke : k = n := by omega
        subst hke
        refine A_iload_n rfl dX0_votes_33 ?_
        refine A_iret rfl rfl rfl rfl dX0_votes_34 ?_
        exact ⟨by rw [hs], rfl, hfr⟩
      · skip
        have hkn : k < n := by
          have hq1 := mt (le_nI hsz (rfl : nI k = nI k) (by omega) (by omega)).mpr cq9
          omega
        refine A_aload_n rfl dX0_votes_12 ?_
        refine A_iload_n rfl dX0_votes_13 ?_
        refine A_callV (s_bel l G j hj K N T (hR.other (fun q h1 h2 => hfr q (by have := hj2; omega))) hK hTx (lw_other hLw hfr) hDo k (by omega)) m_X0_believes ml_X0_120 rfl (lj hj) rfl (by decide) rfl rfl (Nat.le_of_ble_eq_true rfl) (by decide) (by decide) (by decide) dX0_votes_14 (fun _ _ _ hqq => congrArg List.length hqq.2.1) ?_
        rintro _ _ K2 ⟨rfl, rfl, hf2⟩
        refine A_aload_n rfl dX0_votes_17 ?_
        refine A_getI fr_X0_33.g rfl (lj hj) dX0_votes_18 ?_
        refine A_icmp_lt 27 rfl dX0_votes_21 (fun cq21 => ?_) (fun cq21 => ?_)
        · skip
          refine A_iinc ic_1 rfl (by decide) rfl dX0_votes_27 ?_
          refine A_goto 4 rfl dX0_votes_30 ?_
          refine ih (n - (k + 1)) (by omega) (k + 1) _ _ _ rfl (by omega) (nI_1 k) ?_ (fun q h1 => (hf2 q h1).trans (hfr q h1))
          rw [hf2 j (by omega), hfr j (by omega), hR.1.2.1] at cq21
          rw [hs, q_vo]
          unfold q_gui
          first | (rw [b2i_ff (Int32.not_le.mpr cq21)]; simp; done) | rw [b2i_tt (Int32.not_lt.mp cq21)]
        · skip
          refine A_iinc ic_1 rfl (by decide) rfl dX0_votes_24 ?_
          refine A_iinc ic_1 rfl (by decide) rfl dX0_votes_27 ?_
          refine A_goto 4 rfl dX0_votes_30 ?_
          refine ih (n - (k + 1)) (by omega) (k + 1) _ _ _ rfl (by omega) (nI_1 k) ?_ (fun q h1 => (hf2 q h1).trans (hfr q h1))
          rw [hf2 j (by omega), hfr j (by omega), hR.1.2.1] at cq21
          rw [hs, q_vo]
          unfold q_gui
          first | (rw [b2i_ff (Int32.not_le.mpr cq21)]; simp; done) | rw [b2i_tt (Int32.not_lt.mp cq21)]
  refine Meth.of (by decide +kernel) (by simp [Value.category]) (Nat.le_of_ble_eq_true rfl) ?_
  refine A_iconst ic_0 dX0_votes_0 ?_
  refine A_istore_n (by decide) rfl dX0_votes_1 ?_
  refine A_iconst ic_0 dX0_votes_2 ?_
  refine A_istore_n (by decide) rfl dX0_votes_3 ?_
  exact loop n 0 _ _ I (by omega) (by omega) nI_0.symm rfl (fun _ _ => rfl)
