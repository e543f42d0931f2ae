def setN (I : Hp) (N : Nrow) : Hp := fun k => if k = 87 then N else I k
theorem setN_87 {I : Hp} {N : Nrow} : setN I N 87 = N := by simp [setN]
theorem setN_ne {I : Hp} {N : Nrow} {k : Nat} (h : k ≠ 87) : setN I N k = I k := by simp [setN, h]
theorem setN_up {I : Hp} {i : Nat} {x : Int32} : up2 I 87 i x = setN I (upd (I 87) i x) := rfl
theorem setN_set {I : Hp} {N M : Nrow} : setN (setN I N) M = setN I M := by funext k; simp only [setN]; split <;> rfl
theorem setN_self {I : Hp} : setN I (I 87) = I := by funext k; simp only [setN]; split <;> simp_all
theorem ix_of (j w : Nat) : (16 : Int32) + 5 * nI j + nI w = nI (16 + w + 5 * j) := by rw [show (16 : Int32) = nI 16 from rfl, show (5 : Int32) = nI 5 from rfl, pk_mul, nI_add, nI_add, show 16 + 5 * j + w = 16 + w + 5 * j by omega]
theorem ix_8 (f : Nat) : (8 : Int32) + nI f = nI (8 + f) := by rw [show (8 : Int32) = nI 8 from rfl, nI_add]
set_option maxHeartbeats 4000000 in
set_option maxRecDepth 100000 in
theorem t_of (l : Launch) (G : Gm) (I : Hp) (N : Nrow) (h87 : I 87 = N) (j w : Nat) (hb : 16 + w + 5 * j < 1438) : Meth l G yX8_of cX8_of 3 (some (FieldType.int)) 1 0 0 [.ref 86, .int (nI j), .int (nI w)] LAY I (fun r lay1 I1 => r = some (.int (N (16 + w + 5 * j))) ∧ lay1 = LAY ∧ I1 = I) := by
  subst h87
  refine Meth.of (by decide +kernel) (by simp [Value.category]) (Nat.le_of_ble_eq_true rfl) ?_
  refine A_aload_n rfl dX8_of_0 ?_
  refine A_getR fr_X8_9.g rfl lay_86 rfl dX8_of_1 ?_
  refine A_bipush bp_16 dX8_of_4 ?_
  refine A_iconst ic_5 dX8_of_6 ?_
  refine A_iload_n rfl dX8_of_7 ?_
  refine A_imul dX8_of_8 ?_
  refine A_iadd dX8_of_9 ?_
  refine A_iload_n rfl dX8_of_10 ?_
  refine A_iadd dX8_of_11 ?_
  refine A_iald (16 + w + 5 * j) (ix_of j w) lay_87 (by omega) (by decide) dX8_of_12 ?_
  refine A_iret rfl rfl rfl rfl dX8_of_13 ?_
  exact ⟨rfl, rfl, rfl⟩
set_option maxHeartbeats 4000000 in
set_option maxRecDepth 100000 in
theorem t_put (l : Launch) (G : Gm) (I : Hp) (N : Nrow) (h87 : I 87 = N) (j w : Nat) (v : Int32) (hb : 16 + w + 5 * j < 1438) : Meth l G yX8_put cX8_put 4 none 1 0 0 [.ref 86, .int (nI j), .int (nI w), .int v] LAY I (fun r lay1 I1 => r = none ∧ lay1 = LAY ∧ I1 = setN I (upd N (16 + w + 5 * j) v)) := by
  subst h87
  refine Meth.of (by decide +kernel) (by simp [Value.category]) (Nat.le_of_ble_eq_true rfl) ?_
  refine A_aload_n rfl dX8_put_0 ?_
  refine A_getR fr_X8_9.g rfl lay_86 rfl dX8_put_1 ?_
  refine A_bipush bp_16 dX8_put_4 ?_
  refine A_iconst ic_5 dX8_put_6 ?_
  refine A_iload_n rfl dX8_put_7 ?_
  refine A_imul dX8_put_8 ?_
  refine A_iadd dX8_put_9 ?_
  refine A_iload_n rfl dX8_put_10 ?_
  refine A_iadd dX8_put_11 ?_
  refine A_iload_n rfl dX8_put_12 ?_
  refine A_iast (16 + w + 5 * j) (ix_of j w) lay_87 (by omega) (by decide) dX8_put_13 ?_
  refine A_vret rfl rfl rfl dX8_put_14 ?_
  exact ⟨rfl, rfl, rfl⟩
set_option maxHeartbeats 4000000 in
set_option maxRecDepth 100000 in
theorem t_becomes (l : Launch) (G : Gm) (I : Hp) (N : Nrow) (h87 : I 87 = N) (q : Nat) (v : Int32) (hb : q < 1438) : Meth l G yX8_becomes cX8_becomes 4 (some (FieldType.int)) 1 0 0 [.ref 86, .int (nI q), .int v] LAY I (fun r lay1 I1 => r = some (.int (N q)) ∧ lay1 = LAY ∧ I1 = setN I (upd N q v)) := by
  subst h87
  refine Meth.of (by decide +kernel) (by simp [Value.category]) (Nat.le_of_ble_eq_true rfl) ?_
  refine A_aload_n rfl dX8_becomes_0 ?_
  refine A_getR fr_X8_9.g rfl lay_86 rfl dX8_becomes_1 ?_
  refine A_iload_n rfl dX8_becomes_4 ?_
  refine A_iald _ rfl lay_87 (by omega) (by decide) dX8_becomes_5 ?_
  refine A_istore_n (by decide) rfl dX8_becomes_6 ?_
  refine A_aload_n rfl dX8_becomes_7 ?_
  refine A_getR fr_X8_9.g rfl lay_86 rfl dX8_becomes_8 ?_
  refine A_iload_n rfl dX8_becomes_11 ?_
  refine A_iload_n rfl dX8_becomes_12 ?_
  refine A_iast _ rfl lay_87 (by omega) (by decide) dX8_becomes_13 ?_
  refine A_iload_n rfl dX8_becomes_14 ?_
  refine A_iret rfl rfl rfl rfl dX8_becomes_15 ?_
  exact ⟨rfl, rfl, rfl⟩
theorem jur_iff {n : Nat} (hn : n ≤ 10) {x v : Int32} (hx : x = nI n) : (0 ≤ v ∧ v ≤ x - 1) ↔ (0 ≤ v ∧ v < x) := by
  subst hx
  have h1 : (nI n - 1).toInt = (n : Int) - 1 := pk_sub_toInt (a := n) (b := 1) (by omega) (by omega)
  have h2 : (nI n).toInt = n := nI_toInt (by omega)
  rw [Int32.le_iff_toInt_le, Int32.le_iff_toInt_le, Int32.lt_iff_toInt_lt, h1, h2]
  omega
set_option maxHeartbeats 4000000 in
set_option maxRecDepth 100000 in
theorem t_isJuror (l : Launch) (G : Gm) (I : Hp) (N : Nrow) (h87 : I 87 = N) (v : Int32) (n : Nat) (hn : n ≤ 10) (hN : N 1 = nI n) : Meth l G yX8_isJuror cX8_isJuror 2 (some (FieldType.boolean)) 2 0 0 [.ref 86, .int v] LAY I (fun r lay1 I1 => r = some (.int (b2i (decide (0 ≤ v ∧ v < N 1)))) ∧ lay1 = LAY ∧ I1 = I) := by
  subst h87
  refine Meth.of (by decide +kernel) (by simp [Value.category]) (Nat.le_of_ble_eq_true rfl) ?_
  refine A_iload_n rfl dX8_isJuror_0 ?_
  refine A_iconst ic_0 dX8_isJuror_1 ?_
  refine A_aload_n rfl dX8_isJuror_2 ?_
  refine A_getR fr_X8_9.g rfl lay_86 rfl dX8_isJuror_3 ?_
  refine A_iconst ic_1 dX8_isJuror_6 ?_
  refine A_iald 1 rfl lay_87 (by decide) (by decide) dX8_isJuror_7 ?_
  refine A_iconst ic_1 dX8_isJuror_8 ?_
  refine A_isub dX8_isJuror_9 ?_
  refine A_callS (s_in l G _ _ _ _ _) m_X8_in ml_X8_80 rfl rfl rfl (Nat.le_of_ble_eq_true rfl) (by decide) (by decide) (by decide) dX8_isJuror_10 (fun _ _ _ h => congrArg List.length h.2.1) ?_
  rintro _ _ _ ⟨rfl, rfl, e9⟩
  refine AW_I e9 ?_
  clear e9
  refine A_iret rfl (b2i_n _) rfl rfl dX8_isJuror_13 ?_
  exact ⟨by simp only [jur_iff hn hN], rfl, rfl⟩
set_option maxHeartbeats 4000000 in
set_option maxRecDepth 100000 in
theorem t_bits (l : Launch) (G : Gm) (lay : Lay) (I : Hp) (v : Int32) : Meth l G yX8_bitsOf cX8_bitsOf 3 (some (FieldType.int)) 1 0 0 [.int v] lay I (fun r lay1 I1 => r = some (.int (q_bits v 8)) ∧ lay1 = lay ∧ I1 = I) := by
  have loop : ∀ (lpn : Nat) (k : Nat) (x s : Int32), 8 - k = lpn → (k ≤ 8) → (x = nI k) → (s = q_bits v k) → AW l G yX8_bitsOf cX8_bitsOf 3 (some (FieldType.int)) 1 0 0 (fun r lay1 I1 => r = some (.int (q_bits v 8)) ∧ lay1 = lay ∧ I1 = I) 0 0 4 [some (.int v), some (.int s), some (.int x)] [] lay I := by
    intro lpn
    induction lpn using Nat.strongRecOn with
    | _ lpn ih =>
      intro k x s hms hk hx hs
      refine A_iload_n rfl dX8_bitsOf_4 ?_
      refine A_bipush bp_8 dX8_bitsOf_5 ?_
      refine A_icmp_ge 24 rfl dX8_bitsOf_7 (fun cq7 => ?_) (fun cq7 => ?_)
      · skip
        have hkn := (le_nI (show (8 : Int32) = nI 8 from rfl) hx (by omega) (by omega)).mp cq7
        have hke : k = 8 := by omega
        subst hke
        refine A_iload_n rfl dX8_bitsOf_24 ?_
        refine A_iret rfl rfl rfl rfl dX8_bitsOf_25 ?_
        exact ⟨by rw [hs], rfl, rfl⟩
      · skip
        have hkn : k < 8 := by
          have hq1 := mt (le_nI (show (8 : Int32) = nI 8 from rfl) hx (by omega) (by omega)).mpr cq7
          omega
        refine A_iload_n rfl dX8_bitsOf_10 ?_
        refine A_iload_n rfl dX8_bitsOf_11 ?_
        refine A_iload_n rfl dX8_bitsOf_12 ?_
        refine A_ishr dX8_bitsOf_13 ?_
        refine A_iconst ic_1 dX8_bitsOf_14 ?_
        refine A_iand dX8_bitsOf_15 ?_
        refine A_iadd dX8_bitsOf_16 ?_
        refine A_istore_n (by decide) rfl dX8_bitsOf_17 ?_
        refine A_iinc ic_1 rfl (by decide) rfl dX8_bitsOf_18 ?_
        refine A_goto 4 rfl dX8_bitsOf_21 ?_
        exact ih (8 - (k + 1)) (by omega) (k + 1) _ _ rfl (by omega) (suc_nI hx) (by rw [hs, hx]; rfl)
  refine Meth.of (by decide +kernel) (by simp [Value.category]) (Nat.le_of_ble_eq_true rfl) ?_
  refine A_iconst ic_0 dX8_bitsOf_0 ?_
  refine A_istore_n (by decide) rfl dX8_bitsOf_1 ?_
  refine A_iconst ic_0 dX8_bitsOf_2 ?_
  refine A_istore_n (by decide) rfl dX8_bitsOf_3 ?_
  exact loop 8 0 _ _ rfl (by omega) nI_0.symm rfl
set_option maxHeartbeats 4000000 in
set_option maxRecDepth 100000 in
theorem t_weight (l : Launch) (G : Gm) (I : Hp) (N : Nrow) (h87 : I 87 = N) (v : Int32) : Meth l G yX8_weightOf cX8_weightOf 4 (some (FieldType.int)) 1 0 0 [.ref 86, .int v] LAY I (fun r lay1 I1 => r = some (.int (q_wt N v 8)) ∧ lay1 = LAY ∧ I1 = I) := by
  subst h87
  have loop : ∀ (lpn : Nat) (k : Nat) (x s : Int32), 8 - k = lpn → (k ≤ 8) → (x = nI k) → (s = q_wt (I 87) v k) → AW l G yX8_weightOf cX8_weightOf 4 (some (FieldType.int)) 1 0 0 (fun r lay1 I1 => r = some (.int (q_wt (I 87) v 8)) ∧ lay1 = LAY ∧ I1 = I) 0 0 4 [some (.ref 86), some (.int v), some (.int s), some (.int x)] [] LAY I := by
    intro lpn
    induction lpn using Nat.strongRecOn with
    | _ lpn ih =>
      intro k x s hms hk hx hs
      refine A_iload_n rfl dX8_weightOf_4 ?_
      refine A_bipush bp_8 dX8_weightOf_5 ?_
      refine A_icmp_ge 34 rfl dX8_weightOf_7 (fun cq7 => ?_) (fun cq7 => ?_)
      · skip
        have hkn := (le_nI (show (8 : Int32) = nI 8 from rfl) hx (by omega) (by omega)).mp cq7
        have hke : k = 8 := by omega
        subst hke
        refine A_iload_n rfl dX8_weightOf_34 ?_
        refine A_iret rfl rfl rfl rfl dX8_weightOf_35 ?_
        exact ⟨by rw [hs], rfl, rfl⟩
      · skip
        have hkn : k < 8 := by
          have hq1 := mt (le_nI (show (8 : Int32) = nI 8 from rfl) hx (by omega) (by omega)).mpr cq7
          omega
        refine A_iload_n rfl dX8_weightOf_10 ?_
        refine A_iload_n rfl dX8_weightOf_11 ?_
        refine A_iload_n rfl dX8_weightOf_12 ?_
        refine A_ishr dX8_weightOf_13 ?_
        refine A_iconst ic_1 dX8_weightOf_14 ?_
        refine A_iand dX8_weightOf_15 ?_
        refine A_aload_n rfl dX8_weightOf_16 ?_
        refine A_getR fr_X8_9.g rfl lay_86 rfl dX8_weightOf_17 ?_
        refine A_bipush bp_8 dX8_weightOf_20 ?_
        refine A_iload_n rfl dX8_weightOf_22 ?_
        refine A_iadd dX8_weightOf_23 ?_
        refine A_iald (8 + k) (by rw [hx]; exact ix_8 k) lay_87 (by omega) (by decide) dX8_weightOf_24 ?_
        refine A_imul dX8_weightOf_25 ?_
        refine A_iadd dX8_weightOf_26 ?_
        refine A_istore_n (by decide) rfl dX8_weightOf_27 ?_
        refine A_iinc ic_1 rfl (by decide) rfl dX8_weightOf_28 ?_
        refine A_goto 4 rfl dX8_weightOf_31 ?_
        exact ih (8 - (k + 1)) (by omega) (k + 1) _ _ rfl (by omega) (suc_nI hx) (by rw [hs, hx]; rfl)
  refine Meth.of (by decide +kernel) (by simp [Value.category]) (Nat.le_of_ble_eq_true rfl) ?_
  refine A_iconst ic_0 dX8_weightOf_0 ?_
  refine A_istore_n (by decide) rfl dX8_weightOf_1 ?_
  refine A_iconst ic_0 dX8_weightOf_2 ?_
  refine A_istore_n (by decide) rfl dX8_weightOf_3 ?_
  exact loop 8 0 _ _ rfl (by omega) nI_0.symm rfl
set_option maxHeartbeats 4000000 in
set_option maxRecDepth 100000 in
theorem t_com (l : Launch) (G : Gm) (I : Hp) (N : Nrow) (h87 : I 87 = N) (n : Nat) (hn : n ≤ 10) (hN : N 1 = nI n) : Meth l G yX8_common cX8_common 3 (some (FieldType.int)) 2 0 0 [.ref 86] LAY I (fun r lay1 I1 => r = some (.int (q_com N n)) ∧ lay1 = LAY ∧ I1 = I) := by
  subst h87
  have loop : ∀ (lpn : Nat) (k : Nat) (x s : Int32), n - k = lpn → (k ≤ n) → (x = nI k) → (s = q_com (I 87) k) → AW l G yX8_common cX8_common 3 (some (FieldType.int)) 2 0 0 (fun r lay1 I1 => r = some (.int (q_com (I 87) n)) ∧ lay1 = LAY ∧ I1 = I) 0 0 6 [some (.ref 86), some (.int s), some (.int x)] [] LAY I := by
    intro lpn
    induction lpn using Nat.strongRecOn with
    | _ lpn ih =>
      intro k x s hms hk hx hs
      subst hx
      refine A_iload_n rfl dX8_common_6 ?_
      refine A_aload_n rfl dX8_common_7 ?_
      refine A_getR fr_X8_9.g rfl lay_86 rfl dX8_common_8 ?_
      refine A_iconst ic_1 dX8_common_11 ?_
      refine A_iald 1 rfl lay_87 (by decide) (by decide) dX8_common_12 ?_
      refine A_icmp_ge 31 rfl dX8_common_13 (fun cq13 => ?_) (fun cq13 => ?_)
      · skip
        have hkn := (le_nI hN rfl (by omega) (by omega)).mp cq13
        have hke : k = n := by omega
        subst hke
        refine A_iload_n rfl dX8_common_31 ?_
        refine A_iret rfl rfl rfl rfl dX8_common_32 ?_
        exact ⟨by rw [hs], rfl, rfl⟩
      · skip
        have hkn : k < n := by
          have hq1 := mt (le_nI hN rfl (by omega) (by omega)).mpr cq13
          omega
        refine A_iload_n rfl dX8_common_16 ?_
        refine A_aload_n rfl dX8_common_17 ?_
        refine A_iload_n rfl dX8_common_18 ?_
        refine A_iconst ic_2 dX8_common_19 ?_
        refine A_callV (t_of l G I _ rfl k 2 (by omega)) m_X8_of ml_X8_94 rfl lay_86 rfl (by decide) rfl rfl (Nat.le_of_ble_eq_true rfl) (by decide) (by decide) (by decide) dX8_common_20 (fun _ _ _ h => congrArg List.length h.2.1) ?_
        rintro _ _ _ ⟨rfl, rfl, e9⟩
        refine AW_I e9 ?_
        clear e9
        refine A_iand dX8_common_23 ?_
        refine A_istore_n (by decide) rfl dX8_common_24 ?_
        refine A_iinc ic_1 rfl (by decide) rfl dX8_common_25 ?_
        refine A_goto 6 rfl dX8_common_28 ?_
        exact ih (n - (k + 1)) (by omega) (k + 1) _ _ rfl (by omega) (nI_1 k) (by rw [hs]; rfl)
  refine Meth.of (by decide +kernel) (by simp [Value.category]) (Nat.le_of_ble_eq_true rfl) ?_
  refine A_sipush sp_255 dX8_common_0 ?_
  refine A_istore_n (by decide) rfl dX8_common_3 ?_
  refine A_iconst ic_0 dX8_common_4 ?_
  refine A_istore_n (by decide) rfl dX8_common_5 ?_
  exact loop n 0 _ _ (by omega) (by omega) nI_0.symm rfl
set_option maxHeartbeats 4000000 in
set_option maxRecDepth 100000 in
theorem t_any (l : Launch) (G : Gm) (I : Hp) (N : Nrow) (h87 : I 87 = N) (n : Nat) (hn : n ≤ 10) (hN : N 1 = nI n) : Meth l G yX8_any cX8_any 3 (some (FieldType.int)) 2 0 0 [.ref 86] LAY I (fun r lay1 I1 => r = some (.int (q_any N n)) ∧ lay1 = LAY ∧ I1 = I) := by
  subst h87
  have loop : ∀ (lpn : Nat) (k : Nat) (x s : Int32), n - k = lpn → (k ≤ n) → (x = nI k) → (s = q_any (I 87) k) → AW l G yX8_any cX8_any 3 (some (FieldType.int)) 2 0 0 (fun r lay1 I1 => r = some (.int (q_any (I 87) n)) ∧ lay1 = LAY ∧ I1 = I) 0 0 4 [some (.ref 86), some (.int s), some (.int x)] [] LAY I := by
    intro lpn
    induction lpn using Nat.strongRecOn with
    | _ lpn ih =>
      intro k x s hms hk hx hs
      subst hx
      refine A_iload_n rfl dX8_any_4 ?_
      refine A_aload_n rfl dX8_any_5 ?_
      refine A_getR fr_X8_9.g rfl lay_86 rfl dX8_any_6 ?_
      refine A_iconst ic_1 dX8_any_9 ?_
      refine A_iald 1 rfl lay_87 (by decide) (by decide) dX8_any_10 ?_
      refine A_icmp_ge 29 rfl dX8_any_11 (fun cq11 => ?_) (fun cq11 => ?_)
      · skip
        have hkn := (le_nI hN rfl (by omega) (by omega)).mp cq11
        have hke : k = n := by omega
        subst hke
        refine A_iload_n rfl dX8_any_29 ?_
        refine A_iret rfl rfl rfl rfl dX8_any_30 ?_
        exact ⟨by rw [hs], rfl, rfl⟩
      · skip
        have hkn : k < n := by
          have hq1 := mt (le_nI hN rfl (by omega) (by omega)).mpr cq11
          omega
        refine A_iload_n rfl dX8_any_14 ?_
        refine A_aload_n rfl dX8_any_15 ?_
        refine A_iload_n rfl dX8_any_16 ?_
        refine A_iconst ic_2 dX8_any_17 ?_
        refine A_callV (t_of l G I _ rfl k 2 (by omega)) m_X8_of ml_X8_94 rfl lay_86 rfl (by decide) rfl rfl (Nat.le_of_ble_eq_true rfl) (by decide) (by decide) (by decide) dX8_any_18 (fun _ _ _ h => congrArg List.length h.2.1) ?_
        rintro _ _ _ ⟨rfl, rfl, e9⟩
        refine AW_I e9 ?_
        clear e9
        refine A_ior dX8_any_21 ?_
        refine A_istore_n (by decide) rfl dX8_any_22 ?_
        refine A_iinc ic_1 rfl (by decide) rfl dX8_any_23 ?_
        refine A_goto 4 rfl dX8_any_26 ?_
        exact ih (n - (k + 1)) (by omega) (k + 1) _ _ rfl (by omega) (nI_1 k) (by rw [hs]; rfl)
  refine Meth.of (by decide +kernel) (by simp [Value.category]) (Nat.le_of_ble_eq_true rfl) ?_
  refine A_iconst ic_0 dX8_any_0 ?_
  refine A_istore_n (by decide) rfl dX8_any_1 ?_
  refine A_iconst ic_0 dX8_any_2 ?_
  refine A_istore_n (by decide) rfl dX8_any_3 ?_
  exact loop n 0 _ _ (by omega) (by omega) nI_0.symm rfl
set_option maxHeartbeats 4000000 in
set_option maxRecDepth 100000 in
theorem t_kn (l : Launch) (G : Gm) (I : Hp) (N : Nrow) (h87 : I 87 = N) (n : Nat) (hn : n ≤ 10) (hN : N 1 = nI n) : Meth l G yX8_knownAll cX8_knownAll 3 (some (FieldType.int)) 2 0 0 [.ref 86] LAY I (fun r lay1 I1 => r = some (.int (q_kn N n)) ∧ lay1 = LAY ∧ I1 = I) := by
  subst h87
  have loop : ∀ (lpn : Nat) (k : Nat) (x s : Int32), n - k = lpn → (k ≤ n) → (x = nI k) → (s = q_kn (I 87) k) → AW l G yX8_knownAll cX8_knownAll 3 (some (FieldType.int)) 2 0 0 (fun r lay1 I1 => r = some (.int (q_kn (I 87) n)) ∧ lay1 = LAY ∧ I1 = I) 0 0 4 [some (.ref 86), some (.int s), some (.int x)] [] LAY I := by
    intro lpn
    induction lpn using Nat.strongRecOn with
    | _ lpn ih =>
      intro k x s hms hk hx hs
      subst hx
      refine A_iload_n rfl dX8_knownAll_4 ?_
      refine A_aload_n rfl dX8_knownAll_5 ?_
      refine A_getR fr_X8_9.g rfl lay_86 rfl dX8_knownAll_6 ?_
      refine A_iconst ic_1 dX8_knownAll_9 ?_
      refine A_iald 1 rfl lay_87 (by decide) (by decide) dX8_knownAll_10 ?_
      refine A_icmp_ge 32 rfl dX8_knownAll_11 (fun cq11 => ?_) (fun cq11 => ?_)
      · skip
        have hkn := (le_nI hN rfl (by omega) (by omega)).mp cq11
        have hke : k = n := by omega
        subst hke
        refine A_iload_n rfl dX8_knownAll_32 ?_
        refine A_iret rfl rfl rfl rfl dX8_knownAll_33 ?_
        exact ⟨by rw [hs], rfl, rfl⟩
      · skip
        have hkn : k < n := by
          have hq1 := mt (le_nI hN rfl (by omega) (by omega)).mpr cq11
          omega
        refine A_iload_n rfl dX8_knownAll_14 ?_
        refine A_aload_n rfl dX8_knownAll_15 ?_
        refine A_iload_n rfl dX8_knownAll_16 ?_
        refine A_iconst ic_2 dX8_knownAll_17 ?_
        refine A_callV (t_of l G I _ rfl k 2 (by omega)) m_X8_of ml_X8_94 rfl lay_86 rfl (by decide) rfl rfl (Nat.le_of_ble_eq_true rfl) (by decide) (by decide) (by decide) dX8_knownAll_18 (fun _ _ _ h => congrArg List.length h.2.1) ?_
        rintro _ _ _ ⟨rfl, rfl, e9⟩
        refine AW_I e9 ?_
        clear e9
        refine A_callS (t_bits l G _ _ _) m_X8_bitsOf ml_X8_105 rfl rfl rfl (Nat.le_of_ble_eq_true rfl) (by decide) (by decide) (by decide) dX8_knownAll_21 (fun _ _ _ h => congrArg List.length h.2.1) ?_
        rintro _ _ _ ⟨rfl, rfl, e9⟩
        refine AW_I e9 ?_
        clear e9
        refine A_iadd dX8_knownAll_24 ?_
        refine A_istore_n (by decide) rfl dX8_knownAll_25 ?_
        refine A_iinc ic_1 rfl (by decide) rfl dX8_knownAll_26 ?_
        refine A_goto 4 rfl dX8_knownAll_29 ?_
        exact ih (n - (k + 1)) (by omega) (k + 1) _ _ rfl (by omega) (nI_1 k) (by rw [hs]; rfl)
  refine Meth.of (by decide +kernel) (by simp [Value.category]) (Nat.le_of_ble_eq_true rfl) ?_
  refine A_iconst ic_0 dX8_knownAll_0 ?_
  refine A_istore_n (by decide) rfl dX8_knownAll_1 ?_
  refine A_iconst ic_0 dX8_knownAll_2 ?_
  refine A_istore_n (by decide) rfl dX8_knownAll_3 ?_
  exact loop n 0 _ _ (by omega) (by omega) nI_0.symm rfl
set_option maxHeartbeats 4000000 in
set_option maxRecDepth 100000 in
theorem t_par (l : Launch) (G : Gm) (I : Hp) (N : Nrow) (h87 : I 87 = N) (n : Nat) (h0 : 0 < n) (hn : n ≤ 10) (hN : N 1 = nI n) (x : Int32) : Meth l G yX8_partnerOf cX8_partnerOf 3 (some (FieldType.int)) 1 0 0 [.ref 86, .int x] LAY I (fun r lay1 I1 => r = some (.int (q_par N x)) ∧ lay1 = LAY ∧ I1 = I) := by
  subst h87
  refine Meth.of (by decide +kernel) (by simp [Value.category]) (Nat.le_of_ble_eq_true rfl) ?_
  refine A_aload_n rfl dX8_partnerOf_0 ?_
  refine A_getR fr_X8_9.g rfl lay_86 rfl dX8_partnerOf_1 ?_
  refine A_iconst ic_2 dX8_partnerOf_4 ?_
  refine A_iald 2 rfl lay_87 (by decide) (by decide) dX8_partnerOf_5 ?_
  refine A_aload_n rfl dX8_partnerOf_6 ?_
  refine A_getR fr_X8_9.g rfl lay_86 rfl dX8_partnerOf_7 ?_
  refine A_iconst ic_5 dX8_partnerOf_10 ?_
  refine A_iald 5 rfl lay_87 (by decide) (by decide) dX8_partnerOf_11 ?_
  refine A_iadd dX8_partnerOf_12 ?_
  refine A_iload_n rfl dX8_partnerOf_13 ?_
  refine A_isub dX8_partnerOf_14 ?_
  refine A_aload_n rfl dX8_partnerOf_15 ?_
  refine A_getR fr_X8_9.g rfl lay_86 rfl dX8_partnerOf_16 ?_
  refine A_iconst ic_1 dX8_partnerOf_19 ?_
  refine A_iald 1 rfl lay_87 (by decide) (by decide) dX8_partnerOf_20 ?_
  refine A_irem dX8_partnerOf_21 (by rw [hN]; exact nI_ne0 h0 (by omega)) ?_
  refine A_istore_n (by decide) rfl dX8_partnerOf_22 ?_
  refine A_iload_n rfl dX8_partnerOf_23 ?_
  refine A_if_ge 38 rfl dX8_partnerOf_24 (fun cq24 => ?_) (fun cq24 => ?_)
  · skip
    refine A_iload_n rfl dX8_partnerOf_38 ?_
    refine A_iret rfl rfl rfl rfl dX8_partnerOf_39 ?_
    refine ⟨congrArg (fun z => some (Value.int z)) ?_, rfl, rfl⟩
    unfold q_par
    first | exact (if_neg (Int32.not_lt.mpr cq24)).symm | exact (if_pos (Int32.not_le.mp cq24)).symm
  · skip
    refine A_iload_n rfl dX8_partnerOf_27 ?_
    refine A_aload_n rfl dX8_partnerOf_28 ?_
    refine A_getR fr_X8_9.g rfl lay_86 rfl dX8_partnerOf_29 ?_
    refine A_iconst ic_1 dX8_partnerOf_32 ?_
    refine A_iald 1 rfl lay_87 (by decide) (by decide) dX8_partnerOf_33 ?_
    refine A_iadd dX8_partnerOf_34 ?_
    refine A_goto 39 rfl dX8_partnerOf_35 ?_
    refine A_iret rfl rfl rfl rfl dX8_partnerOf_39 ?_
    refine ⟨congrArg (fun z => some (Value.int z)) ?_, rfl, rfl⟩
    unfold q_par
    first | exact (if_neg (Int32.not_lt.mpr cq24)).symm | exact (if_pos (Int32.not_le.mp cq24)).symm
set_option maxHeartbeats 4000000 in
set_option maxRecDepth 100000 in
theorem t_draw (l : Launch) (G : Gm) (I : Hp) (N : Nrow) (h87 : I 87 = N)  : Meth l G yX8_draw cX8_draw 1 (some (FieldType.int)) 1 0 0 [.ref 86] LAY I (fun r lay1 I1 => r = some (.int (q_r (q_z (N 0)))) ∧ lay1 = LAY ∧ I1 = setN I (upd N 0 (q_z (N 0)))) := by
  subst h87
  refine Meth.of (by decide +kernel) (by simp [Value.category]) (Nat.le_of_ble_eq_true rfl) ?_
  refine A_aload_n rfl dX8_draw_0 ?_
  refine A_getR fr_X8_9.g rfl lay_86 rfl dX8_draw_1 ?_
  refine A_iconst ic_0 dX8_draw_4 ?_
  refine A_aload_n rfl dX8_draw_5 ?_
  refine A_getR fr_X8_9.g rfl lay_86 rfl dX8_draw_6 ?_
  refine A_iconst ic_0 dX8_draw_9 ?_
  refine A_iald 0 rfl lay_87 (by decide) (by decide) dX8_draw_10 ?_
  refine A_ldc kc_X8_148 rfl dX8_draw_11 ?_
  refine A_imul dX8_draw_13 ?_
  refine A_sipush sp_12345 dX8_draw_14 ?_
  refine A_iadd dX8_draw_17 ?_
  refine A_iast 0 rfl lay_87 (by decide) (by decide) dX8_draw_18 ?_
  refine A_aload_n rfl dX8_draw_19 ?_
  refine A_getR fr_X8_9.g rfl lay_86 rfl dX8_draw_20 ?_
  refine A_iconst ic_0 dX8_draw_23 ?_
  refine A_iald 0 rfl lay_87 (by decide) (by decide) dX8_draw_24 ?_
  refine A_bipush bp_8 dX8_draw_25 ?_
  refine A_iushr dX8_draw_27 ?_
  refine A_iret rfl rfl rfl rfl dX8_draw_28 ?_
  exact ⟨by rw [up2_same]; rfl, rfl, rfl⟩
set_option maxHeartbeats 4000000 in
set_option maxRecDepth 100000 in
theorem t_tell (l : Launch) (G : Gm) (I : Hp) (N : Nrow) (h87 : I 87 = N) (sil : Int32) (hsil : I 86 4 = sil) (a c : Nat) (ha : a < 10) (hc : c < 10) : Meth l G yX8_tellsOf cX8_tellsOf 8 (some (FieldType.int)) 2 0 0 [.ref 86, .int (nI a), .int (nI c)] LAY I (fun r lay1 I1 => r = some (.int (q_tell N sil a c)) ∧ lay1 = LAY ∧ I1 = I) := by
  subst h87
  have loop : ∀ (lpn : Nat) (k : Nat) (x b kd sv : Int32) (o7 : Option Value), 8 - k = lpn → (k ≤ 8) → (x = nI k) → (b = q_best (decide (kd = 1) || decide (kd = 3)) (q_may (I 87) kd sv) k) → (q_best (decide (kd = 1) || decide (kd = 3)) (q_may (I 87) kd sv) 8 = q_tell (I 87) sil a c) → AW l G yX8_tellsOf cX8_tellsOf 8 (some (FieldType.int)) 2 0 0 (fun r lay1 I1 => r = some (.int (q_tell (I 87) sil a c)) ∧ lay1 = LAY ∧ I1 = I) 0 0 47 [some (.ref 86), some (.int (nI a)), some (.int (nI c)), some (.int kd), some (.int sv), some (.int b), some (.int x), o7] [] LAY I := by
    intro lpn
    induction lpn using Nat.strongRecOn with
    | _ lpn ih =>
      intro k x b kd sv o7 hms hk hx hb hq
      subst hx
      have j93 : ∀ (mb : Bool), (k < 8) → (mb = q_may (I 87) kd sv k) → AW l G yX8_tellsOf cX8_tellsOf 8 (some (FieldType.int)) 2 0 0 (fun r lay1 I1 => r = some (.int (q_tell (I 87) sil a c)) ∧ lay1 = LAY ∧ I1 = I) 0 0 93 [some (.ref 86), some (.int (nI a)), some (.int (nI c)), some (.int kd), some (.int sv), some (.int b), some (.int (nI k)), o7] [.int (b2i mb)] LAY I := by
        intro mb hkn hm
        refine A_istore (by decide) rfl dX8_tellsOf_93 ?_
        refine A_iload rfl dX8_tellsOf_95 ?_
        refine A_if_eq 120 rfl dX8_tellsOf_97 (fun cq97 => ?_) (fun cq97 => ?_)
        · skip
          refine A_iload rfl dX8_tellsOf_120 ?_
          refine A_istore (by decide) rfl dX8_tellsOf_122 ?_
          refine A_iinc ic_1 rfl (by decide) rfl dX8_tellsOf_124 ?_
          refine A_goto 47 rfl dX8_tellsOf_127 ?_
          refine ih (8 - (k + 1)) (by omega) (k + 1) _ _ kd sv _ rfl (by omega) (nI_1 k) ?_ hq
          rw [q_best, ← hm, ← hb]
          split <;> first | with_reducible rfl | (rename_i hsp; exfalso; clear ih hq hb hm; (try rw [b2i_0] at cq97); (try rw [b2i_1] at cq97); first | (simp_all; done) | (simp_all; exact absurd cq102 (Int32.not_le.mpr hsp)))
        · skip
          refine A_iload rfl dX8_tellsOf_100 ?_
          refine A_if_lt 115 rfl dX8_tellsOf_102 (fun cq102 => ?_) (fun cq102 => ?_)
          · skip
            refine A_iload rfl dX8_tellsOf_115 ?_
            refine A_goto 122 rfl dX8_tellsOf_117 ?_
            refine A_istore (by decide) rfl dX8_tellsOf_122 ?_
            refine A_iinc ic_1 rfl (by decide) rfl dX8_tellsOf_124 ?_
            refine A_goto 47 rfl dX8_tellsOf_127 ?_
            refine ih (8 - (k + 1)) (by omega) (k + 1) _ _ kd sv _ rfl (by omega) (nI_1 k) ?_ hq
            rw [q_best, ← hm, ← hb]
            split <;> first | with_reducible rfl | (rename_i hsp; exfalso; clear ih hq hb hm; (try rw [b2i_0] at cq97); (try rw [b2i_1] at cq97); first | (simp_all; done) | (simp_all; exact absurd cq102 (Int32.not_le.mpr hsp)))
          · skip
            refine A_iload_n rfl dX8_tellsOf_105 ?_
            refine A_iconst ic_1 dX8_tellsOf_106 ?_
            refine A_icmp_eq 115 rfl dX8_tellsOf_107 (fun cq107 => ?_) (fun cq107 => ?_)
            · skip
              refine A_iload rfl dX8_tellsOf_115 ?_
              refine A_goto 122 rfl dX8_tellsOf_117 ?_
              refine A_istore (by decide) rfl dX8_tellsOf_122 ?_
              refine A_iinc ic_1 rfl (by decide) rfl dX8_tellsOf_124 ?_
              refine A_goto 47 rfl dX8_tellsOf_127 ?_
              refine ih (8 - (k + 1)) (by omega) (k + 1) _ _ kd sv _ rfl (by omega) (nI_1 k) ?_ hq
              rw [q_best, ← hm, ← hb]
              split <;> first | with_reducible rfl | (rename_i hsp; exfalso; clear ih hq hb hm; (try rw [b2i_0] at cq97); (try rw [b2i_1] at cq97); first | (simp_all; done) | (simp_all; exact absurd cq102 (Int32.not_le.mpr hsp)))
            · skip
              refine A_iload_n rfl dX8_tellsOf_110 ?_
              refine A_iconst ic_3 dX8_tellsOf_111 ?_
              refine A_icmp_ne 120 rfl dX8_tellsOf_112 (fun cq112 => ?_) (fun cq112 => ?_)
              · skip
                refine A_iload rfl dX8_tellsOf_120 ?_
                refine A_istore (by decide) rfl dX8_tellsOf_122 ?_
                refine A_iinc ic_1 rfl (by decide) rfl dX8_tellsOf_124 ?_
                refine A_goto 47 rfl dX8_tellsOf_127 ?_
                refine ih (8 - (k + 1)) (by omega) (k + 1) _ _ kd sv _ rfl (by omega) (nI_1 k) ?_ hq
                rw [q_best, ← hm, ← hb]
                split <;> first | with_reducible rfl | (rename_i hsp; exfalso; clear ih hq hb hm; (try rw [b2i_0] at cq97); (try rw [b2i_1] at cq97); first | (simp_all; done) | (simp_all; exact absurd cq102 (Int32.not_le.mpr hsp)))
              · skip
                refine A_iload rfl dX8_tellsOf_115 ?_
                refine A_goto 122 rfl dX8_tellsOf_117 ?_
                refine A_istore (by decide) rfl dX8_tellsOf_122 ?_
                refine A_iinc ic_1 rfl (by decide) rfl dX8_tellsOf_124 ?_
                refine A_goto 47 rfl dX8_tellsOf_127 ?_
                refine ih (8 - (k + 1)) (by omega) (k + 1) _ _ kd sv _ rfl (by omega) (nI_1 k) ?_ hq
                rw [q_best, ← hm, ← hb]
                split <;> first | with_reducible rfl | (rename_i hsp; exfalso; clear ih hq hb hm; (try rw [b2i_0] at cq97); (try rw [b2i_1] at cq97); first | (simp_all; done) | (simp_all; exact absurd cq102 (Int32.not_le.mpr hsp)))
      refine A_iload rfl dX8_tellsOf_47 ?_
      refine A_bipush bp_8 dX8_tellsOf_49 ?_
      refine A_icmp_ge 130 rfl dX8_tellsOf_51 (fun cq51 => ?_) (fun cq51 => ?_)
      · skip
        have hkn := (le_nI (show (8 : Int32) = nI 8 from rfl) rfl (by omega) (by omega)).mp cq51
        have hke : k = 8 := by omega
        subst hke
        refine A_iload rfl dX8_tellsOf_130 ?_
        refine A_iret rfl rfl rfl rfl dX8_tellsOf_132 ?_
        exact ⟨by rw [hb, hq], rfl, rfl⟩
      · skip
        have hkn : k < 8 := by
          have hq1 := mt (le_nI (show (8 : Int32) = nI 8 from rfl) (rfl : nI k = nI k) (by omega) (by omega)).mpr cq51
          omega
        refine A_iload rfl dX8_tellsOf_54 ?_
        refine A_iload rfl dX8_tellsOf_56 ?_
        refine A_ishr dX8_tellsOf_58 ?_
        refine A_iconst ic_1 dX8_tellsOf_59 ?_
        refine A_iand dX8_tellsOf_60 ?_
        refine A_iconst ic_1 dX8_tellsOf_61 ?_
        refine A_icmp_ne 92 rfl dX8_tellsOf_62 (fun cq62 => ?_) (fun cq62 => ?_)
        · skip
          refine A_iconst ic_0 dX8_tellsOf_92 ?_
          first | (refine j93 true hkn ?_; have hbt : q_bit sv k = 1 := cq62; simp [q_may, hbt]; done) | (refine j93 true hkn ?_; have hbt : q_bit sv k = 1 := cq62; simp_all [q_may]; done) | (refine j93 false hkn ?_; have hbt : ¬ q_bit sv k = 1 := cq62; simp [q_may, hbt]; done) | (refine j93 false hkn ?_; have hbt : q_bit sv k = 1 := cq62; simp_all [q_may]; done)
        · skip
          refine A_iload_n rfl dX8_tellsOf_65 ?_
          refine A_iconst ic_2 dX8_tellsOf_66 ?_
          refine A_icmp_eq 75 rfl dX8_tellsOf_67 (fun cq67 => ?_) (fun cq67 => ?_)
          · skip
            refine A_aload_n rfl dX8_tellsOf_75 ?_
            refine A_getR fr_X8_9.g rfl lay_86 rfl dX8_tellsOf_76 ?_
            refine A_bipush bp_8 dX8_tellsOf_79 ?_
            refine A_iload rfl dX8_tellsOf_81 ?_
            refine A_iadd dX8_tellsOf_83 ?_
            refine A_iald (8 + k) (ix_8 k) lay_87 (by omega) (by decide) dX8_tellsOf_84 ?_
            refine A_if_le 92 rfl dX8_tellsOf_85 (fun cq85 => ?_) (fun cq85 => ?_)
            · skip
              refine A_iconst ic_0 dX8_tellsOf_92 ?_
              first | (refine j93 true hkn ?_; have hbt : q_bit sv k = 1 := cq62; simp [q_may, hbt]; done) | (refine j93 true hkn ?_; have hbt : q_bit sv k = 1 := cq62; simp_all [q_may]; done) | (refine j93 false hkn ?_; have hbt : ¬ q_bit sv k = 1 := cq62; simp [q_may, hbt]; done) | (refine j93 false hkn ?_; have hbt : q_bit sv k = 1 := cq62; simp_all [q_may]; done)
            · skip
              refine A_iconst ic_1 dX8_tellsOf_88 ?_
              refine A_goto 93 rfl dX8_tellsOf_89 ?_
              first | (refine j93 true hkn ?_; have hbt : q_bit sv k = 1 := cq62; simp [q_may, hbt]; done) | (refine j93 true hkn ?_; have hbt : q_bit sv k = 1 := cq62; simp_all [q_may]; done) | (refine j93 false hkn ?_; have hbt : ¬ q_bit sv k = 1 := cq62; simp [q_may, hbt]; done) | (refine j93 false hkn ?_; have hbt : q_bit sv k = 1 := cq62; simp_all [q_may]; done)
          · skip
            refine A_iload_n rfl dX8_tellsOf_70 ?_
            refine A_iconst ic_4 dX8_tellsOf_71 ?_
            refine A_icmp_ne 88 rfl dX8_tellsOf_72 (fun cq72 => ?_) (fun cq72 => ?_)
            · skip
              refine A_iconst ic_1 dX8_tellsOf_88 ?_
              refine A_goto 93 rfl dX8_tellsOf_89 ?_
              first | (refine j93 true hkn ?_; have hbt : q_bit sv k = 1 := cq62; simp [q_may, hbt]; done) | (refine j93 true hkn ?_; have hbt : q_bit sv k = 1 := cq62; simp_all [q_may]; done) | (refine j93 false hkn ?_; have hbt : ¬ q_bit sv k = 1 := cq62; simp [q_may, hbt]; done) | (refine j93 false hkn ?_; have hbt : q_bit sv k = 1 := cq62; simp_all [q_may]; done)
            · skip
              refine A_aload_n rfl dX8_tellsOf_75 ?_
              refine A_getR fr_X8_9.g rfl lay_86 rfl dX8_tellsOf_76 ?_
              refine A_bipush bp_8 dX8_tellsOf_79 ?_
              refine A_iload rfl dX8_tellsOf_81 ?_
              refine A_iadd dX8_tellsOf_83 ?_
              refine A_iald (8 + k) (ix_8 k) lay_87 (by omega) (by decide) dX8_tellsOf_84 ?_
              refine A_if_le 92 rfl dX8_tellsOf_85 (fun cq85 => ?_) (fun cq85 => ?_)
              · skip
                refine A_iconst ic_0 dX8_tellsOf_92 ?_
                first | (refine j93 true hkn ?_; have hbt : q_bit sv k = 1 := cq62; simp [q_may, hbt]; done) | (refine j93 true hkn ?_; have hbt : q_bit sv k = 1 := cq62; simp_all [q_may]; done) | (refine j93 false hkn ?_; have hbt : ¬ q_bit sv k = 1 := cq62; simp [q_may, hbt]; done) | (refine j93 false hkn ?_; have hbt : q_bit sv k = 1 := cq62; simp_all [q_may]; done)
              · skip
                refine A_iconst ic_1 dX8_tellsOf_88 ?_
                refine A_goto 93 rfl dX8_tellsOf_89 ?_
                first | (refine j93 true hkn ?_; have hbt : q_bit sv k = 1 := cq62; simp [q_may, hbt]; done) | (refine j93 true hkn ?_; have hbt : q_bit sv k = 1 := cq62; simp_all [q_may]; done) | (refine j93 false hkn ?_; have hbt : ¬ q_bit sv k = 1 := cq62; simp [q_may, hbt]; done) | (refine j93 false hkn ?_; have hbt : q_bit sv k = 1 := cq62; simp_all [q_may]; done)
  refine Meth.of (by decide +kernel) (by simp [Value.category]) (Nat.le_of_ble_eq_true rfl) ?_
  refine A_aload_n rfl dX8_tellsOf_0 ?_
  refine A_iload_n rfl dX8_tellsOf_1 ?_
  refine A_iconst ic_0 dX8_tellsOf_2 ?_
  refine A_callV (t_of l G I _ rfl a 0 (by omega)) m_X8_of ml_X8_94 rfl lay_86 rfl (by decide) rfl rfl (Nat.le_of_ble_eq_true rfl) (by decide) (by decide) (by decide) dX8_tellsOf_3 (fun _ _ _ h => congrArg List.length h.2.1) ?_
  rintro _ _ _ ⟨rfl, rfl, e9⟩
  refine AW_I e9 ?_
  clear e9
  refine A_istore_n (by decide) rfl dX8_tellsOf_6 ?_
  refine A_iload_n rfl dX8_tellsOf_7 ?_
  refine A_iconst ic_5 dX8_tellsOf_8 ?_
  refine A_icmp_eq 20 rfl dX8_tellsOf_9 (fun cq9 => ?_) (fun cq9 => ?_)
  · skip
    refine A_iconst ic_0 dX8_tellsOf_20 ?_
    refine A_goto 39 rfl dX8_tellsOf_21 ?_
    refine A_istore (by decide) rfl dX8_tellsOf_39 ?_
    refine A_iconst ic_m1 dX8_tellsOf_41 ?_
    refine A_istore (by decide) rfl dX8_tellsOf_42 ?_
    refine A_iconst ic_0 dX8_tellsOf_44 ?_
    refine A_istore (by decide) rfl dX8_tellsOf_45 ?_
    refine loop 8 0 _ _ _ _ _ rfl (by omega) nI_0.symm rfl ?_
    unfold q_tell
    first
      | exact congrArg (fun z => q_best _ (q_may _ _ z) 8) (if_pos (Or.inl cq9)).symm
      | exact congrArg (fun z => q_best _ (q_may _ _ z) 8) (if_pos (Or.inr (cq17.trans hsil))).symm
      | exact congrArg (fun z => q_best _ (q_may _ _ z) 8) (if_neg (fun hqq => hqq.elim cq9 (fun h9 => cq17 (h9.trans hsil.symm)))).symm
  · skip
    refine A_iload_n rfl dX8_tellsOf_12 ?_
    refine A_aload_n rfl dX8_tellsOf_13 ?_
    refine A_getI fr_X8_19.g rfl lay_86 dX8_tellsOf_14 ?_
    refine A_icmp_ne 24 rfl dX8_tellsOf_17 (fun cq17 => ?_) (fun cq17 => ?_)
    · skip
      refine A_aload_n rfl dX8_tellsOf_24 ?_
      refine A_iload_n rfl dX8_tellsOf_25 ?_
      refine A_iconst ic_2 dX8_tellsOf_26 ?_
      refine A_callV (t_of l G I _ rfl a 2 (by omega)) m_X8_of ml_X8_94 rfl lay_86 rfl (by decide) rfl rfl (Nat.le_of_ble_eq_true rfl) (by decide) (by decide) (by decide) dX8_tellsOf_27 (fun _ _ _ h => congrArg List.length h.2.1) ?_
      rintro _ _ _ ⟨rfl, rfl, e9⟩
      refine AW_I e9 ?_
      clear e9
      refine A_aload_n rfl dX8_tellsOf_30 ?_
      refine A_iload_n rfl dX8_tellsOf_31 ?_
      refine A_iconst ic_2 dX8_tellsOf_32 ?_
      refine A_callV (t_of l G I _ rfl c 2 (by omega)) m_X8_of ml_X8_94 rfl lay_86 rfl (by decide) rfl rfl (Nat.le_of_ble_eq_true rfl) (by decide) (by decide) (by decide) dX8_tellsOf_33 (fun _ _ _ h => congrArg List.length h.2.1) ?_
      rintro _ _ _ ⟨rfl, rfl, e9⟩
      refine AW_I e9 ?_
      clear e9
      refine A_iconst ic_m1 dX8_tellsOf_36 ?_
      refine A_ixor dX8_tellsOf_37 ?_
      refine A_iand dX8_tellsOf_38 ?_
      refine A_istore (by decide) rfl dX8_tellsOf_39 ?_
      refine A_iconst ic_m1 dX8_tellsOf_41 ?_
      refine A_istore (by decide) rfl dX8_tellsOf_42 ?_
      refine A_iconst ic_0 dX8_tellsOf_44 ?_
      refine A_istore (by decide) rfl dX8_tellsOf_45 ?_
      refine loop 8 0 _ _ _ _ _ rfl (by omega) nI_0.symm rfl ?_
      unfold q_tell
      first
        | exact congrArg (fun z => q_best _ (q_may _ _ z) 8) (if_pos (Or.inl cq9)).symm
        | exact congrArg (fun z => q_best _ (q_may _ _ z) 8) (if_pos (Or.inr (cq17.trans hsil))).symm
        | exact congrArg (fun z => q_best _ (q_may _ _ z) 8) (if_neg (fun hqq => hqq.elim cq9 (fun h9 => cq17 (h9.trans hsil.symm)))).symm
    · skip
      refine A_iconst ic_0 dX8_tellsOf_20 ?_
      refine A_goto 39 rfl dX8_tellsOf_21 ?_
      refine A_istore (by decide) rfl dX8_tellsOf_39 ?_
      refine A_iconst ic_m1 dX8_tellsOf_41 ?_
      refine A_istore (by decide) rfl dX8_tellsOf_42 ?_
      refine A_iconst ic_0 dX8_tellsOf_44 ?_
      refine A_istore (by decide) rfl dX8_tellsOf_45 ?_
      refine loop 8 0 _ _ _ _ _ rfl (by omega) nI_0.symm rfl ?_
      unfold q_tell
      first
        | exact congrArg (fun z => q_best _ (q_may _ _ z) 8) (if_pos (Or.inl cq9)).symm
        | exact congrArg (fun z => q_best _ (q_may _ _ z) 8) (if_pos (Or.inr (cq17.trans hsil))).symm
        | exact congrArg (fun z => q_best _ (q_may _ _ z) 8) (if_neg (fun hqq => hqq.elim cq9 (fun h9 => cq17 (h9.trans hsil.symm)))).symm
theorem pass_set {N : Nrow} {a c : Nat} {f : Int32} (h : ¬ f < 0) : upd (upd N (16 + 2 + 5 * c) (N (16 + 2 + 5 * c) ||| 1 <<< (f &&& 31))) (16 + 4 + 5 * a) (upd N (16 + 2 + 5 * c) (N (16 + 2 + 5 * c) ||| 1 <<< (f &&& 31)) (16 + 4 + 5 * a) + 1) = q_pass N a c f := by
  rw [upd_n (show 16 + 4 + 5 * a ≠ 16 + 2 + 5 * c by omega)]
  unfold q_pass
  rw [if_neg h]
set_option maxHeartbeats 4000000 in
set_option maxRecDepth 100000 in
theorem t_pass (l : Launch) (G : Gm) (I : Hp) (N : Nrow) (h87 : I 87 = N) (a c : Nat) (ha : a < 10) (hc : c < 10) (f : Int32) : Meth l G yX8_passes cX8_passes 4 (some (FieldType.int)) 2 0 0 [.ref 86, .int (nI a), .int (nI c), .int f] LAY I (fun r lay1 I1 => r = some (.int (if f < 0 then 0 else 1)) ∧ lay1 = LAY ∧ I1 = setN I (q_pass N a c f)) := by
  subst h87
  refine Meth.of (by decide +kernel) (by simp [Value.category]) (Nat.le_of_ble_eq_true rfl) ?_
  refine A_iload_n rfl dX8_passes_0 ?_
  refine A_if_ge 6 rfl dX8_passes_1 (fun cq1 => ?_) (fun cq1 => ?_)
  · skip
    refine A_aload_n rfl dX8_passes_6 ?_
    refine A_iload_n rfl dX8_passes_7 ?_
    refine A_iconst ic_2 dX8_passes_8 ?_
    refine A_aload_n rfl dX8_passes_9 ?_
    refine A_iload_n rfl dX8_passes_10 ?_
    refine A_iconst ic_2 dX8_passes_11 ?_
    refine A_callV (t_of l G _ _ rfl c 2 (by omega)) m_X8_of ml_X8_94 rfl lay_86 rfl (by decide) rfl rfl (Nat.le_of_ble_eq_true rfl) (by decide) (by decide) (by decide) dX8_passes_12 (fun _ _ _ h => congrArg List.length h.2.1) ?_
    rintro _ _ _ ⟨rfl, rfl, e9⟩
    refine AW_I e9 ?_
    clear e9
    refine A_iconst ic_1 dX8_passes_15 ?_
    refine A_iload_n rfl dX8_passes_16 ?_
    refine A_ishl dX8_passes_17 ?_
    refine A_ior dX8_passes_18 ?_
    refine A_callV (t_put l G _ _ rfl c 2 _ (by omega)) m_X8_put ml_X8_84 rfl lay_86 rfl (by decide) rfl rfl (Nat.le_of_ble_eq_true rfl) (by decide) (by decide) (by decide) dX8_passes_19 (fun _ _ _ h => congrArg List.length h.2.1) ?_
    rintro _ _ _ ⟨rfl, rfl, e9⟩
    refine AW_I e9 ?_
    clear e9
    refine A_aload_n rfl dX8_passes_22 ?_
    refine A_iload_n rfl dX8_passes_23 ?_
    refine A_iconst ic_4 dX8_passes_24 ?_
    refine A_aload_n rfl dX8_passes_25 ?_
    refine A_iload_n rfl dX8_passes_26 ?_
    refine A_iconst ic_4 dX8_passes_27 ?_
    refine A_callV (t_of l G _ _ setN_87 a 4 (by omega)) m_X8_of ml_X8_94 rfl lay_86 rfl (by decide) rfl rfl (Nat.le_of_ble_eq_true rfl) (by decide) (by decide) (by decide) dX8_passes_28 (fun _ _ _ h => congrArg List.length h.2.1) ?_
    rintro _ _ _ ⟨rfl, rfl, e9⟩
    refine AW_I e9 ?_
    clear e9
    refine A_iconst ic_1 dX8_passes_31 ?_
    refine A_iadd dX8_passes_32 ?_
    refine A_callV (t_put l G _ _ setN_87 a 4 _ (by omega)) m_X8_put ml_X8_84 rfl lay_86 rfl (by decide) rfl rfl (Nat.le_of_ble_eq_true rfl) (by decide) (by decide) (by decide) dX8_passes_33 (fun _ _ _ h => congrArg List.length h.2.1) ?_
    rintro _ _ _ ⟨rfl, rfl, e9⟩
    refine AW_I e9 ?_
    clear e9
    refine A_iconst ic_1 dX8_passes_36 ?_
    refine A_iret rfl rfl rfl rfl dX8_passes_37 ?_
    have hneg := Int32.not_lt.mpr cq1
    exact ⟨by rw [if_neg hneg], rfl, by rw [setN_set, pass_set hneg]⟩
  · skip
    refine A_iconst ic_0 dX8_passes_4 ?_
    refine A_iret rfl rfl rfl rfl dX8_passes_5 ?_
    have hneg := Int32.not_le.mp cq1
    exact ⟨by rw [if_pos hneg], rfl, by unfold q_pass; rw [if_pos hneg, setN_self]⟩
theorem hourN {N : Nrow} {sil : Int32} {n : Nat} (hn : n ≤ 10) (hN : N 1 = nI n) : ∀ k, k ≤ n → (q_hourL sil N k).1 1 = nI n
  | 0, _ => hN
  | k + 1, h => by
    have h1 := hourN (sil := sil) hn hN k (by omega)
    obtain ⟨c, hc1, hc2⟩ := par_in h1 (by omega) hn (nI k)
    show (q_pair sil (q_hourL sil N k).1 k).1 1 = nI n
    generalize (q_hourL sil N k).1 = M at h1 hc2 ⊢
    unfold q_pair
    split
    · dsimp only
      split
      · dsimp only; rw [upd_n (by decide), upd_n (by decide)]; exact h1
      · dsimp only; rw [hc2, nI_clamp (by omega), pass_1 (by omega) (by omega), pass_1 (by omega) (by omega), upd_n (by decide)]; exact h1
    · exact h1
set_option maxHeartbeats 4000000 in
set_option maxRecDepth 100000 in
theorem t_hour (l : Launch) (G : Gm) (I : Hp) (N : Nrow) (h87 : I 87 = N) (sil : Int32) (hsil : I 86 4 = sil) (n : Nat) (hn : n ≤ 10) (hN : N 1 = nI n) : Meth l G yX8_hour cX8_hour 6 (some (FieldType.int)) 3 0 0 [.ref 86] LAY I (fun r lay1 I1 => r = some (.int (q_hour sil N n).2) ∧ lay1 = LAY ∧ I1 = setN I (q_hour sil N n).1) := by
  subst h87
  have loop : ∀ (lpn : Nat) (k : Nat) (x s : Int32) (o3 o4 o5 : Option Value) (K : Hp), n - k = lpn → (k ≤ n) → (x = nI k) → (s = (q_hourL sil (I 87) k).2) → (K = setN I (q_hourL sil (I 87) k).1) → AW l G yX8_hour cX8_hour 6 (some (FieldType.int)) 3 0 0 (fun r lay1 I1 => r = some (.int (q_hour sil (I 87) n).2) ∧ lay1 = LAY ∧ I1 = setN I (q_hour sil (I 87) n).1) 0 0 4 [some (.ref 86), some (.int s), some (.int x), o3, o4, o5] [] LAY K := by
    intro lpn
    induction lpn using Nat.strongRecOn with
    | _ lpn ih =>
      intro k x s o3 o4 o5 K hms hk hx hs hKe
      subst hx
      subst hKe
      have hN1 := (hourN (sil := sil) hn hN k hk)
      have h87k : setN I (q_hourL sil (I 87) k).1 87 = (q_hourL sil (I 87) k).1 := setN_87
      have hsk : setN I (q_hourL sil (I 87) k).1 86 4 = sil := by rw [setN_ne (by decide)]; exact hsil
      generalize hMe : (q_hourL sil (I 87) k).1 = M at hN1 h87k hsk ⊢
      refine A_iload_n rfl dX8_hour_4 ?_
      refine A_aload_n rfl dX8_hour_5 ?_
      refine A_getR fr_X8_9.g rfl lay_86 rfl dX8_hour_6 ?_
      refine A_iconst ic_1 dX8_hour_9 ?_
      refine A_iald 1 rfl lay_87 (by decide) (by decide) dX8_hour_10 ?_
      refine A_icmp_ge 99 rfl dX8_hour_11 (fun cq11 => ?_) (fun cq11 => ?_)
      · skip
        have hsz : setN I M 87 1 = nI n := by rw [h87k]; exact hN1
        have hkn := (le_nI hsz rfl (by omega) (by omega)).mp cq11
        have hke : k = n := by omega
        subst hke
        refine A_aload_n rfl dX8_hour_99 ?_
        refine A_getR fr_X8_9.g rfl lay_86 rfl dX8_hour_100 ?_
        refine A_iconst ic_2 dX8_hour_103 ?_
        refine A_dup2 rfl rfl dX8_hour_104 ?_
        refine A_iald 2 rfl lay_87 (by decide) (by decide) dX8_hour_105 ?_
        refine A_iconst ic_1 dX8_hour_106 ?_
        refine A_iadd dX8_hour_107 ?_
        refine A_iast 2 rfl lay_87 (by decide) (by decide) dX8_hour_108 ?_
        refine A_iload_n rfl dX8_hour_109 ?_
        refine A_iret rfl rfl rfl rfl dX8_hour_110 ?_
        refine ⟨by rw [hs]; rfl, rfl, ?_⟩
        rw [setN_up, setN_set, h87k]
        unfold q_hour
        rw [hMe]
      · skip
        have hsz : setN I M 87 1 = nI n := by rw [h87k]; exact hN1
        have hkn : k < n := by
          have hq1 := mt (le_nI hsz (rfl : nI k = nI k) (by omega) (by omega)).mpr cq11
          omega
        obtain ⟨c, hc1, hc2⟩ := par_in hN1 (by omega) hn (nI k)
        refine A_aload_n rfl dX8_hour_14 ?_
        refine A_iload_n rfl dX8_hour_15 ?_
        refine A_callV (t_par l G _ M h87k n (by omega) hn hN1 (nI k)) m_X8_partnerOf ml_X8_125 rfl lay_86 rfl (by decide) rfl rfl (Nat.le_of_ble_eq_true rfl) (by decide) (by decide) (by decide) dX8_hour_16 (fun _ _ _ h => congrArg List.length h.2.1) ?_
        rintro _ _ _ ⟨rfl, rfl, e9⟩
        refine AW_I e9 ?_
        clear e9
        refine A_istore_n (by decide) rfl dX8_hour_19 ?_
        refine A_iload_n rfl dX8_hour_20 ?_
        refine A_iload_n rfl dX8_hour_21 ?_
        refine A_icmp_le 93 rfl dX8_hour_22 (fun cq22 => ?_) (fun cq22 => ?_)
        · skip
          refine A_iinc ic_1 rfl (by decide) rfl dX8_hour_93 ?_
          refine A_goto 4 rfl dX8_hour_96 ?_
          refine ih (n - (k + 1)) (by omega) (k + 1) _ _ _ _ _ _ rfl (by omega) (nI_1 k) ?_ ?_
          · rw [hs, q_hourL, hMe, pair_no (Int32.not_lt.mpr cq22)]; simp
          · rw [q_hourL, hMe, pair_no (Int32.not_lt.mpr cq22)]
        · skip
          have hlt : nI k < q_par M (nI k) := Int32.not_le.mp cq22
          refine A_aload_n rfl dX8_hour_25 ?_
          refine A_callV (t_draw l G _ M h87k) m_X8_draw ml_X8_149 rfl lay_86 rfl (by decide) rfl rfl (Nat.le_of_ble_eq_true rfl) (by decide) (by decide) (by decide) dX8_hour_26 (fun _ _ _ h => congrArg List.length h.2.1) ?_
          rintro _ _ _ ⟨rfl, rfl, e9⟩
          refine AW_I e9 ?_
          clear e9
          refine A_bipush bp_100 dX8_hour_29 ?_
          refine A_irem dX8_hour_31 (by decide) ?_
          refine A_aload_n rfl dX8_hour_32 ?_
          refine A_getR fr_X8_9.g rfl lay_86 rfl dX8_hour_33 ?_
          refine A_iconst ic_4 dX8_hour_36 ?_
          refine A_iald 4 rfl lay_87 (by decide) (by decide) dX8_hour_37 ?_
          refine A_icmp_ge 55 rfl dX8_hour_38 (fun cq38 => ?_) (fun cq38 => ?_)
          · skip
            rw [hc2]
            have h87d : setN (setN I M) (upd M 0 (q_z (M 0))) 87 = upd M 0 (q_z (M 0)) := setN_87
            have hsd : setN (setN I M) (upd M 0 (q_z (M 0))) 86 4 = sil := by rw [setN_ne (by decide)]; exact hsk
            refine A_aload_n rfl dX8_hour_55 ?_
            refine A_iload_n rfl dX8_hour_56 ?_
            refine A_iload_n rfl dX8_hour_57 ?_
            refine A_callV (t_tell l G _ _ h87d sil hsd k c (by omega) (by omega)) m_X8_tellsOf ml_X8_131 rfl lay_86 rfl (by decide) rfl rfl (Nat.le_of_ble_eq_true rfl) (by decide) (by decide) (by decide) dX8_hour_58 (fun _ _ _ h => congrArg List.length h.2.1) ?_
            rintro _ _ _ ⟨rfl, rfl, e9⟩
            refine AW_I e9 ?_
            clear e9
            refine A_istore (by decide) rfl dX8_hour_61 ?_
            refine A_aload_n rfl dX8_hour_63 ?_
            refine A_iload_n rfl dX8_hour_64 ?_
            refine A_iload_n rfl dX8_hour_65 ?_
            refine A_callV (t_tell l G _ _ h87d sil hsd c k (by omega) (by omega)) m_X8_tellsOf ml_X8_131 rfl lay_86 rfl (by decide) rfl rfl (Nat.le_of_ble_eq_true rfl) (by decide) (by decide) (by decide) dX8_hour_66 (fun _ _ _ h => congrArg List.length h.2.1) ?_
            rintro _ _ _ ⟨rfl, rfl, e9⟩
            refine AW_I e9 ?_
            clear e9
            refine A_istore (by decide) rfl dX8_hour_69 ?_
            refine A_iload_n rfl dX8_hour_71 ?_
            refine A_aload_n rfl dX8_hour_72 ?_
            refine A_iload_n rfl dX8_hour_73 ?_
            refine A_iload_n rfl dX8_hour_74 ?_
            refine A_iload rfl dX8_hour_75 ?_
            refine A_callV (t_pass l G _ _ h87d k c (by omega) (by omega) _) m_X8_passes ml_X8_156 rfl lay_86 rfl (by decide) rfl rfl (Nat.le_of_ble_eq_true rfl) (by decide) (by decide) (by decide) dX8_hour_77 (fun _ _ _ h => congrArg List.length h.2.1) ?_
            rintro _ _ _ ⟨rfl, rfl, e9⟩
            refine AW_I e9 ?_
            clear e9
            refine A_iadd dX8_hour_80 ?_
            refine A_istore_n (by decide) rfl dX8_hour_81 ?_
            refine A_iload_n rfl dX8_hour_82 ?_
            refine A_aload_n rfl dX8_hour_83 ?_
            refine A_iload_n rfl dX8_hour_84 ?_
            refine A_iload_n rfl dX8_hour_85 ?_
            refine A_iload rfl dX8_hour_86 ?_
            refine A_callV (t_pass l G _ _ setN_87 c k (by omega) (by omega) _) m_X8_passes ml_X8_156 rfl lay_86 rfl (by decide) rfl rfl (Nat.le_of_ble_eq_true rfl) (by decide) (by decide) (by decide) dX8_hour_88 (fun _ _ _ h => congrArg List.length h.2.1) ?_
            rintro _ _ _ ⟨rfl, rfl, e9⟩
            refine AW_I e9 ?_
            clear e9
            refine A_iadd dX8_hour_91 ?_
            refine A_istore_n (by decide) rfl dX8_hour_92 ?_
            have hc36 : setN (setN I M) (upd M 0 (q_z (M 0))) 87 4 = M 4 := by rw [setN_87, upd_n (by decide)]
            rw [hc36] at cq38
            refine A_iinc ic_1 rfl (by decide) rfl dX8_hour_93 ?_
            refine A_goto 4 rfl dX8_hour_96 ?_
            refine ih (n - (k + 1)) (by omega) (k + 1) _ _ _ _ _ _ rfl (by omega) (nI_1 k) ?_ ?_
            · rw [hs, q_hourL, hMe, pair_pal hlt (Int32.not_lt.mpr cq38) hc2 (by omega), Int32.add_assoc]
            · rw [q_hourL, hMe, pair_pal hlt (Int32.not_lt.mpr cq38) hc2 (by omega), setN_set, setN_set, setN_set]
          · skip
            refine A_aload_n rfl dX8_hour_41 ?_
            refine A_getR fr_X8_9.g rfl lay_86 rfl dX8_hour_42 ?_
            refine A_bipush bp_6 dX8_hour_45 ?_
            refine A_dup2 rfl rfl dX8_hour_47 ?_
            refine A_iald 6 rfl lay_87 (by decide) (by decide) dX8_hour_48 ?_
            refine A_iconst ic_1 dX8_hour_49 ?_
            refine A_iadd dX8_hour_50 ?_
            refine A_iast 6 rfl lay_87 (by decide) (by decide) dX8_hour_51 ?_
            refine A_goto 93 rfl dX8_hour_52 ?_
            have hc36 : setN (setN I M) (upd M 0 (q_z (M 0))) 87 4 = M 4 := by rw [setN_87, upd_n (by decide)]
            rw [hc36] at cq38
            refine A_iinc ic_1 rfl (by decide) rfl dX8_hour_93 ?_
            refine A_goto 4 rfl dX8_hour_96 ?_
            refine ih (n - (k + 1)) (by omega) (k + 1) _ _ _ _ _ _ rfl (by omega) (nI_1 k) ?_ ?_
            · rw [hs, q_hourL, hMe, pair_slip hlt (Int32.not_le.mp cq38)]; simp
            · rw [q_hourL, hMe, pair_slip hlt (Int32.not_le.mp cq38), setN_up, setN_87, setN_set, setN_set, upd_n (show 6 ≠ 0 by decide)]
  refine Meth.of (by decide +kernel) (by simp [Value.category]) (Nat.le_of_ble_eq_true rfl) ?_
  refine A_iconst ic_0 dX8_hour_0 ?_
  refine A_istore_n (by decide) rfl dX8_hour_1 ?_
  refine A_iconst ic_0 dX8_hour_2 ?_
  refine A_istore_n (by decide) rfl dX8_hour_3 ?_
  exact loop n 0 _ _ _ _ _ I (by omega) (by omega) nI_0.symm rfl setN_self.symm
theorem hour_1 {N : Nrow} {sil : Int32} {n : Nat} (hn : n ≤ 10) (hN : N 1 = nI n) : (q_hour sil N n).1 1 = nI n := by unfold q_hour; dsimp only; rw [upd_n (by decide)]; exact hourN hn hN n (Nat.le_refl n)
theorem go_1 {N : Nrow} {sil : Int32} {n : Nat} (hn : n ≤ 10) (hN : N 1 = nI n) : ∀ k, (q_go sil n N k).1 1 = nI n
  | 0 => hN
  | k + 1 => hour_1 hn (go_1 hn hN k)
set_option maxHeartbeats 4000000 in
set_option maxRecDepth 100000 in
theorem t_go (l : Launch) (G : Gm) (I : Hp) (N : Nrow) (h87 : I 87 = N) (sil : Int32) (hsil : I 86 4 = sil) (n : Nat) (hn : n ≤ 10) (hN : N 1 = nI n) (h : Nat) (hh : h < 1000) : Meth l G yX8_goesOn cX8_goesOn 4 (some (FieldType.int)) 4 0 0 [.ref 86, .int (nI h)] LAY I (fun r lay1 I1 => r = some (.int (q_go sil n N h).2) ∧ lay1 = LAY ∧ I1 = setN I (q_go sil n N h).1) := by
  subst h87
  have loop : ∀ (lpn : Nat) (k : Nat) (x s : Int32) (K : Hp), h - k = lpn → (k ≤ h) → (x = nI k) → (s = (q_go sil n (I 87) k).2) → (K = setN I (q_go sil n (I 87) k).1) → AW l G yX8_goesOn cX8_goesOn 4 (some (FieldType.int)) 4 0 0 (fun r lay1 I1 => r = some (.int (q_go sil n (I 87) h).2) ∧ lay1 = LAY ∧ I1 = setN I (q_go sil n (I 87) h).1) 0 0 4 [some (.ref 86), some (.int (nI h)), some (.int s), some (.int x)] [] LAY K := by
    intro lpn
    induction lpn using Nat.strongRecOn with
    | _ lpn ih =>
      intro k x s K hms hk hx hs hKe
      subst hx
      subst hKe
      refine A_iload_n rfl dX8_goesOn_4 ?_
      refine A_iload_n rfl dX8_goesOn_5 ?_
      refine A_icmp_ge 22 rfl dX8_goesOn_6 (fun cq6 => ?_) (fun cq6 => ?_)
      · skip
        have hkn := (le_nI rfl rfl (by omega) (by omega)).mp cq6
        have hke : k = h := by omega
        subst hke
        refine A_iload_n rfl dX8_goesOn_22 ?_
        refine A_iret rfl rfl rfl rfl dX8_goesOn_23 ?_
        exact ⟨by rw [hs], rfl, rfl⟩
      · skip
        have hkn : k < h := by
          have hq1 := mt (le_nI (rfl : nI h = nI h) (rfl : nI k = nI k) (by omega) (by omega)).mpr cq6
          omega
        refine A_iload_n rfl dX8_goesOn_9 ?_
        refine A_aload_n rfl dX8_goesOn_10 ?_
        refine A_callV (t_hour l G _ _ setN_87 sil (by rw [setN_ne (by decide)]; exact hsil) n hn (go_1 hn hN k)) m_X8_hour ml_X8_159 rfl lay_86 rfl (by decide) rfl rfl (Nat.le_of_ble_eq_true rfl) (by decide) (by decide) (by decide) dX8_goesOn_11 (fun _ _ _ h => congrArg List.length h.2.1) ?_
        rintro _ _ _ ⟨rfl, rfl, e9⟩
        refine AW_I e9 ?_
        clear e9
        refine A_iadd dX8_goesOn_14 ?_
        refine A_istore_n (by decide) rfl dX8_goesOn_15 ?_
        refine A_iinc ic_1 rfl (by decide) rfl dX8_goesOn_16 ?_
        refine A_goto 4 rfl dX8_goesOn_19 ?_
        exact ih (h - (k + 1)) (by omega) (k + 1) _ _ _ rfl (by omega) (nI_1 k) (by rw [hs]; rfl) (by rw [setN_set]; rfl)
  refine Meth.of (by decide +kernel) (by simp [Value.category]) (Nat.le_of_ble_eq_true rfl) ?_
  refine A_iconst ic_0 dX8_goesOn_0 ?_
  refine A_istore_n (by decide) rfl dX8_goesOn_1 ?_
  refine A_iconst ic_0 dX8_goesOn_2 ?_
  refine A_istore_n (by decide) rfl dX8_goesOn_3 ?_
  exact loop h 0 _ _ I rfl (by omega) nI_0.symm rfl setN_self.symm
