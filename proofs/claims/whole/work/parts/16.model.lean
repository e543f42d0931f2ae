set_option maxHeartbeats 1000000 in
set_option maxRecDepth 100000 in
theorem t_comes (l : Launch) (G : Gm) (I : Hp) (N : Nrow) (h87 : I 87 = N) (n : Nat) (hn : n < 10) (hN : N 1 = nI n) (a b c e : Int32) : Meth l G yX8_comes cX8_comes 6 (some (FieldType.int)) 2 0 0 [.ref 86, .int a, .int b, .int c, .int e] LAY I (fun r lay1 I1 => r = some (.int (nI n)) ∧ lay1 = LAY ∧ I1 = setN I (q_add N n a b c e)) := by
  subst h87
  refine Meth.of (by decide +kernel) (by simp [Value.category]) (Nat.le_of_ble_eq_true rfl) ?_
  refine A_aload_n rfl dX8_comes_0 ?_
  refine A_getR fr_X8_9.g rfl lay_86 rfl dX8_comes_1 ?_
  refine A_iconst ic_1 dX8_comes_4 ?_
  refine A_iald 1 rfl lay_87 (by decide) (by decide) dX8_comes_5 ?_
  rw [hN]
  refine A_istore (by decide) rfl dX8_comes_6 ?_
  refine A_aload_n rfl dX8_comes_8 ?_
  refine A_iload rfl dX8_comes_9 ?_
  refine A_iconst ic_0 dX8_comes_11 ?_
  refine A_iload_n rfl dX8_comes_12 ?_
  refine A_callV (t_put l G _ _ rfl n 0 _ (by omega)) m_X8_put ml_X8_84 rfl lay_86 rfl (by decide) rfl rfl (Nat.le_of_ble_eq_true rfl) (by decide) (by decide) (by decide) dX8_comes_13 (fun _ _ _ h => congrArg List.length h.2.1) ?_
  rintro _ _ _ ⟨rfl, rfl, e9⟩
  refine AW_I e9 ?_
  clear e9
  refine A_aload_n rfl dX8_comes_16 ?_
  refine A_iload rfl dX8_comes_17 ?_
  refine A_iconst ic_1 dX8_comes_19 ?_
  refine A_iload_n rfl dX8_comes_20 ?_
  refine A_callV (t_put l G _ _ setN_87 n 1 _ (by omega)) m_X8_put ml_X8_84 rfl lay_86 rfl (by decide) rfl rfl (Nat.le_of_ble_eq_true rfl) (by decide) (by decide) (by decide) dX8_comes_21 (fun _ _ _ h => congrArg List.length h.2.1) ?_
  rintro _ _ _ ⟨rfl, rfl, e9⟩
  refine AW_I e9 ?_
  clear e9
  refine A_aload_n rfl dX8_comes_24 ?_
  refine A_iload rfl dX8_comes_25 ?_
  refine A_iconst ic_2 dX8_comes_27 ?_
  refine A_iload_n rfl dX8_comes_28 ?_
  refine A_callV (t_put l G _ _ setN_87 n 2 _ (by omega)) m_X8_put ml_X8_84 rfl lay_86 rfl (by decide) rfl rfl (Nat.le_of_ble_eq_true rfl) (by decide) (by decide) (by decide) dX8_comes_29 (fun _ _ _ h => congrArg List.length h.2.1) ?_
  rintro _ _ _ ⟨rfl, rfl, e9⟩
  refine AW_I e9 ?_
  clear e9
  refine A_aload_n rfl dX8_comes_32 ?_
  refine A_iload rfl dX8_comes_33 ?_
  refine A_iconst ic_3 dX8_comes_35 ?_
  refine A_iload rfl dX8_comes_36 ?_
  refine A_callV (t_put l G _ _ setN_87 n 3 _ (by omega)) m_X8_put ml_X8_84 rfl lay_86 rfl (by decide) rfl rfl (Nat.le_of_ble_eq_true rfl) (by decide) (by decide) (by decide) dX8_comes_38 (fun _ _ _ h => congrArg List.length h.2.1) ?_
  rintro _ _ _ ⟨rfl, rfl, e9⟩
  refine AW_I e9 ?_
  clear e9
  refine A_aload_n rfl dX8_comes_41 ?_
  refine A_iload rfl dX8_comes_42 ?_
  refine A_iconst ic_4 dX8_comes_44 ?_
  refine A_iconst ic_0 dX8_comes_45 ?_
  refine A_callV (t_put l G _ _ setN_87 n 4 _ (by omega)) m_X8_put ml_X8_84 rfl lay_86 rfl (by decide) rfl rfl (Nat.le_of_ble_eq_true rfl) (by decide) (by decide) (by decide) dX8_comes_46 (fun _ _ _ h => congrArg List.length h.2.1) ?_
  rintro _ _ _ ⟨rfl, rfl, e9⟩
  refine AW_I e9 ?_
  clear e9
  refine A_aload_n rfl dX8_comes_49 ?_
  refine A_getR fr_X8_9.g rfl lay_86 rfl dX8_comes_50 ?_
  refine A_iconst ic_1 dX8_comes_53 ?_
  refine A_dup2 rfl rfl dX8_comes_54 ?_
  refine A_iald 1 rfl lay_87 (by decide) (by decide) dX8_comes_55 ?_
  refine A_iconst ic_1 dX8_comes_56 ?_
  refine A_iadd dX8_comes_57 ?_
  refine A_iast 1 rfl lay_87 (by decide) (by decide) dX8_comes_58 ?_
  refine A_iload rfl dX8_comes_59 ?_
  refine A_iret rfl rfl rfl rfl dX8_comes_61 ?_
  refine ⟨rfl, rfl, ?_⟩
  rw [setN_up, setN_87, setN_set, setN_set, setN_set, setN_set, setN_set]
  unfold q_add
  rw [show upd (upd (upd (upd (upd (I 87) (16 + 0 + 5 * n) a) (16 + 1 + 5 * n) b) (16 + 2 + 5 * n) c) (16 + 3 + 5 * n) e) (16 + 4 + 5 * n) 0 1 = I 87 1 from by rw [upd_n (by omega), upd_n (by omega), upd_n (by omega), upd_n (by omega), upd_n (by omega)]]
set_option maxHeartbeats 1000000 in
set_option maxRecDepth 100000 in
theorem t_out (l : Launch) (G : Gm) (I : Hp) (N : Nrow) (h87 : I 87 = N) (n : Nat) (hn : n ≤ 10) (hN : N 1 = nI n) (f : Nat) (way : Int32) : Meth l G yX8_comesOut cX8_comesOut 5 (some (FieldType.int)) 2 0 0 [.ref 86, .int (nI f), .int way] LAY I (fun r lay1 I1 => r = some (.int (q_outL N f way n).2) ∧ lay1 = LAY ∧ I1 = setN I (q_outL N f way n).1) := by
  subst h87
  have loop : ∀ (lpn : Nat) (k : Nat) (x s : Int32) (K : Hp), n - k = lpn → (k ≤ n) → (x = nI k) → (s = (q_outL (I 87) f way k).2) → (K = setN I (q_outL (I 87) f way k).1) → AW l G yX8_comesOut cX8_comesOut 5 (some (FieldType.int)) 2 0 0 (fun r lay1 I1 => r = some (.int (q_outL (I 87) f way n).2) ∧ lay1 = LAY ∧ I1 = setN I (q_outL (I 87) f way n).1) 0 0 5 [some (.ref 86), some (.int (nI f)), some (.int way), some (.int s), some (.int x)] [] LAY K := by
    intro lpn
    induction lpn using Nat.strongRecOn with
    | _ lpn ih =>
      intro k x s K hms hk hx hs hKe
      subst hx
      subst hKe
      have hN1 : (q_outL (I 87) f way k).1 1 = nI n := by rw [outL_x (fun i hi => by omega) k (by omega)]; exact hN
      refine A_iload rfl dX8_comesOut_5 ?_
      refine A_aload_n rfl dX8_comesOut_7 ?_
      refine A_getR fr_X8_9.g rfl lay_86 rfl dX8_comesOut_8 ?_
      refine A_iconst ic_1 dX8_comesOut_11 ?_
      refine A_iald 1 rfl lay_87 (by decide) (by decide) dX8_comesOut_12 ?_
      refine A_icmp_ge 67 rfl dX8_comesOut_13 (fun cq13 => ?_) (fun cq13 => ?_)
      · skip
        have hsz : setN I (q_outL (I 87) f way k).1 87 1 = nI n := by rw [setN_87]; exact hN1
        have hkn := (le_nI hsz rfl (by omega) (by omega)).mp cq13
        have hke : k = n := by omega
        subst hke
        refine A_iload_n rfl dX8_comesOut_67 ?_
        refine A_iret rfl rfl rfl rfl dX8_comesOut_68 ?_
        exact ⟨by rw [hs], rfl, rfl⟩
      · skip
        have hsz : setN I (q_outL (I 87) f way k).1 87 1 = nI n := by rw [setN_87]; exact hN1
        have hkn : k < n := by
          have hq1 := mt (le_nI hsz (rfl : nI k = nI k) (by omega) (by omega)).mpr cq13
          omega
        refine A_aload_n rfl dX8_comesOut_16 ?_
        refine A_iload rfl dX8_comesOut_17 ?_
        refine A_iconst ic_1 dX8_comesOut_19 ?_
        refine A_callV (t_of l G _ _ setN_87 k 1 (by omega)) m_X8_of ml_X8_94 rfl lay_86 rfl (by decide) rfl rfl (Nat.le_of_ble_eq_true rfl) (by decide) (by decide) (by decide) dX8_comesOut_20 (fun _ _ _ h => congrArg List.length h.2.1) ?_
        rintro _ _ _ ⟨rfl, rfl, e9⟩
        refine AW_I e9 ?_
        clear e9
        refine A_iload_n rfl dX8_comesOut_23 ?_
        refine A_icmp_ne 61 rfl dX8_comesOut_24 (fun cq24 => ?_) (fun cq24 => ?_)
        · skip
          refine A_iinc ic_1 rfl (by decide) rfl dX8_comesOut_61 ?_
          refine A_goto 5 rfl dX8_comesOut_64 ?_
          refine ih (n - (k + 1)) (by omega) (k + 1) _ _ _ rfl (by omega) (nI_1 k) ?_ ?_
          · rw [hs, q_outL]
            first | (have h7 : ¬ (q_outL (I 87) f way k).1 (17 + 5 * k) = way := cq24; rw [if_neg h7]) | (have h7 : (q_outL (I 87) f way k).1 (17 + 5 * k) = way := cq24; rw [if_pos h7]; rfl)
          · rw [q_outL]
            first | (have h7 : ¬ (q_outL (I 87) f way k).1 (17 + 5 * k) = way := cq24; rw [if_neg h7]) | (have h7 : (q_outL (I 87) f way k).1 (17 + 5 * k) = way := cq24; rw [if_pos h7, setN_set])
        · skip
          refine A_iload_n rfl dX8_comesOut_27 ?_
          refine A_aload_n rfl dX8_comesOut_28 ?_
          refine A_iload rfl dX8_comesOut_29 ?_
          refine A_iconst ic_2 dX8_comesOut_31 ?_
          refine A_callV (t_of l G _ _ setN_87 k 2 (by omega)) m_X8_of ml_X8_94 rfl lay_86 rfl (by decide) rfl rfl (Nat.le_of_ble_eq_true rfl) (by decide) (by decide) (by decide) dX8_comesOut_32 (fun _ _ _ h => congrArg List.length h.2.1) ?_
          rintro _ _ _ ⟨rfl, rfl, e9⟩
          refine AW_I e9 ?_
          clear e9
          refine A_iload_n rfl dX8_comesOut_35 ?_
          refine A_ishr dX8_comesOut_36 ?_
          refine A_iconst ic_1 dX8_comesOut_37 ?_
          refine A_iand dX8_comesOut_38 ?_
          refine A_iconst ic_1 dX8_comesOut_39 ?_
          refine A_ixor dX8_comesOut_40 ?_
          refine A_iadd dX8_comesOut_41 ?_
          refine A_istore_n (by decide) rfl dX8_comesOut_42 ?_
          refine A_aload_n rfl dX8_comesOut_43 ?_
          refine A_iload rfl dX8_comesOut_44 ?_
          refine A_iconst ic_2 dX8_comesOut_46 ?_
          refine A_aload_n rfl dX8_comesOut_47 ?_
          refine A_iload rfl dX8_comesOut_48 ?_
          refine A_iconst ic_2 dX8_comesOut_50 ?_
          refine A_callV (t_of l G _ _ setN_87 k 2 (by omega)) m_X8_of ml_X8_94 rfl lay_86 rfl (by decide) rfl rfl (Nat.le_of_ble_eq_true rfl) (by decide) (by decide) (by decide) dX8_comesOut_51 (fun _ _ _ h => congrArg List.length h.2.1) ?_
          rintro _ _ _ ⟨rfl, rfl, e9⟩
          refine AW_I e9 ?_
          clear e9
          refine A_iconst ic_1 dX8_comesOut_54 ?_
          refine A_iload_n rfl dX8_comesOut_55 ?_
          refine A_ishl dX8_comesOut_56 ?_
          refine A_ior dX8_comesOut_57 ?_
          refine A_callV (t_put l G _ _ setN_87 k 2 _ (by omega)) m_X8_put ml_X8_84 rfl lay_86 rfl (by decide) rfl rfl (Nat.le_of_ble_eq_true rfl) (by decide) (by decide) (by decide) dX8_comesOut_58 (fun _ _ _ h => congrArg List.length h.2.1) ?_
          rintro _ _ _ ⟨rfl, rfl, e9⟩
          refine AW_I e9 ?_
          clear e9
          refine A_iinc ic_1 rfl (by decide) rfl dX8_comesOut_61 ?_
          refine A_goto 5 rfl dX8_comesOut_64 ?_
          refine ih (n - (k + 1)) (by omega) (k + 1) _ _ _ rfl (by omega) (nI_1 k) ?_ ?_
          · rw [hs, q_outL]
            first | (have h7 : ¬ (q_outL (I 87) f way k).1 (17 + 5 * k) = way := cq24; rw [if_neg h7]) | (have h7 : (q_outL (I 87) f way k).1 (17 + 5 * k) = way := cq24; rw [if_pos h7]; rfl)
          · rw [q_outL]
            first | (have h7 : ¬ (q_outL (I 87) f way k).1 (17 + 5 * k) = way := cq24; rw [if_neg h7]) | (have h7 : (q_outL (I 87) f way k).1 (17 + 5 * k) = way := cq24; rw [if_pos h7, setN_set])
  refine Meth.of (by decide +kernel) (by simp [Value.category]) (Nat.le_of_ble_eq_true rfl) ?_
  refine A_iconst ic_0 dX8_comesOut_0 ?_
  refine A_istore_n (by decide) rfl dX8_comesOut_1 ?_
  refine A_iconst ic_0 dX8_comesOut_2 ?_
  refine A_istore (by decide) rfl dX8_comesOut_3 ?_
  exact loop n 0 _ _ I (by omega) (by omega) nI_0.symm rfl setN_self.symm
/-- the first n numbers of a row over another one -/
def cpN (f g : Nrow) (n : Nat) : Nrow := fun i => if i < n then f i else g i
def setR (I : Hp) (k : Nat) (f : Nrow) : Hp := fun q => if q = k then f else I q
theorem setR_s {I : Hp} {k : Nat} {f : Nrow} : setR I k f k = f := by simp [setR]
theorem setR_n {I : Hp} {k q : Nat} {f : Nrow} (h : q ≠ k) : setR I k f q = I q := by simp [setR, h]
theorem cpN_0 {f g : Nrow} : cpN f g 0 = g := by funext i; simp [cpN]
theorem cpN_s {f g : Nrow} {k : Nat} : upd (cpN f g k) k (f k) = cpN f g (k + 1) := by
  funext i
  unfold upd cpN
  by_cases h : i = k
  · subst h; simp
  · by_cases h2 : i < k
    · rw [if_neg h, if_pos h2, if_pos (by omega)]
    · rw [if_neg h, if_neg h2, if_neg (by omega)]
theorem up2_R {I : Hp} {k i : Nat} {f : Nrow} {x : Int32} : up2 (setR I k f) k i x = setR I k (upd f i x) := by
  funext q
  unfold up2 setR
  by_cases h : q = k
  · subst h; simp
  · simp [h]
theorem setR_self {I : Hp} {k : Nat} : setR I k (I k) = I := by funext q; unfold setR; split <;> simp_all
set_option maxHeartbeats 1000000 in
set_option maxRecDepth 100000 in
theorem t_copyAll (l : Launch) (G : Gm) (I : Hp) (a b : Nat) (hla : LAY[a]? = some (9, 1438, [])) (hlb : LAY[b]? = some (9, 1438, [])) (hne : a ≠ b) : Meth l G yX8_copyAll cX8_copyAll 3 none 1 0 0 [.ref a, .ref b] LAY I (fun r lay1 I1 => r = none ∧ lay1 = LAY ∧ I1 = setR I b (cpN (I a) (I b) 1438)) := by
  have loop : ∀ (lpn : Nat) (k : Nat) (x : Int32) (K : Hp), 1438 - k = lpn → (k ≤ 1438) → (x = nI k) → (K = setR I b (cpN (I a) (I b) k)) → AW l G yX8_copyAll cX8_copyAll 3 none 1 0 0 (fun r lay1 I1 => r = none ∧ lay1 = LAY ∧ I1 = setR I b (cpN (I a) (I b) 1438)) 0 0 2 [some (.ref a), some (.ref b), some (.int x)] [] LAY K := by
    intro lpn
    induction lpn using Nat.strongRecOn with
    | _ lpn ih =>
      intro k x K hms hk hx hKe
      subst hx
      subst hKe
      refine A_iload_n rfl dX8_copyAll_2 ?_
      refine A_sipush sp_1438 dX8_copyAll_3 ?_
      refine A_icmp_ge 21 rfl dX8_copyAll_6 (fun cq6 => ?_) (fun cq6 => ?_)
      · skip
        have hkn := (le_nI (show (1438 : Int32) = nI 1438 from rfl) rfl (by omega) (by omega)).mp cq6
        have hke : k = 1438 := by omega
        subst hke
        refine A_vret rfl rfl rfl dX8_copyAll_21 ?_
        exact ⟨rfl, rfl, rfl⟩
      · skip
        have hkn : k < 1438 := by
          have hq1 := mt (le_nI (show (1438 : Int32) = nI 1438 from rfl) (rfl : nI k = nI k) (by omega) (by omega)).mpr cq6
          omega
        refine A_aload_n rfl dX8_copyAll_9 ?_
        refine A_iload_n rfl dX8_copyAll_10 ?_
        refine A_aload_n rfl dX8_copyAll_11 ?_
        refine A_iload_n rfl dX8_copyAll_12 ?_
        refine A_iald _ rfl hla (by omega) (by decide) dX8_copyAll_13 ?_
        refine A_iast _ rfl hlb (by omega) (by decide) dX8_copyAll_14 ?_
        refine A_iinc ic_1 rfl (by decide) rfl dX8_copyAll_15 ?_
        refine A_goto 2 rfl dX8_copyAll_18 ?_
        refine ih (1438 - (k + 1)) (by omega) (k + 1) _ _ rfl (by omega) (nI_1 k) ?_
        rw [setR_n (show a ≠ b by first | decide | exact hne | omega), up2_R, cpN_s]
  refine Meth.of (by decide +kernel) (by simp [Value.category]) (Nat.le_of_ble_eq_true rfl) ?_
  refine A_iconst ic_0 dX8_copyAll_0 ?_
  refine A_istore_n (by decide) rfl dX8_copyAll_1 ?_
  exact loop 1438 0 _ I rfl (by omega) nI_0.symm (by rw [cpN_0, setR_self])
set_option maxHeartbeats 1000000 in
set_option maxRecDepth 100000 in
theorem t_thinks (l : Launch) (G : Gm) (I : Hp) : Meth l G yX8_thinks cX8_thinks 2 none 1 0 0 [.ref 86] LAY I (fun r lay1 I1 => r = none ∧ lay1 = LAY ∧ I1 = setR I 90 (cpN (I 87) (I 90) 66)) := by
  have loop : ∀ (lpn : Nat) (k : Nat) (x : Int32) (K : Hp), 66 - k = lpn → (k ≤ 66) → (x = nI k) → (K = setR I 90 (cpN (I 87) (I 90) k)) → AW l G yX8_thinks cX8_thinks 2 none 1 0 0 (fun r lay1 I1 => r = none ∧ lay1 = LAY ∧ I1 = setR I 90 (cpN (I 87) (I 90) 66)) 0 0 2 [some (.ref 86), some (.int x)] [] LAY K := by
    intro lpn
    induction lpn using Nat.strongRecOn with
    | _ lpn ih =>
      intro k x K hms hk hx hKe
      subst hx
      subst hKe
      refine A_iload_n rfl dX8_thinks_2 ?_
      refine A_bipush bp_66 dX8_thinks_3 ?_
      refine A_icmp_ge 26 rfl dX8_thinks_5 (fun cq5 => ?_) (fun cq5 => ?_)
      · skip
        have hkn := (le_nI (show (66 : Int32) = nI 66 from rfl) rfl (by omega) (by omega)).mp cq5
        have hke : k = 66 := by omega
        subst hke
        refine A_vret rfl rfl rfl dX8_thinks_26 ?_
        exact ⟨rfl, rfl, rfl⟩
      · skip
        have hkn : k < 66 := by
          have hq1 := mt (le_nI (show (66 : Int32) = nI 66 from rfl) (rfl : nI k = nI k) (by omega) (by omega)).mpr cq5
          omega
        refine A_aload_n rfl dX8_thinks_8 ?_
        refine A_getR fr_X8_23.g rfl lay_86 rfl dX8_thinks_9 ?_
        refine A_iload_n rfl dX8_thinks_12 ?_
        refine A_aload_n rfl dX8_thinks_13 ?_
        refine A_getR fr_X8_9.g rfl lay_86 rfl dX8_thinks_14 ?_
        refine A_iload_n rfl dX8_thinks_17 ?_
        refine A_iald _ rfl lay_87 (by omega) (by decide) dX8_thinks_18 ?_
        refine A_iast _ rfl lay_90 (by omega) (by decide) dX8_thinks_19 ?_
        refine A_iinc ic_1 rfl (by decide) rfl dX8_thinks_20 ?_
        refine A_goto 2 rfl dX8_thinks_23 ?_
        refine ih (66 - (k + 1)) (by omega) (k + 1) _ _ rfl (by omega) (nI_1 k) ?_
        rw [setR_n (show 87 ≠ 90 by first | decide | exact hne | omega), up2_R, cpN_s]
  refine Meth.of (by decide +kernel) (by simp [Value.category]) (Nat.le_of_ble_eq_true rfl) ?_
  refine A_iconst ic_0 dX8_thinks_0 ?_
  refine A_istore_n (by decide) rfl dX8_thinks_1 ?_
  exact loop 66 0 _ I rfl (by omega) nI_0.symm (by rw [cpN_0, setR_self])
set_option maxHeartbeats 1000000 in
set_option maxRecDepth 100000 in
theorem t_putsBack (l : Launch) (G : Gm) (I : Hp) : Meth l G yX8_putsBack cX8_putsBack 2 none 1 0 0 [.ref 86] LAY I (fun r lay1 I1 => r = none ∧ lay1 = LAY ∧ I1 = up2 (setR I 87 (cpN (I 90) (I 87) 66)) 86 4 (-1)) := by
  have loop : ∀ (lpn : Nat) (k : Nat) (x : Int32) (K : Hp), 66 - k = lpn → (k ≤ 66) → (x = nI k) → (K = setR I 87 (cpN (I 90) (I 87) k)) → AW l G yX8_putsBack cX8_putsBack 2 none 1 0 0 (fun r lay1 I1 => r = none ∧ lay1 = LAY ∧ I1 = up2 (setR I 87 (cpN (I 90) (I 87) 66)) 86 4 (-1)) 0 0 2 [some (.ref 86), some (.int x)] [] LAY K := by
    intro lpn
    induction lpn using Nat.strongRecOn with
    | _ lpn ih =>
      intro k x K hms hk hx hKe
      subst hx
      subst hKe
      refine A_iload_n rfl dX8_putsBack_2 ?_
      refine A_bipush bp_66 dX8_putsBack_3 ?_
      refine A_icmp_ge 26 rfl dX8_putsBack_5 (fun cq5 => ?_) (fun cq5 => ?_)
      · skip
        have hkn := (le_nI (show (66 : Int32) = nI 66 from rfl) rfl (by omega) (by omega)).mp cq5
        have hke : k = 66 := by omega
        subst hke
        refine A_aload_n rfl dX8_putsBack_26 ?_
        refine A_iconst ic_m1 dX8_putsBack_27 ?_
        refine A_putI fr_X8_19 rfl lay_86 rfl rfl dX8_putsBack_28 ?_
        refine A_vret rfl rfl rfl dX8_putsBack_31 ?_
        exact ⟨rfl, rfl, rfl⟩
      · skip
        have hkn : k < 66 := by
          have hq1 := mt (le_nI (show (66 : Int32) = nI 66 from rfl) (rfl : nI k = nI k) (by omega) (by omega)).mpr cq5
          omega
        refine A_aload_n rfl dX8_putsBack_8 ?_
        refine A_getR fr_X8_9.g rfl lay_86 rfl dX8_putsBack_9 ?_
        refine A_iload_n rfl dX8_putsBack_12 ?_
        refine A_aload_n rfl dX8_putsBack_13 ?_
        refine A_getR fr_X8_23.g rfl lay_86 rfl dX8_putsBack_14 ?_
        refine A_iload_n rfl dX8_putsBack_17 ?_
        refine A_iald _ rfl lay_90 (by omega) (by decide) dX8_putsBack_18 ?_
        refine A_iast _ rfl lay_87 (by omega) (by decide) dX8_putsBack_19 ?_
        refine A_iinc ic_1 rfl (by decide) rfl dX8_putsBack_20 ?_
        refine A_goto 2 rfl dX8_putsBack_23 ?_
        refine ih (66 - (k + 1)) (by omega) (k + 1) _ _ rfl (by omega) (nI_1 k) ?_
        rw [setR_n (show 90 ≠ 87 by first | decide | exact hne | omega), up2_R, cpN_s]
  refine Meth.of (by decide +kernel) (by simp [Value.category]) (Nat.le_of_ble_eq_true rfl) ?_
  refine A_iconst ic_0 dX8_putsBack_0 ?_
  refine A_istore_n (by decide) rfl dX8_putsBack_1 ?_
  exact loop 66 0 _ I rfl (by omega) nI_0.symm (by rw [cpN_0, setR_self])
set_option maxHeartbeats 1000000 in
set_option maxRecDepth 100000 in
theorem t_isKnown (l : Launch) (G : Gm) (I : Hp) (N : Nrow) (h87 : I 87 = N) (n : Nat) (hn : n ≤ 10) (hN : N 1 = nI n) (s : Int32) : Meth l G yX8_isKnown cX8_isKnown 2 (some (FieldType.boolean)) 3 0 0 [.ref 86, .int s] LAY I (fun r lay1 I1 => r = some (.int (b2i (decide (s &&& (q_com N n ^^^ -1) = 0)))) ∧ lay1 = LAY ∧ I1 = I) := by
  subst h87
  refine Meth.of (by decide +kernel) (by simp [Value.category]) (Nat.le_of_ble_eq_true rfl) ?_
  refine A_iload_n rfl dX8_isKnown_0 ?_
  refine A_aload_n rfl dX8_isKnown_1 ?_
  refine A_callV (t_com l G I _ rfl n hn hN) m_X8_common ml_X8_165 rfl lay_86 rfl (by decide) rfl rfl (Nat.le_of_ble_eq_true rfl) (by decide) (by decide) (by decide) dX8_isKnown_2 (fun _ _ _ h => congrArg List.length h.2.1) ?_
  rintro _ _ _ ⟨rfl, rfl, e9⟩
  refine AW_I e9 ?_
  clear e9
  refine A_iconst ic_m1 dX8_isKnown_5 ?_
  refine A_ixor dX8_isKnown_6 ?_
  refine A_iand dX8_isKnown_7 ?_
  refine A_if_ne 15 rfl dX8_isKnown_8 (fun cq8 => ?_) (fun cq8 => ?_)
  · skip
    refine A_iconst ic_0 dX8_isKnown_15 ?_
    refine A_iret rfl rfl rfl rfl dX8_isKnown_16 ?_
    refine ⟨?_, rfl, rfl⟩
    first | rw [b2i_ff cq8] | rw [b2i_tt cq8]
  · skip
    refine A_iconst ic_1 dX8_isKnown_11 ?_
    refine A_goto 16 rfl dX8_isKnown_12 ?_
    refine A_iret rfl rfl rfl rfl dX8_isKnown_16 ?_
    refine ⟨?_, rfl, rfl⟩
    first | rw [b2i_ff cq8] | rw [b2i_tt cq8]
set_option maxHeartbeats 1000000 in
set_option maxRecDepth 100000 in
theorem t_worth (l : Launch) (G : Gm) (I : Hp) (N : Nrow) (h87 : I 87 = N) (j : Nat) (hj : j < 10) : Meth l G yX8_worthOf cX8_worthOf 3 (some (FieldType.int)) 2 0 0 [.ref 86, .int (nI j)] LAY I (fun r lay1 I1 => r = some (.int (q_worth (N (16 + 5 * j)) (N (19 + 5 * j)))) ∧ lay1 = LAY ∧ I1 = I) := by
  subst h87
  refine Meth.of (by decide +kernel) (by simp [Value.category]) (Nat.le_of_ble_eq_true rfl) ?_
  refine A_aload_n rfl dX8_worthOf_0 ?_
  refine A_iload_n rfl dX8_worthOf_1 ?_
  refine A_iconst ic_3 dX8_worthOf_2 ?_
  refine A_callV (t_of l G I _ rfl j 3 (by omega)) m_X8_of ml_X8_94 rfl lay_86 rfl (by decide) rfl rfl (Nat.le_of_ble_eq_true rfl) (by decide) (by decide) (by decide) dX8_worthOf_3 (fun _ _ _ h => congrArg List.length h.2.1) ?_
  rintro _ _ _ ⟨rfl, rfl, e9⟩
  refine AW_I e9 ?_
  clear e9
  refine A_istore_n (by decide) rfl dX8_worthOf_6 ?_
  refine A_aload_n rfl dX8_worthOf_7 ?_
  refine A_iload_n rfl dX8_worthOf_8 ?_
  refine A_iconst ic_0 dX8_worthOf_9 ?_
  refine A_callV (t_of l G I _ rfl j 0 (by omega)) m_X8_of ml_X8_94 rfl lay_86 rfl (by decide) rfl rfl (Nat.le_of_ble_eq_true rfl) (by decide) (by decide) (by decide) dX8_worthOf_10 (fun _ _ _ h => congrArg List.length h.2.1) ?_
  rintro _ _ _ ⟨rfl, rfl, e9⟩
  refine AW_I e9 ?_
  clear e9
  refine A_tsw 70 rfl dX8_worthOf_13 rfl (fun jsw off hjsw cq13 => ?_) (fun cq13 => ?_)
  · match jsw, hjsw, cq13 with
    | 0, hjsw, cq13 =>
      cases hjsw
      replace cq13 := i_eq cq13 (ic_1)
      refine ⟨48, rfl, ?_⟩
      refine A_iload_n rfl dX8_worthOf_48 ?_
      refine A_iconst ic_5 dX8_worthOf_49 ?_
      refine A_iadd dX8_worthOf_50 ?_
      refine A_iret rfl rfl rfl rfl dX8_worthOf_51 ?_
      have hkd : I 87 (16 + 5 * j) = 1 := cq13
      refine ⟨?_, rfl, rfl⟩
      show _ = some (Value.int (q_worth (I 87 (16 + 5 * j)) (I 87 (19 + 5 * j))))
      rw [hkd]
      rfl
    | 1, hjsw, cq13 =>
      cases hjsw
      replace cq13 := i_eq cq13 (ic_2)
      refine ⟨52, rfl, ?_⟩
      refine A_bipush bp_99 dX8_worthOf_52 ?_
      refine A_iload_n rfl dX8_worthOf_54 ?_
      refine A_isub dX8_worthOf_55 ?_
      refine A_iret rfl rfl rfl rfl dX8_worthOf_56 ?_
      have hkd : I 87 (16 + 5 * j) = 2 := cq13
      refine ⟨?_, rfl, rfl⟩
      show _ = some (Value.int (q_worth (I 87 (16 + 5 * j)) (I 87 (19 + 5 * j))))
      rw [hkd]
      rfl
    | 2, hjsw, cq13 =>
      cases hjsw
      replace cq13 := i_eq cq13 (ic_3)
      refine ⟨57, rfl, ?_⟩
      refine A_iconst ic_2 dX8_worthOf_57 ?_
      refine A_iload_n rfl dX8_worthOf_58 ?_
      refine A_iconst ic_5 dX8_worthOf_59 ?_
      refine A_iadd dX8_worthOf_60 ?_
      refine A_imul dX8_worthOf_61 ?_
      refine A_iret rfl rfl rfl rfl dX8_worthOf_62 ?_
      have hkd : I 87 (16 + 5 * j) = 3 := cq13
      refine ⟨?_, rfl, rfl⟩
      show _ = some (Value.int (q_worth (I 87 (16 + 5 * j)) (I 87 (19 + 5 * j))))
      rw [hkd]
      rfl
    | 3, hjsw, cq13 =>
      cases hjsw
      replace cq13 := i_eq cq13 (ic_4)
      refine ⟨63, rfl, ?_⟩
      refine A_bipush bp_92 dX8_worthOf_63 ?_
      refine A_iload_n rfl dX8_worthOf_65 ?_
      refine A_isub dX8_worthOf_66 ?_
      refine A_iret rfl rfl rfl rfl dX8_worthOf_67 ?_
      have hkd : I 87 (16 + 5 * j) = 4 := cq13
      refine ⟨?_, rfl, rfl⟩
      show _ = some (Value.int (q_worth (I 87 (16 + 5 * j)) (I 87 (19 + 5 * j))))
      rw [hkd]
      rfl
    | 4, hjsw, cq13 =>
      cases hjsw
      replace cq13 := i_eq cq13 (ic_5)
      refine ⟨68, rfl, ?_⟩
      refine A_iconst ic_2 dX8_worthOf_68 ?_
      refine A_iret rfl rfl rfl rfl dX8_worthOf_69 ?_
      have hkd : I 87 (16 + 5 * j) = 5 := cq13
      refine ⟨?_, rfl, rfl⟩
      show _ = some (Value.int (q_worth (I 87 (16 + 5 * j)) (I 87 (19 + 5 * j))))
      rw [hkd]
      rfl
    | jsw + 5, hjsw, _ => exact absurd hjsw (by simp)
  · skip
    refine A_iload_n rfl dX8_worthOf_70 ?_
    refine A_iret rfl rfl rfl rfl dX8_worthOf_71 ?_
    have hne : ∀ v : Int32, 1 ≤ v.toInt → v.toInt ≤ 5 → I 87 (16 + 5 * j) ≠ v := by
      intro v hv1 hv2 hv3
      have hq9 : (I 87 (16 + 5 * j)).toInt < 1 ∨ 5 < (I 87 (16 + 5 * j)).toInt := cq13
      rw [hv3] at hq9
      omega
    refine ⟨?_, rfl, rfl⟩
    unfold q_worth
    rw [if_neg (hne 1 (by decide) (by decide)), if_neg (hne 2 (by decide) (by decide)), if_neg (hne 3 (by decide) (by decide)), if_neg (hne 4 (by decide) (by decide)), if_neg (hne 5 (by decide) (by decide))]
