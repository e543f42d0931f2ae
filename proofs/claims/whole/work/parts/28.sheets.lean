theorem held50 (v : Int32) : (if v < -50 then (-50 : Int32) else if 50 < v then 50 else v) = heldF v (-50) 50 := by
  unfold heldF
  by_cases h1 : v < -50
  · have h3 : v < 50 := Int32.lt_trans h1 (by decide)
    rw [if_pos h1, if_pos h3, if_neg (fun h => absurd (Int32.lt_trans h h1) (by decide))]
  · rw [if_neg h1]
    by_cases h2 : 50 < v
    · rw [if_pos h2, if_neg (Int32.not_lt.mpr (Int32.le_of_lt h2)), if_pos (by decide)]
    · rw [if_neg h2]
      by_cases h3 : v < 50
      · rw [if_pos h3]
        by_cases h4 : -50 < v
        · rw [if_pos h4]
        · rw [if_neg h4]
          exact Int32.le_antisymm (Int32.not_lt.mp h4) (Int32.not_lt.mp h1)
      · rw [if_neg h3, if_pos (by decide)]
        exact Int32.le_antisymm (Int32.not_lt.mp h2) (Int32.not_lt.mp h3)
theorem pour_end {m : Nat} {c : Nat → Int32} {N : Nrow} : ∀ d, q_pour m c N (m + d) = q_pour m c N m
  | 0 => rfl
  | d + 1 => by rw [show m + (d + 1) = (m + d) + 1 from rfl, q_pour, if_neg (fun h => absurd h.1 (by omega)), pour_end d]
theorem pour_x {m : Nat} {c : Nat → Int32} {N : Nrow} {z : Nat} (hz : ∀ k, k < 8 → z ≠ 8 + k) : ∀ k, k ≤ 8 → (q_pour m c N k).1 z = N z
  | 0, _ => rfl
  | k + 1, h => by
    rw [q_pour]
    split
    · dsimp only
      rw [upd_n (hz k (by omega))]; exact pour_x hz k (by omega)
    · exact pour_x hz k (by omega)
set_option maxHeartbeats 1000000 in
set_option maxRecDepth 100000 in
theorem m_pour (l : Launch) (G : Gm) (I : Hp) (N : Nrow) (h87 : I 87 = N) (n : Nat) (hn : n ≤ 10) (hN : N 1 = nI n) (S Z : Nrow) (C : Fn2) (hS : ShM I S Z C) (hW : ShW S Z C) (s : Int32) : Meth l G yX8_pour cX8_pour 6 (some (FieldType.int)) 3 0 0 [.ref 86, .int s] LAY I (fun r lay1 I1 => r = some (.int (g_pour S Z C N s).1) ∧ lay1 = LAY ∧ I1 = setN I (g_pour S Z C N s).2) := by
  subst h87
  have loop : ∀ (lpn : Nat) (i m k : Nat) (x : Int32) (o4 o5 : Option Value) (K : Hp), 8 - k = lpn → (s = nI i) → (i < 4) → (m ≤ 24) → (Z i = nI m) → (k ≤ 8) → (k ≤ m) → (g_pour S Z C (I 87) s = ((q_pour m (C i) (I 87) 8).2, (q_pour m (C i) (I 87) 8).1)) → (x = (q_pour m (C i) (I 87) k).2) → (K = setN I (q_pour m (C i) (I 87) k).1) → AW l G yX8_pour cX8_pour 6 (some (FieldType.int)) 3 0 0 (fun r lay1 I1 => r = some (.int (g_pour S Z C (I 87) s).1) ∧ lay1 = LAY ∧ I1 = setN I (g_pour S Z C (I 87) s).2) 0 0 26 [some (.ref 86), some (.int s), some (.int x), some (.int (nI k)), o4, o5] [] LAY K := by
    intro lpn
    induction lpn using Nat.strongRecOn with
    | _ lpn ih =>
      intro i m k x o4 o5 K hms hsi hi hm hz hk hkm0 heg hx hKe
      subst hsi
      subst hKe
      have eZ : (setN I (q_pour m (C i) (I 87) k).1) 100 i = nI m := by rw [setN_ne (by decide), (hS i hi).2.1, hz]
      have eC : ∀ z, z < 24 → (setN I (q_pour m (C i) (I 87) k).1) 101 (24 * i + z) = C i z := fun z hz1 => by rw [setN_ne (by decide)]; exact (hS i hi).2.2 z hz1
      have e87 : (setN I (q_pour m (C i) (I 87) k).1) 87 = (q_pour m (C i) (I 87) k).1 := setN_87
      refine A_iload_n rfl dX8_pour_26 ?_
      refine A_aload_n rfl dX8_pour_27 ?_
      refine A_getR fr_X8_55.g rfl lay_86 rfl dX8_pour_28 ?_
      refine A_iload_n rfl dX8_pour_31 ?_
      refine A_iald i rfl lay_100 (by omega) (by decide) dX8_pour_32 ?_
      refine A_icmp_ge 114 rfl dX8_pour_33 (fun cq33 => ?_) (fun cq33 => ?_)
      · skip
        have hend : q_pour m (C i) (I 87) 8 = (q_pour m (C i) (I 87) k) := by
          first
            | (have h7 := (le_nI eZ (rfl : nI k = nI k) (by omega) (by omega)).mp cq33; have h8 : k = m := (by omega); have h9 := pour_end (m := m) (c := C i) (N := I 87) (8 - m); rw [h8, ← h9]; congr 1; omega)
            | (have h7 := (le_nI (show (8 : Int32) = nI 8 from rfl) (rfl : nI k = nI k) (by omega) (by omega)).mp cq39; have h8 : k = 8 := (by omega); rw [h8])
        refine A_iload_n rfl dX8_pour_114 ?_
        refine A_iret rfl rfl rfl rfl dX8_pour_115 ?_
        rw [heg, hend]
        exact ⟨by rw [hx], rfl, rfl⟩
      · skip
        refine A_iload_n rfl dX8_pour_36 ?_
        refine A_bipush bp_8 dX8_pour_37 ?_
        refine A_icmp_ge 114 rfl dX8_pour_39 (fun cq39 => ?_) (fun cq39 => ?_)
        · skip
          have hend : q_pour m (C i) (I 87) 8 = (q_pour m (C i) (I 87) k) := by
            first
              | (have h7 := (le_nI eZ (rfl : nI k = nI k) (by omega) (by omega)).mp cq33; have h8 : k = m := (by omega); have h9 := pour_end (m := m) (c := C i) (N := I 87) (8 - m); rw [h8, ← h9]; congr 1; omega)
              | (have h7 := (le_nI (show (8 : Int32) = nI 8 from rfl) (rfl : nI k = nI k) (by omega) (by omega)).mp cq39; have h8 : k = 8 := (by omega); rw [h8])
          refine A_iload_n rfl dX8_pour_114 ?_
          refine A_iret rfl rfl rfl rfl dX8_pour_115 ?_
          rw [heg, hend]
          exact ⟨by rw [hx], rfl, rfl⟩
        · skip
          have hkm : k < m := by
            have hq1 := mt (le_nI eZ (rfl : nI k = nI k) (by omega) (by omega)).mpr cq33
            omega
          have hk8 : k < 8 := by
            have hq1 := mt (le_nI (show (8 : Int32) = nI 8 from rfl) (rfl : nI k = nI k) (by omega) (by omega)).mpr cq39
            omega
          refine A_aload_n rfl dX8_pour_42 ?_
          refine A_getR fr_X8_58.g rfl lay_86 rfl dX8_pour_43 ?_
          refine A_bipush bp_24 dX8_pour_46 ?_
          refine A_iload_n rfl dX8_pour_48 ?_
          refine A_imul dX8_pour_49 ?_
          refine A_iload_n rfl dX8_pour_50 ?_
          refine A_iadd dX8_pour_51 ?_
          refine A_iald (24 * i + k) (ix_24 i k) lay_101 (by omega) (by decide) dX8_pour_52 ?_
          rw [eC k (by omega)]
          refine A_istore (by decide) rfl dX8_pour_53 ?_
          refine A_iload rfl dX8_pour_55 ?_
          refine A_ldc kc_X8_79 rfl dX8_pour_57 ?_
          refine A_icmp_ne 74 rfl dX8_pour_59 (fun cq59 => ?_) (fun cq59 => ?_)
          · skip
            refine A_iload rfl dX8_pour_74 ?_
            refine A_bipush bp_m50 dX8_pour_76 ?_
            refine A_bipush bp_50 dX8_pour_78 ?_
            refine A_callS (s_withinM l G _ _ _ _ _) m_X8_within ml_X8_111 rfl rfl rfl (Nat.le_of_ble_eq_true rfl) (by decide) (by decide) (by decide) dX8_pour_80 (fun _ _ _ h => congrArg List.length h.2.1) ?_
            rintro _ _ _ ⟨rfl, rfl, e9⟩
            refine AW_I e9 ?_
            clear e9
            try rw [held50]
            refine A_istore (by decide) rfl dX8_pour_83 ?_
            refine A_iload_n rfl dX8_pour_85 ?_
            refine A_aload_n rfl dX8_pour_86 ?_
            refine A_bipush bp_8 dX8_pour_87 ?_
            refine A_iload_n rfl dX8_pour_89 ?_
            refine A_iadd dX8_pour_90 ?_
            rw [ix_8]
            refine A_iload rfl dX8_pour_91 ?_
            refine A_callV (t_becomes l G _ _ setN_87 (8 + k) _ (by omega)) m_X8_becomes ml_X8_142 rfl lay_86 rfl (by decide) rfl rfl (Nat.le_of_ble_eq_true rfl) (by decide) (by decide) (by decide) dX8_pour_93 (fun _ _ _ h => congrArg List.length h.2.1) ?_
            rintro _ _ _ ⟨rfl, rfl, e9⟩
            refine AW_I e9 ?_
            clear e9
            refine A_iload rfl dX8_pour_96 ?_
            refine A_icmp_ne 105 rfl dX8_pour_98 (fun cq98 => ?_) (fun cq98 => ?_)
            · skip
              refine A_iconst ic_1 dX8_pour_105 ?_
              refine A_iadd dX8_pour_106 ?_
              refine A_istore_n (by decide) rfl dX8_pour_107 ?_
              refine A_iinc ic_1 rfl (by decide) rfl dX8_pour_108 ?_
              refine A_goto 26 rfl dX8_pour_111 ?_
              refine AW_L (by rw [nI_1 k]) ?_
              refine ih (8 - (k + 1)) (by omega) i m (k + 1) _ _ _ _ rfl rfl hi hm hz (by omega) (by omega) heg ?_ ?_
              · rw [hx, q_pour]
                first
                  | (have h7 : C i k = -1000000005 := cq59; rw [if_neg (fun h9 => h9.2 h7)]; first | exact absurd rfl cq98 | simp)
                  | (have h7 : ¬ C i k = -1000000005 := cq59; rw [if_pos ⟨hkm, h7⟩]; first | rw [if_pos cq98] | rw [if_neg cq98])
              · rw [setN_set, q_pour]
                first
                  | (have h7 : C i k = -1000000005 := cq59; rw [if_neg (fun h9 => h9.2 h7), upd_id])
                  | (have h7 : ¬ C i k = -1000000005 := cq59; rw [if_pos ⟨hkm, h7⟩])
            · skip
              refine A_iconst ic_0 dX8_pour_101 ?_
              refine A_goto 106 rfl dX8_pour_102 ?_
              refine A_iadd dX8_pour_106 ?_
              refine A_istore_n (by decide) rfl dX8_pour_107 ?_
              refine A_iinc ic_1 rfl (by decide) rfl dX8_pour_108 ?_
              refine A_goto 26 rfl dX8_pour_111 ?_
              refine AW_L (by rw [nI_1 k]) ?_
              refine ih (8 - (k + 1)) (by omega) i m (k + 1) _ _ _ _ rfl rfl hi hm hz (by omega) (by omega) heg ?_ ?_
              · rw [hx, q_pour]
                first
                  | (have h7 : C i k = -1000000005 := cq59; rw [if_neg (fun h9 => h9.2 h7)]; first | exact absurd rfl cq98 | simp)
                  | (have h7 : ¬ C i k = -1000000005 := cq59; rw [if_pos ⟨hkm, h7⟩]; first | rw [if_pos cq98] | rw [if_neg cq98])
              · rw [setN_set, q_pour]
                first
                  | (have h7 : C i k = -1000000005 := cq59; rw [if_neg (fun h9 => h9.2 h7), upd_id])
                  | (have h7 : ¬ C i k = -1000000005 := cq59; rw [if_pos ⟨hkm, h7⟩])
          · skip
            refine A_aload_n rfl dX8_pour_62 ?_
            refine A_getR fr_X8_9.g rfl lay_86 rfl dX8_pour_63 ?_
            refine A_bipush bp_8 dX8_pour_66 ?_
            refine A_iload_n rfl dX8_pour_68 ?_
            refine A_iadd dX8_pour_69 ?_
            refine A_iald (8 + k) (ix_8 k) lay_87 (by omega) (by decide) dX8_pour_70 ?_
            rw [e87]
            refine A_goto 83 rfl dX8_pour_71 ?_
            try rw [held50]
            refine A_istore (by decide) rfl dX8_pour_83 ?_
            refine A_iload_n rfl dX8_pour_85 ?_
            refine A_aload_n rfl dX8_pour_86 ?_
            refine A_bipush bp_8 dX8_pour_87 ?_
            refine A_iload_n rfl dX8_pour_89 ?_
            refine A_iadd dX8_pour_90 ?_
            rw [ix_8]
            refine A_iload rfl dX8_pour_91 ?_
            refine A_callV (t_becomes l G _ _ setN_87 (8 + k) _ (by omega)) m_X8_becomes ml_X8_142 rfl lay_86 rfl (by decide) rfl rfl (Nat.le_of_ble_eq_true rfl) (by decide) (by decide) (by decide) dX8_pour_93 (fun _ _ _ h => congrArg List.length h.2.1) ?_
            rintro _ _ _ ⟨rfl, rfl, e9⟩
            refine AW_I e9 ?_
            clear e9
            refine A_iload rfl dX8_pour_96 ?_
            refine A_icmp_ne 105 rfl dX8_pour_98 (fun cq98 => ?_) (fun cq98 => ?_)
            · skip
              refine A_iconst ic_1 dX8_pour_105 ?_
              refine A_iadd dX8_pour_106 ?_
              refine A_istore_n (by decide) rfl dX8_pour_107 ?_
              refine A_iinc ic_1 rfl (by decide) rfl dX8_pour_108 ?_
              refine A_goto 26 rfl dX8_pour_111 ?_
              refine AW_L (by rw [nI_1 k]) ?_
              refine ih (8 - (k + 1)) (by omega) i m (k + 1) _ _ _ _ rfl rfl hi hm hz (by omega) (by omega) heg ?_ ?_
              · rw [hx, q_pour]
                first
                  | (have h7 : C i k = -1000000005 := cq59; rw [if_neg (fun h9 => h9.2 h7)]; first | exact absurd rfl cq98 | simp)
                  | (have h7 : ¬ C i k = -1000000005 := cq59; rw [if_pos ⟨hkm, h7⟩]; first | rw [if_pos cq98] | rw [if_neg cq98])
              · rw [setN_set, q_pour]
                first
                  | (have h7 : C i k = -1000000005 := cq59; rw [if_neg (fun h9 => h9.2 h7), upd_id])
                  | (have h7 : ¬ C i k = -1000000005 := cq59; rw [if_pos ⟨hkm, h7⟩])
            · skip
              refine A_iconst ic_0 dX8_pour_101 ?_
              refine A_goto 106 rfl dX8_pour_102 ?_
              refine A_iadd dX8_pour_106 ?_
              refine A_istore_n (by decide) rfl dX8_pour_107 ?_
              refine A_iinc ic_1 rfl (by decide) rfl dX8_pour_108 ?_
              refine A_goto 26 rfl dX8_pour_111 ?_
              refine AW_L (by rw [nI_1 k]) ?_
              refine ih (8 - (k + 1)) (by omega) i m (k + 1) _ _ _ _ rfl rfl hi hm hz (by omega) (by omega) heg ?_ ?_
              · rw [hx, q_pour]
                first
                  | (have h7 : C i k = -1000000005 := cq59; rw [if_neg (fun h9 => h9.2 h7)]; first | exact absurd rfl cq98 | simp)
                  | (have h7 : ¬ C i k = -1000000005 := cq59; rw [if_pos ⟨hkm, h7⟩]; first | rw [if_pos cq98] | rw [if_neg cq98])
              · rw [setN_set, q_pour]
                first
                  | (have h7 : C i k = -1000000005 := cq59; rw [if_neg (fun h9 => h9.2 h7), upd_id])
                  | (have h7 : ¬ C i k = -1000000005 := cq59; rw [if_pos ⟨hkm, h7⟩])
  refine Meth.of (by decide +kernel) (by simp [Value.category]) (Nat.le_of_ble_eq_true rfl) ?_
  refine A_iload_n rfl dX8_pour_0 ?_
  refine A_callS (s_isSheetM l G _ _ _) m_X8_isSheet ml_X8_192 rfl rfl rfl (Nat.le_of_ble_eq_true rfl) (by decide) (by decide) (by decide) dX8_pour_1 (fun _ _ _ h => congrArg List.length h.2.1) ?_
  rintro _ _ _ ⟨rfl, rfl, e9⟩
  refine AW_I e9 ?_
  clear e9
  refine A_if_ne 10 rfl dX8_pour_4 (fun cq4 => ?_) (fun cq4 => ?_)
  · skip
    have hs0 := b2i_p.mp cq4
    obtain ⟨i, hi, rfl⟩ := in_get (a := 3) rfl hs0
    replace hi : i < 4 := by omega
    obtain ⟨m, hm, hz⟩ := (hW i hi).2.1
    have eS : I 99 i = S i := (hS i hi).1
    have hSi := s_neg (hW i hi).1
    refine A_aload_n rfl dX8_pour_10 ?_
    refine A_getR fr_X8_52.g rfl lay_86 rfl dX8_pour_11 ?_
    refine A_iload_n rfl dX8_pour_14 ?_
    refine A_iald i rfl lay_99 (by omega) (by decide) dX8_pour_15 ?_
    refine A_if_ge 22 rfl dX8_pour_16 (fun cq16 => ?_) (fun cq16 => ?_)
    · skip
      refine A_iconst ic_0 dX8_pour_22 ?_
      refine A_istore_n (by decide) rfl dX8_pour_23 ?_
      refine A_iconst ic_0 dX8_pour_24 ?_
      refine A_istore_n (by decide) rfl dX8_pour_25 ?_
      rw [eS] at cq16
      have hn1 : ¬ S i = -1 := fun h9 => hSi.1.mpr h9 cq16
      exact loop 8 i m 0 _ _ _ I rfl rfl hi hm hz (by omega) (by omega) (by rw [g_pour, if_pos hs0, nI_clamp (by omega), if_neg hn1, hz, nI_clamp (by omega)]) rfl setN_self.symm
    · skip
      refine A_ldc kc_X8_195 rfl dX8_pour_19 ?_
      refine A_iret rfl rfl rfl rfl dX8_pour_21 ?_
      rw [eS] at cq16
      rw [g_pour, if_pos hs0, nI_clamp (by omega), if_pos (hSi.1.mp cq16)]
      exact ⟨rfl, rfl, setN_self.symm⟩
  · skip
    refine A_ldc kc_X8_88 rfl dX8_pour_7 ?_
    refine A_iret rfl rfl rfl rfl dX8_pour_9 ?_
    rw [g_pour, if_neg (b2i_q.mp cq4)]
    exact ⟨rfl, rfl, setN_self.symm⟩
def q_rd (c : Nat → Int32) (N : Nrow) (n : Nat) : Nat → Nat → Int32
  | 0, _ => -1000000005
  | g + 1, k => if c k = -1000000005 ∨ (k < n ∧ c k = b2i (q_gui N k)) then q_rd c N n g (k + 1) else nI k
def f_reads (S Z : Nrow) (C : Fn2) (N : Nrow) (n : Nat) (s : Int32) : Int32 := if 0 ≤ s ∧ s ≤ 3 then (if S s.toNatClampNeg = -1 then -1000000011 else q_rd (C s.toNatClampNeg) N n (Z s.toNatClampNeg).toNatClampNeg 0) else -1000000001
set_option maxHeartbeats 1000000 in
set_option maxRecDepth 100000 in
theorem c_reads (l : Launch) (G : Gm) (I : Hp) (N : Nrow) (n : Nat) (hn : n ≤ 10) (hN : N 1 = nI n) (hR : RepJ I 36 N) (T : Nat) (hK : KnJ N) (hTx : TxJ N T) (hLw : LwR I N T) (hDo : DoJ N) (S Z : Nrow) (C : Fn2) (hS : ShC I S Z C) (hW : ShW S Z C) (s : Int32) : Meth l G yX7_reads cX7_reads 4 (some (FieldType.int)) 7 0 0 [.ref 0, .int s] LAY I (fun r lay1 I1 => r = some (.int (f_reads S Z C N n s)) ∧ lay1 = LAY ∧ ∀ q, q ≠ 2 → I1 q = I q) := by
  have loop : ∀ (lpn : Nat) (i m k : Nat) (K : Hp), m - k = lpn → (s = nI i) → (i < 4) → (m ≤ 24) → (Z i = nI m) → (k ≤ m) → (f_reads S Z C N n s = q_rd (C i) N n (m - k) k) → (∀ q, q ≠ 2 → K q = I q) → AW l G yX7_reads cX7_reads 4 (some (FieldType.int)) 7 0 0 (fun r lay1 I1 => r = some (.int (f_reads S Z C N n s)) ∧ lay1 = LAY ∧ ∀ q, q ≠ 2 → I1 q = I q) 0 0 30 [some (.ref 0), some (.int s), some (.ref (61 + 2 * i)), some (.int (nI k))] [] LAY K := by
    intro lpn
    induction lpn using Nat.strongRecOn with
    | _ lpn ih =>
      intro i m k K hms hsi hi hm hz hk heg hfr
      subst hsi
      have eZ : K (61 + 2 * i) 1 = nI m := by rw [hfr _ (by omega), (hS i hi).2.1, hz]
      have eC : ∀ z, z < 24 → K (61 + 2 * i + 1) z = C i z := fun z hz1 => by rw [hfr _ (by omega)]; exact (hS i hi).2.2 z hz1
      have hRK : RepJ K 36 N := hR.other (fun q h1 h2 => hfr q (by omega))
      have e8 : K 36 8 = nI n := hRK.1.1.trans hN
      refine A_iload_n rfl dX7_reads_30 ?_
      refine A_aload_n rfl dX7_reads_31 ?_
      refine A_getI fr_X7_244.g rfl (lr (isR_s hi)) dX7_reads_32 ?_
      refine A_icmp_ge 82 rfl dX7_reads_35 (fun cq35 => ?_) (fun cq35 => ?_)
      · skip
        have hkn : k = m := by
          have hq1 := (le_nI eZ (rfl : nI k = nI k) (by omega) (by omega)).mp cq35
          omega
        subst hkn
        refine A_ldc kc_X7_109 rfl dX7_reads_82 ?_
        refine A_iret rfl rfl rfl rfl dX7_reads_84 ?_
        rw [heg, show k - k = 0 by omega]
        exact ⟨rfl, rfl, hfr⟩
      · skip
        have hkn : k < m := by
          have hq1 := mt (le_nI eZ (rfl : nI k = nI k) (by omega) (by omega)).mpr cq35
          omega
        obtain ⟨g, hg⟩ : ∃ g, m - k = g + 1 := ⟨m - k - 1, by omega⟩
        refine A_aload_n rfl dX7_reads_38 ?_
        refine A_iload_n rfl dX7_reads_39 ?_
        refine A_callV (s_hasN l G K (61 + 2 * i) (isR_s hi) (nI k) m hm eZ) m_X4_hasNumber ml_X7_252 rfl (lr (isR_s hi)) rfl (by decide) rfl rfl (Nat.le_of_ble_eq_true rfl) (by decide) (by decide) (by decide) dX7_reads_40 (fun _ _ _ h => congrArg List.length h.2.1) ?_
        rintro _ _ _ ⟨rfl, rfl, e9⟩
        refine AW_I e9 ?_
        clear e9
        refine A_if_eq 76 rfl dX7_reads_43 (fun cq43 => ?_) (fun cq43 => ?_)
        · skip
          refine A_iinc ic_1 rfl (by decide) rfl dX7_reads_76 ?_
          refine A_goto 30 rfl dX7_reads_79 ?_
          refine AW_L (by rw [nI_1 k]) ?_
          first
            | (have h7 := b2i_q.mp cq43
               rw [eZ, nI_clamp (by omega), eC k (by omega)] at h7
               have h8 : C i k = -1000000005 := Classical.byContradiction (fun h9 => h7 ⟨⟨nI_pos' (by omega), (nI_ltI (by omega) (by omega)).mpr hkn⟩, h9⟩)
               exact ih (m - (k + 1)) (by omega) i m (k + 1) _ rfl rfl hi hm hz (by omega) (by rw [heg, hg, show m - (k + 1) = g by omega, q_rd, if_pos (Or.inl h8)]) hfr)
            | exact ih (m - (k + 1)) (by omega) i m (k + 1) _ rfl rfl hi hm hz (by omega) (by rw [heg, hg, show m - (k + 1) = g by omega, q_rd, if_pos (Or.inr ⟨hkN, cq71⟩)]) (fun q hq => (hf2 q hq).trans (hfr q hq))
        · skip
          have hc := b2i_p.mp cq43
          rw [nI_clamp (by omega), eC k (by omega)] at hc
          refine A_aload_n rfl dX7_reads_46 ?_
          refine A_getR fr_X7_28.g rfl lay_0 rfl dX7_reads_47 ?_
          refine A_iload_n rfl dX7_reads_50 ?_
          refine A_callV (s_has l G 36 j36 K _) m_X0_has ml_X7_70 rfl (lj j36) rfl (by decide) rfl rfl (Nat.le_of_ble_eq_true rfl) (by decide) (by decide) (by decide) dX7_reads_51 (fun _ _ _ h => congrArg List.length h.2.1) ?_
          rintro _ _ _ ⟨rfl, rfl, e9⟩
          refine AW_I e9 ?_
          clear e9
          refine A_if_eq 74 rfl dX7_reads_54 (fun cq54 => ?_) (fun cq54 => ?_)
          · skip
            refine A_iload_n rfl dX7_reads_74 ?_
            refine A_iret rfl rfl rfl rfl dX7_reads_75 ?_
            first
              | (have h7 := b2i_q.mp cq54
                 rw [e8] at h7
                 rw [heg, hg, q_rd, if_neg (fun h9 => h9.elim hc.2 (fun h8 => h7 ⟨nI_pos' (by omega), (nI_ltI (by omega) (by omega)).mpr h8.1⟩))]
                 exact ⟨rfl, rfl, hfr⟩)
              | (rw [heg, hg, q_rd, if_neg (fun h9 => h9.elim hc.2 (fun h8 => cq71 h8.2))]
                 exact ⟨rfl, rfl, fun q hq => (hf2 q hq).trans (hfr q hq)⟩)
          · skip
            have hj0 := b2i_p.mp cq54
            rw [e8] at hj0
            have hkN : k < n := (nI_ltI (by omega) (by omega)).mp hj0.2
            have hkj : k < 10 := by omega
            refine A_aload_n rfl dX7_reads_57 ?_
            refine A_getR fr_X7_247 rfl (lr (isR_s hi)) rfl dX7_reads_58 ?_
            refine A_iload_n rfl dX7_reads_61 ?_
            refine A_iald k rfl (lr2 (isR_s hi)) (by omega) (by decide) dX7_reads_62 ?_
            rw [eC k (by omega)]
            refine A_aload_n rfl dX7_reads_63 ?_
            refine A_getR fr_X7_28.g rfl lay_0 rfl dX7_reads_64 ?_
            refine A_iload_n rfl dX7_reads_67 ?_
            refine A_callV (s_verdict l G 36 j36 K N T hRK hK hTx (lw_other hLw hfr) hDo k hkj) m_X0_verdict ml_X7_93 rfl (lj j36) rfl (by decide) rfl rfl (Nat.le_of_ble_eq_true rfl) (by decide) (by decide) (by decide) dX7_reads_68 (fun _ _ _ h => congrArg List.length h.2.1) ?_
            rintro _ _ K2 ⟨rfl, rfl, hf2⟩
            refine A_icmp_eq 76 rfl dX7_reads_71 (fun cq71 => ?_) (fun cq71 => ?_)
            · skip
              refine A_iinc ic_1 rfl (by decide) rfl dX7_reads_76 ?_
              refine A_goto 30 rfl dX7_reads_79 ?_
              refine AW_L (by rw [nI_1 k]) ?_
              first
                | (have h7 := b2i_q.mp cq43
                   rw [eZ, nI_clamp (by omega), eC k (by omega)] at h7
                   have h8 : C i k = -1000000005 := Classical.byContradiction (fun h9 => h7 ⟨⟨nI_pos' (by omega), (nI_ltI (by omega) (by omega)).mpr hkn⟩, h9⟩)
                   exact ih (m - (k + 1)) (by omega) i m (k + 1) _ rfl rfl hi hm hz (by omega) (by rw [heg, hg, show m - (k + 1) = g by omega, q_rd, if_pos (Or.inl h8)]) hfr)
                | exact ih (m - (k + 1)) (by omega) i m (k + 1) _ rfl rfl hi hm hz (by omega) (by rw [heg, hg, show m - (k + 1) = g by omega, q_rd, if_pos (Or.inr ⟨hkN, cq71⟩)]) (fun q hq => (hf2 q hq).trans (hfr q hq))
            · skip
              refine A_iload_n rfl dX7_reads_74 ?_
              refine A_iret rfl rfl rfl rfl dX7_reads_75 ?_
              first
                | (have h7 := b2i_q.mp cq54
                   rw [e8] at h7
                   rw [heg, hg, q_rd, if_neg (fun h9 => h9.elim hc.2 (fun h8 => h7 ⟨nI_pos' (by omega), (nI_ltI (by omega) (by omega)).mpr h8.1⟩))]
                   exact ⟨rfl, rfl, hfr⟩)
                | (rw [heg, hg, q_rd, if_neg (fun h9 => h9.elim hc.2 (fun h8 => cq71 h8.2))]
                   exact ⟨rfl, rfl, fun q hq => (hf2 q hq).trans (hfr q hq)⟩)
  refine Meth.of (by decide +kernel) (by simp [Value.category]) (Nat.le_of_ble_eq_true rfl) ?_
  refine A_iload_n rfl dX7_reads_0 ?_
  refine A_callS (s_isSheet l G _ _ _) m_X7_isSheet ml_X7_186 rfl rfl rfl (Nat.le_of_ble_eq_true rfl) (by decide) (by decide) (by decide) dX7_reads_1 (fun _ _ _ h => congrArg List.length h.2.1) ?_
  rintro _ _ _ ⟨rfl, rfl, e9⟩
  refine AW_I e9 ?_
  clear e9
  refine A_if_ne 10 rfl dX7_reads_4 (fun cq4 => ?_) (fun cq4 => ?_)
  · skip
    have hs0 := b2i_p.mp cq4
    obtain ⟨i, hi, rfl⟩ := in_get (a := 3) rfl hs0
    replace hi : i < 4 := by omega
    obtain ⟨m, hm, hz⟩ := (hW i hi).2.1
    have eS : I (61 + 2 * i) 0 = S i := (hS i hi).1
    refine A_aload_n rfl dX7_reads_10 ?_
    refine A_getR fr_X7_40.g rfl lay_0 rfl dX7_reads_11 ?_
    refine A_iload_n rfl dX7_reads_14 ?_
    refine A_aald i rfl lay_60 (Or.inr (Or.inl rfl)) (by omega) (by decide) (sh_at i hi) dX7_reads_15 ?_
    refine A_astore_n (by decide) rfl dX7_reads_16 ?_
    refine A_aload_n rfl dX7_reads_17 ?_
    refine A_getI fr_X7_189.g rfl (lr (isR_s hi)) dX7_reads_18 ?_
    refine A_iconst ic_m1 dX7_reads_21 ?_
    refine A_icmp_ne 28 rfl dX7_reads_22 (fun cq22 => ?_) (fun cq22 => ?_)
    · skip
      refine A_iconst ic_0 dX7_reads_28 ?_
      refine A_istore_n (by decide) rfl dX7_reads_29 ?_
      rw [eS] at cq22
      exact loop m i m 0 I rfl rfl hi hm hz (by omega) (by rw [f_reads, if_pos hs0, nI_clamp (by omega), if_neg cq22, hz, nI_clamp (by omega)]; rfl) (fun _ _ => rfl)
    · skip
      refine A_ldc kc_X7_192 rfl dX7_reads_25 ?_
      refine A_iret rfl rfl rfl rfl dX7_reads_27 ?_
      rw [eS] at cq22
      rw [f_reads, if_pos hs0, nI_clamp (by omega), if_pos cq22]
      exact ⟨rfl, rfl, fun _ _ => rfl⟩
  · skip
    refine A_ldc kc_X7_60 rfl dX7_reads_7 ?_
    refine A_iret rfl rfl rfl rfl dX7_reads_9 ?_
    rw [f_reads, if_neg (b2i_q.mp cq4)]
    exact ⟨rfl, rfl, fun _ _ => rfl⟩
set_option maxHeartbeats 1000000 in
set_option maxRecDepth 100000 in
theorem m_reads (l : Launch) (G : Gm) (I : Hp) (N : Nrow) (h87 : I 87 = N) (n : Nat) (hn : n ≤ 10) (hN : N 1 = nI n) (T : Nat) (hTx : TxJ N T) (S Z : Nrow) (C : Fn2) (hS : ShM I S Z C) (hW : ShW S Z C) (s : Int32) : Meth l G yX8_reads cX8_reads 4 (some (FieldType.int)) 5 0 0 [.ref 86, .int s] LAY I (fun r lay1 I1 => r = some (.int (f_reads S Z C N n s)) ∧ lay1 = LAY ∧ ∀ q, q ≠ 97 → q ≠ 98 → I1 q = I q) := by
  subst h87
  have loop : ∀ (lpn : Nat) (i m k : Nat) (o3 : Option Value) (K : Hp), m - k = lpn → (s = nI i) → (i < 4) → (m ≤ 24) → (Z i = nI m) → (k ≤ m) → (f_reads S Z C (I 87) n s = q_rd (C i) (I 87) n (m - k) k) → (∀ q, q ≠ 97 → q ≠ 98 → K q = I q) → AW l G yX8_reads cX8_reads 4 (some (FieldType.int)) 5 0 0 (fun r lay1 I1 => r = some (.int (f_reads S Z C (I 87) n s)) ∧ lay1 = LAY ∧ ∀ q, q ≠ 97 → q ≠ 98 → I1 q = I q) 0 0 24 [some (.ref 86), some (.int s), some (.int (nI k)), o3] [] LAY K := by
    intro lpn
    induction lpn using Nat.strongRecOn with
    | _ lpn ih =>
      intro i m k o3 K hms hsi hi hm hz hk heg hfr
      subst hsi
      have eZ : K 100 i = nI m := by rw [hfr _ (by omega) (by omega), (hS i hi).2.1, hz]
      have eC : ∀ z, z < 24 → K 101 (24 * i + z) = C i z := fun z hz1 => by rw [hfr _ (by omega) (by omega)]; exact (hS i hi).2.2 z hz1
      have hK7 : K 87 = I 87 := hfr 87 (by decide) (by decide)
      refine A_iload_n rfl dX8_reads_24 ?_
      refine A_aload_n rfl dX8_reads_25 ?_
      refine A_getR fr_X8_55.g rfl lay_86 rfl dX8_reads_26 ?_
      refine A_iload_n rfl dX8_reads_29 ?_
      refine A_iald i rfl lay_100 (by omega) (by decide) dX8_reads_30 ?_
      refine A_icmp_ge 85 rfl dX8_reads_31 (fun cq31 => ?_) (fun cq31 => ?_)
      · skip
        have hkn : k = m := by
          have hq1 := (le_nI eZ (rfl : nI k = nI k) (by omega) (by omega)).mp cq31
          omega
        subst hkn
        refine A_ldc kc_X8_79 rfl dX8_reads_85 ?_
        refine A_iret rfl rfl rfl rfl dX8_reads_87 ?_
        rw [heg, show k - k = 0 by omega]
        exact ⟨rfl, rfl, hfr⟩
      · skip
        have hkn : k < m := by
          have hq1 := mt (le_nI eZ (rfl : nI k = nI k) (by omega) (by omega)).mpr cq31
          omega
        obtain ⟨g, hg⟩ : ∃ g, m - k = g + 1 := ⟨m - k - 1, by omega⟩
        refine A_aload_n rfl dX8_reads_34 ?_
        refine A_getR fr_X8_58.g rfl lay_86 rfl dX8_reads_35 ?_
        refine A_bipush bp_24 dX8_reads_38 ?_
        refine A_iload_n rfl dX8_reads_40 ?_
        refine A_imul dX8_reads_41 ?_
        refine A_iload_n rfl dX8_reads_42 ?_
        refine A_iadd dX8_reads_43 ?_
        refine A_iald (24 * i + k) (ix_24 i k) lay_101 (by omega) (by decide) dX8_reads_44 ?_
        rw [eC k (by omega)]
        refine A_istore_n (by decide) rfl dX8_reads_45 ?_
        refine A_iload_n rfl dX8_reads_46 ?_
        refine A_ldc kc_X8_79 rfl dX8_reads_47 ?_
        refine A_icmp_eq 79 rfl dX8_reads_49 (fun cq49 => ?_) (fun cq49 => ?_)
        · skip
          refine A_iinc ic_1 rfl (by decide) rfl dX8_reads_79 ?_
          refine A_goto 24 rfl dX8_reads_82 ?_
          refine AW_L (by rw [nI_1 k]) ?_
          first
            | (have h8 : C i k = -1000000005 := cq49
               exact ih (m - (k + 1)) (by omega) i m (k + 1) _ _ rfl rfl hi hm hz (by omega) (by rw [heg, hg, show m - (k + 1) = g by omega, q_rd, if_pos (Or.inl h8)]) hfr)
            | (have h8 : C i k = b2i (q_gui (I 87) k) := by first | (have h7 := b2i_0.mp cq66; rw [h7]; exact cq74) | (have h7 := b2i_1.mp cq66; rw [h7]; exact cq74)
               exact ih (m - (k + 1)) (by omega) i m (k + 1) _ _ rfl rfl hi hm hz (by omega) (by rw [heg, hg, show m - (k + 1) = g by omega, q_rd, if_pos (Or.inr ⟨hkN, h8⟩)]) (fun q h1 h2 => (hf2 q h1 h2).trans (hfr q h1 h2)))
        · skip
          refine A_aload_n rfl dX8_reads_52 ?_
          refine A_iload_n rfl dX8_reads_53 ?_
          refine A_callV (t_isJuror l G K _ hK7 _ n hn hN) m_X8_isJuror ml_X8_118 rfl lay_86 rfl (by decide) rfl rfl (Nat.le_of_ble_eq_true rfl) (by decide) (by decide) (by decide) dX8_reads_54 (fun _ _ _ h => congrArg List.length h.2.1) ?_
          rintro _ _ _ ⟨rfl, rfl, e9⟩
          refine AW_I e9 ?_
          clear e9
          refine A_if_eq 77 rfl dX8_reads_57 (fun cq57 => ?_) (fun cq57 => ?_)
          · skip
            refine A_iload_n rfl dX8_reads_77 ?_
            refine A_iret rfl rfl rfl rfl dX8_reads_78 ?_
            first
              | (have h7 := b2i_q.mp cq57
                 rw [hN] at h7
                 rw [heg, hg, q_rd, if_neg (fun h9 => h9.elim cq49 (fun h8 => h7 ⟨nI_pos' (by omega), (nI_ltI (by omega) (by omega)).mpr h8.1⟩))]
                 exact ⟨rfl, rfl, hfr⟩)
              | (have h8 : ¬ C i k = b2i (q_gui (I 87) k) := by first | (have h7 := b2i_0.mp cq66; rw [h7]; exact cq74) | (have h7 := b2i_1.mp cq66; rw [h7]; exact cq74)
                 rw [heg, hg, q_rd, if_neg (fun h9 => h9.elim cq49 (fun h7 => h8 h7.2))]
                 exact ⟨rfl, rfl, fun q h1 h2 => (hf2 q h1 h2).trans (hfr q h1 h2)⟩)
          · skip
            have hj0 := b2i_p.mp cq57
            rw [hN] at hj0
            have hkN : k < n := (nI_ltI (by omega) (by omega)).mp hj0.2
            have hkj : k < 10 := by omega
            refine A_iload_n rfl dX8_reads_60 ?_
            refine A_aload_n rfl dX8_reads_61 ?_
            refine A_iload_n rfl dX8_reads_62 ?_
            refine A_callV (t_gui l G K _ hK7 k hkj T hTx) m_X8_isGuilty ml_X8_122 rfl lay_86 rfl (by decide) rfl rfl (Nat.le_of_ble_eq_true rfl) (by decide) (by decide) (by decide) dX8_reads_63 (fun _ _ _ h => congrArg List.length h.2.1) ?_
            rintro _ _ K2 ⟨rfl, rfl, hf2⟩
            refine A_if_eq 73 rfl dX8_reads_66 (fun cq66 => ?_) (fun cq66 => ?_)
            · skip
              refine A_iconst ic_0 dX8_reads_73 ?_
              refine A_icmp_eq 79 rfl dX8_reads_74 (fun cq74 => ?_) (fun cq74 => ?_)
              · skip
                refine A_iinc ic_1 rfl (by decide) rfl dX8_reads_79 ?_
                refine A_goto 24 rfl dX8_reads_82 ?_
                refine AW_L (by rw [nI_1 k]) ?_
                first
                  | (have h8 : C i k = -1000000005 := cq49
                     exact ih (m - (k + 1)) (by omega) i m (k + 1) _ _ rfl rfl hi hm hz (by omega) (by rw [heg, hg, show m - (k + 1) = g by omega, q_rd, if_pos (Or.inl h8)]) hfr)
                  | (have h8 : C i k = b2i (q_gui (I 87) k) := by first | (have h7 := b2i_0.mp cq66; rw [h7]; exact cq74) | (have h7 := b2i_1.mp cq66; rw [h7]; exact cq74)
                     exact ih (m - (k + 1)) (by omega) i m (k + 1) _ _ rfl rfl hi hm hz (by omega) (by rw [heg, hg, show m - (k + 1) = g by omega, q_rd, if_pos (Or.inr ⟨hkN, h8⟩)]) (fun q h1 h2 => (hf2 q h1 h2).trans (hfr q h1 h2)))
              · skip
                refine A_iload_n rfl dX8_reads_77 ?_
                refine A_iret rfl rfl rfl rfl dX8_reads_78 ?_
                first
                  | (have h7 := b2i_q.mp cq57
                     rw [hN] at h7
                     rw [heg, hg, q_rd, if_neg (fun h9 => h9.elim cq49 (fun h8 => h7 ⟨nI_pos' (by omega), (nI_ltI (by omega) (by omega)).mpr h8.1⟩))]
                     exact ⟨rfl, rfl, hfr⟩)
                  | (have h8 : ¬ C i k = b2i (q_gui (I 87) k) := by first | (have h7 := b2i_0.mp cq66; rw [h7]; exact cq74) | (have h7 := b2i_1.mp cq66; rw [h7]; exact cq74)
                     rw [heg, hg, q_rd, if_neg (fun h9 => h9.elim cq49 (fun h7 => h8 h7.2))]
                     exact ⟨rfl, rfl, fun q h1 h2 => (hf2 q h1 h2).trans (hfr q h1 h2)⟩)
            · skip
              refine A_iconst ic_1 dX8_reads_69 ?_
              refine A_goto 74 rfl dX8_reads_70 ?_
              refine A_icmp_eq 79 rfl dX8_reads_74 (fun cq74 => ?_) (fun cq74 => ?_)
              · skip
                refine A_iinc ic_1 rfl (by decide) rfl dX8_reads_79 ?_
                refine A_goto 24 rfl dX8_reads_82 ?_
                refine AW_L (by rw [nI_1 k]) ?_
                first
                  | (have h8 : C i k = -1000000005 := cq49
                     exact ih (m - (k + 1)) (by omega) i m (k + 1) _ _ rfl rfl hi hm hz (by omega) (by rw [heg, hg, show m - (k + 1) = g by omega, q_rd, if_pos (Or.inl h8)]) hfr)
                  | (have h8 : C i k = b2i (q_gui (I 87) k) := by first | (have h7 := b2i_0.mp cq66; rw [h7]; exact cq74) | (have h7 := b2i_1.mp cq66; rw [h7]; exact cq74)
                     exact ih (m - (k + 1)) (by omega) i m (k + 1) _ _ rfl rfl hi hm hz (by omega) (by rw [heg, hg, show m - (k + 1) = g by omega, q_rd, if_pos (Or.inr ⟨hkN, h8⟩)]) (fun q h1 h2 => (hf2 q h1 h2).trans (hfr q h1 h2)))
              · skip
                refine A_iload_n rfl dX8_reads_77 ?_
                refine A_iret rfl rfl rfl rfl dX8_reads_78 ?_
                first
                  | (have h7 := b2i_q.mp cq57
                     rw [hN] at h7
                     rw [heg, hg, q_rd, if_neg (fun h9 => h9.elim cq49 (fun h8 => h7 ⟨nI_pos' (by omega), (nI_ltI (by omega) (by omega)).mpr h8.1⟩))]
                     exact ⟨rfl, rfl, hfr⟩)
                  | (have h8 : ¬ C i k = b2i (q_gui (I 87) k) := by first | (have h7 := b2i_0.mp cq66; rw [h7]; exact cq74) | (have h7 := b2i_1.mp cq66; rw [h7]; exact cq74)
                     rw [heg, hg, q_rd, if_neg (fun h9 => h9.elim cq49 (fun h7 => h8 h7.2))]
                     exact ⟨rfl, rfl, fun q h1 h2 => (hf2 q h1 h2).trans (hfr q h1 h2)⟩)
  refine Meth.of (by decide +kernel) (by simp [Value.category]) (Nat.le_of_ble_eq_true rfl) ?_
  refine A_iload_n rfl dX8_reads_0 ?_
  refine A_callS (s_isSheetM l G _ _ _) m_X8_isSheet ml_X8_192 rfl rfl rfl (Nat.le_of_ble_eq_true rfl) (by decide) (by decide) (by decide) dX8_reads_1 (fun _ _ _ h => congrArg List.length h.2.1) ?_
  rintro _ _ _ ⟨rfl, rfl, e9⟩
  refine AW_I e9 ?_
  clear e9
  refine A_if_ne 10 rfl dX8_reads_4 (fun cq4 => ?_) (fun cq4 => ?_)
  · skip
    have hs0 := b2i_p.mp cq4
    obtain ⟨i, hi, rfl⟩ := in_get (a := 3) rfl hs0
    replace hi : i < 4 := by omega
    obtain ⟨m, hm, hz⟩ := (hW i hi).2.1
    have eS : I 99 i = S i := (hS i hi).1
    have hSi := s_neg (hW i hi).1
    refine A_aload_n rfl dX8_reads_10 ?_
    refine A_getR fr_X8_52.g rfl lay_86 rfl dX8_reads_11 ?_
    refine A_iload_n rfl dX8_reads_14 ?_
    refine A_iald i rfl lay_99 (by omega) (by decide) dX8_reads_15 ?_
    refine A_if_ge 22 rfl dX8_reads_16 (fun cq16 => ?_) (fun cq16 => ?_)
    · skip
      refine A_iconst ic_0 dX8_reads_22 ?_
      refine A_istore_n (by decide) rfl dX8_reads_23 ?_
      rw [eS] at cq16
      have hn1 : ¬ S i = -1 := fun h9 => hSi.1.mpr h9 cq16
      exact loop m i m 0 _ I rfl rfl hi hm hz (by omega) (by rw [f_reads, if_pos hs0, nI_clamp (by omega), if_neg hn1, hz, nI_clamp (by omega)]; rfl) (fun _ _ _ => rfl)
    · skip
      refine A_ldc kc_X8_195 rfl dX8_reads_19 ?_
      refine A_iret rfl rfl rfl rfl dX8_reads_21 ?_
      rw [eS] at cq16
      rw [f_reads, if_pos hs0, nI_clamp (by omega), if_pos (hSi.1.mp cq16)]
      exact ⟨rfl, rfl, fun _ _ _ => rfl⟩
  · skip
    refine A_ldc kc_X8_88 rfl dX8_reads_7 ?_
    refine A_iret rfl rfl rfl rfl dX8_reads_9 ?_
    rw [f_reads, if_neg (b2i_q.mp cq4)]
    exact ⟨rfl, rfl, fun _ _ _ => rfl⟩
