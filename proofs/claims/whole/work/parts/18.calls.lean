def g_set (N : Nrow) (v w x : Int32) : Int32 × Nrow := if 0 ≤ v ∧ v < N 1 then (if w = 1 then (if 0 ≤ x ∧ x ≤ 1 then (N (17 + 5 * v.toNatClampNeg), upd N (17 + 5 * v.toNatClampNeg) x) else (-1000000001, N)) else if w = 2 then (if 0 ≤ x ∧ x ≤ 255 then (N (18 + 5 * v.toNatClampNeg), upd N (18 + 5 * v.toNatClampNeg) x) else (-1000000001, N)) else if w = 3 then (if 0 ≤ x ∧ x ≤ 40 then (N (19 + 5 * v.toNatClampNeg), upd N (19 + 5 * v.toNatClampNeg) x) else (-1000000001, N)) else (-1000000001, N)) else (-1000000001, N)
set_option maxHeartbeats 1000000 in
set_option maxRecDepth 100000 in
theorem c_set (l : Launch) (G : Gm) (I : Hp) (N : Nrow) (n : Nat) (hn : n ≤ 10) (hN : N 1 = nI n) (hR : RepJ I 36 N) (v w x : Int32) : Meth l G yX7_set cX7_set 4 (some (FieldType.int)) 3 0 0 [.ref 0, .int v, .int w, .int x] LAY I (fun r lay1 I1 => r = some (.int (g_set N v w x).1) ∧ lay1 = LAY ∧ NowC I I1 (g_set N v w x).2) := by
  refine Meth.of (by decide +kernel) (by simp [Value.category]) (Nat.le_of_ble_eq_true rfl) ?_
  refine A_aload_n rfl dX7_set_0 ?_
  refine A_getR fr_X7_28.g rfl lay_0 rfl dX7_set_1 ?_
  refine A_iload_n rfl dX7_set_4 ?_
  refine A_callV (s_has l G 36 j36 I _) m_X0_has ml_X7_70 rfl (lj j36) rfl (by decide) rfl rfl (Nat.le_of_ble_eq_true rfl) (by decide) (by decide) (by decide) dX7_set_5 (fun _ _ _ h => congrArg List.length h.2.1) ?_
  rintro _ _ _ ⟨rfl, rfl, e9⟩
  refine AW_I e9 ?_
  clear e9
  refine A_if_ne 14 rfl dX7_set_8 (fun cq8 => ?_) (fun cq8 => ?_)
  · skip
    have hv := b2i_p.mp cq8
    rw [hR.1.1] at hv
    obtain ⟨i, hi, rfl⟩ := jur_get hn hN hv
    refine A_iload_n rfl dX7_set_14 ?_
    refine A_tsw 124 rfl dX7_set_15 rfl (fun jsw off hjsw cq15 => ?_) (fun cq15 => ?_)
    · match jsw, hjsw, cq15 with
      | 0, hjsw, cq15 =>
        cases hjsw
        replace cq15 := i_eq cq15 (ic_1)
        refine ⟨40, rfl, ?_⟩
        subst cq15
        refine A_iload_n rfl dX7_set_40 ?_
        refine A_iconst ic_0 dX7_set_41 ?_
        refine A_iconst ic_1 dX7_set_42 ?_
        refine A_callS (s_within l G _ _ _ _ _) m_X7_within ml_X7_56 rfl rfl rfl (Nat.le_of_ble_eq_true rfl) (by decide) (by decide) (by decide) dX7_set_43 (fun _ _ _ h => congrArg List.length h.2.1) ?_
        rintro _ _ _ ⟨rfl, rfl, e9⟩
        refine AW_I e9 ?_
        clear e9
        refine A_if_eq 64 rfl dX7_set_46 (fun cq46 => ?_) (fun cq46 => ?_)
        · skip
          refine A_ldc kc_X7_60 rfl dX7_set_64 ?_
          refine A_iret rfl rfl rfl rfl dX7_set_66 ?_
          first
            | (have eg : g_set N (nI i) 1 x = (-1000000001, N) := by rw [g_set, if_pos hv, if_pos rfl, if_neg (b2i_q.mp cq46)]
               rw [eg]
               exact ⟨rfl, rfl, NowC.rf hR⟩)
            | (have eg : g_set N (nI i) 1 x = (N (17 + 5 * i), upd N (17 + 5 * i) x) := by rw [g_set, if_pos hv, if_pos rfl, if_pos (b2i_p.mp cq46), nI_clamp (by omega)]
               rw [eg]
               exact ⟨by rw [hR.2.2.1 i (by omega)], rfl, hR.side (by omega), fr_up (by decide) (by decide)⟩)
        · skip
          refine A_aload_n rfl dX7_set_49 ?_
          refine A_getR fr_X7_28.g rfl lay_0 rfl dX7_set_50 ?_
          refine A_getR fr_X7_77 rfl (lj j36) rfl dX7_set_53 ?_
          refine A_iload_n rfl dX7_set_56 ?_
          refine A_iload_n rfl dX7_set_57 ?_
          refine A_callS (s_exch l G I (36 + 2) 10 i x (lj2 j36) (by omega) (by decide)) m_X7_exchange ml_X7_120 rfl rfl rfl (Nat.le_of_ble_eq_true rfl) (by decide) (by decide) (by decide) dX7_set_58 (fun _ _ _ h => congrArg List.length h.2.1) ?_
          rintro _ _ _ ⟨rfl, rfl, e9⟩
          refine AW_I e9 ?_
          clear e9
          refine A_goto 66 rfl dX7_set_61 ?_
          refine A_iret rfl rfl rfl rfl dX7_set_66 ?_
          first
            | (have eg : g_set N (nI i) 1 x = (-1000000001, N) := by rw [g_set, if_pos hv, if_pos rfl, if_neg (b2i_q.mp cq46)]
               rw [eg]
               exact ⟨rfl, rfl, NowC.rf hR⟩)
            | (have eg : g_set N (nI i) 1 x = (N (17 + 5 * i), upd N (17 + 5 * i) x) := by rw [g_set, if_pos hv, if_pos rfl, if_pos (b2i_p.mp cq46), nI_clamp (by omega)]
               rw [eg]
               exact ⟨by rw [hR.2.2.1 i (by omega)], rfl, hR.side (by omega), fr_up (by decide) (by decide)⟩)
      | 1, hjsw, cq15 =>
        cases hjsw
        replace cq15 := i_eq cq15 (ic_2)
        refine ⟨67, rfl, ?_⟩
        subst cq15
        refine A_iload_n rfl dX7_set_67 ?_
        refine A_iconst ic_0 dX7_set_68 ?_
        refine A_sipush sp_255 dX7_set_69 ?_
        refine A_callS (s_within l G _ _ _ _ _) m_X7_within ml_X7_56 rfl rfl rfl (Nat.le_of_ble_eq_true rfl) (by decide) (by decide) (by decide) dX7_set_72 (fun _ _ _ h => congrArg List.length h.2.1) ?_
        rintro _ _ _ ⟨rfl, rfl, e9⟩
        refine AW_I e9 ?_
        clear e9
        refine A_if_eq 93 rfl dX7_set_75 (fun cq75 => ?_) (fun cq75 => ?_)
        · skip
          refine A_ldc kc_X7_60 rfl dX7_set_93 ?_
          refine A_iret rfl rfl rfl rfl dX7_set_95 ?_
          first
            | (have eg : g_set N (nI i) 2 x = (-1000000001, N) := by rw [g_set, if_pos hv, if_neg (by decide), if_pos rfl, if_neg (b2i_q.mp cq75)]
               rw [eg]
               exact ⟨rfl, rfl, NowC.rf hR⟩)
            | (have eg : g_set N (nI i) 2 x = (N (18 + 5 * i), upd N (18 + 5 * i) x) := by rw [g_set, if_pos hv, if_neg (by decide), if_pos rfl, if_pos (b2i_p.mp cq75), nI_clamp (by omega)]
               rw [eg]
               exact ⟨by rw [hR.2.2.2.1 i (by omega)], rfl, hR.knows (by omega), fr_up (by decide) (by decide)⟩)
        · skip
          refine A_aload_n rfl dX7_set_78 ?_
          refine A_getR fr_X7_28.g rfl lay_0 rfl dX7_set_79 ?_
          refine A_getR fr_X7_80 rfl (lj j36) rfl dX7_set_82 ?_
          refine A_iload_n rfl dX7_set_85 ?_
          refine A_iload_n rfl dX7_set_86 ?_
          refine A_callS (s_exch l G I (36 + 3) 10 i x (lj3 j36) (by omega) (by decide)) m_X7_exchange ml_X7_120 rfl rfl rfl (Nat.le_of_ble_eq_true rfl) (by decide) (by decide) (by decide) dX7_set_87 (fun _ _ _ h => congrArg List.length h.2.1) ?_
          rintro _ _ _ ⟨rfl, rfl, e9⟩
          refine AW_I e9 ?_
          clear e9
          refine A_goto 95 rfl dX7_set_90 ?_
          refine A_iret rfl rfl rfl rfl dX7_set_95 ?_
          first
            | (have eg : g_set N (nI i) 2 x = (-1000000001, N) := by rw [g_set, if_pos hv, if_neg (by decide), if_pos rfl, if_neg (b2i_q.mp cq75)]
               rw [eg]
               exact ⟨rfl, rfl, NowC.rf hR⟩)
            | (have eg : g_set N (nI i) 2 x = (N (18 + 5 * i), upd N (18 + 5 * i) x) := by rw [g_set, if_pos hv, if_neg (by decide), if_pos rfl, if_pos (b2i_p.mp cq75), nI_clamp (by omega)]
               rw [eg]
               exact ⟨by rw [hR.2.2.2.1 i (by omega)], rfl, hR.knows (by omega), fr_up (by decide) (by decide)⟩)
      | 2, hjsw, cq15 =>
        cases hjsw
        replace cq15 := i_eq cq15 (ic_3)
        refine ⟨96, rfl, ?_⟩
        subst cq15
        refine A_iload_n rfl dX7_set_96 ?_
        refine A_iconst ic_0 dX7_set_97 ?_
        refine A_bipush bp_40 dX7_set_98 ?_
        refine A_callS (s_within l G _ _ _ _ _) m_X7_within ml_X7_56 rfl rfl rfl (Nat.le_of_ble_eq_true rfl) (by decide) (by decide) (by decide) dX7_set_100 (fun _ _ _ h => congrArg List.length h.2.1) ?_
        rintro _ _ _ ⟨rfl, rfl, e9⟩
        refine AW_I e9 ?_
        clear e9
        refine A_if_eq 121 rfl dX7_set_103 (fun cq103 => ?_) (fun cq103 => ?_)
        · skip
          refine A_ldc kc_X7_60 rfl dX7_set_121 ?_
          refine A_iret rfl rfl rfl rfl dX7_set_123 ?_
          first
            | (have eg : g_set N (nI i) 3 x = (-1000000001, N) := by rw [g_set, if_pos hv, if_neg (by decide), if_neg (by decide), if_pos rfl, if_neg (b2i_q.mp cq103)]
               rw [eg]
               exact ⟨rfl, rfl, NowC.rf hR⟩)
            | (have eg : g_set N (nI i) 3 x = (N (19 + 5 * i), upd N (19 + 5 * i) x) := by rw [g_set, if_pos hv, if_neg (by decide), if_neg (by decide), if_pos rfl, if_pos (b2i_p.mp cq103), nI_clamp (by omega)]
               rw [eg]
               exact ⟨by rw [hR.2.2.2.2.1 i (by omega)], rfl, hR.doubt (by omega), fr_up (by decide) (by decide)⟩)
        · skip
          refine A_aload_n rfl dX7_set_106 ?_
          refine A_getR fr_X7_28.g rfl lay_0 rfl dX7_set_107 ?_
          refine A_getR fr_X7_83 rfl (lj j36) rfl dX7_set_110 ?_
          refine A_iload_n rfl dX7_set_113 ?_
          refine A_iload_n rfl dX7_set_114 ?_
          refine A_callS (s_exch l G I (36 + 4) 10 i x (lj4 j36) (by omega) (by decide)) m_X7_exchange ml_X7_120 rfl rfl rfl (Nat.le_of_ble_eq_true rfl) (by decide) (by decide) (by decide) dX7_set_115 (fun _ _ _ h => congrArg List.length h.2.1) ?_
          rintro _ _ _ ⟨rfl, rfl, e9⟩
          refine AW_I e9 ?_
          clear e9
          refine A_goto 123 rfl dX7_set_118 ?_
          refine A_iret rfl rfl rfl rfl dX7_set_123 ?_
          first
            | (have eg : g_set N (nI i) 3 x = (-1000000001, N) := by rw [g_set, if_pos hv, if_neg (by decide), if_neg (by decide), if_pos rfl, if_neg (b2i_q.mp cq103)]
               rw [eg]
               exact ⟨rfl, rfl, NowC.rf hR⟩)
            | (have eg : g_set N (nI i) 3 x = (N (19 + 5 * i), upd N (19 + 5 * i) x) := by rw [g_set, if_pos hv, if_neg (by decide), if_neg (by decide), if_pos rfl, if_pos (b2i_p.mp cq103), nI_clamp (by omega)]
               rw [eg]
               exact ⟨by rw [hR.2.2.2.2.1 i (by omega)], rfl, hR.doubt (by omega), fr_up (by decide) (by decide)⟩)
      | jsw + 3, hjsw, _ => exact absurd hjsw (by simp)
    · skip
      refine A_ldc kc_X7_60 rfl dX7_set_124 ?_
      refine A_iret rfl rfl rfl rfl dX7_set_126 ?_
      have h123 : w ≠ 1 ∧ w ≠ 2 ∧ w ≠ 3 := by rcases cq15 with h9 | h9 <;> refine ⟨fun h => ?_, fun h => ?_, fun h => ?_⟩ <;> (subst h; revert h9; decide)
      have eg : g_set N (nI i) w x = (-1000000001, N) := by rw [g_set, if_pos hv, if_neg h123.1, if_neg h123.2.1, if_neg h123.2.2]
      rw [eg]
      exact ⟨rfl, rfl, NowC.rf hR⟩
  · skip
    refine A_ldc kc_X7_60 rfl dX7_set_11 ?_
    refine A_iret rfl rfl rfl rfl dX7_set_13 ?_
    have h7 := b2i_q.mp cq8
    rw [hR.1.1] at h7
    have eg : g_set N v w x = (-1000000001, N) := by rw [g_set, if_neg h7]
    rw [eg]
    exact ⟨rfl, rfl, NowC.rf hR⟩
theorem w13 {w : Int32} (h : 1 ≤ w ∧ w ≤ 3) : w = 1 ∨ w = 2 ∨ w = 3 := by
  simp only [Int32.le_iff_toInt_le, ← Int32.toInt_inj, Int32.reduceToInt] at *
  omega
theorem ix_5w (i w : Nat) : (16 : Int32) + 5 * nI i + nI w = nI (16 + w + 5 * i) := by rw [ix_5, nI_add]; congr 1; omega
set_option maxHeartbeats 1000000 in
set_option maxRecDepth 100000 in
theorem m_set (l : Launch) (G : Gm) (I : Hp) (N : Nrow) (h87 : I 87 = N) (n : Nat) (hn : n ≤ 10) (hN : N 1 = nI n) (v w x : Int32) : Meth l G yX8_set cX8_set 4 (some (FieldType.int)) 3 0 0 [.ref 86, .int v, .int w, .int x] LAY I (fun r lay1 I1 => r = some (.int (g_set N v w x).1) ∧ lay1 = LAY ∧ I1 = setN I (g_set N v w x).2) := by
  subst h87
  refine Meth.of (by decide +kernel) (by simp [Value.category]) (Nat.le_of_ble_eq_true rfl) ?_
  refine A_aload_n rfl dX8_set_0 ?_
  refine A_iload_n rfl dX8_set_1 ?_
  refine A_callV (t_isJuror l G I _ rfl _ n hn hN) m_X8_isJuror ml_X8_118 rfl lay_86 rfl (by decide) rfl rfl (Nat.le_of_ble_eq_true rfl) (by decide) (by decide) (by decide) dX8_set_2 (fun _ _ _ h => congrArg List.length h.2.1) ?_
  rintro _ _ _ ⟨rfl, rfl, e9⟩
  refine AW_I e9 ?_
  clear e9
  refine A_if_eq 47 rfl dX8_set_5 (fun cq5 => ?_) (fun cq5 => ?_)
  · skip
    refine A_ldc kc_X8_88 rfl dX8_set_47 ?_
    refine A_iret rfl rfl rfl rfl dX8_set_49 ?_
    have eg : g_set (I 87) v w x = (-1000000001, I 87) := by
      first
        | (have h7 := b2i_q.mp cq5; rw [g_set, if_neg h7])
        | (have h7 := b2i_q.mp cq14; have h1 : w ≠ 1 := (fun h => h7 (by subst h; decide)); have h2 : w ≠ 2 := (fun h => h7 (by subst h; decide)); have h3 : w ≠ 3 := (fun h => h7 (by subst h; decide)); rw [g_set, if_pos (b2i_p.mp cq5), if_neg h1, if_neg h2, if_neg h3])
        | (have h7 : w = 1 := cq21; have h8 := b2i_q.mp cq44; subst h7; rw [g_set, if_pos (b2i_p.mp cq5), if_pos rfl, if_neg h8])
        | (have h7 : w = 2 := cq30; have h8 := b2i_q.mp cq44; subst h7; rw [g_set, if_pos (b2i_p.mp cq5), if_neg (by decide), if_pos rfl, if_neg h8])
        | (have h7 : w = 3 := ((w13 (b2i_p.mp cq14)).resolve_left cq21).resolve_left cq30; have h8 := b2i_q.mp cq44; subst h7; rw [g_set, if_pos (b2i_p.mp cq5), if_neg (by decide), if_neg (by decide), if_pos rfl, if_neg h8])
    rw [eg]
    exact ⟨rfl, rfl, by rw [setN_self]⟩
  · skip
    refine A_iload_n rfl dX8_set_8 ?_
    refine A_iconst ic_1 dX8_set_9 ?_
    refine A_iconst ic_3 dX8_set_10 ?_
    refine A_callS (s_in l G _ _ _ _ _) m_X8_in ml_X8_80 rfl rfl rfl (Nat.le_of_ble_eq_true rfl) (by decide) (by decide) (by decide) dX8_set_11 (fun _ _ _ h => congrArg List.length h.2.1) ?_
    rintro _ _ _ ⟨rfl, rfl, e9⟩
    refine AW_I e9 ?_
    clear e9
    refine A_if_eq 47 rfl dX8_set_14 (fun cq14 => ?_) (fun cq14 => ?_)
    · skip
      refine A_ldc kc_X8_88 rfl dX8_set_47 ?_
      refine A_iret rfl rfl rfl rfl dX8_set_49 ?_
      have eg : g_set (I 87) v w x = (-1000000001, I 87) := by
        first
          | (have h7 := b2i_q.mp cq5; rw [g_set, if_neg h7])
          | (have h7 := b2i_q.mp cq14; have h1 : w ≠ 1 := (fun h => h7 (by subst h; decide)); have h2 : w ≠ 2 := (fun h => h7 (by subst h; decide)); have h3 : w ≠ 3 := (fun h => h7 (by subst h; decide)); rw [g_set, if_pos (b2i_p.mp cq5), if_neg h1, if_neg h2, if_neg h3])
          | (have h7 : w = 1 := cq21; have h8 := b2i_q.mp cq44; subst h7; rw [g_set, if_pos (b2i_p.mp cq5), if_pos rfl, if_neg h8])
          | (have h7 : w = 2 := cq30; have h8 := b2i_q.mp cq44; subst h7; rw [g_set, if_pos (b2i_p.mp cq5), if_neg (by decide), if_pos rfl, if_neg h8])
          | (have h7 : w = 3 := ((w13 (b2i_p.mp cq14)).resolve_left cq21).resolve_left cq30; have h8 := b2i_q.mp cq44; subst h7; rw [g_set, if_pos (b2i_p.mp cq5), if_neg (by decide), if_neg (by decide), if_pos rfl, if_neg h8])
      rw [eg]
      exact ⟨rfl, rfl, by rw [setN_self]⟩
    · skip
      refine A_iload_n rfl dX8_set_17 ?_
      refine A_iconst ic_0 dX8_set_18 ?_
      refine A_iload_n rfl dX8_set_19 ?_
      refine A_iconst ic_1 dX8_set_20 ?_
      refine A_icmp_ne 28 rfl dX8_set_21 (fun cq21 => ?_) (fun cq21 => ?_)
      · skip
        refine A_iload_n rfl dX8_set_28 ?_
        refine A_iconst ic_2 dX8_set_29 ?_
        refine A_icmp_ne 39 rfl dX8_set_30 (fun cq30 => ?_) (fun cq30 => ?_)
        · skip
          refine A_bipush bp_40 dX8_set_39 ?_
          refine A_callS (s_in l G _ _ _ _ _) m_X8_in ml_X8_80 rfl rfl rfl (Nat.le_of_ble_eq_true rfl) (by decide) (by decide) (by decide) dX8_set_41 (fun _ _ _ h => congrArg List.length h.2.1) ?_
          rintro _ _ _ ⟨rfl, rfl, e9⟩
          refine AW_I e9 ?_
          clear e9
          refine A_if_ne 50 rfl dX8_set_44 (fun cq44 => ?_) (fun cq44 => ?_)
          · skip
            have hv := b2i_p.mp cq5
            obtain ⟨i, hi, rfl⟩ := jur_get hn hN hv
            obtain ⟨k, hk1, hk2, rfl, eg⟩ : ∃ k, 1 ≤ k ∧ k ≤ 3 ∧ w = nI k ∧ g_set (I 87) (nI i) w x = (I 87 (16 + k + 5 * i), upd (I 87) (16 + k + 5 * i) x) := by
              have h44 := b2i_p.mp cq44
              first
                | (have h7 : w = 1 := cq21; subst h7; exact ⟨1, by decide, by decide, rfl, by rw [g_set, if_pos hv, if_pos rfl, if_pos h44, nI_clamp (by omega)]⟩)
                | (have h7 : w = 2 := cq30; subst h7; exact ⟨2, by decide, by decide, rfl, by rw [g_set, if_pos hv, if_neg (by decide), if_pos rfl, if_pos h44, nI_clamp (by omega)]⟩)
                | (have h7 : w = 3 := ((w13 (b2i_p.mp cq14)).resolve_left cq21).resolve_left cq30; subst h7; exact ⟨3, by decide, by decide, rfl, by rw [g_set, if_pos hv, if_neg (by decide), if_neg (by decide), if_pos rfl, if_pos h44, nI_clamp (by omega)]⟩)
            refine A_aload_n rfl dX8_set_50 ?_
            refine A_bipush bp_16 dX8_set_51 ?_
            refine A_iconst ic_5 dX8_set_53 ?_
            refine A_iload_n rfl dX8_set_54 ?_
            refine A_imul dX8_set_55 ?_
            refine A_iadd dX8_set_56 ?_
            refine A_iload_n rfl dX8_set_57 ?_
            refine A_iadd dX8_set_58 ?_
            rw [ix_5w]
            refine A_iload_n rfl dX8_set_59 ?_
            refine A_callV (t_becomes l G I _ rfl (16 + k + 5 * i) x (by omega)) m_X8_becomes ml_X8_142 rfl lay_86 rfl (by decide) rfl rfl (Nat.le_of_ble_eq_true rfl) (by decide) (by decide) (by decide) dX8_set_60 (fun _ _ _ h => congrArg List.length h.2.1) ?_
            rintro _ _ _ ⟨rfl, rfl, e9⟩
            refine AW_I e9 ?_
            clear e9
            refine A_iret rfl rfl rfl rfl dX8_set_63 ?_
            rw [eg]
            exact ⟨rfl, rfl, rfl⟩
          · skip
            refine A_ldc kc_X8_88 rfl dX8_set_47 ?_
            refine A_iret rfl rfl rfl rfl dX8_set_49 ?_
            have eg : g_set (I 87) v w x = (-1000000001, I 87) := by
              first
                | (have h7 := b2i_q.mp cq5; rw [g_set, if_neg h7])
                | (have h7 := b2i_q.mp cq14; have h1 : w ≠ 1 := (fun h => h7 (by subst h; decide)); have h2 : w ≠ 2 := (fun h => h7 (by subst h; decide)); have h3 : w ≠ 3 := (fun h => h7 (by subst h; decide)); rw [g_set, if_pos (b2i_p.mp cq5), if_neg h1, if_neg h2, if_neg h3])
                | (have h7 : w = 1 := cq21; have h8 := b2i_q.mp cq44; subst h7; rw [g_set, if_pos (b2i_p.mp cq5), if_pos rfl, if_neg h8])
                | (have h7 : w = 2 := cq30; have h8 := b2i_q.mp cq44; subst h7; rw [g_set, if_pos (b2i_p.mp cq5), if_neg (by decide), if_pos rfl, if_neg h8])
                | (have h7 : w = 3 := ((w13 (b2i_p.mp cq14)).resolve_left cq21).resolve_left cq30; have h8 := b2i_q.mp cq44; subst h7; rw [g_set, if_pos (b2i_p.mp cq5), if_neg (by decide), if_neg (by decide), if_pos rfl, if_neg h8])
            rw [eg]
            exact ⟨rfl, rfl, by rw [setN_self]⟩
        · skip
          refine A_sipush sp_255 dX8_set_33 ?_
          refine A_goto 41 rfl dX8_set_36 ?_
          refine A_callS (s_in l G _ _ _ _ _) m_X8_in ml_X8_80 rfl rfl rfl (Nat.le_of_ble_eq_true rfl) (by decide) (by decide) (by decide) dX8_set_41 (fun _ _ _ h => congrArg List.length h.2.1) ?_
          rintro _ _ _ ⟨rfl, rfl, e9⟩
          refine AW_I e9 ?_
          clear e9
          refine A_if_ne 50 rfl dX8_set_44 (fun cq44 => ?_) (fun cq44 => ?_)
          · skip
            have hv := b2i_p.mp cq5
            obtain ⟨i, hi, rfl⟩ := jur_get hn hN hv
            obtain ⟨k, hk1, hk2, rfl, eg⟩ : ∃ k, 1 ≤ k ∧ k ≤ 3 ∧ w = nI k ∧ g_set (I 87) (nI i) w x = (I 87 (16 + k + 5 * i), upd (I 87) (16 + k + 5 * i) x) := by
              have h44 := b2i_p.mp cq44
              first
                | (have h7 : w = 1 := cq21; subst h7; exact ⟨1, by decide, by decide, rfl, by rw [g_set, if_pos hv, if_pos rfl, if_pos h44, nI_clamp (by omega)]⟩)
                | (have h7 : w = 2 := cq30; subst h7; exact ⟨2, by decide, by decide, rfl, by rw [g_set, if_pos hv, if_neg (by decide), if_pos rfl, if_pos h44, nI_clamp (by omega)]⟩)
                | (have h7 : w = 3 := ((w13 (b2i_p.mp cq14)).resolve_left cq21).resolve_left cq30; subst h7; exact ⟨3, by decide, by decide, rfl, by rw [g_set, if_pos hv, if_neg (by decide), if_neg (by decide), if_pos rfl, if_pos h44, nI_clamp (by omega)]⟩)
            refine A_aload_n rfl dX8_set_50 ?_
            refine A_bipush bp_16 dX8_set_51 ?_
            refine A_iconst ic_5 dX8_set_53 ?_
            refine A_iload_n rfl dX8_set_54 ?_
            refine A_imul dX8_set_55 ?_
            refine A_iadd dX8_set_56 ?_
            refine A_iload_n rfl dX8_set_57 ?_
            refine A_iadd dX8_set_58 ?_
            rw [ix_5w]
            refine A_iload_n rfl dX8_set_59 ?_
            refine A_callV (t_becomes l G I _ rfl (16 + k + 5 * i) x (by omega)) m_X8_becomes ml_X8_142 rfl lay_86 rfl (by decide) rfl rfl (Nat.le_of_ble_eq_true rfl) (by decide) (by decide) (by decide) dX8_set_60 (fun _ _ _ h => congrArg List.length h.2.1) ?_
            rintro _ _ _ ⟨rfl, rfl, e9⟩
            refine AW_I e9 ?_
            clear e9
            refine A_iret rfl rfl rfl rfl dX8_set_63 ?_
            rw [eg]
            exact ⟨rfl, rfl, rfl⟩
          · skip
            refine A_ldc kc_X8_88 rfl dX8_set_47 ?_
            refine A_iret rfl rfl rfl rfl dX8_set_49 ?_
            have eg : g_set (I 87) v w x = (-1000000001, I 87) := by
              first
                | (have h7 := b2i_q.mp cq5; rw [g_set, if_neg h7])
                | (have h7 := b2i_q.mp cq14; have h1 : w ≠ 1 := (fun h => h7 (by subst h; decide)); have h2 : w ≠ 2 := (fun h => h7 (by subst h; decide)); have h3 : w ≠ 3 := (fun h => h7 (by subst h; decide)); rw [g_set, if_pos (b2i_p.mp cq5), if_neg h1, if_neg h2, if_neg h3])
                | (have h7 : w = 1 := cq21; have h8 := b2i_q.mp cq44; subst h7; rw [g_set, if_pos (b2i_p.mp cq5), if_pos rfl, if_neg h8])
                | (have h7 : w = 2 := cq30; have h8 := b2i_q.mp cq44; subst h7; rw [g_set, if_pos (b2i_p.mp cq5), if_neg (by decide), if_pos rfl, if_neg h8])
                | (have h7 : w = 3 := ((w13 (b2i_p.mp cq14)).resolve_left cq21).resolve_left cq30; have h8 := b2i_q.mp cq44; subst h7; rw [g_set, if_pos (b2i_p.mp cq5), if_neg (by decide), if_neg (by decide), if_pos rfl, if_neg h8])
            rw [eg]
            exact ⟨rfl, rfl, by rw [setN_self]⟩
      · skip
        refine A_iconst ic_1 dX8_set_24 ?_
        refine A_goto 41 rfl dX8_set_25 ?_
        refine A_callS (s_in l G _ _ _ _ _) m_X8_in ml_X8_80 rfl rfl rfl (Nat.le_of_ble_eq_true rfl) (by decide) (by decide) (by decide) dX8_set_41 (fun _ _ _ h => congrArg List.length h.2.1) ?_
        rintro _ _ _ ⟨rfl, rfl, e9⟩
        refine AW_I e9 ?_
        clear e9
        refine A_if_ne 50 rfl dX8_set_44 (fun cq44 => ?_) (fun cq44 => ?_)
        · skip
          have hv := b2i_p.mp cq5
          obtain ⟨i, hi, rfl⟩ := jur_get hn hN hv
          obtain ⟨k, hk1, hk2, rfl, eg⟩ : ∃ k, 1 ≤ k ∧ k ≤ 3 ∧ w = nI k ∧ g_set (I 87) (nI i) w x = (I 87 (16 + k + 5 * i), upd (I 87) (16 + k + 5 * i) x) := by
            have h44 := b2i_p.mp cq44
            first
              | (have h7 : w = 1 := cq21; subst h7; exact ⟨1, by decide, by decide, rfl, by rw [g_set, if_pos hv, if_pos rfl, if_pos h44, nI_clamp (by omega)]⟩)
              | (have h7 : w = 2 := cq30; subst h7; exact ⟨2, by decide, by decide, rfl, by rw [g_set, if_pos hv, if_neg (by decide), if_pos rfl, if_pos h44, nI_clamp (by omega)]⟩)
              | (have h7 : w = 3 := ((w13 (b2i_p.mp cq14)).resolve_left cq21).resolve_left cq30; subst h7; exact ⟨3, by decide, by decide, rfl, by rw [g_set, if_pos hv, if_neg (by decide), if_neg (by decide), if_pos rfl, if_pos h44, nI_clamp (by omega)]⟩)
          refine A_aload_n rfl dX8_set_50 ?_
          refine A_bipush bp_16 dX8_set_51 ?_
          refine A_iconst ic_5 dX8_set_53 ?_
          refine A_iload_n rfl dX8_set_54 ?_
          refine A_imul dX8_set_55 ?_
          refine A_iadd dX8_set_56 ?_
          refine A_iload_n rfl dX8_set_57 ?_
          refine A_iadd dX8_set_58 ?_
          rw [ix_5w]
          refine A_iload_n rfl dX8_set_59 ?_
          refine A_callV (t_becomes l G I _ rfl (16 + k + 5 * i) x (by omega)) m_X8_becomes ml_X8_142 rfl lay_86 rfl (by decide) rfl rfl (Nat.le_of_ble_eq_true rfl) (by decide) (by decide) (by decide) dX8_set_60 (fun _ _ _ h => congrArg List.length h.2.1) ?_
          rintro _ _ _ ⟨rfl, rfl, e9⟩
          refine AW_I e9 ?_
          clear e9
          refine A_iret rfl rfl rfl rfl dX8_set_63 ?_
          rw [eg]
          exact ⟨rfl, rfl, rfl⟩
        · skip
          refine A_ldc kc_X8_88 rfl dX8_set_47 ?_
          refine A_iret rfl rfl rfl rfl dX8_set_49 ?_
          have eg : g_set (I 87) v w x = (-1000000001, I 87) := by
            first
              | (have h7 := b2i_q.mp cq5; rw [g_set, if_neg h7])
              | (have h7 := b2i_q.mp cq14; have h1 : w ≠ 1 := (fun h => h7 (by subst h; decide)); have h2 : w ≠ 2 := (fun h => h7 (by subst h; decide)); have h3 : w ≠ 3 := (fun h => h7 (by subst h; decide)); rw [g_set, if_pos (b2i_p.mp cq5), if_neg h1, if_neg h2, if_neg h3])
              | (have h7 : w = 1 := cq21; have h8 := b2i_q.mp cq44; subst h7; rw [g_set, if_pos (b2i_p.mp cq5), if_pos rfl, if_neg h8])
              | (have h7 : w = 2 := cq30; have h8 := b2i_q.mp cq44; subst h7; rw [g_set, if_pos (b2i_p.mp cq5), if_neg (by decide), if_pos rfl, if_neg h8])
              | (have h7 : w = 3 := ((w13 (b2i_p.mp cq14)).resolve_left cq21).resolve_left cq30; have h8 := b2i_q.mp cq44; subst h7; rw [g_set, if_pos (b2i_p.mp cq5), if_neg (by decide), if_neg (by decide), if_pos rfl, if_neg h8])
          rw [eg]
          exact ⟨rfl, rfl, by rw [setN_self]⟩
def g_rule (N : Nrow) (w x : Int32) : Int32 × Nrow := if w = 0 then (if 0 ≤ x ∧ x ≤ 100 then (N 3, upd N 3 x) else (-1000000001, N)) else if w = 1 then (if 0 ≤ x ∧ x ≤ 100 then (N 4, upd N 4 x) else (-1000000001, N)) else if w = 2 then (if 0 ≤ x ∧ x ≤ 9 then (N 5, upd N 5 x) else (-1000000001, N)) else (-1000000001, N)
theorem w02 {w : Int32} (h : 0 ≤ w ∧ w ≤ 2) : w = 0 ∨ w = 1 ∨ w = 2 := by
  simp only [Int32.le_iff_toInt_le, ← Int32.toInt_inj, Int32.reduceToInt] at *
  omega
set_option maxHeartbeats 1000000 in
set_option maxRecDepth 100000 in
theorem c_rule (l : Launch) (G : Gm) (I : Hp) (N : Nrow) (n : Nat) (hn : n ≤ 10) (hN : N 1 = nI n) (hR : RepJ I 36 N) (w x : Int32) : Meth l G yX7_rule cX7_rule 4 (some (FieldType.int)) 3 0 0 [.ref 0, .int w, .int x] LAY I (fun r lay1 I1 => r = some (.int (g_rule N w x).1) ∧ lay1 = LAY ∧ NowC I I1 (g_rule N w x).2) := by
  refine Meth.of (by decide +kernel) (by simp [Value.category]) (Nat.le_of_ble_eq_true rfl) ?_
  refine A_iload_n rfl dX7_rule_0 ?_
  refine A_iconst ic_0 dX7_rule_1 ?_
  refine A_iconst ic_2 dX7_rule_2 ?_
  refine A_callS (s_within l G _ _ _ _ _) m_X7_within ml_X7_56 rfl rfl rfl (Nat.le_of_ble_eq_true rfl) (by decide) (by decide) (by decide) dX7_rule_3 (fun _ _ _ h => congrArg List.length h.2.1) ?_
  rintro _ _ _ ⟨rfl, rfl, e9⟩
  refine AW_I e9 ?_
  clear e9
  refine A_if_eq 29 rfl dX7_rule_6 (fun cq6 => ?_) (fun cq6 => ?_)
  · skip
    refine A_ldc kc_X7_60 rfl dX7_rule_29 ?_
    refine A_iret rfl rfl rfl rfl dX7_rule_31 ?_
    have eg : g_rule N w x = (-1000000001, N) := by
      first
        | (have h7 := b2i_q.mp cq6; have h1 : w ≠ 0 := (fun h => h7 (by subst h; decide)); have h2 : w ≠ 1 := (fun h => h7 (by subst h; decide)); have h3 : w ≠ 2 := (fun h => h7 (by subst h; decide)); rw [g_rule, if_neg h1, if_neg h2, if_neg h3])
        | (have h7 : w = 2 := cq13; have h8 := b2i_q.mp cq26; subst h7; rw [g_rule, if_neg (by decide), if_neg (by decide), if_pos rfl, if_neg h8])
        | (have h9 : w ≠ 2 := cq13; have h8 := b2i_q.mp cq26; rcases w02 (b2i_p.mp cq6) with h7 | h7 | h7 <;> first | exact absurd h7 h9 | (subst h7; rw [g_rule, if_pos rfl, if_neg h8]; done) | (subst h7; rw [g_rule, if_neg (by decide), if_pos rfl, if_neg h8]; done))
    rw [eg]
    exact ⟨rfl, rfl, NowC.rf hR⟩
  · skip
    refine A_iload_n rfl dX7_rule_9 ?_
    refine A_iconst ic_0 dX7_rule_10 ?_
    refine A_iload_n rfl dX7_rule_11 ?_
    refine A_iconst ic_2 dX7_rule_12 ?_
    refine A_icmp_ne 21 rfl dX7_rule_13 (fun cq13 => ?_) (fun cq13 => ?_)
    · skip
      refine A_bipush bp_100 dX7_rule_21 ?_
      refine A_callS (s_within l G _ _ _ _ _) m_X7_within ml_X7_56 rfl rfl rfl (Nat.le_of_ble_eq_true rfl) (by decide) (by decide) (by decide) dX7_rule_23 (fun _ _ _ h => congrArg List.length h.2.1) ?_
      rintro _ _ _ ⟨rfl, rfl, e9⟩
      refine AW_I e9 ?_
      clear e9
      refine A_if_ne 32 rfl dX7_rule_26 (fun cq26 => ?_) (fun cq26 => ?_)
      · skip
        have eg : (w = 0 ∧ g_rule N w x = (N 3, upd N 3 x)) ∨ (w = 1 ∧ g_rule N w x = (N 4, upd N 4 x)) ∨ (w = 2 ∧ g_rule N w x = (N 5, upd N 5 x)) := by
          have h8 := b2i_p.mp cq26
          first
            | (have h7 : w = 2 := cq13; subst h7; exact Or.inr (Or.inr ⟨rfl, by rw [g_rule, if_neg (by decide), if_neg (by decide), if_pos rfl, if_pos h8]⟩))
            | (have h9 : w ≠ 2 := cq13; rcases w02 (b2i_p.mp cq6) with h7 | h7 | h7; exact Or.inl ⟨h7, by subst h7; rw [g_rule, if_pos rfl, if_pos h8]⟩; exact Or.inr (Or.inl ⟨h7, by subst h7; rw [g_rule, if_neg (by decide), if_pos rfl, if_pos h8]⟩); exact absurd h7 h9)
        refine A_iload_n rfl dX7_rule_32 ?_
        refine A_if_ne 55 rfl dX7_rule_33 (fun cq33 => ?_) (fun cq33 => ?_)
        · skip
          refine A_iload_n rfl dX7_rule_55 ?_
          refine A_iconst ic_1 dX7_rule_56 ?_
          refine A_icmp_ne 79 rfl dX7_rule_57 (fun cq57 => ?_) (fun cq57 => ?_)
          · skip
            refine A_aload_n rfl dX7_rule_79 ?_
            refine A_getR fr_X7_28.g rfl lay_0 rfl dX7_rule_80 ?_
            refine A_getI fr_X7_136.g rfl (lj j36) dX7_rule_83 ?_
            refine A_istore_n (by decide) rfl dX7_rule_86 ?_
            refine A_aload_n rfl dX7_rule_87 ?_
            refine A_getR fr_X7_28.g rfl lay_0 rfl dX7_rule_88 ?_
            refine A_iload_n rfl dX7_rule_91 ?_
            refine A_putI fr_X7_136 rfl (lj j36) rfl rfl dX7_rule_92 ?_
            refine A_iload_n rfl dX7_rule_95 ?_
            refine A_iret rfl rfl rfl rfl dX7_rule_96 ?_
            rcases eg with ⟨h0, eg⟩ | ⟨h0, eg⟩ | ⟨h0, eg⟩ <;> rw [eg]
            · first | (have h7 : w ≠ 0 := cq33; exact absurd h0 h7) | exact ⟨by rw [hR.1.2.1], rfl, hR.bar, fr_up (by decide) (by decide)⟩
            · first | (have h7 : w = 0 := cq33; exact absurd (h0.symm.trans h7) (by decide)) | (have h7 : w ≠ 1 := cq57; exact absurd h0 h7) | exact ⟨by rw [hR.1.2.2.1], rfl, hR.slip, fr_up (by decide) (by decide)⟩
            · first | (have h7 : w = 0 := cq33; exact absurd (h0.symm.trans h7) (by decide)) | (have h7 : w = 1 := cq57; exact absurd (h0.symm.trans h7) (by decide)) | exact ⟨by rw [hR.1.2.2.2.1], rfl, hR.turn, fr_up (by decide) (by decide)⟩
          · skip
            refine A_aload_n rfl dX7_rule_60 ?_
            refine A_getR fr_X7_28.g rfl lay_0 rfl dX7_rule_61 ?_
            refine A_getI fr_X7_133.g rfl (lj j36) dX7_rule_64 ?_
            refine A_istore_n (by decide) rfl dX7_rule_67 ?_
            refine A_aload_n rfl dX7_rule_68 ?_
            refine A_getR fr_X7_28.g rfl lay_0 rfl dX7_rule_69 ?_
            refine A_iload_n rfl dX7_rule_72 ?_
            refine A_putI fr_X7_133 rfl (lj j36) rfl rfl dX7_rule_73 ?_
            refine A_goto 95 rfl dX7_rule_76 ?_
            refine A_iload_n rfl dX7_rule_95 ?_
            refine A_iret rfl rfl rfl rfl dX7_rule_96 ?_
            rcases eg with ⟨h0, eg⟩ | ⟨h0, eg⟩ | ⟨h0, eg⟩ <;> rw [eg]
            · first | (have h7 : w ≠ 0 := cq33; exact absurd h0 h7) | exact ⟨by rw [hR.1.2.1], rfl, hR.bar, fr_up (by decide) (by decide)⟩
            · first | (have h7 : w = 0 := cq33; exact absurd (h0.symm.trans h7) (by decide)) | (have h7 : w ≠ 1 := cq57; exact absurd h0 h7) | exact ⟨by rw [hR.1.2.2.1], rfl, hR.slip, fr_up (by decide) (by decide)⟩
            · first | (have h7 : w = 0 := cq33; exact absurd (h0.symm.trans h7) (by decide)) | (have h7 : w = 1 := cq57; exact absurd (h0.symm.trans h7) (by decide)) | exact ⟨by rw [hR.1.2.2.2.1], rfl, hR.turn, fr_up (by decide) (by decide)⟩
        · skip
          refine A_aload_n rfl dX7_rule_36 ?_
          refine A_getR fr_X7_28.g rfl lay_0 rfl dX7_rule_37 ?_
          refine A_getI fr_X7_130.g rfl (lj j36) dX7_rule_40 ?_
          refine A_istore_n (by decide) rfl dX7_rule_43 ?_
          refine A_aload_n rfl dX7_rule_44 ?_
          refine A_getR fr_X7_28.g rfl lay_0 rfl dX7_rule_45 ?_
          refine A_iload_n rfl dX7_rule_48 ?_
          refine A_putI fr_X7_130 rfl (lj j36) rfl rfl dX7_rule_49 ?_
          refine A_goto 95 rfl dX7_rule_52 ?_
          refine A_iload_n rfl dX7_rule_95 ?_
          refine A_iret rfl rfl rfl rfl dX7_rule_96 ?_
          rcases eg with ⟨h0, eg⟩ | ⟨h0, eg⟩ | ⟨h0, eg⟩ <;> rw [eg]
          · first | (have h7 : w ≠ 0 := cq33; exact absurd h0 h7) | exact ⟨by rw [hR.1.2.1], rfl, hR.bar, fr_up (by decide) (by decide)⟩
          · first | (have h7 : w = 0 := cq33; exact absurd (h0.symm.trans h7) (by decide)) | (have h7 : w ≠ 1 := cq57; exact absurd h0 h7) | exact ⟨by rw [hR.1.2.2.1], rfl, hR.slip, fr_up (by decide) (by decide)⟩
          · first | (have h7 : w = 0 := cq33; exact absurd (h0.symm.trans h7) (by decide)) | (have h7 : w = 1 := cq57; exact absurd (h0.symm.trans h7) (by decide)) | exact ⟨by rw [hR.1.2.2.2.1], rfl, hR.turn, fr_up (by decide) (by decide)⟩
      · skip
        refine A_ldc kc_X7_60 rfl dX7_rule_29 ?_
        refine A_iret rfl rfl rfl rfl dX7_rule_31 ?_
        have eg : g_rule N w x = (-1000000001, N) := by
          first
            | (have h7 := b2i_q.mp cq6; have h1 : w ≠ 0 := (fun h => h7 (by subst h; decide)); have h2 : w ≠ 1 := (fun h => h7 (by subst h; decide)); have h3 : w ≠ 2 := (fun h => h7 (by subst h; decide)); rw [g_rule, if_neg h1, if_neg h2, if_neg h3])
            | (have h7 : w = 2 := cq13; have h8 := b2i_q.mp cq26; subst h7; rw [g_rule, if_neg (by decide), if_neg (by decide), if_pos rfl, if_neg h8])
            | (have h9 : w ≠ 2 := cq13; have h8 := b2i_q.mp cq26; rcases w02 (b2i_p.mp cq6) with h7 | h7 | h7 <;> first | exact absurd h7 h9 | (subst h7; rw [g_rule, if_pos rfl, if_neg h8]; done) | (subst h7; rw [g_rule, if_neg (by decide), if_pos rfl, if_neg h8]; done))
        rw [eg]
        exact ⟨rfl, rfl, NowC.rf hR⟩
    · skip
      refine A_bipush bp_9 dX7_rule_16 ?_
      refine A_goto 23 rfl dX7_rule_18 ?_
      refine A_callS (s_within l G _ _ _ _ _) m_X7_within ml_X7_56 rfl rfl rfl (Nat.le_of_ble_eq_true rfl) (by decide) (by decide) (by decide) dX7_rule_23 (fun _ _ _ h => congrArg List.length h.2.1) ?_
      rintro _ _ _ ⟨rfl, rfl, e9⟩
      refine AW_I e9 ?_
      clear e9
      refine A_if_ne 32 rfl dX7_rule_26 (fun cq26 => ?_) (fun cq26 => ?_)
      · skip
        have eg : (w = 0 ∧ g_rule N w x = (N 3, upd N 3 x)) ∨ (w = 1 ∧ g_rule N w x = (N 4, upd N 4 x)) ∨ (w = 2 ∧ g_rule N w x = (N 5, upd N 5 x)) := by
          have h8 := b2i_p.mp cq26
          first
            | (have h7 : w = 2 := cq13; subst h7; exact Or.inr (Or.inr ⟨rfl, by rw [g_rule, if_neg (by decide), if_neg (by decide), if_pos rfl, if_pos h8]⟩))
            | (have h9 : w ≠ 2 := cq13; rcases w02 (b2i_p.mp cq6) with h7 | h7 | h7; exact Or.inl ⟨h7, by subst h7; rw [g_rule, if_pos rfl, if_pos h8]⟩; exact Or.inr (Or.inl ⟨h7, by subst h7; rw [g_rule, if_neg (by decide), if_pos rfl, if_pos h8]⟩); exact absurd h7 h9)
        refine A_iload_n rfl dX7_rule_32 ?_
        refine A_if_ne 55 rfl dX7_rule_33 (fun cq33 => ?_) (fun cq33 => ?_)
        · skip
          refine A_iload_n rfl dX7_rule_55 ?_
          refine A_iconst ic_1 dX7_rule_56 ?_
          refine A_icmp_ne 79 rfl dX7_rule_57 (fun cq57 => ?_) (fun cq57 => ?_)
          · skip
            refine A_aload_n rfl dX7_rule_79 ?_
            refine A_getR fr_X7_28.g rfl lay_0 rfl dX7_rule_80 ?_
            refine A_getI fr_X7_136.g rfl (lj j36) dX7_rule_83 ?_
            refine A_istore_n (by decide) rfl dX7_rule_86 ?_
            refine A_aload_n rfl dX7_rule_87 ?_
            refine A_getR fr_X7_28.g rfl lay_0 rfl dX7_rule_88 ?_
            refine A_iload_n rfl dX7_rule_91 ?_
            refine A_putI fr_X7_136 rfl (lj j36) rfl rfl dX7_rule_92 ?_
            refine A_iload_n rfl dX7_rule_95 ?_
            refine A_iret rfl rfl rfl rfl dX7_rule_96 ?_
            rcases eg with ⟨h0, eg⟩ | ⟨h0, eg⟩ | ⟨h0, eg⟩ <;> rw [eg]
            · first | (have h7 : w ≠ 0 := cq33; exact absurd h0 h7) | exact ⟨by rw [hR.1.2.1], rfl, hR.bar, fr_up (by decide) (by decide)⟩
            · first | (have h7 : w = 0 := cq33; exact absurd (h0.symm.trans h7) (by decide)) | (have h7 : w ≠ 1 := cq57; exact absurd h0 h7) | exact ⟨by rw [hR.1.2.2.1], rfl, hR.slip, fr_up (by decide) (by decide)⟩
            · first | (have h7 : w = 0 := cq33; exact absurd (h0.symm.trans h7) (by decide)) | (have h7 : w = 1 := cq57; exact absurd (h0.symm.trans h7) (by decide)) | exact ⟨by rw [hR.1.2.2.2.1], rfl, hR.turn, fr_up (by decide) (by decide)⟩
          · skip
            refine A_aload_n rfl dX7_rule_60 ?_
            refine A_getR fr_X7_28.g rfl lay_0 rfl dX7_rule_61 ?_
            refine A_getI fr_X7_133.g rfl (lj j36) dX7_rule_64 ?_
            refine A_istore_n (by decide) rfl dX7_rule_67 ?_
            refine A_aload_n rfl dX7_rule_68 ?_
            refine A_getR fr_X7_28.g rfl lay_0 rfl dX7_rule_69 ?_
            refine A_iload_n rfl dX7_rule_72 ?_
            refine A_putI fr_X7_133 rfl (lj j36) rfl rfl dX7_rule_73 ?_
            refine A_goto 95 rfl dX7_rule_76 ?_
            refine A_iload_n rfl dX7_rule_95 ?_
            refine A_iret rfl rfl rfl rfl dX7_rule_96 ?_
            rcases eg with ⟨h0, eg⟩ | ⟨h0, eg⟩ | ⟨h0, eg⟩ <;> rw [eg]
            · first | (have h7 : w ≠ 0 := cq33; exact absurd h0 h7) | exact ⟨by rw [hR.1.2.1], rfl, hR.bar, fr_up (by decide) (by decide)⟩
            · first | (have h7 : w = 0 := cq33; exact absurd (h0.symm.trans h7) (by decide)) | (have h7 : w ≠ 1 := cq57; exact absurd h0 h7) | exact ⟨by rw [hR.1.2.2.1], rfl, hR.slip, fr_up (by decide) (by decide)⟩
            · first | (have h7 : w = 0 := cq33; exact absurd (h0.symm.trans h7) (by decide)) | (have h7 : w = 1 := cq57; exact absurd (h0.symm.trans h7) (by decide)) | exact ⟨by rw [hR.1.2.2.2.1], rfl, hR.turn, fr_up (by decide) (by decide)⟩
        · skip
          refine A_aload_n rfl dX7_rule_36 ?_
          refine A_getR fr_X7_28.g rfl lay_0 rfl dX7_rule_37 ?_
          refine A_getI fr_X7_130.g rfl (lj j36) dX7_rule_40 ?_
          refine A_istore_n (by decide) rfl dX7_rule_43 ?_
          refine A_aload_n rfl dX7_rule_44 ?_
          refine A_getR fr_X7_28.g rfl lay_0 rfl dX7_rule_45 ?_
          refine A_iload_n rfl dX7_rule_48 ?_
          refine A_putI fr_X7_130 rfl (lj j36) rfl rfl dX7_rule_49 ?_
          refine A_goto 95 rfl dX7_rule_52 ?_
          refine A_iload_n rfl dX7_rule_95 ?_
          refine A_iret rfl rfl rfl rfl dX7_rule_96 ?_
          rcases eg with ⟨h0, eg⟩ | ⟨h0, eg⟩ | ⟨h0, eg⟩ <;> rw [eg]
          · first | (have h7 : w ≠ 0 := cq33; exact absurd h0 h7) | exact ⟨by rw [hR.1.2.1], rfl, hR.bar, fr_up (by decide) (by decide)⟩
          · first | (have h7 : w = 0 := cq33; exact absurd (h0.symm.trans h7) (by decide)) | (have h7 : w ≠ 1 := cq57; exact absurd h0 h7) | exact ⟨by rw [hR.1.2.2.1], rfl, hR.slip, fr_up (by decide) (by decide)⟩
          · first | (have h7 : w = 0 := cq33; exact absurd (h0.symm.trans h7) (by decide)) | (have h7 : w = 1 := cq57; exact absurd (h0.symm.trans h7) (by decide)) | exact ⟨by rw [hR.1.2.2.2.1], rfl, hR.turn, fr_up (by decide) (by decide)⟩
      · skip
        refine A_ldc kc_X7_60 rfl dX7_rule_29 ?_
        refine A_iret rfl rfl rfl rfl dX7_rule_31 ?_
        have eg : g_rule N w x = (-1000000001, N) := by
          first
            | (have h7 := b2i_q.mp cq6; have h1 : w ≠ 0 := (fun h => h7 (by subst h; decide)); have h2 : w ≠ 1 := (fun h => h7 (by subst h; decide)); have h3 : w ≠ 2 := (fun h => h7 (by subst h; decide)); rw [g_rule, if_neg h1, if_neg h2, if_neg h3])
            | (have h7 : w = 2 := cq13; have h8 := b2i_q.mp cq26; subst h7; rw [g_rule, if_neg (by decide), if_neg (by decide), if_pos rfl, if_neg h8])
            | (have h9 : w ≠ 2 := cq13; have h8 := b2i_q.mp cq26; rcases w02 (b2i_p.mp cq6) with h7 | h7 | h7 <;> first | exact absurd h7 h9 | (subst h7; rw [g_rule, if_pos rfl, if_neg h8]; done) | (subst h7; rw [g_rule, if_neg (by decide), if_pos rfl, if_neg h8]; done))
        rw [eg]
        exact ⟨rfl, rfl, NowC.rf hR⟩
set_option maxHeartbeats 1000000 in
set_option maxRecDepth 100000 in
theorem m_rule (l : Launch) (G : Gm) (I : Hp) (N : Nrow) (h87 : I 87 = N) (n : Nat) (hn : n ≤ 10) (hN : N 1 = nI n) (w x : Int32) : Meth l G yX8_rule cX8_rule 3 (some (FieldType.int)) 3 0 0 [.ref 86, .int w, .int x] LAY I (fun r lay1 I1 => r = some (.int (g_rule N w x).1) ∧ lay1 = LAY ∧ I1 = setN I (g_rule N w x).2) := by
  subst h87
  refine Meth.of (by decide +kernel) (by simp [Value.category]) (Nat.le_of_ble_eq_true rfl) ?_
  refine A_iload_n rfl dX8_rule_0 ?_
  refine A_iconst ic_0 dX8_rule_1 ?_
  refine A_iconst ic_2 dX8_rule_2 ?_
  refine A_callS (s_in l G _ _ _ _ _) m_X8_in ml_X8_80 rfl rfl rfl (Nat.le_of_ble_eq_true rfl) (by decide) (by decide) (by decide) dX8_rule_3 (fun _ _ _ h => congrArg List.length h.2.1) ?_
  rintro _ _ _ ⟨rfl, rfl, e9⟩
  refine AW_I e9 ?_
  clear e9
  refine A_if_eq 40 rfl dX8_rule_6 (fun cq6 => ?_) (fun cq6 => ?_)
  · skip
    have eg : g_rule (I 87) w x = (-1000000001, (I 87)) := by
      first
        | (have h7 := b2i_q.mp cq6; have h1 : w ≠ 0 := (fun h => h7 (by subst h; decide)); have h2 : w ≠ 1 := (fun h => h7 (by subst h; decide)); have h3 : w ≠ 2 := (fun h => h7 (by subst h; decide)); rw [g_rule, if_neg h1, if_neg h2, if_neg h3])
        | (have h7 : w = 2 := cq13; have h8 := b2i_q.mp cq26; subst h7; rw [g_rule, if_neg (by decide), if_neg (by decide), if_pos rfl, if_neg h8])
        | (have h9 : w ≠ 2 := cq13; have h8 := b2i_q.mp cq26; rcases w02 (b2i_p.mp cq6) with h7 | h7 | h7 <;> first | exact absurd h7 h9 | (subst h7; rw [g_rule, if_pos rfl, if_neg h8]; done) | (subst h7; rw [g_rule, if_neg (by decide), if_pos rfl, if_neg h8]; done))
    rw [eg]
    refine A_ldc kc_X8_88 rfl dX8_rule_40 ?_
    refine A_iret rfl rfl rfl rfl dX8_rule_42 ?_
    first
      | (have eg2 := eg; rw [eg2]; exact ⟨rfl, rfl, rfl⟩)
      | exact ⟨rfl, rfl, by rw [setN_self]⟩
  · skip
    refine A_iload_n rfl dX8_rule_9 ?_
    refine A_iconst ic_0 dX8_rule_10 ?_
    refine A_iload_n rfl dX8_rule_11 ?_
    refine A_iconst ic_2 dX8_rule_12 ?_
    refine A_icmp_ne 21 rfl dX8_rule_13 (fun cq13 => ?_) (fun cq13 => ?_)
    · skip
      refine A_bipush bp_100 dX8_rule_21 ?_
      refine A_callS (s_in l G _ _ _ _ _) m_X8_in ml_X8_80 rfl rfl rfl (Nat.le_of_ble_eq_true rfl) (by decide) (by decide) (by decide) dX8_rule_23 (fun _ _ _ h => congrArg List.length h.2.1) ?_
      rintro _ _ _ ⟨rfl, rfl, e9⟩
      refine AW_I e9 ?_
      clear e9
      refine A_if_eq 40 rfl dX8_rule_26 (fun cq26 => ?_) (fun cq26 => ?_)
      · skip
        have eg : g_rule (I 87) w x = (-1000000001, (I 87)) := by
          first
            | (have h7 := b2i_q.mp cq6; have h1 : w ≠ 0 := (fun h => h7 (by subst h; decide)); have h2 : w ≠ 1 := (fun h => h7 (by subst h; decide)); have h3 : w ≠ 2 := (fun h => h7 (by subst h; decide)); rw [g_rule, if_neg h1, if_neg h2, if_neg h3])
            | (have h7 : w = 2 := cq13; have h8 := b2i_q.mp cq26; subst h7; rw [g_rule, if_neg (by decide), if_neg (by decide), if_pos rfl, if_neg h8])
            | (have h9 : w ≠ 2 := cq13; have h8 := b2i_q.mp cq26; rcases w02 (b2i_p.mp cq6) with h7 | h7 | h7 <;> first | exact absurd h7 h9 | (subst h7; rw [g_rule, if_pos rfl, if_neg h8]; done) | (subst h7; rw [g_rule, if_neg (by decide), if_pos rfl, if_neg h8]; done))
        rw [eg]
        refine A_ldc kc_X8_88 rfl dX8_rule_40 ?_
        refine A_iret rfl rfl rfl rfl dX8_rule_42 ?_
        first
          | (have eg2 := eg; rw [eg2]; exact ⟨rfl, rfl, rfl⟩)
          | exact ⟨rfl, rfl, by rw [setN_self]⟩
      · skip
        have eg : (w = 0 ∧ g_rule (I 87) w x = ((I 87) 3, upd (I 87) 3 x)) ∨ (w = 1 ∧ g_rule (I 87) w x = ((I 87) 4, upd (I 87) 4 x)) ∨ (w = 2 ∧ g_rule (I 87) w x = ((I 87) 5, upd (I 87) 5 x)) := by
          have h8 := b2i_p.mp cq26
          first
            | (have h7 : w = 2 := cq13; subst h7; exact Or.inr (Or.inr ⟨rfl, by rw [g_rule, if_neg (by decide), if_neg (by decide), if_pos rfl, if_pos h8]⟩))
            | (have h9 : w ≠ 2 := cq13; rcases w02 (b2i_p.mp cq6) with h7 | h7 | h7; exact Or.inl ⟨h7, by subst h7; rw [g_rule, if_pos rfl, if_pos h8]⟩; exact Or.inr (Or.inl ⟨h7, by subst h7; rw [g_rule, if_neg (by decide), if_pos rfl, if_pos h8]⟩); exact absurd h7 h9)
        obtain ⟨k, hk, rfl, eg⟩ : ∃ k, k ≤ 2 ∧ w = nI k ∧ g_rule (I 87) w x = (I 87 (3 + k), upd (I 87) (3 + k) x) := by
          rcases eg with ⟨h0, eg⟩ | ⟨h0, eg⟩ | ⟨h0, eg⟩
          · exact ⟨0, by decide, h0, eg⟩
          · exact ⟨1, by decide, h0, eg⟩
          · exact ⟨2, by decide, h0, eg⟩
        refine A_aload_n rfl dX8_rule_29 ?_
        refine A_iconst ic_3 dX8_rule_30 ?_
        refine A_iload_n rfl dX8_rule_31 ?_
        refine A_iadd dX8_rule_32 ?_
        refine A_iload_n rfl dX8_rule_33 ?_
        rw [show (3 : Int32) + nI k = nI (3 + k) by rw [show (3 : Int32) = nI 3 from rfl, nI_add]]
        refine A_callV (t_becomes l G I _ rfl (3 + k) x (by omega)) m_X8_becomes ml_X8_142 rfl lay_86 rfl (by decide) rfl rfl (Nat.le_of_ble_eq_true rfl) (by decide) (by decide) (by decide) dX8_rule_34 (fun _ _ _ h => congrArg List.length h.2.1) ?_
        rintro _ _ _ ⟨rfl, rfl, e9⟩
        refine AW_I e9 ?_
        clear e9
        refine A_goto 42 rfl dX8_rule_37 ?_
        refine A_iret rfl rfl rfl rfl dX8_rule_42 ?_
        first
          | (have eg2 := eg; rw [eg2]; exact ⟨rfl, rfl, rfl⟩)
          | exact ⟨rfl, rfl, by rw [setN_self]⟩
    · skip
      refine A_bipush bp_9 dX8_rule_16 ?_
      refine A_goto 23 rfl dX8_rule_18 ?_
      refine A_callS (s_in l G _ _ _ _ _) m_X8_in ml_X8_80 rfl rfl rfl (Nat.le_of_ble_eq_true rfl) (by decide) (by decide) (by decide) dX8_rule_23 (fun _ _ _ h => congrArg List.length h.2.1) ?_
      rintro _ _ _ ⟨rfl, rfl, e9⟩
      refine AW_I e9 ?_
      clear e9
      refine A_if_eq 40 rfl dX8_rule_26 (fun cq26 => ?_) (fun cq26 => ?_)
      · skip
        have eg : g_rule (I 87) w x = (-1000000001, (I 87)) := by
          first
            | (have h7 := b2i_q.mp cq6; have h1 : w ≠ 0 := (fun h => h7 (by subst h; decide)); have h2 : w ≠ 1 := (fun h => h7 (by subst h; decide)); have h3 : w ≠ 2 := (fun h => h7 (by subst h; decide)); rw [g_rule, if_neg h1, if_neg h2, if_neg h3])
            | (have h7 : w = 2 := cq13; have h8 := b2i_q.mp cq26; subst h7; rw [g_rule, if_neg (by decide), if_neg (by decide), if_pos rfl, if_neg h8])
            | (have h9 : w ≠ 2 := cq13; have h8 := b2i_q.mp cq26; rcases w02 (b2i_p.mp cq6) with h7 | h7 | h7 <;> first | exact absurd h7 h9 | (subst h7; rw [g_rule, if_pos rfl, if_neg h8]; done) | (subst h7; rw [g_rule, if_neg (by decide), if_pos rfl, if_neg h8]; done))
        rw [eg]
        refine A_ldc kc_X8_88 rfl dX8_rule_40 ?_
        refine A_iret rfl rfl rfl rfl dX8_rule_42 ?_
        first
          | (have eg2 := eg; rw [eg2]; exact ⟨rfl, rfl, rfl⟩)
          | exact ⟨rfl, rfl, by rw [setN_self]⟩
      · skip
        have eg : (w = 0 ∧ g_rule (I 87) w x = ((I 87) 3, upd (I 87) 3 x)) ∨ (w = 1 ∧ g_rule (I 87) w x = ((I 87) 4, upd (I 87) 4 x)) ∨ (w = 2 ∧ g_rule (I 87) w x = ((I 87) 5, upd (I 87) 5 x)) := by
          have h8 := b2i_p.mp cq26
          first
            | (have h7 : w = 2 := cq13; subst h7; exact Or.inr (Or.inr ⟨rfl, by rw [g_rule, if_neg (by decide), if_neg (by decide), if_pos rfl, if_pos h8]⟩))
            | (have h9 : w ≠ 2 := cq13; rcases w02 (b2i_p.mp cq6) with h7 | h7 | h7; exact Or.inl ⟨h7, by subst h7; rw [g_rule, if_pos rfl, if_pos h8]⟩; exact Or.inr (Or.inl ⟨h7, by subst h7; rw [g_rule, if_neg (by decide), if_pos rfl, if_pos h8]⟩); exact absurd h7 h9)
        obtain ⟨k, hk, rfl, eg⟩ : ∃ k, k ≤ 2 ∧ w = nI k ∧ g_rule (I 87) w x = (I 87 (3 + k), upd (I 87) (3 + k) x) := by
          rcases eg with ⟨h0, eg⟩ | ⟨h0, eg⟩ | ⟨h0, eg⟩
          · exact ⟨0, by decide, h0, eg⟩
          · exact ⟨1, by decide, h0, eg⟩
          · exact ⟨2, by decide, h0, eg⟩
        refine A_aload_n rfl dX8_rule_29 ?_
        refine A_iconst ic_3 dX8_rule_30 ?_
        refine A_iload_n rfl dX8_rule_31 ?_
        refine A_iadd dX8_rule_32 ?_
        refine A_iload_n rfl dX8_rule_33 ?_
        rw [show (3 : Int32) + nI k = nI (3 + k) by rw [show (3 : Int32) = nI 3 from rfl, nI_add]]
        refine A_callV (t_becomes l G I _ rfl (3 + k) x (by omega)) m_X8_becomes ml_X8_142 rfl lay_86 rfl (by decide) rfl rfl (Nat.le_of_ble_eq_true rfl) (by decide) (by decide) (by decide) dX8_rule_34 (fun _ _ _ h => congrArg List.length h.2.1) ?_
        rintro _ _ _ ⟨rfl, rfl, e9⟩
        refine AW_I e9 ?_
        clear e9
        refine A_goto 42 rfl dX8_rule_37 ?_
        refine A_iret rfl rfl rfl rfl dX8_rule_42 ?_
        first
          | (have eg2 := eg; rw [eg2]; exact ⟨rfl, rfl, rfl⟩)
          | exact ⟨rfl, rfl, by rw [setN_self]⟩
def g_hours (N : Nrow) (n hh : Nat) (x : Int32) : Int32 × Nrow := if 1 ≤ x ∧ x ≤ 100 then ((q_go (-1) n N (if x.toNatClampNeg < 9999 - hh then x.toNatClampNeg else 9999 - hh)).2, (q_go (-1) n N (if x.toNatClampNeg < 9999 - hh then x.toNatClampNeg else 9999 - hh)).1) else (-1000000001, N)
theorem in_get1 {v : Int32} (h : 1 ≤ v ∧ v ≤ 100) : ∃ i, 1 ≤ i ∧ i ≤ 100 ∧ v = nI i := by
  obtain ⟨i, h1, rfl⟩ := in_get (a := 100) rfl ⟨Int32.le_trans (by decide) h.1, h.2⟩
  refine ⟨i, ?_, h1, rfl⟩
  apply Nat.one_le_iff_ne_zero.mpr
  rintro rfl
  exact absurd h.1 (by decide)
theorem nI_subL {a b : Nat} (h : b ≤ a) : nI a - nI b = nI (a - b) := by
  obtain ⟨c, rfl⟩ : ∃ c, a = c + b := ⟨a - b, by omega⟩
  rw [show c + b - b = c by omega, ← nI_add, Int32.add_sub_cancel]
theorem h9999 {hh : Nat} (h : hh ≤ 9999) : (9999 : Int32) - nI hh = nI (9999 - hh) := by rw [show (9999 : Int32) = nI 9999 from rfl, nI_subL h]
set_option maxHeartbeats 1000000 in
set_option maxRecDepth 100000 in
theorem c_hours (l : Launch) (G : Gm) (I : Hp) (N : Nrow) (n : Nat) (hn : n ≤ 10) (hN : N 1 = nI n) (hR : RepJ I 36 N) (hK : KnJ N) (hh : Nat) (hh1 : hh ≤ 9999) (hh2 : N 2 = nI hh) (x : Int32) : Meth l G yX7_hours cX7_hours 2 (some (FieldType.int)) 6 0 0 [.ref 0, .int x] LAY I (fun r lay1 I1 => r = some (.int (g_hours N n hh x).1) ∧ lay1 = LAY ∧ NowC I I1 (g_hours N n hh x).2) := by
  refine Meth.of (by decide +kernel) (by simp [Value.category]) (Nat.le_of_ble_eq_true rfl) ?_
  refine A_iload_n rfl dX7_hours_0 ?_
  refine A_iconst ic_1 dX7_hours_1 ?_
  refine A_bipush bp_100 dX7_hours_2 ?_
  refine A_callS (s_within l G _ _ _ _ _) m_X7_within ml_X7_56 rfl rfl rfl (Nat.le_of_ble_eq_true rfl) (by decide) (by decide) (by decide) dX7_hours_4 (fun _ _ _ h => congrArg List.length h.2.1) ?_
  rintro _ _ _ ⟨rfl, rfl, e9⟩
  refine AW_I e9 ?_
  clear e9
  refine A_if_ne 13 rfl dX7_hours_7 (fun cq7 => ?_) (fun cq7 => ?_)
  · skip
    have hok := b2i_p.mp cq7
    obtain ⟨i, hi0, hi, rfl⟩ := in_get1 hok
    have e13 : I 36 13 = nI hh := hR.1.2.2.2.2.2.1.trans hh2
    refine A_aload_n rfl dX7_hours_13 ?_
    refine A_getR fr_X7_28.g rfl lay_0 rfl dX7_hours_14 ?_
    refine A_iload_n rfl dX7_hours_17 ?_
    refine A_sipush sp_9999 dX7_hours_18 ?_
    refine A_aload_n rfl dX7_hours_21 ?_
    refine A_getR fr_X7_28.g rfl lay_0 rfl dX7_hours_22 ?_
    refine A_getI fr_X7_153.g rfl (lj j36) dX7_hours_25 ?_
    rw [e13]
    refine A_isub dX7_hours_28 ?_
    rw [h9999 hh1]
    refine A_callS (s_min l G _ _ _ _) m_J9_min_7cf53 ml_X7_139 rfl rfl rfl (Nat.le_of_ble_eq_true rfl) (by decide) (by decide) (by decide) dX7_hours_29 (fun _ _ _ h => congrArg List.length h.2.1) ?_
    rintro _ _ _ ⟨rfl, rfl, e9⟩
    refine AW_I e9 ?_
    clear e9
    rw [show (if nI (9999 - hh) < nI i then nI (9999 - hh) else nI i) = nI (if i < 9999 - hh then i else 9999 - hh) by
      by_cases hlt : 9999 - hh < i
      · rw [if_pos ((nI_ltI (by omega) (by omega)).mpr hlt), if_neg (by omega)]
      · rw [if_neg (mt (nI_ltI (by omega) (by omega)).mp hlt)]; congr 1; split <;> omega]
    refine A_iconst ic_m1 dX7_hours_32 ?_
    refine A_callV (s_go l G 36 j36 I N n hn hN hR hK (-1) (if i < 9999 - hh then i else 9999 - hh) (by split <;> omega)) m_X0_pass ml_X7_156 rfl (lj j36) rfl (by decide) rfl rfl (Nat.le_of_ble_eq_true rfl) (by decide) (by decide) (by decide) dX7_hours_33 (fun _ _ _ hqq => congrArg List.length hqq.2.1) ?_
    rintro _ _ K2 ⟨rfl, rfl, hR2, hf2⟩
    refine A_iret rfl rfl rfl rfl dX7_hours_36 ?_
    have eg : g_hours N n hh (nI i) = ((q_go (-1) n N (if i < 9999 - hh then i else 9999 - hh)).2, (q_go (-1) n N (if i < 9999 - hh then i else 9999 - hh)).1) := by rw [g_hours, if_pos hok, nI_clamp (by omega)]
    rw [eg]
    exact ⟨rfl, rfl, hR2, hf2⟩
  · skip
    refine A_ldc kc_X7_60 rfl dX7_hours_10 ?_
    refine A_iret rfl rfl rfl rfl dX7_hours_12 ?_
    have eg : g_hours N n hh x = (-1000000001, N) := by rw [g_hours, if_neg (b2i_q.mp cq7)]
    rw [eg]
    exact ⟨rfl, rfl, NowC.rf hR⟩
set_option maxHeartbeats 1000000 in
set_option maxRecDepth 100000 in
theorem m_hours (l : Launch) (G : Gm) (I : Hp) (N : Nrow) (h87 : I 87 = N) (n : Nat) (hn : n ≤ 10) (hN : N 1 = nI n) (hsil : I 86 4 = -1) (hh : Nat) (hh1 : hh ≤ 9999) (hh2 : N 2 = nI hh) (x : Int32) : Meth l G yX8_hours cX8_hours 2 (some (FieldType.int)) 5 0 0 [.ref 86, .int x] LAY I (fun r lay1 I1 => r = some (.int (g_hours N n hh x).1) ∧ lay1 = LAY ∧ I1 = setN I (g_hours N n hh x).2) := by
  subst h87
  refine Meth.of (by decide +kernel) (by simp [Value.category]) (Nat.le_of_ble_eq_true rfl) ?_
  refine A_iload_n rfl dX8_hours_0 ?_
  refine A_iconst ic_1 dX8_hours_1 ?_
  refine A_bipush bp_100 dX8_hours_2 ?_
  refine A_callS (s_in l G _ _ _ _ _) m_X8_in ml_X8_80 rfl rfl rfl (Nat.le_of_ble_eq_true rfl) (by decide) (by decide) (by decide) dX8_hours_4 (fun _ _ _ h => congrArg List.length h.2.1) ?_
  rintro _ _ _ ⟨rfl, rfl, e9⟩
  refine AW_I e9 ?_
  clear e9
  refine A_if_eq 32 rfl dX8_hours_7 (fun cq7 => ?_) (fun cq7 => ?_)
  · skip
    refine A_ldc kc_X8_88 rfl dX8_hours_32 ?_
    refine A_iret rfl rfl rfl rfl dX8_hours_34 ?_
    first
      | (have h7 := b2i_q.mp cq7; have eg : g_hours (I 87) n hh x = (-1000000001, I 87) := (by rw [g_hours, if_neg h7]); rw [eg]; exact ⟨rfl, rfl, by rw [setN_self]⟩)
      | (have eg : g_hours (I 87) n hh (nI i) = ((q_go (-1) n (I 87) (if i < 9999 - hh then i else 9999 - hh)).2, (q_go (-1) n (I 87) (if i < 9999 - hh then i else 9999 - hh)).1) := (by rw [g_hours, if_pos hok, nI_clamp (by omega)]); rw [eg]; exact ⟨rfl, rfl, rfl⟩)
  · skip
    have hok := b2i_p.mp cq7
    obtain ⟨i, hi0, hi, rfl⟩ := in_get1 hok
    refine A_aload_n rfl dX8_hours_10 ?_
    refine A_sipush sp_9999 dX8_hours_11 ?_
    refine A_aload_n rfl dX8_hours_14 ?_
    refine A_getR fr_X8_9.g rfl lay_86 rfl dX8_hours_15 ?_
    refine A_iconst ic_2 dX8_hours_18 ?_
    refine A_iald 2 rfl lay_87 (by decide) (by decide) dX8_hours_19 ?_
    refine A_isub dX8_hours_20 ?_
    rw [hh2, h9999 hh1]
    refine A_iconst ic_0 dX8_hours_21 ?_
    refine A_iload_n rfl dX8_hours_22 ?_
    refine A_callS (s_withinM l G _ _ _ _ _) m_X8_within ml_X8_111 rfl rfl rfl (Nat.le_of_ble_eq_true rfl) (by decide) (by decide) (by decide) dX8_hours_23 (fun _ _ _ h => congrArg List.length h.2.1) ?_
    rintro _ _ _ ⟨rfl, rfl, e9⟩
    refine AW_I e9 ?_
    clear e9
    rw [show (if nI (9999 - hh) < 0 then 0 else if nI i < nI (9999 - hh) then nI i else nI (9999 - hh)) = nI (if i < 9999 - hh then i else 9999 - hh) by
      rw [if_neg (nI_pos (by omega))]
      by_cases hlt : i < 9999 - hh
      · rw [if_pos ((nI_ltI (by omega) (by omega)).mpr hlt), if_pos hlt]
      · rw [if_neg (mt (nI_ltI (by omega) (by omega)).mp hlt), if_neg hlt]]
    refine A_callV (t_go l G I _ rfl (-1) hsil n hn hN (if i < 9999 - hh then i else 9999 - hh) (by split <;> omega)) m_X8_goesOn ml_X8_162 rfl lay_86 rfl (by decide) rfl rfl (Nat.le_of_ble_eq_true rfl) (by decide) (by decide) (by decide) dX8_hours_26 (fun _ _ _ h => congrArg List.length h.2.1) ?_
    rintro _ _ _ ⟨rfl, rfl, e9⟩
    refine AW_I e9 ?_
    clear e9
    refine A_goto 34 rfl dX8_hours_29 ?_
    refine A_iret rfl rfl rfl rfl dX8_hours_34 ?_
    first
      | (have h7 := b2i_q.mp cq7; have eg : g_hours (I 87) n hh x = (-1000000001, I 87) := (by rw [g_hours, if_neg h7]); rw [eg]; exact ⟨rfl, rfl, by rw [setN_self]⟩)
      | (have eg : g_hours (I 87) n hh (nI i) = ((q_go (-1) n (I 87) (if i < 9999 - hh then i else 9999 - hh)).2, (q_go (-1) n (I 87) (if i < 9999 - hh then i else 9999 - hh)).1) := (by rw [g_hours, if_pos hok, nI_clamp (by omega)]); rw [eg]; exact ⟨rfl, rfl, rfl⟩)
