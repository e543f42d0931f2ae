set_option maxHeartbeats 1000000 in
set_option maxRecDepth 100000 in
theorem t_cnt (l : Launch) (G : Gm) (I : Hp) (N : Nrow) (h87 : I 87 = N) (T : Nat) (hT : T ≤ 14) (hN7 : N 7 = nI T) (key : Int32) : Meth l G yX8_counts cX8_counts 3 (some (FieldType.int)) 1 0 0 [.ref 86, .int key] LAY I (fun r lay1 I1 => r = some (.int (q_cnt N key)) ∧ lay1 = LAY ∧ I1 = I) := by
  subst h87
  have loop : ∀ (lpn : Nat) (k : Nat) (s : Int32), k = lpn → (k ≤ T) → (s = nI k - 1) → (q_cntL (I 87) key k = q_cnt (I 87) key) → AW l G yX8_counts cX8_counts 3 (some (FieldType.int)) 1 0 0 (fun r lay1 I1 => r = some (.int (q_cnt (I 87) key)) ∧ lay1 = LAY ∧ I1 = I) 0 0 10 [some (.ref 86), some (.int key), some (.int s)] [] LAY I := by
    intro lpn
    induction lpn using Nat.strongRecOn with
    | _ lpn ih =>
      intro k s hms hk hs hg
      refine A_iload_n rfl dX8_counts_10 ?_
      refine A_if_lt 41 rfl dX8_counts_11 (fun cq11 => ?_) (fun cq11 => ?_)
      · skip
        have hk0 : k = 0 := by
          rcases Nat.eq_zero_or_pos k with hq1 | hq1
          · exact hq1
          · exfalso
            obtain ⟨k1, rfl⟩ : ∃ k1, k = k1 + 1 := ⟨k - 1, by omega⟩
            rw [hs, nI_pred] at cq11
            exact nI_pos (by omega) cq11
        subst hk0
        refine A_iconst ic_m1 dX8_counts_41 ?_
        refine A_iret rfl rfl rfl rfl dX8_counts_42 ?_
        exact ⟨by rw [← hg]; rfl, rfl, rfl⟩
      · skip
        obtain ⟨k1, rfl⟩ : ∃ k1, k = k1 + 1 := by
          rcases Nat.eq_zero_or_pos k with hq1 | hq1
          · exfalso; subst hq1; subst hs; exact absurd (by decide) cq11
          · exact ⟨k - 1, by omega⟩
        have hs1 : s = nI k1 := by rw [hs, nI_pred]
        refine A_aload_n rfl dX8_counts_14 ?_
        refine A_getR fr_X8_9.g rfl lay_86 rfl dX8_counts_15 ?_
        refine A_bipush bp_66 dX8_counts_18 ?_
        refine A_iconst ic_2 dX8_counts_20 ?_
        refine A_iload_n rfl dX8_counts_21 ?_
        refine A_imul dX8_counts_22 ?_
        refine A_iadd dX8_counts_23 ?_
        refine A_iald (66 + 2 * k1) (by rw [hs1]; exact ix_tx k1) lay_87 (by omega) (by decide) dX8_counts_24 ?_
        refine A_sipush sp_1000 dX8_counts_25 ?_
        refine A_idiv dX8_counts_28 (by decide) ?_
        refine A_iload_n rfl dX8_counts_29 ?_
        refine A_icmp_ne 35 rfl dX8_counts_30 (fun cq30 => ?_) (fun cq30 => ?_)
        · skip
          refine A_iinc ic_m1 rfl (by decide) rfl dX8_counts_35 ?_
          refine A_goto 10 rfl dX8_counts_38 ?_
          exact ih k1 (by omega) k1 _ rfl (by omega) (by rw [hs1, Int32.sub_eq_add_neg]) (by rw [← hg, q_cntL, if_neg cq30])
        · skip
          refine A_iload_n rfl dX8_counts_33 ?_
          refine A_iret rfl rfl rfl rfl dX8_counts_34 ?_
          exact ⟨by rw [← hg, q_cntL, if_pos cq30, hs1], rfl, rfl⟩
  refine Meth.of (by decide +kernel) (by simp [Value.category]) (Nat.le_of_ble_eq_true rfl) ?_
  refine A_aload_n rfl dX8_counts_0 ?_
  refine A_getR fr_X8_9.g rfl lay_86 rfl dX8_counts_1 ?_
  refine A_bipush bp_7 dX8_counts_4 ?_
  refine A_iald 7 rfl lay_87 (by decide) (by decide) dX8_counts_6 ?_
  refine A_iconst ic_1 dX8_counts_7 ?_
  refine A_isub dX8_counts_8 ?_
  refine A_istore_n (by decide) rfl dX8_counts_9 ?_
  exact loop T T _ rfl (Nat.le_refl T) (by rw [hN7]) (by unfold q_cnt; rw [hN7, nI_clamp (by omega)])
/-- the texts of a row -/
def TxJ (N : Nrow) (T : Nat) : Prop := T ≤ 14 ∧ N 7 = nI T ∧ ∀ t, t < T → ∃ key len, key ≤ 2 ∧ N (66 + 2 * t) = nI (1000 * key + len) ∧ WfT (fun k => N (94 + 96 * t + k)) len (if key = 0 then 3 else 2)
theorem tx_div {key len : Nat} (hk : key ≤ 2) (hl : len ≤ 96) : nI (1000 * key + len) / 1000 = nI key ∧ irem (nI (1000 * key + len)) 1000 = nI len := by
  refine ⟨?_, ?_⟩
  · rw [show (1000 : Int32) = nI 1000 from rfl, pk_div (by omega) (by omega) (by omega)]
    congr 1
    omega
  · show nI (1000 * key + len) - nI (1000 * key + len) / 1000 * 1000 = _
    rw [show (1000 : Int32) = nI 1000 from rfl, pk_rem (by omega) (by omega) (by omega)]
    congr 1
    omega
theorem cntL_in {N : Nrow} {T : Nat} (h : TxJ N T) {ky : Nat} (hky : ky ≤ 2) : ∀ k, k ≤ T → q_cntL N (nI ky) k = -1 ∨ ∃ t, t < k ∧ q_cntL N (nI ky) k = nI t ∧ N (66 + 2 * t) / 1000 = nI ky
  | 0, _ => Or.inl rfl
  | k + 1, hk => by
    rw [q_cntL]
    split
    · rename_i hq
      exact Or.inr ⟨k, by omega, rfl, hq⟩
    · rcases cntL_in h hky k (by omega) with h1 | ⟨t, h1, h2, h3⟩
      · exact Or.inl h1
      · exact Or.inr ⟨t, by omega, h2, h3⟩
/-- the text that counts for a key, if there is one -/
theorem cnt_in {N : Nrow} {T : Nat} (h : TxJ N T) {ky : Nat} (hky : ky ≤ 2) : q_cnt N (nI ky) = -1 ∨ ∃ t len, t < T ∧ t < 14 ∧ q_cnt N (nI ky) = nI t ∧ N (66 + 2 * t) = nI (1000 * ky + len) ∧ irem (N (66 + 2 * t)) 1000 = nI len ∧ WfT (fun k => N (94 + 96 * t + k)) len (if ky = 0 then 3 else 2) := by
  unfold q_cnt
  rw [h.2.1, nI_clamp (by have := h.1; omega)]
  rcases cntL_in h hky T (Nat.le_refl T) with h1 | ⟨t, h1, h2, h3⟩
  · exact Or.inl h1
  · right
    obtain ⟨key, len, k1, k2, k3⟩ := h.2.2 t h1
    have hd := tx_div (key := key) (len := len) k1 k3.1
    rw [k2, hd.1] at h3
    have hkk : key = ky := (nI_eq (by omega) (by omega)).mp h3
    subst hkk
    exact ⟨t, len, h1, by have := h.1; omega, h2, k2, by rw [k2]; exact hd.2, k3⟩
set_option maxHeartbeats 1000000 in
set_option maxRecDepth 100000 in
theorem t_bel (l : Launch) (G : Gm) (I : Hp) (N : Nrow) (h87 : I 87 = N) (j : Nat) (hj : j < 10) (T : Nat) (hTx : TxJ N T) : Meth l G yX8_believesOf cX8_believesOf 7 (some (FieldType.int)) 3 0 0 [.ref 86, .int (nI j)] LAY I (fun r lay1 I1 => r = some (.int (q_bel N j)) ∧ lay1 = LAY ∧ ∀ q, q ≠ 97 → q ≠ 98 → I1 q = I q) := by
  subst h87
  have hT := hTx.1
  have hN7 := hTx.2.1
  have j133 : ∀ (w tt raw : Int32) (K : Hp), (q_hold raw = q_more (q_plain (I 87) j)) → (∀ q, q ≠ 97 → q ≠ 98 → K q = I q) → AW l G yX8_believesOf cX8_believesOf 7 (some (FieldType.int)) 3 0 0 (fun r lay1 I1 => r = some (.int (q_bel (I 87) j)) ∧ lay1 = LAY ∧ ∀ q, q ≠ 97 → q ≠ 98 → I1 q = I q) 0 0 133 [some (.ref 86), some (.int (nI j)), some (.int w), some (.int tt), some (.int (q_plain (I 87) j)), some (.int (q_less (q_plain (I 87) j) (I 87 (19 + 5 * j)))), none] [.int raw] LAY K := by
    intro w tt raw K hraw hfr
    refine A_iconst ic_0 dX8_believesOf_133 ?_
    refine A_bipush bp_100 dX8_believesOf_134 ?_
    refine A_callS (s_withinM l G _ _ _ _ _) m_X8_within ml_X8_111 rfl rfl rfl (Nat.le_of_ble_eq_true rfl) (by decide) (by decide) (by decide) dX8_believesOf_136 (fun _ _ _ h => congrArg List.length h.2.1) ?_
    rintro _ _ _ ⟨rfl, rfl, e9⟩
    refine AW_I e9 ?_
    clear e9
    rw [show (if raw < 0 then 0 else if 100 < raw then 100 else raw) = q_more (q_plain (I 87) j) from hraw]
    refine A_istore (by decide) rfl dX8_believesOf_139 ?_
    refine A_aload_n rfl dX8_believesOf_141 ?_
    refine A_iload_n rfl dX8_believesOf_142 ?_
    refine A_iconst ic_0 dX8_believesOf_143 ?_
    refine A_callV (t_of l G K _ (hfr 87 (by decide) (by decide)) j 0 (by omega)) m_X8_of ml_X8_94 rfl lay_86 rfl (by decide) rfl rfl (Nat.le_of_ble_eq_true rfl) (by decide) (by decide) (by decide) dX8_believesOf_144 (fun _ _ _ h => congrArg List.length h.2.1) ?_
    rintro _ _ _ ⟨rfl, rfl, e9⟩
    refine AW_I e9 ?_
    clear e9
    refine A_tsw 196 rfl dX8_believesOf_147 rfl (fun jsw off hjsw cq147 => ?_) (fun cq147 => ?_)
    · match jsw, hjsw, cq147 with
      | 0, hjsw, cq147 =>
        cases hjsw
        replace cq147 := i_eq cq147 (ic_1)
        refine ⟨176, rfl, ?_⟩
        refine A_iload rfl dX8_believesOf_176 ?_
        refine A_iret rfl rfl rfl rfl dX8_believesOf_178 ?_
        have hkd : I 87 (16 + 5 * j) = 1 := cq147
        refine ⟨congrArg (fun z => some (Value.int z)) ?_, rfl, hfr⟩
        unfold q_bel
        rw [if_pos hkd]
      | 1, hjsw, cq147 =>
        cases hjsw
        replace cq147 := i_eq cq147 (ic_2)
        refine ⟨179, rfl, ?_⟩
        refine A_iload rfl dX8_believesOf_179 ?_
        refine A_iret rfl rfl rfl rfl dX8_believesOf_181 ?_
        have hkd : I 87 (16 + 5 * j) = 2 := cq147
        refine ⟨congrArg (fun z => some (Value.int z)) ?_, rfl, hfr⟩
        unfold q_bel
        rw [if_neg (by rw [hkd]; decide), if_pos hkd]
      | 2, hjsw, cq147 =>
        cases hjsw
        replace cq147 := i_eq cq147 (ic_3)
        refine ⟨182, rfl, ?_⟩
        refine A_iload rfl dX8_believesOf_182 ?_
        refine A_bipush bp_50 dX8_believesOf_184 ?_
        refine A_iadd dX8_believesOf_186 ?_
        refine A_iconst ic_2 dX8_believesOf_187 ?_
        refine A_idiv dX8_believesOf_188 (by decide) ?_
        refine A_iret rfl rfl rfl rfl dX8_believesOf_189 ?_
        have hkd : I 87 (16 + 5 * j) = 3 := cq147
        refine ⟨congrArg (fun z => some (Value.int z)) ?_, rfl, hfr⟩
        unfold q_bel
        rw [if_neg (by rw [hkd]; decide), if_neg (by rw [hkd]; decide), if_pos hkd]
      | 3, hjsw, cq147 =>
        cases hjsw
        replace cq147 := i_eq cq147 (ic_4)
        refine ⟨190, rfl, ?_⟩
        refine A_bipush bp_100 dX8_believesOf_190 ?_
        refine A_iload rfl dX8_believesOf_192 ?_
        refine A_isub dX8_believesOf_194 ?_
        refine A_iret rfl rfl rfl rfl dX8_believesOf_195 ?_
        have hkd : I 87 (16 + 5 * j) = 4 := cq147
        refine ⟨congrArg (fun z => some (Value.int z)) ?_, rfl, hfr⟩
        unfold q_bel
        rw [if_neg (by rw [hkd]; decide), if_neg (by rw [hkd]; decide), if_neg (by rw [hkd]; decide), if_pos hkd]
      | jsw + 4, hjsw, _ => exact absurd hjsw (by simp)
    · skip
      refine A_iload rfl dX8_believesOf_196 ?_
      refine A_iret rfl rfl rfl rfl dX8_believesOf_198 ?_
      have hne : ∀ v : Int32, 1 ≤ v.toInt → v.toInt ≤ 4 → I 87 (16 + 5 * j) ≠ v := by
        intro v hv1 hv2 hv3
        have hq9 : (I 87 (16 + 5 * j)).toInt < 1 ∨ 4 < (I 87 (16 + 5 * j)).toInt := cq147
        rw [hv3] at hq9
        omega
      refine ⟨congrArg (fun z => some (Value.int z)) ?_, rfl, hfr⟩
      unfold q_bel
      rw [if_neg (hne 1 (by decide) (by decide)), if_neg (hne 2 (by decide) (by decide)), if_neg (hne 3 (by decide) (by decide)), if_neg (hne 4 (by decide) (by decide))]
  have j99 : ∀ (w tt ls : Int32) (K : Hp), (ls = q_less (q_plain (I 87) j) (I 87 (19 + 5 * j))) → (∀ q, q ≠ 97 → q ≠ 98 → K q = I q) → AW l G yX8_believesOf cX8_believesOf 7 (some (FieldType.int)) 3 0 0 (fun r lay1 I1 => r = some (.int (q_bel (I 87) j)) ∧ lay1 = LAY ∧ ∀ q, q ≠ 97 → q ≠ 98 → I1 q = I q) 0 0 99 [some (.ref 86), some (.int (nI j)), some (.int w), some (.int tt), some (.int (q_plain (I 87) j)), none, none] [.int ls] LAY K := by
    intro w tt ls K hls hfr
    subst hls
    refine A_istore (by decide) rfl dX8_believesOf_99 ?_
    refine A_iload rfl dX8_believesOf_101 ?_
    refine A_bipush bp_50 dX8_believesOf_103 ?_
    refine A_icmp_le 116 rfl dX8_believesOf_105 (fun cq105 => ?_) (fun cq105 => ?_)
    · skip
      refine A_iload rfl dX8_believesOf_116 ?_
      refine A_bipush bp_50 dX8_believesOf_118 ?_
      refine A_icmp_ge 131 rfl dX8_believesOf_120 (fun cq120 => ?_) (fun cq120 => ?_)
      · skip
        refine A_iload rfl dX8_believesOf_131 ?_
        refine j133 _ _ _ K ?_ hfr
        unfold q_more
        first | rw [if_pos (Int32.not_le.mp cq105)] | rw [if_neg (Int32.not_lt.mpr cq105), if_pos (Int32.not_le.mp cq120)] | rw [if_neg (Int32.not_lt.mpr cq105), if_neg (Int32.not_lt.mpr cq120)]
      · skip
        refine A_iload rfl dX8_believesOf_123 ?_
        refine A_bipush bp_10 dX8_believesOf_125 ?_
        refine A_isub dX8_believesOf_127 ?_
        refine A_goto 133 rfl dX8_believesOf_128 ?_
        refine j133 _ _ _ K ?_ hfr
        unfold q_more
        first | rw [if_pos (Int32.not_le.mp cq105)] | rw [if_neg (Int32.not_lt.mpr cq105), if_pos (Int32.not_le.mp cq120)] | rw [if_neg (Int32.not_lt.mpr cq105), if_neg (Int32.not_lt.mpr cq120)]
    · skip
      refine A_iload rfl dX8_believesOf_108 ?_
      refine A_bipush bp_10 dX8_believesOf_110 ?_
      refine A_iadd dX8_believesOf_112 ?_
      refine A_goto 133 rfl dX8_believesOf_113 ?_
      refine j133 _ _ _ K ?_ hfr
      unfold q_more
      first | rw [if_pos (Int32.not_le.mp cq105)] | rw [if_neg (Int32.not_lt.mpr cq105), if_pos (Int32.not_le.mp cq120)] | rw [if_neg (Int32.not_lt.mpr cq105), if_neg (Int32.not_lt.mpr cq120)]
  have j67 : ∀ (w tt v : Int32) (K : Hp), (q_hold v = (q_plain (I 87) j)) → (∀ q, q ≠ 97 → q ≠ 98 → K q = I q) → AW l G yX8_believesOf cX8_believesOf 7 (some (FieldType.int)) 3 0 0 (fun r lay1 I1 => r = some (.int (q_bel (I 87) j)) ∧ lay1 = LAY ∧ ∀ q, q ≠ 97 → q ≠ 98 → I1 q = I q) 0 0 67 [some (.ref 86), some (.int (nI j)), some (.int w), some (.int tt), none, none, none] [.int v] LAY K := by
    intro w tt v K hv hfr
    refine A_iconst ic_0 dX8_believesOf_67 ?_
    refine A_bipush bp_100 dX8_believesOf_68 ?_
    refine A_callS (s_withinM l G _ _ _ _ _) m_X8_within ml_X8_111 rfl rfl rfl (Nat.le_of_ble_eq_true rfl) (by decide) (by decide) (by decide) dX8_believesOf_70 (fun _ _ _ h => congrArg List.length h.2.1) ?_
    rintro _ _ _ ⟨rfl, rfl, e9⟩
    refine AW_I e9 ?_
    clear e9
    rw [show (if v < 0 then 0 else if 100 < v then 100 else v) = (q_plain (I 87) j) from hv]
    refine A_istore (by decide) rfl dX8_believesOf_73 ?_
    refine A_iload rfl dX8_believesOf_75 ?_
    refine A_aload_n rfl dX8_believesOf_77 ?_
    refine A_iload_n rfl dX8_believesOf_78 ?_
    refine A_iconst ic_3 dX8_believesOf_79 ?_
    refine A_callV (t_of l G K _ (hfr 87 (by decide) (by decide)) j 3 (by omega)) m_X8_of ml_X8_94 rfl lay_86 rfl (by decide) rfl rfl (Nat.le_of_ble_eq_true rfl) (by decide) (by decide) (by decide) dX8_believesOf_80 (fun _ _ _ h => congrArg List.length h.2.1) ?_
    rintro _ _ _ ⟨rfl, rfl, e9⟩
    refine AW_I e9 ?_
    clear e9
    refine A_icmp_ge 90 rfl dX8_believesOf_83 (fun cq83 => ?_) (fun cq83 => ?_)
    · skip
      refine A_iload rfl dX8_believesOf_90 ?_
      refine A_aload_n rfl dX8_believesOf_92 ?_
      refine A_iload_n rfl dX8_believesOf_93 ?_
      refine A_iconst ic_3 dX8_believesOf_94 ?_
      refine A_callV (t_of l G K _ (hfr 87 (by decide) (by decide)) j 3 (by omega)) m_X8_of ml_X8_94 rfl lay_86 rfl (by decide) rfl rfl (Nat.le_of_ble_eq_true rfl) (by decide) (by decide) (by decide) dX8_believesOf_95 (fun _ _ _ h => congrArg List.length h.2.1) ?_
      rintro _ _ _ ⟨rfl, rfl, e9⟩
      refine AW_I e9 ?_
      clear e9
      refine A_isub dX8_believesOf_98 ?_
      refine j99 _ _ _ K ?_ hfr
      unfold q_less
      first | exact (if_pos (Int32.not_le.mp cq83)).symm | exact (if_neg (Int32.not_lt.mpr cq83)).symm
    · skip
      refine A_iconst ic_0 dX8_believesOf_86 ?_
      refine A_goto 99 rfl dX8_believesOf_87 ?_
      refine j99 _ _ _ K ?_ hfr
      unfold q_less
      first | exact (if_pos (Int32.not_le.mp cq83)).symm | exact (if_neg (Int32.not_lt.mpr cq83)).symm
  refine Meth.of (by decide +kernel) (by simp [Value.category]) (Nat.le_of_ble_eq_true rfl) ?_
  refine A_aload_n rfl dX8_believesOf_0 ?_
  refine A_aload_n rfl dX8_believesOf_1 ?_
  refine A_iload_n rfl dX8_believesOf_2 ?_
  refine A_iconst ic_2 dX8_believesOf_3 ?_
  refine A_callV (t_of l G I _ rfl j 2 (by omega)) m_X8_of ml_X8_94 rfl lay_86 rfl (by decide) rfl rfl (Nat.le_of_ble_eq_true rfl) (by decide) (by decide) (by decide) dX8_believesOf_4 (fun _ _ _ h => congrArg List.length h.2.1) ?_
  rintro _ _ _ ⟨rfl, rfl, e9⟩
  refine AW_I e9 ?_
  clear e9
  refine A_callV (t_weight l G I _ rfl _) m_X8_weightOf ml_X8_98 rfl lay_86 rfl (by decide) rfl rfl (Nat.le_of_ble_eq_true rfl) (by decide) (by decide) (by decide) dX8_believesOf_7 (fun _ _ _ h => congrArg List.length h.2.1) ?_
  rintro _ _ _ ⟨rfl, rfl, e9⟩
  refine AW_I e9 ?_
  clear e9
  refine A_istore_n (by decide) rfl dX8_believesOf_10 ?_
  refine A_aload_n rfl dX8_believesOf_11 ?_
  refine A_iconst ic_0 dX8_believesOf_12 ?_
  refine A_callV (t_cnt l G I _ rfl T hT hN7 0) m_X8_counts ml_X8_102 rfl lay_86 rfl (by decide) rfl rfl (Nat.le_of_ble_eq_true rfl) (by decide) (by decide) (by decide) dX8_believesOf_13 (fun _ _ _ h => congrArg List.length h.2.1) ?_
  rintro _ _ _ ⟨rfl, rfl, e9⟩
  refine AW_I e9 ?_
  clear e9
  refine A_istore_n (by decide) rfl dX8_believesOf_16 ?_
  refine A_aload_n rfl dX8_believesOf_17 ?_
  refine A_getR fr_X8_49.g rfl lay_86 rfl dX8_believesOf_18 ?_
  refine A_iconst ic_0 dX8_believesOf_21 ?_
  refine A_aload_n rfl dX8_believesOf_22 ?_
  refine A_iload_n rfl dX8_believesOf_23 ?_
  refine A_iconst ic_2 dX8_believesOf_24 ?_
  refine A_callV (t_of l G I _ rfl j 2 (by omega)) m_X8_of ml_X8_94 rfl lay_86 rfl (by decide) rfl rfl (Nat.le_of_ble_eq_true rfl) (by decide) (by decide) (by decide) dX8_believesOf_25 (fun _ _ _ h => congrArg List.length h.2.1) ?_
  rintro _ _ _ ⟨rfl, rfl, e9⟩
  refine AW_I e9 ?_
  clear e9
  refine A_callS (t_bits l G _ _ _) m_X8_bitsOf ml_X8_105 rfl rfl rfl (Nat.le_of_ble_eq_true rfl) (by decide) (by decide) (by decide) dX8_believesOf_28 (fun _ _ _ h => congrArg List.length h.2.1) ?_
  rintro _ _ _ ⟨rfl, rfl, e9⟩
  refine AW_I e9 ?_
  clear e9
  refine A_iast 0 rfl lay_98 (by decide) (by decide) dX8_believesOf_31 ?_
  refine A_aload_n rfl dX8_believesOf_32 ?_
  refine A_getR fr_X8_49.g rfl lay_86 rfl dX8_believesOf_33 ?_
  refine A_iconst ic_1 dX8_believesOf_36 ?_
  refine A_iload_n rfl dX8_believesOf_37 ?_
  refine A_iast 1 rfl lay_98 (by decide) (by decide) dX8_believesOf_38 ?_
  refine A_aload_n rfl dX8_believesOf_39 ?_
  refine A_getR fr_X8_49.g rfl lay_86 rfl dX8_believesOf_40 ?_
  refine A_iconst ic_2 dX8_believesOf_43 ?_
  refine A_aload_n rfl dX8_believesOf_44 ?_
  refine A_iload_n rfl dX8_believesOf_45 ?_
  refine A_iconst ic_3 dX8_believesOf_46 ?_
  refine A_callV (t_of l G _ (I 87) (by rw [up2_ne (by decide), up2_ne (by decide)]) j 3 (by omega)) m_X8_of ml_X8_94 rfl lay_86 rfl (by decide) rfl rfl (Nat.le_of_ble_eq_true rfl) (by decide) (by decide) (by decide) dX8_believesOf_47 (fun _ _ _ h => congrArg List.length h.2.1) ?_
  rintro _ _ _ ⟨rfl, rfl, e9⟩
  refine AW_I e9 ?_
  clear e9
  refine A_iast 2 rfl lay_98 (by decide) (by decide) dX8_believesOf_50 ?_
  refine A_iload_n rfl dX8_believesOf_51 ?_
  refine A_if_ge 62 rfl dX8_believesOf_52 (fun cq52 => ?_) (fun cq52 => ?_)
  · skip
    rcases cnt_in hTx (ky := 0) (by decide) with hc | ⟨t, len, ht1, ht2, hc, hn0, hir, hwf⟩
    · exfalso; rw [show q_cnt (I 87) 0 = -1 from hc] at cq52; exact absurd cq52 (by decide)
    rw [show q_cnt (I 87) 0 = nI t from hc] at cq52 ⊢
    have hnm : ∀ i, i < 3 → (up2 (up2 (up2 I 98 0 (q_bits (I 87 (18 + 5 * j)) 8)) 98 1 (q_wt (I 87) (I 87 (18 + 5 * j)) 8)) 98 2 (I 87 (19 + 5 * j))) 98 i = q_nm (q_bits (I 87 (18 + 5 * j)) 8) (q_wt (I 87) (I 87 (18 + 5 * j)) 8) (I 87 (19 + 5 * j)) i := by
      intro i hi
      rcases (show i = 0 ∨ i = 1 ∨ i = 2 by omega) with rfl | rfl | rfl
      · rw [up2_ni (by decide), up2_ni (by decide), up2_same]; rfl
      · rw [up2_ni (by decide), up2_same]; rfl
      · rw [up2_same]; rfl
    refine A_aload_n rfl dX8_believesOf_62 ?_
    refine A_iload_n rfl dX8_believesOf_63 ?_
    refine A_callV (t_wo l G _ (fun k => I 87 (94 + 96 * t + k)) (q_nm (q_bits (I 87 (18 + 5 * j)) 8) (q_wt (I 87) (I 87 (18 + 5 * j)) 8) (I 87 (19 + 5 * j))) t len 3 ht2 (fun k => by rw [up2_ne (by decide), up2_ne (by decide), up2_ne (by decide)]) (by rw [up2_ne (by decide), up2_ne (by decide), up2_ne (by decide)]; exact hir) hwf (by decide) hnm) m_X8_worksOut ml_X8_108 rfl lay_86 rfl (by decide) rfl rfl (Nat.le_of_ble_eq_true rfl) (by decide) (by decide) (by decide) dX8_believesOf_64 (fun _ _ _ hqq => congrArg List.length hqq.2.1) ?_
    rintro _ _ K2 ⟨rfl, rfl, hf2⟩
    first
      | (have h7 : ¬ 0 ≤ q_cnt (I 87) 0 := cq52; refine j67 _ _ _ _ ?_ (fun q h1 h2 => by rw [up2_ne h2, up2_ne h2, up2_ne h2]); unfold q_plain; rw [if_pos (Int32.not_le.mp h7)])
      | (refine j67 _ _ _ _ ?_ (fun q h1 h2 => (hf2 q h1).trans (by rw [up2_ne h2, up2_ne h2, up2_ne h2])); unfold q_plain; rw [show q_cnt (I 87) 0 = nI t from hc, if_neg (Int32.not_lt.mpr cq52), nI_clamp (by omega)]; unfold q_text; rw [hir, nI_clamp (by have := hwf.1; omega)]; rfl)
  · skip
    refine A_bipush bp_50 dX8_believesOf_55 ?_
    refine A_iload_n rfl dX8_believesOf_57 ?_
    refine A_iadd dX8_believesOf_58 ?_
    refine A_goto 67 rfl dX8_believesOf_59 ?_
    first
      | (have h7 : ¬ 0 ≤ q_cnt (I 87) 0 := cq52; refine j67 _ _ _ _ ?_ (fun q h1 h2 => by rw [up2_ne h2, up2_ne h2, up2_ne h2]); unfold q_plain; rw [if_pos (Int32.not_le.mp h7)])
      | (refine j67 _ _ _ _ ?_ (fun q h1 h2 => (hf2 q h1).trans (by rw [up2_ne h2, up2_ne h2, up2_ne h2])); unfold q_plain; rw [show q_cnt (I 87) 0 = nI t from hc, if_neg (Int32.not_lt.mpr cq52), nI_clamp (by omega)]; unfold q_text; rw [hir, nI_clamp (by have := hwf.1; omega)]; rfl)
set_option maxHeartbeats 1000000 in
set_option maxRecDepth 100000 in
theorem t_gui (l : Launch) (G : Gm) (I : Hp) (N : Nrow) (h87 : I 87 = N) (j : Nat) (hj : j < 10) (T : Nat) (hTx : TxJ N T) : Meth l G yX8_isGuilty cX8_isGuilty 2 (some (FieldType.boolean)) 4 0 0 [.ref 86, .int (nI j)] LAY I (fun r lay1 I1 => r = some (.int (b2i (q_gui N j))) ∧ lay1 = LAY ∧ ∀ q, q ≠ 97 → q ≠ 98 → I1 q = I q) := by
  subst h87
  refine Meth.of (by decide +kernel) (by simp [Value.category]) (Nat.le_of_ble_eq_true rfl) ?_
  refine A_aload_n rfl dX8_isGuilty_0 ?_
  refine A_iload_n rfl dX8_isGuilty_1 ?_
  refine A_callV (t_bel l G I _ rfl j hj T hTx) m_X8_believesOf ml_X8_115 rfl lay_86 rfl (by decide) rfl rfl (Nat.le_of_ble_eq_true rfl) (by decide) (by decide) (by decide) dX8_isGuilty_2 (fun _ _ _ hqq => congrArg List.length hqq.2.1) ?_
  rintro _ _ K2 ⟨rfl, rfl, hf2⟩
  refine A_aload_n rfl dX8_isGuilty_5 ?_
  refine A_getR fr_X8_9.g rfl lay_86 rfl dX8_isGuilty_6 ?_
  refine A_iconst ic_3 dX8_isGuilty_9 ?_
  refine A_iald 3 rfl lay_87 (by decide) (by decide) dX8_isGuilty_10 ?_
  refine A_icmp_lt 18 rfl dX8_isGuilty_11 (fun cq11 => ?_) (fun cq11 => ?_)
  · skip
    refine A_iconst ic_0 dX8_isGuilty_18 ?_
    refine A_iret rfl rfl rfl rfl dX8_isGuilty_19 ?_
    refine ⟨?_, rfl, hf2⟩
    rw [hf2 87 (by decide) (by decide)] at cq11
    unfold q_gui
    first | rw [b2i_ff (Int32.not_le.mpr cq11)] | rw [b2i_tt (Int32.not_lt.mp cq11)]
  · skip
    refine A_iconst ic_1 dX8_isGuilty_14 ?_
    refine A_goto 19 rfl dX8_isGuilty_15 ?_
    refine A_iret rfl rfl rfl rfl dX8_isGuilty_19 ?_
    refine ⟨?_, rfl, hf2⟩
    rw [hf2 87 (by decide) (by decide)] at cq11
    unfold q_gui
    first | rw [b2i_ff (Int32.not_le.mpr cq11)] | rw [b2i_tt (Int32.not_lt.mp cq11)]
set_option maxHeartbeats 1000000 in
set_option maxRecDepth 100000 in
theorem t_vo (l : Launch) (G : Gm) (I : Hp) (N : Nrow) (h87 : I 87 = N) (n : Nat) (hn : n ≤ 10) (hN : N 1 = nI n) (T : Nat) (hTx : TxJ N T) : Meth l G yX8_votes cX8_votes 3 (some (FieldType.int)) 5 0 0 [.ref 86] LAY I (fun r lay1 I1 => r = some (.int (q_vo N n)) ∧ lay1 = LAY ∧ ∀ q, q ≠ 97 → q ≠ 98 → I1 q = I q) := by
  subst h87
  have loop : ∀ (lpn : Nat) (k : Nat) (x s : Int32) (K : Hp), n - k = lpn → (k ≤ n) → (x = nI k) → (s = q_vo (I 87) k) → (∀ q, q ≠ 97 → q ≠ 98 → K q = I q) → AW l G yX8_votes cX8_votes 3 (some (FieldType.int)) 5 0 0 (fun r lay1 I1 => r = some (.int (q_vo (I 87) n)) ∧ lay1 = LAY ∧ ∀ q, q ≠ 97 → q ≠ 98 → I1 q = I q) 0 0 4 [some (.ref 86), some (.int s), some (.int x)] [] LAY K := by
    intro lpn
    induction lpn using Nat.strongRecOn with
    | _ lpn ih =>
      intro k x s K hms hk hx hs hfr
      subst hx
      have h87k : K 87 = I 87 := hfr 87 (by decide) (by decide)
      have hsz : K 87 1 = nI n := by rw [h87k]; exact hN
      refine A_iload_n rfl dX8_votes_4 ?_
      refine A_aload_n rfl dX8_votes_5 ?_
      refine A_getR fr_X8_9.g rfl lay_86 rfl dX8_votes_6 ?_
      refine A_iconst ic_1 dX8_votes_9 ?_
      refine A_iald 1 rfl lay_87 (by decide) (by decide) dX8_votes_10 ?_
      refine A_icmp_ge 36 rfl dX8_votes_11 (fun cq11 => ?_) (fun cq11 => ?_)
      · skip
        have hkn := (le_nI hsz rfl (by omega) (by omega)).mp cq11
        have hke : k = n := by omega
        subst hke
        refine A_iload_n rfl dX8_votes_36 ?_
        refine A_iret rfl rfl rfl rfl dX8_votes_37 ?_
        exact ⟨by rw [hs], rfl, hfr⟩
      · skip
        have hkn : k < n := by
          have hq1 := mt (le_nI hsz (rfl : nI k = nI k) (by omega) (by omega)).mpr cq11
          omega
        refine A_iload_n rfl dX8_votes_14 ?_
        refine A_aload_n rfl dX8_votes_15 ?_
        refine A_iload_n rfl dX8_votes_16 ?_
        refine A_callV (t_gui l G K _ h87k k (by omega) T hTx) m_X8_isGuilty ml_X8_122 rfl lay_86 rfl (by decide) rfl rfl (Nat.le_of_ble_eq_true rfl) (by decide) (by decide) (by decide) dX8_votes_17 (fun _ _ _ hqq => congrArg List.length hqq.2.1) ?_
        rintro _ _ K2 ⟨rfl, rfl, hf2⟩
        refine A_if_eq 27 rfl dX8_votes_20 (fun cq20 => ?_) (fun cq20 => ?_)
        · skip
          refine A_iconst ic_0 dX8_votes_27 ?_
          refine A_iadd dX8_votes_28 ?_
          refine A_istore_n (by decide) rfl dX8_votes_29 ?_
          refine A_iinc ic_1 rfl (by decide) rfl dX8_votes_30 ?_
          refine A_goto 4 rfl dX8_votes_33 ?_
          refine ih (n - (k + 1)) (by omega) (k + 1) _ _ _ rfl (by omega) (nI_1 k) ?_ (fun q h1 h2 => (hf2 q h1 h2).trans (hfr q h1 h2))
          rw [hs, q_vo]
          first | (have h7 := b2i_0.mp cq20; rw [h7]; rfl) | (have h7 := b2i_1.mp cq20; rw [h7]; rfl)
        · skip
          refine A_iconst ic_1 dX8_votes_23 ?_
          refine A_goto 28 rfl dX8_votes_24 ?_
          refine A_iadd dX8_votes_28 ?_
          refine A_istore_n (by decide) rfl dX8_votes_29 ?_
          refine A_iinc ic_1 rfl (by decide) rfl dX8_votes_30 ?_
          refine A_goto 4 rfl dX8_votes_33 ?_
          refine ih (n - (k + 1)) (by omega) (k + 1) _ _ _ rfl (by omega) (nI_1 k) ?_ (fun q h1 h2 => (hf2 q h1 h2).trans (hfr q h1 h2))
          rw [hs, q_vo]
          first | (have h7 := b2i_0.mp cq20; rw [h7]; rfl) | (have h7 := b2i_1.mp cq20; rw [h7]; rfl)
  refine Meth.of (by decide +kernel) (by simp [Value.category]) (Nat.le_of_ble_eq_true rfl) ?_
  refine A_iconst ic_0 dX8_votes_0 ?_
  refine A_istore_n (by decide) rfl dX8_votes_1 ?_
  refine A_iconst ic_0 dX8_votes_2 ?_
  refine A_istore_n (by decide) rfl dX8_votes_3 ?_
  exact loop n 0 _ _ I (by omega) (by omega) nI_0.symm rfl (fun _ _ _ => rfl)
