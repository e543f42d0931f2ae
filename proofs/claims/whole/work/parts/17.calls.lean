theorem j36 : isJ 36 := Or.inl rfl
theorem j44 : isJ 44 := Or.inr (Or.inl rfl)
theorem j52 : isJ 52 := Or.inr (Or.inr rfl)
theorem jur_get {n : Nat} (hn : n ≤ 10) {x v : Int32} (hx : x = nI n) (h : 0 ≤ v ∧ v < x) : ∃ i, i < n ∧ v = nI i := by
  subst hx
  obtain ⟨i, hi1, hi2⟩ := nI_of (Int32.not_lt.mpr h.1)
  subst hi2
  exact ⟨i, (nI_ltI hi1 (by omega)).mp h.2, rfl⟩
theorem in_get {a : Nat} {v M : Int32} (hM : M.toInt = a) (h : 0 ≤ v ∧ v ≤ M) : ∃ i, i ≤ a ∧ v = nI i := nI_of2 hM (Int32.not_lt.mpr h.1) h.2
/-- a change of the jury that is now, and of nothing else -/
def NowC (I I1 : Hp) (N1 : Nrow) : Prop := RepJ I1 36 N1 ∧ ∀ k, (k < 36 ∨ 44 ≤ k) → I1 k = I k
theorem NowC.rf {I : Hp} {N : Nrow} (h : RepJ I 36 N) : NowC I I N := ⟨h, fun _ _ => rfl⟩
theorem fr_up {I : Hp} {a i : Nat} {x : Int32} (h1 : 36 ≤ a) (h2 : a < 44) : ∀ k, (k < 36 ∨ 44 ≤ k) → up2 I a i x k = I k := fun k hk => up2_ne (by omega)
set_option maxHeartbeats 1000000 in
set_option maxRecDepth 100000 in
theorem s_exch (l : Launch) (G : Gm) (I : Hp) (a len i : Nat) (v : Int32) (hla : LAY[a]? = some (9, len, [])) (hi : i < len) (hl : len < 2 ^ 31) : Meth l G yX7_exchange cX7_exchange 4 (some (FieldType.int)) 1 0 0 [.ref a, .int (nI i), .int v] LAY I (fun r lay1 I1 => r = some (.int (I a i)) ∧ lay1 = LAY ∧ I1 = up2 I a i v) := by
  refine Meth.of (by decide +kernel) (by simp [Value.category]) (Nat.le_of_ble_eq_true rfl) ?_
  refine A_aload_n rfl dX7_exchange_0 ?_
  refine A_iload_n rfl dX7_exchange_1 ?_
  refine A_iald _ rfl hla hi hl dX7_exchange_2 ?_
  refine A_istore_n (by decide) rfl dX7_exchange_3 ?_
  refine A_aload_n rfl dX7_exchange_4 ?_
  refine A_iload_n rfl dX7_exchange_5 ?_
  refine A_iload_n rfl dX7_exchange_6 ?_
  refine A_iast _ rfl hla hi hl dX7_exchange_7 ?_
  refine A_iload_n rfl dX7_exchange_8 ?_
  refine A_iret rfl rfl rfl rfl dX7_exchange_9 ?_
  exact ⟨rfl, rfl, rfl⟩
def f_juror (n : Nat) (a b c : Int32) : Int32 := if (0 ≤ a ∧ a ≤ 5) ∧ (0 ≤ b ∧ b ≤ 1) ∧ (0 ≤ c ∧ c ≤ 40) then (if n = 10 then -1000000003 else nI n) else -1000000001
def n_juror (N : Nrow) (n : Nat) (a b c : Int32) : Nrow := if (0 ≤ a ∧ a ≤ 5) ∧ (0 ≤ b ∧ b ≤ 1) ∧ (0 ≤ c ∧ c ≤ 40) then (if n = 10 then N else q_add N n a b 0 c) else N
set_option maxHeartbeats 1000000 in
set_option maxRecDepth 100000 in
theorem c_juror (l : Launch) (G : Gm) (I : Hp) (N : Nrow) (n : Nat) (hn : n ≤ 10) (hN : N 1 = nI n) (hR : RepJ I 36 N) (a b c : Int32) : Meth l G yX7_juror cX7_juror 4 (some (FieldType.int)) 3 0 0 [.ref 0, .int a, .int b, .int c] LAY I (fun r lay1 I1 => r = some (.int (f_juror n a b c)) ∧ lay1 = LAY ∧ NowC I I1 (n_juror N n a b c)) := by
  have hsz : I 36 8 = nI n := hR.1.1.trans hN
  refine Meth.of (by decide +kernel) (by simp [Value.category]) (Nat.le_of_ble_eq_true rfl) ?_
  refine A_iload_n rfl dX7_juror_0 ?_
  refine A_iconst ic_0 dX7_juror_1 ?_
  refine A_iconst ic_5 dX7_juror_2 ?_
  refine A_callS (s_within l G _ _ _ _ _) m_X7_within ml_X7_56 rfl rfl rfl (Nat.le_of_ble_eq_true rfl) (by decide) (by decide) (by decide) dX7_juror_3 (fun _ _ _ h => congrArg List.length h.2.1) ?_
  rintro _ _ _ ⟨rfl, rfl, e9⟩
  refine AW_I e9 ?_
  clear e9
  refine A_if_eq 28 rfl dX7_juror_6 (fun cq6 => ?_) (fun cq6 => ?_)
  · skip
    refine A_ldc kc_X7_60 rfl dX7_juror_28 ?_
    refine A_iret rfl rfl rfl rfl dX7_juror_30 ?_
    have hno : ¬ ((0 ≤ a ∧ a ≤ 5) ∧ (0 ≤ b ∧ b ≤ 1) ∧ (0 ≤ c ∧ c ≤ 40)) := by
      first
        | (have h7 := b2i_q.mp cq6; exact fun h9 => h7 h9.1)
        | (have h7 := b2i_q.mp cq15; exact fun h9 => h7 h9.2.1)
        | (have h7 := b2i_q.mp cq25; exact fun h9 => h7 h9.2.2)
    exact ⟨by rw [f_juror, if_neg hno], rfl, by rw [n_juror, if_neg hno]; exact NowC.rf hR⟩
  · skip
    refine A_iload_n rfl dX7_juror_9 ?_
    refine A_iconst ic_0 dX7_juror_10 ?_
    refine A_iconst ic_1 dX7_juror_11 ?_
    refine A_callS (s_within l G _ _ _ _ _) m_X7_within ml_X7_56 rfl rfl rfl (Nat.le_of_ble_eq_true rfl) (by decide) (by decide) (by decide) dX7_juror_12 (fun _ _ _ h => congrArg List.length h.2.1) ?_
    rintro _ _ _ ⟨rfl, rfl, e9⟩
    refine AW_I e9 ?_
    clear e9
    refine A_if_eq 28 rfl dX7_juror_15 (fun cq15 => ?_) (fun cq15 => ?_)
    · skip
      refine A_ldc kc_X7_60 rfl dX7_juror_28 ?_
      refine A_iret rfl rfl rfl rfl dX7_juror_30 ?_
      have hno : ¬ ((0 ≤ a ∧ a ≤ 5) ∧ (0 ≤ b ∧ b ≤ 1) ∧ (0 ≤ c ∧ c ≤ 40)) := by
        first
          | (have h7 := b2i_q.mp cq6; exact fun h9 => h7 h9.1)
          | (have h7 := b2i_q.mp cq15; exact fun h9 => h7 h9.2.1)
          | (have h7 := b2i_q.mp cq25; exact fun h9 => h7 h9.2.2)
      exact ⟨by rw [f_juror, if_neg hno], rfl, by rw [n_juror, if_neg hno]; exact NowC.rf hR⟩
    · skip
      refine A_iload_n rfl dX7_juror_18 ?_
      refine A_iconst ic_0 dX7_juror_19 ?_
      refine A_bipush bp_40 dX7_juror_20 ?_
      refine A_callS (s_within l G _ _ _ _ _) m_X7_within ml_X7_56 rfl rfl rfl (Nat.le_of_ble_eq_true rfl) (by decide) (by decide) (by decide) dX7_juror_22 (fun _ _ _ h => congrArg List.length h.2.1) ?_
      rintro _ _ _ ⟨rfl, rfl, e9⟩
      refine AW_I e9 ?_
      clear e9
      refine A_if_ne 31 rfl dX7_juror_25 (fun cq25 => ?_) (fun cq25 => ?_)
      · skip
        have hok : (0 ≤ a ∧ a ≤ 5) ∧ (0 ≤ b ∧ b ≤ 1) ∧ (0 ≤ c ∧ c ≤ 40) := ⟨b2i_p.mp cq6, b2i_p.mp cq15, b2i_p.mp cq25⟩
        refine A_aload_n rfl dX7_juror_31 ?_
        refine A_getR fr_X7_28.g rfl lay_0 rfl dX7_juror_32 ?_
        refine A_getI fr_X7_61.g rfl (lj j36) dX7_juror_35 ?_
        refine A_bipush bp_10 dX7_juror_38 ?_
        refine A_icmp_lt 46 rfl dX7_juror_40 (fun cq40 => ?_) (fun cq40 => ?_)
        · skip
          have hlt : n < 10 := (lt_nI hsz (show (10 : Int32) = nI 10 from rfl) (by omega) (by omega)).mp cq40
          refine A_aload_n rfl dX7_juror_46 ?_
          refine A_getR fr_X7_28.g rfl lay_0 rfl dX7_juror_47 ?_
          refine A_iload_n rfl dX7_juror_50 ?_
          refine A_iload_n rfl dX7_juror_51 ?_
          refine A_iconst ic_0 dX7_juror_52 ?_
          refine A_iload_n rfl dX7_juror_53 ?_
          refine A_callV (s_add l G 36 j36 I N n hlt hN hR a b 0 c) m_X0_add ml_X7_66 rfl (lj j36) rfl (by decide) rfl rfl (Nat.le_of_ble_eq_true rfl) (by decide) (by decide) (by decide) dX7_juror_54 (fun _ _ _ hqq => congrArg List.length hqq.2.1) ?_
          rintro _ _ K2 ⟨rfl, rfl, hR2, hf2⟩
          refine A_aload_n rfl dX7_juror_57 ?_
          refine A_getR fr_X7_28.g rfl lay_0 rfl dX7_juror_58 ?_
          refine A_getI fr_X7_61.g rfl (lj j36) dX7_juror_61 ?_
          refine A_iconst ic_1 dX7_juror_64 ?_
          refine A_isub dX7_juror_65 ?_
          refine A_iret rfl rfl rfl rfl dX7_juror_66 ?_
          refine ⟨?_, rfl, ?_⟩
          · have h8 : K2 36 8 = nI n + 1 := by rw [hR2.1.1, q_add, upd_s, hN]
            rw [h8, f_juror, if_pos hok, if_neg (by omega), nI_1, nI_pred]
          · rw [n_juror, if_pos hok, if_neg (by omega)]
            exact ⟨hR2, hf2⟩
        · skip
          refine A_ldc kc_X7_65 rfl dX7_juror_43 ?_
          refine A_iret rfl rfl rfl rfl dX7_juror_45 ?_
          have hn10 : n = 10 := by
            have hq1 := mt (lt_nI hsz (show (10 : Int32) = nI 10 from rfl) (by omega) (by omega)).mpr cq40
            omega
          exact ⟨by rw [f_juror, if_pos hok, if_pos hn10], rfl, by rw [n_juror, if_pos hok, if_pos hn10]; exact NowC.rf hR⟩
      · skip
        refine A_ldc kc_X7_60 rfl dX7_juror_28 ?_
        refine A_iret rfl rfl rfl rfl dX7_juror_30 ?_
        have hno : ¬ ((0 ≤ a ∧ a ≤ 5) ∧ (0 ≤ b ∧ b ≤ 1) ∧ (0 ≤ c ∧ c ≤ 40)) := by
          first
            | (have h7 := b2i_q.mp cq6; exact fun h9 => h7 h9.1)
            | (have h7 := b2i_q.mp cq15; exact fun h9 => h7 h9.2.1)
            | (have h7 := b2i_q.mp cq25; exact fun h9 => h7 h9.2.2)
        exact ⟨by rw [f_juror, if_neg hno], rfl, by rw [n_juror, if_neg hno]; exact NowC.rf hR⟩
set_option maxHeartbeats 1000000 in
set_option maxRecDepth 100000 in
theorem m_juror (l : Launch) (G : Gm) (I : Hp) (N : Nrow) (h87 : I 87 = N) (n : Nat) (hn : n ≤ 10) (hN : N 1 = nI n) (a b c : Int32) : Meth l G yX8_juror cX8_juror 4 (some (FieldType.int)) 3 0 0 [.ref 86, .int a, .int b, .int c] LAY I (fun r lay1 I1 => r = some (.int (f_juror n a b c)) ∧ lay1 = LAY ∧ I1 = setN I (n_juror N n a b c)) := by
  subst h87
  refine Meth.of (by decide +kernel) (by simp [Value.category]) (Nat.le_of_ble_eq_true rfl) ?_
  refine A_iload_n rfl dX8_juror_0 ?_
  refine A_iconst ic_0 dX8_juror_1 ?_
  refine A_iconst ic_5 dX8_juror_2 ?_
  refine A_callS (s_in l G _ _ _ _ _) m_X8_in ml_X8_80 rfl rfl rfl (Nat.le_of_ble_eq_true rfl) (by decide) (by decide) (by decide) dX8_juror_3 (fun _ _ _ h => congrArg List.length h.2.1) ?_
  rintro _ _ _ ⟨rfl, rfl, e9⟩
  refine AW_I e9 ?_
  clear e9
  refine A_if_eq 28 rfl dX8_juror_6 (fun cq6 => ?_) (fun cq6 => ?_)
  · skip
    refine A_ldc kc_X8_88 rfl dX8_juror_28 ?_
    refine A_iret rfl rfl rfl rfl dX8_juror_30 ?_
    have hno : ¬ ((0 ≤ a ∧ a ≤ 5) ∧ (0 ≤ b ∧ b ≤ 1) ∧ (0 ≤ c ∧ c ≤ 40)) := by
      first
        | (have h7 := b2i_q.mp cq6; exact fun h9 => h7 h9.1)
        | (have h7 := b2i_q.mp cq15; exact fun h9 => h7 h9.2.1)
        | (have h7 := b2i_q.mp cq25; exact fun h9 => h7 h9.2.2)
    exact ⟨by rw [f_juror, if_neg hno], rfl, by rw [n_juror, if_neg hno, setN_self]⟩
  · skip
    refine A_iload_n rfl dX8_juror_9 ?_
    refine A_iconst ic_0 dX8_juror_10 ?_
    refine A_iconst ic_1 dX8_juror_11 ?_
    refine A_callS (s_in l G _ _ _ _ _) m_X8_in ml_X8_80 rfl rfl rfl (Nat.le_of_ble_eq_true rfl) (by decide) (by decide) (by decide) dX8_juror_12 (fun _ _ _ h => congrArg List.length h.2.1) ?_
    rintro _ _ _ ⟨rfl, rfl, e9⟩
    refine AW_I e9 ?_
    clear e9
    refine A_if_eq 28 rfl dX8_juror_15 (fun cq15 => ?_) (fun cq15 => ?_)
    · skip
      refine A_ldc kc_X8_88 rfl dX8_juror_28 ?_
      refine A_iret rfl rfl rfl rfl dX8_juror_30 ?_
      have hno : ¬ ((0 ≤ a ∧ a ≤ 5) ∧ (0 ≤ b ∧ b ≤ 1) ∧ (0 ≤ c ∧ c ≤ 40)) := by
        first
          | (have h7 := b2i_q.mp cq6; exact fun h9 => h7 h9.1)
          | (have h7 := b2i_q.mp cq15; exact fun h9 => h7 h9.2.1)
          | (have h7 := b2i_q.mp cq25; exact fun h9 => h7 h9.2.2)
      exact ⟨by rw [f_juror, if_neg hno], rfl, by rw [n_juror, if_neg hno, setN_self]⟩
    · skip
      refine A_iload_n rfl dX8_juror_18 ?_
      refine A_iconst ic_0 dX8_juror_19 ?_
      refine A_bipush bp_40 dX8_juror_20 ?_
      refine A_callS (s_in l G _ _ _ _ _) m_X8_in ml_X8_80 rfl rfl rfl (Nat.le_of_ble_eq_true rfl) (by decide) (by decide) (by decide) dX8_juror_22 (fun _ _ _ h => congrArg List.length h.2.1) ?_
      rintro _ _ _ ⟨rfl, rfl, e9⟩
      refine AW_I e9 ?_
      clear e9
      refine A_if_ne 31 rfl dX8_juror_25 (fun cq25 => ?_) (fun cq25 => ?_)
      · skip
        have hok : (0 ≤ a ∧ a ≤ 5) ∧ (0 ≤ b ∧ b ≤ 1) ∧ (0 ≤ c ∧ c ≤ 40) := ⟨b2i_p.mp cq6, b2i_p.mp cq15, b2i_p.mp cq25⟩
        refine A_aload_n rfl dX8_juror_31 ?_
        refine A_getR fr_X8_9.g rfl lay_86 rfl dX8_juror_32 ?_
        refine A_iconst ic_1 dX8_juror_35 ?_
        refine A_iald 1 rfl lay_87 (by decide) (by decide) dX8_juror_36 ?_
        refine A_bipush bp_10 dX8_juror_37 ?_
        refine A_icmp_ne 47 rfl dX8_juror_39 (fun cq39 => ?_) (fun cq39 => ?_)
        · skip
          have hlt : n ≠ 10 := fun h9 => cq39 ((eq_nI hN (show (10 : Int32) = nI 10 from rfl) (by omega) (by omega)).mpr h9)
          refine A_aload_n rfl dX8_juror_47 ?_
          refine A_iload_n rfl dX8_juror_48 ?_
          refine A_iload_n rfl dX8_juror_49 ?_
          refine A_iconst ic_0 dX8_juror_50 ?_
          refine A_iload_n rfl dX8_juror_51 ?_
          refine A_callV (t_comes l G I _ rfl n (by omega) hN a b 0 c) m_X8_comes ml_X8_90 rfl lay_86 rfl (by decide) rfl rfl (Nat.le_of_ble_eq_true rfl) (by decide) (by decide) (by decide) dX8_juror_52 (fun _ _ _ h => congrArg List.length h.2.1) ?_
          rintro _ _ _ ⟨rfl, rfl, e9⟩
          refine AW_I e9 ?_
          clear e9
          refine A_iret rfl rfl rfl rfl dX8_juror_55 ?_
          first
            | (have h7 : n = 10 := hn10; exact ⟨by rw [f_juror, if_pos hok, if_pos h7], rfl, by rw [n_juror, if_pos hok, if_pos h7, setN_self]⟩)
            | (have h7 : n ≠ 10 := hlt; exact ⟨by rw [f_juror, if_pos hok, if_neg h7], rfl, by rw [n_juror, if_pos hok, if_neg h7]⟩)
        · skip
          have hn10 : n = 10 := (eq_nI hN (show (10 : Int32) = nI 10 from rfl) (by omega) (by omega)).mp cq39
          refine A_ldc kc_X8_89 rfl dX8_juror_42 ?_
          refine A_goto 55 rfl dX8_juror_44 ?_
          refine A_iret rfl rfl rfl rfl dX8_juror_55 ?_
          first
            | (have h7 : n = 10 := hn10; exact ⟨by rw [f_juror, if_pos hok, if_pos h7], rfl, by rw [n_juror, if_pos hok, if_pos h7, setN_self]⟩)
            | (have h7 : n ≠ 10 := hlt; exact ⟨by rw [f_juror, if_pos hok, if_neg h7], rfl, by rw [n_juror, if_pos hok, if_neg h7]⟩)
      · skip
        refine A_ldc kc_X8_88 rfl dX8_juror_28 ?_
        refine A_iret rfl rfl rfl rfl dX8_juror_30 ?_
        have hno : ¬ ((0 ≤ a ∧ a ≤ 5) ∧ (0 ≤ b ∧ b ≤ 1) ∧ (0 ≤ c ∧ c ≤ 40)) := by
          first
            | (have h7 := b2i_q.mp cq6; exact fun h9 => h7 h9.1)
            | (have h7 := b2i_q.mp cq15; exact fun h9 => h7 h9.2.1)
            | (have h7 := b2i_q.mp cq25; exact fun h9 => h7 h9.2.2)
        exact ⟨by rw [f_juror, if_neg hno], rfl, by rw [n_juror, if_neg hno, setN_self]⟩
set_option maxHeartbeats 1000000 in
set_option maxRecDepth 100000 in
theorem c_seed (l : Launch) (G : Gm) (I : Hp) (N : Nrow) (n : Nat) (hn : n ≤ 10) (hN : N 1 = nI n) (hR : RepJ I 36 N) (v : Int32) : Meth l G yX7_seed cX7_seed 3 (some (FieldType.int)) 1 0 0 [.ref 0, .int v] LAY I (fun r lay1 I1 => r = some (.int (N 0)) ∧ lay1 = LAY ∧ NowC I I1 (upd N 0 v)) := by
  refine Meth.of (by decide +kernel) (by simp [Value.category]) (Nat.le_of_ble_eq_true rfl) ?_
  refine A_aload_n rfl dX7_seed_0 ?_
  refine A_getR fr_X7_28.g rfl lay_0 rfl dX7_seed_1 ?_
  refine A_getI fr_X7_147.g rfl (lj j36) dX7_seed_4 ?_
  refine A_istore_n (by decide) rfl dX7_seed_7 ?_
  refine A_aload_n rfl dX7_seed_8 ?_
  refine A_getR fr_X7_28.g rfl lay_0 rfl dX7_seed_9 ?_
  refine A_iload_n rfl dX7_seed_12 ?_
  refine A_putI fr_X7_147 rfl (lj j36) rfl rfl dX7_seed_13 ?_
  refine A_iload_n rfl dX7_seed_16 ?_
  refine A_iret rfl rfl rfl rfl dX7_seed_17 ?_
  exact ⟨by rw [hR.1.2.2.2.2.2.2.1], rfl, hR.z, fr_up (by decide) (by decide)⟩
set_option maxHeartbeats 1000000 in
set_option maxRecDepth 100000 in
theorem m_seed (l : Launch) (G : Gm) (I : Hp) (N : Nrow) (h87 : I 87 = N) (v : Int32) : Meth l G yX8_seed cX8_seed 2 (some (FieldType.int)) 2 0 0 [.ref 86, .int v] LAY I (fun r lay1 I1 => r = some (.int (N 0)) ∧ lay1 = LAY ∧ I1 = setN I (upd N 0 v)) := by
  subst h87
  refine Meth.of (by decide +kernel) (by simp [Value.category]) (Nat.le_of_ble_eq_true rfl) ?_
  refine A_aload_n rfl dX8_seed_0 ?_
  refine A_iconst ic_0 dX8_seed_1 ?_
  refine A_iload_n rfl dX8_seed_2 ?_
  refine A_callV (t_becomes l G I _ rfl 0 v (by decide)) m_X8_becomes ml_X8_142 rfl lay_86 rfl (by decide) rfl rfl (Nat.le_of_ble_eq_true rfl) (by decide) (by decide) (by decide) dX8_seed_3 (fun _ _ _ h => congrArg List.length h.2.1) ?_
  rintro _ _ _ ⟨rfl, rfl, e9⟩
  refine AW_I e9 ?_
  clear e9
  refine A_iret rfl rfl rfl rfl dX8_seed_6 ?_
  exact ⟨rfl, rfl, rfl⟩
def f_weigh (N : Nrow) (f v : Int32) : Int32 := if (0 ≤ f ∧ f ≤ 7) ∧ (-50 ≤ v ∧ v ≤ 50) then N (8 + f.toNatClampNeg) else -1000000001
def n_weigh (N : Nrow) (f v : Int32) : Nrow := if (0 ≤ f ∧ f ≤ 7) ∧ (-50 ≤ v ∧ v ≤ 50) then upd N (8 + f.toNatClampNeg) v else N
set_option maxHeartbeats 1000000 in
set_option maxRecDepth 100000 in
theorem c_weigh (l : Launch) (G : Gm) (I : Hp) (N : Nrow) (n : Nat) (hn : n ≤ 10) (hN : N 1 = nI n) (hR : RepJ I 36 N) (f v : Int32) : Meth l G yX7_weigh cX7_weigh 3 (some (FieldType.int)) 3 0 0 [.ref 0, .int f, .int v] LAY I (fun r lay1 I1 => r = some (.int (f_weigh N f v)) ∧ lay1 = LAY ∧ NowC I I1 (n_weigh N f v)) := by
  refine Meth.of (by decide +kernel) (by simp [Value.category]) (Nat.le_of_ble_eq_true rfl) ?_
  refine A_iload_n rfl dX7_weigh_0 ?_
  refine A_callS (s_isFact l G _ _ _) m_X7_isFact ml_X7_124 rfl rfl rfl (Nat.le_of_ble_eq_true rfl) (by decide) (by decide) (by decide) dX7_weigh_1 (fun _ _ _ h => congrArg List.length h.2.1) ?_
  rintro _ _ _ ⟨rfl, rfl, e9⟩
  refine AW_I e9 ?_
  clear e9
  refine A_if_eq 18 rfl dX7_weigh_4 (fun cq4 => ?_) (fun cq4 => ?_)
  · skip
    refine A_ldc kc_X7_60 rfl dX7_weigh_18 ?_
    refine A_iret rfl rfl rfl rfl dX7_weigh_20 ?_
    have hno : ¬ ((0 ≤ f ∧ f ≤ 7) ∧ (-50 ≤ v ∧ v ≤ 50)) := by
      first
        | (have h7 := b2i_q.mp cq4; exact fun h9 => h7 h9.1)
        | (have h7 := b2i_q.mp cq15; exact fun h9 => h7 h9.2)
    exact ⟨by rw [f_weigh, if_neg hno], rfl, by rw [n_weigh, if_neg hno]; exact NowC.rf hR⟩
  · skip
    refine A_iload_n rfl dX7_weigh_7 ?_
    refine A_bipush bp_m50 dX7_weigh_8 ?_
    refine A_bipush bp_50 dX7_weigh_10 ?_
    refine A_callS (s_within l G _ _ _ _ _) m_X7_within ml_X7_56 rfl rfl rfl (Nat.le_of_ble_eq_true rfl) (by decide) (by decide) (by decide) dX7_weigh_12 (fun _ _ _ h => congrArg List.length h.2.1) ?_
    rintro _ _ _ ⟨rfl, rfl, e9⟩
    refine AW_I e9 ?_
    clear e9
    refine A_if_ne 21 rfl dX7_weigh_15 (fun cq15 => ?_) (fun cq15 => ?_)
    · skip
      have hok : (0 ≤ f ∧ f ≤ 7) ∧ (-50 ≤ v ∧ v ≤ 50) := ⟨b2i_p.mp cq4, b2i_p.mp cq15⟩
      obtain ⟨i, hi, rfl⟩ := in_get (a := 7) rfl hok.1
      refine A_aload_n rfl dX7_weigh_21 ?_
      refine A_getR fr_X7_28.g rfl lay_0 rfl dX7_weigh_22 ?_
      refine A_getR fr_X7_127 rfl (lj j36) rfl dX7_weigh_25 ?_
      refine A_iload_n rfl dX7_weigh_28 ?_
      refine A_iload_n rfl dX7_weigh_29 ?_
      refine A_callS (s_exch l G I (36 + 6) 8 i v (lj6 j36) (by omega) (by decide)) m_X7_exchange ml_X7_120 rfl rfl rfl (Nat.le_of_ble_eq_true rfl) (by decide) (by decide) (by decide) dX7_weigh_30 (fun _ _ _ h => congrArg List.length h.2.1) ?_
      rintro _ _ _ ⟨rfl, rfl, e9⟩
      refine AW_I e9 ?_
      clear e9
      refine A_iret rfl rfl rfl rfl dX7_weigh_33 ?_
      exact ⟨by rw [f_weigh, if_pos hok, nI_clamp (by omega), hR.2.2.2.2.2.2.1 i (by omega)], rfl, by rw [n_weigh, if_pos hok, nI_clamp (by omega)]; exact ⟨hR.weight (by omega), fr_up (by decide) (by decide)⟩⟩
    · skip
      refine A_ldc kc_X7_60 rfl dX7_weigh_18 ?_
      refine A_iret rfl rfl rfl rfl dX7_weigh_20 ?_
      have hno : ¬ ((0 ≤ f ∧ f ≤ 7) ∧ (-50 ≤ v ∧ v ≤ 50)) := by
        first
          | (have h7 := b2i_q.mp cq4; exact fun h9 => h7 h9.1)
          | (have h7 := b2i_q.mp cq15; exact fun h9 => h7 h9.2)
      exact ⟨by rw [f_weigh, if_neg hno], rfl, by rw [n_weigh, if_neg hno]; exact NowC.rf hR⟩
set_option maxHeartbeats 1000000 in
set_option maxRecDepth 100000 in
theorem m_weigh (l : Launch) (G : Gm) (I : Hp) (N : Nrow) (h87 : I 87 = N) (f v : Int32) : Meth l G yX8_weigh cX8_weigh 3 (some (FieldType.int)) 3 0 0 [.ref 86, .int f, .int v] LAY I (fun r lay1 I1 => r = some (.int (f_weigh N f v)) ∧ lay1 = LAY ∧ I1 = setN I (n_weigh N f v)) := by
  subst h87
  refine Meth.of (by decide +kernel) (by simp [Value.category]) (Nat.le_of_ble_eq_true rfl) ?_
  refine A_iload_n rfl dX8_weigh_0 ?_
  refine A_callS (s_isFactM l G _ _ _) m_X8_isFact ml_X8_145 rfl rfl rfl (Nat.le_of_ble_eq_true rfl) (by decide) (by decide) (by decide) dX8_weigh_1 (fun _ _ _ h => congrArg List.length h.2.1) ?_
  rintro _ _ _ ⟨rfl, rfl, e9⟩
  refine AW_I e9 ?_
  clear e9
  refine A_if_eq 30 rfl dX8_weigh_4 (fun cq4 => ?_) (fun cq4 => ?_)
  · skip
    refine A_ldc kc_X8_88 rfl dX8_weigh_30 ?_
    refine A_iret rfl rfl rfl rfl dX8_weigh_32 ?_
    first
      | (have h7 := b2i_q.mp cq4; have hno := (fun h9 => h7 h9.1 : ¬ ((0 ≤ f ∧ f ≤ 7) ∧ (-50 ≤ v ∧ v ≤ 50))); exact ⟨by rw [f_weigh, if_neg hno], rfl, by rw [n_weigh, if_neg hno]; rw [setN_self]⟩)
      | (have h7 := b2i_q.mp cq15; have hno := (fun h9 => h7 h9.2 : ¬ ((0 ≤ f ∧ f ≤ 7) ∧ (-50 ≤ v ∧ v ≤ 50))); exact ⟨by rw [f_weigh, if_neg hno], rfl, by rw [n_weigh, if_neg hno]; rw [setN_self]⟩)
      | exact ⟨by rw [f_weigh, if_pos hok, nI_clamp (by omega)], rfl, by rw [n_weigh, if_pos hok, nI_clamp (by omega)]⟩
  · skip
    refine A_iload_n rfl dX8_weigh_7 ?_
    refine A_bipush bp_m50 dX8_weigh_8 ?_
    refine A_bipush bp_50 dX8_weigh_10 ?_
    refine A_callS (s_in l G _ _ _ _ _) m_X8_in ml_X8_80 rfl rfl rfl (Nat.le_of_ble_eq_true rfl) (by decide) (by decide) (by decide) dX8_weigh_12 (fun _ _ _ h => congrArg List.length h.2.1) ?_
    rintro _ _ _ ⟨rfl, rfl, e9⟩
    refine AW_I e9 ?_
    clear e9
    refine A_if_eq 30 rfl dX8_weigh_15 (fun cq15 => ?_) (fun cq15 => ?_)
    · skip
      refine A_ldc kc_X8_88 rfl dX8_weigh_30 ?_
      refine A_iret rfl rfl rfl rfl dX8_weigh_32 ?_
      first
        | (have h7 := b2i_q.mp cq4; have hno := (fun h9 => h7 h9.1 : ¬ ((0 ≤ f ∧ f ≤ 7) ∧ (-50 ≤ v ∧ v ≤ 50))); exact ⟨by rw [f_weigh, if_neg hno], rfl, by rw [n_weigh, if_neg hno]; rw [setN_self]⟩)
        | (have h7 := b2i_q.mp cq15; have hno := (fun h9 => h7 h9.2 : ¬ ((0 ≤ f ∧ f ≤ 7) ∧ (-50 ≤ v ∧ v ≤ 50))); exact ⟨by rw [f_weigh, if_neg hno], rfl, by rw [n_weigh, if_neg hno]; rw [setN_self]⟩)
        | exact ⟨by rw [f_weigh, if_pos hok, nI_clamp (by omega)], rfl, by rw [n_weigh, if_pos hok, nI_clamp (by omega)]⟩
    · skip
      have hok : (0 ≤ f ∧ f ≤ 7) ∧ (-50 ≤ v ∧ v ≤ 50) := ⟨b2i_p.mp cq4, b2i_p.mp cq15⟩
      obtain ⟨i, hi, rfl⟩ := in_get (a := 7) rfl hok.1
      refine A_aload_n rfl dX8_weigh_18 ?_
      refine A_bipush bp_8 dX8_weigh_19 ?_
      refine A_iload_n rfl dX8_weigh_21 ?_
      refine A_iadd dX8_weigh_22 ?_
      rw [ix_8]
      refine A_iload_n rfl dX8_weigh_23 ?_
      refine A_callV (t_becomes l G I _ rfl (8 + i) v (by omega)) m_X8_becomes ml_X8_142 rfl lay_86 rfl (by decide) rfl rfl (Nat.le_of_ble_eq_true rfl) (by decide) (by decide) (by decide) dX8_weigh_24 (fun _ _ _ h => congrArg List.length h.2.1) ?_
      rintro _ _ _ ⟨rfl, rfl, e9⟩
      refine AW_I e9 ?_
      clear e9
      refine A_goto 32 rfl dX8_weigh_27 ?_
      refine A_iret rfl rfl rfl rfl dX8_weigh_32 ?_
      first
        | (have h7 := b2i_q.mp cq4; have hno := (fun h9 => h7 h9.1 : ¬ ((0 ≤ f ∧ f ≤ 7) ∧ (-50 ≤ v ∧ v ≤ 50))); exact ⟨by rw [f_weigh, if_neg hno], rfl, by rw [n_weigh, if_neg hno]; rw [setN_self]⟩)
        | (have h7 := b2i_q.mp cq15; have hno := (fun h9 => h7 h9.2 : ¬ ((0 ≤ f ∧ f ≤ 7) ∧ (-50 ≤ v ∧ v ≤ 50))); exact ⟨by rw [f_weigh, if_neg hno], rfl, by rw [n_weigh, if_neg hno]; rw [setN_self]⟩)
        | exact ⟨by rw [f_weigh, if_pos hok, nI_clamp (by omega)], rfl, by rw [n_weigh, if_pos hok, nI_clamp (by omega)]⟩
def f_turns (N : Nrow) (v k : Int32) : Int32 := if (0 ≤ v ∧ v < N 1) ∧ (0 ≤ k ∧ k ≤ 5) then N (16 + 5 * v.toNatClampNeg) else -1000000001
def n_turns (N : Nrow) (v k : Int32) : Nrow := if (0 ≤ v ∧ v < N 1) ∧ (0 ≤ k ∧ k ≤ 5) then upd N (16 + 5 * v.toNatClampNeg) k else N
set_option maxHeartbeats 1000000 in
set_option maxRecDepth 100000 in
theorem c_turns (l : Launch) (G : Gm) (I : Hp) (N : Nrow) (n : Nat) (hn : n ≤ 10) (hN : N 1 = nI n) (hR : RepJ I 36 N) (v k : Int32) : Meth l G yX7_turns cX7_turns 3 (some (FieldType.int)) 3 0 0 [.ref 0, .int v, .int k] LAY I (fun r lay1 I1 => r = some (.int (f_turns N v k)) ∧ lay1 = LAY ∧ NowC I I1 (n_turns N v k)) := by
  refine Meth.of (by decide +kernel) (by simp [Value.category]) (Nat.le_of_ble_eq_true rfl) ?_
  refine A_aload_n rfl dX7_turns_0 ?_
  refine A_getR fr_X7_28.g rfl lay_0 rfl dX7_turns_1 ?_
  refine A_iload_n rfl dX7_turns_4 ?_
  refine A_callV (s_has l G 36 j36 I _) m_X0_has ml_X7_70 rfl (lj j36) rfl (by decide) rfl rfl (Nat.le_of_ble_eq_true rfl) (by decide) (by decide) (by decide) dX7_turns_5 (fun _ _ _ h => congrArg List.length h.2.1) ?_
  rintro _ _ _ ⟨rfl, rfl, e9⟩
  refine AW_I e9 ?_
  clear e9
  refine A_if_eq 20 rfl dX7_turns_8 (fun cq8 => ?_) (fun cq8 => ?_)
  · skip
    refine A_ldc kc_X7_60 rfl dX7_turns_20 ?_
    refine A_iret rfl rfl rfl rfl dX7_turns_22 ?_
    have hno : ¬ ((0 ≤ v ∧ v < N 1) ∧ (0 ≤ k ∧ k ≤ 5)) := by
      rw [← hR.1.1]
      first
        | (have h7 := b2i_q.mp cq8; exact fun h9 => h7 h9.1)
        | (have h7 := b2i_q.mp cq17; exact fun h9 => h7 h9.2)
    exact ⟨by rw [f_turns, if_neg hno], rfl, by rw [n_turns, if_neg hno]; exact NowC.rf hR⟩
  · skip
    refine A_iload_n rfl dX7_turns_11 ?_
    refine A_iconst ic_0 dX7_turns_12 ?_
    refine A_iconst ic_5 dX7_turns_13 ?_
    refine A_callS (s_within l G _ _ _ _ _) m_X7_within ml_X7_56 rfl rfl rfl (Nat.le_of_ble_eq_true rfl) (by decide) (by decide) (by decide) dX7_turns_14 (fun _ _ _ h => congrArg List.length h.2.1) ?_
    rintro _ _ _ ⟨rfl, rfl, e9⟩
    refine AW_I e9 ?_
    clear e9
    refine A_if_ne 23 rfl dX7_turns_17 (fun cq17 => ?_) (fun cq17 => ?_)
    · skip
      have hok : ((0 ≤ v ∧ v < N 1) ∧ (0 ≤ k ∧ k ≤ 5)) := ⟨by rw [← hR.1.1]; exact b2i_p.mp cq8, b2i_p.mp cq17⟩
      obtain ⟨i, hi, rfl⟩ := jur_get hn hN hok.1
      refine A_aload_n rfl dX7_turns_23 ?_
      refine A_getR fr_X7_28.g rfl lay_0 rfl dX7_turns_24 ?_
      refine A_getR fr_X7_74 rfl (lj j36) rfl dX7_turns_27 ?_
      refine A_iload_n rfl dX7_turns_30 ?_
      refine A_iload_n rfl dX7_turns_31 ?_
      refine A_callS (s_exch l G I (36 + 1) 10 i k (lj1 j36) (by omega) (by decide)) m_X7_exchange ml_X7_120 rfl rfl rfl (Nat.le_of_ble_eq_true rfl) (by decide) (by decide) (by decide) dX7_turns_32 (fun _ _ _ h => congrArg List.length h.2.1) ?_
      rintro _ _ _ ⟨rfl, rfl, e9⟩
      refine AW_I e9 ?_
      clear e9
      refine A_iret rfl rfl rfl rfl dX7_turns_35 ?_
      exact ⟨by rw [f_turns, if_pos hok, nI_clamp (by omega), hR.2.1 i (by omega)], rfl, by rw [n_turns, if_pos hok, nI_clamp (by omega)]; exact ⟨hR.kind (by omega), fr_up (by decide) (by decide)⟩⟩
    · skip
      refine A_ldc kc_X7_60 rfl dX7_turns_20 ?_
      refine A_iret rfl rfl rfl rfl dX7_turns_22 ?_
      have hno : ¬ ((0 ≤ v ∧ v < N 1) ∧ (0 ≤ k ∧ k ≤ 5)) := by
        rw [← hR.1.1]
        first
          | (have h7 := b2i_q.mp cq8; exact fun h9 => h7 h9.1)
          | (have h7 := b2i_q.mp cq17; exact fun h9 => h7 h9.2)
      exact ⟨by rw [f_turns, if_neg hno], rfl, by rw [n_turns, if_neg hno]; exact NowC.rf hR⟩
theorem ix_5 (i : Nat) : (16 : Int32) + 5 * nI i = nI (16 + 5 * i) := by rw [show (16 : Int32) = nI 16 from rfl, show (5 : Int32) = nI 5 from rfl, pk_mul, nI_add]
set_option maxHeartbeats 1000000 in
set_option maxRecDepth 100000 in
theorem m_turns (l : Launch) (G : Gm) (I : Hp) (N : Nrow) (h87 : I 87 = N) (n : Nat) (hn : n ≤ 10) (hN : N 1 = nI n) (v k : Int32) : Meth l G yX8_turns cX8_turns 3 (some (FieldType.int)) 3 0 0 [.ref 86, .int v, .int k] LAY I (fun r lay1 I1 => r = some (.int (f_turns N v k)) ∧ lay1 = LAY ∧ I1 = setN I (n_turns N v k)) := by
  subst h87
  refine Meth.of (by decide +kernel) (by simp [Value.category]) (Nat.le_of_ble_eq_true rfl) ?_
  refine A_aload_n rfl dX8_turns_0 ?_
  refine A_iload_n rfl dX8_turns_1 ?_
  refine A_callV (t_isJuror l G I _ rfl _ n hn hN) m_X8_isJuror ml_X8_118 rfl lay_86 rfl (by decide) rfl rfl (Nat.le_of_ble_eq_true rfl) (by decide) (by decide) (by decide) dX8_turns_2 (fun _ _ _ h => congrArg List.length h.2.1) ?_
  rintro _ _ _ ⟨rfl, rfl, e9⟩
  refine AW_I e9 ?_
  clear e9
  refine A_if_eq 31 rfl dX8_turns_5 (fun cq5 => ?_) (fun cq5 => ?_)
  · skip
    refine A_ldc kc_X8_88 rfl dX8_turns_31 ?_
    refine A_iret rfl rfl rfl rfl dX8_turns_33 ?_
    first
      | (have h7 := b2i_q.mp cq5; have hno := (fun h9 => h7 h9.1 : ¬ ((0 ≤ v ∧ v < I 87 1) ∧ (0 ≤ k ∧ k ≤ 5))); exact ⟨by rw [f_turns, if_neg hno], rfl, by rw [n_turns, if_neg hno]; rw [setN_self]⟩)
      | (have h7 := b2i_q.mp cq14; have hno := (fun h9 => h7 h9.2 : ¬ ((0 ≤ v ∧ v < I 87 1) ∧ (0 ≤ k ∧ k ≤ 5))); exact ⟨by rw [f_turns, if_neg hno], rfl, by rw [n_turns, if_neg hno]; rw [setN_self]⟩)
      | exact ⟨by rw [f_turns, if_pos hok, nI_clamp (by omega)], rfl, by rw [n_turns, if_pos hok, nI_clamp (by omega)]⟩
  · skip
    refine A_iload_n rfl dX8_turns_8 ?_
    refine A_iconst ic_0 dX8_turns_9 ?_
    refine A_iconst ic_5 dX8_turns_10 ?_
    refine A_callS (s_in l G _ _ _ _ _) m_X8_in ml_X8_80 rfl rfl rfl (Nat.le_of_ble_eq_true rfl) (by decide) (by decide) (by decide) dX8_turns_11 (fun _ _ _ h => congrArg List.length h.2.1) ?_
    rintro _ _ _ ⟨rfl, rfl, e9⟩
    refine AW_I e9 ?_
    clear e9
    refine A_if_eq 31 rfl dX8_turns_14 (fun cq14 => ?_) (fun cq14 => ?_)
    · skip
      refine A_ldc kc_X8_88 rfl dX8_turns_31 ?_
      refine A_iret rfl rfl rfl rfl dX8_turns_33 ?_
      first
        | (have h7 := b2i_q.mp cq5; have hno := (fun h9 => h7 h9.1 : ¬ ((0 ≤ v ∧ v < I 87 1) ∧ (0 ≤ k ∧ k ≤ 5))); exact ⟨by rw [f_turns, if_neg hno], rfl, by rw [n_turns, if_neg hno]; rw [setN_self]⟩)
        | (have h7 := b2i_q.mp cq14; have hno := (fun h9 => h7 h9.2 : ¬ ((0 ≤ v ∧ v < I 87 1) ∧ (0 ≤ k ∧ k ≤ 5))); exact ⟨by rw [f_turns, if_neg hno], rfl, by rw [n_turns, if_neg hno]; rw [setN_self]⟩)
        | exact ⟨by rw [f_turns, if_pos hok, nI_clamp (by omega)], rfl, by rw [n_turns, if_pos hok, nI_clamp (by omega)]⟩
    · skip
      have hok : ((0 ≤ v ∧ v < I 87 1) ∧ (0 ≤ k ∧ k ≤ 5)) := ⟨b2i_p.mp cq5, b2i_p.mp cq14⟩
      obtain ⟨i, hi, rfl⟩ := jur_get hn hN hok.1
      refine A_aload_n rfl dX8_turns_17 ?_
      refine A_bipush bp_16 dX8_turns_18 ?_
      refine A_iconst ic_5 dX8_turns_20 ?_
      refine A_iload_n rfl dX8_turns_21 ?_
      refine A_imul dX8_turns_22 ?_
      refine A_iadd dX8_turns_23 ?_
      rw [ix_5]
      refine A_iload_n rfl dX8_turns_24 ?_
      refine A_callV (t_becomes l G I _ rfl (16 + 5 * i) k (by omega)) m_X8_becomes ml_X8_142 rfl lay_86 rfl (by decide) rfl rfl (Nat.le_of_ble_eq_true rfl) (by decide) (by decide) (by decide) dX8_turns_25 (fun _ _ _ h => congrArg List.length h.2.1) ?_
      rintro _ _ _ ⟨rfl, rfl, e9⟩
      refine AW_I e9 ?_
      clear e9
      refine A_goto 33 rfl dX8_turns_28 ?_
      refine A_iret rfl rfl rfl rfl dX8_turns_33 ?_
      first
        | (have h7 := b2i_q.mp cq5; have hno := (fun h9 => h7 h9.1 : ¬ ((0 ≤ v ∧ v < I 87 1) ∧ (0 ≤ k ∧ k ≤ 5))); exact ⟨by rw [f_turns, if_neg hno], rfl, by rw [n_turns, if_neg hno]; rw [setN_self]⟩)
        | (have h7 := b2i_q.mp cq14; have hno := (fun h9 => h7 h9.2 : ¬ ((0 ≤ v ∧ v < I 87 1) ∧ (0 ≤ k ∧ k ≤ 5))); exact ⟨by rw [f_turns, if_neg hno], rfl, by rw [n_turns, if_neg hno]; rw [setN_self]⟩)
        | exact ⟨by rw [f_turns, if_pos hok, nI_clamp (by omega)], rfl, by rw [n_turns, if_pos hok, nI_clamp (by omega)]⟩
def f_as (N : Nrow) (v k : Int32) : Int32 := if (0 ≤ v ∧ v < N 1) ∧ (0 ≤ k ∧ k ≤ 5) then (if k = 0 ∨ N (16 + 5 * v.toNatClampNeg) = k ∨ (k = 1 ∧ N (16 + 5 * v.toNatClampNeg) = 3) ∨ (k = 2 ∧ N (16 + 5 * v.toNatClampNeg) = 4) then N (19 + 5 * v.toNatClampNeg) else -1000000012) else -1000000001
set_option maxHeartbeats 1000000 in
set_option maxRecDepth 100000 in
theorem c_as (l : Launch) (G : Gm) (I : Hp) (N : Nrow) (n : Nat) (hn : n ≤ 10) (hN : N 1 = nI n) (hR : RepJ I 36 N) (v k : Int32) : Meth l G yX7_as cX7_as 3 (some (FieldType.int)) 3 0 0 [.ref 0, .int v, .int k] LAY I (fun r lay1 I1 => r = some (.int (f_as N v k)) ∧ lay1 = LAY ∧ I1 = I) := by
  refine Meth.of (by decide +kernel) (by simp [Value.category]) (Nat.le_of_ble_eq_true rfl) ?_
  refine A_aload_n rfl dX7_as_0 ?_
  refine A_getR fr_X7_28.g rfl lay_0 rfl dX7_as_1 ?_
  refine A_iload_n rfl dX7_as_4 ?_
  refine A_callV (s_has l G 36 j36 I _) m_X0_has ml_X7_70 rfl (lj j36) rfl (by decide) rfl rfl (Nat.le_of_ble_eq_true rfl) (by decide) (by decide) (by decide) dX7_as_5 (fun _ _ _ h => congrArg List.length h.2.1) ?_
  rintro _ _ _ ⟨rfl, rfl, e9⟩
  refine AW_I e9 ?_
  clear e9
  refine A_if_eq 20 rfl dX7_as_8 (fun cq8 => ?_) (fun cq8 => ?_)
  · skip
    refine A_ldc kc_X7_60 rfl dX7_as_20 ?_
    refine A_iret rfl rfl rfl rfl dX7_as_22 ?_
    have hno : ¬ ((0 ≤ v ∧ v < N 1) ∧ (0 ≤ k ∧ k ≤ 5)) := by
      rw [← hR.1.1]
      first
        | (have h7 := b2i_q.mp cq8; exact fun h9 => h7 h9.1)
        | (have h7 := b2i_q.mp cq17; exact fun h9 => h7 h9.2)
    exact ⟨by rw [f_as, if_neg hno], rfl, rfl⟩
  · skip
    refine A_iload_n rfl dX7_as_11 ?_
    refine A_iconst ic_0 dX7_as_12 ?_
    refine A_iconst ic_5 dX7_as_13 ?_
    refine A_callS (s_within l G _ _ _ _ _) m_X7_within ml_X7_56 rfl rfl rfl (Nat.le_of_ble_eq_true rfl) (by decide) (by decide) (by decide) dX7_as_14 (fun _ _ _ h => congrArg List.length h.2.1) ?_
    rintro _ _ _ ⟨rfl, rfl, e9⟩
    refine AW_I e9 ?_
    clear e9
    refine A_if_ne 23 rfl dX7_as_17 (fun cq17 => ?_) (fun cq17 => ?_)
    · skip
      have hok : ((0 ≤ v ∧ v < N 1) ∧ (0 ≤ k ∧ k ≤ 5)) := ⟨by rw [← hR.1.1]; exact b2i_p.mp cq8, b2i_p.mp cq17⟩
      obtain ⟨i, hi, rfl⟩ := jur_get hn hN hok.1
      have e1 : I (36 + 1) i = N (16 + 5 * i) := hR.2.1 i (by omega)
      have e4 : I (36 + 4) i = N (19 + 5 * i) := hR.2.2.2.2.1 i (by omega)
      refine A_aload_n rfl dX7_as_23 ?_
      refine A_getR fr_X7_28.g rfl lay_0 rfl dX7_as_24 ?_
      refine A_getR fr_X7_74 rfl (lj j36) rfl dX7_as_27 ?_
      refine A_iload_n rfl dX7_as_30 ?_
      refine A_iald _ rfl (lj1 j36) (by omega) (by decide) dX7_as_31 ?_
      refine A_iload_n rfl dX7_as_32 ?_
      refine A_callS (s_isOf l G _ _ _ _) m_X1_isOf ml_X7_115 rfl rfl rfl (Nat.le_of_ble_eq_true rfl) (by decide) (by decide) (by decide) dX7_as_33 (fun _ _ _ h => congrArg List.length h.2.1) ?_
      rintro _ _ _ ⟨rfl, rfl, e9⟩
      refine AW_I e9 ?_
      clear e9
      refine A_if_eq 51 rfl dX7_as_36 (fun cq36 => ?_) (fun cq36 => ?_)
      · skip
        refine A_ldc kc_X7_119 rfl dX7_as_51 ?_
        refine A_iret rfl rfl rfl rfl dX7_as_53 ?_
        rw [e1] at cq36
        refine ⟨?_, rfl, rfl⟩
        rw [f_as, if_pos hok, nI_clamp (by omega)]
        first | (have h7 := b2i_q.mp cq36; rw [if_neg h7]) | (have h7 := b2i_p.mp cq36; rw [if_pos h7, e4])
      · skip
        refine A_aload_n rfl dX7_as_39 ?_
        refine A_getR fr_X7_28.g rfl lay_0 rfl dX7_as_40 ?_
        refine A_getR fr_X7_83 rfl (lj j36) rfl dX7_as_43 ?_
        refine A_iload_n rfl dX7_as_46 ?_
        refine A_iald _ rfl (lj4 j36) (by omega) (by decide) dX7_as_47 ?_
        refine A_goto 53 rfl dX7_as_48 ?_
        refine A_iret rfl rfl rfl rfl dX7_as_53 ?_
        rw [e1] at cq36
        refine ⟨?_, rfl, rfl⟩
        rw [f_as, if_pos hok, nI_clamp (by omega)]
        first | (have h7 := b2i_q.mp cq36; rw [if_neg h7]) | (have h7 := b2i_p.mp cq36; rw [if_pos h7, e4])
    · skip
      refine A_ldc kc_X7_60 rfl dX7_as_20 ?_
      refine A_iret rfl rfl rfl rfl dX7_as_22 ?_
      have hno : ¬ ((0 ≤ v ∧ v < N 1) ∧ (0 ≤ k ∧ k ≤ 5)) := by
        rw [← hR.1.1]
        first
          | (have h7 := b2i_q.mp cq8; exact fun h9 => h7 h9.1)
          | (have h7 := b2i_q.mp cq17; exact fun h9 => h7 h9.2)
      exact ⟨by rw [f_as, if_neg hno], rfl, rfl⟩
set_option maxHeartbeats 1000000 in
set_option maxRecDepth 100000 in
theorem m_as (l : Launch) (G : Gm) (I : Hp) (N : Nrow) (h87 : I 87 = N) (n : Nat) (hn : n ≤ 10) (hN : N 1 = nI n) (v k : Int32) : Meth l G yX8_as cX8_as 3 (some (FieldType.int)) 3 0 0 [.ref 86, .int v, .int k] LAY I (fun r lay1 I1 => r = some (.int (f_as N v k)) ∧ lay1 = LAY ∧ I1 = I) := by
  subst h87
  refine Meth.of (by decide +kernel) (by simp [Value.category]) (Nat.le_of_ble_eq_true rfl) ?_
  refine A_aload_n rfl dX8_as_0 ?_
  refine A_iload_n rfl dX8_as_1 ?_
  refine A_callV (t_isJuror l G I _ rfl _ n hn hN) m_X8_isJuror ml_X8_118 rfl lay_86 rfl (by decide) rfl rfl (Nat.le_of_ble_eq_true rfl) (by decide) (by decide) (by decide) dX8_as_2 (fun _ _ _ h => congrArg List.length h.2.1) ?_
  rintro _ _ _ ⟨rfl, rfl, e9⟩
  refine AW_I e9 ?_
  clear e9
  refine A_if_eq 17 rfl dX8_as_5 (fun cq5 => ?_) (fun cq5 => ?_)
  · skip
    refine A_ldc kc_X8_88 rfl dX8_as_17 ?_
    refine A_iret rfl rfl rfl rfl dX8_as_19 ?_
    have hno : ¬ ((0 ≤ v ∧ v < I 87 1) ∧ (0 ≤ k ∧ k ≤ 5)) := by
      first
        | (have h7 := b2i_q.mp cq5; exact fun h9 => h7 h9.1)
        | (have h7 := b2i_q.mp cq14; exact fun h9 => h7 h9.2)
    exact ⟨by rw [f_as, if_neg hno], rfl, rfl⟩
  · skip
    refine A_iload_n rfl dX8_as_8 ?_
    refine A_iconst ic_0 dX8_as_9 ?_
    refine A_iconst ic_5 dX8_as_10 ?_
    refine A_callS (s_in l G _ _ _ _ _) m_X8_in ml_X8_80 rfl rfl rfl (Nat.le_of_ble_eq_true rfl) (by decide) (by decide) (by decide) dX8_as_11 (fun _ _ _ h => congrArg List.length h.2.1) ?_
    rintro _ _ _ ⟨rfl, rfl, e9⟩
    refine AW_I e9 ?_
    clear e9
    refine A_if_ne 20 rfl dX8_as_14 (fun cq14 => ?_) (fun cq14 => ?_)
    · skip
      have hok : ((0 ≤ v ∧ v < I 87 1) ∧ (0 ≤ k ∧ k ≤ 5)) := ⟨b2i_p.mp cq5, b2i_p.mp cq14⟩
      obtain ⟨i, hi, rfl⟩ := jur_get hn hN hok.1
      refine A_aload_n rfl dX8_as_20 ?_
      refine A_iload_n rfl dX8_as_21 ?_
      refine A_iconst ic_0 dX8_as_22 ?_
      refine A_callV (t_of l G I _ rfl i 0 (by omega)) m_X8_of ml_X8_94 rfl lay_86 rfl (by decide) rfl rfl (Nat.le_of_ble_eq_true rfl) (by decide) (by decide) (by decide) dX8_as_23 (fun _ _ _ h => congrArg List.length h.2.1) ?_
      rintro _ _ _ ⟨rfl, rfl, e9⟩
      refine AW_I e9 ?_
      clear e9
      refine A_iload_n rfl dX8_as_26 ?_
      refine A_callS (s_isUnder l G _ _ _ _) m_X8_isUnder ml_X8_137 rfl rfl rfl (Nat.le_of_ble_eq_true rfl) (by decide) (by decide) (by decide) dX8_as_27 (fun _ _ _ h => congrArg List.length h.2.1) ?_
      rintro _ _ _ ⟨rfl, rfl, e9⟩
      refine AW_I e9 ?_
      clear e9
      refine A_if_eq 42 rfl dX8_as_30 (fun cq30 => ?_) (fun cq30 => ?_)
      · skip
        refine A_ldc kc_X8_141 rfl dX8_as_42 ?_
        refine A_iret rfl rfl rfl rfl dX8_as_44 ?_
        refine ⟨?_, rfl, rfl⟩
        rw [f_as, if_pos hok, nI_clamp (by omega)]
        first | (have h7 := b2i_q.mp cq30; rw [if_neg h7]) | (have h7 := b2i_p.mp cq30; rw [if_pos h7])
      · skip
        refine A_aload_n rfl dX8_as_33 ?_
        refine A_iload_n rfl dX8_as_34 ?_
        refine A_iconst ic_3 dX8_as_35 ?_
        refine A_callV (t_of l G I _ rfl i 3 (by omega)) m_X8_of ml_X8_94 rfl lay_86 rfl (by decide) rfl rfl (Nat.le_of_ble_eq_true rfl) (by decide) (by decide) (by decide) dX8_as_36 (fun _ _ _ h => congrArg List.length h.2.1) ?_
        rintro _ _ _ ⟨rfl, rfl, e9⟩
        refine AW_I e9 ?_
        clear e9
        refine A_goto 44 rfl dX8_as_39 ?_
        refine A_iret rfl rfl rfl rfl dX8_as_44 ?_
        refine ⟨?_, rfl, rfl⟩
        rw [f_as, if_pos hok, nI_clamp (by omega)]
        first | (have h7 := b2i_q.mp cq30; rw [if_neg h7]) | (have h7 := b2i_p.mp cq30; rw [if_pos h7])
    · skip
      refine A_ldc kc_X8_88 rfl dX8_as_17 ?_
      refine A_iret rfl rfl rfl rfl dX8_as_19 ?_
      have hno : ¬ ((0 ≤ v ∧ v < I 87 1) ∧ (0 ≤ k ∧ k ≤ 5)) := by
        first
          | (have h7 := b2i_q.mp cq5; exact fun h9 => h7 h9.1)
          | (have h7 := b2i_q.mp cq14; exact fun h9 => h7 h9.2)
      exact ⟨by rw [f_as, if_neg hno], rfl, rfl⟩
def f_out (N : Nrow) (n : Nat) (f w : Int32) : Int32 := if (0 ≤ f ∧ f ≤ 7) ∧ (0 ≤ w ∧ w ≤ 1) then (q_outL N f.toNatClampNeg w n).2 else -1000000001
def n_out (N : Nrow) (n : Nat) (f w : Int32) : Nrow := if (0 ≤ f ∧ f ≤ 7) ∧ (0 ≤ w ∧ w ≤ 1) then (q_outL N f.toNatClampNeg w n).1 else N
set_option maxHeartbeats 1000000 in
set_option maxRecDepth 100000 in
theorem c_out (l : Launch) (G : Gm) (I : Hp) (N : Nrow) (n : Nat) (hn : n ≤ 10) (hN : N 1 = nI n) (hR : RepJ I 36 N) (hK : KnJ N) (f w : Int32) : Meth l G yX7_out cX7_out 3 (some (FieldType.int)) 3 0 0 [.ref 0, .int f, .int w] LAY I (fun r lay1 I1 => r = some (.int (f_out N n f w)) ∧ lay1 = LAY ∧ NowC I I1 (n_out N n f w)) := by
  refine Meth.of (by decide +kernel) (by simp [Value.category]) (Nat.le_of_ble_eq_true rfl) ?_
  refine A_iload_n rfl dX7_out_0 ?_
  refine A_callS (s_isFact l G _ _ _) m_X7_isFact ml_X7_124 rfl rfl rfl (Nat.le_of_ble_eq_true rfl) (by decide) (by decide) (by decide) dX7_out_1 (fun _ _ _ h => congrArg List.length h.2.1) ?_
  rintro _ _ _ ⟨rfl, rfl, e9⟩
  refine AW_I e9 ?_
  clear e9
  refine A_if_eq 16 rfl dX7_out_4 (fun cq4 => ?_) (fun cq4 => ?_)
  · skip
    refine A_ldc kc_X7_60 rfl dX7_out_16 ?_
    refine A_iret rfl rfl rfl rfl dX7_out_18 ?_
    have hno : ¬ ((0 ≤ f ∧ f ≤ 7) ∧ (0 ≤ w ∧ w ≤ 1)) := by
      first
        | (have h7 := b2i_q.mp cq4; exact fun h9 => h7 h9.1)
        | (have h7 := b2i_q.mp cq13; exact fun h9 => h7 h9.2)
    exact ⟨by rw [f_out, if_neg hno], rfl, by rw [n_out, if_neg hno]; exact NowC.rf hR⟩
  · skip
    refine A_iload_n rfl dX7_out_7 ?_
    refine A_iconst ic_0 dX7_out_8 ?_
    refine A_iconst ic_1 dX7_out_9 ?_
    refine A_callS (s_within l G _ _ _ _ _) m_X7_within ml_X7_56 rfl rfl rfl (Nat.le_of_ble_eq_true rfl) (by decide) (by decide) (by decide) dX7_out_10 (fun _ _ _ h => congrArg List.length h.2.1) ?_
    rintro _ _ _ ⟨rfl, rfl, e9⟩
    refine AW_I e9 ?_
    clear e9
    refine A_if_ne 19 rfl dX7_out_13 (fun cq13 => ?_) (fun cq13 => ?_)
    · skip
      have hok : ((0 ≤ f ∧ f ≤ 7) ∧ (0 ≤ w ∧ w ≤ 1)) := ⟨b2i_p.mp cq4, b2i_p.mp cq13⟩
      obtain ⟨i, hi, rfl⟩ := in_get (a := 7) rfl hok.1
      refine A_aload_n rfl dX7_out_19 ?_
      refine A_getR fr_X7_28.g rfl lay_0 rfl dX7_out_20 ?_
      refine A_iload_n rfl dX7_out_23 ?_
      refine A_iload_n rfl dX7_out_24 ?_
      refine A_callV (s_out l G 36 j36 I N n hn hN hR hK i (by omega) w) m_X0_comesOut ml_X7_150 rfl (lj j36) rfl (by decide) rfl rfl (Nat.le_of_ble_eq_true rfl) (by decide) (by decide) (by decide) dX7_out_25 (fun _ _ _ hqq => congrArg List.length hqq.2.1) ?_
      rintro _ _ K2 ⟨rfl, rfl, hR2, hf2⟩
      refine A_iret rfl rfl rfl rfl dX7_out_28 ?_
      exact ⟨by rw [f_out, if_pos hok, nI_clamp (by omega)], rfl, by rw [n_out, if_pos hok, nI_clamp (by omega)]; exact ⟨hR2, hf2⟩⟩
    · skip
      refine A_ldc kc_X7_60 rfl dX7_out_16 ?_
      refine A_iret rfl rfl rfl rfl dX7_out_18 ?_
      have hno : ¬ ((0 ≤ f ∧ f ≤ 7) ∧ (0 ≤ w ∧ w ≤ 1)) := by
        first
          | (have h7 := b2i_q.mp cq4; exact fun h9 => h7 h9.1)
          | (have h7 := b2i_q.mp cq13; exact fun h9 => h7 h9.2)
      exact ⟨by rw [f_out, if_neg hno], rfl, by rw [n_out, if_neg hno]; exact NowC.rf hR⟩
set_option maxHeartbeats 1000000 in
set_option maxRecDepth 100000 in
theorem m_out (l : Launch) (G : Gm) (I : Hp) (N : Nrow) (h87 : I 87 = N) (n : Nat) (hn : n ≤ 10) (hN : N 1 = nI n) (f w : Int32) : Meth l G yX8_out cX8_out 3 (some (FieldType.int)) 3 0 0 [.ref 86, .int f, .int w] LAY I (fun r lay1 I1 => r = some (.int (f_out N n f w)) ∧ lay1 = LAY ∧ I1 = setN I (n_out N n f w)) := by
  subst h87
  refine Meth.of (by decide +kernel) (by simp [Value.category]) (Nat.le_of_ble_eq_true rfl) ?_
  refine A_iload_n rfl dX8_out_0 ?_
  refine A_callS (s_isFactM l G _ _ _) m_X8_isFact ml_X8_145 rfl rfl rfl (Nat.le_of_ble_eq_true rfl) (by decide) (by decide) (by decide) dX8_out_1 (fun _ _ _ h => congrArg List.length h.2.1) ?_
  rintro _ _ _ ⟨rfl, rfl, e9⟩
  refine AW_I e9 ?_
  clear e9
  refine A_if_eq 25 rfl dX8_out_4 (fun cq4 => ?_) (fun cq4 => ?_)
  · skip
    refine A_ldc kc_X8_88 rfl dX8_out_25 ?_
    refine A_iret rfl rfl rfl rfl dX8_out_27 ?_
    first
      | (have h7 := b2i_q.mp cq4; have hno := (fun h9 => h7 h9.1 : ¬ ((0 ≤ f ∧ f ≤ 7) ∧ (0 ≤ w ∧ w ≤ 1))); exact ⟨by rw [f_out, if_neg hno], rfl, by rw [n_out, if_neg hno]; rw [setN_self]⟩)
      | (have h7 := b2i_q.mp cq13; have hno := (fun h9 => h7 h9.2 : ¬ ((0 ≤ f ∧ f ≤ 7) ∧ (0 ≤ w ∧ w ≤ 1))); exact ⟨by rw [f_out, if_neg hno], rfl, by rw [n_out, if_neg hno]; rw [setN_self]⟩)
      | exact ⟨by rw [f_out, if_pos hok, nI_clamp (by omega)], rfl, by rw [n_out, if_pos hok, nI_clamp (by omega)]⟩
  · skip
    refine A_iload_n rfl dX8_out_7 ?_
    refine A_iconst ic_0 dX8_out_8 ?_
    refine A_iconst ic_1 dX8_out_9 ?_
    refine A_callS (s_in l G _ _ _ _ _) m_X8_in ml_X8_80 rfl rfl rfl (Nat.le_of_ble_eq_true rfl) (by decide) (by decide) (by decide) dX8_out_10 (fun _ _ _ h => congrArg List.length h.2.1) ?_
    rintro _ _ _ ⟨rfl, rfl, e9⟩
    refine AW_I e9 ?_
    clear e9
    refine A_if_eq 25 rfl dX8_out_13 (fun cq13 => ?_) (fun cq13 => ?_)
    · skip
      refine A_ldc kc_X8_88 rfl dX8_out_25 ?_
      refine A_iret rfl rfl rfl rfl dX8_out_27 ?_
      first
        | (have h7 := b2i_q.mp cq4; have hno := (fun h9 => h7 h9.1 : ¬ ((0 ≤ f ∧ f ≤ 7) ∧ (0 ≤ w ∧ w ≤ 1))); exact ⟨by rw [f_out, if_neg hno], rfl, by rw [n_out, if_neg hno]; rw [setN_self]⟩)
        | (have h7 := b2i_q.mp cq13; have hno := (fun h9 => h7 h9.2 : ¬ ((0 ≤ f ∧ f ≤ 7) ∧ (0 ≤ w ∧ w ≤ 1))); exact ⟨by rw [f_out, if_neg hno], rfl, by rw [n_out, if_neg hno]; rw [setN_self]⟩)
        | exact ⟨by rw [f_out, if_pos hok, nI_clamp (by omega)], rfl, by rw [n_out, if_pos hok, nI_clamp (by omega)]⟩
    · skip
      have hok : ((0 ≤ f ∧ f ≤ 7) ∧ (0 ≤ w ∧ w ≤ 1)) := ⟨b2i_p.mp cq4, b2i_p.mp cq13⟩
      obtain ⟨i, hi, rfl⟩ := in_get (a := 7) rfl hok.1
      refine A_aload_n rfl dX8_out_16 ?_
      refine A_iload_n rfl dX8_out_17 ?_
      refine A_iload_n rfl dX8_out_18 ?_
      refine A_callV (t_out l G I _ rfl n hn hN i w) m_X8_comesOut ml_X8_153 rfl lay_86 rfl (by decide) rfl rfl (Nat.le_of_ble_eq_true rfl) (by decide) (by decide) (by decide) dX8_out_19 (fun _ _ _ h => congrArg List.length h.2.1) ?_
      rintro _ _ _ ⟨rfl, rfl, e9⟩
      refine AW_I e9 ?_
      clear e9
      refine A_goto 27 rfl dX8_out_22 ?_
      refine A_iret rfl rfl rfl rfl dX8_out_27 ?_
      first
        | (have h7 := b2i_q.mp cq4; have hno := (fun h9 => h7 h9.1 : ¬ ((0 ≤ f ∧ f ≤ 7) ∧ (0 ≤ w ∧ w ≤ 1))); exact ⟨by rw [f_out, if_neg hno], rfl, by rw [n_out, if_neg hno]; rw [setN_self]⟩)
        | (have h7 := b2i_q.mp cq13; have hno := (fun h9 => h7 h9.2 : ¬ ((0 ≤ f ∧ f ≤ 7) ∧ (0 ≤ w ∧ w ≤ 1))); exact ⟨by rw [f_out, if_neg hno], rfl, by rw [n_out, if_neg hno]; rw [setN_self]⟩)
        | exact ⟨by rw [f_out, if_pos hok, nI_clamp (by omega)], rfl, by rw [n_out, if_pos hok, nI_clamp (by omega)]⟩
