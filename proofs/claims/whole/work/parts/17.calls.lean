theorem j36 : isJ 36 := Or.inl rfl
theorem j44 : isJ 44 := Or.inr (Or.inl rfl)
theorem j52 : isJ 52 := Or.inr (Or.inr rfl)
theorem jur_get {n : Nat} (hn : n ≤ 10) {x v : Int32} (hx : x = nI n) (h : 0 ≤ v ∧ v < x) : ∃ i, i < n ∧ v = nI i := by
  subst hx
  obtain ⟨i, hi1, hi2⟩ := nI_of (Int32.not_lt.mpr h.1)
  subst hi2
  exact ⟨i, (nI_ltI hi1 (by omega)).mp h.2, rfl⟩
theorem in_get {a : Nat} {v M : Int32} (hM : M.toInt = a) (h : 0 ≤ v ∧ v ≤ M) : ∃ i, i ≤ a ∧ v = nI i := nI_of2 hM (Int32.not_lt.mpr h.1) h.2
/-- a change of the jury that is now, and of nothing else -/
def NowC (I I1 : Hp) (N1 : Nrow) : Prop := RepJ I1 36 N1 ∧ ∀ k, (k < 36 ∨ 44 ≤ k) → I1 k = I k
theorem NowC.rf {I : Hp} {N : Nrow} (h : RepJ I 36 N) : NowC I I N := ⟨h, fun _ _ => rfl⟩
theorem fr_up {I : Hp} {a i : Nat} {x : Int32} (h1 : 36 ≤ a) (h2 : a < 44) : ∀ k, (k < 36 ∨ 44 ≤ k) → up2 I a i x k = I k := fun k hk => up2_ne (by omega)
set_option maxHeartbeats 1000000 in
set_option maxRecDepth 100000 in
theorem s_exch (l : Launch) (G : Gm) (I : Hp) (a len i : Nat) (v : Int32) (hla : LAY[a]? = some (9, len, [])) (hi : i < len) (hl : len < 2 ^ 31) : Meth l G yX7_exchange cX7_exchange 4 (some (FieldType.int)) 1 0 0 [.ref a, .int (nI i), .int v] LAY I (fun r lay1 I1 => r = some (.int (I a i)) ∧ lay1 = LAY ∧ I1 = up2 I a i v) := by
  refine Meth.of (by decide +kernel) (by simp [Value.category]) (Nat.le_of_ble_eq_true rfl) ?_
  refine A_aload_n rfl dX7_exchange_0 ?_
  refine A_iload_n rfl dX7_exchange_1 ?_
  refine A_iald _ rfl hla hi hl dX7_exchange_2 ?_
  refine A_istore_n (by decide) rfl dX7_exchange_3 ?_
  refine A_aload_n rfl dX7_exchange_4 ?_
  refine A_iload_n rfl dX7_exchange_5 ?_
  refine A_iload_n rfl dX7_exchange_6 ?_
  refine A_iast _ rfl hla hi hl dX7_exchange_7 ?_
  refine A_iload_n rfl dX7_exchange_8 ?_
  refine A_iret rfl rfl rfl rfl dX7_exchange_9 ?_
  exact ⟨rfl, rfl, rfl⟩
def f_juror (n : Nat) (a b c : Int32) : Int32 := if (0 ≤ a ∧ a ≤ 5) ∧ (0 ≤ b ∧ b ≤ 1) ∧ (0 ≤ c ∧ c ≤ 40) then (if n = 10 then -1000000003 else nI n) else -1000000001
def n_juror (N : Nrow) (n : Nat) (a b c : Int32) : Nrow := if (0 ≤ a ∧ a ≤ 5) ∧ (0 ≤ b ∧ b ≤ 1) ∧ (0 ≤ c ∧ c ≤ 40) then (if n = 10 then N else q_add N n a b 0 c) else N
set_option maxHeartbeats 1000000 in
set_option maxRecDepth 100000 in
theorem c_juror (l : Launch) (G : Gm) (I : Hp) (N : Nrow) (n : Nat) (hn : n ≤ 10) (hN : N 1 = nI n) (hR : RepJ I 36 N) (a b c : Int32) : Meth l G yX7_juror cX7_juror 4 (some (FieldType.int)) 3 0 0 [.ref 0, .int a, .int b, .int c] LAY I (fun r lay1 I1 => r = some (.int (f_juror n a b c)) ∧ lay1 = LAY ∧ NowC I I1 (n_juror N n a b c)) := by
  have hsz : I 36 8 = nI n := hR.1.1.trans hN
  refine Meth.of (by decide +kernel) (by simp [Value.category]) (Nat.le_of_ble_eq_true rfl) ?_
  refine A_iload_n rfl dX7_juror_0 ?_
  refine A_iconst ic_0 dX7_juror_1 ?_
  refine A_iconst ic_5 dX7_juror_2 ?_
  refine A_callS (s_within l G _ _ _ _ _) m_X7_within ml_X7_56 rfl rfl rfl (Nat.le_of_ble_eq_true rfl) (by decide) (by decide) (by decide) dX7_juror_3 (fun _ _ _ h => congrArg List.length h.2.1) ?_
  rintro _ _ _ ⟨rfl, rfl, e9⟩
  refine AW_I e9 ?_
  clear e9
  refine A_if_eq 28 rfl dX7_juror_6 (fun cq6 => ?_) (fun cq6 => ?_)
  · skip
    refine A_ldc kc_X7_60 rfl dX7_juror_28 ?_
    refine A_iret rfl rfl rfl rfl dX7_juror_30 ?_
    have hno : ¬ ((0 ≤ a ∧ a ≤ 5) ∧ (0 ≤ b ∧ b ≤ 1) ∧ (0 ≤ c ∧ c ≤ 40)) := by
      first
        | (have h7 := b2i_q.mp cq6; exact fun h9 => h7 h9.1)
        | (have h7 := b2i_q.mp cq15; exact fun h9 => h7 h9.2.1)
        | (have h7 := b2i_q.mp cq25; exact fun h9 => h7 h9.2.2)
    exact ⟨by rw [f_juror, if_neg hno], rfl, by rw [n_juror, if_neg hno]; exact NowC.rf hR⟩
  · skip
    refine A_iload_n rfl dX7_juror_9 ?_
    refine A_iconst ic_0 dX7_juror_10 ?_
    refine A_iconst ic_1 dX7_juror_11 ?_
    refine A_callS (s_within l G _ _ _ _ _) m_X7_within ml_X7_56 rfl rfl rfl (Nat.le_of_ble_eq_true rfl) (by decide) (by decide) (by decide) dX7_juror_12 (fun _ _ _ h => congrArg List.length h.2.1) ?_
    rintro _ _ _ ⟨rfl, rfl, e9⟩
    refine AW_I e9 ?_
    clear e9
    refine A_if_eq 28 rfl dX7_juror_15 (fun cq15 => ?_) (fun cq15 => ?_)
    · skip
      refine A_ldc kc_X7_60 rfl dX7_juror_28 ?_
      refine A_iret rfl rfl rfl rfl dX7_juror_30 ?_
      have hno : ¬ ((0 ≤ a ∧ a ≤ 5) ∧ (0 ≤ b ∧ b ≤ 1) ∧ (0 ≤ c ∧ c ≤ 40)) := by
        first
          | (have h7 := b2i_q.mp cq6; exact fun h9 => h7 h9.1)
          | (have h7 := b2i_q.mp cq15; exact fun h9 => h7 h9.2.1)
          | (have h7 := b2i_q.mp cq25; exact fun h9 => h7 h9.2.2)
      exact ⟨by rw [f_juror, if_neg hno], rfl, by rw [n_juror, if_neg hno]; exact NowC.rf hR⟩
    · skip
      refine A_iload_n rfl dX7_juror_18 ?_
      refine A_iconst ic_0 dX7_juror_19 ?_
      refine A_bipush bp_40 dX7_juror_20 ?_
      refine A_callS (s_within l G _ _ _ _ _) m_X7_within ml_X7_56 rfl rfl rfl (Nat.le_of_ble_eq_true rfl) (by decide) (by decide) (by decide) dX7_juror_22 (fun _ _ _ h => congrArg List.length h.2.1) ?_
      rintro _ _ _ ⟨rfl, rfl, e9⟩
      refine AW_I e9 ?_
      clear e9
      refine A_if_ne 31 rfl dX7_juror_25 (fun cq25 => ?_) (fun cq25 => ?_)
      · skip
        have hok : (0 ≤ a ∧ a ≤ 5) ∧ (0 ≤ b ∧ b ≤ 1) ∧ (0 ≤ c ∧ c ≤ 40) := ⟨b2i_p.mp cq6, b2i_p.mp cq15, b2i_p.mp cq25⟩
        refine A_aload_n rfl dX7_juror_31 ?_
        refine A_getR fr_X7_28.g rfl lay_0 rfl dX7_juror_32 ?_
        refine A_getI fr_X7_61.g rfl (lj j36) dX7_juror_35 ?_
        refine A_bipush bp_10 dX7_juror_38 ?_
        refine A_icmp_lt 46 rfl dX7_juror_40 (fun cq40 => ?_) (fun cq40 => ?_)
        · skip
          have hlt : n < 10 := (lt_nI hsz (show (10 : Int32) = nI 10 from rfl) (by omega) (by omega)).mp cq40
          refine A_aload_n rfl dX7_juror_46 ?_
          refine A_getR fr_X7_28.g rfl lay_0 rfl dX7_juror_47 ?_
          refine A_iload_n rfl dX7_juror_50 ?_
          refine A_iload_n rfl dX7_juror_51 ?_
          refine A_iconst ic_0 dX7_juror_52 ?_
          refine A_iload_n rfl dX7_juror_53 ?_
          refine A_callV (s_add l G 36 j36 I N n hlt hN hR a b 0 c) m_X0_add ml_X7_66 rfl (lj j36) rfl (by decide) rfl rfl (Nat.le_of_ble_eq_true rfl) (by decide) (by decide) (by decide) dX7_juror_54 (fun _ _ _ hqq => congrArg List.length hqq.2.1) ?_
          rintro _ _ K2 ⟨rfl, rfl, hR2, hf2⟩
          refine A_aload_n rfl dX7_juror_57 ?_
          refine A_getR fr_X7_28.g rfl lay_0 rfl dX7_juror_58 ?_
          refine A_getI fr_X7_61.g rfl (lj j36) dX7_juror_61 ?_
          refine A_iconst ic_1 dX7_juror_64 ?_
          refine A_isub dX7_juror_65 ?_
          refine A_iret rfl rfl rfl rfl dX7_juror_66 ?_
          refine ⟨?_, rfl, ?_⟩
          · have h8 : K2 36 8 = nI n + 1 := by rw [hR2.1.1, q_add, upd_s, hN]
            rw [h8, f_juror, if_pos hok, if_neg (by omega), nI_1, nI_pred]
          · rw [n_juror, if_pos hok, if_neg (by omega)]
            exact ⟨hR2, hf2⟩
        · skip
          refine A_ldc kc_X7_65 rfl dX7_juror_43 ?_
          refine A_iret rfl rfl rfl rfl dX7_juror_45 ?_
          have hn10 : n = 10 := by
            have hq1 := mt (lt_nI hsz (show (10 : Int32) = nI 10 from rfl) (by omega) (by omega)).mpr cq40
            omega
          exact ⟨by rw [f_juror, if_pos hok, if_pos hn10], rfl, by rw [n_juror, if_pos hok, if_pos hn10]; exact NowC.rf hR⟩
      · skip
        refine A_ldc kc_X7_60 rfl dX7_juror_28 ?_
        refine A_iret rfl rfl rfl rfl dX7_juror_30 ?_
        have hno : ¬ ((0 ≤ a ∧ a ≤ 5) ∧ (0 ≤ b ∧ b ≤ 1) ∧ (0 ≤ c ∧ c ≤ 40)) := by
          first
            | (have h7 := b2i_q.mp cq6; exact fun h9 => h7 h9.1)
            | (have h7 := b2i_q.mp cq15; exact fun h9 => h7 h9.2.1)
            | (have h7 := b2i_q.mp cq25; exact fun h9 => h7 h9.2.2)
        exact ⟨by rw [f_juror, if_neg hno], rfl, by rw [n_juror, if_neg hno]; exact NowC.rf hR⟩
set_option maxHeartbeats 1000000 in
set_option maxRecDepth 100000 in
theorem m_juror (l : Launch) (G : Gm) (I : Hp) (N : Nrow) (h87 : I 87 = N) (n : Nat) (hn : n ≤ 10) (hN : N 1 = nI n) (a b c : Int32) : Meth l G yX8_juror cX8_juror 4 (some (FieldType.int)) 3 0 0 [.ref 86, .int a, .int b, .int c] LAY I (fun r lay1 I1 => r = some (.int (f_juror n a b c)) ∧ lay1 = LAY ∧ I1 = setN I (n_juror N n a b c)) := by
  subst h87
  refine Meth.of (by decide +kernel) (by simp [Value.category]) (Nat.le_of_ble_eq_true rfl) ?_
  refine A_iload_n rfl dX8_juror_0 ?_
  refine A_iconst ic_0 dX8_juror_1 ?_
  refine A_iconst ic_5 dX8_juror_2 ?_
  refine A_callS (s_in l G _ _ _ _ _) m_X8_in ml_X8_80 rfl rfl rfl (Nat.le_of_ble_eq_true rfl) (by decide) (by decide) (by decide) dX8_juror_3 (fun _ _ _ h => congrArg List.length h.2.1) ?_
  rintro _ _ _ ⟨rfl, rfl, e9⟩
  refine AW_I e9 ?_
  clear e9
  refine A_if_eq 28 rfl dX8_juror_6 (fun cq6 => ?_) (fun cq6 => ?_)
  · skip
    refine A_ldc kc_X8_88 rfl dX8_juror_28 ?_
    refine A_iret rfl rfl rfl rfl dX8_juror_30 ?_
    have hno : ¬ ((0 ≤ a ∧ a ≤ 5) ∧ (0 ≤ b ∧ b ≤ 1) ∧ (0 ≤ c ∧ c ≤ 40)) := by
      first
        | (have h7 := b2i_q.mp cq6; exact fun h9 => h7 h9.1)
        | (have h7 := b2i_q.mp cq15; exact fun h9 => h7 h9.2.1)
        | (have h7 := b2i_q.mp cq25; exact fun h9 => h7 h9.2.2)
    exact ⟨by rw [f_juror, if_neg hno], rfl, by rw [n_juror, if_neg hno, setN_self]⟩
  · skip
    refine A_iload_n rfl dX8_juror_9 ?_
    refine A_iconst ic_0 dX8_juror_10 ?_
    refine A_iconst ic_1 dX8_juror_11 ?_
    refine A_callS (s_in l G _ _ _ _ _) m_X8_in ml_X8_80 rfl rfl rfl (Nat.le_of_ble_eq_true rfl) (by decide) (by decide) (by decide) dX8_juror_12 (fun _ _ _ h => congrArg List.length h.2.1) ?_
    rintro _ _ _ ⟨rfl, rfl, e9⟩
    refine AW_I e9 ?_
    clear e9
    refine A_if_eq 28 rfl dX8_juror_15 (fun cq15 => ?_) (fun cq15 => ?_)
    · skip
      refine A_ldc kc_X8_88 rfl dX8_juror_28 ?_
      refine A_iret rfl rfl rfl rfl dX8_juror_30 ?_
      have hno : ¬ ((0 ≤ a ∧ a ≤ 5) ∧ (0 ≤ b ∧ b ≤ 1) ∧ (0 ≤ c ∧ c ≤ 40)) := by
        first
          | (have h7 := b2i_q.mp cq6; exact fun h9 => h7 h9.1)
          | (have h7 := b2i_q.mp cq15; exact fun h9 => h7 h9.2.1)
          | (have h7 := b2i_q.mp cq25; exact fun h9 => h7 h9.2.2)
      exact ⟨by rw [f_juror, if_neg hno], rfl, by rw [n_juror, if_neg hno, setN_self]⟩
    · skip
      refine A_iload_n rfl dX8_juror_18 ?_
      refine A_iconst ic_0 dX8_juror_19 ?_
      refine A_bipush bp_40 dX8_juror_20 ?_
      refine A_callS (s_in l G _ _ _ _ _) m_X8_in ml_X8_80 rfl rfl rfl (Nat.le_of_ble_eq_true rfl) (by decide) (by decide) (by decide) dX8_juror_22 (fun _ _ _ h => congrArg List.length h.2.1) ?_
      rintro _ _ _ ⟨rfl, rfl, e9⟩
      refine AW_I e9 ?_
      clear e9
      refine A_if_ne 31 rfl dX8_juror_25 (fun cq25 => ?_) (fun cq25 => ?_)
      · skip
        have hok : (0 ≤ a ∧ a ≤ 5) ∧ (0 ≤ b ∧ b ≤ 1) ∧ (0 ≤ c ∧ c ≤ 40) := ⟨b2i_p.mp cq6, b2i_p.mp cq15, b2i_p.mp cq25⟩
        refine A_aload_n rfl dX8_juror_31 ?_
        refine A_getR fr_X8_9.g rfl lay_86 rfl dX8_juror_32 ?_
        refine A_iconst ic_1 dX8_juror_35 ?_
        refine A_iald 1 rfl lay_87 (by decide) (by decide) dX8_juror_36 ?_
        refine A_bipush bp_10 dX8_juror_37 ?_
        refine A_icmp_ne 47 rfl dX8_juror_39 (fun cq39 => ?_) (fun cq39 => ?_)
        · skip
          have hlt : n ≠ 10 := fun h9 => cq39 ((eq_nI hN (show (10 : Int32) = nI 10 from rfl) (by omega) (by omega)).mpr h9)
          refine A_aload_n rfl dX8_juror_47 ?_
          refine A_iload_n rfl dX8_juror_48 ?_
          refine A_iload_n rfl dX8_juror_49 ?_
          refine A_iconst ic_0 dX8_juror_50 ?_
          refine A_iload_n rfl dX8_juror_51 ?_
          refine A_callV (t_comes l G I _ rfl n (by omega) hN a b 0 c) m_X8_comes ml_X8_90 rfl lay_86 rfl (by decide) rfl rfl (Nat.le_of_ble_eq_true rfl) (by decide) (by decide) (by decide) dX8_juror_52 (fun _ _ _ h => congrArg List.length h.2.1) ?_
          rintro _ _ _ ⟨rfl, rfl, e9⟩
          refine AW_I e9 ?_
          clear e9
          refine A_iret rfl rfl rfl rfl dX8_juror_55 ?_
          first
            | (have h7 : n = 10 := hn10; exact ⟨by rw [f_juror, if_pos hok, if_pos h7], rfl, by rw [n_juror, if_pos hok, if_pos h7, setN_self]⟩)
            | (have h7 : n ≠ 10 := hlt; exact ⟨by rw [f_juror, if_pos hok, if_neg h7], rfl, by rw [n_juror, if_pos hok, if_neg h7]⟩)
        · skip
          have hn10 : n = 10 := (eq_nI hN (show (10 : Int32) = nI 10 from rfl) (by omega) (by omega)).mp cq39
          refine A_ldc kc_X8_89 rfl dX8_juror_42 ?_
          refine A_goto 55 rfl dX8_juror_44 ?_
          refine A_iret rfl rfl rfl rfl dX8_juror_55 ?_
          first
            | (have h7 : n = 10 := hn10; exact ⟨by rw [f_juror, if_pos hok, if_pos h7], rfl, by rw [n_juror, if_pos hok, if_pos h7, setN_self]⟩)
            | (have h7 : n ≠ 10 := hlt; exact ⟨by rw [f_juror, if_pos hok, if_neg h7], rfl, by rw [n_juror, if_pos hok, if_neg h7]⟩)
      · skip
        refine A_ldc kc_X8_88 rfl dX8_juror_28 ?_
        refine A_iret rfl rfl rfl rfl dX8_juror_30 ?_
        have hno : ¬ ((0 ≤ a ∧ a ≤ 5) ∧ (0 ≤ b ∧ b ≤ 1) ∧ (0 ≤ c ∧ c ≤ 40)) := by
          first
            | (have h7 := b2i_q.mp cq6; exact fun h9 => h7 h9.1)
            | (have h7 := b2i_q.mp cq15; exact fun h9 => h7 h9.2.1)
            | (have h7 := b2i_q.mp cq25; exact fun h9 => h7 h9.2.2)
        exact ⟨by rw [f_juror, if_neg hno], rfl, by rw [n_juror, if_neg hno, setN_self]⟩
set_option maxHeartbeats 1000000 in
set_option maxRecDepth 100000 in
theorem c_seed (l : Launch) (G : Gm) (I : Hp) (N : Nrow) (n : Nat) (hn : n ≤ 10) (hN : N 1 = nI n) (hR : RepJ I 36 N) (v : Int32) : Meth l G yX7_seed cX7_seed 3 (some (FieldType.int)) 1 0 0 [.ref 0, .int v] LAY I (fun r lay1 I1 => r = some (.int (N 0)) ∧ lay1 = LAY ∧ NowC I I1 (upd N 0 v)) := by
  refine Meth.of (by decide +kernel) (by simp [Value.category]) (Nat.le_of_ble_eq_true rfl) ?_
  refine A_aload_n rfl dX7_seed_0 ?_
  refine A_getR fr_X7_28.g rfl lay_0 rfl dX7_seed_1 ?_
  refine A_getI fr_X7_147.g rfl (lj j36) dX7_seed_4 ?_
  refine A_istore_n (by decide) rfl dX7_seed_7 ?_
  refine A_aload_n rfl dX7_seed_8 ?_
  refine A_getR fr_X7_28.g rfl lay_0 rfl dX7_seed_9 ?_
  refine A_iload_n rfl dX7_seed_12 ?_
  refine A_putI fr_X7_147 rfl (lj j36) rfl rfl dX7_seed_13 ?_
  refine A_iload_n rfl dX7_seed_16 ?_
  refine A_iret rfl rfl rfl rfl dX7_seed_17 ?_
  exact ⟨by rw [hR.1.2.2.2.2.2.2.1], rfl, hR.z, fr_up (by decide) (by decide)⟩
set_option maxHeartbeats 1000000 in
set_option maxRecDepth 100000 in
theorem m_seed (l : Launch) (G : Gm) (I : Hp) (N : Nrow) (h87 : I 87 = N) (v : Int32) : Meth l G yX8_seed cX8_seed 2 (some (FieldType.int)) 2 0 0 [.ref 86, .int v] LAY I (fun r lay1 I1 => r = some (.int (N 0)) ∧ lay1 = LAY ∧ I1 = setN I (upd N 0 v)) := by
  subst h87
  refine Meth.of (by decide +kernel) (by simp [Value.category]) (Nat.le_of_ble_eq_true rfl) ?_
  refine A_aload_n rfl dX8_seed_0 ?_
  refine A_iconst ic_0 dX8_seed_1 ?_
  refine A_iload_n rfl dX8_seed_2 ?_
  refine A_callV (t_becomes l G I _ rfl 0 v (by decide)) m_X8_becomes ml_X8_142 rfl lay_86 rfl (by decide) rfl rfl (Nat.le_of_ble_eq_true rfl) (by decide) (by decide) (by decide) dX8_seed_3 (fun _ _ _ h => congrArg List.length h.2.1) ?_
  rintro _ _ _ ⟨rfl, rfl, e9⟩
  refine AW_I e9 ?_
  clear e9
  refine A_iret rfl rfl rfl rfl dX8_seed_6 ?_
  exact ⟨rfl, rfl, rfl⟩
def f_weigh (N : Nrow) (f v : Int32) : Int32 := if (0 ≤ f ∧ f ≤ 7) ∧ (-50 ≤ v ∧ v ≤ 50) then N (8 + f.toNatClampNeg) else -1000000001
def n_weigh (N : Nrow) (f v : Int32) : Nrow := if (0 ≤ f ∧ f ≤ 7) ∧ (-50 ≤ v ∧ v ≤ 50) then upd N (8 + f.toNatClampNeg) v else N
set_option maxHeartbeats 1000000 in
set_option maxRecDepth 100000 in
theorem c_weigh (l : Launch) (G : Gm) (I : Hp) (N : Nrow) (n : Nat) (hn : n ≤ 10) (hN : N 1 = nI n) (hR : RepJ I 36 N) (f v : Int32) : Meth l G yX7_weigh cX7_weigh 3 (some (FieldType.int)) 3 0 0 [.ref 0, .int f, .int v] LAY I (fun r lay1 I1 => r = some (.int (f_weigh N f v)) ∧ lay1 = LAY ∧ NowC I I1 (n_weigh N f v)) := by
  refine Meth.of (by decide +kernel) (by simp [Value.category]) (Nat.le_of_ble_eq_true rfl) ?_
  refine A_iload_n rfl dX7_weigh_0 ?_
  refine A_callS (s_isFact l G _ _ _) m_X7_isFact ml_X7_124 rfl rfl rfl (Nat.le_of_ble_eq_true rfl) (by decide) (by decide) (by decide) dX7_weigh_1 (fun _ _ _ h => congrArg List.length h.2.1) ?_
  rintro _ _ _ ⟨rfl, rfl, e9⟩
  refine AW_I e9 ?_
  clear e9
  refine A_if_eq 18 rfl dX7_weigh_4 (fun cq4 => ?_) (fun cq4 => ?_)
  · skip
    refine A_ldc kc_X7_60 rfl dX7_weigh_18 ?_
    refine A_iret rfl rfl rfl rfl dX7_weigh_20 ?_
    have hno : ¬ ((0 ≤ f ∧ f ≤ 7) ∧ (-50 ≤ v ∧ v ≤ 50)) := by
      first
        | (have h7 := b2i_q.mp cq4; exact fun h9 => h7 h9.1)
        | (have h7 := b2i_q.mp cq15; exact fun h9 => h7 h9.2)
    exact ⟨by rw [f_weigh, if_neg hno], rfl, by rw [n_weigh, if_neg hno]; exact NowC.rf hR⟩
  · skip
    refine A_iload_n rfl dX7_weigh_7 ?_
    refine A_bipush bp_m50 dX7_weigh_8 ?_
    refine A_bipush bp_50 dX7_weigh_10 ?_
    refine A_callS (s_within l G _ _ _ _ _) m_X7_within ml_X7_56 rfl rfl rfl (Nat.le_of_ble_eq_true rfl) (by decide) (by decide) (by decide) dX7_weigh_12 (fun _ _ _ h => congrArg List.length h.2.1) ?_
    rintro _ _ _ ⟨rfl, rfl, e9⟩
    refine AW_I e9 ?_
    clear e9
    refine A_if_ne 21 rfl dX7_weigh_15 (fun cq15 => ?_) (fun cq15 => ?_)
    · skip
      have hok : (0 ≤ f ∧ f ≤ 7) ∧ (-50 ≤ v ∧ v ≤ 50) := ⟨b2i_p.mp cq4, b2i_p.mp cq15⟩
      obtain ⟨i, hi, rfl⟩ := in_get (a := 7) rfl hok.1
      refine A_aload_n rfl dX7_weigh_21 ?_
      refine A_getR fr_X7_28.g rfl lay_0 rfl dX7_weigh_22 ?_
      refine A_getR fr_X7_127 rfl (lj j36) rfl dX7_weigh_25 ?_
      refine A_iload_n rfl dX7_weigh_28 ?_
      refine A_iload_n rfl dX7_weigh_29 ?_
      refine A_callS (s_exch l G I (36 + 6) 8 i v (lj6 j36) (by omega) (by decide)) m_X7_exchange ml_X7_120 rfl rfl rfl (Nat.le_of_ble_eq_true rfl) (by decide) (by decide) (by decide) dX7_weigh_30 (fun _ _ _ h => congrArg List.length h.2.1) ?_
      rintro _ _ _ ⟨rfl, rfl, e9⟩
      refine AW_I e9 ?_
      clear e9
      refine A_iret rfl rfl rfl rfl dX7_weigh_33 ?_
      exact ⟨by rw [f_weigh, if_pos hok, nI_clamp (by omega), hR.2.2.2.2.2.2.1 i (by omega)], rfl, by rw [n_weigh, if_pos hok, nI_clamp (by omega)]; exact ⟨hR.weight (by omega), fr_up (by decide) (by decide)⟩⟩
    · skip
      refine A_ldc kc_X7_60 rfl dX7_weigh_18 ?_
      refine A_iret rfl rfl rfl rfl dX7_weigh_20 ?_
      have hno : ¬ ((0 ≤ f ∧ f ≤ 7) ∧ (-50 ≤ v ∧ v ≤ 50)) := by
        first
          | (have h7 := b2i_q.mp cq4; exact fun h9 => h7 h9.1)
          | (have h7 := b2i_q.mp cq15; exact fun h9 => h7 h9.2)
      exact ⟨by rw [f_weigh, if_neg hno], rfl, by rw [n_weigh, if_neg hno]; exact NowC.rf hR⟩
