def SlC (I : Hp) (H A B : Nrow) (E : Fn2) : Prop := ∀ q, q < 5 → I (70 + 3 * q) 0 = H q ∧ (H q = 1 → I (70 + 3 * q) 1 = A q ∧ q_worth (A q) (I (70 + 3 * q) 2) = B q) ∧ (H q = 2 → I (70 + 3 * q + 1) 1 = A q ∧ ∀ k, k < 24 → I (70 + 3 * q + 1 + 1) k = E q k) ∧ (H q = 3 → I (70 + 3 * q) 3 = A q)
def SlM (I : Hp) (H A B : Nrow) (E : Fn2) : Prop := ∀ q, q < 5 → I 102 q = H q ∧ I 103 q = A q ∧ I 104 q = B q ∧ ∀ k, k < 24 → I 105 (24 * q + k) = E q k
def SlW (H A : Nrow) : Prop := ∀ q, q < 5 → (H q = 0 ∨ H q = 1 ∨ H q = 2 ∨ H q = 3) ∧ (H q = 2 → ∃ m, m ≤ 24 ∧ A q = nI m)
def q_isOf (k w : Int32) : Prop := w = 0 ∨ k = w ∨ (w = 1 ∧ k = 3) ∨ (w = 2 ∧ k = 4)
def f_ask (H A B : Nrow) (q w : Int32) : Int32 := if (0 ≤ q ∧ q ≤ 4) ∧ (0 ≤ w ∧ w ≤ 5) then (if H q.toNatClampNeg = 0 then -1000000011 else if H q.toNatClampNeg = 1 then (if w = 0 ∨ A q.toNatClampNeg = w ∨ (w = 1 ∧ A q.toNatClampNeg = 3) ∨ (w = 2 ∧ A q.toNatClampNeg = 4) then B q.toNatClampNeg else -1000000012) else -1000000012) else -1000000001
def f_item (H A : Nrow) (E : Fn2) (q k : Int32) : Int32 := if 0 ≤ q ∧ q ≤ 4 then (if H q.toNatClampNeg = 0 then -1000000011 else if H q.toNatClampNeg = 2 then (if 0 ≤ k ∧ k < A q.toNatClampNeg then (if E q.toNatClampNeg k.toNatClampNeg = -1000000005 then -1000000012 else E q.toNatClampNeg k.toNatClampNeg) else -1000000013) else -1000000012) else -1000000001
def f_rest (H A : Nrow) (q d : Int32) : Int32 := if 0 ≤ q ∧ q ≤ 4 then (if H q.toNatClampNeg = 0 then -1000000011 else if H q.toNatClampNeg = 3 then (if d = 0 then -1000000002 else irem (A q.toNatClampNeg) d) else -1000000012) else -1000000001
theorem irem_m1 (x : Int32) : irem x (-1) = 0 := by
  unfold irem
  have e : x / -1 = -x := by
    apply Int32.toInt_inj.mp
    rw [Int32.toInt_div, Int32.toInt_neg]
    simp
  rw [e, Int32.neg_mul, show -(x * -1) = x by rw [Int32.mul_neg, Int32.mul_one, Int32.neg_neg]]
  exact Int32.sub_self x
set_option maxHeartbeats 1000000 in
set_option maxRecDepth 100000 in
theorem c_ask (l : Launch) (G : Gm) (I : Hp) (H A B : Nrow) (E : Fn2) (hS : SlC I H A B E) (hW : SlW H A) (q w : Int32) : Meth l G yX7_ask cX7_ask 4 (some (FieldType.int)) 4 0 0 [.ref 0, .int q, .int w] LAY I (fun r lay1 I1 => r = some (.int (f_ask H A B q w)) ∧ lay1 = LAY ∧ I1 = I) := by
  refine Meth.of (by decide +kernel) (by simp [Value.category]) (Nat.le_of_ble_eq_true rfl) ?_
  refine A_iload_n rfl dX7_ask_0 ?_
  refine A_callS (s_isSlot l G _ _ _) m_X7_isSlot ml_X7_264 rfl rfl rfl (Nat.le_of_ble_eq_true rfl) (by decide) (by decide) (by decide) dX7_ask_1 (fun _ _ _ h => congrArg List.length h.2.1) ?_
  rintro _ _ _ ⟨rfl, rfl, e9⟩
  refine AW_I e9 ?_
  clear e9
  refine A_if_eq 16 rfl dX7_ask_4 (fun cq4 => ?_) (fun cq4 => ?_)
  · skip
    refine A_ldc kc_X7_60 rfl dX7_ask_16 ?_
    refine A_iret rfl rfl rfl rfl dX7_ask_18 ?_
    have hno : ¬ ((0 ≤ q ∧ q ≤ 4) ∧ (0 ≤ w ∧ w ≤ 5)) := by
      first
        | (have h7 := b2i_q.mp cq4; exact fun h9 => h7 h9.1)
        | (have h7 := b2i_q.mp cq13; exact fun h9 => h7 h9.2)
    rw [f_ask, if_neg hno]
    exact ⟨rfl, rfl, rfl⟩
  · skip
    refine A_iload_n rfl dX7_ask_7 ?_
    refine A_iconst ic_0 dX7_ask_8 ?_
    refine A_iconst ic_5 dX7_ask_9 ?_
    refine A_callS (s_within l G _ _ _ _ _) m_X7_within ml_X7_56 rfl rfl rfl (Nat.le_of_ble_eq_true rfl) (by decide) (by decide) (by decide) dX7_ask_10 (fun _ _ _ h => congrArg List.length h.2.1) ?_
    rintro _ _ _ ⟨rfl, rfl, e9⟩
    refine AW_I e9 ?_
    clear e9
    refine A_if_ne 19 rfl dX7_ask_13 (fun cq13 => ?_) (fun cq13 => ?_)
    · skip
      have hok : (0 ≤ q ∧ q ≤ 4) ∧ (0 ≤ w ∧ w ≤ 5) := ⟨b2i_p.mp cq4, b2i_p.mp cq13⟩
      obtain ⟨i, hi, rfl⟩ := in_get (a := 4) rfl hok.1
      replace hi : i < 5 := by omega
      have eH : I (70 + 3 * i) 0 = H i := (hS i hi).1
      refine A_aload_n rfl dX7_ask_19 ?_
      refine A_getR fr_X7_47.g rfl lay_0 rfl dX7_ask_20 ?_
      refine A_iload_n rfl dX7_ask_23 ?_
      refine A_aald i rfl lay_69 (Or.inr (Or.inr rfl)) (by omega) (by decide) (sl_at i hi) dX7_ask_24 ?_
      refine A_astore_n (by decide) rfl dX7_ask_25 ?_
      refine A_aload_n rfl dX7_ask_26 ?_
      refine A_getI fr_X7_267.g rfl (lz hi) dX7_ask_27 ?_
      refine A_if_ne 36 rfl dX7_ask_30 (fun cq30 => ?_) (fun cq30 => ?_)
      · skip
        refine A_aload_n rfl dX7_ask_36 ?_
        refine A_getI fr_X7_267.g rfl (lz hi) dX7_ask_37 ?_
        refine A_iconst ic_1 dX7_ask_40 ?_
        refine A_icmp_ne 55 rfl dX7_ask_41 (fun cq41 => ?_) (fun cq41 => ?_)
        · skip
          refine A_ldc kc_X7_119 rfl dX7_ask_55 ?_
          refine A_iret rfl rfl rfl rfl dX7_ask_57 ?_
          rw [eH] at cq30 cq41
          rw [f_ask, if_pos hok, nI_clamp (by omega), if_neg cq30]
          first | (have h7 : ¬ H i = 1 := cq41; rw [if_neg h7]; exact ⟨rfl, rfl, rfl⟩) | (have h7 : H i = 1 := cq41; have h8 := b2i_q.mp cq52; rw [((hS i hi).2.1 h7).1] at h8; rw [if_pos h7, if_neg h8]; exact ⟨rfl, rfl, rfl⟩)
        · skip
          refine A_aload_n rfl dX7_ask_44 ?_
          refine A_getI fr_X7_270.g rfl (lz hi) dX7_ask_45 ?_
          refine A_iload_n rfl dX7_ask_48 ?_
          refine A_callS (s_isOf l G _ _ _ _) m_X1_isOf ml_X7_115 rfl rfl rfl (Nat.le_of_ble_eq_true rfl) (by decide) (by decide) (by decide) dX7_ask_49 (fun _ _ _ h => congrArg List.length h.2.1) ?_
          rintro _ _ _ ⟨rfl, rfl, e9⟩
          refine AW_I e9 ?_
          clear e9
          refine A_if_ne 58 rfl dX7_ask_52 (fun cq52 => ?_) (fun cq52 => ?_)
          · skip
            refine A_aload_n rfl dX7_ask_58 ?_
            refine A_getI fr_X7_270.g rfl (lz hi) dX7_ask_59 ?_
            refine A_aload_n rfl dX7_ask_62 ?_
            refine A_getI fr_X7_272.g rfl (lz hi) dX7_ask_63 ?_
            refine A_callS (s_worth l G _ _ _ _) m_X1_worth ml_X7_99 rfl rfl rfl (Nat.le_of_ble_eq_true rfl) (by decide) (by decide) (by decide) dX7_ask_66 (fun _ _ _ h => congrArg List.length h.2.1) ?_
            rintro _ _ _ ⟨rfl, rfl, e9⟩
            refine AW_I e9 ?_
            clear e9
            refine A_iret rfl rfl rfl rfl dX7_ask_69 ?_
            rw [eH] at cq30 cq41
            have h8 := b2i_p.mp cq52
            have hA := (hS i hi).2.1 cq41
            rw [hA.1] at h8
            rw [f_ask, if_pos hok, nI_clamp (by omega), if_neg cq30, if_pos cq41, if_pos h8, hA.1, hA.2]
            exact ⟨rfl, rfl, rfl⟩
          · skip
            refine A_ldc kc_X7_119 rfl dX7_ask_55 ?_
            refine A_iret rfl rfl rfl rfl dX7_ask_57 ?_
            rw [eH] at cq30 cq41
            rw [f_ask, if_pos hok, nI_clamp (by omega), if_neg cq30]
            first | (have h7 : ¬ H i = 1 := cq41; rw [if_neg h7]; exact ⟨rfl, rfl, rfl⟩) | (have h7 : H i = 1 := cq41; have h8 := b2i_q.mp cq52; rw [((hS i hi).2.1 h7).1] at h8; rw [if_pos h7, if_neg h8]; exact ⟨rfl, rfl, rfl⟩)
      · skip
        refine A_ldc kc_X7_192 rfl dX7_ask_33 ?_
        refine A_iret rfl rfl rfl rfl dX7_ask_35 ?_
        rw [eH] at cq30
        rw [f_ask, if_pos hok, nI_clamp (by omega), if_pos cq30]
        exact ⟨rfl, rfl, rfl⟩
    · skip
      refine A_ldc kc_X7_60 rfl dX7_ask_16 ?_
      refine A_iret rfl rfl rfl rfl dX7_ask_18 ?_
      have hno : ¬ ((0 ≤ q ∧ q ≤ 4) ∧ (0 ≤ w ∧ w ≤ 5)) := by
        first
          | (have h7 := b2i_q.mp cq4; exact fun h9 => h7 h9.1)
          | (have h7 := b2i_q.mp cq13; exact fun h9 => h7 h9.2)
      rw [f_ask, if_neg hno]
      exact ⟨rfl, rfl, rfl⟩
set_option maxHeartbeats 1000000 in
set_option maxRecDepth 100000 in
theorem m_ask (l : Launch) (G : Gm) (I : Hp) (H A B : Nrow) (E : Fn2) (hS : SlM I H A B E) (hW : SlW H A) (q w : Int32) : Meth l G yX8_ask cX8_ask 3 (some (FieldType.int)) 4 0 0 [.ref 86, .int q, .int w] LAY I (fun r lay1 I1 => r = some (.int (f_ask H A B q w)) ∧ lay1 = LAY ∧ I1 = I) := by
  refine Meth.of (by decide +kernel) (by simp [Value.category]) (Nat.le_of_ble_eq_true rfl) ?_
  refine A_iload_n rfl dX8_ask_0 ?_
  refine A_callS (s_isSlotM l G _ _ _) m_X8_isSlot ml_X8_272 rfl rfl rfl (Nat.le_of_ble_eq_true rfl) (by decide) (by decide) (by decide) dX8_ask_1 (fun _ _ _ h => congrArg List.length h.2.1) ?_
  rintro _ _ _ ⟨rfl, rfl, e9⟩
  refine AW_I e9 ?_
  clear e9
  refine A_if_eq 16 rfl dX8_ask_4 (fun cq4 => ?_) (fun cq4 => ?_)
  · skip
    refine A_ldc kc_X8_88 rfl dX8_ask_16 ?_
    refine A_iret rfl rfl rfl rfl dX8_ask_18 ?_
    have hno : ¬ ((0 ≤ q ∧ q ≤ 4) ∧ (0 ≤ w ∧ w ≤ 5)) := by
      first
        | (have h7 := b2i_q.mp cq4; exact fun h9 => h7 h9.1)
        | (have h7 := b2i_q.mp cq13; exact fun h9 => h7 h9.2)
    rw [f_ask, if_neg hno]
    exact ⟨rfl, rfl, rfl⟩
  · skip
    refine A_iload_n rfl dX8_ask_7 ?_
    refine A_iconst ic_0 dX8_ask_8 ?_
    refine A_iconst ic_5 dX8_ask_9 ?_
    refine A_callS (s_in l G _ _ _ _ _) m_X8_in ml_X8_80 rfl rfl rfl (Nat.le_of_ble_eq_true rfl) (by decide) (by decide) (by decide) dX8_ask_10 (fun _ _ _ h => congrArg List.length h.2.1) ?_
    rintro _ _ _ ⟨rfl, rfl, e9⟩
    refine AW_I e9 ?_
    clear e9
    refine A_if_ne 19 rfl dX8_ask_13 (fun cq13 => ?_) (fun cq13 => ?_)
    · skip
      have hok : (0 ≤ q ∧ q ≤ 4) ∧ (0 ≤ w ∧ w ≤ 5) := ⟨b2i_p.mp cq4, b2i_p.mp cq13⟩
      obtain ⟨i, hi, rfl⟩ := in_get (a := 4) rfl hok.1
      replace hi : i < 5 := by omega
      have eH : I 102 i = H i := (hS i hi).1
      have eA : I 103 i = A i := (hS i hi).2.1
      have eB : I 104 i = B i := (hS i hi).2.2.1
      refine A_aload_n rfl dX8_ask_19 ?_
      refine A_getR fr_X8_61.g rfl lay_86 rfl dX8_ask_20 ?_
      refine A_iload_n rfl dX8_ask_23 ?_
      refine A_iald i rfl lay_102 (by omega) (by decide) dX8_ask_24 ?_
      refine A_if_ne 31 rfl dX8_ask_25 (fun cq25 => ?_) (fun cq25 => ?_)
      · skip
        refine A_aload_n rfl dX8_ask_31 ?_
        refine A_getR fr_X8_61.g rfl lay_86 rfl dX8_ask_32 ?_
        refine A_iload_n rfl dX8_ask_35 ?_
        refine A_iald i rfl lay_102 (by omega) (by decide) dX8_ask_36 ?_
        refine A_iconst ic_1 dX8_ask_37 ?_
        refine A_icmp_ne 63 rfl dX8_ask_38 (fun cq38 => ?_) (fun cq38 => ?_)
        · skip
          refine A_ldc kc_X8_141 rfl dX8_ask_63 ?_
          refine A_iret rfl rfl rfl rfl dX8_ask_65 ?_
          rw [eH] at cq25 cq38
          rw [f_ask, if_pos hok, nI_clamp (by omega), if_neg cq25]
          first | (have h7 : ¬ H i = 1 := cq38; rw [if_neg h7]; exact ⟨rfl, rfl, rfl⟩) | (have h7 : H i = 1 := cq38; have h8 := b2i_q.mp cq51; rw [eA] at h8; rw [if_pos h7, if_neg h8]; exact ⟨rfl, rfl, rfl⟩) | (have h7 : H i = 1 := cq38; have h8 := b2i_p.mp cq51; rw [eA] at h8; rw [if_pos h7, if_pos h8]; exact ⟨by rw [eB], rfl, rfl⟩)
        · skip
          refine A_aload_n rfl dX8_ask_41 ?_
          refine A_getR fr_X8_64.g rfl lay_86 rfl dX8_ask_42 ?_
          refine A_iload_n rfl dX8_ask_45 ?_
          refine A_iald i rfl lay_103 (by omega) (by decide) dX8_ask_46 ?_
          refine A_iload_n rfl dX8_ask_47 ?_
          refine A_callS (s_isUnder l G _ _ _ _) m_X8_isUnder ml_X8_137 rfl rfl rfl (Nat.le_of_ble_eq_true rfl) (by decide) (by decide) (by decide) dX8_ask_48 (fun _ _ _ h => congrArg List.length h.2.1) ?_
          rintro _ _ _ ⟨rfl, rfl, e9⟩
          refine AW_I e9 ?_
          clear e9
          refine A_if_eq 63 rfl dX8_ask_51 (fun cq51 => ?_) (fun cq51 => ?_)
          · skip
            refine A_ldc kc_X8_141 rfl dX8_ask_63 ?_
            refine A_iret rfl rfl rfl rfl dX8_ask_65 ?_
            rw [eH] at cq25 cq38
            rw [f_ask, if_pos hok, nI_clamp (by omega), if_neg cq25]
            first | (have h7 : ¬ H i = 1 := cq38; rw [if_neg h7]; exact ⟨rfl, rfl, rfl⟩) | (have h7 : H i = 1 := cq38; have h8 := b2i_q.mp cq51; rw [eA] at h8; rw [if_pos h7, if_neg h8]; exact ⟨rfl, rfl, rfl⟩) | (have h7 : H i = 1 := cq38; have h8 := b2i_p.mp cq51; rw [eA] at h8; rw [if_pos h7, if_pos h8]; exact ⟨by rw [eB], rfl, rfl⟩)
          · skip
            refine A_aload_n rfl dX8_ask_54 ?_
            refine A_getR fr_X8_67.g rfl lay_86 rfl dX8_ask_55 ?_
            refine A_iload_n rfl dX8_ask_58 ?_
            refine A_iald i rfl lay_104 (by omega) (by decide) dX8_ask_59 ?_
            refine A_goto 65 rfl dX8_ask_60 ?_
            refine A_iret rfl rfl rfl rfl dX8_ask_65 ?_
            rw [eH] at cq25 cq38
            rw [f_ask, if_pos hok, nI_clamp (by omega), if_neg cq25]
            first | (have h7 : ¬ H i = 1 := cq38; rw [if_neg h7]; exact ⟨rfl, rfl, rfl⟩) | (have h7 : H i = 1 := cq38; have h8 := b2i_q.mp cq51; rw [eA] at h8; rw [if_pos h7, if_neg h8]; exact ⟨rfl, rfl, rfl⟩) | (have h7 : H i = 1 := cq38; have h8 := b2i_p.mp cq51; rw [eA] at h8; rw [if_pos h7, if_pos h8]; exact ⟨by rw [eB], rfl, rfl⟩)
      · skip
        refine A_ldc kc_X8_195 rfl dX8_ask_28 ?_
        refine A_iret rfl rfl rfl rfl dX8_ask_30 ?_
        rw [eH] at cq25
        rw [f_ask, if_pos hok, nI_clamp (by omega), if_pos cq25]
        exact ⟨rfl, rfl, rfl⟩
    · skip
      refine A_ldc kc_X8_88 rfl dX8_ask_16 ?_
      refine A_iret rfl rfl rfl rfl dX8_ask_18 ?_
      have hno : ¬ ((0 ≤ q ∧ q ≤ 4) ∧ (0 ≤ w ∧ w ≤ 5)) := by
        first
          | (have h7 := b2i_q.mp cq4; exact fun h9 => h7 h9.1)
          | (have h7 := b2i_q.mp cq13; exact fun h9 => h7 h9.2)
      rw [f_ask, if_neg hno]
      exact ⟨rfl, rfl, rfl⟩
set_option maxHeartbeats 1000000 in
set_option maxRecDepth 100000 in
theorem c_rest (l : Launch) (G : Gm) (I : Hp) (H A B : Nrow) (E : Fn2) (hS : SlC I H A B E) (hW : SlW H A) (q d : Int32) : Meth l G yX7_rest cX7_rest 4 (some (FieldType.int)) 3 0 0 [.ref 0, .int q, .int d] LAY I (fun r lay1 I1 => r = some (.int (f_rest H A q d)) ∧ lay1 = LAY ∧ I1 = I) := by
  refine Meth.of (by decide +kernel) (by simp [Value.category]) (Nat.le_of_ble_eq_true rfl) ?_
  refine A_iload_n rfl dX7_rest_0 ?_
  refine A_callS (s_isSlot l G _ _ _) m_X7_isSlot ml_X7_264 rfl rfl rfl (Nat.le_of_ble_eq_true rfl) (by decide) (by decide) (by decide) dX7_rest_1 (fun _ _ _ h => congrArg List.length h.2.1) ?_
  rintro _ _ _ ⟨rfl, rfl, e9⟩
  refine AW_I e9 ?_
  clear e9
  refine A_if_ne 10 rfl dX7_rest_4 (fun cq4 => ?_) (fun cq4 => ?_)
  · skip
    have hok := b2i_p.mp cq4
    obtain ⟨i, hi, rfl⟩ := in_get (a := 4) rfl hok
    replace hi : i < 5 := by omega
    have eH : I (70 + 3 * i) 0 = H i := (hS i hi).1
    refine A_aload_n rfl dX7_rest_10 ?_
    refine A_getR fr_X7_47.g rfl lay_0 rfl dX7_rest_11 ?_
    refine A_iload_n rfl dX7_rest_14 ?_
    refine A_aald i rfl lay_69 (Or.inr (Or.inr rfl)) (by omega) (by decide) (sl_at i hi) dX7_rest_15 ?_
    refine A_astore_n (by decide) rfl dX7_rest_16 ?_
    refine A_aload_n rfl dX7_rest_17 ?_
    refine A_getI fr_X7_267.g rfl (lz hi) dX7_rest_18 ?_
    refine A_if_ne 27 rfl dX7_rest_21 (fun cq21 => ?_) (fun cq21 => ?_)
    · skip
      refine A_aload_n rfl dX7_rest_27 ?_
      refine A_getI fr_X7_267.g rfl (lz hi) dX7_rest_28 ?_
      refine A_iconst ic_3 dX7_rest_31 ?_
      refine A_icmp_eq 38 rfl dX7_rest_32 (fun cq32 => ?_) (fun cq32 => ?_)
      · skip
        refine A_iload_n rfl dX7_rest_38 ?_
        refine A_if_ne 48 rfl dX7_rest_39 (fun cq39 => ?_) (fun cq39 => ?_)
        · skip
          refine A_aload_n rfl dX7_rest_48 ?_
          refine A_getI fr_X7_281.g rfl (lz hi) dX7_rest_49 ?_
          refine A_iload_n rfl dX7_rest_52 ?_
          refine A_irem dX7_rest_53 cq39 ?_
          refine A_iret rfl rfl rfl rfl dX7_rest_54 ?_
          rw [eH] at cq21 cq32
          rw [f_rest, if_pos hok, nI_clamp (by omega), if_neg cq21, if_pos cq32]
          first | (have h7 : d = 0 := cq39; rw [if_pos h7]; exact ⟨rfl, rfl, rfl⟩) | (have h7 : ¬ d = 0 := cq39; rw [if_neg h7, ← (hS i hi).2.2.2 cq32]; exact ⟨rfl, rfl, rfl⟩)
        · skip
          refine A_ldcw kc_X7_284 rfl dX7_rest_42 ?_
          refine A_goto 54 rfl dX7_rest_45 ?_
          refine A_iret rfl rfl rfl rfl dX7_rest_54 ?_
          rw [eH] at cq21 cq32
          rw [f_rest, if_pos hok, nI_clamp (by omega), if_neg cq21, if_pos cq32]
          first | (have h7 : d = 0 := cq39; rw [if_pos h7]; exact ⟨rfl, rfl, rfl⟩) | (have h7 : ¬ d = 0 := cq39; rw [if_neg h7, ← (hS i hi).2.2.2 cq32]; exact ⟨rfl, rfl, rfl⟩)
      · skip
        refine A_ldc kc_X7_119 rfl dX7_rest_35 ?_
        refine A_iret rfl rfl rfl rfl dX7_rest_37 ?_
        rw [eH] at cq21 cq32
        rw [f_rest, if_pos hok, nI_clamp (by omega), if_neg cq21, if_neg cq32]
        exact ⟨rfl, rfl, rfl⟩
    · skip
      refine A_ldc kc_X7_192 rfl dX7_rest_24 ?_
      refine A_iret rfl rfl rfl rfl dX7_rest_26 ?_
      rw [eH] at cq21
      rw [f_rest, if_pos hok, nI_clamp (by omega), if_pos cq21]
      exact ⟨rfl, rfl, rfl⟩
  · skip
    refine A_ldc kc_X7_60 rfl dX7_rest_7 ?_
    refine A_iret rfl rfl rfl rfl dX7_rest_9 ?_
    rw [f_rest, if_neg (b2i_q.mp cq4)]
    exact ⟨rfl, rfl, rfl⟩
set_option maxHeartbeats 1000000 in
set_option maxRecDepth 100000 in
theorem m_rest (l : Launch) (G : Gm) (I : Hp) (H A B : Nrow) (E : Fn2) (hS : SlM I H A B E) (hW : SlW H A) (q d : Int32) : Meth l G yX8_rest cX8_rest 3 (some (FieldType.int)) 3 0 0 [.ref 86, .int q, .int d] LAY I (fun r lay1 I1 => r = some (.int (f_rest H A q d)) ∧ lay1 = LAY ∧ I1 = I) := by
  refine Meth.of (by decide +kernel) (by simp [Value.category]) (Nat.le_of_ble_eq_true rfl) ?_
  refine A_iload_n rfl dX8_rest_0 ?_
  refine A_callS (s_isSlotM l G _ _ _) m_X8_isSlot ml_X8_272 rfl rfl rfl (Nat.le_of_ble_eq_true rfl) (by decide) (by decide) (by decide) dX8_rest_1 (fun _ _ _ h => congrArg List.length h.2.1) ?_
  rintro _ _ _ ⟨rfl, rfl, e9⟩
  refine AW_I e9 ?_
  clear e9
  refine A_if_ne 10 rfl dX8_rest_4 (fun cq4 => ?_) (fun cq4 => ?_)
  · skip
    have hok := b2i_p.mp cq4
    obtain ⟨i, hi, rfl⟩ := in_get (a := 4) rfl hok
    replace hi : i < 5 := by omega
    have eH : I 102 i = H i := (hS i hi).1
    have eA : I 103 i = A i := (hS i hi).2.1
    refine A_aload_n rfl dX8_rest_10 ?_
    refine A_getR fr_X8_61.g rfl lay_86 rfl dX8_rest_11 ?_
    refine A_iload_n rfl dX8_rest_14 ?_
    refine A_iald i rfl lay_102 (by omega) (by decide) dX8_rest_15 ?_
    refine A_if_ne 22 rfl dX8_rest_16 (fun cq16 => ?_) (fun cq16 => ?_)
    · skip
      refine A_aload_n rfl dX8_rest_22 ?_
      refine A_getR fr_X8_61.g rfl lay_86 rfl dX8_rest_23 ?_
      refine A_iload_n rfl dX8_rest_26 ?_
      refine A_iald i rfl lay_102 (by omega) (by decide) dX8_rest_27 ?_
      refine A_iconst ic_3 dX8_rest_28 ?_
      refine A_icmp_eq 35 rfl dX8_rest_29 (fun cq29 => ?_) (fun cq29 => ?_)
      · skip
        refine A_iload_n rfl dX8_rest_35 ?_
        refine A_if_ne 45 rfl dX8_rest_36 (fun cq36 => ?_) (fun cq36 => ?_)
        · skip
          refine A_iload_n rfl dX8_rest_45 ?_
          refine A_iconst ic_m1 dX8_rest_46 ?_
          refine A_icmp_ne 54 rfl dX8_rest_47 (fun cq47 => ?_) (fun cq47 => ?_)
          · skip
            refine A_aload_n rfl dX8_rest_54 ?_
            refine A_getR fr_X8_64.g rfl lay_86 rfl dX8_rest_55 ?_
            refine A_iload_n rfl dX8_rest_58 ?_
            refine A_iald i rfl lay_103 (by omega) (by decide) dX8_rest_59 ?_
            refine A_iload_n rfl dX8_rest_60 ?_
            refine A_irem dX8_rest_61 cq36 ?_
            refine A_iret rfl rfl rfl rfl dX8_rest_62 ?_
            rw [eH] at cq16 cq29
            rw [f_rest, if_pos hok, nI_clamp (by omega), if_neg cq16, if_pos cq29]
            first | (have h7 : d = 0 := cq36; rw [if_pos h7]; exact ⟨rfl, rfl, rfl⟩) | (have h7 : ¬ d = 0 := cq36; have h8 : d = -1 := cq47; rw [if_neg h7, h8, irem_m1]; exact ⟨rfl, rfl, rfl⟩) | (have h7 : ¬ d = 0 := cq36; rw [if_neg h7, ← eA]; exact ⟨rfl, rfl, rfl⟩)
          · skip
            refine A_iconst ic_0 dX8_rest_50 ?_
            refine A_goto 62 rfl dX8_rest_51 ?_
            refine A_iret rfl rfl rfl rfl dX8_rest_62 ?_
            rw [eH] at cq16 cq29
            rw [f_rest, if_pos hok, nI_clamp (by omega), if_neg cq16, if_pos cq29]
            first | (have h7 : d = 0 := cq36; rw [if_pos h7]; exact ⟨rfl, rfl, rfl⟩) | (have h7 : ¬ d = 0 := cq36; have h8 : d = -1 := cq47; rw [if_neg h7, h8, irem_m1]; exact ⟨rfl, rfl, rfl⟩) | (have h7 : ¬ d = 0 := cq36; rw [if_neg h7, ← eA]; exact ⟨rfl, rfl, rfl⟩)
        · skip
          refine A_ldcw kc_X8_275 rfl dX8_rest_39 ?_
          refine A_goto 62 rfl dX8_rest_42 ?_
          refine A_iret rfl rfl rfl rfl dX8_rest_62 ?_
          rw [eH] at cq16 cq29
          rw [f_rest, if_pos hok, nI_clamp (by omega), if_neg cq16, if_pos cq29]
          first | (have h7 : d = 0 := cq36; rw [if_pos h7]; exact ⟨rfl, rfl, rfl⟩) | (have h7 : ¬ d = 0 := cq36; have h8 : d = -1 := cq47; rw [if_neg h7, h8, irem_m1]; exact ⟨rfl, rfl, rfl⟩) | (have h7 : ¬ d = 0 := cq36; rw [if_neg h7, ← eA]; exact ⟨rfl, rfl, rfl⟩)
      · skip
        refine A_ldc kc_X8_141 rfl dX8_rest_32 ?_
        refine A_iret rfl rfl rfl rfl dX8_rest_34 ?_
        rw [eH] at cq16 cq29
        rw [f_rest, if_pos hok, nI_clamp (by omega), if_neg cq16, if_neg cq29]
        exact ⟨rfl, rfl, rfl⟩
    · skip
      refine A_ldc kc_X8_195 rfl dX8_rest_19 ?_
      refine A_iret rfl rfl rfl rfl dX8_rest_21 ?_
      rw [eH] at cq16
      rw [f_rest, if_pos hok, nI_clamp (by omega), if_pos cq16]
      exact ⟨rfl, rfl, rfl⟩
  · skip
    refine A_ldc kc_X8_88 rfl dX8_rest_7 ?_
    refine A_iret rfl rfl rfl rfl dX8_rest_9 ?_
    rw [f_rest, if_neg (b2i_q.mp cq4)]
    exact ⟨rfl, rfl, rfl⟩
set_option maxHeartbeats 1000000 in
set_option maxRecDepth 100000 in
theorem c_item (l : Launch) (G : Gm) (I : Hp) (H A B : Nrow) (E : Fn2) (hS : SlC I H A B E) (hW : SlW H A) (q k : Int32) : Meth l G yX7_item cX7_item 4 (some (FieldType.int)) 3 0 0 [.ref 0, .int q, .int k] LAY I (fun r lay1 I1 => r = some (.int (f_item H A E q k)) ∧ lay1 = LAY ∧ I1 = I) := by
  refine Meth.of (by decide +kernel) (by simp [Value.category]) (Nat.le_of_ble_eq_true rfl) ?_
  refine A_iload_n rfl dX7_item_0 ?_
  refine A_callS (s_isSlot l G _ _ _) m_X7_isSlot ml_X7_264 rfl rfl rfl (Nat.le_of_ble_eq_true rfl) (by decide) (by decide) (by decide) dX7_item_1 (fun _ _ _ h => congrArg List.length h.2.1) ?_
  rintro _ _ _ ⟨rfl, rfl, e9⟩
  refine AW_I e9 ?_
  clear e9
  refine A_if_ne 10 rfl dX7_item_4 (fun cq4 => ?_) (fun cq4 => ?_)
  · skip
    have hok := b2i_p.mp cq4
    obtain ⟨i, hi, rfl⟩ := in_get (a := 4) rfl hok
    replace hi : i < 5 := by omega
    have eH : I (70 + 3 * i) 0 = H i := (hS i hi).1
    refine A_aload_n rfl dX7_item_10 ?_
    refine A_getR fr_X7_47.g rfl lay_0 rfl dX7_item_11 ?_
    refine A_iload_n rfl dX7_item_14 ?_
    refine A_aald i rfl lay_69 (Or.inr (Or.inr rfl)) (by omega) (by decide) (sl_at i hi) dX7_item_15 ?_
    refine A_astore_n (by decide) rfl dX7_item_16 ?_
    refine A_aload_n rfl dX7_item_17 ?_
    refine A_getI fr_X7_267.g rfl (lz hi) dX7_item_18 ?_
    refine A_if_ne 27 rfl dX7_item_21 (fun cq21 => ?_) (fun cq21 => ?_)
    · skip
      refine A_aload_n rfl dX7_item_27 ?_
      refine A_getI fr_X7_267.g rfl (lz hi) dX7_item_28 ?_
      refine A_iconst ic_2 dX7_item_31 ?_
      refine A_icmp_eq 38 rfl dX7_item_32 (fun cq32 => ?_) (fun cq32 => ?_)
      · skip
        rw [eH] at cq21 cq32
        have hE := (hS i hi).2.2.1 cq32
        obtain ⟨m, hm, hA2⟩ := (hW i hi).2 cq32
        refine A_aload_n rfl dX7_item_38 ?_
        refine A_getR fr_X7_274 rfl (lz hi) rfl dX7_item_39 ?_
        refine A_iload_n rfl dX7_item_42 ?_
        refine A_callV (s_rhas l G I (70 + 3 * i + 1) (isR_q hi) _) m_X4_has ml_X7_245 rfl (lr (isR_q hi)) rfl (by decide) rfl rfl (Nat.le_of_ble_eq_true rfl) (by decide) (by decide) (by decide) dX7_item_43 (fun _ _ _ h => congrArg List.length h.2.1) ?_
        rintro _ _ _ ⟨rfl, rfl, e9⟩
        refine AW_I e9 ?_
        clear e9
        refine A_if_ne 52 rfl dX7_item_46 (fun cq46 => ?_) (fun cq46 => ?_)
        · skip
          have hk0 := b2i_p.mp cq46
          rw [hE.1] at hk0
          obtain ⟨j, hj, rfl⟩ := pl_get hm hA2 hk0
          have eE : I (70 + 3 * i + 1 + 1) j = E i j := hE.2 j (by omega)
          refine A_aload_n rfl dX7_item_52 ?_
          refine A_getR fr_X7_274 rfl (lz hi) rfl dX7_item_53 ?_
          refine A_iload_n rfl dX7_item_56 ?_
          refine A_callV (s_hasN l G I (70 + 3 * i + 1) (isR_q hi) _ m hm (hE.1.trans hA2)) m_X4_hasNumber ml_X7_252 rfl (lr (isR_q hi)) rfl (by decide) rfl rfl (Nat.le_of_ble_eq_true rfl) (by decide) (by decide) (by decide) dX7_item_57 (fun _ _ _ h => congrArg List.length h.2.1) ?_
          rintro _ _ _ ⟨rfl, rfl, e9⟩
          refine AW_I e9 ?_
          clear e9
          refine A_if_eq 75 rfl dX7_item_60 (fun cq60 => ?_) (fun cq60 => ?_)
          · skip
            refine A_ldc kc_X7_119 rfl dX7_item_75 ?_
            refine A_iret rfl rfl rfl rfl dX7_item_77 ?_
            rw [f_item, if_pos hok, nI_clamp (by omega), if_neg cq21, if_pos cq32, if_pos hk0, nI_clamp (by omega)]
            first | (have h7 := b2i_q.mp cq60; rw [nI_clamp (by omega), eE, hE.1] at h7; rw [if_pos (Classical.byContradiction (fun h9 => h7 ⟨hk0, h9⟩))]; exact ⟨rfl, rfl, rfl⟩) | (have h7 := b2i_p.mp cq60; rw [nI_clamp (by omega), eE] at h7; rw [if_neg h7.2]; exact ⟨by rw [eE], rfl, rfl⟩)
          · skip
            refine A_aload_n rfl dX7_item_63 ?_
            refine A_getR fr_X7_274 rfl (lz hi) rfl dX7_item_64 ?_
            refine A_getR fr_X7_247 rfl (lr (isR_q hi)) rfl dX7_item_67 ?_
            refine A_iload_n rfl dX7_item_70 ?_
            refine A_iald j rfl (lr2 (isR_q hi)) (by omega) (by decide) dX7_item_71 ?_
            refine A_goto 77 rfl dX7_item_72 ?_
            refine A_iret rfl rfl rfl rfl dX7_item_77 ?_
            rw [f_item, if_pos hok, nI_clamp (by omega), if_neg cq21, if_pos cq32, if_pos hk0, nI_clamp (by omega)]
            first | (have h7 := b2i_q.mp cq60; rw [nI_clamp (by omega), eE, hE.1] at h7; rw [if_pos (Classical.byContradiction (fun h9 => h7 ⟨hk0, h9⟩))]; exact ⟨rfl, rfl, rfl⟩) | (have h7 := b2i_p.mp cq60; rw [nI_clamp (by omega), eE] at h7; rw [if_neg h7.2]; exact ⟨by rw [eE], rfl, rfl⟩)
        · skip
          refine A_ldc kc_X7_246 rfl dX7_item_49 ?_
          refine A_iret rfl rfl rfl rfl dX7_item_51 ?_
          have h7 := b2i_q.mp cq46
          rw [hE.1] at h7
          rw [f_item, if_pos hok, nI_clamp (by omega), if_neg cq21, if_pos cq32, if_neg h7]
          exact ⟨rfl, rfl, rfl⟩
      · skip
        refine A_ldc kc_X7_119 rfl dX7_item_35 ?_
        refine A_iret rfl rfl rfl rfl dX7_item_37 ?_
        rw [eH] at cq21 cq32
        rw [f_item, if_pos hok, nI_clamp (by omega), if_neg cq21, if_neg cq32]
        exact ⟨rfl, rfl, rfl⟩
    · skip
      refine A_ldc kc_X7_192 rfl dX7_item_24 ?_
      refine A_iret rfl rfl rfl rfl dX7_item_26 ?_
      rw [eH] at cq21
      rw [f_item, if_pos hok, nI_clamp (by omega), if_pos cq21]
      exact ⟨rfl, rfl, rfl⟩
  · skip
    refine A_ldc kc_X7_60 rfl dX7_item_7 ?_
    refine A_iret rfl rfl rfl rfl dX7_item_9 ?_
    rw [f_item, if_neg (b2i_q.mp cq4)]
    exact ⟨rfl, rfl, rfl⟩
set_option maxHeartbeats 1000000 in
set_option maxRecDepth 100000 in
theorem m_item (l : Launch) (G : Gm) (I : Hp) (H A B : Nrow) (E : Fn2) (hS : SlM I H A B E) (hW : SlW H A) (q k : Int32) : Meth l G yX8_item cX8_item 4 (some (FieldType.int)) 3 0 0 [.ref 86, .int q, .int k] LAY I (fun r lay1 I1 => r = some (.int (f_item H A E q k)) ∧ lay1 = LAY ∧ I1 = I) := by
  refine Meth.of (by decide +kernel) (by simp [Value.category]) (Nat.le_of_ble_eq_true rfl) ?_
  refine A_iload_n rfl dX8_item_0 ?_
  refine A_callS (s_isSlotM l G _ _ _) m_X8_isSlot ml_X8_272 rfl rfl rfl (Nat.le_of_ble_eq_true rfl) (by decide) (by decide) (by decide) dX8_item_1 (fun _ _ _ h => congrArg List.length h.2.1) ?_
  rintro _ _ _ ⟨rfl, rfl, e9⟩
  refine AW_I e9 ?_
  clear e9
  refine A_if_ne 10 rfl dX8_item_4 (fun cq4 => ?_) (fun cq4 => ?_)
  · skip
    have hok := b2i_p.mp cq4
    obtain ⟨i, hi, rfl⟩ := in_get (a := 4) rfl hok
    replace hi : i < 5 := by omega
    have eH : I 102 i = H i := (hS i hi).1
    have eA : I 103 i = A i := (hS i hi).2.1
    refine A_aload_n rfl dX8_item_10 ?_
    refine A_getR fr_X8_61.g rfl lay_86 rfl dX8_item_11 ?_
    refine A_iload_n rfl dX8_item_14 ?_
    refine A_iald i rfl lay_102 (by omega) (by decide) dX8_item_15 ?_
    refine A_if_ne 22 rfl dX8_item_16 (fun cq16 => ?_) (fun cq16 => ?_)
    · skip
      refine A_aload_n rfl dX8_item_22 ?_
      refine A_getR fr_X8_61.g rfl lay_86 rfl dX8_item_23 ?_
      refine A_iload_n rfl dX8_item_26 ?_
      refine A_iald i rfl lay_102 (by omega) (by decide) dX8_item_27 ?_
      refine A_iconst ic_2 dX8_item_28 ?_
      refine A_icmp_eq 35 rfl dX8_item_29 (fun cq29 => ?_) (fun cq29 => ?_)
      · skip
        rw [eH] at cq16 cq29
        obtain ⟨m, hm, hA2⟩ := (hW i hi).2 cq29
        refine A_iload_n rfl dX8_item_35 ?_
        refine A_iconst ic_0 dX8_item_36 ?_
        refine A_aload_n rfl dX8_item_37 ?_
        refine A_getR fr_X8_64.g rfl lay_86 rfl dX8_item_38 ?_
        refine A_iload_n rfl dX8_item_41 ?_
        refine A_iald i rfl lay_103 (by omega) (by decide) dX8_item_42 ?_
        refine A_iconst ic_1 dX8_item_43 ?_
        refine A_isub dX8_item_44 ?_
        refine A_callS (s_in l G _ _ _ _ _) m_X8_in ml_X8_80 rfl rfl rfl (Nat.le_of_ble_eq_true rfl) (by decide) (by decide) (by decide) dX8_item_45 (fun _ _ _ h => congrArg List.length h.2.1) ?_
        rintro _ _ _ ⟨rfl, rfl, e9⟩
        refine AW_I e9 ?_
        clear e9
        refine A_if_ne 55 rfl dX8_item_48 (fun cq48 => ?_) (fun cq48 => ?_)
        · skip
          have hk0 := b2i_p.mp cq48
          rw [eA, le_pred hm hA2] at hk0
          obtain ⟨j, hj, rfl⟩ := pl_get hm hA2 hk0
          have eE : I 105 (24 * i + j) = E i j := (hS i hi).2.2.2 j (by omega)
          refine A_aload_n rfl dX8_item_55 ?_
          refine A_getR fr_X8_70.g rfl lay_86 rfl dX8_item_56 ?_
          refine A_bipush bp_24 dX8_item_59 ?_
          refine A_iload_n rfl dX8_item_61 ?_
          refine A_imul dX8_item_62 ?_
          refine A_iload_n rfl dX8_item_63 ?_
          refine A_iadd dX8_item_64 ?_
          refine A_iald (24 * i + j) (ix_24 i j) lay_105 (by omega) (by decide) dX8_item_65 ?_
          rw [eE]
          refine A_istore_n (by decide) rfl dX8_item_66 ?_
          refine A_iload_n rfl dX8_item_67 ?_
          refine A_ldc kc_X8_79 rfl dX8_item_68 ?_
          refine A_icmp_ne 78 rfl dX8_item_70 (fun cq70 => ?_) (fun cq70 => ?_)
          · skip
            refine A_iload_n rfl dX8_item_78 ?_
            refine A_iret rfl rfl rfl rfl dX8_item_79 ?_
            rw [f_item, if_pos hok, nI_clamp (by omega), if_neg cq16, if_pos cq29, if_pos hk0, nI_clamp (by omega)]
            first | (have h7 : E i j = -1000000005 := cq70; rw [if_pos h7]; exact ⟨rfl, rfl, rfl⟩) | (have h7 : ¬ E i j = -1000000005 := cq70; rw [if_neg h7]; exact ⟨rfl, rfl, rfl⟩)
          · skip
            refine A_ldc kc_X8_141 rfl dX8_item_73 ?_
            refine A_goto 79 rfl dX8_item_75 ?_
            refine A_iret rfl rfl rfl rfl dX8_item_79 ?_
            rw [f_item, if_pos hok, nI_clamp (by omega), if_neg cq16, if_pos cq29, if_pos hk0, nI_clamp (by omega)]
            first | (have h7 : E i j = -1000000005 := cq70; rw [if_pos h7]; exact ⟨rfl, rfl, rfl⟩) | (have h7 : ¬ E i j = -1000000005 := cq70; rw [if_neg h7]; exact ⟨rfl, rfl, rfl⟩)
        · skip
          refine A_ldcw kc_X8_269 rfl dX8_item_51 ?_
          refine A_iret rfl rfl rfl rfl dX8_item_54 ?_
          have h7 := b2i_q.mp cq48
          rw [eA, le_pred hm hA2] at h7
          rw [f_item, if_pos hok, nI_clamp (by omega), if_neg cq16, if_pos cq29, if_neg h7]
          exact ⟨rfl, rfl, rfl⟩
      · skip
        refine A_ldc kc_X8_141 rfl dX8_item_32 ?_
        refine A_iret rfl rfl rfl rfl dX8_item_34 ?_
        rw [eH] at cq16 cq29
        rw [f_item, if_pos hok, nI_clamp (by omega), if_neg cq16, if_neg cq29]
        exact ⟨rfl, rfl, rfl⟩
    · skip
      refine A_ldc kc_X8_195 rfl dX8_item_19 ?_
      refine A_iret rfl rfl rfl rfl dX8_item_21 ?_
      rw [eH] at cq16
      rw [f_item, if_pos hok, nI_clamp (by omega), if_pos cq16]
      exact ⟨rfl, rfl, rfl⟩
  · skip
    refine A_ldc kc_X8_88 rfl dX8_item_7 ?_
    refine A_iret rfl rfl rfl rfl dX8_item_9 ?_
    rw [f_item, if_neg (b2i_q.mp cq4)]
    exact ⟨rfl, rfl, rfl⟩
