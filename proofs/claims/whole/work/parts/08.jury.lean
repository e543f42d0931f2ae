theorem le_nI {x y : Int32} {a b : Nat} (hx : x = nI a) (hy : y = nI b) (ha : a < 2 ^ 31) (hb : b < 2 ^ 31) : x ≤ y ↔ a ≤ b := by rw [hx, hy]; exact nI_leI ha hb
theorem lt_nI {x y : Int32} {a b : Nat} (hx : x = nI a) (hy : y = nI b) (ha : a < 2 ^ 31) (hb : b < 2 ^ 31) : x < y ↔ a < b := by rw [hx, hy]; exact nI_ltI ha hb
theorem eq_nI {x y : Int32} {a b : Nat} (hx : x = nI a) (hy : y = nI b) (ha : a < 2 ^ 31) (hb : b < 2 ^ 31) : x = y ↔ a = b := by rw [hx, hy]; exact nI_eq ha hb
theorem suc_nI {x : Int32} {a : Nat} (hx : x = nI a) : x + 1 = nI (a + 1) := by rw [hx]; exact nI_1 a
set_option maxHeartbeats 4000000 in
set_option maxRecDepth 100000 in
theorem s_has (l : Launch) (G : Gm) (j : Nat) (hj : isJ j) (I : Hp) (v : Int32) : Meth l G yX0_has cX0_has 2 (some (FieldType.boolean)) 1 0 0 [.ref j, .int v] LAY I (fun r lay1 I1 => r = some (.int (b2i (decide (0 ≤ v ∧ v < I j 8)))) ∧ lay1 = LAY ∧ I1 = I) := by
  refine Meth.of (by decide +kernel) (by simp [Value.category]) (Nat.le_of_ble_eq_true rfl) ?_
  refine A_iload_n rfl dX0_has_0 ?_
  refine A_if_lt 16 rfl dX0_has_1 (fun cq1 => ?_) (fun cq1 => ?_)
  · skip
    refine A_iconst ic_0 dX0_has_16 ?_
    refine A_iret rfl rfl rfl rfl dX0_has_17 ?_
    refine ⟨congrArg (fun z => some (Value.int z)) ?_, rfl, rfl⟩
    first
      | with_reducible rfl
      | exact (b2i_tt (by simp only [Int32.lt_iff_toInt_lt, Int32.le_iff_toInt_le, ← Int32.toInt_inj, Int32.reduceToInt] at *; omega)).symm
      | exact (b2i_ff (by simp only [Int32.lt_iff_toInt_lt, Int32.le_iff_toInt_le, ← Int32.toInt_inj, Int32.reduceToInt] at *; omega)).symm
      | (repeat' split) <;> first | with_reducible rfl | (exfalso; simp only [Int32.lt_iff_toInt_lt, Int32.le_iff_toInt_le, ← Int32.toInt_inj, Int32.reduceToInt] at *; omega)
  · skip
    refine A_iload_n rfl dX0_has_4 ?_
    refine A_aload_n rfl dX0_has_5 ?_
    refine A_getI fr_X0_53.g rfl (lj hj) dX0_has_6 ?_
    refine A_icmp_ge 16 rfl dX0_has_9 (fun cq9 => ?_) (fun cq9 => ?_)
    · skip
      refine A_iconst ic_0 dX0_has_16 ?_
      refine A_iret rfl rfl rfl rfl dX0_has_17 ?_
      refine ⟨congrArg (fun z => some (Value.int z)) ?_, rfl, rfl⟩
      first
        | with_reducible rfl
        | exact (b2i_tt (by simp only [Int32.lt_iff_toInt_lt, Int32.le_iff_toInt_le, ← Int32.toInt_inj, Int32.reduceToInt] at *; omega)).symm
        | exact (b2i_ff (by simp only [Int32.lt_iff_toInt_lt, Int32.le_iff_toInt_le, ← Int32.toInt_inj, Int32.reduceToInt] at *; omega)).symm
        | (repeat' split) <;> first | with_reducible rfl | (exfalso; simp only [Int32.lt_iff_toInt_lt, Int32.le_iff_toInt_le, ← Int32.toInt_inj, Int32.reduceToInt] at *; omega)
    · skip
      refine A_iconst ic_1 dX0_has_12 ?_
      refine A_goto 17 rfl dX0_has_13 ?_
      refine A_iret rfl rfl rfl rfl dX0_has_17 ?_
      refine ⟨congrArg (fun z => some (Value.int z)) ?_, rfl, rfl⟩
      first
        | with_reducible rfl
        | exact (b2i_tt (by simp only [Int32.lt_iff_toInt_lt, Int32.le_iff_toInt_le, ← Int32.toInt_inj, Int32.reduceToInt] at *; omega)).symm
        | exact (b2i_ff (by simp only [Int32.lt_iff_toInt_lt, Int32.le_iff_toInt_le, ← Int32.toInt_inj, Int32.reduceToInt] at *; omega)).symm
        | (repeat' split) <;> first | with_reducible rfl | (exfalso; simp only [Int32.lt_iff_toInt_lt, Int32.le_iff_toInt_le, ← Int32.toInt_inj, Int32.reduceToInt] at *; omega)
set_option maxHeartbeats 4000000 in
set_option maxRecDepth 100000 in
theorem s_com (l : Launch) (G : Gm) (j : Nat) (hj : isJ j) (I : Hp) (N : Nrow) (n : Nat) (hn : n ≤ 10) (hN : N 1 = nI n) (hR : RepJ I j N) : Meth l G yX0_common cX0_common 3 (some (FieldType.int)) 2 0 0 [.ref j] LAY I (fun r lay1 I1 => r = some (.int (q_com N n)) ∧ lay1 = LAY ∧ I1 = I) := by
  have hsz : I j 8 = nI n := hR.1.1.trans hN
  have loop : ∀ (lpn : Nat) (k : Nat) (x s : Int32), n - k = lpn → k ≤ n → x = nI k → s = q_com N k → AW l G yX0_common cX0_common 3 (some (FieldType.int)) 2 0 0 (fun r lay1 I1 => r = some (.int (q_com N n)) ∧ lay1 = LAY ∧ I1 = I) 0 0 6 [some (.ref j), some (.int s), some (.int x)] [] LAY I := by
    intro lpn
    induction lpn using Nat.strongRecOn with
    | _ lpn ih =>
      intro k x s hms hk hx hs
      refine A_iload_n rfl dX0_common_6 ?_
      refine A_aload_n rfl dX0_common_7 ?_
      refine A_getI fr_X0_53.g rfl (lj hj) dX0_common_8 ?_
      refine A_icmp_ge 29 rfl dX0_common_11 (fun cq11 => ?_) (fun cq11 => ?_)
      · skip
        have hkn := (le_nI hsz hx (by omega) (by omega)).mp cq11
        have hke : k = n := by omega
        subst hke
        refine A_iload_n rfl dX0_common_29 ?_
        refine A_iret rfl rfl rfl rfl dX0_common_30 ?_
        exact ⟨by rw [hs], rfl, rfl⟩
      · skip
        have hkn : k < n := by
          have hq1 := mt (le_nI hsz hx (by omega) (by omega)).mpr cq11
          omega
        refine A_iload_n rfl dX0_common_14 ?_
        refine A_aload_n rfl dX0_common_15 ?_
        refine A_getR fr_X0_18.g rfl (lj hj) rfl dX0_common_16 ?_
        refine A_iload_n rfl dX0_common_19 ?_
        refine A_iald k hx (lj3 hj) (by omega) (by decide) dX0_common_20 ?_
        refine A_iand dX0_common_21 ?_
        refine A_istore_n (by decide) rfl dX0_common_22 ?_
        refine A_iinc ic_1 rfl (by decide) rfl dX0_common_23 ?_
        refine A_goto 6 rfl dX0_common_26 ?_
        exact ih (n - (k + 1)) (by omega) (k + 1) _ _ rfl (by omega) (suc_nI hx) (by rw [hs, hR.2.2.2.1 k (by omega)]; rfl)
  refine Meth.of (by decide +kernel) (by simp [Value.category]) (Nat.le_of_ble_eq_true rfl) ?_
  refine A_sipush sp_255 dX0_common_0 ?_
  refine A_istore_n (by decide) rfl dX0_common_3 ?_
  refine A_iconst ic_0 dX0_common_4 ?_
  refine A_istore_n (by decide) rfl dX0_common_5 ?_
  exact loop n 0 _ _ (by omega) (by omega) nI_0.symm rfl
set_option maxHeartbeats 4000000 in
set_option maxRecDepth 100000 in
theorem s_any (l : Launch) (G : Gm) (j : Nat) (hj : isJ j) (I : Hp) (N : Nrow) (n : Nat) (hn : n ≤ 10) (hN : N 1 = nI n) (hR : RepJ I j N) : Meth l G yX0_any cX0_any 3 (some (FieldType.int)) 2 0 0 [.ref j] LAY I (fun r lay1 I1 => r = some (.int (q_any N n)) ∧ lay1 = LAY ∧ I1 = I) := by
  have hsz : I j 8 = nI n := hR.1.1.trans hN
  have loop : ∀ (lpn : Nat) (k : Nat) (x s : Int32), n - k = lpn → k ≤ n → x = nI k → s = q_any N k → AW l G yX0_any cX0_any 3 (some (FieldType.int)) 2 0 0 (fun r lay1 I1 => r = some (.int (q_any N n)) ∧ lay1 = LAY ∧ I1 = I) 0 0 4 [some (.ref j), some (.int s), some (.int x)] [] LAY I := by
    intro lpn
    induction lpn using Nat.strongRecOn with
    | _ lpn ih =>
      intro k x s hms hk hx hs
      refine A_iload_n rfl dX0_any_4 ?_
      refine A_aload_n rfl dX0_any_5 ?_
      refine A_getI fr_X0_53.g rfl (lj hj) dX0_any_6 ?_
      refine A_icmp_ge 27 rfl dX0_any_9 (fun cq9 => ?_) (fun cq9 => ?_)
      · skip
        have hkn := (le_nI hsz hx (by omega) (by omega)).mp cq9
        have hke : k = n := by omega
        subst hke
        refine A_iload_n rfl dX0_any_27 ?_
        refine A_iret rfl rfl rfl rfl dX0_any_28 ?_
        exact ⟨by rw [hs], rfl, rfl⟩
      · skip
        have hkn : k < n := by
          have hq1 := mt (le_nI hsz hx (by omega) (by omega)).mpr cq9
          omega
        refine A_iload_n rfl dX0_any_12 ?_
        refine A_aload_n rfl dX0_any_13 ?_
        refine A_getR fr_X0_18.g rfl (lj hj) rfl dX0_any_14 ?_
        refine A_iload_n rfl dX0_any_17 ?_
        refine A_iald k hx (lj3 hj) (by omega) (by decide) dX0_any_18 ?_
        refine A_ior dX0_any_19 ?_
        refine A_istore_n (by decide) rfl dX0_any_20 ?_
        refine A_iinc ic_1 rfl (by decide) rfl dX0_any_21 ?_
        refine A_goto 4 rfl dX0_any_24 ?_
        exact ih (n - (k + 1)) (by omega) (k + 1) _ _ rfl (by omega) (suc_nI hx) (by rw [hs, hR.2.2.2.1 k (by omega)]; rfl)
  refine Meth.of (by decide +kernel) (by simp [Value.category]) (Nat.le_of_ble_eq_true rfl) ?_
  refine A_iconst ic_0 dX0_any_0 ?_
  refine A_istore_n (by decide) rfl dX0_any_1 ?_
  refine A_iconst ic_0 dX0_any_2 ?_
  refine A_istore_n (by decide) rfl dX0_any_3 ?_
  exact loop n 0 _ _ (by omega) (by omega) nI_0.symm rfl
theorem bc_bits : ∀ m, m < 256 → bcF (nI m) = q_bits (nI m) 8 := by decide +kernel
/-- what is known is a set of facts -/
def KnJ (N : Nrow) : Prop := ∀ i, i < 10 → ∃ m, m < 256 ∧ N (18 + 5 * i) = nI m
theorem bc_kn {N : Nrow} (h : KnJ N) {i : Nat} (hi : i < 10) : bcF (N (18 + 5 * i)) = q_bits (N (18 + 5 * i)) 8 := by
  obtain ⟨m, h1, h2⟩ := h i hi
  rw [h2]
  exact bc_bits m h1
set_option maxHeartbeats 4000000 in
set_option maxRecDepth 100000 in
theorem s_kn (l : Launch) (G : Gm) (j : Nat) (hj : isJ j) (I : Hp) (N : Nrow) (n : Nat) (hn : n ≤ 10) (hN : N 1 = nI n) (hR : RepJ I j N) (hK : KnJ N) : Meth l G yX0_known cX0_known 3 (some (FieldType.int)) 2 0 0 [.ref j] LAY I (fun r lay1 I1 => r = some (.int (q_kn N n)) ∧ lay1 = LAY ∧ I1 = I) := by
  have hsz : I j 8 = nI n := hR.1.1.trans hN
  have loop : ∀ (lpn : Nat) (k : Nat) (x s : Int32), n - k = lpn → k ≤ n → x = nI k → s = q_kn N k → AW l G yX0_known cX0_known 3 (some (FieldType.int)) 2 0 0 (fun r lay1 I1 => r = some (.int (q_kn N n)) ∧ lay1 = LAY ∧ I1 = I) 0 0 4 [some (.ref j), some (.int s), some (.int x)] [] LAY I := by
    intro lpn
    induction lpn using Nat.strongRecOn with
    | _ lpn ih =>
      intro k x s hms hk hx hs
      refine A_iload_n rfl dX0_known_4 ?_
      refine A_aload_n rfl dX0_known_5 ?_
      refine A_getI fr_X0_53.g rfl (lj hj) dX0_known_6 ?_
      refine A_icmp_ge 30 rfl dX0_known_9 (fun cq9 => ?_) (fun cq9 => ?_)
      · skip
        have hkn := (le_nI hsz hx (by omega) (by omega)).mp cq9
        have hke : k = n := by omega
        subst hke
        refine A_iload_n rfl dX0_known_30 ?_
        refine A_iret rfl rfl rfl rfl dX0_known_31 ?_
        exact ⟨by rw [hs], rfl, rfl⟩
      · skip
        have hkn : k < n := by
          have hq1 := mt (le_nI hsz hx (by omega) (by omega)).mpr cq9
          omega
        refine A_iload_n rfl dX0_known_12 ?_
        refine A_aload_n rfl dX0_known_13 ?_
        refine A_getR fr_X0_18.g rfl (lj hj) rfl dX0_known_14 ?_
        refine A_iload_n rfl dX0_known_17 ?_
        refine A_iald k hx (lj3 hj) (by omega) (by decide) dX0_known_18 ?_
        refine A_callS (s_bc l G _ _ _) m_J6_bitCount_0f7a4 ml_X0_106 rfl rfl rfl (Nat.le_of_ble_eq_true rfl) (by decide) (by decide) (by decide) dX0_known_19 (fun _ _ _ h => congrArg List.length h.2.1) ?_
        rintro _ _ _ ⟨rfl, rfl, e9⟩
        refine AW_I e9 ?_
        clear e9
        refine A_iadd dX0_known_22 ?_
        refine A_istore_n (by decide) rfl dX0_known_23 ?_
        refine A_iinc ic_1 rfl (by decide) rfl dX0_known_24 ?_
        refine A_goto 4 rfl dX0_known_27 ?_
        exact ih (n - (k + 1)) (by omega) (k + 1) _ _ rfl (by omega) (suc_nI hx) (by rw [hs, hR.2.2.2.1 k (by omega), bc_kn hK (by omega)]; rfl)
  refine Meth.of (by decide +kernel) (by simp [Value.category]) (Nat.le_of_ble_eq_true rfl) ?_
  refine A_iconst ic_0 dX0_known_0 ?_
  refine A_istore_n (by decide) rfl dX0_known_1 ?_
  refine A_iconst ic_0 dX0_known_2 ?_
  refine A_istore_n (by decide) rfl dX0_known_3 ?_
  exact loop n 0 _ _ (by omega) (by omega) nI_0.symm rfl
set_option maxHeartbeats 4000000 in
set_option maxRecDepth 100000 in
theorem s_draw (l : Launch) (G : Gm) (j : Nat) (hj : isJ j) (I : Hp) (z : Int32) (hz : I j 14 = z) : Meth l G yX0_draw cX0_draw 1 (some (FieldType.int)) 1 0 0 [.ref j] LAY I (fun r lay1 I1 => r = some (.int (q_r (q_z z))) ∧ lay1 = LAY ∧ I1 = up2 I j 14 (q_z z)) := by
  refine Meth.of (by decide +kernel) (by simp [Value.category]) (Nat.le_of_ble_eq_true rfl) ?_
  refine A_aload_n rfl dX0_draw_0 ?_
  refine A_aload_n rfl dX0_draw_1 ?_
  refine A_getI fr_X0_40.g rfl (lj hj) dX0_draw_2 ?_
  refine A_ldc kc_X0_76 rfl dX0_draw_5 ?_
  refine A_imul dX0_draw_7 ?_
  refine A_sipush sp_12345 dX0_draw_8 ?_
  refine A_iadd dX0_draw_11 ?_
  refine A_putI fr_X0_40 rfl (lj hj) rfl rfl dX0_draw_12 ?_
  refine A_aload_n rfl dX0_draw_15 ?_
  refine A_getI fr_X0_40.g rfl (lj hj) dX0_draw_16 ?_
  refine A_bipush bp_8 dX0_draw_19 ?_
  refine A_iushr dX0_draw_21 ?_
  refine A_iret rfl rfl rfl rfl dX0_draw_22 ?_
  subst hz
  exact ⟨by rw [up2_same]; rfl, rfl, rfl⟩
theorem xor_neg {x z : Int32} (hz : 0 < z) : x ^^^ z < 0 ↔ x < 0 := by
  have h0 : ∀ y : Int32, y < 0 ↔ y.toBitVec.msb = true := fun y => by
    rw [Int32.lt_iff_toInt_lt, Int32.toInt_zero, ← Int32.toInt_toBitVec, BitVec.msb_eq_toInt]
    simp
  have hzm : z.toBitVec.msb = false := by
    have h1 : ¬ z < 0 := by simp only [Int32.lt_iff_toInt_lt, Int32.reduceToInt] at *; omega
    rw [h0] at h1
    simpa using h1
  rw [h0, h0, Int32.toBitVec_xor, BitVec.msb_xor, hzm]
  simp
theorem irem_neg {x z : Int32} (hz : 0 < z) : irem x z < 0 ↔ (x < 0 ∧ ¬ irem x z = 0) := by
  have hz0 : 0 < z.toInt := by simpa [Int32.lt_iff_toInt_lt] using hz
  have e : (irem x z).toInt = x.toInt.tmod z.toInt := rem_toInt x z
  rw [Int32.lt_iff_toInt_lt, Int32.lt_iff_toInt_lt, ← Int32.toInt_inj, e, Int32.toInt_zero]
  by_cases h : x.toInt < 0
  · have h1 : (-x.toInt).tmod z.toInt = -(x.toInt.tmod z.toInt) := Int.neg_tmod ..
    have h2 := Int.tmod_nonneg z.toInt (show 0 ≤ -x.toInt by omega)
    omega
  · have h2 := Int.tmod_nonneg z.toInt (show 0 ≤ x.toInt by omega)
    omega
theorem fm_eq {x z : Int32} (hz : 0 < z) : fmF x z = if irem x z < 0 then irem x z + z else irem x z := by
  have h1 := irem_neg (x := x) hz
  have h2 := xor_neg (x := x) hz
  unfold fmF
  show (if x ^^^ z < 0 ∧ ¬ irem x z = 0 then irem x z + z else irem x z) = _
  by_cases h : irem x z < 0
  · rw [if_pos h, if_pos ⟨h2.mpr (h1.mp h).1, (h1.mp h).2⟩]
  · rw [if_neg h, if_neg (fun q => h (h1.mpr ⟨h2.mp q.1, q.2⟩))]
theorem par_in {N : Nrow} {n : Nat} (hN : N 1 = nI n) (h0 : 0 < n) (hn : n ≤ 10) (x : Int32) : ∃ c : Nat, c < n ∧ q_par N x = nI c := by
  have hm : 0 < (N 1).toInt := by rw [hN, nI_toInt (by omega)]; omega
  obtain ⟨c, h1, h2⟩ := fmv_nat (a := N 2 + N 5 - x) hm
  rw [hN, nI_toInt (by omega)] at h2
  refine ⟨c, by omega, ?_⟩
  rw [← show Int32.ofNat c = nI c from rfl, ← h1]
  unfold q_par fmv fmOf
  show (if irem (N 2 + N 5 - x) (N 1) < 0 then _ else _) = if 0 ≤ irem (N 2 + N 5 - x) (N 1) then irem (N 2 + N 5 - x) (N 1) else irem (N 2 + N 5 - x) (N 1) + N 1
  by_cases h : irem (N 2 + N 5 - x) (N 1) < 0
  · rw [if_pos h, if_neg (Int32.not_le.mpr h)]
  · rw [if_neg h, if_pos (Int32.not_lt.mp h)]
set_option maxHeartbeats 4000000 in
set_option maxRecDepth 100000 in
theorem s_par (l : Launch) (G : Gm) (j : Nat) (hj : isJ j) (I : Hp) (N : Nrow) (n : Nat) (hn : n ≤ 10) (hN : N 1 = nI n) (hR : RepJ I j N) (h0 : 0 < n) (x : Int32) : Meth l G yX0_partner cX0_partner 2 (some (FieldType.int)) 2 0 0 [.ref j, .int x] LAY I (fun r lay1 I1 => r = some (.int (q_par N x)) ∧ lay1 = LAY ∧ I1 = I) := by
  have hsz : I j 8 = nI n := hR.1.1.trans hN
  refine Meth.of (by decide +kernel) (by simp [Value.category]) (Nat.le_of_ble_eq_true rfl) ?_
  refine A_aload_n rfl dX0_partner_0 ?_
  refine A_getI fr_X0_53.g rfl (lj hj) dX0_partner_1 ?_
  refine A_iconst ic_1 dX0_partner_4 ?_
  refine A_icmp_ge 12 rfl dX0_partner_5 (fun cq5 => ?_) (fun cq5 => ?_)
  · skip
    refine A_aload_n rfl dX0_partner_12 ?_
    refine A_getI fr_X0_62.g rfl (lj hj) dX0_partner_13 ?_
    refine A_aload_n rfl dX0_partner_16 ?_
    refine A_getI fr_X0_56.g rfl (lj hj) dX0_partner_17 ?_
    refine A_iadd dX0_partner_20 ?_
    refine A_iload_n rfl dX0_partner_21 ?_
    refine A_isub dX0_partner_22 ?_
    refine A_aload_n rfl dX0_partner_23 ?_
    refine A_getI fr_X0_53.g rfl (lj hj) dX0_partner_24 ?_
    refine A_callS (s_fm l G _ _ _ _ (by rw [hsz]; exact nI_ne0 h0 (by omega))) m_J9_floorMod_7cf53 ml_X0_77 rfl rfl rfl (Nat.le_of_ble_eq_true rfl) (by decide) (by decide) (by decide) dX0_partner_27 (fun _ _ _ h => congrArg List.length h.2.1) ?_
    rintro _ _ _ ⟨rfl, rfl, e9⟩
    refine AW_I e9 ?_
    clear e9
    refine A_iret rfl rfl rfl rfl dX0_partner_30 ?_
    refine ⟨?_, rfl, rfl⟩
    have hz : 0 < I j 8 := by rw [hsz]; exact (lt_nI nI_0.symm rfl (by omega) (by omega)).mpr h0
    rw [fm_eq hz, hR.1.1, hR.1.2.2.2.2.2.1, hR.1.2.2.2.1]
    rfl
  · skip
    exfalso
    have hq1 := (lt_nI hsz (show (1 : Int32) = nI 1 from rfl) (by omega) (by omega)).mp (Int32.not_le.mp cq5)
    omega
set_option maxHeartbeats 4000000 in
set_option maxRecDepth 100000 in
theorem s_least (l : Launch) (G : Gm) (lay : Lay) (I : Hp) (x : Int32) : Meth l G yX1_least cX1_least 1 (some (FieldType.int)) 1 0 0 [.int x] lay I (fun r lay1 I1 => r = some (.int (x &&& -x)) ∧ lay1 = lay ∧ I1 = I) := by
  refine Meth.of (by decide +kernel) (by simp [Value.category]) (Nat.le_of_ble_eq_true rfl) ?_
  refine A_iload_n rfl dX1_least_0 ?_
  refine A_iload_n rfl dX1_least_1 ?_
  refine A_ineg dX1_least_2 ?_
  refine A_iand dX1_least_3 ?_
  refine A_iret rfl rfl rfl rfl dX1_least_4 ?_
  exact ⟨rfl, rfl, rfl⟩
def q_gr (x : Int32) : Nat → Int32
  | 0 => 0
  | f + 1 => if q_bit x f = 0 then q_gr x f else 1 <<< (nI f &&& 31)
theorem pred_nI {x : Int32} {a : Nat} (hx : x = nI (a + 1)) : x + -1 = nI a := by rw [hx]; exact pk_m1 a
set_option maxHeartbeats 4000000 in
set_option maxRecDepth 100000 in
theorem s_gr (l : Launch) (G : Gm) (lay : Lay) (I : Hp) (x : Int32) : Meth l G yX1_greatest cX1_greatest 2 (some (FieldType.int)) 1 0 0 [.int x] lay I (fun r lay1 I1 => r = some (.int (q_gr x 8)) ∧ lay1 = lay ∧ I1 = I) := by
  have loop : ∀ (lpn : Nat) (k : Nat) (s : Int32), k = lpn → k ≤ 8 → s = nI k - 1 → q_gr x k = q_gr x 8 → AW l G yX1_greatest cX1_greatest 2 (some (FieldType.int)) 1 0 0 (fun r lay1 I1 => r = some (.int (q_gr x 8)) ∧ lay1 = lay ∧ I1 = I) 0 0 3 [some (.int x), some (.int s)] [] lay I := by
    intro lpn
    induction lpn using Nat.strongRecOn with
    | _ lpn ih =>
      intro k s hms hk hs hg
      refine A_iload_n rfl dX1_greatest_3 ?_
      refine A_if_lt 25 rfl dX1_greatest_4 (fun cq4 => ?_) (fun cq4 => ?_)
      · skip
        have hk0 : k = 0 := by
          rcases Nat.eq_zero_or_pos k with hq1 | hq1
          · exact hq1
          · exfalso
            obtain ⟨k1, rfl⟩ : ∃ k1, k = k1 + 1 := ⟨k - 1, by omega⟩
            rw [hs, nI_pred] at cq4
            exact nI_pos (by omega) cq4
        subst hk0
        refine A_iconst ic_0 dX1_greatest_25 ?_
        refine A_iret rfl rfl rfl rfl dX1_greatest_26 ?_
        exact ⟨by rw [← hg]; rfl, rfl, rfl⟩
      · skip
        obtain ⟨k1, rfl⟩ : ∃ k1, k = k1 + 1 := by
          rcases Nat.eq_zero_or_pos k with hq1 | hq1
          · exfalso; subst hq1; subst hs; exact absurd (by decide) cq4
          · exact ⟨k - 1, by omega⟩
        have hs1 : s = nI k1 := by rw [hs, nI_pred]
        refine A_iload_n rfl dX1_greatest_7 ?_
        refine A_iload_n rfl dX1_greatest_8 ?_
        refine A_ishr dX1_greatest_9 ?_
        refine A_iconst ic_1 dX1_greatest_10 ?_
        refine A_iand dX1_greatest_11 ?_
        refine A_if_eq 19 rfl dX1_greatest_12 (fun cq12 => ?_) (fun cq12 => ?_)
        · skip
          refine A_iinc ic_m1 rfl (by decide) rfl dX1_greatest_19 ?_
          refine A_goto 3 rfl dX1_greatest_22 ?_
          exact ih k1 (by omega) k1 _ rfl (by omega) (by rw [hs1, Int32.sub_eq_add_neg]) (by rw [← hg, q_gr, if_pos (by rw [hs1] at cq12; exact cq12)])
        · skip
          refine A_iconst ic_1 dX1_greatest_15 ?_
          refine A_iload_n rfl dX1_greatest_16 ?_
          refine A_ishl dX1_greatest_17 ?_
          refine A_iret rfl rfl rfl rfl dX1_greatest_18 ?_
          exact ⟨by rw [← hg, q_gr, if_neg (by rw [hs1] at cq12; exact cq12), hs1], rfl, rfl⟩
  refine Meth.of (by decide +kernel) (by simp [Value.category]) (Nat.le_of_ble_eq_true rfl) ?_
  refine A_bipush bp_7 dX1_greatest_0 ?_
  refine A_istore_n (by decide) rfl dX1_greatest_2 ?_
  exact loop 8 8 _ rfl (by omega) (by decide) rfl
def q_sway (N : Nrow) : Nat → Int32
  | 0 => 0
  | f + 1 => if N (8 + f) ≤ 0 then q_sway N f else q_sway N f ||| (1 <<< (nI f &&& 31))
set_option maxHeartbeats 4000000 in
set_option maxRecDepth 100000 in
theorem s_sway (l : Launch) (G : Gm) (j : Nat) (hj : isJ j) (I : Hp) (N : Nrow) (hR : RepJ I j N) : Meth l G yX0_swaying cX0_swaying 3 (some (FieldType.int)) 1 0 0 [.ref j] LAY I (fun r lay1 I1 => r = some (.int (q_sway N 8)) ∧ lay1 = LAY ∧ I1 = I) := by
  have loop : ∀ (lpn : Nat) (k : Nat) (s x : Int32), 8 - k = lpn → k ≤ 8 → x = nI k → s = q_sway N k → AW l G yX0_swaying cX0_swaying 3 (some (FieldType.int)) 1 0 0 (fun r lay1 I1 => r = some (.int (q_sway N 8)) ∧ lay1 = LAY ∧ I1 = I) 0 0 4 [some (.ref j), some (.int s), some (.int x)] [] LAY I := by
    intro lpn
    induction lpn using Nat.strongRecOn with
    | _ lpn ih =>
      intro k s x hms hk hx hs
      refine A_iload_n rfl dX0_swaying_4 ?_
      refine A_bipush bp_8 dX0_swaying_5 ?_
      refine A_icmp_ge 31 rfl dX0_swaying_7 (fun cq7 => ?_) (fun cq7 => ?_)
      · skip
        have hkn := (le_nI (show (8 : Int32) = nI 8 from rfl) hx (by omega) (by omega)).mp cq7
        have hke : k = 8 := by omega
        subst hke
        refine A_iload_n rfl dX0_swaying_31 ?_
        refine A_iret rfl rfl rfl rfl dX0_swaying_32 ?_
        exact ⟨by rw [hs], rfl, rfl⟩
      · skip
        have hkn : k < 8 := by
          have hq1 := mt (le_nI (show (8 : Int32) = nI 8 from rfl) hx (by omega) (by omega)).mpr cq7
          omega
        refine A_aload_n rfl dX0_swaying_10 ?_
        refine A_getR fr_X0_27.g rfl (lj hj) rfl dX0_swaying_11 ?_
        refine A_iload_n rfl dX0_swaying_14 ?_
        refine A_iald k hx (lj6 hj) (by omega) (by decide) dX0_swaying_15 ?_
        refine A_if_le 25 rfl dX0_swaying_16 (fun cq16 => ?_) (fun cq16 => ?_)
        · skip
          refine A_iinc ic_1 rfl (by decide) rfl dX0_swaying_25 ?_
          refine A_goto 4 rfl dX0_swaying_28 ?_
          refine ih (8 - (k + 1)) (by omega) (k + 1) _ _ rfl (by omega) (suc_nI hx) ?_
          rw [hR.2.2.2.2.2.2.1 k (by omega)] at cq16
          first | (rw [q_sway, if_pos cq16]; exact hs) | (rw [q_sway, if_neg cq16, hs, hx])
        · skip
          refine A_iload_n rfl dX0_swaying_19 ?_
          refine A_iconst ic_1 dX0_swaying_20 ?_
          refine A_iload_n rfl dX0_swaying_21 ?_
          refine A_ishl dX0_swaying_22 ?_
          refine A_ior dX0_swaying_23 ?_
          refine A_istore_n (by decide) rfl dX0_swaying_24 ?_
          refine A_iinc ic_1 rfl (by decide) rfl dX0_swaying_25 ?_
          refine A_goto 4 rfl dX0_swaying_28 ?_
          refine ih (8 - (k + 1)) (by omega) (k + 1) _ _ rfl (by omega) (suc_nI hx) ?_
          rw [hR.2.2.2.2.2.2.1 k (by omega)] at cq16
          first | (rw [q_sway, if_pos cq16]; exact hs) | (rw [q_sway, if_neg cq16, hs, hx])
  refine Meth.of (by decide +kernel) (by simp [Value.category]) (Nat.le_of_ble_eq_true rfl) ?_
  refine A_iconst ic_0 dX0_swaying_0 ?_
  refine A_istore_n (by decide) rfl dX0_swaying_1 ?_
  refine A_iconst ic_0 dX0_swaying_2 ?_
  refine A_istore_n (by decide) rfl dX0_swaying_3 ?_
  exact loop 8 0 _ _ rfl (by omega) nI_0.symm rfl
