set_option maxHeartbeats 4000000 in
set_option maxRecDepth 100000 in
theorem s_within (l : Launch) (G : Gm) (lay : Lay) (I : Hp) (v a b : Int32) : Meth l G yX7_within cX7_within 3 (some (FieldType.boolean)) 1 0 0 [.int v, .int a, .int b] lay I (fun r lay1 I1 => r = some (.int (b2i (decide (a ≤ v ∧ v ≤ b)))) ∧ lay1 = lay ∧ I1 = I) := by
  refine Meth.of (by decide +kernel) (by simp [Value.category]) (Nat.le_of_ble_eq_true rfl) ?_
  refine A_iload_n rfl dX7_within_0 ?_
  refine A_iload_n rfl dX7_within_1 ?_
  refine A_icmp_lt 14 rfl dX7_within_2 (fun cq2 => ?_) (fun cq2 => ?_)
  · skip
    refine A_iconst ic_0 dX7_within_14 ?_
    refine A_iret rfl rfl rfl rfl dX7_within_15 ?_
    refine ⟨congrArg (fun z => some (Value.int z)) ?_, rfl, rfl⟩
    first
      | with_reducible rfl
      | exact (b2i_tt (by simp only [Int32.lt_iff_toInt_lt, Int32.le_iff_toInt_le, ← Int32.toInt_inj, Int32.reduceToInt] at *; omega)).symm
      | exact (b2i_ff (by simp only [Int32.lt_iff_toInt_lt, Int32.le_iff_toInt_le, ← Int32.toInt_inj, Int32.reduceToInt] at *; omega)).symm
      | (repeat' split) <;> first | with_reducible rfl | (exfalso; simp only [Int32.lt_iff_toInt_lt, Int32.le_iff_toInt_le, ← Int32.toInt_inj, Int32.reduceToInt] at *; omega)
  · skip
    refine A_iload_n rfl dX7_within_5 ?_
    refine A_iload_n rfl dX7_within_6 ?_
    refine A_icmp_gt 14 rfl dX7_within_7 (fun cq7 => ?_) (fun cq7 => ?_)
    · skip
      refine A_iconst ic_0 dX7_within_14 ?_
      refine A_iret rfl rfl rfl rfl dX7_within_15 ?_
      refine ⟨congrArg (fun z => some (Value.int z)) ?_, rfl, rfl⟩
      first
        | with_reducible rfl
        | exact (b2i_tt (by simp only [Int32.lt_iff_toInt_lt, Int32.le_iff_toInt_le, ← Int32.toInt_inj, Int32.reduceToInt] at *; omega)).symm
        | exact (b2i_ff (by simp only [Int32.lt_iff_toInt_lt, Int32.le_iff_toInt_le, ← Int32.toInt_inj, Int32.reduceToInt] at *; omega)).symm
        | (repeat' split) <;> first | with_reducible rfl | (exfalso; simp only [Int32.lt_iff_toInt_lt, Int32.le_iff_toInt_le, ← Int32.toInt_inj, Int32.reduceToInt] at *; omega)
    · skip
      refine A_iconst ic_1 dX7_within_10 ?_
      refine A_goto 15 rfl dX7_within_11 ?_
      refine A_iret rfl rfl rfl rfl dX7_within_15 ?_
      refine ⟨congrArg (fun z => some (Value.int z)) ?_, rfl, rfl⟩
      first
        | with_reducible rfl
        | exact (b2i_tt (by simp only [Int32.lt_iff_toInt_lt, Int32.le_iff_toInt_le, ← Int32.toInt_inj, Int32.reduceToInt] at *; omega)).symm
        | exact (b2i_ff (by simp only [Int32.lt_iff_toInt_lt, Int32.le_iff_toInt_le, ← Int32.toInt_inj, Int32.reduceToInt] at *; omega)).symm
        | (repeat' split) <;> first | with_reducible rfl | (exfalso; simp only [Int32.lt_iff_toInt_lt, Int32.le_iff_toInt_le, ← Int32.toInt_inj, Int32.reduceToInt] at *; omega)
set_option maxHeartbeats 4000000 in
set_option maxRecDepth 100000 in
theorem s_in (l : Launch) (G : Gm) (lay : Lay) (I : Hp) (v a b : Int32) : Meth l G yX8_in cX8_in 3 (some (FieldType.boolean)) 1 0 0 [.int v, .int a, .int b] lay I (fun r lay1 I1 => r = some (.int (b2i (decide (a ≤ v ∧ v ≤ b)))) ∧ lay1 = lay ∧ I1 = I) := by
  refine Meth.of (by decide +kernel) (by simp [Value.category]) (Nat.le_of_ble_eq_true rfl) ?_
  refine A_iload_n rfl dX8_in_0 ?_
  refine A_iload_n rfl dX8_in_1 ?_
  refine A_icmp_lt 14 rfl dX8_in_2 (fun cq2 => ?_) (fun cq2 => ?_)
  · skip
    refine A_iconst ic_0 dX8_in_14 ?_
    refine A_iret rfl rfl rfl rfl dX8_in_15 ?_
    refine ⟨congrArg (fun z => some (Value.int z)) ?_, rfl, rfl⟩
    first
      | with_reducible rfl
      | exact (b2i_tt (by simp only [Int32.lt_iff_toInt_lt, Int32.le_iff_toInt_le, ← Int32.toInt_inj, Int32.reduceToInt] at *; omega)).symm
      | exact (b2i_ff (by simp only [Int32.lt_iff_toInt_lt, Int32.le_iff_toInt_le, ← Int32.toInt_inj, Int32.reduceToInt] at *; omega)).symm
      | (repeat' split) <;> first | with_reducible rfl | (exfalso; simp only [Int32.lt_iff_toInt_lt, Int32.le_iff_toInt_le, ← Int32.toInt_inj, Int32.reduceToInt] at *; omega)
  · skip
    refine A_iload_n rfl dX8_in_5 ?_
    refine A_iload_n rfl dX8_in_6 ?_
    refine A_icmp_gt 14 rfl dX8_in_7 (fun cq7 => ?_) (fun cq7 => ?_)
    · skip
      refine A_iconst ic_0 dX8_in_14 ?_
      refine A_iret rfl rfl rfl rfl dX8_in_15 ?_
      refine ⟨congrArg (fun z => some (Value.int z)) ?_, rfl, rfl⟩
      first
        | with_reducible rfl
        | exact (b2i_tt (by simp only [Int32.lt_iff_toInt_lt, Int32.le_iff_toInt_le, ← Int32.toInt_inj, Int32.reduceToInt] at *; omega)).symm
        | exact (b2i_ff (by simp only [Int32.lt_iff_toInt_lt, Int32.le_iff_toInt_le, ← Int32.toInt_inj, Int32.reduceToInt] at *; omega)).symm
        | (repeat' split) <;> first | with_reducible rfl | (exfalso; simp only [Int32.lt_iff_toInt_lt, Int32.le_iff_toInt_le, ← Int32.toInt_inj, Int32.reduceToInt] at *; omega)
    · skip
      refine A_iconst ic_1 dX8_in_10 ?_
      refine A_goto 15 rfl dX8_in_11 ?_
      refine A_iret rfl rfl rfl rfl dX8_in_15 ?_
      refine ⟨congrArg (fun z => some (Value.int z)) ?_, rfl, rfl⟩
      first
        | with_reducible rfl
        | exact (b2i_tt (by simp only [Int32.lt_iff_toInt_lt, Int32.le_iff_toInt_le, ← Int32.toInt_inj, Int32.reduceToInt] at *; omega)).symm
        | exact (b2i_ff (by simp only [Int32.lt_iff_toInt_lt, Int32.le_iff_toInt_le, ← Int32.toInt_inj, Int32.reduceToInt] at *; omega)).symm
        | (repeat' split) <;> first | with_reducible rfl | (exfalso; simp only [Int32.lt_iff_toInt_lt, Int32.le_iff_toInt_le, ← Int32.toInt_inj, Int32.reduceToInt] at *; omega)
def heldF (v a b : Int32) : Int32 := if a < (if v < b then v else b) then (if v < b then v else b) else a
set_option maxHeartbeats 4000000 in
set_option maxRecDepth 100000 in
theorem s_held (l : Launch) (G : Gm) (lay : Lay) (I : Hp) (v a b : Int32) : Meth l G yX7_held cX7_held 3 (some (FieldType.int)) 2 0 0 [.int v, .int a, .int b] lay I (fun r lay1 I1 => r = some (.int (heldF v a b)) ∧ lay1 = lay ∧ I1 = I) := by
  refine Meth.of (by decide +kernel) (by simp [Value.category]) (Nat.le_of_ble_eq_true rfl) ?_
  refine A_iload_n rfl dX7_held_0 ?_
  refine A_iload_n rfl dX7_held_1 ?_
  refine A_iload_n rfl dX7_held_2 ?_
  refine A_callS (s_min l G _ _ _ _) m_J9_min_7cf53 ml_X7_139 rfl rfl rfl (Nat.le_of_ble_eq_true rfl) (by decide) (by decide) (by decide) dX7_held_3 (fun _ _ _ h => congrArg List.length h.2.1) ?_
  rintro _ _ _ ⟨rfl, rfl, rfl⟩
  refine A_callS (s_max l G _ _ _ _) m_J9_max_7cf53 ml_X7_298 rfl rfl rfl (Nat.le_of_ble_eq_true rfl) (by decide) (by decide) (by decide) dX7_held_6 (fun _ _ _ h => congrArg List.length h.2.1) ?_
  rintro _ _ _ ⟨rfl, rfl, rfl⟩
  refine A_iret rfl rfl rfl rfl dX7_held_9 ?_
  exact ⟨rfl, rfl, rfl⟩
set_option maxHeartbeats 4000000 in
set_option maxRecDepth 100000 in
theorem s_withinM (l : Launch) (G : Gm) (lay : Lay) (I : Hp) (v a b : Int32) : Meth l G yX8_within cX8_within 3 (some (FieldType.int)) 1 0 0 [.int v, .int a, .int b] lay I (fun r lay1 I1 => r = some (.int (if v < a then a else if b < v then b else v)) ∧ lay1 = lay ∧ I1 = I) := by
  refine Meth.of (by decide +kernel) (by simp [Value.category]) (Nat.le_of_ble_eq_true rfl) ?_
  refine A_iload_n rfl dX8_within_0 ?_
  refine A_iload_n rfl dX8_within_1 ?_
  refine A_icmp_ge 9 rfl dX8_within_2 (fun cq2 => ?_) (fun cq2 => ?_)
  · skip
    refine A_iload_n rfl dX8_within_9 ?_
    refine A_iload_n rfl dX8_within_10 ?_
    refine A_icmp_le 18 rfl dX8_within_11 (fun cq11 => ?_) (fun cq11 => ?_)
    · skip
      refine A_iload_n rfl dX8_within_18 ?_
      refine A_iret rfl rfl rfl rfl dX8_within_19 ?_
      refine ⟨congrArg (fun z => some (Value.int z)) ?_, rfl, rfl⟩
      first
        | with_reducible rfl
        | exact (b2i_tt (by simp only [Int32.lt_iff_toInt_lt, Int32.le_iff_toInt_le, ← Int32.toInt_inj, Int32.reduceToInt] at *; omega)).symm
        | exact (b2i_ff (by simp only [Int32.lt_iff_toInt_lt, Int32.le_iff_toInt_le, ← Int32.toInt_inj, Int32.reduceToInt] at *; omega)).symm
        | (repeat' split) <;> first | with_reducible rfl | (exfalso; simp only [Int32.lt_iff_toInt_lt, Int32.le_iff_toInt_le, ← Int32.toInt_inj, Int32.reduceToInt] at *; omega)
    · skip
      refine A_iload_n rfl dX8_within_14 ?_
      refine A_goto 19 rfl dX8_within_15 ?_
      refine A_iret rfl rfl rfl rfl dX8_within_19 ?_
      refine ⟨congrArg (fun z => some (Value.int z)) ?_, rfl, rfl⟩
      first
        | with_reducible rfl
        | exact (b2i_tt (by simp only [Int32.lt_iff_toInt_lt, Int32.le_iff_toInt_le, ← Int32.toInt_inj, Int32.reduceToInt] at *; omega)).symm
        | exact (b2i_ff (by simp only [Int32.lt_iff_toInt_lt, Int32.le_iff_toInt_le, ← Int32.toInt_inj, Int32.reduceToInt] at *; omega)).symm
        | (repeat' split) <;> first | with_reducible rfl | (exfalso; simp only [Int32.lt_iff_toInt_lt, Int32.le_iff_toInt_le, ← Int32.toInt_inj, Int32.reduceToInt] at *; omega)
  · skip
    refine A_iload_n rfl dX8_within_5 ?_
    refine A_goto 19 rfl dX8_within_6 ?_
    refine A_iret rfl rfl rfl rfl dX8_within_19 ?_
    refine ⟨congrArg (fun z => some (Value.int z)) ?_, rfl, rfl⟩
    first
      | with_reducible rfl
      | exact (b2i_tt (by simp only [Int32.lt_iff_toInt_lt, Int32.le_iff_toInt_le, ← Int32.toInt_inj, Int32.reduceToInt] at *; omega)).symm
      | exact (b2i_ff (by simp only [Int32.lt_iff_toInt_lt, Int32.le_iff_toInt_le, ← Int32.toInt_inj, Int32.reduceToInt] at *; omega)).symm
      | (repeat' split) <;> first | with_reducible rfl | (exfalso; simp only [Int32.lt_iff_toInt_lt, Int32.le_iff_toInt_le, ← Int32.toInt_inj, Int32.reduceToInt] at *; omega)
set_option maxHeartbeats 4000000 in
set_option maxRecDepth 100000 in
theorem s_above (l : Launch) (G : Gm) (lay : Lay) (I : Hp) (k : Int32) : Meth l G yX1_above cX1_above 1 (some (FieldType.int)) 1 0 0 [.int k] lay I (fun r lay1 I1 => r = some (.int (if k = 3 then 1 else if k = 4 then 2 else 0)) ∧ lay1 = lay ∧ I1 = I) := by
  refine Meth.of (by decide +kernel) (by simp [Value.category]) (Nat.le_of_ble_eq_true rfl) ?_
  refine A_iload_n rfl dX1_above_0 ?_
  refine A_lsw dX1_above_1 rfl ?_
  simp only [Op.lookupswitch.offset]
  split
  · rename_i cq1
    replace cq1 := i_eq cq1.symm (ic_3)
    refine ⟨28, rfl, ?_⟩
    refine A_iconst ic_1 dX1_above_28 ?_
    refine A_iret rfl rfl rfl rfl dX1_above_29 ?_
    refine ⟨congrArg (fun z => some (Value.int z)) ?_, rfl, rfl⟩
    first
      | with_reducible rfl
      | exact (b2i_tt (by simp only [Int32.lt_iff_toInt_lt, Int32.le_iff_toInt_le, ← Int32.toInt_inj, Int32.reduceToInt] at *; omega)).symm
      | exact (b2i_ff (by simp only [Int32.lt_iff_toInt_lt, Int32.le_iff_toInt_le, ← Int32.toInt_inj, Int32.reduceToInt] at *; omega)).symm
      | (repeat' split) <;> first | with_reducible rfl | (exfalso; simp only [Int32.lt_iff_toInt_lt, Int32.le_iff_toInt_le, ← Int32.toInt_inj, Int32.reduceToInt] at *; omega)
  · rename_i cq1_3
    split
    · rename_i cq1
      replace cq1 := i_eq cq1.symm (ic_4)
      refine ⟨30, rfl, ?_⟩
      refine A_iconst ic_2 dX1_above_30 ?_
      refine A_iret rfl rfl rfl rfl dX1_above_31 ?_
      refine ⟨congrArg (fun z => some (Value.int z)) ?_, rfl, rfl⟩
      first
        | with_reducible rfl
        | exact (b2i_tt (by simp only [Int32.lt_iff_toInt_lt, Int32.le_iff_toInt_le, ← Int32.toInt_inj, Int32.reduceToInt] at *; omega)).symm
        | exact (b2i_ff (by simp only [Int32.lt_iff_toInt_lt, Int32.le_iff_toInt_le, ← Int32.toInt_inj, Int32.reduceToInt] at *; omega)).symm
        | (repeat' split) <;> first | with_reducible rfl | (exfalso; simp only [Int32.lt_iff_toInt_lt, Int32.le_iff_toInt_le, ← Int32.toInt_inj, Int32.reduceToInt] at *; omega)
    · rename_i cq1_4
      refine ⟨32, rfl, ?_⟩
      refine A_iconst ic_0 dX1_above_32 ?_
      refine A_iret rfl rfl rfl rfl dX1_above_33 ?_
      refine ⟨congrArg (fun z => some (Value.int z)) ?_, rfl, rfl⟩
      first
        | with_reducible rfl
        | exact (b2i_tt (by simp only [Int32.lt_iff_toInt_lt, Int32.le_iff_toInt_le, ← Int32.toInt_inj, Int32.reduceToInt] at *; omega)).symm
        | exact (b2i_ff (by simp only [Int32.lt_iff_toInt_lt, Int32.le_iff_toInt_le, ← Int32.toInt_inj, Int32.reduceToInt] at *; omega)).symm
        | (repeat' split) <;> first | with_reducible rfl | (exfalso; simp only [Int32.lt_iff_toInt_lt, Int32.le_iff_toInt_le, ← Int32.toInt_inj, Int32.reduceToInt] at *; omega)
set_option maxHeartbeats 4000000 in
set_option maxRecDepth 100000 in
theorem s_isFact (l : Launch) (G : Gm) (lay : Lay) (I : Hp) (v : Int32) : Meth l G yX7_isFact cX7_isFact 1 (some (FieldType.boolean)) 2 0 0 [.int v] lay I (fun r lay1 I1 => r = some (.int (b2i (decide (0 ≤ v ∧ v ≤ 7)))) ∧ lay1 = lay ∧ I1 = I) := by
  refine Meth.of (by decide +kernel) (by simp [Value.category]) (Nat.le_of_ble_eq_true rfl) ?_
  refine A_iload_n rfl dX7_isFact_0 ?_
  refine A_iconst ic_0 dX7_isFact_1 ?_
  refine A_bipush bp_7 dX7_isFact_2 ?_
  refine A_callS (s_within l G _ _ _ _ _) m_X7_within ml_X7_56 rfl rfl rfl (Nat.le_of_ble_eq_true rfl) (by decide) (by decide) (by decide) dX7_isFact_4 (fun _ _ _ h => congrArg List.length h.2.1) ?_
  rintro _ _ _ ⟨rfl, rfl, rfl⟩
  refine A_iret rfl (b2i_n _) rfl rfl dX7_isFact_7 ?_
  exact ⟨rfl, rfl, rfl⟩
set_option maxHeartbeats 4000000 in
set_option maxRecDepth 100000 in
theorem s_isFactM (l : Launch) (G : Gm) (lay : Lay) (I : Hp) (v : Int32) : Meth l G yX8_isFact cX8_isFact 1 (some (FieldType.boolean)) 2 0 0 [.int v] lay I (fun r lay1 I1 => r = some (.int (b2i (decide (0 ≤ v ∧ v ≤ 7)))) ∧ lay1 = lay ∧ I1 = I) := by
  refine Meth.of (by decide +kernel) (by simp [Value.category]) (Nat.le_of_ble_eq_true rfl) ?_
  refine A_iload_n rfl dX8_isFact_0 ?_
  refine A_iconst ic_0 dX8_isFact_1 ?_
  refine A_bipush bp_7 dX8_isFact_2 ?_
  refine A_callS (s_in l G _ _ _ _ _) m_X8_in ml_X8_80 rfl rfl rfl (Nat.le_of_ble_eq_true rfl) (by decide) (by decide) (by decide) dX8_isFact_4 (fun _ _ _ h => congrArg List.length h.2.1) ?_
  rintro _ _ _ ⟨rfl, rfl, rfl⟩
  refine A_iret rfl (b2i_n _) rfl rfl dX8_isFact_7 ?_
  exact ⟨rfl, rfl, rfl⟩
set_option maxHeartbeats 4000000 in
set_option maxRecDepth 100000 in
theorem s_isSheet (l : Launch) (G : Gm) (lay : Lay) (I : Hp) (v : Int32) : Meth l G yX7_isSheet cX7_isSheet 1 (some (FieldType.boolean)) 2 0 0 [.int v] lay I (fun r lay1 I1 => r = some (.int (b2i (decide (0 ≤ v ∧ v ≤ 3)))) ∧ lay1 = lay ∧ I1 = I) := by
  refine Meth.of (by decide +kernel) (by simp [Value.category]) (Nat.le_of_ble_eq_true rfl) ?_
  refine A_iload_n rfl dX7_isSheet_0 ?_
  refine A_iconst ic_0 dX7_isSheet_1 ?_
  refine A_iconst ic_3 dX7_isSheet_2 ?_
  refine A_callS (s_within l G _ _ _ _ _) m_X7_within ml_X7_56 rfl rfl rfl (Nat.le_of_ble_eq_true rfl) (by decide) (by decide) (by decide) dX7_isSheet_3 (fun _ _ _ h => congrArg List.length h.2.1) ?_
  rintro _ _ _ ⟨rfl, rfl, rfl⟩
  refine A_iret rfl (b2i_n _) rfl rfl dX7_isSheet_6 ?_
  exact ⟨rfl, rfl, rfl⟩
set_option maxHeartbeats 4000000 in
set_option maxRecDepth 100000 in
theorem s_isSheetM (l : Launch) (G : Gm) (lay : Lay) (I : Hp) (v : Int32) : Meth l G yX8_isSheet cX8_isSheet 1 (some (FieldType.boolean)) 2 0 0 [.int v] lay I (fun r lay1 I1 => r = some (.int (b2i (decide (0 ≤ v ∧ v ≤ 3)))) ∧ lay1 = lay ∧ I1 = I) := by
  refine Meth.of (by decide +kernel) (by simp [Value.category]) (Nat.le_of_ble_eq_true rfl) ?_
  refine A_iload_n rfl dX8_isSheet_0 ?_
  refine A_iconst ic_0 dX8_isSheet_1 ?_
  refine A_iconst ic_3 dX8_isSheet_2 ?_
  refine A_callS (s_in l G _ _ _ _ _) m_X8_in ml_X8_80 rfl rfl rfl (Nat.le_of_ble_eq_true rfl) (by decide) (by decide) (by decide) dX8_isSheet_3 (fun _ _ _ h => congrArg List.length h.2.1) ?_
  rintro _ _ _ ⟨rfl, rfl, rfl⟩
  refine A_iret rfl (b2i_n _) rfl rfl dX8_isSheet_6 ?_
  exact ⟨rfl, rfl, rfl⟩
set_option maxHeartbeats 4000000 in
set_option maxRecDepth 100000 in
theorem s_isSlot (l : Launch) (G : Gm) (lay : Lay) (I : Hp) (v : Int32) : Meth l G yX7_isSlot cX7_isSlot 1 (some (FieldType.boolean)) 2 0 0 [.int v] lay I (fun r lay1 I1 => r = some (.int (b2i (decide (0 ≤ v ∧ v ≤ 4)))) ∧ lay1 = lay ∧ I1 = I) := by
  refine Meth.of (by decide +kernel) (by simp [Value.category]) (Nat.le_of_ble_eq_true rfl) ?_
  refine A_iload_n rfl dX7_isSlot_0 ?_
  refine A_iconst ic_0 dX7_isSlot_1 ?_
  refine A_iconst ic_4 dX7_isSlot_2 ?_
  refine A_callS (s_within l G _ _ _ _ _) m_X7_within ml_X7_56 rfl rfl rfl (Nat.le_of_ble_eq_true rfl) (by decide) (by decide) (by decide) dX7_isSlot_3 (fun _ _ _ h => congrArg List.length h.2.1) ?_
  rintro _ _ _ ⟨rfl, rfl, rfl⟩
  refine A_iret rfl (b2i_n _) rfl rfl dX7_isSlot_6 ?_
  exact ⟨rfl, rfl, rfl⟩
set_option maxHeartbeats 4000000 in
set_option maxRecDepth 100000 in
theorem s_isSlotM (l : Launch) (G : Gm) (lay : Lay) (I : Hp) (v : Int32) : Meth l G yX8_isSlot cX8_isSlot 1 (some (FieldType.boolean)) 2 0 0 [.int v] lay I (fun r lay1 I1 => r = some (.int (b2i (decide (0 ≤ v ∧ v ≤ 4)))) ∧ lay1 = lay ∧ I1 = I) := by
  refine Meth.of (by decide +kernel) (by simp [Value.category]) (Nat.le_of_ble_eq_true rfl) ?_
  refine A_iload_n rfl dX8_isSlot_0 ?_
  refine A_iconst ic_0 dX8_isSlot_1 ?_
  refine A_iconst ic_4 dX8_isSlot_2 ?_
  refine A_callS (s_in l G _ _ _ _ _) m_X8_in ml_X8_80 rfl rfl rfl (Nat.le_of_ble_eq_true rfl) (by decide) (by decide) (by decide) dX8_isSlot_3 (fun _ _ _ h => congrArg List.length h.2.1) ?_
  rintro _ _ _ ⟨rfl, rfl, rfl⟩
  refine A_iret rfl (b2i_n _) rfl rfl dX8_isSlot_6 ?_
  exact ⟨rfl, rfl, rfl⟩
set_option maxHeartbeats 4000000 in
set_option maxRecDepth 100000 in
theorem s_told0 (l : Launch) (G : Gm) (lay : Lay) (I : Hp) (v : Int32) : Meth l G yX8_told0 cX8_told0 1 (some (FieldType.int)) 1 0 0 [.int v] lay I (fun r lay1 I1 => r = some (.int (if v < 0 then -1000000005 else v)) ∧ lay1 = lay ∧ I1 = I) := by
  refine Meth.of (by decide +kernel) (by simp [Value.category]) (Nat.le_of_ble_eq_true rfl) ?_
  refine A_iload_n rfl dX8_told0_0 ?_
  refine A_if_ge 9 rfl dX8_told0_1 (fun cq1 => ?_) (fun cq1 => ?_)
  · skip
    refine A_iload_n rfl dX8_told0_9 ?_
    refine A_iret rfl rfl rfl rfl dX8_told0_10 ?_
    refine ⟨congrArg (fun z => some (Value.int z)) ?_, rfl, rfl⟩
    first
      | with_reducible rfl
      | exact (b2i_tt (by simp only [Int32.lt_iff_toInt_lt, Int32.le_iff_toInt_le, ← Int32.toInt_inj, Int32.reduceToInt] at *; omega)).symm
      | exact (b2i_ff (by simp only [Int32.lt_iff_toInt_lt, Int32.le_iff_toInt_le, ← Int32.toInt_inj, Int32.reduceToInt] at *; omega)).symm
      | (repeat' split) <;> first | with_reducible rfl | (exfalso; simp only [Int32.lt_iff_toInt_lt, Int32.le_iff_toInt_le, ← Int32.toInt_inj, Int32.reduceToInt] at *; omega)
  · skip
    refine A_ldc kc_X8_79 rfl dX8_told0_4 ?_
    refine A_goto 10 rfl dX8_told0_6 ?_
    refine A_iret rfl rfl rfl rfl dX8_told0_10 ?_
    refine ⟨congrArg (fun z => some (Value.int z)) ?_, rfl, rfl⟩
    first
      | with_reducible rfl
      | exact (b2i_tt (by simp only [Int32.lt_iff_toInt_lt, Int32.le_iff_toInt_le, ← Int32.toInt_inj, Int32.reduceToInt] at *; omega)).symm
      | exact (b2i_ff (by simp only [Int32.lt_iff_toInt_lt, Int32.le_iff_toInt_le, ← Int32.toInt_inj, Int32.reduceToInt] at *; omega)).symm
      | (repeat' split) <;> first | with_reducible rfl | (exfalso; simp only [Int32.lt_iff_toInt_lt, Int32.le_iff_toInt_le, ← Int32.toInt_inj, Int32.reduceToInt] at *; omega)
set_option maxHeartbeats 4000000 in
set_option maxRecDepth 100000 in
theorem s_isUnder (l : Launch) (G : Gm) (lay : Lay) (I : Hp) (k w : Int32) : Meth l G yX8_isUnder cX8_isUnder 2 (some (FieldType.boolean)) 1 0 0 [.int k, .int w] lay I (fun r lay1 I1 => r = some (.int (b2i (decide (w = 0 ∨ k = w ∨ (w = 1 ∧ k = 3) ∨ (w = 2 ∧ k = 4))))) ∧ lay1 = lay ∧ I1 = I) := by
  refine Meth.of (by decide +kernel) (by simp [Value.category]) (Nat.le_of_ble_eq_true rfl) ?_
  refine A_iload_n rfl dX8_isUnder_0 ?_
  refine A_if_eq 29 rfl dX8_isUnder_1 (fun cq1 => ?_) (fun cq1 => ?_)
  · skip
    refine A_iconst ic_1 dX8_isUnder_29 ?_
    refine A_goto 34 rfl dX8_isUnder_30 ?_
    refine A_iret rfl rfl rfl rfl dX8_isUnder_34 ?_
    refine ⟨congrArg (fun z => some (Value.int z)) ?_, rfl, rfl⟩
    first
      | with_reducible rfl
      | exact (b2i_tt (by simp only [Int32.lt_iff_toInt_lt, Int32.le_iff_toInt_le, ← Int32.toInt_inj, Int32.reduceToInt] at *; omega)).symm
      | exact (b2i_ff (by simp only [Int32.lt_iff_toInt_lt, Int32.le_iff_toInt_le, ← Int32.toInt_inj, Int32.reduceToInt] at *; omega)).symm
      | (repeat' split) <;> first | with_reducible rfl | (exfalso; simp only [Int32.lt_iff_toInt_lt, Int32.le_iff_toInt_le, ← Int32.toInt_inj, Int32.reduceToInt] at *; omega)
  · skip
    refine A_iload_n rfl dX8_isUnder_4 ?_
    refine A_iload_n rfl dX8_isUnder_5 ?_
    refine A_icmp_eq 29 rfl dX8_isUnder_6 (fun cq6 => ?_) (fun cq6 => ?_)
    · skip
      refine A_iconst ic_1 dX8_isUnder_29 ?_
      refine A_goto 34 rfl dX8_isUnder_30 ?_
      refine A_iret rfl rfl rfl rfl dX8_isUnder_34 ?_
      refine ⟨congrArg (fun z => some (Value.int z)) ?_, rfl, rfl⟩
      first
        | with_reducible rfl
        | exact (b2i_tt (by simp only [Int32.lt_iff_toInt_lt, Int32.le_iff_toInt_le, ← Int32.toInt_inj, Int32.reduceToInt] at *; omega)).symm
        | exact (b2i_ff (by simp only [Int32.lt_iff_toInt_lt, Int32.le_iff_toInt_le, ← Int32.toInt_inj, Int32.reduceToInt] at *; omega)).symm
        | (repeat' split) <;> first | with_reducible rfl | (exfalso; simp only [Int32.lt_iff_toInt_lt, Int32.le_iff_toInt_le, ← Int32.toInt_inj, Int32.reduceToInt] at *; omega)
    · skip
      refine A_iload_n rfl dX8_isUnder_9 ?_
      refine A_iconst ic_1 dX8_isUnder_10 ?_
      refine A_icmp_ne 19 rfl dX8_isUnder_11 (fun cq11 => ?_) (fun cq11 => ?_)
      · skip
        refine A_iload_n rfl dX8_isUnder_19 ?_
        refine A_iconst ic_2 dX8_isUnder_20 ?_
        refine A_icmp_ne 33 rfl dX8_isUnder_21 (fun cq21 => ?_) (fun cq21 => ?_)
        · skip
          refine A_iconst ic_0 dX8_isUnder_33 ?_
          refine A_iret rfl rfl rfl rfl dX8_isUnder_34 ?_
          refine ⟨congrArg (fun z => some (Value.int z)) ?_, rfl, rfl⟩
          first
            | with_reducible rfl
            | exact (b2i_tt (by simp only [Int32.lt_iff_toInt_lt, Int32.le_iff_toInt_le, ← Int32.toInt_inj, Int32.reduceToInt] at *; omega)).symm
            | exact (b2i_ff (by simp only [Int32.lt_iff_toInt_lt, Int32.le_iff_toInt_le, ← Int32.toInt_inj, Int32.reduceToInt] at *; omega)).symm
            | (repeat' split) <;> first | with_reducible rfl | (exfalso; simp only [Int32.lt_iff_toInt_lt, Int32.le_iff_toInt_le, ← Int32.toInt_inj, Int32.reduceToInt] at *; omega)
        · skip
          refine A_iload_n rfl dX8_isUnder_24 ?_
          refine A_iconst ic_4 dX8_isUnder_25 ?_
          refine A_icmp_ne 33 rfl dX8_isUnder_26 (fun cq26 => ?_) (fun cq26 => ?_)
          · skip
            refine A_iconst ic_0 dX8_isUnder_33 ?_
            refine A_iret rfl rfl rfl rfl dX8_isUnder_34 ?_
            refine ⟨congrArg (fun z => some (Value.int z)) ?_, rfl, rfl⟩
            first
              | with_reducible rfl
              | exact (b2i_tt (by simp only [Int32.lt_iff_toInt_lt, Int32.le_iff_toInt_le, ← Int32.toInt_inj, Int32.reduceToInt] at *; omega)).symm
              | exact (b2i_ff (by simp only [Int32.lt_iff_toInt_lt, Int32.le_iff_toInt_le, ← Int32.toInt_inj, Int32.reduceToInt] at *; omega)).symm
              | (repeat' split) <;> first | with_reducible rfl | (exfalso; simp only [Int32.lt_iff_toInt_lt, Int32.le_iff_toInt_le, ← Int32.toInt_inj, Int32.reduceToInt] at *; omega)
          · skip
            refine A_iconst ic_1 dX8_isUnder_29 ?_
            refine A_goto 34 rfl dX8_isUnder_30 ?_
            refine A_iret rfl rfl rfl rfl dX8_isUnder_34 ?_
            refine ⟨congrArg (fun z => some (Value.int z)) ?_, rfl, rfl⟩
            first
              | with_reducible rfl
              | exact (b2i_tt (by simp only [Int32.lt_iff_toInt_lt, Int32.le_iff_toInt_le, ← Int32.toInt_inj, Int32.reduceToInt] at *; omega)).symm
              | exact (b2i_ff (by simp only [Int32.lt_iff_toInt_lt, Int32.le_iff_toInt_le, ← Int32.toInt_inj, Int32.reduceToInt] at *; omega)).symm
              | (repeat' split) <;> first | with_reducible rfl | (exfalso; simp only [Int32.lt_iff_toInt_lt, Int32.le_iff_toInt_le, ← Int32.toInt_inj, Int32.reduceToInt] at *; omega)
      · skip
        refine A_iload_n rfl dX8_isUnder_14 ?_
        refine A_iconst ic_3 dX8_isUnder_15 ?_
        refine A_icmp_eq 29 rfl dX8_isUnder_16 (fun cq16 => ?_) (fun cq16 => ?_)
        · skip
          refine A_iconst ic_1 dX8_isUnder_29 ?_
          refine A_goto 34 rfl dX8_isUnder_30 ?_
          refine A_iret rfl rfl rfl rfl dX8_isUnder_34 ?_
          refine ⟨congrArg (fun z => some (Value.int z)) ?_, rfl, rfl⟩
          first
            | with_reducible rfl
            | exact (b2i_tt (by simp only [Int32.lt_iff_toInt_lt, Int32.le_iff_toInt_le, ← Int32.toInt_inj, Int32.reduceToInt] at *; omega)).symm
            | exact (b2i_ff (by simp only [Int32.lt_iff_toInt_lt, Int32.le_iff_toInt_le, ← Int32.toInt_inj, Int32.reduceToInt] at *; omega)).symm
            | (repeat' split) <;> first | with_reducible rfl | (exfalso; simp only [Int32.lt_iff_toInt_lt, Int32.le_iff_toInt_le, ← Int32.toInt_inj, Int32.reduceToInt] at *; omega)
        · skip
          refine A_iload_n rfl dX8_isUnder_19 ?_
          refine A_iconst ic_2 dX8_isUnder_20 ?_
          refine A_icmp_ne 33 rfl dX8_isUnder_21 (fun cq21 => ?_) (fun cq21 => ?_)
          · skip
            refine A_iconst ic_0 dX8_isUnder_33 ?_
            refine A_iret rfl rfl rfl rfl dX8_isUnder_34 ?_
            refine ⟨congrArg (fun z => some (Value.int z)) ?_, rfl, rfl⟩
            first
              | with_reducible rfl
              | exact (b2i_tt (by simp only [Int32.lt_iff_toInt_lt, Int32.le_iff_toInt_le, ← Int32.toInt_inj, Int32.reduceToInt] at *; omega)).symm
              | exact (b2i_ff (by simp only [Int32.lt_iff_toInt_lt, Int32.le_iff_toInt_le, ← Int32.toInt_inj, Int32.reduceToInt] at *; omega)).symm
              | (repeat' split) <;> first | with_reducible rfl | (exfalso; simp only [Int32.lt_iff_toInt_lt, Int32.le_iff_toInt_le, ← Int32.toInt_inj, Int32.reduceToInt] at *; omega)
          · skip
            refine A_iload_n rfl dX8_isUnder_24 ?_
            refine A_iconst ic_4 dX8_isUnder_25 ?_
            refine A_icmp_ne 33 rfl dX8_isUnder_26 (fun cq26 => ?_) (fun cq26 => ?_)
            · skip
              refine A_iconst ic_0 dX8_isUnder_33 ?_
              refine A_iret rfl rfl rfl rfl dX8_isUnder_34 ?_
              refine ⟨congrArg (fun z => some (Value.int z)) ?_, rfl, rfl⟩
              first
                | with_reducible rfl
                | exact (b2i_tt (by simp only [Int32.lt_iff_toInt_lt, Int32.le_iff_toInt_le, ← Int32.toInt_inj, Int32.reduceToInt] at *; omega)).symm
                | exact (b2i_ff (by simp only [Int32.lt_iff_toInt_lt, Int32.le_iff_toInt_le, ← Int32.toInt_inj, Int32.reduceToInt] at *; omega)).symm
                | (repeat' split) <;> first | with_reducible rfl | (exfalso; simp only [Int32.lt_iff_toInt_lt, Int32.le_iff_toInt_le, ← Int32.toInt_inj, Int32.reduceToInt] at *; omega)
            · skip
              refine A_iconst ic_1 dX8_isUnder_29 ?_
              refine A_goto 34 rfl dX8_isUnder_30 ?_
              refine A_iret rfl rfl rfl rfl dX8_isUnder_34 ?_
              refine ⟨congrArg (fun z => some (Value.int z)) ?_, rfl, rfl⟩
              first
                | with_reducible rfl
                | exact (b2i_tt (by simp only [Int32.lt_iff_toInt_lt, Int32.le_iff_toInt_le, ← Int32.toInt_inj, Int32.reduceToInt] at *; omega)).symm
                | exact (b2i_ff (by simp only [Int32.lt_iff_toInt_lt, Int32.le_iff_toInt_le, ← Int32.toInt_inj, Int32.reduceToInt] at *; omega)).symm
                | (repeat' split) <;> first | with_reducible rfl | (exfalso; simp only [Int32.lt_iff_toInt_lt, Int32.le_iff_toInt_le, ← Int32.toInt_inj, Int32.reduceToInt] at *; omega)
set_option maxHeartbeats 4000000 in
set_option maxRecDepth 100000 in
theorem s_isOf (l : Launch) (G : Gm) (lay : Lay) (I : Hp) (k w : Int32) : Meth l G yX1_isOf cX1_isOf 2 (some (FieldType.boolean)) 2 0 0 [.int k, .int w] lay I (fun r lay1 I1 => r = some (.int (b2i (decide (w = 0 ∨ k = w ∨ (w = 1 ∧ k = 3) ∨ (w = 2 ∧ k = 4))))) ∧ lay1 = lay ∧ I1 = I) := by
  refine Meth.of (by decide +kernel) (by simp [Value.category]) (Nat.le_of_ble_eq_true rfl) ?_
  refine A_iload_n rfl dX1_isOf_0 ?_
  refine A_iload_n rfl dX1_isOf_1 ?_
  refine A_icmp_eq 17 rfl dX1_isOf_2 (fun cq2 => ?_) (fun cq2 => ?_)
  · skip
    refine A_iconst ic_1 dX1_isOf_17 ?_
    refine A_goto 22 rfl dX1_isOf_18 ?_
    refine A_iret rfl rfl rfl rfl dX1_isOf_22 ?_
    refine ⟨congrArg (fun z => some (Value.int z)) ?_, rfl, rfl⟩
    first | exact (b2i_tt (by (try split at *) <;> (try split at *) <;> simp only [Int32.lt_iff_toInt_lt, Int32.le_iff_toInt_le, ← Int32.toInt_inj, Int32.reduceToInt] at * <;> omega)).symm | exact (b2i_ff (by (try split at *) <;> (try split at *) <;> simp only [Int32.lt_iff_toInt_lt, Int32.le_iff_toInt_le, ← Int32.toInt_inj, Int32.reduceToInt] at * <;> omega)).symm
  · skip
    refine A_iload_n rfl dX1_isOf_5 ?_
    refine A_callS (s_above l G _ _ _) m_X1_above ml_X1_9 rfl rfl rfl (Nat.le_of_ble_eq_true rfl) (by decide) (by decide) (by decide) dX1_isOf_6 (fun _ _ _ h => congrArg List.length h.2.1) ?_
    rintro _ _ _ ⟨rfl, rfl, rfl⟩
    refine A_iload_n rfl dX1_isOf_9 ?_
    refine A_icmp_eq 17 rfl dX1_isOf_10 (fun cq10 => ?_) (fun cq10 => ?_)
    · skip
      refine A_iconst ic_1 dX1_isOf_17 ?_
      refine A_goto 22 rfl dX1_isOf_18 ?_
      refine A_iret rfl rfl rfl rfl dX1_isOf_22 ?_
      refine ⟨congrArg (fun z => some (Value.int z)) ?_, rfl, rfl⟩
      first | exact (b2i_tt (by (try split at *) <;> (try split at *) <;> simp only [Int32.lt_iff_toInt_lt, Int32.le_iff_toInt_le, ← Int32.toInt_inj, Int32.reduceToInt] at * <;> omega)).symm | exact (b2i_ff (by (try split at *) <;> (try split at *) <;> simp only [Int32.lt_iff_toInt_lt, Int32.le_iff_toInt_le, ← Int32.toInt_inj, Int32.reduceToInt] at * <;> omega)).symm
    · skip
      refine A_iload_n rfl dX1_isOf_13 ?_
      refine A_if_ne 21 rfl dX1_isOf_14 (fun cq14 => ?_) (fun cq14 => ?_)
      · skip
        refine A_iconst ic_0 dX1_isOf_21 ?_
        refine A_iret rfl rfl rfl rfl dX1_isOf_22 ?_
        refine ⟨congrArg (fun z => some (Value.int z)) ?_, rfl, rfl⟩
        first | exact (b2i_tt (by (try split at *) <;> (try split at *) <;> simp only [Int32.lt_iff_toInt_lt, Int32.le_iff_toInt_le, ← Int32.toInt_inj, Int32.reduceToInt] at * <;> omega)).symm | exact (b2i_ff (by (try split at *) <;> (try split at *) <;> simp only [Int32.lt_iff_toInt_lt, Int32.le_iff_toInt_le, ← Int32.toInt_inj, Int32.reduceToInt] at * <;> omega)).symm
      · skip
        refine A_iconst ic_1 dX1_isOf_17 ?_
        refine A_goto 22 rfl dX1_isOf_18 ?_
        refine A_iret rfl rfl rfl rfl dX1_isOf_22 ?_
        refine ⟨congrArg (fun z => some (Value.int z)) ?_, rfl, rfl⟩
        first | exact (b2i_tt (by (try split at *) <;> (try split at *) <;> simp only [Int32.lt_iff_toInt_lt, Int32.le_iff_toInt_le, ← Int32.toInt_inj, Int32.reduceToInt] at * <;> omega)).symm | exact (b2i_ff (by (try split at *) <;> (try split at *) <;> simp only [Int32.lt_iff_toInt_lt, Int32.le_iff_toInt_le, ← Int32.toInt_inj, Int32.reduceToInt] at * <;> omega)).symm
set_option maxHeartbeats 4000000 in
set_option maxRecDepth 100000 in
theorem s_dw (l : Launch) (G : Gm) (lay : Lay) (I : Hp) (v : Int32) : Meth l G yX1_doubtingWorth cX1_doubtingWorth 1 (some (FieldType.int)) 1 0 0 [.int v] lay I (fun r lay1 I1 => r = some (.int (v + 5)) ∧ lay1 = lay ∧ I1 = I) := by
  refine Meth.of (by decide +kernel) (by simp [Value.category]) (Nat.le_of_ble_eq_true rfl) ?_
  refine A_iload_n rfl dX1_doubtingWorth_0 ?_
  refine A_iconst ic_5 dX1_doubtingWorth_1 ?_
  refine A_iadd dX1_doubtingWorth_2 ?_
  refine A_iret rfl rfl rfl rfl dX1_doubtingWorth_3 ?_
  exact ⟨rfl, rfl, rfl⟩
set_option maxHeartbeats 4000000 in
set_option maxRecDepth 100000 in
theorem s_sw (l : Launch) (G : Gm) (lay : Lay) (I : Hp) (v : Int32) : Meth l G yX1_swayedWorth cX1_swayedWorth 1 (some (FieldType.int)) 1 0 0 [.int v] lay I (fun r lay1 I1 => r = some (.int (99 - v)) ∧ lay1 = lay ∧ I1 = I) := by
  refine Meth.of (by decide +kernel) (by simp [Value.category]) (Nat.le_of_ble_eq_true rfl) ?_
  refine A_bipush bp_99 dX1_swayedWorth_0 ?_
  refine A_iload_n rfl dX1_swayedWorth_2 ?_
  refine A_isub dX1_swayedWorth_3 ?_
  refine A_iret rfl rfl rfl rfl dX1_swayedWorth_4 ?_
  exact ⟨rfl, rfl, rfl⟩
def q_worth (k d : Int32) : Int32 := if k = 1 then d + 5 else if k = 2 then 99 - d else if k = 3 then 2 * (d + 5) else if k = 4 then 92 - d else if k = 5 then 2 else d
theorem w92 (d : Int32) : (99 : Int32) - d - 7 = 92 - d := by
  rw [Int32.sub_eq_add_neg, Int32.sub_eq_add_neg, Int32.sub_eq_add_neg, Int32.add_assoc, Int32.add_comm (-d) (-7), ← Int32.add_assoc]
  rfl
set_option maxHeartbeats 4000000 in
set_option maxRecDepth 100000 in
theorem s_worth (l : Launch) (G : Gm) (lay : Lay) (I : Hp) (k d : Int32) : Meth l G yX1_worth cX1_worth 2 (some (FieldType.int)) 2 0 0 [.int k, .int d] lay I (fun r lay1 I1 => r = some (.int (q_worth k d)) ∧ lay1 = lay ∧ I1 = I) := by
  refine Meth.of (by decide +kernel) (by simp [Value.category]) (Nat.le_of_ble_eq_true rfl) ?_
  refine A_iload_n rfl dX1_worth_0 ?_
  refine A_tsw 63 rfl dX1_worth_1 rfl (fun j off hj cq1 => ?_) (fun cq1 => ?_)
  · match j, hj, cq1 with
    | 0, hj, cq1 =>
      cases hj
      replace cq1 := i_eq cq1 (ic_1)
      refine ⟨36, rfl, ?_⟩
      refine A_iload_n rfl dX1_worth_36 ?_
      refine A_callS (s_dw l G _ _ _) m_X1_doubtingWorth ml_X1_15 rfl rfl rfl (Nat.le_of_ble_eq_true rfl) (by decide) (by decide) (by decide) dX1_worth_37 (fun _ _ _ h => congrArg List.length h.2.1) ?_
      rintro _ _ _ ⟨rfl, rfl, rfl⟩
      refine A_iret rfl rfl rfl rfl dX1_worth_40 ?_
      refine ⟨congrArg (fun z => some (Value.int z)) ?_, rfl, rfl⟩
      first
        | (subst cq1; rfl)
        | (subst cq1; exact w92 d)
        | (unfold q_worth; (repeat' split) <;> first | with_reducible rfl | (exfalso; simp only [Int32.lt_iff_toInt_lt, Int32.le_iff_toInt_le, ← Int32.toInt_inj, Int32.reduceToInt] at *; omega))
    | 1, hj, cq1 =>
      cases hj
      replace cq1 := i_eq cq1 (ic_2)
      refine ⟨48, rfl, ?_⟩
      refine A_iload_n rfl dX1_worth_48 ?_
      refine A_callS (s_sw l G _ _ _) m_X1_swayedWorth ml_X1_18 rfl rfl rfl (Nat.le_of_ble_eq_true rfl) (by decide) (by decide) (by decide) dX1_worth_49 (fun _ _ _ h => congrArg List.length h.2.1) ?_
      rintro _ _ _ ⟨rfl, rfl, rfl⟩
      refine A_iret rfl rfl rfl rfl dX1_worth_52 ?_
      refine ⟨congrArg (fun z => some (Value.int z)) ?_, rfl, rfl⟩
      first
        | (subst cq1; rfl)
        | (subst cq1; exact w92 d)
        | (unfold q_worth; (repeat' split) <;> first | with_reducible rfl | (exfalso; simp only [Int32.lt_iff_toInt_lt, Int32.le_iff_toInt_le, ← Int32.toInt_inj, Int32.reduceToInt] at *; omega))
    | 2, hj, cq1 =>
      cases hj
      replace cq1 := i_eq cq1 (ic_3)
      refine ⟨41, rfl, ?_⟩
      refine A_iconst ic_2 dX1_worth_41 ?_
      refine A_iload_n rfl dX1_worth_42 ?_
      refine A_callS (s_dw l G _ _ _) m_X1_doubtingWorth ml_X1_15 rfl rfl rfl (Nat.le_of_ble_eq_true rfl) (by decide) (by decide) (by decide) dX1_worth_43 (fun _ _ _ h => congrArg List.length h.2.1) ?_
      rintro _ _ _ ⟨rfl, rfl, rfl⟩
      refine A_imul dX1_worth_46 ?_
      refine A_iret rfl rfl rfl rfl dX1_worth_47 ?_
      refine ⟨congrArg (fun z => some (Value.int z)) ?_, rfl, rfl⟩
      first
        | (subst cq1; rfl)
        | (subst cq1; exact w92 d)
        | (unfold q_worth; (repeat' split) <;> first | with_reducible rfl | (exfalso; simp only [Int32.lt_iff_toInt_lt, Int32.le_iff_toInt_le, ← Int32.toInt_inj, Int32.reduceToInt] at *; omega))
    | 3, hj, cq1 =>
      cases hj
      replace cq1 := i_eq cq1 (ic_4)
      refine ⟨53, rfl, ?_⟩
      refine A_iload_n rfl dX1_worth_53 ?_
      refine A_callS (s_sw l G _ _ _) m_X1_swayedWorth ml_X1_18 rfl rfl rfl (Nat.le_of_ble_eq_true rfl) (by decide) (by decide) (by decide) dX1_worth_54 (fun _ _ _ h => congrArg List.length h.2.1) ?_
      rintro _ _ _ ⟨rfl, rfl, rfl⟩
      refine A_bipush bp_7 dX1_worth_57 ?_
      refine A_isub dX1_worth_59 ?_
      refine A_iret rfl rfl rfl rfl dX1_worth_60 ?_
      refine ⟨congrArg (fun z => some (Value.int z)) ?_, rfl, rfl⟩
      first
        | (subst cq1; rfl)
        | (subst cq1; exact w92 d)
        | (unfold q_worth; (repeat' split) <;> first | with_reducible rfl | (exfalso; simp only [Int32.lt_iff_toInt_lt, Int32.le_iff_toInt_le, ← Int32.toInt_inj, Int32.reduceToInt] at *; omega))
    | 4, hj, cq1 =>
      cases hj
      replace cq1 := i_eq cq1 (ic_5)
      refine ⟨61, rfl, ?_⟩
      refine A_iconst ic_2 dX1_worth_61 ?_
      refine A_iret rfl rfl rfl rfl dX1_worth_62 ?_
      refine ⟨congrArg (fun z => some (Value.int z)) ?_, rfl, rfl⟩
      first
        | (subst cq1; rfl)
        | (subst cq1; exact w92 d)
        | (unfold q_worth; (repeat' split) <;> first | with_reducible rfl | (exfalso; simp only [Int32.lt_iff_toInt_lt, Int32.le_iff_toInt_le, ← Int32.toInt_inj, Int32.reduceToInt] at *; omega))
    | j + 5, hj, _ => exact absurd hj (by simp)
  · skip
    refine A_iload_n rfl dX1_worth_63 ?_
    refine A_iret rfl rfl rfl rfl dX1_worth_64 ?_
    refine ⟨congrArg (fun z => some (Value.int z)) ?_, rfl, rfl⟩
    first
      | (subst cq1; rfl)
      | (subst cq1; exact w92 d)
      | (unfold q_worth; (repeat' split) <;> first | with_reducible rfl | (exfalso; simp only [Int32.lt_iff_toInt_lt, Int32.le_iff_toInt_le, ← Int32.toInt_inj, Int32.reduceToInt] at *; omega))
set_option maxHeartbeats 4000000 in
set_option maxRecDepth 100000 in
theorem s_dbel (l : Launch) (G : Gm) (lay : Lay) (I : Hp) (p d : Int32) : Meth l G yX1_doubtingBelief cX1_doubtingBelief 2 (some (FieldType.int)) 2 0 0 [.int p, .int d] lay I (fun r lay1 I1 => r = some (.int (if 0 < p - d then p - d else 0)) ∧ lay1 = lay ∧ I1 = I) := by
  refine Meth.of (by decide +kernel) (by simp [Value.category]) (Nat.le_of_ble_eq_true rfl) ?_
  refine A_iconst ic_0 dX1_doubtingBelief_0 ?_
  refine A_iload_n rfl dX1_doubtingBelief_1 ?_
  refine A_iload_n rfl dX1_doubtingBelief_2 ?_
  refine A_isub dX1_doubtingBelief_3 ?_
  refine A_callS (s_max l G _ _ _ _) m_J9_max_7cf53 ml_X1_28 rfl rfl rfl (Nat.le_of_ble_eq_true rfl) (by decide) (by decide) (by decide) dX1_doubtingBelief_4 (fun _ _ _ h => congrArg List.length h.2.1) ?_
  rintro _ _ _ ⟨rfl, rfl, rfl⟩
  refine A_iret rfl rfl rfl rfl dX1_doubtingBelief_7 ?_
  exact ⟨rfl, rfl, rfl⟩
