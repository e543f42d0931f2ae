set_option maxHeartbeats 4000000 in
set_option maxRecDepth 100000 in
theorem s_within (l : Launch) (G : Gm) (lay : Lay) (I : Hp) (v a b : Int32) : Meth l G yX7_within cX7_within 3 (some (FieldType.boolean)) 1 0 0 [.int v, .int a, .int b] lay I (fun r lay1 I1 => r = some (.int (b2i (decide (a ≤ v ∧ v ≤ b)))) ∧ lay1 = lay ∧ I1 = I) := by
  refine Meth.of (by decide +kernel) (by simp [Value.category]) (Nat.le_of_ble_eq_true rfl) ?_
  refine A_iload_n rfl dX7_within_0 ?_
  refine A_iload_n rfl dX7_within_1 ?_
  refine A_icmp_lt 14 rfl dX7_within_2 (fun c2 => ?_) (fun c2 => ?_)
  · skip
    refine A_iconst ic_0 dX7_within_14 ?_
    refine A_iret rfl rfl rfl rfl dX7_within_15 ?_
    refine ⟨congrArg (fun z => some (Value.int z)) ?_, rfl, rfl⟩
    first
      | with_reducible rfl
      | exact (b2i_tt (by simp only [Int32.lt_iff_toInt_lt, Int32.le_iff_toInt_le, ← Int32.toInt_inj, Int32.reduceToInt] at *; omega)).symm
      | exact (b2i_ff (by simp only [Int32.lt_iff_toInt_lt, Int32.le_iff_toInt_le, ← Int32.toInt_inj, Int32.reduceToInt] at *; omega)).symm
      | (repeat' split) <;> first | with_reducible rfl | (exfalso; simp only [Int32.lt_iff_toInt_lt, Int32.le_iff_toInt_le, ← Int32.toInt_inj, Int32.reduceToInt] at *; omega)
  · skip
    refine A_iload_n rfl dX7_within_5 ?_
    refine A_iload_n rfl dX7_within_6 ?_
    refine A_icmp_gt 14 rfl dX7_within_7 (fun c7 => ?_) (fun c7 => ?_)
    · skip
      refine A_iconst ic_0 dX7_within_14 ?_
      refine A_iret rfl rfl rfl rfl dX7_within_15 ?_
      refine ⟨congrArg (fun z => some (Value.int z)) ?_, rfl, rfl⟩
      first
        | with_reducible rfl
        | exact (b2i_tt (by simp only [Int32.lt_iff_toInt_lt, Int32.le_iff_toInt_le, ← Int32.toInt_inj, Int32.reduceToInt] at *; omega)).symm
        | exact (b2i_ff (by simp only [Int32.lt_iff_toInt_lt, Int32.le_iff_toInt_le, ← Int32.toInt_inj, Int32.reduceToInt] at *; omega)).symm
        | (repeat' split) <;> first | with_reducible rfl | (exfalso; simp only [Int32.lt_iff_toInt_lt, Int32.le_iff_toInt_le, ← Int32.toInt_inj, Int32.reduceToInt] at *; omega)
    · skip
      refine A_iconst ic_1 dX7_within_10 ?_
      refine A_goto 15 rfl dX7_within_11 ?_
      refine A_iret rfl rfl rfl rfl dX7_within_15 ?_
      refine ⟨congrArg (fun z => some (Value.int z)) ?_, rfl, rfl⟩
      first
        | with_reducible rfl
        | exact (b2i_tt (by simp only [Int32.lt_iff_toInt_lt, Int32.le_iff_toInt_le, ← Int32.toInt_inj, Int32.reduceToInt] at *; omega)).symm
        | exact (b2i_ff (by simp only [Int32.lt_iff_toInt_lt, Int32.le_iff_toInt_le, ← Int32.toInt_inj, Int32.reduceToInt] at *; omega)).symm
        | (repeat' split) <;> first | with_reducible rfl | (exfalso; simp only [Int32.lt_iff_toInt_lt, Int32.le_iff_toInt_le, ← Int32.toInt_inj, Int32.reduceToInt] at *; omega)
set_option maxHeartbeats 4000000 in
set_option maxRecDepth 100000 in
theorem s_in (l : Launch) (G : Gm) (lay : Lay) (I : Hp) (v a b : Int32) : Meth l G yX8_in cX8_in 3 (some (FieldType.boolean)) 1 0 0 [.int v, .int a, .int b] lay I (fun r lay1 I1 => r = some (.int (b2i (decide (a ≤ v ∧ v ≤ b)))) ∧ lay1 = lay ∧ I1 = I) := by
  refine Meth.of (by decide +kernel) (by simp [Value.category]) (Nat.le_of_ble_eq_true rfl) ?_
  refine A_iload_n rfl dX8_in_0 ?_
  refine A_iload_n rfl dX8_in_1 ?_
  refine A_icmp_lt 14 rfl dX8_in_2 (fun c2 => ?_) (fun c2 => ?_)
  · skip
    refine A_iconst ic_0 dX8_in_14 ?_
    refine A_iret rfl rfl rfl rfl dX8_in_15 ?_
    refine ⟨congrArg (fun z => some (Value.int z)) ?_, rfl, rfl⟩
    first
      | with_reducible rfl
      | exact (b2i_tt (by simp only [Int32.lt_iff_toInt_lt, Int32.le_iff_toInt_le, ← Int32.toInt_inj, Int32.reduceToInt] at *; omega)).symm
      | exact (b2i_ff (by simp only [Int32.lt_iff_toInt_lt, Int32.le_iff_toInt_le, ← Int32.toInt_inj, Int32.reduceToInt] at *; omega)).symm
      | (repeat' split) <;> first | with_reducible rfl | (exfalso; simp only [Int32.lt_iff_toInt_lt, Int32.le_iff_toInt_le, ← Int32.toInt_inj, Int32.reduceToInt] at *; omega)
  · skip
    refine A_iload_n rfl dX8_in_5 ?_
    refine A_iload_n rfl dX8_in_6 ?_
    refine A_icmp_gt 14 rfl dX8_in_7 (fun c7 => ?_) (fun c7 => ?_)
    · skip
      refine A_iconst ic_0 dX8_in_14 ?_
      refine A_iret rfl rfl rfl rfl dX8_in_15 ?_
      refine ⟨congrArg (fun z => some (Value.int z)) ?_, rfl, rfl⟩
      first
        | with_reducible rfl
        | exact (b2i_tt (by simp only [Int32.lt_iff_toInt_lt, Int32.le_iff_toInt_le, ← Int32.toInt_inj, Int32.reduceToInt] at *; omega)).symm
        | exact (b2i_ff (by simp only [Int32.lt_iff_toInt_lt, Int32.le_iff_toInt_le, ← Int32.toInt_inj, Int32.reduceToInt] at *; omega)).symm
        | (repeat' split) <;> first | with_reducible rfl | (exfalso; simp only [Int32.lt_iff_toInt_lt, Int32.le_iff_toInt_le, ← Int32.toInt_inj, Int32.reduceToInt] at *; omega)
    · skip
      refine A_iconst ic_1 dX8_in_10 ?_
      refine A_goto 15 rfl dX8_in_11 ?_
      refine A_iret rfl rfl rfl rfl dX8_in_15 ?_
      refine ⟨congrArg (fun z => some (Value.int z)) ?_, rfl, rfl⟩
      first
        | with_reducible rfl
        | exact (b2i_tt (by simp only [Int32.lt_iff_toInt_lt, Int32.le_iff_toInt_le, ← Int32.toInt_inj, Int32.reduceToInt] at *; omega)).symm
        | exact (b2i_ff (by simp only [Int32.lt_iff_toInt_lt, Int32.le_iff_toInt_le, ← Int32.toInt_inj, Int32.reduceToInt] at *; omega)).symm
        | (repeat' split) <;> first | with_reducible rfl | (exfalso; simp only [Int32.lt_iff_toInt_lt, Int32.le_iff_toInt_le, ← Int32.toInt_inj, Int32.reduceToInt] at *; omega)
set_option maxHeartbeats 4000000 in
set_option maxRecDepth 100000 in
theorem s_max (l : Launch) (G : Gm) (lay : Lay) (I : Hp) (a b : Int32) : Meth l G yJ9_max_7cf53 cJ9_max_7cf53 2 (some (FieldType.int)) 1 0 0 [.int a, .int b] lay I (fun r lay1 I1 => r = some (.int (if a < b then b else a)) ∧ lay1 = lay ∧ I1 = I) := by
  refine Meth.of (by decide +kernel) (by simp [Value.category]) (Nat.le_of_ble_eq_true rfl) ?_
  refine A_iload_n rfl dJ9_max_7cf53_0 ?_
  refine A_iload_n rfl dJ9_max_7cf53_1 ?_
  refine A_icmp_lt 9 rfl dJ9_max_7cf53_2 (fun c2 => ?_) (fun c2 => ?_)
  · skip
    refine A_iload_n rfl dJ9_max_7cf53_9 ?_
    refine A_iret rfl rfl rfl rfl dJ9_max_7cf53_10 ?_
    refine ⟨congrArg (fun z => some (Value.int z)) ?_, rfl, rfl⟩
    first
      | with_reducible rfl
      | exact (b2i_tt (by simp only [Int32.lt_iff_toInt_lt, Int32.le_iff_toInt_le, ← Int32.toInt_inj, Int32.reduceToInt] at *; omega)).symm
      | exact (b2i_ff (by simp only [Int32.lt_iff_toInt_lt, Int32.le_iff_toInt_le, ← Int32.toInt_inj, Int32.reduceToInt] at *; omega)).symm
      | (repeat' split) <;> first | with_reducible rfl | (exfalso; simp only [Int32.lt_iff_toInt_lt, Int32.le_iff_toInt_le, ← Int32.toInt_inj, Int32.reduceToInt] at *; omega)
  · skip
    refine A_iload_n rfl dJ9_max_7cf53_5 ?_
    refine A_goto 10 rfl dJ9_max_7cf53_6 ?_
    refine A_iret rfl rfl rfl rfl dJ9_max_7cf53_10 ?_
    refine ⟨congrArg (fun z => some (Value.int z)) ?_, rfl, rfl⟩
    first
      | with_reducible rfl
      | exact (b2i_tt (by simp only [Int32.lt_iff_toInt_lt, Int32.le_iff_toInt_le, ← Int32.toInt_inj, Int32.reduceToInt] at *; omega)).symm
      | exact (b2i_ff (by simp only [Int32.lt_iff_toInt_lt, Int32.le_iff_toInt_le, ← Int32.toInt_inj, Int32.reduceToInt] at *; omega)).symm
      | (repeat' split) <;> first | with_reducible rfl | (exfalso; simp only [Int32.lt_iff_toInt_lt, Int32.le_iff_toInt_le, ← Int32.toInt_inj, Int32.reduceToInt] at *; omega)
set_option maxHeartbeats 4000000 in
set_option maxRecDepth 100000 in
theorem s_min (l : Launch) (G : Gm) (lay : Lay) (I : Hp) (a b : Int32) : Meth l G yJ9_min_7cf53 cJ9_min_7cf53 2 (some (FieldType.int)) 1 0 0 [.int a, .int b] lay I (fun r lay1 I1 => r = some (.int (if b < a then b else a)) ∧ lay1 = lay ∧ I1 = I) := by
  refine Meth.of (by decide +kernel) (by simp [Value.category]) (Nat.le_of_ble_eq_true rfl) ?_
  refine A_iload_n rfl dJ9_min_7cf53_0 ?_
  refine A_iload_n rfl dJ9_min_7cf53_1 ?_
  refine A_icmp_gt 9 rfl dJ9_min_7cf53_2 (fun c2 => ?_) (fun c2 => ?_)
  · skip
    refine A_iload_n rfl dJ9_min_7cf53_9 ?_
    refine A_iret rfl rfl rfl rfl dJ9_min_7cf53_10 ?_
    refine ⟨congrArg (fun z => some (Value.int z)) ?_, rfl, rfl⟩
    first
      | with_reducible rfl
      | exact (b2i_tt (by simp only [Int32.lt_iff_toInt_lt, Int32.le_iff_toInt_le, ← Int32.toInt_inj, Int32.reduceToInt] at *; omega)).symm
      | exact (b2i_ff (by simp only [Int32.lt_iff_toInt_lt, Int32.le_iff_toInt_le, ← Int32.toInt_inj, Int32.reduceToInt] at *; omega)).symm
      | (repeat' split) <;> first | with_reducible rfl | (exfalso; simp only [Int32.lt_iff_toInt_lt, Int32.le_iff_toInt_le, ← Int32.toInt_inj, Int32.reduceToInt] at *; omega)
  · skip
    refine A_iload_n rfl dJ9_min_7cf53_5 ?_
    refine A_goto 10 rfl dJ9_min_7cf53_6 ?_
    refine A_iret rfl rfl rfl rfl dJ9_min_7cf53_10 ?_
    refine ⟨congrArg (fun z => some (Value.int z)) ?_, rfl, rfl⟩
    first
      | with_reducible rfl
      | exact (b2i_tt (by simp only [Int32.lt_iff_toInt_lt, Int32.le_iff_toInt_le, ← Int32.toInt_inj, Int32.reduceToInt] at *; omega)).symm
      | exact (b2i_ff (by simp only [Int32.lt_iff_toInt_lt, Int32.le_iff_toInt_le, ← Int32.toInt_inj, Int32.reduceToInt] at *; omega)).symm
      | (repeat' split) <;> first | with_reducible rfl | (exfalso; simp only [Int32.lt_iff_toInt_lt, Int32.le_iff_toInt_le, ← Int32.toInt_inj, Int32.reduceToInt] at *; omega)
set_option maxHeartbeats 4000000 in
set_option maxRecDepth 100000 in
theorem s_abs (l : Launch) (G : Gm) (lay : Lay) (I : Hp) (a : Int32) : Meth l G yJ9_abs_0f7a4 cJ9_abs_0f7a4 1 (some (FieldType.int)) 1 0 0 [.int a] lay I (fun r lay1 I1 => r = some (.int (if a < 0 then -a else a)) ∧ lay1 = lay ∧ I1 = I) := by
  refine Meth.of (by decide +kernel) (by simp [Value.category]) (Nat.le_of_ble_eq_true rfl) ?_
  refine A_iload_n rfl dJ9_abs_0f7a4_0 ?_
  refine A_if_ge 9 rfl dJ9_abs_0f7a4_1 (fun c1 => ?_) (fun c1 => ?_)
  · skip
    refine A_iload_n rfl dJ9_abs_0f7a4_9 ?_
    refine A_iret rfl rfl rfl rfl dJ9_abs_0f7a4_10 ?_
    refine ⟨congrArg (fun z => some (Value.int z)) ?_, rfl, rfl⟩
    first
      | with_reducible rfl
      | exact (b2i_tt (by simp only [Int32.lt_iff_toInt_lt, Int32.le_iff_toInt_le, ← Int32.toInt_inj, Int32.reduceToInt] at *; omega)).symm
      | exact (b2i_ff (by simp only [Int32.lt_iff_toInt_lt, Int32.le_iff_toInt_le, ← Int32.toInt_inj, Int32.reduceToInt] at *; omega)).symm
      | (repeat' split) <;> first | with_reducible rfl | (exfalso; simp only [Int32.lt_iff_toInt_lt, Int32.le_iff_toInt_le, ← Int32.toInt_inj, Int32.reduceToInt] at *; omega)
  · skip
    refine A_iload_n rfl dJ9_abs_0f7a4_4 ?_
    refine A_ineg dJ9_abs_0f7a4_5 ?_
    refine A_goto 10 rfl dJ9_abs_0f7a4_6 ?_
    refine A_iret rfl rfl rfl rfl dJ9_abs_0f7a4_10 ?_
    refine ⟨congrArg (fun z => some (Value.int z)) ?_, rfl, rfl⟩
    first
      | with_reducible rfl
      | exact (b2i_tt (by simp only [Int32.lt_iff_toInt_lt, Int32.le_iff_toInt_le, ← Int32.toInt_inj, Int32.reduceToInt] at *; omega)).symm
      | exact (b2i_ff (by simp only [Int32.lt_iff_toInt_lt, Int32.le_iff_toInt_le, ← Int32.toInt_inj, Int32.reduceToInt] at *; omega)).symm
      | (repeat' split) <;> first | with_reducible rfl | (exfalso; simp only [Int32.lt_iff_toInt_lt, Int32.le_iff_toInt_le, ← Int32.toInt_inj, Int32.reduceToInt] at *; omega)
def heldF (v a b : Int32) : Int32 := if a < (if v < b then v else b) then (if v < b then v else b) else a
set_option maxHeartbeats 4000000 in
set_option maxRecDepth 100000 in
theorem s_held (l : Launch) (G : Gm) (lay : Lay) (I : Hp) (v a b : Int32) : Meth l G yX7_held cX7_held 3 (some (FieldType.int)) 2 0 0 [.int v, .int a, .int b] lay I (fun r lay1 I1 => r = some (.int (heldF v a b)) ∧ lay1 = lay ∧ I1 = I) := by
  refine Meth.of (by decide +kernel) (by simp [Value.category]) (Nat.le_of_ble_eq_true rfl) ?_
  refine A_iload_n rfl dX7_held_0 ?_
  refine A_iload_n rfl dX7_held_1 ?_
  refine A_iload_n rfl dX7_held_2 ?_
  refine A_callS (s_min l G _ _ _ _) m_J9_min_7cf53 ml_X7_139 rfl rfl rfl (Nat.le_of_ble_eq_true rfl) (by decide) (by decide) (by decide) dX7_held_3 (fun _ _ _ h => congrArg List.length h.2.1) ?_
  rintro _ _ _ ⟨rfl, rfl, rfl⟩
  refine A_callS (s_max l G _ _ _ _) m_J9_max_7cf53 ml_X7_299 rfl rfl rfl (Nat.le_of_ble_eq_true rfl) (by decide) (by decide) (by decide) dX7_held_6 (fun _ _ _ h => congrArg List.length h.2.1) ?_
  rintro _ _ _ ⟨rfl, rfl, rfl⟩
  refine A_iret rfl rfl rfl rfl dX7_held_9 ?_
  exact ⟨rfl, rfl, rfl⟩
set_option maxHeartbeats 4000000 in
set_option maxRecDepth 100000 in
theorem s_withinM (l : Launch) (G : Gm) (lay : Lay) (I : Hp) (v a b : Int32) : Meth l G yX8_within cX8_within 3 (some (FieldType.int)) 1 0 0 [.int v, .int a, .int b] lay I (fun r lay1 I1 => r = some (.int (if v < a then a else if b < v then b else v)) ∧ lay1 = lay ∧ I1 = I) := by
  refine Meth.of (by decide +kernel) (by simp [Value.category]) (Nat.le_of_ble_eq_true rfl) ?_
  refine A_iload_n rfl dX8_within_0 ?_
  refine A_iload_n rfl dX8_within_1 ?_
  refine A_icmp_ge 9 rfl dX8_within_2 (fun c2 => ?_) (fun c2 => ?_)
  · skip
    refine A_iload_n rfl dX8_within_9 ?_
    refine A_iload_n rfl dX8_within_10 ?_
    refine A_icmp_le 18 rfl dX8_within_11 (fun c11 => ?_) (fun c11 => ?_)
    · skip
      refine A_iload_n rfl dX8_within_18 ?_
      refine A_iret rfl rfl rfl rfl dX8_within_19 ?_
      refine ⟨congrArg (fun z => some (Value.int z)) ?_, rfl, rfl⟩
      first
        | with_reducible rfl
        | exact (b2i_tt (by simp only [Int32.lt_iff_toInt_lt, Int32.le_iff_toInt_le, ← Int32.toInt_inj, Int32.reduceToInt] at *; omega)).symm
        | exact (b2i_ff (by simp only [Int32.lt_iff_toInt_lt, Int32.le_iff_toInt_le, ← Int32.toInt_inj, Int32.reduceToInt] at *; omega)).symm
        | (repeat' split) <;> first | with_reducible rfl | (exfalso; simp only [Int32.lt_iff_toInt_lt, Int32.le_iff_toInt_le, ← Int32.toInt_inj, Int32.reduceToInt] at *; omega)
    · skip
      refine A_iload_n rfl dX8_within_14 ?_
      refine A_goto 19 rfl dX8_within_15 ?_
      refine A_iret rfl rfl rfl rfl dX8_within_19 ?_
      refine ⟨congrArg (fun z => some (Value.int z)) ?_, rfl, rfl⟩
      first
        | with_reducible rfl
        | exact (b2i_tt (by simp only [Int32.lt_iff_toInt_lt, Int32.le_iff_toInt_le, ← Int32.toInt_inj, Int32.reduceToInt] at *; omega)).symm
        | exact (b2i_ff (by simp only [Int32.lt_iff_toInt_lt, Int32.le_iff_toInt_le, ← Int32.toInt_inj, Int32.reduceToInt] at *; omega)).symm
        | (repeat' split) <;> first | with_reducible rfl | (exfalso; simp only [Int32.lt_iff_toInt_lt, Int32.le_iff_toInt_le, ← Int32.toInt_inj, Int32.reduceToInt] at *; omega)
  · skip
    refine A_iload_n rfl dX8_within_5 ?_
    refine A_goto 19 rfl dX8_within_6 ?_
    refine A_iret rfl rfl rfl rfl dX8_within_19 ?_
    refine ⟨congrArg (fun z => some (Value.int z)) ?_, rfl, rfl⟩
    first
      | with_reducible rfl
      | exact (b2i_tt (by simp only [Int32.lt_iff_toInt_lt, Int32.le_iff_toInt_le, ← Int32.toInt_inj, Int32.reduceToInt] at *; omega)).symm
      | exact (b2i_ff (by simp only [Int32.lt_iff_toInt_lt, Int32.le_iff_toInt_le, ← Int32.toInt_inj, Int32.reduceToInt] at *; omega)).symm
      | (repeat' split) <;> first | with_reducible rfl | (exfalso; simp only [Int32.lt_iff_toInt_lt, Int32.le_iff_toInt_le, ← Int32.toInt_inj, Int32.reduceToInt] at *; omega)
set_option maxHeartbeats 4000000 in
set_option maxRecDepth 100000 in
theorem s_above (l : Launch) (G : Gm) (lay : Lay) (I : Hp) (k : Int32) : Meth l G yX1_above cX1_above 1 (some (FieldType.int)) 1 0 0 [.int k] lay I (fun r lay1 I1 => r = some (.int (if k = 3 then 1 else if k = 4 then 2 else 0)) ∧ lay1 = lay ∧ I1 = I) := by
  refine Meth.of (by decide +kernel) (by simp [Value.category]) (Nat.le_of_ble_eq_true rfl) ?_
  refine A_iload_n rfl dX1_above_0 ?_
  refine A_lsw dX1_above_1 rfl ?_
  simp only [Op.lookupswitch.offset]
  split
  · rename_i c1
    replace c1 := i_eq c1.symm (ic_3)
    refine ⟨28, rfl, ?_⟩
    refine A_iconst ic_1 dX1_above_28 ?_
    refine A_iret rfl rfl rfl rfl dX1_above_29 ?_
    refine ⟨congrArg (fun z => some (Value.int z)) ?_, rfl, rfl⟩
    first
      | with_reducible rfl
      | exact (b2i_tt (by simp only [Int32.lt_iff_toInt_lt, Int32.le_iff_toInt_le, ← Int32.toInt_inj, Int32.reduceToInt] at *; omega)).symm
      | exact (b2i_ff (by simp only [Int32.lt_iff_toInt_lt, Int32.le_iff_toInt_le, ← Int32.toInt_inj, Int32.reduceToInt] at *; omega)).symm
      | (repeat' split) <;> first | with_reducible rfl | (exfalso; simp only [Int32.lt_iff_toInt_lt, Int32.le_iff_toInt_le, ← Int32.toInt_inj, Int32.reduceToInt] at *; omega)
  · rename_i c1_3
    split
    · rename_i c1
      replace c1 := i_eq c1.symm (ic_4)
      refine ⟨30, rfl, ?_⟩
      refine A_iconst ic_2 dX1_above_30 ?_
      refine A_iret rfl rfl rfl rfl dX1_above_31 ?_
      refine ⟨congrArg (fun z => some (Value.int z)) ?_, rfl, rfl⟩
      first
        | with_reducible rfl
        | exact (b2i_tt (by simp only [Int32.lt_iff_toInt_lt, Int32.le_iff_toInt_le, ← Int32.toInt_inj, Int32.reduceToInt] at *; omega)).symm
        | exact (b2i_ff (by simp only [Int32.lt_iff_toInt_lt, Int32.le_iff_toInt_le, ← Int32.toInt_inj, Int32.reduceToInt] at *; omega)).symm
        | (repeat' split) <;> first | with_reducible rfl | (exfalso; simp only [Int32.lt_iff_toInt_lt, Int32.le_iff_toInt_le, ← Int32.toInt_inj, Int32.reduceToInt] at *; omega)
    · rename_i c1_4
      refine ⟨32, rfl, ?_⟩
      refine A_iconst ic_0 dX1_above_32 ?_
      refine A_iret rfl rfl rfl rfl dX1_above_33 ?_
      refine ⟨congrArg (fun z => some (Value.int z)) ?_, rfl, rfl⟩
      first
        | with_reducible rfl
        | exact (b2i_tt (by simp only [Int32.lt_iff_toInt_lt, Int32.le_iff_toInt_le, ← Int32.toInt_inj, Int32.reduceToInt] at *; omega)).symm
        | exact (b2i_ff (by simp only [Int32.lt_iff_toInt_lt, Int32.le_iff_toInt_le, ← Int32.toInt_inj, Int32.reduceToInt] at *; omega)).symm
        | (repeat' split) <;> first | with_reducible rfl | (exfalso; simp only [Int32.lt_iff_toInt_lt, Int32.le_iff_toInt_le, ← Int32.toInt_inj, Int32.reduceToInt] at *; omega)
set_option maxHeartbeats 4000000 in
set_option maxRecDepth 100000 in
theorem s_isFact (l : Launch) (G : Gm) (lay : Lay) (I : Hp) (v : Int32) : Meth l G yX7_isFact cX7_isFact 1 (some (FieldType.boolean)) 2 0 0 [.int v] lay I (fun r lay1 I1 => r = some (.int (b2i (decide (0 ≤ v ∧ v ≤ 7)))) ∧ lay1 = lay ∧ I1 = I) := by
  refine Meth.of (by decide +kernel) (by simp [Value.category]) (Nat.le_of_ble_eq_true rfl) ?_
  refine A_iload_n rfl dX7_isFact_0 ?_
  refine A_iconst ic_0 dX7_isFact_1 ?_
  refine A_bipush bp_7 dX7_isFact_2 ?_
  refine A_callS (s_within l G _ _ _ _ _) m_X7_within ml_X7_56 rfl rfl rfl (Nat.le_of_ble_eq_true rfl) (by decide) (by decide) (by decide) dX7_isFact_4 (fun _ _ _ h => congrArg List.length h.2.1) ?_
  rintro _ _ _ ⟨rfl, rfl, rfl⟩
  refine A_iret rfl (b2i_n _) rfl rfl dX7_isFact_7 ?_
  exact ⟨rfl, rfl, rfl⟩
set_option maxHeartbeats 4000000 in
set_option maxRecDepth 100000 in
theorem s_isSheet (l : Launch) (G : Gm) (lay : Lay) (I : Hp) (v : Int32) : Meth l G yX7_isSheet cX7_isSheet 1 (some (FieldType.boolean)) 2 0 0 [.int v] lay I (fun r lay1 I1 => r = some (.int (b2i (decide (0 ≤ v ∧ v ≤ 3)))) ∧ lay1 = lay ∧ I1 = I) := by
  refine Meth.of (by decide +kernel) (by simp [Value.category]) (Nat.le_of_ble_eq_true rfl) ?_
  refine A_iload_n rfl dX7_isSheet_0 ?_
  refine A_iconst ic_0 dX7_isSheet_1 ?_
  refine A_iconst ic_3 dX7_isSheet_2 ?_
  refine A_callS (s_within l G _ _ _ _ _) m_X7_within ml_X7_56 rfl rfl rfl (Nat.le_of_ble_eq_true rfl) (by decide) (by decide) (by decide) dX7_isSheet_3 (fun _ _ _ h => congrArg List.length h.2.1) ?_
  rintro _ _ _ ⟨rfl, rfl, rfl⟩
  refine A_iret rfl (b2i_n _) rfl rfl dX7_isSheet_6 ?_
  exact ⟨rfl, rfl, rfl⟩
set_option maxHeartbeats 4000000 in
set_option maxRecDepth 100000 in
theorem s_isSlot (l : Launch) (G : Gm) (lay : Lay) (I : Hp) (v : Int32) : Meth l G yX7_isSlot cX7_isSlot 1 (some (FieldType.boolean)) 2 0 0 [.int v] lay I (fun r lay1 I1 => r = some (.int (b2i (decide (0 ≤ v ∧ v ≤ 4)))) ∧ lay1 = lay ∧ I1 = I) := by
  refine Meth.of (by decide +kernel) (by simp [Value.category]) (Nat.le_of_ble_eq_true rfl) ?_
  refine A_iload_n rfl dX7_isSlot_0 ?_
  refine A_iconst ic_0 dX7_isSlot_1 ?_
  refine A_iconst ic_4 dX7_isSlot_2 ?_
  refine A_callS (s_within l G _ _ _ _ _) m_X7_within ml_X7_56 rfl rfl rfl (Nat.le_of_ble_eq_true rfl) (by decide) (by decide) (by decide) dX7_isSlot_3 (fun _ _ _ h => congrArg List.length h.2.1) ?_
  rintro _ _ _ ⟨rfl, rfl, rfl⟩
  refine A_iret rfl (b2i_n _) rfl rfl dX7_isSlot_6 ?_
  exact ⟨rfl, rfl, rfl⟩
