set_option maxHeartbeats 4000000 in
set_option maxRecDepth 100000 in
theorem s_max (l : Launch) (G : Gm) (lay : Lay) (I : Hp) (a b : Int32) : Meth l G yJ9_max_7cf53 cJ9_max_7cf53 2 (some (FieldType.int)) 1 0 0 [.int a, .int b] lay I (fun r lay1 I1 => r = some (.int (if a < b then b else a)) ∧ lay1 = lay ∧ I1 = I) := by
  refine Meth.of (by decide +kernel) (by simp [Value.category]) (Nat.le_of_ble_eq_true rfl) ?_
  refine A_iload_n rfl dJ9_max_7cf53_0 ?_
  refine A_iload_n rfl dJ9_max_7cf53_1 ?_
  refine A_icmp_lt 9 rfl dJ9_max_7cf53_2 (fun cq2 => ?_) (fun cq2 => ?_)
  · skip
    refine A_iload_n rfl dJ9_max_7cf53_9 ?_
    refine A_iret rfl rfl rfl rfl dJ9_max_7cf53_10 ?_
    refine ⟨congrArg (fun z => some (Value.int z)) ?_, rfl, rfl⟩
    first
      | with_reducible rfl
      | exact (b2i_tt (by simp only [Int32.lt_iff_toInt_lt, Int32.le_iff_toInt_le, ← Int32.toInt_inj, Int32.reduceToInt] at *; omega)).symm
      | exact (b2i_ff (by simp only [Int32.lt_iff_toInt_lt, Int32.le_iff_toInt_le, ← Int32.toInt_inj, Int32.reduceToInt] at *; omega)).symm
      | (repeat' split) <;> first | with_reducible rfl | (exfalso; simp only [Int32.lt_iff_toInt_lt, Int32.le_iff_toInt_le, ← Int32.toInt_inj, Int32.reduceToInt] at *; omega)
  · skip
    refine A_iload_n rfl dJ9_max_7cf53_5 ?_
    refine A_goto 10 rfl dJ9_max_7cf53_6 ?_
    refine A_iret rfl rfl rfl rfl dJ9_max_7cf53_10 ?_
    refine ⟨congrArg (fun z => some (Value.int z)) ?_, rfl, rfl⟩
    first
      | with_reducible rfl
      | exact (b2i_tt (by simp only [Int32.lt_iff_toInt_lt, Int32.le_iff_toInt_le, ← Int32.toInt_inj, Int32.reduceToInt] at *; omega)).symm
      | exact (b2i_ff (by simp only [Int32.lt_iff_toInt_lt, Int32.le_iff_toInt_le, ← Int32.toInt_inj, Int32.reduceToInt] at *; omega)).symm
      | (repeat' split) <;> first | with_reducible rfl | (exfalso; simp only [Int32.lt_iff_toInt_lt, Int32.le_iff_toInt_le, ← Int32.toInt_inj, Int32.reduceToInt] at *; omega)
set_option maxHeartbeats 4000000 in
set_option maxRecDepth 100000 in
theorem s_min (l : Launch) (G : Gm) (lay : Lay) (I : Hp) (a b : Int32) : Meth l G yJ9_min_7cf53 cJ9_min_7cf53 2 (some (FieldType.int)) 1 0 0 [.int a, .int b] lay I (fun r lay1 I1 => r = some (.int (if b < a then b else a)) ∧ lay1 = lay ∧ I1 = I) := by
  refine Meth.of (by decide +kernel) (by simp [Value.category]) (Nat.le_of_ble_eq_true rfl) ?_
  refine A_iload_n rfl dJ9_min_7cf53_0 ?_
  refine A_iload_n rfl dJ9_min_7cf53_1 ?_
  refine A_icmp_gt 9 rfl dJ9_min_7cf53_2 (fun cq2 => ?_) (fun cq2 => ?_)
  · skip
    refine A_iload_n rfl dJ9_min_7cf53_9 ?_
    refine A_iret rfl rfl rfl rfl dJ9_min_7cf53_10 ?_
    refine ⟨congrArg (fun z => some (Value.int z)) ?_, rfl, rfl⟩
    first
      | with_reducible rfl
      | exact (b2i_tt (by simp only [Int32.lt_iff_toInt_lt, Int32.le_iff_toInt_le, ← Int32.toInt_inj, Int32.reduceToInt] at *; omega)).symm
      | exact (b2i_ff (by simp only [Int32.lt_iff_toInt_lt, Int32.le_iff_toInt_le, ← Int32.toInt_inj, Int32.reduceToInt] at *; omega)).symm
      | (repeat' split) <;> first | with_reducible rfl | (exfalso; simp only [Int32.lt_iff_toInt_lt, Int32.le_iff_toInt_le, ← Int32.toInt_inj, Int32.reduceToInt] at *; omega)
  · skip
    refine A_iload_n rfl dJ9_min_7cf53_5 ?_
    refine A_goto 10 rfl dJ9_min_7cf53_6 ?_
    refine A_iret rfl rfl rfl rfl dJ9_min_7cf53_10 ?_
    refine ⟨congrArg (fun z => some (Value.int z)) ?_, rfl, rfl⟩
    first
      | with_reducible rfl
      | exact (b2i_tt (by simp only [Int32.lt_iff_toInt_lt, Int32.le_iff_toInt_le, ← Int32.toInt_inj, Int32.reduceToInt] at *; omega)).symm
      | exact (b2i_ff (by simp only [Int32.lt_iff_toInt_lt, Int32.le_iff_toInt_le, ← Int32.toInt_inj, Int32.reduceToInt] at *; omega)).symm
      | (repeat' split) <;> first | with_reducible rfl | (exfalso; simp only [Int32.lt_iff_toInt_lt, Int32.le_iff_toInt_le, ← Int32.toInt_inj, Int32.reduceToInt] at *; omega)
set_option maxHeartbeats 4000000 in
set_option maxRecDepth 100000 in
theorem s_abs (l : Launch) (G : Gm) (lay : Lay) (I : Hp) (a : Int32) : Meth l G yJ9_abs_0f7a4 cJ9_abs_0f7a4 1 (some (FieldType.int)) 1 0 0 [.int a] lay I (fun r lay1 I1 => r = some (.int (if a < 0 then -a else a)) ∧ lay1 = lay ∧ I1 = I) := by
  refine Meth.of (by decide +kernel) (by simp [Value.category]) (Nat.le_of_ble_eq_true rfl) ?_
  refine A_iload_n rfl dJ9_abs_0f7a4_0 ?_
  refine A_if_ge 9 rfl dJ9_abs_0f7a4_1 (fun cq1 => ?_) (fun cq1 => ?_)
  · skip
    refine A_iload_n rfl dJ9_abs_0f7a4_9 ?_
    refine A_iret rfl rfl rfl rfl dJ9_abs_0f7a4_10 ?_
    refine ⟨congrArg (fun z => some (Value.int z)) ?_, rfl, rfl⟩
    first
      | with_reducible rfl
      | exact (b2i_tt (by simp only [Int32.lt_iff_toInt_lt, Int32.le_iff_toInt_le, ← Int32.toInt_inj, Int32.reduceToInt] at *; omega)).symm
      | exact (b2i_ff (by simp only [Int32.lt_iff_toInt_lt, Int32.le_iff_toInt_le, ← Int32.toInt_inj, Int32.reduceToInt] at *; omega)).symm
      | (repeat' split) <;> first | with_reducible rfl | (exfalso; simp only [Int32.lt_iff_toInt_lt, Int32.le_iff_toInt_le, ← Int32.toInt_inj, Int32.reduceToInt] at *; omega)
  · skip
    refine A_iload_n rfl dJ9_abs_0f7a4_4 ?_
    refine A_ineg dJ9_abs_0f7a4_5 ?_
    refine A_goto 10 rfl dJ9_abs_0f7a4_6 ?_
    refine A_iret rfl rfl rfl rfl dJ9_abs_0f7a4_10 ?_
    refine ⟨congrArg (fun z => some (Value.int z)) ?_, rfl, rfl⟩
    first
      | with_reducible rfl
      | exact (b2i_tt (by simp only [Int32.lt_iff_toInt_lt, Int32.le_iff_toInt_le, ← Int32.toInt_inj, Int32.reduceToInt] at *; omega)).symm
      | exact (b2i_ff (by simp only [Int32.lt_iff_toInt_lt, Int32.le_iff_toInt_le, ← Int32.toInt_inj, Int32.reduceToInt] at *; omega)).symm
      | (repeat' split) <;> first | with_reducible rfl | (exfalso; simp only [Int32.lt_iff_toInt_lt, Int32.le_iff_toInt_le, ← Int32.toInt_inj, Int32.reduceToInt] at *; omega)
def fmF (x z : Int32) : Int32 := if x ^^^ z < 0 ∧ ¬ x - x / z * z = 0 then x - x / z * z + z else x - x / z * z
set_option maxHeartbeats 4000000 in
set_option maxRecDepth 100000 in
theorem s_fm (l : Launch) (G : Gm) (lay : Lay) (I : Hp) (x z : Int32) (hz : ¬ z = 0) : Meth l G yJ9_floorMod_7cf53 cJ9_floorMod_7cf53 3 (some (FieldType.int)) 1 0 0 [.int x, .int z] lay I (fun r lay1 I1 => r = some (.int (fmF x z)) ∧ lay1 = lay ∧ I1 = I) := by
  refine Meth.of (by decide +kernel) (by simp [Value.category]) (Nat.le_of_ble_eq_true rfl) ?_
  refine A_iload_n rfl dJ9_floorMod_7cf53_0 ?_
  refine A_iload_n rfl dJ9_floorMod_7cf53_1 ?_
  refine A_irem dJ9_floorMod_7cf53_2 hz ?_
  refine A_istore_n (by decide) rfl dJ9_floorMod_7cf53_3 ?_
  refine A_iload_n rfl dJ9_floorMod_7cf53_4 ?_
  refine A_iload_n rfl dJ9_floorMod_7cf53_5 ?_
  refine A_ixor dJ9_floorMod_7cf53_6 ?_
  refine A_if_ge 18 rfl dJ9_floorMod_7cf53_7 (fun cq7 => ?_) (fun cq7 => ?_)
  · skip
    refine A_iload_n rfl dJ9_floorMod_7cf53_18 ?_
    refine A_iret rfl rfl rfl rfl dJ9_floorMod_7cf53_19 ?_
    refine ⟨congrArg (fun z => some (Value.int z)) ?_, rfl, rfl⟩
    unfold fmF
    split <;> first | with_reducible rfl | (rename_i hqq; exfalso; first | exact Int32.not_lt.mpr cq7 hqq.1 | exact hqq.2 cq11 | exact hqq ⟨Int32.not_le.mp cq7, cq11⟩)
  · skip
    refine A_iload_n rfl dJ9_floorMod_7cf53_10 ?_
    refine A_if_eq 18 rfl dJ9_floorMod_7cf53_11 (fun cq11 => ?_) (fun cq11 => ?_)
    · skip
      refine A_iload_n rfl dJ9_floorMod_7cf53_18 ?_
      refine A_iret rfl rfl rfl rfl dJ9_floorMod_7cf53_19 ?_
      refine ⟨congrArg (fun z => some (Value.int z)) ?_, rfl, rfl⟩
      unfold fmF
      split <;> first | with_reducible rfl | (rename_i hqq; exfalso; first | exact Int32.not_lt.mpr cq7 hqq.1 | exact hqq.2 cq11 | exact hqq ⟨Int32.not_le.mp cq7, cq11⟩)
    · skip
      refine A_iload_n rfl dJ9_floorMod_7cf53_14 ?_
      refine A_iload_n rfl dJ9_floorMod_7cf53_15 ?_
      refine A_iadd dJ9_floorMod_7cf53_16 ?_
      refine A_iret rfl rfl rfl rfl dJ9_floorMod_7cf53_17 ?_
      refine ⟨congrArg (fun z => some (Value.int z)) ?_, rfl, rfl⟩
      unfold fmF
      split <;> first | with_reducible rfl | (rename_i hqq; exfalso; first | exact Int32.not_lt.mpr cq7 hqq.1 | exact hqq.2 cq11 | exact hqq ⟨Int32.not_le.mp cq7, cq11⟩)
def bcF (i : Int32) : Int32 :=
  let sh := fun (x k : Int32) => (x.toUInt32 >>> (k.toUInt32 &&& Int32.toUInt32 31)).toInt32
  let a := i - (sh i 1 &&& 1431655765)
  let b := (a &&& 858993459) + (sh a 2 &&& 858993459)
  let c := b + sh b 4 &&& 252645135
  let e := c + sh c 8
  let g := e + sh e 16
  g &&& 63
set_option maxHeartbeats 4000000 in
set_option maxRecDepth 100000 in
theorem s_bc (l : Launch) (G : Gm) (lay : Lay) (I : Hp) (x : Int32) : Meth l G yJ6_bitCount_0f7a4 cJ6_bitCount_0f7a4 1 (some (FieldType.int)) 1 0 0 [.int x] lay I (fun r lay1 I1 => r = some (.int (bcF x)) ∧ lay1 = lay ∧ I1 = I) := by
  refine Meth.of (by decide +kernel) (by simp [Value.category]) (Nat.le_of_ble_eq_true rfl) ?_
  refine A_iload_n rfl dJ6_bitCount_0f7a4_0 ?_
  refine A_iload_n rfl dJ6_bitCount_0f7a4_1 ?_
  refine A_iconst ic_1 dJ6_bitCount_0f7a4_2 ?_
  refine A_iushr dJ6_bitCount_0f7a4_3 ?_
  refine A_ldcw kc_J6_265 rfl dJ6_bitCount_0f7a4_4 ?_
  refine A_iand dJ6_bitCount_0f7a4_7 ?_
  refine A_isub dJ6_bitCount_0f7a4_8 ?_
  refine A_istore_n (by decide) rfl dJ6_bitCount_0f7a4_9 ?_
  refine A_iload_n rfl dJ6_bitCount_0f7a4_10 ?_
  refine A_ldcw kc_J6_266 rfl dJ6_bitCount_0f7a4_11 ?_
  refine A_iand dJ6_bitCount_0f7a4_14 ?_
  refine A_iload_n rfl dJ6_bitCount_0f7a4_15 ?_
  refine A_iconst ic_2 dJ6_bitCount_0f7a4_16 ?_
  refine A_iushr dJ6_bitCount_0f7a4_17 ?_
  refine A_ldcw kc_J6_266 rfl dJ6_bitCount_0f7a4_18 ?_
  refine A_iand dJ6_bitCount_0f7a4_21 ?_
  refine A_iadd dJ6_bitCount_0f7a4_22 ?_
  refine A_istore_n (by decide) rfl dJ6_bitCount_0f7a4_23 ?_
  refine A_iload_n rfl dJ6_bitCount_0f7a4_24 ?_
  refine A_iload_n rfl dJ6_bitCount_0f7a4_25 ?_
  refine A_iconst ic_4 dJ6_bitCount_0f7a4_26 ?_
  refine A_iushr dJ6_bitCount_0f7a4_27 ?_
  refine A_iadd dJ6_bitCount_0f7a4_28 ?_
  refine A_ldcw kc_J6_267 rfl dJ6_bitCount_0f7a4_29 ?_
  refine A_iand dJ6_bitCount_0f7a4_32 ?_
  refine A_istore_n (by decide) rfl dJ6_bitCount_0f7a4_33 ?_
  refine A_iload_n rfl dJ6_bitCount_0f7a4_34 ?_
  refine A_iload_n rfl dJ6_bitCount_0f7a4_35 ?_
  refine A_bipush bp_8 dJ6_bitCount_0f7a4_36 ?_
  refine A_iushr dJ6_bitCount_0f7a4_38 ?_
  refine A_iadd dJ6_bitCount_0f7a4_39 ?_
  refine A_istore_n (by decide) rfl dJ6_bitCount_0f7a4_40 ?_
  refine A_iload_n rfl dJ6_bitCount_0f7a4_41 ?_
  refine A_iload_n rfl dJ6_bitCount_0f7a4_42 ?_
  refine A_bipush bp_16 dJ6_bitCount_0f7a4_43 ?_
  refine A_iushr dJ6_bitCount_0f7a4_45 ?_
  refine A_iadd dJ6_bitCount_0f7a4_46 ?_
  refine A_istore_n (by decide) rfl dJ6_bitCount_0f7a4_47 ?_
  refine A_iload_n rfl dJ6_bitCount_0f7a4_48 ?_
  refine A_bipush bp_63 dJ6_bitCount_0f7a4_49 ?_
  refine A_iand dJ6_bitCount_0f7a4_51 ?_
  refine A_iret rfl rfl rfl rfl dJ6_bitCount_0f7a4_52 ?_
  exact ⟨rfl, rfl, rfl⟩
