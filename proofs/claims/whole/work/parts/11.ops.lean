def joF (s a b : Int32) : Int32 :=
  if s = 38 then (if a ≠ 0 ∧ b ≠ 0 then 1 else 0) else if s = 42 then a * b else if s = 43 then a + b else if s = 45 then a - b else if s = 47 then (if b = 0 then 0 else a / b) else if s = 60 then (if a < b then 1 else 0) else if s = 61 then (if a = b then 1 else 0) else if s = 62 then (if b < a then 1 else 0) else (if a ≠ 0 ∨ b ≠ 0 then 1 else 0)
def naF (s a b c : Int32) : Int32 := if s = -2 then b else if s = -1 then a else c
theorem jo_38 (a b : Int32) : joF 38 a b = (if a ≠ 0 ∧ b ≠ 0 then 1 else 0) := by unfold joF; rw [if_pos rfl]
theorem jo_42 (a b : Int32) : joF 42 a b = a * b := by unfold joF; rw [if_neg (by decide), if_pos rfl]
theorem jo_43 (a b : Int32) : joF 43 a b = a + b := by unfold joF; rw [if_neg (by decide), if_neg (by decide), if_pos rfl]
theorem jo_45 (a b : Int32) : joF 45 a b = a - b := by unfold joF; rw [if_neg (by decide), if_neg (by decide), if_neg (by decide), if_pos rfl]
theorem jo_47 (a b : Int32) : joF 47 a b = (if b = 0 then 0 else a / b) := by unfold joF; rw [if_neg (by decide), if_neg (by decide), if_neg (by decide), if_neg (by decide), if_pos rfl]
theorem jo_60 (a b : Int32) : joF 60 a b = (if a < b then 1 else 0) := by unfold joF; rw [if_neg (by decide), if_neg (by decide), if_neg (by decide), if_neg (by decide), if_neg (by decide), if_pos rfl]
theorem jo_61 (a b : Int32) : joF 61 a b = (if a = b then 1 else 0) := by unfold joF; rw [if_neg (by decide), if_neg (by decide), if_neg (by decide), if_neg (by decide), if_neg (by decide), if_neg (by decide), if_pos rfl]
theorem jo_62 (a b : Int32) : joF 62 a b = (if b < a then 1 else 0) := by unfold joF; rw [if_neg (by decide), if_neg (by decide), if_neg (by decide), if_neg (by decide), if_neg (by decide), if_neg (by decide), if_neg (by decide), if_pos rfl]
theorem jo_or (s a b : Int32) (h : s ≠ 38 ∧ s ≠ 42 ∧ s ≠ 43 ∧ s ≠ 45 ∧ s ≠ 47 ∧ s ≠ 60 ∧ s ≠ 61 ∧ s ≠ 62) : joF s a b = (if a ≠ 0 ∨ b ≠ 0 then 1 else 0) := by
  unfold joF
  rw [if_neg h.1, if_neg h.2.1, if_neg h.2.2.1, if_neg h.2.2.2.1, if_neg h.2.2.2.2.1, if_neg h.2.2.2.2.2.1, if_neg h.2.2.2.2.2.2.1, if_neg h.2.2.2.2.2.2.2]
set_option maxHeartbeats 1000000 in
set_option maxRecDepth 100000 in
theorem s_joined (l : Launch) (G : Gm) (lay : Lay) (I : Hp) (s a b : Int32) : Meth l G yX2_joined cX2_joined 3 (some (FieldType.int)) 1 0 0 [.int s, .int a, .int b] lay I (fun r lay1 I1 => r = some (.int (joF s a b)) ∧ lay1 = lay ∧ I1 = I) := by
  have j187 : (joF s a b = (if a ≠ 0 ∨ b ≠ 0 then 1 else 0)) → AW l G yX2_joined cX2_joined 3 (some (FieldType.int)) 1 0 0 (fun r lay1 I1 => r = some (.int (joF s a b)) ∧ lay1 = lay ∧ I1 = I) 0 0 187 [some (.int s), some (.int a), some (.int b)] [] lay I := by
    intro  hor
    refine A_iload_n rfl dX2_joined_187 ?_
    refine A_if_ne 195 rfl dX2_joined_188 (fun cq188 => ?_) (fun cq188 => ?_)
    · skip
      refine A_iconst ic_1 dX2_joined_195 ?_
      refine A_goto 200 rfl dX2_joined_196 ?_
      refine A_iret rfl rfl rfl rfl dX2_joined_200 ?_
      first | exact ⟨congrArg (fun z => some (Value.int z)) (hor.trans (if_pos (Or.inl cq188))).symm, rfl, rfl⟩ | exact ⟨congrArg (fun z => some (Value.int z)) (hor.trans (if_pos (Or.inr cq192))).symm, rfl, rfl⟩ | exact ⟨congrArg (fun z => some (Value.int z)) (hor.trans (if_neg (fun hqq => hqq.elim (fun h9 => h9 cq188) (fun h9 => h9 cq192)))).symm, rfl, rfl⟩
    · skip
      refine A_iload_n rfl dX2_joined_191 ?_
      refine A_if_eq 199 rfl dX2_joined_192 (fun cq192 => ?_) (fun cq192 => ?_)
      · skip
        refine A_iconst ic_0 dX2_joined_199 ?_
        refine A_iret rfl rfl rfl rfl dX2_joined_200 ?_
        first | exact ⟨congrArg (fun z => some (Value.int z)) (hor.trans (if_pos (Or.inl cq188))).symm, rfl, rfl⟩ | exact ⟨congrArg (fun z => some (Value.int z)) (hor.trans (if_pos (Or.inr cq192))).symm, rfl, rfl⟩ | exact ⟨congrArg (fun z => some (Value.int z)) (hor.trans (if_neg (fun hqq => hqq.elim (fun h9 => h9 cq188) (fun h9 => h9 cq192)))).symm, rfl, rfl⟩
      · skip
        refine A_iconst ic_1 dX2_joined_195 ?_
        refine A_goto 200 rfl dX2_joined_196 ?_
        refine A_iret rfl rfl rfl rfl dX2_joined_200 ?_
        first | exact ⟨congrArg (fun z => some (Value.int z)) (hor.trans (if_pos (Or.inl cq188))).symm, rfl, rfl⟩ | exact ⟨congrArg (fun z => some (Value.int z)) (hor.trans (if_pos (Or.inr cq192))).symm, rfl, rfl⟩ | exact ⟨congrArg (fun z => some (Value.int z)) (hor.trans (if_neg (fun hqq => hqq.elim (fun h9 => h9 cq188) (fun h9 => h9 cq192)))).symm, rfl, rfl⟩
  refine Meth.of (by decide +kernel) (by simp [Value.category]) (Nat.le_of_ble_eq_true rfl) ?_
  refine A_iload_n rfl dX2_joined_0 ?_
  refine A_tsw 187 rfl dX2_joined_1 rfl (fun jsw off hjsw cq1 => ?_) (fun cq1 => ?_)
  · match jsw, hjsw, cq1 with
    | 0, hjsw, cq1 =>
      cases hjsw
      replace cq1 := i_eq cq1 (ic_38)
      refine ⟨173, rfl, ?_⟩
      refine A_iload_n rfl dX2_joined_173 ?_
      refine A_if_eq 185 rfl dX2_joined_174 (fun cq174 => ?_) (fun cq174 => ?_)
      · skip
        refine A_iconst ic_0 dX2_joined_185 ?_
        refine A_iret rfl rfl rfl rfl dX2_joined_186 ?_
        subst cq1
        first | (have h7 : a = 0 := cq174; exact ⟨congrArg (fun z => some (Value.int z)) ((jo_38 a b).trans (if_neg (fun hqq => hqq.1 h7))).symm, rfl, rfl⟩) | (have h7 : b = 0 := cq178; exact ⟨congrArg (fun z => some (Value.int z)) ((jo_38 a b).trans (if_neg (fun hqq => hqq.2 h7))).symm, rfl, rfl⟩) | exact ⟨congrArg (fun z => some (Value.int z)) ((jo_38 a b).trans (if_pos (And.intro cq174 cq178))).symm, rfl, rfl⟩
      · skip
        refine A_iload_n rfl dX2_joined_177 ?_
        refine A_if_eq 185 rfl dX2_joined_178 (fun cq178 => ?_) (fun cq178 => ?_)
        · skip
          refine A_iconst ic_0 dX2_joined_185 ?_
          refine A_iret rfl rfl rfl rfl dX2_joined_186 ?_
          subst cq1
          first | (have h7 : a = 0 := cq174; exact ⟨congrArg (fun z => some (Value.int z)) ((jo_38 a b).trans (if_neg (fun hqq => hqq.1 h7))).symm, rfl, rfl⟩) | (have h7 : b = 0 := cq178; exact ⟨congrArg (fun z => some (Value.int z)) ((jo_38 a b).trans (if_neg (fun hqq => hqq.2 h7))).symm, rfl, rfl⟩) | exact ⟨congrArg (fun z => some (Value.int z)) ((jo_38 a b).trans (if_pos (And.intro cq174 cq178))).symm, rfl, rfl⟩
        · skip
          refine A_iconst ic_1 dX2_joined_181 ?_
          refine A_goto 186 rfl dX2_joined_182 ?_
          refine A_iret rfl rfl rfl rfl dX2_joined_186 ?_
          subst cq1
          first | (have h7 : a = 0 := cq174; exact ⟨congrArg (fun z => some (Value.int z)) ((jo_38 a b).trans (if_neg (fun hqq => hqq.1 h7))).symm, rfl, rfl⟩) | (have h7 : b = 0 := cq178; exact ⟨congrArg (fun z => some (Value.int z)) ((jo_38 a b).trans (if_neg (fun hqq => hqq.2 h7))).symm, rfl, rfl⟩) | exact ⟨congrArg (fun z => some (Value.int z)) ((jo_38 a b).trans (if_pos (And.intro cq174 cq178))).symm, rfl, rfl⟩
    | 1, hjsw, cq1 =>
      cases hjsw
      replace cq1 := i_eq cq1 (ic_39)
      refine ⟨187, rfl, ?_⟩
      refine j187 (jo_or s a b ?_)
      first | (subst cq1; decide) | (refine ⟨?_, ?_, ?_, ?_, ?_, ?_, ?_, ?_⟩ <;> (intro h9; subst h9; revert cq1; decide))
    | 2, hjsw, cq1 =>
      cases hjsw
      replace cq1 := i_eq cq1 (ic_40)
      refine ⟨187, rfl, ?_⟩
      refine j187 (jo_or s a b ?_)
      first | (subst cq1; decide) | (refine ⟨?_, ?_, ?_, ?_, ?_, ?_, ?_, ?_⟩ <;> (intro h9; subst h9; revert cq1; decide))
    | 3, hjsw, cq1 =>
      cases hjsw
      replace cq1 := i_eq cq1 (ic_41)
      refine ⟨187, rfl, ?_⟩
      refine j187 (jo_or s a b ?_)
      first | (subst cq1; decide) | (refine ⟨?_, ?_, ?_, ?_, ?_, ?_, ?_, ?_⟩ <;> (intro h9; subst h9; revert cq1; decide))
    | 4, hjsw, cq1 =>
      cases hjsw
      replace cq1 := i_eq cq1 (ic_42)
      refine ⟨124, rfl, ?_⟩
      refine A_iload_n rfl dX2_joined_124 ?_
      refine A_iload_n rfl dX2_joined_125 ?_
      refine A_imul dX2_joined_126 ?_
      refine A_iret rfl rfl rfl rfl dX2_joined_127 ?_
      subst cq1
      exact ⟨congrArg (fun z => some (Value.int z)) (jo_42 a b).symm, rfl, rfl⟩
    | 5, hjsw, cq1 =>
      cases hjsw
      replace cq1 := i_eq cq1 (ic_43)
      refine ⟨116, rfl, ?_⟩
      refine A_iload_n rfl dX2_joined_116 ?_
      refine A_iload_n rfl dX2_joined_117 ?_
      refine A_iadd dX2_joined_118 ?_
      refine A_iret rfl rfl rfl rfl dX2_joined_119 ?_
      subst cq1
      exact ⟨congrArg (fun z => some (Value.int z)) (jo_43 a b).symm, rfl, rfl⟩
    | 6, hjsw, cq1 =>
      cases hjsw
      replace cq1 := i_eq cq1 (ic_44)
      refine ⟨187, rfl, ?_⟩
      refine j187 (jo_or s a b ?_)
      first | (subst cq1; decide) | (refine ⟨?_, ?_, ?_, ?_, ?_, ?_, ?_, ?_⟩ <;> (intro h9; subst h9; revert cq1; decide))
    | 7, hjsw, cq1 =>
      cases hjsw
      replace cq1 := i_eq cq1 (ic_45)
      refine ⟨120, rfl, ?_⟩
      refine A_iload_n rfl dX2_joined_120 ?_
      refine A_iload_n rfl dX2_joined_121 ?_
      refine A_isub dX2_joined_122 ?_
      refine A_iret rfl rfl rfl rfl dX2_joined_123 ?_
      subst cq1
      exact ⟨congrArg (fun z => some (Value.int z)) (jo_45 a b).symm, rfl, rfl⟩
    | 8, hjsw, cq1 =>
      cases hjsw
      replace cq1 := i_eq cq1 (ic_46)
      refine ⟨187, rfl, ?_⟩
      refine j187 (jo_or s a b ?_)
      first | (subst cq1; decide) | (refine ⟨?_, ?_, ?_, ?_, ?_, ?_, ?_, ?_⟩ <;> (intro h9; subst h9; revert cq1; decide))
    | 9, hjsw, cq1 =>
      cases hjsw
      replace cq1 := i_eq cq1 (ic_47)
      refine ⟨128, rfl, ?_⟩
      refine A_iload_n rfl dX2_joined_128 ?_
      refine A_if_ne 136 rfl dX2_joined_129 (fun cq129 => ?_) (fun cq129 => ?_)
      · skip
        refine A_iload_n rfl dX2_joined_136 ?_
        refine A_iload_n rfl dX2_joined_137 ?_
        refine A_idiv dX2_joined_138 cq129 ?_
        refine A_iret rfl rfl rfl rfl dX2_joined_139 ?_
        subst cq1
        first | exact ⟨congrArg (fun z => some (Value.int z)) ((jo_47 a b).trans (if_pos cq129)).symm, rfl, rfl⟩ | exact ⟨congrArg (fun z => some (Value.int z)) ((jo_47 a b).trans (if_neg cq129)).symm, rfl, rfl⟩
      · skip
        refine A_iconst ic_0 dX2_joined_132 ?_
        refine A_goto 139 rfl dX2_joined_133 ?_
        refine A_iret rfl rfl rfl rfl dX2_joined_139 ?_
        subst cq1
        first | exact ⟨congrArg (fun z => some (Value.int z)) ((jo_47 a b).trans (if_pos cq129)).symm, rfl, rfl⟩ | exact ⟨congrArg (fun z => some (Value.int z)) ((jo_47 a b).trans (if_neg cq129)).symm, rfl, rfl⟩
    | 10, hjsw, cq1 =>
      cases hjsw
      replace cq1 := i_eq cq1 (ic_48)
      refine ⟨187, rfl, ?_⟩
      refine j187 (jo_or s a b ?_)
      first | (subst cq1; decide) | (refine ⟨?_, ?_, ?_, ?_, ?_, ?_, ?_, ?_⟩ <;> (intro h9; subst h9; revert cq1; decide))
    | 11, hjsw, cq1 =>
      cases hjsw
      replace cq1 := i_eq cq1 (ic_49)
      refine ⟨187, rfl, ?_⟩
      refine j187 (jo_or s a b ?_)
      first | (subst cq1; decide) | (refine ⟨?_, ?_, ?_, ?_, ?_, ?_, ?_, ?_⟩ <;> (intro h9; subst h9; revert cq1; decide))
    | 12, hjsw, cq1 =>
      cases hjsw
      replace cq1 := i_eq cq1 (ic_50)
      refine ⟨187, rfl, ?_⟩
      refine j187 (jo_or s a b ?_)
      first | (subst cq1; decide) | (refine ⟨?_, ?_, ?_, ?_, ?_, ?_, ?_, ?_⟩ <;> (intro h9; subst h9; revert cq1; decide))
    | 13, hjsw, cq1 =>
      cases hjsw
      replace cq1 := i_eq cq1 (ic_51)
      refine ⟨187, rfl, ?_⟩
      refine j187 (jo_or s a b ?_)
      first | (subst cq1; decide) | (refine ⟨?_, ?_, ?_, ?_, ?_, ?_, ?_, ?_⟩ <;> (intro h9; subst h9; revert cq1; decide))
    | 14, hjsw, cq1 =>
      cases hjsw
      replace cq1 := i_eq cq1 (ic_52)
      refine ⟨187, rfl, ?_⟩
      refine j187 (jo_or s a b ?_)
      first | (subst cq1; decide) | (refine ⟨?_, ?_, ?_, ?_, ?_, ?_, ?_, ?_⟩ <;> (intro h9; subst h9; revert cq1; decide))
    | 15, hjsw, cq1 =>
      cases hjsw
      replace cq1 := i_eq cq1 (ic_53)
      refine ⟨187, rfl, ?_⟩
      refine j187 (jo_or s a b ?_)
      first | (subst cq1; decide) | (refine ⟨?_, ?_, ?_, ?_, ?_, ?_, ?_, ?_⟩ <;> (intro h9; subst h9; revert cq1; decide))
    | 16, hjsw, cq1 =>
      cases hjsw
      replace cq1 := i_eq cq1 (ic_54)
      refine ⟨187, rfl, ?_⟩
      refine j187 (jo_or s a b ?_)
      first | (subst cq1; decide) | (refine ⟨?_, ?_, ?_, ?_, ?_, ?_, ?_, ?_⟩ <;> (intro h9; subst h9; revert cq1; decide))
    | 17, hjsw, cq1 =>
      cases hjsw
      replace cq1 := i_eq cq1 (ic_55)
      refine ⟨187, rfl, ?_⟩
      refine j187 (jo_or s a b ?_)
      first | (subst cq1; decide) | (refine ⟨?_, ?_, ?_, ?_, ?_, ?_, ?_, ?_⟩ <;> (intro h9; subst h9; revert cq1; decide))
    | 18, hjsw, cq1 =>
      cases hjsw
      replace cq1 := i_eq cq1 (ic_56)
      refine ⟨187, rfl, ?_⟩
      refine j187 (jo_or s a b ?_)
      first | (subst cq1; decide) | (refine ⟨?_, ?_, ?_, ?_, ?_, ?_, ?_, ?_⟩ <;> (intro h9; subst h9; revert cq1; decide))
    | 19, hjsw, cq1 =>
      cases hjsw
      replace cq1 := i_eq cq1 (ic_57)
      refine ⟨187, rfl, ?_⟩
      refine j187 (jo_or s a b ?_)
      first | (subst cq1; decide) | (refine ⟨?_, ?_, ?_, ?_, ?_, ?_, ?_, ?_⟩ <;> (intro h9; subst h9; revert cq1; decide))
    | 20, hjsw, cq1 =>
      cases hjsw
      replace cq1 := i_eq cq1 (ic_58)
      refine ⟨187, rfl, ?_⟩
      refine j187 (jo_or s a b ?_)
      first | (subst cq1; decide) | (refine ⟨?_, ?_, ?_, ?_, ?_, ?_, ?_, ?_⟩ <;> (intro h9; subst h9; revert cq1; decide))
    | 21, hjsw, cq1 =>
      cases hjsw
      replace cq1 := i_eq cq1 (ic_59)
      refine ⟨187, rfl, ?_⟩
      refine j187 (jo_or s a b ?_)
      first | (subst cq1; decide) | (refine ⟨?_, ?_, ?_, ?_, ?_, ?_, ?_, ?_⟩ <;> (intro h9; subst h9; revert cq1; decide))
    | 22, hjsw, cq1 =>
      cases hjsw
      replace cq1 := i_eq cq1 (ic_60)
      refine ⟨140, rfl, ?_⟩
      refine A_iload_n rfl dX2_joined_140 ?_
      refine A_iload_n rfl dX2_joined_141 ?_
      refine A_icmp_ge 149 rfl dX2_joined_142 (fun cq142 => ?_) (fun cq142 => ?_)
      · skip
        refine A_iconst ic_0 dX2_joined_149 ?_
        refine A_iret rfl rfl rfl rfl dX2_joined_150 ?_
        subst cq1
        first | exact ⟨congrArg (fun z => some (Value.int z)) ((jo_60 a b).trans (if_neg (Int32.not_lt.mpr cq142))).symm, rfl, rfl⟩ | exact ⟨congrArg (fun z => some (Value.int z)) ((jo_60 a b).trans (if_pos (Int32.not_le.mp cq142))).symm, rfl, rfl⟩
      · skip
        refine A_iconst ic_1 dX2_joined_145 ?_
        refine A_goto 150 rfl dX2_joined_146 ?_
        refine A_iret rfl rfl rfl rfl dX2_joined_150 ?_
        subst cq1
        first | exact ⟨congrArg (fun z => some (Value.int z)) ((jo_60 a b).trans (if_neg (Int32.not_lt.mpr cq142))).symm, rfl, rfl⟩ | exact ⟨congrArg (fun z => some (Value.int z)) ((jo_60 a b).trans (if_pos (Int32.not_le.mp cq142))).symm, rfl, rfl⟩
    | 23, hjsw, cq1 =>
      cases hjsw
      replace cq1 := i_eq cq1 (ic_61)
      refine ⟨151, rfl, ?_⟩
      refine A_iload_n rfl dX2_joined_151 ?_
      refine A_iload_n rfl dX2_joined_152 ?_
      refine A_icmp_ne 160 rfl dX2_joined_153 (fun cq153 => ?_) (fun cq153 => ?_)
      · skip
        refine A_iconst ic_0 dX2_joined_160 ?_
        refine A_iret rfl rfl rfl rfl dX2_joined_161 ?_
        subst cq1
        first | exact ⟨congrArg (fun z => some (Value.int z)) ((jo_61 a b).trans (if_neg cq153)).symm, rfl, rfl⟩ | exact ⟨congrArg (fun z => some (Value.int z)) ((jo_61 a b).trans (if_pos cq153)).symm, rfl, rfl⟩
      · skip
        refine A_iconst ic_1 dX2_joined_156 ?_
        refine A_goto 161 rfl dX2_joined_157 ?_
        refine A_iret rfl rfl rfl rfl dX2_joined_161 ?_
        subst cq1
        first | exact ⟨congrArg (fun z => some (Value.int z)) ((jo_61 a b).trans (if_neg cq153)).symm, rfl, rfl⟩ | exact ⟨congrArg (fun z => some (Value.int z)) ((jo_61 a b).trans (if_pos cq153)).symm, rfl, rfl⟩
    | 24, hjsw, cq1 =>
      cases hjsw
      replace cq1 := i_eq cq1 (ic_62)
      refine ⟨162, rfl, ?_⟩
      refine A_iload_n rfl dX2_joined_162 ?_
      refine A_iload_n rfl dX2_joined_163 ?_
      refine A_icmp_le 171 rfl dX2_joined_164 (fun cq164 => ?_) (fun cq164 => ?_)
      · skip
        refine A_iconst ic_0 dX2_joined_171 ?_
        refine A_iret rfl rfl rfl rfl dX2_joined_172 ?_
        subst cq1
        first | exact ⟨congrArg (fun z => some (Value.int z)) ((jo_62 a b).trans (if_neg (Int32.not_lt.mpr cq164))).symm, rfl, rfl⟩ | exact ⟨congrArg (fun z => some (Value.int z)) ((jo_62 a b).trans (if_pos (Int32.not_le.mp cq164))).symm, rfl, rfl⟩
      · skip
        refine A_iconst ic_1 dX2_joined_167 ?_
        refine A_goto 172 rfl dX2_joined_168 ?_
        refine A_iret rfl rfl rfl rfl dX2_joined_172 ?_
        subst cq1
        first | exact ⟨congrArg (fun z => some (Value.int z)) ((jo_62 a b).trans (if_neg (Int32.not_lt.mpr cq164))).symm, rfl, rfl⟩ | exact ⟨congrArg (fun z => some (Value.int z)) ((jo_62 a b).trans (if_pos (Int32.not_le.mp cq164))).symm, rfl, rfl⟩
    | jsw + 25, hjsw, _ => exact absurd hjsw (by simp)
  · skip
    refine j187 (jo_or s a b ?_)
    first | (subst cq1; decide) | (refine ⟨?_, ?_, ?_, ?_, ?_, ?_, ?_, ?_⟩ <;> (intro h9; subst h9; revert cq1; decide))
set_option maxHeartbeats 1000000 in
set_option maxRecDepth 100000 in
theorem s_named (l : Launch) (G : Gm) (lay : Lay) (I : Hp) (s a b c : Int32) : Meth l G yX2_named cX2_named 4 (some (FieldType.int)) 1 0 0 [.int s, .int a, .int b, .int c] lay I (fun r lay1 I1 => r = some (.int (naF s a b c)) ∧ lay1 = lay ∧ I1 = I) := by
  refine Meth.of (by decide +kernel) (by simp [Value.category]) (Nat.le_of_ble_eq_true rfl) ?_
  refine A_iload_n rfl dX2_named_0 ?_
  refine A_lsw dX2_named_1 rfl ?_
  simp only [Op.lookupswitch.offset]
  split
  · rename_i cq1
    replace cq1 := i_eq cq1.symm (ic_m2)
    refine ⟨30, rfl, ?_⟩
    refine A_iload_n rfl dX2_named_30 ?_
    refine A_iret rfl rfl rfl rfl dX2_named_31 ?_
    subst cq1
    exact ⟨rfl, rfl, rfl⟩
  · rename_i cq1_m2
    split
    · rename_i cq1
      replace cq1 := i_eq cq1.symm (ic_m1)
      refine ⟨28, rfl, ?_⟩
      refine A_iload_n rfl dX2_named_28 ?_
      refine A_iret rfl rfl rfl rfl dX2_named_29 ?_
      subst cq1
      exact ⟨rfl, rfl, rfl⟩
    · rename_i cq1_m1
      refine ⟨32, rfl, ?_⟩
      refine A_iload_n rfl dX2_named_32 ?_
      refine A_iret rfl rfl rfl rfl dX2_named_33 ?_
      refine ⟨congrArg (fun z => some (Value.int z)) ?_, rfl, rfl⟩
      unfold naF
      rw [if_neg (fun h9 => cq1_m2 (by rw [h9]; decide)), if_neg (fun h9 => cq1_m1 (by rw [h9]; decide))]
theorem tw_1 (a b : Int32) : q_two (-1) a b = (if a ≠ 0 ∨ b ≠ 0 then 1 else 0) := by unfold q_two; rw [if_pos rfl]
theorem tw_2 (a b : Int32) : q_two (-2) a b = (if a ≠ 0 ∧ b ≠ 0 then 1 else 0) := by unfold q_two; rw [if_neg (by decide), if_pos rfl]
theorem tw_3 (a b : Int32) : q_two (-3) a b = (if a < b then 1 else 0) := by unfold q_two; rw [if_neg (by decide), if_neg (by decide), if_pos rfl]
theorem tw_4 (a b : Int32) : q_two (-4) a b = (if a = b then 1 else 0) := by unfold q_two; rw [if_neg (by decide), if_neg (by decide), if_neg (by decide), if_pos rfl]
theorem tw_5 (a b : Int32) : q_two (-5) a b = (if b < a then 1 else 0) := by unfold q_two; rw [if_neg (by decide), if_neg (by decide), if_neg (by decide), if_neg (by decide), if_pos rfl]
theorem tw_6 (a b : Int32) : q_two (-6) a b = a + b := by unfold q_two; rw [if_neg (by decide), if_neg (by decide), if_neg (by decide), if_neg (by decide), if_neg (by decide), if_pos rfl]
theorem tw_7 (a b : Int32) : q_two (-7) a b = a - b := by unfold q_two; rw [if_neg (by decide), if_neg (by decide), if_neg (by decide), if_neg (by decide), if_neg (by decide), if_neg (by decide), if_pos rfl]
theorem tw_8 (a b : Int32) : q_two (-8) a b = a * b := by unfold q_two; rw [if_neg (by decide), if_neg (by decide), if_neg (by decide), if_neg (by decide), if_neg (by decide), if_neg (by decide), if_neg (by decide), if_pos rfl]
theorem tw_9 (s a b : Int32) (h : s ≠ -1 ∧ s ≠ -2 ∧ s ≠ -3 ∧ s ≠ -4 ∧ s ≠ -5 ∧ s ≠ -6 ∧ s ≠ -7 ∧ s ≠ -8) : q_two s a b = (if b = 0 then 0 else a / b) := by
  unfold q_two
  rw [if_neg h.1, if_neg h.2.1, if_neg h.2.2.1, if_neg h.2.2.2.1, if_neg h.2.2.2.2.1, if_neg h.2.2.2.2.2.1, if_neg h.2.2.2.2.2.2.1, if_neg h.2.2.2.2.2.2.2]
set_option maxHeartbeats 1000000 in
set_option maxRecDepth 100000 in
theorem t_two (l : Launch) (G : Gm) (lay : Lay) (I : Hp) (s a b : Int32) : Meth l G yX8_two cX8_two 3 (some (FieldType.int)) 1 0 0 [.int s, .int a, .int b] lay I (fun r lay1 I1 => r = some (.int (q_two s a b)) ∧ lay1 = lay ∧ I1 = I) := by
  refine Meth.of (by decide +kernel) (by simp [Value.category]) (Nat.le_of_ble_eq_true rfl) ?_
  refine A_iload_n rfl dX8_two_0 ?_
  refine A_tsw 121 rfl dX8_two_1 rfl (fun jsw off hjsw cq1 => ?_) (fun cq1 => ?_)
  · match jsw, hjsw, cq1 with
    | 0, hjsw, cq1 =>
      cases hjsw
      replace cq1 := i_eq cq1 (ic_m8)
      refine ⟨117, rfl, ?_⟩
      refine A_iload_n rfl dX8_two_117 ?_
      refine A_iload_n rfl dX8_two_118 ?_
      refine A_imul dX8_two_119 ?_
      refine A_iret rfl rfl rfl rfl dX8_two_120 ?_
      subst cq1
      exact ⟨congrArg (fun z => some (Value.int z)) (tw_8 a b).symm, rfl, rfl⟩
    | 1, hjsw, cq1 =>
      cases hjsw
      replace cq1 := i_eq cq1 (ic_m7)
      refine ⟨113, rfl, ?_⟩
      refine A_iload_n rfl dX8_two_113 ?_
      refine A_iload_n rfl dX8_two_114 ?_
      refine A_isub dX8_two_115 ?_
      refine A_iret rfl rfl rfl rfl dX8_two_116 ?_
      subst cq1
      exact ⟨congrArg (fun z => some (Value.int z)) (tw_7 a b).symm, rfl, rfl⟩
    | 2, hjsw, cq1 =>
      cases hjsw
      replace cq1 := i_eq cq1 (ic_m6)
      refine ⟨109, rfl, ?_⟩
      refine A_iload_n rfl dX8_two_109 ?_
      refine A_iload_n rfl dX8_two_110 ?_
      refine A_iadd dX8_two_111 ?_
      refine A_iret rfl rfl rfl rfl dX8_two_112 ?_
      subst cq1
      exact ⟨congrArg (fun z => some (Value.int z)) (tw_6 a b).symm, rfl, rfl⟩
    | 3, hjsw, cq1 =>
      cases hjsw
      replace cq1 := i_eq cq1 (ic_m5)
      refine ⟨98, rfl, ?_⟩
      refine A_iload_n rfl dX8_two_98 ?_
      refine A_iload_n rfl dX8_two_99 ?_
      refine A_icmp_le 107 rfl dX8_two_100 (fun cq100 => ?_) (fun cq100 => ?_)
      · skip
        refine A_iconst ic_0 dX8_two_107 ?_
        refine A_iret rfl rfl rfl rfl dX8_two_108 ?_
        subst cq1
        first | exact ⟨congrArg (fun z => some (Value.int z)) ((tw_5 a b).trans (if_neg (Int32.not_lt.mpr cq100))).symm, rfl, rfl⟩ | exact ⟨congrArg (fun z => some (Value.int z)) ((tw_5 a b).trans (if_pos (Int32.not_le.mp cq100))).symm, rfl, rfl⟩
      · skip
        refine A_iconst ic_1 dX8_two_103 ?_
        refine A_goto 108 rfl dX8_two_104 ?_
        refine A_iret rfl rfl rfl rfl dX8_two_108 ?_
        subst cq1
        first | exact ⟨congrArg (fun z => some (Value.int z)) ((tw_5 a b).trans (if_neg (Int32.not_lt.mpr cq100))).symm, rfl, rfl⟩ | exact ⟨congrArg (fun z => some (Value.int z)) ((tw_5 a b).trans (if_pos (Int32.not_le.mp cq100))).symm, rfl, rfl⟩
    | 4, hjsw, cq1 =>
      cases hjsw
      replace cq1 := i_eq cq1 (ic_m4)
      refine ⟨87, rfl, ?_⟩
      refine A_iload_n rfl dX8_two_87 ?_
      refine A_iload_n rfl dX8_two_88 ?_
      refine A_icmp_ne 96 rfl dX8_two_89 (fun cq89 => ?_) (fun cq89 => ?_)
      · skip
        refine A_iconst ic_0 dX8_two_96 ?_
        refine A_iret rfl rfl rfl rfl dX8_two_97 ?_
        subst cq1
        first | exact ⟨congrArg (fun z => some (Value.int z)) ((tw_4 a b).trans (if_neg cq89)).symm, rfl, rfl⟩ | exact ⟨congrArg (fun z => some (Value.int z)) ((tw_4 a b).trans (if_pos cq89)).symm, rfl, rfl⟩
      · skip
        refine A_iconst ic_1 dX8_two_92 ?_
        refine A_goto 97 rfl dX8_two_93 ?_
        refine A_iret rfl rfl rfl rfl dX8_two_97 ?_
        subst cq1
        first | exact ⟨congrArg (fun z => some (Value.int z)) ((tw_4 a b).trans (if_neg cq89)).symm, rfl, rfl⟩ | exact ⟨congrArg (fun z => some (Value.int z)) ((tw_4 a b).trans (if_pos cq89)).symm, rfl, rfl⟩
    | 5, hjsw, cq1 =>
      cases hjsw
      replace cq1 := i_eq cq1 (ic_m3)
      refine ⟨76, rfl, ?_⟩
      refine A_iload_n rfl dX8_two_76 ?_
      refine A_iload_n rfl dX8_two_77 ?_
      refine A_icmp_ge 85 rfl dX8_two_78 (fun cq78 => ?_) (fun cq78 => ?_)
      · skip
        refine A_iconst ic_0 dX8_two_85 ?_
        refine A_iret rfl rfl rfl rfl dX8_two_86 ?_
        subst cq1
        first | exact ⟨congrArg (fun z => some (Value.int z)) ((tw_3 a b).trans (if_neg (Int32.not_lt.mpr cq78))).symm, rfl, rfl⟩ | exact ⟨congrArg (fun z => some (Value.int z)) ((tw_3 a b).trans (if_pos (Int32.not_le.mp cq78))).symm, rfl, rfl⟩
      · skip
        refine A_iconst ic_1 dX8_two_81 ?_
        refine A_goto 86 rfl dX8_two_82 ?_
        refine A_iret rfl rfl rfl rfl dX8_two_86 ?_
        subst cq1
        first | exact ⟨congrArg (fun z => some (Value.int z)) ((tw_3 a b).trans (if_neg (Int32.not_lt.mpr cq78))).symm, rfl, rfl⟩ | exact ⟨congrArg (fun z => some (Value.int z)) ((tw_3 a b).trans (if_pos (Int32.not_le.mp cq78))).symm, rfl, rfl⟩
    | 6, hjsw, cq1 =>
      cases hjsw
      replace cq1 := i_eq cq1 (ic_m2)
      refine ⟨62, rfl, ?_⟩
      refine A_iload_n rfl dX8_two_62 ?_
      refine A_if_eq 74 rfl dX8_two_63 (fun cq63 => ?_) (fun cq63 => ?_)
      · skip
        refine A_iconst ic_0 dX8_two_74 ?_
        refine A_iret rfl rfl rfl rfl dX8_two_75 ?_
        subst cq1
        first | (have h7 : a = 0 := cq63; exact ⟨congrArg (fun z => some (Value.int z)) ((tw_2 a b).trans (if_neg (fun hqq => hqq.1 h7))).symm, rfl, rfl⟩) | (have h7 : b = 0 := cq67; exact ⟨congrArg (fun z => some (Value.int z)) ((tw_2 a b).trans (if_neg (fun hqq => hqq.2 h7))).symm, rfl, rfl⟩) | exact ⟨congrArg (fun z => some (Value.int z)) ((tw_2 a b).trans (if_pos (And.intro cq63 cq67))).symm, rfl, rfl⟩
      · skip
        refine A_iload_n rfl dX8_two_66 ?_
        refine A_if_eq 74 rfl dX8_two_67 (fun cq67 => ?_) (fun cq67 => ?_)
        · skip
          refine A_iconst ic_0 dX8_two_74 ?_
          refine A_iret rfl rfl rfl rfl dX8_two_75 ?_
          subst cq1
          first | (have h7 : a = 0 := cq63; exact ⟨congrArg (fun z => some (Value.int z)) ((tw_2 a b).trans (if_neg (fun hqq => hqq.1 h7))).symm, rfl, rfl⟩) | (have h7 : b = 0 := cq67; exact ⟨congrArg (fun z => some (Value.int z)) ((tw_2 a b).trans (if_neg (fun hqq => hqq.2 h7))).symm, rfl, rfl⟩) | exact ⟨congrArg (fun z => some (Value.int z)) ((tw_2 a b).trans (if_pos (And.intro cq63 cq67))).symm, rfl, rfl⟩
        · skip
          refine A_iconst ic_1 dX8_two_70 ?_
          refine A_goto 75 rfl dX8_two_71 ?_
          refine A_iret rfl rfl rfl rfl dX8_two_75 ?_
          subst cq1
          first | (have h7 : a = 0 := cq63; exact ⟨congrArg (fun z => some (Value.int z)) ((tw_2 a b).trans (if_neg (fun hqq => hqq.1 h7))).symm, rfl, rfl⟩) | (have h7 : b = 0 := cq67; exact ⟨congrArg (fun z => some (Value.int z)) ((tw_2 a b).trans (if_neg (fun hqq => hqq.2 h7))).symm, rfl, rfl⟩) | exact ⟨congrArg (fun z => some (Value.int z)) ((tw_2 a b).trans (if_pos (And.intro cq63 cq67))).symm, rfl, rfl⟩
    | 7, hjsw, cq1 =>
      cases hjsw
      replace cq1 := i_eq cq1 (ic_m1)
      refine ⟨48, rfl, ?_⟩
      refine A_iload_n rfl dX8_two_48 ?_
      refine A_if_ne 56 rfl dX8_two_49 (fun cq49 => ?_) (fun cq49 => ?_)
      · skip
        refine A_iconst ic_1 dX8_two_56 ?_
        refine A_goto 61 rfl dX8_two_57 ?_
        refine A_iret rfl rfl rfl rfl dX8_two_61 ?_
        subst cq1
        first | exact ⟨congrArg (fun z => some (Value.int z)) ((tw_1 a b).trans (if_pos (Or.inl cq49))).symm, rfl, rfl⟩ | exact ⟨congrArg (fun z => some (Value.int z)) ((tw_1 a b).trans (if_pos (Or.inr cq53))).symm, rfl, rfl⟩ | exact ⟨congrArg (fun z => some (Value.int z)) ((tw_1 a b).trans (if_neg (fun hqq => hqq.elim (fun h9 => h9 cq49) (fun h9 => h9 cq53)))).symm, rfl, rfl⟩
      · skip
        refine A_iload_n rfl dX8_two_52 ?_
        refine A_if_eq 60 rfl dX8_two_53 (fun cq53 => ?_) (fun cq53 => ?_)
        · skip
          refine A_iconst ic_0 dX8_two_60 ?_
          refine A_iret rfl rfl rfl rfl dX8_two_61 ?_
          subst cq1
          first | exact ⟨congrArg (fun z => some (Value.int z)) ((tw_1 a b).trans (if_pos (Or.inl cq49))).symm, rfl, rfl⟩ | exact ⟨congrArg (fun z => some (Value.int z)) ((tw_1 a b).trans (if_pos (Or.inr cq53))).symm, rfl, rfl⟩ | exact ⟨congrArg (fun z => some (Value.int z)) ((tw_1 a b).trans (if_neg (fun hqq => hqq.elim (fun h9 => h9 cq49) (fun h9 => h9 cq53)))).symm, rfl, rfl⟩
        · skip
          refine A_iconst ic_1 dX8_two_56 ?_
          refine A_goto 61 rfl dX8_two_57 ?_
          refine A_iret rfl rfl rfl rfl dX8_two_61 ?_
          subst cq1
          first | exact ⟨congrArg (fun z => some (Value.int z)) ((tw_1 a b).trans (if_pos (Or.inl cq49))).symm, rfl, rfl⟩ | exact ⟨congrArg (fun z => some (Value.int z)) ((tw_1 a b).trans (if_pos (Or.inr cq53))).symm, rfl, rfl⟩ | exact ⟨congrArg (fun z => some (Value.int z)) ((tw_1 a b).trans (if_neg (fun hqq => hqq.elim (fun h9 => h9 cq49) (fun h9 => h9 cq53)))).symm, rfl, rfl⟩
    | jsw + 8, hjsw, _ => exact absurd hjsw (by simp)
  · skip
    refine A_iload_n rfl dX8_two_121 ?_
    refine A_if_ne 129 rfl dX8_two_122 (fun cq122 => ?_) (fun cq122 => ?_)
    · skip
      refine A_iload_n rfl dX8_two_129 ?_
      refine A_iload_n rfl dX8_two_130 ?_
      refine A_idiv dX8_two_131 cq122 ?_
      refine A_iret rfl rfl rfl rfl dX8_two_132 ?_
      have h8 : s ≠ -1 ∧ s ≠ -2 ∧ s ≠ -3 ∧ s ≠ -4 ∧ s ≠ -5 ∧ s ≠ -6 ∧ s ≠ -7 ∧ s ≠ -8 := by refine ⟨?_, ?_, ?_, ?_, ?_, ?_, ?_, ?_⟩ <;> (intro h9; subst h9; revert cq1; decide)
      first | exact ⟨congrArg (fun z => some (Value.int z)) ((tw_9 s a b h8).trans (if_neg cq122)).symm, rfl, rfl⟩ | exact ⟨congrArg (fun z => some (Value.int z)) ((tw_9 s a b h8).trans (if_pos cq122)).symm, rfl, rfl⟩
    · skip
      refine A_iconst ic_0 dX8_two_125 ?_
      refine A_goto 132 rfl dX8_two_126 ?_
      refine A_iret rfl rfl rfl rfl dX8_two_132 ?_
      have h8 : s ≠ -1 ∧ s ≠ -2 ∧ s ≠ -3 ∧ s ≠ -4 ∧ s ≠ -5 ∧ s ≠ -6 ∧ s ≠ -7 ∧ s ≠ -8 := by refine ⟨?_, ?_, ?_, ?_, ?_, ?_, ?_, ?_⟩ <;> (intro h9; subst h9; revert cq1; decide)
      first | exact ⟨congrArg (fun z => some (Value.int z)) ((tw_9 s a b h8).trans (if_neg cq122)).symm, rfl, rfl⟩ | exact ⟨congrArg (fun z => some (Value.int z)) ((tw_9 s a b h8).trans (if_pos cq122)).symm, rfl, rfl⟩
