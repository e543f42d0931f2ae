theorem up2_id {I : Hp} {a i : Nat} : up2 I a i (I a i) = I := by
  funext q
  unfold up2
  split
  · rename_i h
    subst h
    exact upd_id
  · rfl
theorem ix_24c (a i t : Nat) : (24 : Int32) * nI a + nI i + nI t = nI (24 * a + i + t) := by rw [ix_24, nI_add]
set_option maxHeartbeats 1000000 in
set_option maxRecDepth 100000 in
theorem m_copy (l : Launch) (G : Gm) (I : Hp) (S Z : Nrow) (C : Fn2) (hS : ShM I S Z C) (hW : ShW S Z C) (a i b j m : Int32) : Meth l G yX8_copy cX8_copy 7 (some (FieldType.int)) 3 0 0 [.ref 86, .int a, .int i, .int b, .int j, .int m] LAY I (fun r lay1 I1 => r = some (.int (g_copy S Z a i b j m).1) ∧ lay1 = LAY ∧ (∀ q, (q ≠ 99 ∧ q ≠ 100 ∧ q ≠ 101 ∧ q ≠ 106) → I1 q = I q) ∧ ShM I1 S Z (if (g_copy S Z a i b j m).2 then r_copy C a.toNatClampNeg i.toNatClampNeg b.toNatClampNeg j.toNatClampNeg m.toNatClampNeg else C)) := by
  have loop2 : ∀ (lpn : Nat) (u v i1 j1 m1 t : Nat) (K : Hp), m1 - t = lpn → (a = nI u) → (b = nI v) → (i = nI i1) → (j = nI j1) → (m = nI m1) → (u < 4) → (v < 4) → (i1 + m1 ≤ 24) → (j1 + m1 ≤ 24) → (g_copy S Z a i b j m = (m, true)) → (t ≤ m1) → (∀ z, z < m1 → K 106 z = C u (i1 + z)) → (∀ z, z < t → K 101 (24 * v + j1 + z) = C u (i1 + z)) → (∀ z, z < 24 * v + j1 ∨ 24 * v + j1 + t ≤ z → K 101 z = I 101 z) → (∀ q, q ≠ 101 → q ≠ 106 → K q = I q) → AW l G yX8_copy cX8_copy 7 (some (FieldType.int)) 3 0 0 (fun r lay1 I1 => r = some (.int (g_copy S Z a i b j m).1) ∧ lay1 = LAY ∧ (∀ q, (q ≠ 99 ∧ q ≠ 100 ∧ q ≠ 101 ∧ q ≠ 106) → I1 q = I q) ∧ ShM I1 S Z (if (g_copy S Z a i b j m).2 then r_copy C a.toNatClampNeg i.toNatClampNeg b.toNatClampNeg j.toNatClampNeg m.toNatClampNeg else C)) 0 0 141 [some (.ref 86), some (.int a), some (.int i), some (.int b), some (.int j), some (.int m), some (.int (nI t))] [] LAY K := by
    intro lpn
    induction lpn using Nat.strongRecOn with
    | _ lpn ih =>
      intro u v i1 j1 m1 t K hms hau hbv hii hjj hmm hu hv hl1 hl2 heg ht hK6 hK0 hK1 hfr
      subst hau
      subst hbv
      subst hii
      subst hjj
      subst hmm
      refine A_iload rfl dX8_copy_141 ?_
      refine A_iload rfl dX8_copy_143 ?_
      refine A_icmp_ge 176 rfl dX8_copy_145 (fun cq145 => ?_) (fun cq145 => ?_)
      · skip
        have htn : t = m1 := by
          have hq1 := (le_nI (rfl : nI m1 = nI m1) (rfl : nI t = nI t) (by omega) (by omega)).mp cq145
          omega
        subst htn
        refine A_iload rfl dX8_copy_176 ?_
        refine A_iret rfl rfl rfl rfl dX8_copy_178 ?_
        rw [heg, if_pos rfl, nI_clamp (by omega), nI_clamp (by omega), nI_clamp (by omega), nI_clamp (by omega), nI_clamp (by omega)]
        refine ⟨rfl, rfl, fun q hq => hfr q hq.2.2.1 hq.2.2.2, fun s hs => ⟨by rw [hfr 99 (by decide) (by decide)]; exact (hS s hs).1, by rw [hfr 100 (by decide) (by decide)]; exact (hS s hs).2.1, fun k hk => ?_⟩⟩
        unfold r_copy
        by_cases e : s = v ∧ j1 ≤ k ∧ k < j1 + t
        · rw [if_pos e, ← hK0 (k - j1) (by omega)]
          congr 1
          omega
        · rw [if_neg e, hK1 _ (by omega)]
          exact (hS s hs).2.2 k hk
      · skip
        have htn : t < m1 := by
          have hq1 := mt (le_nI (rfl : nI m1 = nI m1) (rfl : nI t = nI t) (by omega) (by omega)).mpr cq145
          omega
        refine A_aload_n rfl dX8_copy_148 ?_
        refine A_getR fr_X8_58.g rfl lay_86 rfl dX8_copy_149 ?_
        refine A_bipush bp_24 dX8_copy_152 ?_
        refine A_iload_n rfl dX8_copy_154 ?_
        refine A_imul dX8_copy_155 ?_
        refine A_iload rfl dX8_copy_156 ?_
        refine A_iadd dX8_copy_158 ?_
        refine A_iload rfl dX8_copy_159 ?_
        refine A_iadd dX8_copy_161 ?_
        refine A_aload_n rfl dX8_copy_162 ?_
        refine A_getR fr_X8_73.g rfl lay_86 rfl dX8_copy_163 ?_
        refine A_iload rfl dX8_copy_166 ?_
        refine A_iald t rfl lay_106 (by omega) (by decide) dX8_copy_168 ?_
        rw [hK6 t htn]
        refine A_iast (24 * v + j1 + t) (ix_24c v j1 t) lay_101 (by omega) (by decide) dX8_copy_169 ?_
        refine A_iinc ic_1 rfl (by decide) rfl dX8_copy_170 ?_
        refine A_goto 141 rfl dX8_copy_173 ?_
        refine AW_L (by rw [nI_1 t]) ?_
        refine ih (m1 - (t + 1)) (by omega) u v i1 j1 m1 (t + 1) _ rfl rfl rfl rfl rfl rfl hu hv hl1 hl2 heg (by omega) (fun z hz => by rw [up2_ne (by decide)]; exact hK6 z hz) (fun z hz => ?_) (fun z hz => ?_) (fun q h1 h2 => by rw [up2_ne h1]; exact hfr q h1 h2)
        · by_cases e : z = t
          · subst e; rw [up2_same]
          · rw [up2_ni (by omega)]; exact hK0 z (by omega)
        · rw [up2_ni (by omega)]; exact hK1 z (by omega)
  have loop1 : ∀ (lpn : Nat) (u v i1 j1 m1 t : Nat) (K : Hp), m1 - t = lpn → (a = nI u) → (b = nI v) → (i = nI i1) → (j = nI j1) → (m = nI m1) → (u < 4) → (v < 4) → (i1 + m1 ≤ 24) → (j1 + m1 ≤ 24) → (g_copy S Z a i b j m = (m, true)) → (t ≤ m1) → (∀ z, z < t → K 106 z = C u (i1 + z)) → (∀ q, q ≠ 106 → K q = I q) → AW l G yX8_copy cX8_copy 7 (some (FieldType.int)) 3 0 0 (fun r lay1 I1 => r = some (.int (g_copy S Z a i b j m).1) ∧ lay1 = LAY ∧ (∀ q, (q ≠ 99 ∧ q ≠ 100 ∧ q ≠ 101 ∧ q ≠ 106) → I1 q = I q) ∧ ShM I1 S Z (if (g_copy S Z a i b j m).2 then r_copy C a.toNatClampNeg i.toNatClampNeg b.toNatClampNeg j.toNatClampNeg m.toNatClampNeg else C)) 0 0 104 [some (.ref 86), some (.int a), some (.int i), some (.int b), some (.int j), some (.int m), some (.int (nI t))] [] LAY K := by
    intro lpn
    induction lpn using Nat.strongRecOn with
    | _ lpn ih =>
      intro u v i1 j1 m1 t K hms hau hbv hii hjj hmm hu hv hl1 hl2 heg ht hK6 hfr
      subst hau
      subst hbv
      subst hii
      subst hjj
      subst hmm
      refine A_iload rfl dX8_copy_104 ?_
      refine A_iload rfl dX8_copy_106 ?_
      refine A_icmp_ge 138 rfl dX8_copy_108 (fun cq108 => ?_) (fun cq108 => ?_)
      · skip
        have htn : t = m1 := by
          have hq1 := (le_nI (rfl : nI m1 = nI m1) (rfl : nI t = nI t) (by omega) (by omega)).mp cq108
          omega
        subst htn
        refine A_iconst ic_0 dX8_copy_138 ?_
        refine A_istore (by decide) rfl dX8_copy_139 ?_
        exact loop2 _ u v i1 j1 t 0 K rfl rfl rfl rfl rfl rfl hu hv hl1 hl2 heg (by omega) hK6 (fun z hz => absurd hz (by omega)) (fun z _ => by rw [hfr 101 (by decide)]) (fun q _ h2 => hfr q h2)
      · skip
        have htn : t < m1 := by
          have hq1 := mt (le_nI (rfl : nI m1 = nI m1) (rfl : nI t = nI t) (by omega) (by omega)).mpr cq108
          omega
        have ec : K 101 (24 * u + i1 + t) = C u (i1 + t) := by rw [hfr 101 (by decide), show 24 * u + i1 + t = 24 * u + (i1 + t) by omega]; exact (hS u hu).2.2 _ (by omega)
        refine A_aload_n rfl dX8_copy_111 ?_
        refine A_getR fr_X8_73.g rfl lay_86 rfl dX8_copy_112 ?_
        refine A_iload rfl dX8_copy_115 ?_
        refine A_aload_n rfl dX8_copy_117 ?_
        refine A_getR fr_X8_58.g rfl lay_86 rfl dX8_copy_118 ?_
        refine A_bipush bp_24 dX8_copy_121 ?_
        refine A_iload_n rfl dX8_copy_123 ?_
        refine A_imul dX8_copy_124 ?_
        refine A_iload_n rfl dX8_copy_125 ?_
        refine A_iadd dX8_copy_126 ?_
        refine A_iload rfl dX8_copy_127 ?_
        refine A_iadd dX8_copy_129 ?_
        refine A_iald (24 * u + i1 + t) (ix_24c u i1 t) lay_101 (by omega) (by decide) dX8_copy_130 ?_
        rw [ec]
        refine A_iast t rfl lay_106 (by omega) (by decide) dX8_copy_131 ?_
        refine A_iinc ic_1 rfl (by decide) rfl dX8_copy_132 ?_
        refine A_goto 104 rfl dX8_copy_135 ?_
        refine AW_L (by rw [nI_1 t]) ?_
        refine ih (m1 - (t + 1)) (by omega) u v i1 j1 m1 (t + 1) _ rfl rfl rfl rfl rfl rfl hu hv hl1 hl2 heg (by omega) (fun z hz => ?_) (fun q h1 => by rw [up2_ne h1]; exact hfr q h1)
        by_cases e : z = t
        · subst e; rw [up2_same]
        · rw [up2_ni e]; exact hK6 z (by omega)
  refine Meth.of (by decide +kernel) (by simp [Value.category]) (Nat.le_of_ble_eq_true rfl) ?_
  refine A_iload_n rfl dX8_copy_0 ?_
  refine A_callS (s_isSheetM l G _ _ _) m_X8_isSheet ml_X8_192 rfl rfl rfl (Nat.le_of_ble_eq_true rfl) (by decide) (by decide) (by decide) dX8_copy_1 (fun _ _ _ h => congrArg List.length h.2.1) ?_
  rintro _ _ _ ⟨rfl, rfl, e9⟩
  refine AW_I e9 ?_
  clear e9
  refine A_if_eq 14 rfl dX8_copy_4 (fun cq4 => ?_) (fun cq4 => ?_)
  · skip
    refine A_ldc kc_X8_88 rfl dX8_copy_14 ?_
    refine A_iret rfl rfl rfl rfl dX8_copy_16 ?_
    have hno : ¬ ((0 ≤ a ∧ a ≤ 3) ∧ (0 ≤ b ∧ b ≤ 3)) := by
      first
        | (have h7 := b2i_q.mp cq4; exact fun h9 => h7 h9.1)
        | (have h7 := b2i_q.mp cq11; exact fun h9 => h7 h9.2)
    rw [g_copy, if_neg hno]
    exact ⟨rfl, rfl, fun _ _ => rfl, hS⟩
  · skip
    refine A_iload_n rfl dX8_copy_7 ?_
    refine A_callS (s_isSheetM l G _ _ _) m_X8_isSheet ml_X8_192 rfl rfl rfl (Nat.le_of_ble_eq_true rfl) (by decide) (by decide) (by decide) dX8_copy_8 (fun _ _ _ h => congrArg List.length h.2.1) ?_
    rintro _ _ _ ⟨rfl, rfl, e9⟩
    refine AW_I e9 ?_
    clear e9
    refine A_if_ne 17 rfl dX8_copy_11 (fun cq11 => ?_) (fun cq11 => ?_)
    · skip
      have hs0 : (0 ≤ a ∧ a ≤ 3) ∧ (0 ≤ b ∧ b ≤ 3) := ⟨b2i_p.mp cq4, b2i_p.mp cq11⟩
      obtain ⟨u, hu, rfl⟩ := in_get (a := 3) rfl hs0.1
      obtain ⟨v, hv, rfl⟩ := in_get (a := 3) rfl hs0.2
      replace hu : u < 4 := by omega
      replace hv : v < 4 := by omega
      obtain ⟨p, hp, hzu⟩ := (hW u hu).2.1
      obtain ⟨p2, hp2, hzv⟩ := (hW v hv).2.1
      have eU : I 99 u = S u := (hS u hu).1
      have eV : I 99 v = S v := (hS v hv).1
      have eZu : I 100 u = Z u := (hS u hu).2.1
      have eZv : I 100 v = Z v := (hS v hv).2.1
      refine A_aload_n rfl dX8_copy_17 ?_
      refine A_getR fr_X8_52.g rfl lay_86 rfl dX8_copy_18 ?_
      refine A_iload_n rfl dX8_copy_21 ?_
      refine A_iald u rfl lay_99 (by omega) (by decide) dX8_copy_22 ?_
      refine A_if_lt 35 rfl dX8_copy_23 (fun cq23 => ?_) (fun cq23 => ?_)
      · skip
        refine A_ldc kc_X8_195 rfl dX8_copy_35 ?_
        refine A_iret rfl rfl rfl rfl dX8_copy_37 ?_
        have hy : S u = -1 ∨ S v = -1 := by
          first
            | (have h7 : I 99 u < 0 := cq23; rw [eU] at h7; exact Or.inl ((s_neg (hW u hu).1).1.mp (Int32.not_le.mpr h7)))
            | (have h7 : ¬ 0 ≤ I 99 v := cq32; rw [eV] at h7; exact Or.inr ((s_neg (hW v hv).1).1.mp h7))
        have eg : g_copy S Z (nI u) i (nI v) j m = (-1000000011, false) := by rw [g_copy, if_pos hs0, nI_clamp (by omega), nI_clamp (by omega), if_pos hy]
        rw [eg]
        exact ⟨rfl, rfl, fun _ _ => rfl, hS⟩
      · skip
        refine A_aload_n rfl dX8_copy_26 ?_
        refine A_getR fr_X8_52.g rfl lay_86 rfl dX8_copy_27 ?_
        refine A_iload_n rfl dX8_copy_30 ?_
        refine A_iald v rfl lay_99 (by omega) (by decide) dX8_copy_31 ?_
        refine A_if_ge 38 rfl dX8_copy_32 (fun cq32 => ?_) (fun cq32 => ?_)
        · skip
          rw [eU] at cq23
          rw [eV] at cq32
          have hn : ¬ (S u = -1 ∨ S v = -1) := fun h9 => h9.elim (fun h8 => cq23 (by rw [h8]; decide)) (fun h8 => absurd cq32 (by rw [h8]; decide))
          refine A_aload_n rfl dX8_copy_38 ?_
          refine A_getR fr_X8_52.g rfl lay_86 rfl dX8_copy_39 ?_
          refine A_iload_n rfl dX8_copy_42 ?_
          refine A_iald u rfl lay_99 (by omega) (by decide) dX8_copy_43 ?_
          refine A_aload_n rfl dX8_copy_44 ?_
          refine A_getR fr_X8_52.g rfl lay_86 rfl dX8_copy_45 ?_
          refine A_iload_n rfl dX8_copy_48 ?_
          refine A_iald v rfl lay_99 (by omega) (by decide) dX8_copy_49 ?_
          refine A_icmp_eq 56 rfl dX8_copy_50 (fun cq50 => ?_) (fun cq50 => ?_)
          · skip
            rw [eU, eV] at cq50
            refine A_iload_n rfl dX8_copy_56 ?_
            refine A_if_lt 97 rfl dX8_copy_57 (fun cq57 => ?_) (fun cq57 => ?_)
            · skip
              refine A_ldcw kc_X8_269 rfl dX8_copy_97 ?_
              refine A_iret rfl rfl rfl rfl dX8_copy_100 ?_
              have hno : ¬ (q_st (Z u) i m = true ∧ q_st (Z v) j m = true) := by
                first
                  | (have h7 : i < 0 := cq57; exact fun h9 => Int32.not_lt.mpr (of_decide_eq_true h9.1).1 h7)
                  | (have h7 : j < 0 := cq62; exact fun h9 => Int32.not_lt.mpr (of_decide_eq_true h9.2).1 h7)
                  | (have h7 : m < 0 := cq67; exact fun h9 => Int32.not_lt.mpr (of_decide_eq_true h9.1).2.1 h7)
                  | (have h7 : I 100 u - m < i := cq80; rw [eZu] at h7; exact fun h9 => Int32.not_lt.mpr (of_decide_eq_true h9.1).2.2.2 h7)
                  | (have h7 : ¬ j ≤ I 100 v - m := cq94; rw [eZv] at h7; exact fun h9 => h7 (of_decide_eq_true h9.2).2.2.2)
              have eg : g_copy S Z (nI u) i (nI v) j m = (-1000000013, false) := by rw [g_copy, if_pos hs0, nI_clamp (by omega), nI_clamp (by omega), if_neg hn, if_pos cq50, if_neg hno]
              rw [eg]
              exact ⟨rfl, rfl, fun _ _ => rfl, hS⟩
            · skip
              refine A_iload rfl dX8_copy_60 ?_
              refine A_if_lt 97 rfl dX8_copy_62 (fun cq62 => ?_) (fun cq62 => ?_)
              · skip
                refine A_ldcw kc_X8_269 rfl dX8_copy_97 ?_
                refine A_iret rfl rfl rfl rfl dX8_copy_100 ?_
                have hno : ¬ (q_st (Z u) i m = true ∧ q_st (Z v) j m = true) := by
                  first
                    | (have h7 : i < 0 := cq57; exact fun h9 => Int32.not_lt.mpr (of_decide_eq_true h9.1).1 h7)
                    | (have h7 : j < 0 := cq62; exact fun h9 => Int32.not_lt.mpr (of_decide_eq_true h9.2).1 h7)
                    | (have h7 : m < 0 := cq67; exact fun h9 => Int32.not_lt.mpr (of_decide_eq_true h9.1).2.1 h7)
                    | (have h7 : I 100 u - m < i := cq80; rw [eZu] at h7; exact fun h9 => Int32.not_lt.mpr (of_decide_eq_true h9.1).2.2.2 h7)
                    | (have h7 : ¬ j ≤ I 100 v - m := cq94; rw [eZv] at h7; exact fun h9 => h7 (of_decide_eq_true h9.2).2.2.2)
                have eg : g_copy S Z (nI u) i (nI v) j m = (-1000000013, false) := by rw [g_copy, if_pos hs0, nI_clamp (by omega), nI_clamp (by omega), if_neg hn, if_pos cq50, if_neg hno]
                rw [eg]
                exact ⟨rfl, rfl, fun _ _ => rfl, hS⟩
              · skip
                refine A_iload rfl dX8_copy_65 ?_
                refine A_if_lt 97 rfl dX8_copy_67 (fun cq67 => ?_) (fun cq67 => ?_)
                · skip
                  refine A_ldcw kc_X8_269 rfl dX8_copy_97 ?_
                  refine A_iret rfl rfl rfl rfl dX8_copy_100 ?_
                  have hno : ¬ (q_st (Z u) i m = true ∧ q_st (Z v) j m = true) := by
                    first
                      | (have h7 : i < 0 := cq57; exact fun h9 => Int32.not_lt.mpr (of_decide_eq_true h9.1).1 h7)
                      | (have h7 : j < 0 := cq62; exact fun h9 => Int32.not_lt.mpr (of_decide_eq_true h9.2).1 h7)
                      | (have h7 : m < 0 := cq67; exact fun h9 => Int32.not_lt.mpr (of_decide_eq_true h9.1).2.1 h7)
                      | (have h7 : I 100 u - m < i := cq80; rw [eZu] at h7; exact fun h9 => Int32.not_lt.mpr (of_decide_eq_true h9.1).2.2.2 h7)
                      | (have h7 : ¬ j ≤ I 100 v - m := cq94; rw [eZv] at h7; exact fun h9 => h7 (of_decide_eq_true h9.2).2.2.2)
                  have eg : g_copy S Z (nI u) i (nI v) j m = (-1000000013, false) := by rw [g_copy, if_pos hs0, nI_clamp (by omega), nI_clamp (by omega), if_neg hn, if_pos cq50, if_neg hno]
                  rw [eg]
                  exact ⟨rfl, rfl, fun _ _ => rfl, hS⟩
                · skip
                  refine A_iload_n rfl dX8_copy_70 ?_
                  refine A_aload_n rfl dX8_copy_71 ?_
                  refine A_getR fr_X8_55.g rfl lay_86 rfl dX8_copy_72 ?_
                  refine A_iload_n rfl dX8_copy_75 ?_
                  refine A_iald u rfl lay_100 (by omega) (by decide) dX8_copy_76 ?_
                  refine A_iload rfl dX8_copy_77 ?_
                  refine A_isub dX8_copy_79 ?_
                  refine A_icmp_gt 97 rfl dX8_copy_80 (fun cq80 => ?_) (fun cq80 => ?_)
                  · skip
                    refine A_ldcw kc_X8_269 rfl dX8_copy_97 ?_
                    refine A_iret rfl rfl rfl rfl dX8_copy_100 ?_
                    have hno : ¬ (q_st (Z u) i m = true ∧ q_st (Z v) j m = true) := by
                      first
                        | (have h7 : i < 0 := cq57; exact fun h9 => Int32.not_lt.mpr (of_decide_eq_true h9.1).1 h7)
                        | (have h7 : j < 0 := cq62; exact fun h9 => Int32.not_lt.mpr (of_decide_eq_true h9.2).1 h7)
                        | (have h7 : m < 0 := cq67; exact fun h9 => Int32.not_lt.mpr (of_decide_eq_true h9.1).2.1 h7)
                        | (have h7 : I 100 u - m < i := cq80; rw [eZu] at h7; exact fun h9 => Int32.not_lt.mpr (of_decide_eq_true h9.1).2.2.2 h7)
                        | (have h7 : ¬ j ≤ I 100 v - m := cq94; rw [eZv] at h7; exact fun h9 => h7 (of_decide_eq_true h9.2).2.2.2)
                    have eg : g_copy S Z (nI u) i (nI v) j m = (-1000000013, false) := by rw [g_copy, if_pos hs0, nI_clamp (by omega), nI_clamp (by omega), if_neg hn, if_pos cq50, if_neg hno]
                    rw [eg]
                    exact ⟨rfl, rfl, fun _ _ => rfl, hS⟩
                  · skip
                    refine A_iload rfl dX8_copy_83 ?_
                    refine A_aload_n rfl dX8_copy_85 ?_
                    refine A_getR fr_X8_55.g rfl lay_86 rfl dX8_copy_86 ?_
                    refine A_iload_n rfl dX8_copy_89 ?_
                    refine A_iald v rfl lay_100 (by omega) (by decide) dX8_copy_90 ?_
                    refine A_iload rfl dX8_copy_91 ?_
                    refine A_isub dX8_copy_93 ?_
                    refine A_icmp_le 101 rfl dX8_copy_94 (fun cq94 => ?_) (fun cq94 => ?_)
                    · skip
                      rw [eZu] at cq80
                      rw [eZv] at cq94
                      have h1 : q_st (Z u) i m = true := by rw [st_M hp hzu cq57 cq67]; exact decide_eq_true (Int32.not_lt.mp cq80)
                      have h2 : q_st (Z v) j m = true := by rw [st_M hp2 hzv cq62 cq67]; exact decide_eq_true cq94
                      obtain ⟨i1, m1, rfl, rfl, hl1⟩ := st_get hp hzu h1
                      obtain ⟨j1, m2, rfl, hmm, hl2⟩ := st_get hp2 hzv h2
                      have hM : m1 = m2 := (nI_eq (a := m1) (b := m2) (by omega) (by omega)).mp hmm
                      subst hM
                      have eg : g_copy S Z (nI u) (nI i1) (nI v) (nI j1) (nI m1) = (nI m1, true) := by rw [g_copy, if_pos hs0, nI_clamp (by omega), nI_clamp (by omega), if_neg hn, if_pos cq50, if_pos ⟨h1, h2⟩]
                      refine A_iconst ic_0 dX8_copy_101 ?_
                      refine A_istore (by decide) rfl dX8_copy_102 ?_
                      exact loop1 _ u v i1 j1 m1 0 I rfl rfl rfl rfl rfl rfl hu hv (by omega) (by omega) eg (by omega) (fun z hz => absurd hz (by omega)) (fun _ _ => rfl)
                    · skip
                      refine A_ldcw kc_X8_269 rfl dX8_copy_97 ?_
                      refine A_iret rfl rfl rfl rfl dX8_copy_100 ?_
                      have hno : ¬ (q_st (Z u) i m = true ∧ q_st (Z v) j m = true) := by
                        first
                          | (have h7 : i < 0 := cq57; exact fun h9 => Int32.not_lt.mpr (of_decide_eq_true h9.1).1 h7)
                          | (have h7 : j < 0 := cq62; exact fun h9 => Int32.not_lt.mpr (of_decide_eq_true h9.2).1 h7)
                          | (have h7 : m < 0 := cq67; exact fun h9 => Int32.not_lt.mpr (of_decide_eq_true h9.1).2.1 h7)
                          | (have h7 : I 100 u - m < i := cq80; rw [eZu] at h7; exact fun h9 => Int32.not_lt.mpr (of_decide_eq_true h9.1).2.2.2 h7)
                          | (have h7 : ¬ j ≤ I 100 v - m := cq94; rw [eZv] at h7; exact fun h9 => h7 (of_decide_eq_true h9.2).2.2.2)
                      have eg : g_copy S Z (nI u) i (nI v) j m = (-1000000013, false) := by rw [g_copy, if_pos hs0, nI_clamp (by omega), nI_clamp (by omega), if_neg hn, if_pos cq50, if_neg hno]
                      rw [eg]
                      exact ⟨rfl, rfl, fun _ _ => rfl, hS⟩
          · skip
            refine A_ldc kc_X8_141 rfl dX8_copy_53 ?_
            refine A_iret rfl rfl rfl rfl dX8_copy_55 ?_
            rw [eU, eV] at cq50
            have eg : g_copy S Z (nI u) i (nI v) j m = (-1000000012, false) := by rw [g_copy, if_pos hs0, nI_clamp (by omega), nI_clamp (by omega), if_neg hn, if_neg cq50]
            rw [eg]
            exact ⟨rfl, rfl, fun _ _ => rfl, hS⟩
        · skip
          refine A_ldc kc_X8_195 rfl dX8_copy_35 ?_
          refine A_iret rfl rfl rfl rfl dX8_copy_37 ?_
          have hy : S u = -1 ∨ S v = -1 := by
            first
              | (have h7 : I 99 u < 0 := cq23; rw [eU] at h7; exact Or.inl ((s_neg (hW u hu).1).1.mp (Int32.not_le.mpr h7)))
              | (have h7 : ¬ 0 ≤ I 99 v := cq32; rw [eV] at h7; exact Or.inr ((s_neg (hW v hv).1).1.mp h7))
          have eg : g_copy S Z (nI u) i (nI v) j m = (-1000000011, false) := by rw [g_copy, if_pos hs0, nI_clamp (by omega), nI_clamp (by omega), if_pos hy]
          rw [eg]
          exact ⟨rfl, rfl, fun _ _ => rfl, hS⟩
    · skip
      refine A_ldc kc_X8_88 rfl dX8_copy_14 ?_
      refine A_iret rfl rfl rfl rfl dX8_copy_16 ?_
      have hno : ¬ ((0 ≤ a ∧ a ≤ 3) ∧ (0 ≤ b ∧ b ≤ 3)) := by
        first
          | (have h7 := b2i_q.mp cq4; exact fun h9 => h7 h9.1)
          | (have h7 := b2i_q.mp cq11; exact fun h9 => h7 h9.2)
      rw [g_copy, if_neg hno]
      exact ⟨rfl, rfl, fun _ _ => rfl, hS⟩
def f_trim (t x : Int32) : Int32 := if 0 ≤ x ∧ x ≤ t then x else -1000000001
def t_trim (t x : Int32) : Int32 := if 0 ≤ x ∧ x ≤ t then x else t
set_option maxHeartbeats 1000000 in
set_option maxRecDepth 100000 in
theorem c_trim (l : Launch) (G : Gm) (I : Hp) (x : Int32) : Meth l G yX7_trim cX7_trim 2 (some (FieldType.int)) 2 0 0 [.ref 0, .int x] LAY I (fun r lay1 I1 => r = some (.int (f_trim (I 32 0) x)) ∧ lay1 = LAY ∧ I1 = up2 I 32 0 (t_trim (I 32 0) x)) := by
  refine Meth.of (by decide +kernel) (by simp [Value.category]) (Nat.le_of_ble_eq_true rfl) ?_
  refine A_iload_n rfl dX7_trim_0 ?_
  refine A_iconst ic_0 dX7_trim_1 ?_
  refine A_aload_n rfl dX7_trim_2 ?_
  refine A_getR fr_X7_19.g rfl lay_0 rfl dX7_trim_3 ?_
  refine A_getI fr_X7_204.g rfl lay_32 dX7_trim_6 ?_
  refine A_callS (s_within l G _ _ _ _ _) m_X7_within ml_X7_56 rfl rfl rfl (Nat.le_of_ble_eq_true rfl) (by decide) (by decide) (by decide) dX7_trim_9 (fun _ _ _ h => congrArg List.length h.2.1) ?_
  rintro _ _ _ ⟨rfl, rfl, e9⟩
  refine AW_I e9 ?_
  clear e9
  refine A_if_ne 18 rfl dX7_trim_12 (fun cq12 => ?_) (fun cq12 => ?_)
  · skip
    refine A_aload_n rfl dX7_trim_18 ?_
    refine A_getR fr_X7_19.g rfl lay_0 rfl dX7_trim_19 ?_
    refine A_iload_n rfl dX7_trim_22 ?_
    refine A_putI fr_X7_204 rfl lay_32 rfl rfl dX7_trim_23 ?_
    refine A_iload_n rfl dX7_trim_26 ?_
    refine A_iret rfl rfl rfl rfl dX7_trim_27 ?_
    have h7 := b2i_p.mp cq12
    rw [f_trim, t_trim, if_pos h7, if_pos h7]
    exact ⟨rfl, rfl, rfl⟩
  · skip
    refine A_ldc kc_X7_60 rfl dX7_trim_15 ?_
    refine A_iret rfl rfl rfl rfl dX7_trim_17 ?_
    have h7 := b2i_q.mp cq12
    rw [f_trim, t_trim, if_neg h7, if_neg h7]
    exact ⟨rfl, rfl, up2_id.symm⟩
set_option maxHeartbeats 1000000 in
set_option maxRecDepth 100000 in
theorem m_trim (l : Launch) (G : Gm) (I : Hp) (x : Int32) : Meth l G yX8_trim cX8_trim 2 (some (FieldType.int)) 2 0 0 [.ref 86, .int x] LAY I (fun r lay1 I1 => r = some (.int (f_trim (I 86 7) x)) ∧ lay1 = LAY ∧ I1 = up2 I 86 7 (t_trim (I 86 7) x)) := by
  refine Meth.of (by decide +kernel) (by simp [Value.category]) (Nat.le_of_ble_eq_true rfl) ?_
  refine A_iload_n rfl dX8_trim_0 ?_
  refine A_iconst ic_0 dX8_trim_1 ?_
  refine A_aload_n rfl dX8_trim_2 ?_
  refine A_getI fr_X8_200.g rfl lay_86 dX8_trim_3 ?_
  refine A_callS (s_in l G _ _ _ _ _) m_X8_in ml_X8_80 rfl rfl rfl (Nat.le_of_ble_eq_true rfl) (by decide) (by decide) (by decide) dX8_trim_6 (fun _ _ _ h => congrArg List.length h.2.1) ?_
  rintro _ _ _ ⟨rfl, rfl, e9⟩
  refine AW_I e9 ?_
  clear e9
  refine A_if_ne 15 rfl dX8_trim_9 (fun cq9 => ?_) (fun cq9 => ?_)
  · skip
    refine A_aload_n rfl dX8_trim_15 ?_
    refine A_iload_n rfl dX8_trim_16 ?_
    refine A_putI fr_X8_200 rfl lay_86 rfl rfl dX8_trim_17 ?_
    refine A_iload_n rfl dX8_trim_20 ?_
    refine A_iret rfl rfl rfl rfl dX8_trim_21 ?_
    have h7 := b2i_p.mp cq9
    rw [f_trim, t_trim, if_pos h7, if_pos h7]
    exact ⟨rfl, rfl, rfl⟩
  · skip
    refine A_ldc kc_X8_88 rfl dX8_trim_12 ?_
    refine A_iret rfl rfl rfl rfl dX8_trim_14 ?_
    have h7 := b2i_q.mp cq9
    rw [f_trim, t_trim, if_neg h7, if_neg h7]
    exact ⟨rfl, rfl, up2_id.symm⟩
def f_why (N : Nrow) (x : Int32) : Int32 := if 0 ≤ x ∧ x ≤ 2 then (if q_cnt N x < 0 then -1000000005 else q_cnt N x) else -1000000001
set_option maxHeartbeats 1000000 in
set_option maxRecDepth 100000 in
theorem c_why (l : Launch) (G : Gm) (I : Hp) (N : Nrow) (n : Nat) (hn : n ≤ 10) (hN : N 1 = nI n) (hR : RepJ I 36 N) (x : Int32) : Meth l G yX7_why cX7_why 3 (some (FieldType.int)) 2 0 0 [.ref 0, .int x] LAY I (fun r lay1 I1 => r = some (.int (f_why N x)) ∧ lay1 = LAY ∧ I1 = I) := by
  refine Meth.of (by decide +kernel) (by simp [Value.category]) (Nat.le_of_ble_eq_true rfl) ?_
  refine A_iload_n rfl dX7_why_0 ?_
  refine A_iconst ic_0 dX7_why_1 ?_
  refine A_iconst ic_2 dX7_why_2 ?_
  refine A_callS (s_within l G _ _ _ _ _) m_X7_within ml_X7_56 rfl rfl rfl (Nat.le_of_ble_eq_true rfl) (by decide) (by decide) (by decide) dX7_why_3 (fun _ _ _ h => congrArg List.length h.2.1) ?_
  rintro _ _ _ ⟨rfl, rfl, e9⟩
  refine AW_I e9 ?_
  clear e9
  refine A_if_ne 12 rfl dX7_why_6 (fun cq6 => ?_) (fun cq6 => ?_)
  · skip
    have hok := b2i_p.mp cq6
    obtain ⟨i, hi, rfl⟩ := in_get (a := 2) rfl hok
    have e7 : I (36 + 7) i = q_cnt N (nI i) := hR.2.2.2.2.2.2.2 i (by omega)
    refine A_aload_n rfl dX7_why_12 ?_
    refine A_getR fr_X7_28.g rfl lay_0 rfl dX7_why_13 ?_
    refine A_getR fr_X7_197 rfl (lj j36) rfl dX7_why_16 ?_
    refine A_iload_n rfl dX7_why_19 ?_
    refine A_iald i rfl (lj7 j36) (by omega) (by decide) dX7_why_20 ?_
    refine A_istore_n (by decide) rfl dX7_why_21 ?_
    refine A_iload_n rfl dX7_why_22 ?_
    refine A_if_ge 31 rfl dX7_why_23 (fun cq23 => ?_) (fun cq23 => ?_)
    · skip
      refine A_iload_n rfl dX7_why_31 ?_
      refine A_iret rfl rfl rfl rfl dX7_why_32 ?_
      rw [e7] at cq23
      rw [f_why, if_pos hok]
      first | (have h7 : 0 ≤ q_cnt N (nI i) := cq23; rw [if_neg (Int32.not_lt.mpr h7)]; exact ⟨by rw [e7], rfl, rfl⟩) | (have h7 : ¬ 0 ≤ q_cnt N (nI i) := cq23; rw [if_pos (Int32.not_le.mp h7)]; exact ⟨rfl, rfl, rfl⟩)
    · skip
      refine A_ldc kc_X7_109 rfl dX7_why_26 ?_
      refine A_goto 32 rfl dX7_why_28 ?_
      refine A_iret rfl rfl rfl rfl dX7_why_32 ?_
      rw [e7] at cq23
      rw [f_why, if_pos hok]
      first | (have h7 : 0 ≤ q_cnt N (nI i) := cq23; rw [if_neg (Int32.not_lt.mpr h7)]; exact ⟨by rw [e7], rfl, rfl⟩) | (have h7 : ¬ 0 ≤ q_cnt N (nI i) := cq23; rw [if_pos (Int32.not_le.mp h7)]; exact ⟨rfl, rfl, rfl⟩)
  · skip
    refine A_ldc kc_X7_60 rfl dX7_why_9 ?_
    refine A_iret rfl rfl rfl rfl dX7_why_11 ?_
    rw [f_why, if_neg (b2i_q.mp cq6)]
    exact ⟨rfl, rfl, rfl⟩
set_option maxHeartbeats 1000000 in
set_option maxRecDepth 100000 in
theorem m_why (l : Launch) (G : Gm) (I : Hp) (N : Nrow) (h87 : I 87 = N) (n : Nat) (hn : n ≤ 10) (hN : N 1 = nI n) (T : Nat) (hTx : TxJ N T) (x : Int32) : Meth l G yX8_why cX8_why 3 (some (FieldType.int)) 2 0 0 [.ref 86, .int x] LAY I (fun r lay1 I1 => r = some (.int (f_why N x)) ∧ lay1 = LAY ∧ I1 = I) := by
  subst h87
  refine Meth.of (by decide +kernel) (by simp [Value.category]) (Nat.le_of_ble_eq_true rfl) ?_
  refine A_iload_n rfl dX8_why_0 ?_
  refine A_iconst ic_0 dX8_why_1 ?_
  refine A_iconst ic_2 dX8_why_2 ?_
  refine A_callS (s_in l G _ _ _ _ _) m_X8_in ml_X8_80 rfl rfl rfl (Nat.le_of_ble_eq_true rfl) (by decide) (by decide) (by decide) dX8_why_3 (fun _ _ _ h => congrArg List.length h.2.1) ?_
  rintro _ _ _ ⟨rfl, rfl, e9⟩
  refine AW_I e9 ?_
  clear e9
  refine A_if_ne 12 rfl dX8_why_6 (fun cq6 => ?_) (fun cq6 => ?_)
  · skip
    have hok := b2i_p.mp cq6
    refine A_aload_n rfl dX8_why_12 ?_
    refine A_iload_n rfl dX8_why_13 ?_
    refine A_callV (t_cnt l G I _ rfl T hTx.1 hTx.2.1 _) m_X8_counts ml_X8_102 rfl lay_86 rfl (by decide) rfl rfl (Nat.le_of_ble_eq_true rfl) (by decide) (by decide) (by decide) dX8_why_14 (fun _ _ _ h => congrArg List.length h.2.1) ?_
    rintro _ _ _ ⟨rfl, rfl, e9⟩
    refine AW_I e9 ?_
    clear e9
    refine A_istore_n (by decide) rfl dX8_why_17 ?_
    refine A_iload_n rfl dX8_why_18 ?_
    refine A_if_ge 27 rfl dX8_why_19 (fun cq19 => ?_) (fun cq19 => ?_)
    · skip
      refine A_iload_n rfl dX8_why_27 ?_
      refine A_iret rfl rfl rfl rfl dX8_why_28 ?_
      rw [f_why, if_pos hok]
      first | (have h7 : 0 ≤ q_cnt (I 87) x := cq19; rw [if_neg (Int32.not_lt.mpr h7)]; exact ⟨rfl, rfl, rfl⟩) | (have h7 : ¬ 0 ≤ q_cnt (I 87) x := cq19; rw [if_pos (Int32.not_le.mp h7)]; exact ⟨rfl, rfl, rfl⟩)
    · skip
      refine A_ldc kc_X8_79 rfl dX8_why_22 ?_
      refine A_goto 28 rfl dX8_why_24 ?_
      refine A_iret rfl rfl rfl rfl dX8_why_28 ?_
      rw [f_why, if_pos hok]
      first | (have h7 : 0 ≤ q_cnt (I 87) x := cq19; rw [if_neg (Int32.not_lt.mpr h7)]; exact ⟨rfl, rfl, rfl⟩) | (have h7 : ¬ 0 ≤ q_cnt (I 87) x := cq19; rw [if_pos (Int32.not_le.mp h7)]; exact ⟨rfl, rfl, rfl⟩)
  · skip
    refine A_ldc kc_X8_88 rfl dX8_why_9 ?_
    refine A_iret rfl rfl rfl rfl dX8_why_11 ?_
    rw [f_why, if_neg (b2i_q.mp cq6)]
    exact ⟨rfl, rfl, rfl⟩
