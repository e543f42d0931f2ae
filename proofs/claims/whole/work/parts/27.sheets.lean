theorem s_neg {x : Int32} (h : x = -1 ∨ x = 0 ∨ x = 1) : (¬ 0 ≤ x ↔ x = -1) ∧ (¬ x = -1 → ¬ x = 0 → x = 1) := by
  rcases h with rfl | rfl | rfl <;> decide
set_option maxHeartbeats 1000000 in
set_option maxRecDepth 100000 in
theorem m_mark (l : Launch) (G : Gm) (I : Hp) (S Z : Nrow) (C : Fn2) (hS : ShM I S Z C) (hW : ShW S Z C) (s k x : Int32) : Meth l G yX8_mark cX8_mark 4 (some (FieldType.int)) 3 0 0 [.ref 86, .int s, .int k, .int x] LAY I (fun r lay1 I1 => r = some (.int (g_mark S Z s k x).1) ∧ lay1 = LAY ∧ (∀ q, (q ≠ 99 ∧ q ≠ 100 ∧ q ≠ 101) → I1 q = I q) ∧ ShM I1 S Z (if (g_mark S Z s k x).2 then r_put C s.toNatClampNeg k.toNatClampNeg (v_mark S s x) else C)) := by
  refine Meth.of (by decide +kernel) (by simp [Value.category]) (Nat.le_of_ble_eq_true rfl) ?_
  refine A_iload_n rfl dX8_mark_0 ?_
  refine A_callS (s_isSheetM l G _ _ _) m_X8_isSheet ml_X8_192 rfl rfl rfl (Nat.le_of_ble_eq_true rfl) (by decide) (by decide) (by decide) dX8_mark_1 (fun _ _ _ h => congrArg List.length h.2.1) ?_
  rintro _ _ _ ⟨rfl, rfl, e9⟩
  refine AW_I e9 ?_
  clear e9
  refine A_if_ne 10 rfl dX8_mark_4 (fun cq4 => ?_) (fun cq4 => ?_)
  · skip
    have hs0 := b2i_p.mp cq4
    obtain ⟨i, hi, rfl⟩ := in_get (a := 3) rfl hs0
    replace hi : i < 4 := by omega
    obtain ⟨m, hm, hz⟩ := (hW i hi).2.1
    have eS : I 99 i = S i := (hS i hi).1
    have eZ : I 100 i = Z i := (hS i hi).2.1
    have hSi := s_neg (hW i hi).1
    refine A_aload_n rfl dX8_mark_10 ?_
    refine A_getR fr_X8_52.g rfl lay_86 rfl dX8_mark_11 ?_
    refine A_iload_n rfl dX8_mark_14 ?_
    refine A_iald i rfl lay_99 (by omega) (by decide) dX8_mark_15 ?_
    refine A_if_ge 22 rfl dX8_mark_16 (fun cq16 => ?_) (fun cq16 => ?_)
    · skip
      refine A_iload_n rfl dX8_mark_22 ?_
      refine A_iconst ic_0 dX8_mark_23 ?_
      refine A_aload_n rfl dX8_mark_24 ?_
      refine A_getR fr_X8_55.g rfl lay_86 rfl dX8_mark_25 ?_
      refine A_iload_n rfl dX8_mark_28 ?_
      refine A_iald i rfl lay_100 (by omega) (by decide) dX8_mark_29 ?_
      refine A_iconst ic_1 dX8_mark_30 ?_
      refine A_isub dX8_mark_31 ?_
      refine A_callS (s_in l G _ _ _ _ _) m_X8_in ml_X8_80 rfl rfl rfl (Nat.le_of_ble_eq_true rfl) (by decide) (by decide) (by decide) dX8_mark_32 (fun _ _ _ h => congrArg List.length h.2.1) ?_
      rintro _ _ _ ⟨rfl, rfl, e9⟩
      refine AW_I e9 ?_
      clear e9
      refine A_if_ne 42 rfl dX8_mark_35 (fun cq35 => ?_) (fun cq35 => ?_)
      · skip
        have hk0 := b2i_p.mp cq35
        rw [eZ, le_pred hm hz] at hk0
        obtain ⟨j, hj, rfl⟩ := pl_get hm hz hk0
        rw [eS] at cq16
        have hn1 : ¬ S i = -1 := fun h9 => hSi.1.mpr h9 cq16
        refine A_aload_n rfl dX8_mark_42 ?_
        refine A_getR fr_X8_52.g rfl lay_86 rfl dX8_mark_43 ?_
        refine A_iload_n rfl dX8_mark_46 ?_
        refine A_iald i rfl lay_99 (by omega) (by decide) dX8_mark_47 ?_
        refine A_if_ne 60 rfl dX8_mark_48 (fun cq48 => ?_) (fun cq48 => ?_)
        · skip
          refine A_aload_n rfl dX8_mark_60 ?_
          refine A_getR fr_X8_52.g rfl lay_86 rfl dX8_mark_61 ?_
          refine A_iload_n rfl dX8_mark_64 ?_
          refine A_iald i rfl lay_99 (by omega) (by decide) dX8_mark_65 ?_
          refine A_iconst ic_1 dX8_mark_66 ?_
          refine A_icmp_ne 92 rfl dX8_mark_67 (fun cq67 => ?_) (fun cq67 => ?_)
          · skip
            refine A_aload_n rfl dX8_mark_92 ?_
            refine A_getR fr_X8_58.g rfl lay_86 rfl dX8_mark_93 ?_
            refine A_bipush bp_24 dX8_mark_96 ?_
            refine A_iload_n rfl dX8_mark_98 ?_
            refine A_imul dX8_mark_99 ?_
            refine A_iload_n rfl dX8_mark_100 ?_
            refine A_iadd dX8_mark_101 ?_
            refine A_aload_n rfl dX8_mark_102 ?_
            refine A_getR fr_X8_52.g rfl lay_86 rfl dX8_mark_103 ?_
            refine A_iload_n rfl dX8_mark_106 ?_
            refine A_iald i rfl lay_99 (by omega) (by decide) dX8_mark_107 ?_
            refine A_if_ne 116 rfl dX8_mark_108 (fun cq108 => ?_) (fun cq108 => ?_)
            · skip
              refine A_iload_n rfl dX8_mark_116 ?_
              refine A_iast (24 * i + j) (ix_24 i j) lay_101 (by omega) (by decide) dX8_mark_117 ?_
              refine A_iconst ic_1 dX8_mark_118 ?_
              refine A_iret rfl rfl rfl rfl dX8_mark_119 ?_
              rw [eS] at cq48 cq67 cq108
              have eg : g_mark S Z (nI i) (nI j) x = (1, true) := by
                first
                  | (have h6 : S i = 0 := cq48; have h7 : ¬ x = -1000000005 := cq54; rw [g_mark, if_pos hs0, nI_clamp (by omega), if_neg hn1, if_pos hk0, if_pos h6, if_neg h7])
                  | (have h6 : ¬ S i = 0 := cq48; have h7 : x = -1000000005 := cq73; rw [g_mark, if_pos hs0, nI_clamp (by omega), if_neg hn1, if_pos hk0, if_neg h6, if_pos h7])
                  | (have h6 : ¬ S i = 0 := cq48; have h7 : ¬ x = -1000000005 := cq73; rw [g_mark, if_pos hs0, nI_clamp (by omega), if_neg hn1, if_pos hk0, if_neg h6, if_neg h7, if_pos (b2i_p.mp cq86)])
                  | (have h6 : ¬ S i = 0 := cq48; have h7 : ¬ S i = 1 := cq67; exact absurd (hSi.2 hn1 h6) h7)
              rw [eg, if_pos rfl, nI_clamp (by omega), nI_clamp (by omega), v_mark, nI_clamp (by omega)]
              first | rw [if_pos cq108] | rw [if_neg cq108]
              exact ⟨rfl, rfl, fun q hq => up2_ne hq.2.2, hS.put hi (by omega)⟩
            · skip
              refine A_iload_n rfl dX8_mark_111 ?_
              refine A_i2s dX8_mark_112 ?_
              refine A_goto 117 rfl dX8_mark_113 ?_
              refine A_iast (24 * i + j) (ix_24 i j) lay_101 (by omega) (by decide) dX8_mark_117 ?_
              refine A_iconst ic_1 dX8_mark_118 ?_
              refine A_iret rfl rfl rfl rfl dX8_mark_119 ?_
              rw [eS] at cq48 cq67 cq108
              have eg : g_mark S Z (nI i) (nI j) x = (1, true) := by
                first
                  | (have h6 : S i = 0 := cq48; have h7 : ¬ x = -1000000005 := cq54; rw [g_mark, if_pos hs0, nI_clamp (by omega), if_neg hn1, if_pos hk0, if_pos h6, if_neg h7])
                  | (have h6 : ¬ S i = 0 := cq48; have h7 : x = -1000000005 := cq73; rw [g_mark, if_pos hs0, nI_clamp (by omega), if_neg hn1, if_pos hk0, if_neg h6, if_pos h7])
                  | (have h6 : ¬ S i = 0 := cq48; have h7 : ¬ x = -1000000005 := cq73; rw [g_mark, if_pos hs0, nI_clamp (by omega), if_neg hn1, if_pos hk0, if_neg h6, if_neg h7, if_pos (b2i_p.mp cq86)])
                  | (have h6 : ¬ S i = 0 := cq48; have h7 : ¬ S i = 1 := cq67; exact absurd (hSi.2 hn1 h6) h7)
              rw [eg, if_pos rfl, nI_clamp (by omega), nI_clamp (by omega), v_mark, nI_clamp (by omega)]
              first | rw [if_pos cq108] | rw [if_neg cq108]
              exact ⟨rfl, rfl, fun q hq => up2_ne hq.2.2, hS.put hi (by omega)⟩
          · skip
            refine A_iload_n rfl dX8_mark_70 ?_
            refine A_ldc kc_X8_79 rfl dX8_mark_71 ?_
            refine A_icmp_eq 92 rfl dX8_mark_73 (fun cq73 => ?_) (fun cq73 => ?_)
            · skip
              refine A_aload_n rfl dX8_mark_92 ?_
              refine A_getR fr_X8_58.g rfl lay_86 rfl dX8_mark_93 ?_
              refine A_bipush bp_24 dX8_mark_96 ?_
              refine A_iload_n rfl dX8_mark_98 ?_
              refine A_imul dX8_mark_99 ?_
              refine A_iload_n rfl dX8_mark_100 ?_
              refine A_iadd dX8_mark_101 ?_
              refine A_aload_n rfl dX8_mark_102 ?_
              refine A_getR fr_X8_52.g rfl lay_86 rfl dX8_mark_103 ?_
              refine A_iload_n rfl dX8_mark_106 ?_
              refine A_iald i rfl lay_99 (by omega) (by decide) dX8_mark_107 ?_
              refine A_if_ne 116 rfl dX8_mark_108 (fun cq108 => ?_) (fun cq108 => ?_)
              · skip
                refine A_iload_n rfl dX8_mark_116 ?_
                refine A_iast (24 * i + j) (ix_24 i j) lay_101 (by omega) (by decide) dX8_mark_117 ?_
                refine A_iconst ic_1 dX8_mark_118 ?_
                refine A_iret rfl rfl rfl rfl dX8_mark_119 ?_
                rw [eS] at cq48 cq67 cq108
                have eg : g_mark S Z (nI i) (nI j) x = (1, true) := by
                  first
                    | (have h6 : S i = 0 := cq48; have h7 : ¬ x = -1000000005 := cq54; rw [g_mark, if_pos hs0, nI_clamp (by omega), if_neg hn1, if_pos hk0, if_pos h6, if_neg h7])
                    | (have h6 : ¬ S i = 0 := cq48; have h7 : x = -1000000005 := cq73; rw [g_mark, if_pos hs0, nI_clamp (by omega), if_neg hn1, if_pos hk0, if_neg h6, if_pos h7])
                    | (have h6 : ¬ S i = 0 := cq48; have h7 : ¬ x = -1000000005 := cq73; rw [g_mark, if_pos hs0, nI_clamp (by omega), if_neg hn1, if_pos hk0, if_neg h6, if_neg h7, if_pos (b2i_p.mp cq86)])
                    | (have h6 : ¬ S i = 0 := cq48; have h7 : ¬ S i = 1 := cq67; exact absurd (hSi.2 hn1 h6) h7)
                rw [eg, if_pos rfl, nI_clamp (by omega), nI_clamp (by omega), v_mark, nI_clamp (by omega)]
                first | rw [if_pos cq108] | rw [if_neg cq108]
                exact ⟨rfl, rfl, fun q hq => up2_ne hq.2.2, hS.put hi (by omega)⟩
              · skip
                refine A_iload_n rfl dX8_mark_111 ?_
                refine A_i2s dX8_mark_112 ?_
                refine A_goto 117 rfl dX8_mark_113 ?_
                refine A_iast (24 * i + j) (ix_24 i j) lay_101 (by omega) (by decide) dX8_mark_117 ?_
                refine A_iconst ic_1 dX8_mark_118 ?_
                refine A_iret rfl rfl rfl rfl dX8_mark_119 ?_
                rw [eS] at cq48 cq67 cq108
                have eg : g_mark S Z (nI i) (nI j) x = (1, true) := by
                  first
                    | (have h6 : S i = 0 := cq48; have h7 : ¬ x = -1000000005 := cq54; rw [g_mark, if_pos hs0, nI_clamp (by omega), if_neg hn1, if_pos hk0, if_pos h6, if_neg h7])
                    | (have h6 : ¬ S i = 0 := cq48; have h7 : x = -1000000005 := cq73; rw [g_mark, if_pos hs0, nI_clamp (by omega), if_neg hn1, if_pos hk0, if_neg h6, if_pos h7])
                    | (have h6 : ¬ S i = 0 := cq48; have h7 : ¬ x = -1000000005 := cq73; rw [g_mark, if_pos hs0, nI_clamp (by omega), if_neg hn1, if_pos hk0, if_neg h6, if_neg h7, if_pos (b2i_p.mp cq86)])
                    | (have h6 : ¬ S i = 0 := cq48; have h7 : ¬ S i = 1 := cq67; exact absurd (hSi.2 hn1 h6) h7)
                rw [eg, if_pos rfl, nI_clamp (by omega), nI_clamp (by omega), v_mark, nI_clamp (by omega)]
                first | rw [if_pos cq108] | rw [if_neg cq108]
                exact ⟨rfl, rfl, fun q hq => up2_ne hq.2.2, hS.put hi (by omega)⟩
            · skip
              refine A_iload_n rfl dX8_mark_76 ?_
              refine A_ldcw kc_X8_270 rfl dX8_mark_77 ?_
              refine A_ldcw kc_X8_271 rfl dX8_mark_80 ?_
              refine A_callS (s_in l G _ _ _ _ _) m_X8_in ml_X8_80 rfl rfl rfl (Nat.le_of_ble_eq_true rfl) (by decide) (by decide) (by decide) dX8_mark_83 (fun _ _ _ h => congrArg List.length h.2.1) ?_
              rintro _ _ _ ⟨rfl, rfl, e9⟩
              refine AW_I e9 ?_
              clear e9
              refine A_if_ne 92 rfl dX8_mark_86 (fun cq86 => ?_) (fun cq86 => ?_)
              · skip
                refine A_aload_n rfl dX8_mark_92 ?_
                refine A_getR fr_X8_58.g rfl lay_86 rfl dX8_mark_93 ?_
                refine A_bipush bp_24 dX8_mark_96 ?_
                refine A_iload_n rfl dX8_mark_98 ?_
                refine A_imul dX8_mark_99 ?_
                refine A_iload_n rfl dX8_mark_100 ?_
                refine A_iadd dX8_mark_101 ?_
                refine A_aload_n rfl dX8_mark_102 ?_
                refine A_getR fr_X8_52.g rfl lay_86 rfl dX8_mark_103 ?_
                refine A_iload_n rfl dX8_mark_106 ?_
                refine A_iald i rfl lay_99 (by omega) (by decide) dX8_mark_107 ?_
                refine A_if_ne 116 rfl dX8_mark_108 (fun cq108 => ?_) (fun cq108 => ?_)
                · skip
                  refine A_iload_n rfl dX8_mark_116 ?_
                  refine A_iast (24 * i + j) (ix_24 i j) lay_101 (by omega) (by decide) dX8_mark_117 ?_
                  refine A_iconst ic_1 dX8_mark_118 ?_
                  refine A_iret rfl rfl rfl rfl dX8_mark_119 ?_
                  rw [eS] at cq48 cq67 cq108
                  have eg : g_mark S Z (nI i) (nI j) x = (1, true) := by
                    first
                      | (have h6 : S i = 0 := cq48; have h7 : ¬ x = -1000000005 := cq54; rw [g_mark, if_pos hs0, nI_clamp (by omega), if_neg hn1, if_pos hk0, if_pos h6, if_neg h7])
                      | (have h6 : ¬ S i = 0 := cq48; have h7 : x = -1000000005 := cq73; rw [g_mark, if_pos hs0, nI_clamp (by omega), if_neg hn1, if_pos hk0, if_neg h6, if_pos h7])
                      | (have h6 : ¬ S i = 0 := cq48; have h7 : ¬ x = -1000000005 := cq73; rw [g_mark, if_pos hs0, nI_clamp (by omega), if_neg hn1, if_pos hk0, if_neg h6, if_neg h7, if_pos (b2i_p.mp cq86)])
                      | (have h6 : ¬ S i = 0 := cq48; have h7 : ¬ S i = 1 := cq67; exact absurd (hSi.2 hn1 h6) h7)
                  rw [eg, if_pos rfl, nI_clamp (by omega), nI_clamp (by omega), v_mark, nI_clamp (by omega)]
                  first | rw [if_pos cq108] | rw [if_neg cq108]
                  exact ⟨rfl, rfl, fun q hq => up2_ne hq.2.2, hS.put hi (by omega)⟩
                · skip
                  refine A_iload_n rfl dX8_mark_111 ?_
                  refine A_i2s dX8_mark_112 ?_
                  refine A_goto 117 rfl dX8_mark_113 ?_
                  refine A_iast (24 * i + j) (ix_24 i j) lay_101 (by omega) (by decide) dX8_mark_117 ?_
                  refine A_iconst ic_1 dX8_mark_118 ?_
                  refine A_iret rfl rfl rfl rfl dX8_mark_119 ?_
                  rw [eS] at cq48 cq67 cq108
                  have eg : g_mark S Z (nI i) (nI j) x = (1, true) := by
                    first
                      | (have h6 : S i = 0 := cq48; have h7 : ¬ x = -1000000005 := cq54; rw [g_mark, if_pos hs0, nI_clamp (by omega), if_neg hn1, if_pos hk0, if_pos h6, if_neg h7])
                      | (have h6 : ¬ S i = 0 := cq48; have h7 : x = -1000000005 := cq73; rw [g_mark, if_pos hs0, nI_clamp (by omega), if_neg hn1, if_pos hk0, if_neg h6, if_pos h7])
                      | (have h6 : ¬ S i = 0 := cq48; have h7 : ¬ x = -1000000005 := cq73; rw [g_mark, if_pos hs0, nI_clamp (by omega), if_neg hn1, if_pos hk0, if_neg h6, if_neg h7, if_pos (b2i_p.mp cq86)])
                      | (have h6 : ¬ S i = 0 := cq48; have h7 : ¬ S i = 1 := cq67; exact absurd (hSi.2 hn1 h6) h7)
                  rw [eg, if_pos rfl, nI_clamp (by omega), nI_clamp (by omega), v_mark, nI_clamp (by omega)]
                  first | rw [if_pos cq108] | rw [if_neg cq108]
                  exact ⟨rfl, rfl, fun q hq => up2_ne hq.2.2, hS.put hi (by omega)⟩
              · skip
                refine A_ldc kc_X8_88 rfl dX8_mark_89 ?_
                refine A_iret rfl rfl rfl rfl dX8_mark_91 ?_
                rw [eS] at cq67
                have hn0 : ¬ S i = 0 := fun h9 => absurd (h9.symm.trans cq67) (by decide)
                have eg : g_mark S Z (nI i) (nI j) x = (-1000000001, false) := by rw [g_mark, if_pos hs0, nI_clamp (by omega), if_neg hn1, if_pos hk0, if_neg hn0, if_neg cq73, if_neg (b2i_q.mp cq86)]
                rw [eg]
                exact ⟨rfl, rfl, fun _ _ => rfl, hS⟩
        · skip
          refine A_iload_n rfl dX8_mark_51 ?_
          refine A_ldc kc_X8_79 rfl dX8_mark_52 ?_
          refine A_icmp_ne 60 rfl dX8_mark_54 (fun cq54 => ?_) (fun cq54 => ?_)
          · skip
            refine A_aload_n rfl dX8_mark_60 ?_
            refine A_getR fr_X8_52.g rfl lay_86 rfl dX8_mark_61 ?_
            refine A_iload_n rfl dX8_mark_64 ?_
            refine A_iald i rfl lay_99 (by omega) (by decide) dX8_mark_65 ?_
            refine A_iconst ic_1 dX8_mark_66 ?_
            refine A_icmp_ne 92 rfl dX8_mark_67 (fun cq67 => ?_) (fun cq67 => ?_)
            · skip
              refine A_aload_n rfl dX8_mark_92 ?_
              refine A_getR fr_X8_58.g rfl lay_86 rfl dX8_mark_93 ?_
              refine A_bipush bp_24 dX8_mark_96 ?_
              refine A_iload_n rfl dX8_mark_98 ?_
              refine A_imul dX8_mark_99 ?_
              refine A_iload_n rfl dX8_mark_100 ?_
              refine A_iadd dX8_mark_101 ?_
              refine A_aload_n rfl dX8_mark_102 ?_
              refine A_getR fr_X8_52.g rfl lay_86 rfl dX8_mark_103 ?_
              refine A_iload_n rfl dX8_mark_106 ?_
              refine A_iald i rfl lay_99 (by omega) (by decide) dX8_mark_107 ?_
              refine A_if_ne 116 rfl dX8_mark_108 (fun cq108 => ?_) (fun cq108 => ?_)
              · skip
                refine A_iload_n rfl dX8_mark_116 ?_
                refine A_iast (24 * i + j) (ix_24 i j) lay_101 (by omega) (by decide) dX8_mark_117 ?_
                refine A_iconst ic_1 dX8_mark_118 ?_
                refine A_iret rfl rfl rfl rfl dX8_mark_119 ?_
                rw [eS] at cq48 cq67 cq108
                have eg : g_mark S Z (nI i) (nI j) x = (1, true) := by
                  first
                    | (have h6 : S i = 0 := cq48; have h7 : ¬ x = -1000000005 := cq54; rw [g_mark, if_pos hs0, nI_clamp (by omega), if_neg hn1, if_pos hk0, if_pos h6, if_neg h7])
                    | (have h6 : ¬ S i = 0 := cq48; have h7 : x = -1000000005 := cq73; rw [g_mark, if_pos hs0, nI_clamp (by omega), if_neg hn1, if_pos hk0, if_neg h6, if_pos h7])
                    | (have h6 : ¬ S i = 0 := cq48; have h7 : ¬ x = -1000000005 := cq73; rw [g_mark, if_pos hs0, nI_clamp (by omega), if_neg hn1, if_pos hk0, if_neg h6, if_neg h7, if_pos (b2i_p.mp cq86)])
                    | (have h6 : ¬ S i = 0 := cq48; have h7 : ¬ S i = 1 := cq67; exact absurd (hSi.2 hn1 h6) h7)
                rw [eg, if_pos rfl, nI_clamp (by omega), nI_clamp (by omega), v_mark, nI_clamp (by omega)]
                first | rw [if_pos cq108] | rw [if_neg cq108]
                exact ⟨rfl, rfl, fun q hq => up2_ne hq.2.2, hS.put hi (by omega)⟩
              · skip
                refine A_iload_n rfl dX8_mark_111 ?_
                refine A_i2s dX8_mark_112 ?_
                refine A_goto 117 rfl dX8_mark_113 ?_
                refine A_iast (24 * i + j) (ix_24 i j) lay_101 (by omega) (by decide) dX8_mark_117 ?_
                refine A_iconst ic_1 dX8_mark_118 ?_
                refine A_iret rfl rfl rfl rfl dX8_mark_119 ?_
                rw [eS] at cq48 cq67 cq108
                have eg : g_mark S Z (nI i) (nI j) x = (1, true) := by
                  first
                    | (have h6 : S i = 0 := cq48; have h7 : ¬ x = -1000000005 := cq54; rw [g_mark, if_pos hs0, nI_clamp (by omega), if_neg hn1, if_pos hk0, if_pos h6, if_neg h7])
                    | (have h6 : ¬ S i = 0 := cq48; have h7 : x = -1000000005 := cq73; rw [g_mark, if_pos hs0, nI_clamp (by omega), if_neg hn1, if_pos hk0, if_neg h6, if_pos h7])
                    | (have h6 : ¬ S i = 0 := cq48; have h7 : ¬ x = -1000000005 := cq73; rw [g_mark, if_pos hs0, nI_clamp (by omega), if_neg hn1, if_pos hk0, if_neg h6, if_neg h7, if_pos (b2i_p.mp cq86)])
                    | (have h6 : ¬ S i = 0 := cq48; have h7 : ¬ S i = 1 := cq67; exact absurd (hSi.2 hn1 h6) h7)
                rw [eg, if_pos rfl, nI_clamp (by omega), nI_clamp (by omega), v_mark, nI_clamp (by omega)]
                first | rw [if_pos cq108] | rw [if_neg cq108]
                exact ⟨rfl, rfl, fun q hq => up2_ne hq.2.2, hS.put hi (by omega)⟩
            · skip
              refine A_iload_n rfl dX8_mark_70 ?_
              refine A_ldc kc_X8_79 rfl dX8_mark_71 ?_
              refine A_icmp_eq 92 rfl dX8_mark_73 (fun cq73 => ?_) (fun cq73 => ?_)
              · skip
                refine A_aload_n rfl dX8_mark_92 ?_
                refine A_getR fr_X8_58.g rfl lay_86 rfl dX8_mark_93 ?_
                refine A_bipush bp_24 dX8_mark_96 ?_
                refine A_iload_n rfl dX8_mark_98 ?_
                refine A_imul dX8_mark_99 ?_
                refine A_iload_n rfl dX8_mark_100 ?_
                refine A_iadd dX8_mark_101 ?_
                refine A_aload_n rfl dX8_mark_102 ?_
                refine A_getR fr_X8_52.g rfl lay_86 rfl dX8_mark_103 ?_
                refine A_iload_n rfl dX8_mark_106 ?_
                refine A_iald i rfl lay_99 (by omega) (by decide) dX8_mark_107 ?_
                refine A_if_ne 116 rfl dX8_mark_108 (fun cq108 => ?_) (fun cq108 => ?_)
                · skip
                  refine A_iload_n rfl dX8_mark_116 ?_
                  refine A_iast (24 * i + j) (ix_24 i j) lay_101 (by omega) (by decide) dX8_mark_117 ?_
                  refine A_iconst ic_1 dX8_mark_118 ?_
                  refine A_iret rfl rfl rfl rfl dX8_mark_119 ?_
                  rw [eS] at cq48 cq67 cq108
                  have eg : g_mark S Z (nI i) (nI j) x = (1, true) := by
                    first
                      | (have h6 : S i = 0 := cq48; have h7 : ¬ x = -1000000005 := cq54; rw [g_mark, if_pos hs0, nI_clamp (by omega), if_neg hn1, if_pos hk0, if_pos h6, if_neg h7])
                      | (have h6 : ¬ S i = 0 := cq48; have h7 : x = -1000000005 := cq73; rw [g_mark, if_pos hs0, nI_clamp (by omega), if_neg hn1, if_pos hk0, if_neg h6, if_pos h7])
                      | (have h6 : ¬ S i = 0 := cq48; have h7 : ¬ x = -1000000005 := cq73; rw [g_mark, if_pos hs0, nI_clamp (by omega), if_neg hn1, if_pos hk0, if_neg h6, if_neg h7, if_pos (b2i_p.mp cq86)])
                      | (have h6 : ¬ S i = 0 := cq48; have h7 : ¬ S i = 1 := cq67; exact absurd (hSi.2 hn1 h6) h7)
                  rw [eg, if_pos rfl, nI_clamp (by omega), nI_clamp (by omega), v_mark, nI_clamp (by omega)]
                  first | rw [if_pos cq108] | rw [if_neg cq108]
                  exact ⟨rfl, rfl, fun q hq => up2_ne hq.2.2, hS.put hi (by omega)⟩
                · skip
                  refine A_iload_n rfl dX8_mark_111 ?_
                  refine A_i2s dX8_mark_112 ?_
                  refine A_goto 117 rfl dX8_mark_113 ?_
                  refine A_iast (24 * i + j) (ix_24 i j) lay_101 (by omega) (by decide) dX8_mark_117 ?_
                  refine A_iconst ic_1 dX8_mark_118 ?_
                  refine A_iret rfl rfl rfl rfl dX8_mark_119 ?_
                  rw [eS] at cq48 cq67 cq108
                  have eg : g_mark S Z (nI i) (nI j) x = (1, true) := by
                    first
                      | (have h6 : S i = 0 := cq48; have h7 : ¬ x = -1000000005 := cq54; rw [g_mark, if_pos hs0, nI_clamp (by omega), if_neg hn1, if_pos hk0, if_pos h6, if_neg h7])
                      | (have h6 : ¬ S i = 0 := cq48; have h7 : x = -1000000005 := cq73; rw [g_mark, if_pos hs0, nI_clamp (by omega), if_neg hn1, if_pos hk0, if_neg h6, if_pos h7])
                      | (have h6 : ¬ S i = 0 := cq48; have h7 : ¬ x = -1000000005 := cq73; rw [g_mark, if_pos hs0, nI_clamp (by omega), if_neg hn1, if_pos hk0, if_neg h6, if_neg h7, if_pos (b2i_p.mp cq86)])
                      | (have h6 : ¬ S i = 0 := cq48; have h7 : ¬ S i = 1 := cq67; exact absurd (hSi.2 hn1 h6) h7)
                  rw [eg, if_pos rfl, nI_clamp (by omega), nI_clamp (by omega), v_mark, nI_clamp (by omega)]
                  first | rw [if_pos cq108] | rw [if_neg cq108]
                  exact ⟨rfl, rfl, fun q hq => up2_ne hq.2.2, hS.put hi (by omega)⟩
              · skip
                refine A_iload_n rfl dX8_mark_76 ?_
                refine A_ldcw kc_X8_270 rfl dX8_mark_77 ?_
                refine A_ldcw kc_X8_271 rfl dX8_mark_80 ?_
                refine A_callS (s_in l G _ _ _ _ _) m_X8_in ml_X8_80 rfl rfl rfl (Nat.le_of_ble_eq_true rfl) (by decide) (by decide) (by decide) dX8_mark_83 (fun _ _ _ h => congrArg List.length h.2.1) ?_
                rintro _ _ _ ⟨rfl, rfl, e9⟩
                refine AW_I e9 ?_
                clear e9
                refine A_if_ne 92 rfl dX8_mark_86 (fun cq86 => ?_) (fun cq86 => ?_)
                · skip
                  refine A_aload_n rfl dX8_mark_92 ?_
                  refine A_getR fr_X8_58.g rfl lay_86 rfl dX8_mark_93 ?_
                  refine A_bipush bp_24 dX8_mark_96 ?_
                  refine A_iload_n rfl dX8_mark_98 ?_
                  refine A_imul dX8_mark_99 ?_
                  refine A_iload_n rfl dX8_mark_100 ?_
                  refine A_iadd dX8_mark_101 ?_
                  refine A_aload_n rfl dX8_mark_102 ?_
                  refine A_getR fr_X8_52.g rfl lay_86 rfl dX8_mark_103 ?_
                  refine A_iload_n rfl dX8_mark_106 ?_
                  refine A_iald i rfl lay_99 (by omega) (by decide) dX8_mark_107 ?_
                  refine A_if_ne 116 rfl dX8_mark_108 (fun cq108 => ?_) (fun cq108 => ?_)
                  · skip
                    refine A_iload_n rfl dX8_mark_116 ?_
                    refine A_iast (24 * i + j) (ix_24 i j) lay_101 (by omega) (by decide) dX8_mark_117 ?_
                    refine A_iconst ic_1 dX8_mark_118 ?_
                    refine A_iret rfl rfl rfl rfl dX8_mark_119 ?_
                    rw [eS] at cq48 cq67 cq108
                    have eg : g_mark S Z (nI i) (nI j) x = (1, true) := by
                      first
                        | (have h6 : S i = 0 := cq48; have h7 : ¬ x = -1000000005 := cq54; rw [g_mark, if_pos hs0, nI_clamp (by omega), if_neg hn1, if_pos hk0, if_pos h6, if_neg h7])
                        | (have h6 : ¬ S i = 0 := cq48; have h7 : x = -1000000005 := cq73; rw [g_mark, if_pos hs0, nI_clamp (by omega), if_neg hn1, if_pos hk0, if_neg h6, if_pos h7])
                        | (have h6 : ¬ S i = 0 := cq48; have h7 : ¬ x = -1000000005 := cq73; rw [g_mark, if_pos hs0, nI_clamp (by omega), if_neg hn1, if_pos hk0, if_neg h6, if_neg h7, if_pos (b2i_p.mp cq86)])
                        | (have h6 : ¬ S i = 0 := cq48; have h7 : ¬ S i = 1 := cq67; exact absurd (hSi.2 hn1 h6) h7)
                    rw [eg, if_pos rfl, nI_clamp (by omega), nI_clamp (by omega), v_mark, nI_clamp (by omega)]
                    first | rw [if_pos cq108] | rw [if_neg cq108]
                    exact ⟨rfl, rfl, fun q hq => up2_ne hq.2.2, hS.put hi (by omega)⟩
                  · skip
                    refine A_iload_n rfl dX8_mark_111 ?_
                    refine A_i2s dX8_mark_112 ?_
                    refine A_goto 117 rfl dX8_mark_113 ?_
                    refine A_iast (24 * i + j) (ix_24 i j) lay_101 (by omega) (by decide) dX8_mark_117 ?_
                    refine A_iconst ic_1 dX8_mark_118 ?_
                    refine A_iret rfl rfl rfl rfl dX8_mark_119 ?_
                    rw [eS] at cq48 cq67 cq108
                    have eg : g_mark S Z (nI i) (nI j) x = (1, true) := by
                      first
                        | (have h6 : S i = 0 := cq48; have h7 : ¬ x = -1000000005 := cq54; rw [g_mark, if_pos hs0, nI_clamp (by omega), if_neg hn1, if_pos hk0, if_pos h6, if_neg h7])
                        | (have h6 : ¬ S i = 0 := cq48; have h7 : x = -1000000005 := cq73; rw [g_mark, if_pos hs0, nI_clamp (by omega), if_neg hn1, if_pos hk0, if_neg h6, if_pos h7])
                        | (have h6 : ¬ S i = 0 := cq48; have h7 : ¬ x = -1000000005 := cq73; rw [g_mark, if_pos hs0, nI_clamp (by omega), if_neg hn1, if_pos hk0, if_neg h6, if_neg h7, if_pos (b2i_p.mp cq86)])
                        | (have h6 : ¬ S i = 0 := cq48; have h7 : ¬ S i = 1 := cq67; exact absurd (hSi.2 hn1 h6) h7)
                    rw [eg, if_pos rfl, nI_clamp (by omega), nI_clamp (by omega), v_mark, nI_clamp (by omega)]
                    first | rw [if_pos cq108] | rw [if_neg cq108]
                    exact ⟨rfl, rfl, fun q hq => up2_ne hq.2.2, hS.put hi (by omega)⟩
                · skip
                  refine A_ldc kc_X8_88 rfl dX8_mark_89 ?_
                  refine A_iret rfl rfl rfl rfl dX8_mark_91 ?_
                  rw [eS] at cq67
                  have hn0 : ¬ S i = 0 := fun h9 => absurd (h9.symm.trans cq67) (by decide)
                  have eg : g_mark S Z (nI i) (nI j) x = (-1000000001, false) := by rw [g_mark, if_pos hs0, nI_clamp (by omega), if_neg hn1, if_pos hk0, if_neg hn0, if_neg cq73, if_neg (b2i_q.mp cq86)]
                  rw [eg]
                  exact ⟨rfl, rfl, fun _ _ => rfl, hS⟩
          · skip
            refine A_ldc kc_X8_141 rfl dX8_mark_57 ?_
            refine A_iret rfl rfl rfl rfl dX8_mark_59 ?_
            rw [eS] at cq48
            have eg : g_mark S Z (nI i) (nI j) x = (-1000000012, false) := by rw [g_mark, if_pos hs0, nI_clamp (by omega), if_neg hn1, if_pos hk0, if_pos cq48, if_pos cq54]
            rw [eg]
            exact ⟨rfl, rfl, fun _ _ => rfl, hS⟩
      · skip
        refine A_ldcw kc_X8_269 rfl dX8_mark_38 ?_
        refine A_iret rfl rfl rfl rfl dX8_mark_41 ?_
        have h7 := b2i_q.mp cq35
        rw [eZ, le_pred hm hz] at h7
        rw [eS] at cq16
        have hn1 : ¬ S i = -1 := fun h9 => hSi.1.mpr h9 cq16
        have eg : g_mark S Z (nI i) k x = (-1000000013, false) := by rw [g_mark, if_pos hs0, nI_clamp (by omega), if_neg hn1, if_neg h7]
        rw [eg]
        exact ⟨rfl, rfl, fun _ _ => rfl, hS⟩
    · skip
      refine A_ldc kc_X8_195 rfl dX8_mark_19 ?_
      refine A_iret rfl rfl rfl rfl dX8_mark_21 ?_
      rw [eS] at cq16
      have eg : g_mark S Z (nI i) k x = (-1000000011, false) := by rw [g_mark, if_pos hs0, nI_clamp (by omega), if_pos (hSi.1.mp cq16)]
      rw [eg]
      exact ⟨rfl, rfl, fun _ _ => rfl, hS⟩
  · skip
    refine A_ldc kc_X8_88 rfl dX8_mark_7 ?_
    refine A_iret rfl rfl rfl rfl dX8_mark_9 ?_
    rw [g_mark, if_neg (b2i_q.mp cq4)]
    exact ⟨rfl, rfl, fun _ _ => rfl, hS⟩
def q_pour (m : Nat) (c : Nat → Int32) (N : Nrow) : Nat → Nrow × Int32
  | 0 => (N, 0)
  | k + 1 => if k < m ∧ c k ≠ -1000000005 then (upd (q_pour m c N k).1 (8 + k) (heldF (c k) (-50) 50), (q_pour m c N k).2 + (if (q_pour m c N k).1 (8 + k) = heldF (c k) (-50) 50 then 0 else 1)) else q_pour m c N k
def g_pour (S Z : Nrow) (C : Fn2) (N : Nrow) (s : Int32) : Int32 × Nrow := if 0 ≤ s ∧ s ≤ 3 then (if S s.toNatClampNeg = -1 then (-1000000011, N) else ((q_pour (Z s.toNatClampNeg).toNatClampNeg (C s.toNatClampNeg) N 8).2, (q_pour (Z s.toNatClampNeg).toNatClampNeg (C s.toNatClampNeg) N 8).1)) else (-1000000001, N)
set_option maxHeartbeats 1000000 in
set_option maxRecDepth 100000 in
theorem c_pour (l : Launch) (G : Gm) (I : Hp) (N : Nrow) (n : Nat) (hn : n ≤ 10) (hN : N 1 = nI n) (hR : RepJ I 36 N) (S Z : Nrow) (C : Fn2) (hS : ShC I S Z C) (hW : ShW S Z C) (s : Int32) : Meth l G yX7_pour cX7_pour 6 (some (FieldType.int)) 3 0 0 [.ref 0, .int s] LAY I (fun r lay1 I1 => r = some (.int (g_pour S Z C N s).1) ∧ lay1 = LAY ∧ NowC I I1 (g_pour S Z C N s).2) := by
  have loop : ∀ (lpn : Nat) (i m k : Nat) (x : Int32) (o5 : Option Value) (K : Hp), 8 - k = lpn → (s = nI i) → (i < 4) → (m ≤ 24) → (Z i = nI m) → (k ≤ 8) → (g_pour S Z C N s = ((q_pour m (C i) N 8).2, (q_pour m (C i) N 8).1)) → (x = (q_pour m (C i) N k).2) → (RepJ K 36 (q_pour m (C i) N k).1) → (∀ q, (q < 36 ∨ 44 ≤ q) → K q = I q) → AW l G yX7_pour cX7_pour 6 (some (FieldType.int)) 3 0 0 (fun r lay1 I1 => r = some (.int (g_pour S Z C N s).1) ∧ lay1 = LAY ∧ NowC I I1 (g_pour S Z C N s).2) 0 0 33 [some (.ref 0), some (.int s), some (.ref (61 + 2 * i)), some (.int x), some (.int (nI k)), o5] [] LAY K := by
    intro lpn
    induction lpn using Nat.strongRecOn with
    | _ lpn ih =>
      intro i m k x o5 K hms hsi hi hm hz hk heg hx hRk hfr
      subst hsi
      have eZ : K (61 + 2 * i) 1 = nI m := by rw [hfr _ (by omega), (hS i hi).2.1, hz]
      have eC : ∀ z, z < 24 → K (61 + 2 * i + 1) z = C i z := fun z hz1 => by rw [hfr _ (by omega)]; exact (hS i hi).2.2 z hz1
      refine A_iload rfl dX7_pour_33 ?_
      refine A_bipush bp_8 dX7_pour_35 ?_
      refine A_icmp_ge 93 rfl dX7_pour_37 (fun cq37 => ?_) (fun cq37 => ?_)
      · skip
        have hkn : k = 8 := by
          have hq1 := (le_nI (show (8 : Int32) = nI 8 from rfl) (rfl : nI k = nI k) (by omega) (by omega)).mp cq37
          omega
        subst hkn
        refine A_iload_n rfl dX7_pour_93 ?_
        refine A_iret rfl rfl rfl rfl dX7_pour_94 ?_
        rw [heg]
        exact ⟨by rw [hx], rfl, hRk, hfr⟩
      · skip
        have hkn : k < 8 := by
          have hq1 := mt (le_nI (show (8 : Int32) = nI 8 from rfl) (rfl : nI k = nI k) (by omega) (by omega)).mpr cq37
          omega
        refine A_aload_n rfl dX7_pour_40 ?_
        refine A_iload rfl dX7_pour_41 ?_
        refine A_callV (s_hasN l G K (61 + 2 * i) (isR_s hi) (nI k) m hm eZ) m_X4_hasNumber ml_X7_252 rfl (lr (isR_s hi)) rfl (by decide) rfl rfl (Nat.le_of_ble_eq_true rfl) (by decide) (by decide) (by decide) dX7_pour_43 (fun _ _ _ h => congrArg List.length h.2.1) ?_
        rintro _ _ _ ⟨rfl, rfl, e9⟩
        refine AW_I e9 ?_
        clear e9
        refine A_if_eq 87 rfl dX7_pour_46 (fun cq46 => ?_) (fun cq46 => ?_)
        · skip
          refine A_iinc ic_1 rfl (by decide) rfl dX7_pour_87 ?_
          refine A_goto 33 rfl dX7_pour_90 ?_
          refine AW_L (by rw [nI_1 k]) ?_
          first
            | (have h7 := b2i_q.mp cq46
               rw [eZ, nI_clamp (by omega), eC k (by omega)] at h7
               have hst : q_pour m (C i) N (k + 1) = q_pour m (C i) N k := by rw [q_pour, if_neg (fun h9 => h7 ⟨⟨nI_pos' (by omega), (nI_ltI (by omega) (by omega)).mpr h9.1⟩, h9.2⟩)]
               exact ih (8 - (k + 1)) (by omega) i m (k + 1) _ _ _ rfl rfl hi hm hz (by omega) heg (by rw [hst]; exact hx) (by rw [hst]; exact hRk) hfr)
            | (refine ih (8 - (k + 1)) (by omega) i m (k + 1) _ _ _ rfl rfl hi hm hz (by omega) heg ?_ (by rw [hst]; exact hRk.weight (by omega)) (fun q hq => by rw [up2_ne (by omega)]; exact hfr q hq)
               rw [hRk.2.2.2.2.2.2.1 k (by omega)] at cq81
               rw [hst, hx]
               first | rw [if_pos cq81] | rw [if_neg cq81]
               all_goals simp)
        · skip
          have hc := b2i_p.mp cq46
          rw [eZ, nI_clamp (by omega), eC k (by omega)] at hc
          have hkm : k < m := (nI_ltI (by omega) (by omega)).mp hc.1.2
          have hst : q_pour m (C i) N (k + 1) = (upd (q_pour m (C i) N k).1 (8 + k) (heldF (C i k) (-50) 50), (q_pour m (C i) N k).2 + (if (q_pour m (C i) N k).1 (8 + k) = heldF (C i k) (-50) 50 then 0 else 1)) := by rw [q_pour, if_pos ⟨hkm, hc.2⟩]
          refine A_aload_n rfl dX7_pour_49 ?_
          refine A_getR fr_X7_247 rfl (lr (isR_s hi)) rfl dX7_pour_50 ?_
          refine A_iload rfl dX7_pour_53 ?_
          refine A_iald k rfl (lr2 (isR_s hi)) (by omega) (by decide) dX7_pour_55 ?_
          rw [eC k (by omega)]
          refine A_bipush bp_m50 dX7_pour_56 ?_
          refine A_bipush bp_50 dX7_pour_58 ?_
          refine A_callS (s_held l G _ _ _ _ _) m_X7_held ml_X7_233 rfl rfl rfl (Nat.le_of_ble_eq_true rfl) (by decide) (by decide) (by decide) dX7_pour_60 (fun _ _ _ h => congrArg List.length h.2.1) ?_
          rintro _ _ _ ⟨rfl, rfl, e9⟩
          refine AW_I e9 ?_
          clear e9
          refine A_istore (by decide) rfl dX7_pour_63 ?_
          refine A_aload_n rfl dX7_pour_65 ?_
          refine A_getR fr_X7_28.g rfl lay_0 rfl dX7_pour_66 ?_
          refine A_getR fr_X7_127 rfl (lj j36) rfl dX7_pour_69 ?_
          refine A_iload rfl dX7_pour_72 ?_
          refine A_iload rfl dX7_pour_74 ?_
          refine A_callS (s_exch l G K (36 + 6) 8 k _ (lj6 j36) (by omega) (by decide)) m_X7_exchange ml_X7_120 rfl rfl rfl (Nat.le_of_ble_eq_true rfl) (by decide) (by decide) (by decide) dX7_pour_76 (fun _ _ _ h => congrArg List.length h.2.1) ?_
          rintro _ _ _ ⟨rfl, rfl, e9⟩
          refine AW_I e9 ?_
          clear e9
          refine A_iload rfl dX7_pour_79 ?_
          refine A_icmp_eq 87 rfl dX7_pour_81 (fun cq81 => ?_) (fun cq81 => ?_)
          · skip
            refine A_iinc ic_1 rfl (by decide) rfl dX7_pour_87 ?_
            refine A_goto 33 rfl dX7_pour_90 ?_
            refine AW_L (by rw [nI_1 k]) ?_
            first
              | (have h7 := b2i_q.mp cq46
                 rw [eZ, nI_clamp (by omega), eC k (by omega)] at h7
                 have hst : q_pour m (C i) N (k + 1) = q_pour m (C i) N k := by rw [q_pour, if_neg (fun h9 => h7 ⟨⟨nI_pos' (by omega), (nI_ltI (by omega) (by omega)).mpr h9.1⟩, h9.2⟩)]
                 exact ih (8 - (k + 1)) (by omega) i m (k + 1) _ _ _ rfl rfl hi hm hz (by omega) heg (by rw [hst]; exact hx) (by rw [hst]; exact hRk) hfr)
              | (refine ih (8 - (k + 1)) (by omega) i m (k + 1) _ _ _ rfl rfl hi hm hz (by omega) heg ?_ (by rw [hst]; exact hRk.weight (by omega)) (fun q hq => by rw [up2_ne (by omega)]; exact hfr q hq)
                 rw [hRk.2.2.2.2.2.2.1 k (by omega)] at cq81
                 rw [hst, hx]
                 first | rw [if_pos cq81] | rw [if_neg cq81]
                 all_goals simp)
          · skip
            refine A_iinc ic_1 rfl (by decide) rfl dX7_pour_84 ?_
            refine A_iinc ic_1 rfl (by decide) rfl dX7_pour_87 ?_
            refine A_goto 33 rfl dX7_pour_90 ?_
            refine AW_L (by rw [nI_1 k]) ?_
            first
              | (have h7 := b2i_q.mp cq46
                 rw [eZ, nI_clamp (by omega), eC k (by omega)] at h7
                 have hst : q_pour m (C i) N (k + 1) = q_pour m (C i) N k := by rw [q_pour, if_neg (fun h9 => h7 ⟨⟨nI_pos' (by omega), (nI_ltI (by omega) (by omega)).mpr h9.1⟩, h9.2⟩)]
                 exact ih (8 - (k + 1)) (by omega) i m (k + 1) _ _ _ rfl rfl hi hm hz (by omega) heg (by rw [hst]; exact hx) (by rw [hst]; exact hRk) hfr)
              | (refine ih (8 - (k + 1)) (by omega) i m (k + 1) _ _ _ rfl rfl hi hm hz (by omega) heg ?_ (by rw [hst]; exact hRk.weight (by omega)) (fun q hq => by rw [up2_ne (by omega)]; exact hfr q hq)
                 rw [hRk.2.2.2.2.2.2.1 k (by omega)] at cq81
                 rw [hst, hx]
                 first | rw [if_pos cq81] | rw [if_neg cq81]
                 all_goals simp)
  refine Meth.of (by decide +kernel) (by simp [Value.category]) (Nat.le_of_ble_eq_true rfl) ?_
  refine A_iload_n rfl dX7_pour_0 ?_
  refine A_callS (s_isSheet l G _ _ _) m_X7_isSheet ml_X7_186 rfl rfl rfl (Nat.le_of_ble_eq_true rfl) (by decide) (by decide) (by decide) dX7_pour_1 (fun _ _ _ h => congrArg List.length h.2.1) ?_
  rintro _ _ _ ⟨rfl, rfl, e9⟩
  refine AW_I e9 ?_
  clear e9
  refine A_if_ne 10 rfl dX7_pour_4 (fun cq4 => ?_) (fun cq4 => ?_)
  · skip
    have hs0 := b2i_p.mp cq4
    obtain ⟨i, hi, rfl⟩ := in_get (a := 3) rfl hs0
    replace hi : i < 4 := by omega
    obtain ⟨m, hm, hz⟩ := (hW i hi).2.1
    have eS : I (61 + 2 * i) 0 = S i := (hS i hi).1
    refine A_aload_n rfl dX7_pour_10 ?_
    refine A_getR fr_X7_40.g rfl lay_0 rfl dX7_pour_11 ?_
    refine A_iload_n rfl dX7_pour_14 ?_
    refine A_aald i rfl lay_60 (Or.inr (Or.inl rfl)) (by omega) (by decide) (sh_at i hi) dX7_pour_15 ?_
    refine A_astore_n (by decide) rfl dX7_pour_16 ?_
    refine A_aload_n rfl dX7_pour_17 ?_
    refine A_getI fr_X7_189.g rfl (lr (isR_s hi)) dX7_pour_18 ?_
    refine A_iconst ic_m1 dX7_pour_21 ?_
    refine A_icmp_ne 28 rfl dX7_pour_22 (fun cq22 => ?_) (fun cq22 => ?_)
    · skip
      refine A_iconst ic_0 dX7_pour_28 ?_
      refine A_istore_n (by decide) rfl dX7_pour_29 ?_
      refine A_iconst ic_0 dX7_pour_30 ?_
      refine A_istore (by decide) rfl dX7_pour_31 ?_
      rw [eS] at cq22
      exact loop 8 i m 0 _ _ I rfl rfl hi hm hz (by omega) (by rw [g_pour, if_pos hs0, nI_clamp (by omega), if_neg cq22, hz, nI_clamp (by omega)]) rfl hR (fun _ _ => rfl)
    · skip
      refine A_ldc kc_X7_192 rfl dX7_pour_25 ?_
      refine A_iret rfl rfl rfl rfl dX7_pour_27 ?_
      rw [eS] at cq22
      rw [g_pour, if_pos hs0, nI_clamp (by omega), if_pos cq22]
      exact ⟨rfl, rfl, NowC.rf hR⟩
  · skip
    refine A_ldc kc_X7_60 rfl dX7_pour_7 ?_
    refine A_iret rfl rfl rfl rfl dX7_pour_9 ?_
    rw [g_pour, if_neg (b2i_q.mp cq4)]
    exact ⟨rfl, rfl, NowC.rf hR⟩
