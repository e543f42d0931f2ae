set_option maxHeartbeats 1000000 in
set_option maxRecDepth 100000 in
theorem t_off (l : Launch) (G : Gm) (I : Hp) (N : Nrow) (hRw : I 87 = N) (n : Nat) (hn : n ≤ 10) (hN : N 1 = nI n) (T : Nat) (hTx : TxJ N T) (hDo : DoJ N) (hWt : WtJ N) (S Z : Nrow) (C : Fn2) (hS : ShM I S Z C) (hW : ShW S Z C) (i m f : Nat) (hi : i < 4) (hm : m ≤ 24) (hz : Z i = nI m) (hf : f < 8) : Meth l G yX8_offBy cX8_offBy 10 (some (FieldType.long)) 4 0 0 [.ref 86, .int (nI i), .int (nI f)] LAY I (fun r lay1 I1 => r = some (.long (lN (q_ap (q_wf N f) n (C i) m))) ∧ lay1 = LAY ∧ ∀ q, q ≠ 97 → q ≠ 98 → I1 q = I q) := by
  have loop : ∀ (lpn : Nat) (k : Nat) (o7 o8 : Option Value) (K : Hp), m - k = lpn → (k ≤ m) → (K 87 = q_wf N f) → (∀ q, q ≠ 97 → q ≠ 98 → q ≠ 87 → K q = I q) → AW l G yX8_offBy cX8_offBy 10 (some (FieldType.long)) 4 0 0 (fun r lay1 I1 => r = some (.long (lN (q_ap (q_wf N f) n (C i) m))) ∧ lay1 = LAY ∧ ∀ q, q ≠ 97 → q ≠ 98 → I1 q = I q) 0 0 34 [some (.ref 86), some (.int (nI i)), some (.int (nI f)), some (.int (N (8 + f))), some (.long (lN (q_ap (q_wf N f) n (C i) k))), none, some (.int (nI k)), o7, o8, none] [] LAY K := by
    intro lpn
    induction lpn using Nat.strongRecOn with
    | _ lpn ih =>
      intro k o7 o8 K hms hk h87 hfr
      have eZ : K 100 i = nI m := by rw [hfr _ (by decide) (by decide) (by decide), (hS i hi).2.1, hz]
      have eC : ∀ z, z < 24 → K 101 (24 * i + z) = C i z := fun z hz1 => by rw [hfr _ (by decide) (by decide) (by decide)]; exact (hS i hi).2.2 z hz1
      have hDf := hDo.wf hf
      have hTf := hTx.wf hf
      have hNf := wf_1 hN hf
      refine A_iload rfl dX8_offBy_34 ?_
      refine A_aload_n rfl dX8_offBy_36 ?_
      refine A_getR fr_X8_55.g rfl lay_86 rfl dX8_offBy_37 ?_
      refine A_iload_n rfl dX8_offBy_40 ?_
      refine A_iald i rfl lay_100 (by omega) (by decide) dX8_offBy_41 ?_
      rw [eZ]
      refine A_icmp_ge 122 rfl dX8_offBy_42 (fun cq42 => ?_) (fun cq42 => ?_)
      · skip
        refine A_aload_n rfl dX8_offBy_122 ?_
        refine A_getR fr_X8_9.g rfl lay_86 rfl dX8_offBy_123 ?_
        refine A_bipush bp_8 dX8_offBy_126 ?_
        refine A_iload_n rfl dX8_offBy_128 ?_
        refine A_iadd dX8_offBy_129 ?_
        refine A_iload_n rfl dX8_offBy_130 ?_
        refine A_iast (8 + f) (ix_8 f) lay_87 (by omega) (by decide) dX8_offBy_131 ?_
        refine A_lload rfl dX8_offBy_132 ?_
        refine A_lret rfl rfl rfl dX8_offBy_134 ?_
        have hkm : k = m := by
          have hq1 := (le_nI (rfl : nI m = nI m) (rfl : nI k = nI k) (by omega) (by omega)).mp cq42
          omega
        subst hkm
        refine ⟨rfl, rfl, fun q a b => ?_⟩
        by_cases e : q = 87
        · subst e; rw [up2_row, h87, wf_back]; exact hRw.symm
        · rw [up2_ne e]; exact hfr q a b e
      · skip
        have hkm : k < m := by
          have hq1 := mt (le_nI (rfl : nI m = nI m) (rfl : nI k = nI k) (by omega) (by omega)).mpr cq42
          omega
        refine A_aload_n rfl dX8_offBy_45 ?_
        refine A_getR fr_X8_58.g rfl lay_86 rfl dX8_offBy_46 ?_
        refine A_bipush bp_24 dX8_offBy_49 ?_
        refine A_iload_n rfl dX8_offBy_51 ?_
        refine A_imul dX8_offBy_52 ?_
        refine A_iload rfl dX8_offBy_53 ?_
        refine A_iadd dX8_offBy_55 ?_
        refine A_iald (24 * i + k) (ix_24 i k) lay_101 (by omega) (by decide) dX8_offBy_56 ?_
        rw [eC k (by omega)]
        refine A_istore (by decide) rfl dX8_offBy_57 ?_
        refine A_iload rfl dX8_offBy_59 ?_
        refine A_i2l dX8_offBy_61 ?_
        refine A_aload_n rfl dX8_offBy_62 ?_
        refine A_iload rfl dX8_offBy_63 ?_
        refine A_callV (t_isJuror l G K _ h87 _ n hn hNf) m_X8_isJuror ml_X8_118 rfl lay_86 rfl (by decide) rfl rfl (Nat.le_of_ble_eq_true rfl) (by decide) (by decide) (by decide) dX8_offBy_65 (fun _ _ _ h => congrArg List.length h.2.1) ?_
        rintro _ _ _ ⟨rfl, rfl, e9⟩
        refine AW_I e9 ?_
        clear e9
        refine A_if_eq 80 rfl dX8_offBy_68 (fun cq68 => ?_) (fun cq68 => ?_)
        · skip
          have hj0 := b2i_q.mp cq68
          rw [hNf] at hj0
          have hkn : ¬ k < n := fun q => hj0 ⟨nI_pos' (by omega), (nI_ltI (by omega) (by omega)).mpr q⟩
          refine A_iconst ic_0 dX8_offBy_80 ?_
          refine A_i2l dX8_offBy_81 ?_
          refine A_lsub dX8_offBy_82 ?_
          refine A_lstore (by decide) rfl dX8_offBy_83 ?_
          refine A_lload rfl dX8_offBy_85 ?_
          refine A_iload rfl dX8_offBy_87 ?_
          refine A_ldc kc_X8_79 rfl dX8_offBy_89 ?_
          refine A_icmp_ne 98 rfl dX8_offBy_91 (fun cq91 => ?_) (fun cq91 => ?_)
          · skip
            refine A_lload rfl dX8_offBy_98 ?_
            refine A_lconst lc_0 dX8_offBy_100 ?_
            refine A_lcmp dX8_offBy_101 ?_
            refine A_if_ge 111 rfl dX8_offBy_102 (fun cq102 => ?_) (fun cq102 => ?_)
            · skip
              refine A_lload rfl dX8_offBy_111 ?_
              refine A_ladd dX8_offBy_113 ?_
              refine A_lstore (by decide) rfl dX8_offBy_114 ?_
              refine A_iinc ic_1 rfl (by decide) rfl dX8_offBy_116 ?_
              refine A_goto 34 rfl dX8_offBy_119 ?_
              first
                | (have h8 : C i k = -1000000005 := cq91
                   have hv : lN (q_ap (q_wf N f) n (C i) k) + 0 = lN (q_ap (q_wf N f) n (C i) (k + 1)) := by rw [q_ap, if_pos h8, Nat.add_zero, show (0 : Int64) = lN 0 from rfl, lN_add, Nat.add_zero]
                   refine AW_L (by rw [nI_1 k, hv]) ?_
                   first | exact ih _ (by omega) (k + 1) _ _ K2 rfl (by omega) h872 hfr2 | exact ih _ (by omega) (k + 1) _ _ K rfl (by omega) h87 hfr)
                | (have h8 : ¬ C i k = -1000000005 := cq91
                   have hc := ((hW i hi).2.2 k (by omega)).resolve_left h8
                   have h7 : k < n := hkn
                   have h6 := abs_l hb hc
                   rw [eb] at cq102 ⊢
                   have hq0 : q_ap (q_wf N f) n (C i) (k + 1) = q_ap (q_wf N f) n (C i) k + ((b : Int) - (C i k).toInt).natAbs := by rw [q_ap, if_neg h8, if_pos h7, eb, nI_toInt (by omega)]
                   first
                     | (have h5 : 0 ≤ lg_cmp ((C i k).toInt64 - (nI b).toInt64) 0 := cq102
                        have h4 := h6.2 (Int64.not_lt.mpr ((lg_cmp_ge _ _).mp h5))
                        refine AW_L (by rw [nI_1 k, h4, lN_add, ← hq0]) ?_
                        exact ih _ (by omega) (k + 1) _ _ K2 rfl (by omega) h872 hfr2)
                     | (have h5 : ¬ 0 ≤ lg_cmp ((C i k).toInt64 - (nI b).toInt64) 0 := cq102
                        have h4 := h6.1 (Int64.not_le.mp (fun q => h5 ((lg_cmp_ge _ _).mpr q)))
                        refine AW_L (by rw [nI_1 k, h4, lN_add, ← hq0]) ?_
                        exact ih _ (by omega) (k + 1) _ _ K2 rfl (by omega) h872 hfr2))
                | (have h8 : ¬ C i k = -1000000005 := cq91
                   have hc := ((hW i hi).2.2 k (by omega)).resolve_left h8
                   have h7 : ¬ k < n := hkn
                   have h6 := abs_l (b := 0) (by decide) hc
                   have hq0 : q_ap (q_wf N f) n (C i) (k + 1) = q_ap (q_wf N f) n (C i) k + (((0 : Nat) : Int) - (C i k).toInt).natAbs := by rw [q_ap, if_neg h8, if_neg h7]; rfl
                   first
                     | (have h5 : 0 ≤ lg_cmp ((C i k).toInt64 - (nI 0).toInt64) 0 := cq102
                        have h4 : (C i k).toInt64 - (0 : Int32).toInt64 = _ := h6.2 (Int64.not_lt.mpr ((lg_cmp_ge _ _).mp h5))
                        refine AW_L (by rw [nI_1 k, h4, lN_add, ← hq0]) ?_
                        exact ih _ (by omega) (k + 1) _ _ K rfl (by omega) h87 hfr)
                     | (have h5 : ¬ 0 ≤ lg_cmp ((C i k).toInt64 - (nI 0).toInt64) 0 := cq102
                        have h4 : -((C i k).toInt64 - (0 : Int32).toInt64) = _ := h6.1 (Int64.not_le.mp (fun q => h5 ((lg_cmp_ge _ _).mpr q)))
                        refine AW_L (by rw [nI_1 k, h4, lN_add, ← hq0]) ?_
                        exact ih _ (by omega) (k + 1) _ _ K rfl (by omega) h87 hfr))
            · skip
              refine A_lload rfl dX8_offBy_105 ?_
              refine A_lneg dX8_offBy_107 ?_
              refine A_goto 113 rfl dX8_offBy_108 ?_
              refine A_ladd dX8_offBy_113 ?_
              refine A_lstore (by decide) rfl dX8_offBy_114 ?_
              refine A_iinc ic_1 rfl (by decide) rfl dX8_offBy_116 ?_
              refine A_goto 34 rfl dX8_offBy_119 ?_
              first
                | (have h8 : C i k = -1000000005 := cq91
                   have hv : lN (q_ap (q_wf N f) n (C i) k) + 0 = lN (q_ap (q_wf N f) n (C i) (k + 1)) := by rw [q_ap, if_pos h8, Nat.add_zero, show (0 : Int64) = lN 0 from rfl, lN_add, Nat.add_zero]
                   refine AW_L (by rw [nI_1 k, hv]) ?_
                   first | exact ih _ (by omega) (k + 1) _ _ K2 rfl (by omega) h872 hfr2 | exact ih _ (by omega) (k + 1) _ _ K rfl (by omega) h87 hfr)
                | (have h8 : ¬ C i k = -1000000005 := cq91
                   have hc := ((hW i hi).2.2 k (by omega)).resolve_left h8
                   have h7 : k < n := hkn
                   have h6 := abs_l hb hc
                   rw [eb] at cq102 ⊢
                   have hq0 : q_ap (q_wf N f) n (C i) (k + 1) = q_ap (q_wf N f) n (C i) k + ((b : Int) - (C i k).toInt).natAbs := by rw [q_ap, if_neg h8, if_pos h7, eb, nI_toInt (by omega)]
                   first
                     | (have h5 : 0 ≤ lg_cmp ((C i k).toInt64 - (nI b).toInt64) 0 := cq102
                        have h4 := h6.2 (Int64.not_lt.mpr ((lg_cmp_ge _ _).mp h5))
                        refine AW_L (by rw [nI_1 k, h4, lN_add, ← hq0]) ?_
                        exact ih _ (by omega) (k + 1) _ _ K2 rfl (by omega) h872 hfr2)
                     | (have h5 : ¬ 0 ≤ lg_cmp ((C i k).toInt64 - (nI b).toInt64) 0 := cq102
                        have h4 := h6.1 (Int64.not_le.mp (fun q => h5 ((lg_cmp_ge _ _).mpr q)))
                        refine AW_L (by rw [nI_1 k, h4, lN_add, ← hq0]) ?_
                        exact ih _ (by omega) (k + 1) _ _ K2 rfl (by omega) h872 hfr2))
                | (have h8 : ¬ C i k = -1000000005 := cq91
                   have hc := ((hW i hi).2.2 k (by omega)).resolve_left h8
                   have h7 : ¬ k < n := hkn
                   have h6 := abs_l (b := 0) (by decide) hc
                   have hq0 : q_ap (q_wf N f) n (C i) (k + 1) = q_ap (q_wf N f) n (C i) k + (((0 : Nat) : Int) - (C i k).toInt).natAbs := by rw [q_ap, if_neg h8, if_neg h7]; rfl
                   first
                     | (have h5 : 0 ≤ lg_cmp ((C i k).toInt64 - (nI 0).toInt64) 0 := cq102
                        have h4 : (C i k).toInt64 - (0 : Int32).toInt64 = _ := h6.2 (Int64.not_lt.mpr ((lg_cmp_ge _ _).mp h5))
                        refine AW_L (by rw [nI_1 k, h4, lN_add, ← hq0]) ?_
                        exact ih _ (by omega) (k + 1) _ _ K rfl (by omega) h87 hfr)
                     | (have h5 : ¬ 0 ≤ lg_cmp ((C i k).toInt64 - (nI 0).toInt64) 0 := cq102
                        have h4 : -((C i k).toInt64 - (0 : Int32).toInt64) = _ := h6.1 (Int64.not_le.mp (fun q => h5 ((lg_cmp_ge _ _).mpr q)))
                        refine AW_L (by rw [nI_1 k, h4, lN_add, ← hq0]) ?_
                        exact ih _ (by omega) (k + 1) _ _ K rfl (by omega) h87 hfr))
          · skip
            refine A_lconst lc_0 dX8_offBy_94 ?_
            refine A_goto 113 rfl dX8_offBy_95 ?_
            refine A_ladd dX8_offBy_113 ?_
            refine A_lstore (by decide) rfl dX8_offBy_114 ?_
            refine A_iinc ic_1 rfl (by decide) rfl dX8_offBy_116 ?_
            refine A_goto 34 rfl dX8_offBy_119 ?_
            first
              | (have h8 : C i k = -1000000005 := cq91
                 have hv : lN (q_ap (q_wf N f) n (C i) k) + 0 = lN (q_ap (q_wf N f) n (C i) (k + 1)) := by rw [q_ap, if_pos h8, Nat.add_zero, show (0 : Int64) = lN 0 from rfl, lN_add, Nat.add_zero]
                 refine AW_L (by rw [nI_1 k, hv]) ?_
                 first | exact ih _ (by omega) (k + 1) _ _ K2 rfl (by omega) h872 hfr2 | exact ih _ (by omega) (k + 1) _ _ K rfl (by omega) h87 hfr)
              | (have h8 : ¬ C i k = -1000000005 := cq91
                 have hc := ((hW i hi).2.2 k (by omega)).resolve_left h8
                 have h7 : k < n := hkn
                 have h6 := abs_l hb hc
                 rw [eb] at cq102 ⊢
                 have hq0 : q_ap (q_wf N f) n (C i) (k + 1) = q_ap (q_wf N f) n (C i) k + ((b : Int) - (C i k).toInt).natAbs := by rw [q_ap, if_neg h8, if_pos h7, eb, nI_toInt (by omega)]
                 first
                   | (have h5 : 0 ≤ lg_cmp ((C i k).toInt64 - (nI b).toInt64) 0 := cq102
                      have h4 := h6.2 (Int64.not_lt.mpr ((lg_cmp_ge _ _).mp h5))
                      refine AW_L (by rw [nI_1 k, h4, lN_add, ← hq0]) ?_
                      exact ih _ (by omega) (k + 1) _ _ K2 rfl (by omega) h872 hfr2)
                   | (have h5 : ¬ 0 ≤ lg_cmp ((C i k).toInt64 - (nI b).toInt64) 0 := cq102
                      have h4 := h6.1 (Int64.not_le.mp (fun q => h5 ((lg_cmp_ge _ _).mpr q)))
                      refine AW_L (by rw [nI_1 k, h4, lN_add, ← hq0]) ?_
                      exact ih _ (by omega) (k + 1) _ _ K2 rfl (by omega) h872 hfr2))
              | (have h8 : ¬ C i k = -1000000005 := cq91
                 have hc := ((hW i hi).2.2 k (by omega)).resolve_left h8
                 have h7 : ¬ k < n := hkn
                 have h6 := abs_l (b := 0) (by decide) hc
                 have hq0 : q_ap (q_wf N f) n (C i) (k + 1) = q_ap (q_wf N f) n (C i) k + (((0 : Nat) : Int) - (C i k).toInt).natAbs := by rw [q_ap, if_neg h8, if_neg h7]; rfl
                 first
                   | (have h5 : 0 ≤ lg_cmp ((C i k).toInt64 - (nI 0).toInt64) 0 := cq102
                      have h4 : (C i k).toInt64 - (0 : Int32).toInt64 = _ := h6.2 (Int64.not_lt.mpr ((lg_cmp_ge _ _).mp h5))
                      refine AW_L (by rw [nI_1 k, h4, lN_add, ← hq0]) ?_
                      exact ih _ (by omega) (k + 1) _ _ K rfl (by omega) h87 hfr)
                   | (have h5 : ¬ 0 ≤ lg_cmp ((C i k).toInt64 - (nI 0).toInt64) 0 := cq102
                      have h4 : -((C i k).toInt64 - (0 : Int32).toInt64) = _ := h6.1 (Int64.not_le.mp (fun q => h5 ((lg_cmp_ge _ _).mpr q)))
                      refine AW_L (by rw [nI_1 k, h4, lN_add, ← hq0]) ?_
                      exact ih _ (by omega) (k + 1) _ _ K rfl (by omega) h87 hfr))
        · skip
          have hj0 := b2i_p.mp cq68
          rw [hNf] at hj0
          have hkn : k < n := (nI_ltI (by omega) (by omega)).mp hj0.2
          have hkj : k < 10 := by omega
          obtain ⟨b, hb, eb⟩ := bel_in hDf hkj
          refine A_aload_n rfl dX8_offBy_71 ?_
          refine A_iload rfl dX8_offBy_72 ?_
          refine A_callV (t_bel l G K _ h87 k hkj T hTf) m_X8_believesOf ml_X8_115 rfl lay_86 rfl (by decide) rfl rfl (Nat.le_of_ble_eq_true rfl) (by decide) (by decide) (by decide) dX8_offBy_74 (fun _ _ _ h => congrArg List.length h.2.1) ?_
          rintro _ _ K2 ⟨rfl, rfl, hf2⟩
          have hfr2 : ∀ q, q ≠ 97 → q ≠ 98 → q ≠ 87 → K2 q = I q := fun q a b c => (hf2 q a b).trans (hfr q a b c)
          have h872 : K2 87 = q_wf N f := (hf2 87 (by decide) (by decide)).trans h87
          refine A_goto 81 rfl dX8_offBy_77 ?_
          refine A_i2l dX8_offBy_81 ?_
          refine A_lsub dX8_offBy_82 ?_
          refine A_lstore (by decide) rfl dX8_offBy_83 ?_
          refine A_lload rfl dX8_offBy_85 ?_
          refine A_iload rfl dX8_offBy_87 ?_
          refine A_ldc kc_X8_79 rfl dX8_offBy_89 ?_
          refine A_icmp_ne 98 rfl dX8_offBy_91 (fun cq91 => ?_) (fun cq91 => ?_)
          · skip
            refine A_lload rfl dX8_offBy_98 ?_
            refine A_lconst lc_0 dX8_offBy_100 ?_
            refine A_lcmp dX8_offBy_101 ?_
            refine A_if_ge 111 rfl dX8_offBy_102 (fun cq102 => ?_) (fun cq102 => ?_)
            · skip
              refine A_lload rfl dX8_offBy_111 ?_
              refine A_ladd dX8_offBy_113 ?_
              refine A_lstore (by decide) rfl dX8_offBy_114 ?_
              refine A_iinc ic_1 rfl (by decide) rfl dX8_offBy_116 ?_
              refine A_goto 34 rfl dX8_offBy_119 ?_
              first
                | (have h8 : C i k = -1000000005 := cq91
                   have hv : lN (q_ap (q_wf N f) n (C i) k) + 0 = lN (q_ap (q_wf N f) n (C i) (k + 1)) := by rw [q_ap, if_pos h8, Nat.add_zero, show (0 : Int64) = lN 0 from rfl, lN_add, Nat.add_zero]
                   refine AW_L (by rw [nI_1 k, hv]) ?_
                   first | exact ih _ (by omega) (k + 1) _ _ K2 rfl (by omega) h872 hfr2 | exact ih _ (by omega) (k + 1) _ _ K rfl (by omega) h87 hfr)
                | (have h8 : ¬ C i k = -1000000005 := cq91
                   have hc := ((hW i hi).2.2 k (by omega)).resolve_left h8
                   have h7 : k < n := hkn
                   have h6 := abs_l hb hc
                   rw [eb] at cq102 ⊢
                   have hq0 : q_ap (q_wf N f) n (C i) (k + 1) = q_ap (q_wf N f) n (C i) k + ((b : Int) - (C i k).toInt).natAbs := by rw [q_ap, if_neg h8, if_pos h7, eb, nI_toInt (by omega)]
                   first
                     | (have h5 : 0 ≤ lg_cmp ((C i k).toInt64 - (nI b).toInt64) 0 := cq102
                        have h4 := h6.2 (Int64.not_lt.mpr ((lg_cmp_ge _ _).mp h5))
                        refine AW_L (by rw [nI_1 k, h4, lN_add, ← hq0]) ?_
                        exact ih _ (by omega) (k + 1) _ _ K2 rfl (by omega) h872 hfr2)
                     | (have h5 : ¬ 0 ≤ lg_cmp ((C i k).toInt64 - (nI b).toInt64) 0 := cq102
                        have h4 := h6.1 (Int64.not_le.mp (fun q => h5 ((lg_cmp_ge _ _).mpr q)))
                        refine AW_L (by rw [nI_1 k, h4, lN_add, ← hq0]) ?_
                        exact ih _ (by omega) (k + 1) _ _ K2 rfl (by omega) h872 hfr2))
                | (have h8 : ¬ C i k = -1000000005 := cq91
                   have hc := ((hW i hi).2.2 k (by omega)).resolve_left h8
                   have h7 : ¬ k < n := hkn
                   have h6 := abs_l (b := 0) (by decide) hc
                   have hq0 : q_ap (q_wf N f) n (C i) (k + 1) = q_ap (q_wf N f) n (C i) k + (((0 : Nat) : Int) - (C i k).toInt).natAbs := by rw [q_ap, if_neg h8, if_neg h7]; rfl
                   first
                     | (have h5 : 0 ≤ lg_cmp ((C i k).toInt64 - (nI 0).toInt64) 0 := cq102
                        have h4 : (C i k).toInt64 - (0 : Int32).toInt64 = _ := h6.2 (Int64.not_lt.mpr ((lg_cmp_ge _ _).mp h5))
                        refine AW_L (by rw [nI_1 k, h4, lN_add, ← hq0]) ?_
                        exact ih _ (by omega) (k + 1) _ _ K rfl (by omega) h87 hfr)
                     | (have h5 : ¬ 0 ≤ lg_cmp ((C i k).toInt64 - (nI 0).toInt64) 0 := cq102
                        have h4 : -((C i k).toInt64 - (0 : Int32).toInt64) = _ := h6.1 (Int64.not_le.mp (fun q => h5 ((lg_cmp_ge _ _).mpr q)))
                        refine AW_L (by rw [nI_1 k, h4, lN_add, ← hq0]) ?_
                        exact ih _ (by omega) (k + 1) _ _ K rfl (by omega) h87 hfr))
            · skip
              refine A_lload rfl dX8_offBy_105 ?_
              refine A_lneg dX8_offBy_107 ?_
              refine A_goto 113 rfl dX8_offBy_108 ?_
              refine A_ladd dX8_offBy_113 ?_
              refine A_lstore (by decide) rfl dX8_offBy_114 ?_
              refine A_iinc ic_1 rfl (by decide) rfl dX8_offBy_116 ?_
              refine A_goto 34 rfl dX8_offBy_119 ?_
              first
                | (have h8 : C i k = -1000000005 := cq91
                   have hv : lN (q_ap (q_wf N f) n (C i) k) + 0 = lN (q_ap (q_wf N f) n (C i) (k + 1)) := by rw [q_ap, if_pos h8, Nat.add_zero, show (0 : Int64) = lN 0 from rfl, lN_add, Nat.add_zero]
                   refine AW_L (by rw [nI_1 k, hv]) ?_
                   first | exact ih _ (by omega) (k + 1) _ _ K2 rfl (by omega) h872 hfr2 | exact ih _ (by omega) (k + 1) _ _ K rfl (by omega) h87 hfr)
                | (have h8 : ¬ C i k = -1000000005 := cq91
                   have hc := ((hW i hi).2.2 k (by omega)).resolve_left h8
                   have h7 : k < n := hkn
                   have h6 := abs_l hb hc
                   rw [eb] at cq102 ⊢
                   have hq0 : q_ap (q_wf N f) n (C i) (k + 1) = q_ap (q_wf N f) n (C i) k + ((b : Int) - (C i k).toInt).natAbs := by rw [q_ap, if_neg h8, if_pos h7, eb, nI_toInt (by omega)]
                   first
                     | (have h5 : 0 ≤ lg_cmp ((C i k).toInt64 - (nI b).toInt64) 0 := cq102
                        have h4 := h6.2 (Int64.not_lt.mpr ((lg_cmp_ge _ _).mp h5))
                        refine AW_L (by rw [nI_1 k, h4, lN_add, ← hq0]) ?_
                        exact ih _ (by omega) (k + 1) _ _ K2 rfl (by omega) h872 hfr2)
                     | (have h5 : ¬ 0 ≤ lg_cmp ((C i k).toInt64 - (nI b).toInt64) 0 := cq102
                        have h4 := h6.1 (Int64.not_le.mp (fun q => h5 ((lg_cmp_ge _ _).mpr q)))
                        refine AW_L (by rw [nI_1 k, h4, lN_add, ← hq0]) ?_
                        exact ih _ (by omega) (k + 1) _ _ K2 rfl (by omega) h872 hfr2))
                | (have h8 : ¬ C i k = -1000000005 := cq91
                   have hc := ((hW i hi).2.2 k (by omega)).resolve_left h8
                   have h7 : ¬ k < n := hkn
                   have h6 := abs_l (b := 0) (by decide) hc
                   have hq0 : q_ap (q_wf N f) n (C i) (k + 1) = q_ap (q_wf N f) n (C i) k + (((0 : Nat) : Int) - (C i k).toInt).natAbs := by rw [q_ap, if_neg h8, if_neg h7]; rfl
                   first
                     | (have h5 : 0 ≤ lg_cmp ((C i k).toInt64 - (nI 0).toInt64) 0 := cq102
                        have h4 : (C i k).toInt64 - (0 : Int32).toInt64 = _ := h6.2 (Int64.not_lt.mpr ((lg_cmp_ge _ _).mp h5))
                        refine AW_L (by rw [nI_1 k, h4, lN_add, ← hq0]) ?_
                        exact ih _ (by omega) (k + 1) _ _ K rfl (by omega) h87 hfr)
                     | (have h5 : ¬ 0 ≤ lg_cmp ((C i k).toInt64 - (nI 0).toInt64) 0 := cq102
                        have h4 : -((C i k).toInt64 - (0 : Int32).toInt64) = _ := h6.1 (Int64.not_le.mp (fun q => h5 ((lg_cmp_ge _ _).mpr q)))
                        refine AW_L (by rw [nI_1 k, h4, lN_add, ← hq0]) ?_
                        exact ih _ (by omega) (k + 1) _ _ K rfl (by omega) h87 hfr))
          · skip
            refine A_lconst lc_0 dX8_offBy_94 ?_
            refine A_goto 113 rfl dX8_offBy_95 ?_
            refine A_ladd dX8_offBy_113 ?_
            refine A_lstore (by decide) rfl dX8_offBy_114 ?_
            refine A_iinc ic_1 rfl (by decide) rfl dX8_offBy_116 ?_
            refine A_goto 34 rfl dX8_offBy_119 ?_
            first
              | (have h8 : C i k = -1000000005 := cq91
                 have hv : lN (q_ap (q_wf N f) n (C i) k) + 0 = lN (q_ap (q_wf N f) n (C i) (k + 1)) := by rw [q_ap, if_pos h8, Nat.add_zero, show (0 : Int64) = lN 0 from rfl, lN_add, Nat.add_zero]
                 refine AW_L (by rw [nI_1 k, hv]) ?_
                 first | exact ih _ (by omega) (k + 1) _ _ K2 rfl (by omega) h872 hfr2 | exact ih _ (by omega) (k + 1) _ _ K rfl (by omega) h87 hfr)
              | (have h8 : ¬ C i k = -1000000005 := cq91
                 have hc := ((hW i hi).2.2 k (by omega)).resolve_left h8
                 have h7 : k < n := hkn
                 have h6 := abs_l hb hc
                 rw [eb] at cq102 ⊢
                 have hq0 : q_ap (q_wf N f) n (C i) (k + 1) = q_ap (q_wf N f) n (C i) k + ((b : Int) - (C i k).toInt).natAbs := by rw [q_ap, if_neg h8, if_pos h7, eb, nI_toInt (by omega)]
                 first
                   | (have h5 : 0 ≤ lg_cmp ((C i k).toInt64 - (nI b).toInt64) 0 := cq102
                      have h4 := h6.2 (Int64.not_lt.mpr ((lg_cmp_ge _ _).mp h5))
                      refine AW_L (by rw [nI_1 k, h4, lN_add, ← hq0]) ?_
                      exact ih _ (by omega) (k + 1) _ _ K2 rfl (by omega) h872 hfr2)
                   | (have h5 : ¬ 0 ≤ lg_cmp ((C i k).toInt64 - (nI b).toInt64) 0 := cq102
                      have h4 := h6.1 (Int64.not_le.mp (fun q => h5 ((lg_cmp_ge _ _).mpr q)))
                      refine AW_L (by rw [nI_1 k, h4, lN_add, ← hq0]) ?_
                      exact ih _ (by omega) (k + 1) _ _ K2 rfl (by omega) h872 hfr2))
              | (have h8 : ¬ C i k = -1000000005 := cq91
                 have hc := ((hW i hi).2.2 k (by omega)).resolve_left h8
                 have h7 : ¬ k < n := hkn
                 have h6 := abs_l (b := 0) (by decide) hc
                 have hq0 : q_ap (q_wf N f) n (C i) (k + 1) = q_ap (q_wf N f) n (C i) k + (((0 : Nat) : Int) - (C i k).toInt).natAbs := by rw [q_ap, if_neg h8, if_neg h7]; rfl
                 first
                   | (have h5 : 0 ≤ lg_cmp ((C i k).toInt64 - (nI 0).toInt64) 0 := cq102
                      have h4 : (C i k).toInt64 - (0 : Int32).toInt64 = _ := h6.2 (Int64.not_lt.mpr ((lg_cmp_ge _ _).mp h5))
                      refine AW_L (by rw [nI_1 k, h4, lN_add, ← hq0]) ?_
                      exact ih _ (by omega) (k + 1) _ _ K rfl (by omega) h87 hfr)
                   | (have h5 : ¬ 0 ≤ lg_cmp ((C i k).toInt64 - (nI 0).toInt64) 0 := cq102
                      have h4 : -((C i k).toInt64 - (0 : Int32).toInt64) = _ := h6.1 (Int64.not_le.mp (fun q => h5 ((lg_cmp_ge _ _).mpr q)))
                      refine AW_L (by rw [nI_1 k, h4, lN_add, ← hq0]) ?_
                      exact ih _ (by omega) (k + 1) _ _ K rfl (by omega) h87 hfr))
  refine Meth.of (by decide +kernel) (by simp [Value.category]) (Nat.le_of_ble_eq_true rfl) ?_
  refine A_aload_n rfl dX8_offBy_0 ?_
  refine A_bipush bp_8 dX8_offBy_1 ?_
  refine A_iload_n rfl dX8_offBy_3 ?_
  refine A_iadd dX8_offBy_4 ?_
  rw [ix_8 f]
  refine A_aload_n rfl dX8_offBy_5 ?_
  refine A_getR fr_X8_9.g rfl lay_86 rfl dX8_offBy_6 ?_
  refine A_bipush bp_8 dX8_offBy_9 ?_
  refine A_iload_n rfl dX8_offBy_11 ?_
  refine A_iadd dX8_offBy_12 ?_
  refine A_iald (8 + f) (ix_8 f) lay_87 (by omega) (by decide) dX8_offBy_13 ?_
  rw [hRw]
  refine A_bipush bp_20 dX8_offBy_14 ?_
  refine A_iadd dX8_offBy_16 ?_
  refine A_bipush bp_m50 dX8_offBy_17 ?_
  refine A_bipush bp_50 dX8_offBy_19 ?_
  refine A_callS (s_withinM l G _ _ _ _ _) m_X8_within ml_X8_111 rfl rfl rfl (Nat.le_of_ble_eq_true rfl) (by decide) (by decide) (by decide) dX8_offBy_21 (fun _ _ _ h => congrArg List.length h.2.1) ?_
  rintro _ _ _ ⟨rfl, rfl, e9⟩
  refine AW_I e9 ?_
  clear e9
  rw [up_w (hWt f hf)]
  refine A_callV (t_becomes l G I N hRw (8 + f) (q_up (N (8 + f))) (by omega)) m_X8_becomes ml_X8_142 rfl lay_86 rfl (by decide) rfl rfl (Nat.le_of_ble_eq_true rfl) (by decide) (by decide) (by decide) dX8_offBy_24 (fun _ _ _ h => congrArg List.length h.2.1) ?_
  rintro _ _ _ ⟨rfl, rfl, e9⟩
  refine AW_I e9 ?_
  clear e9
  refine A_istore_n (by decide) rfl dX8_offBy_27 ?_
  refine A_lconst lc_0 dX8_offBy_28 ?_
  refine A_lstore (by decide) rfl dX8_offBy_29 ?_
  refine A_iconst ic_0 dX8_offBy_31 ?_
  refine A_istore (by decide) rfl dX8_offBy_32 ?_
  exact loop _ 0 none none _ rfl (by omega) setN_87 (fun q a b c => setN_ne c)
set_option maxHeartbeats 1000000 in
set_option maxRecDepth 100000 in
theorem m_weighed (l : Launch) (G : Gm) (I : Hp) (N : Nrow) (hRw : I 87 = N) (n : Nat) (hn : n ≤ 10) (hN : N 1 = nI n) (T : Nat) (hTx : TxJ N T) (hDo : DoJ N) (hWt : WtJ N) (S Z : Nrow) (C : Fn2) (hS : ShM I S Z C) (hW : ShW S Z C) (s w : Int32) : Meth l G yX8_weighed cX8_weighed 9 (some (FieldType.int)) 5 0 0 [.ref 86, .int s, .int w] LAY I (fun r lay1 I1 => r = some (.int (f_weighed S Z C N n s w)) ∧ lay1 = LAY ∧ ∀ q, q ≠ 97 → q ≠ 98 → I1 q = I q) := by
  have loop : ∀ (lpn : Nat) (i m g : Nat) (o7 : Option Value) (K : Hp), 7 - g = lpn → (s = nI i) → (i < 4) → (m ≤ 24) → (Z i = nI m) → (g ≤ 7) → (f_weighed S Z C N n s w = if w = 0 then nI (q_wz (q_wA N n (C i) m) 7).1 else nI (q_wz (q_wA N n (C i) m) 7).2) → (∀ q, q ≠ 97 → q ≠ 98 → K q = I q) → AW l G yX8_weighed cX8_weighed 9 (some (FieldType.int)) 5 0 0 (fun r lay1 I1 => r = some (.int (f_weighed S Z C N n s w)) ∧ lay1 = LAY ∧ ∀ q, q ≠ 97 → q ≠ 98 → I1 q = I q) 0 0 44 [some (.ref 86), some (.int (nI i)), some (.int w), some (.int (nI (q_wz (q_wA N n (C i) m) g).1)), some (.long (lN (q_wz (q_wA N n (C i) m) g).2)), none, some (.int (nI (g + 1))), o7, none] [] LAY K := by
    intro lpn
    induction lpn using Nat.strongRecOn with
    | _ lpn ih =>
      intro i m g o7 K hms hsi hi hm hz hg heg hfr
      subst hsi
      have hAl := wA_le hDo hn hm (hW i hi).2.2
      have hwl := wz_le hAl
      have hwg := (hwl g (by omega)).1
      have hS2 : ShM K S Z C := by unfold ShM; rw [hfr 99 (by decide) (by decide), hfr 100 (by decide) (by decide), hfr 101 (by decide) (by decide)]; exact hS
      have hK7 : K 87 = N := (hfr 87 (by decide) (by decide)).trans hRw
      refine A_iload rfl dX8_weighed_44 ?_
      refine A_bipush bp_8 dX8_weighed_46 ?_
      refine A_icmp_ge 98 rfl dX8_weighed_48 (fun cq48 => ?_) (fun cq48 => ?_)
      · skip
        have hg7 : g = 7 := by
          have hq1 := (le_nI (show (8 : Int32) = nI 8 from rfl) (rfl : nI (g + 1) = nI (g + 1)) (by omega) (by omega)).mp cq48
          omega
        subst hg7
        refine A_iload_n rfl dX8_weighed_98 ?_
        refine A_if_ne 106 rfl dX8_weighed_99 (fun cq99 => ?_) (fun cq99 => ?_)
        · skip
          refine A_lload rfl dX8_weighed_106 ?_
          refine A_l2i dX8_weighed_108 ?_
          refine A_iret rfl rfl rfl rfl dX8_weighed_109 ?_
          rw [heg]
          first
            | (have h7 : w = 0 := cq99; rw [if_pos h7]; exact ⟨rfl, rfl, hfr⟩)
            | (have h7 : ¬ w = 0 := cq99; rw [if_neg h7, lN_i]; exact ⟨rfl, rfl, hfr⟩)
        · skip
          refine A_iload_n rfl dX8_weighed_102 ?_
          refine A_goto 109 rfl dX8_weighed_103 ?_
          refine A_iret rfl rfl rfl rfl dX8_weighed_109 ?_
          rw [heg]
          first
            | (have h7 : w = 0 := cq99; rw [if_pos h7]; exact ⟨rfl, rfl, hfr⟩)
            | (have h7 : ¬ w = 0 := cq99; rw [if_neg h7, lN_i]; exact ⟨rfl, rfl, hfr⟩)
      · skip
        have hg7 : g < 7 := by
          have hq1 := mt (le_nI (show (8 : Int32) = nI 8 from rfl) (rfl : nI (g + 1) = nI (g + 1)) (by omega) (by omega)).mpr cq48
          omega
        refine A_aload_n rfl dX8_weighed_51 ?_
        refine A_iload_n rfl dX8_weighed_52 ?_
        refine A_iload rfl dX8_weighed_53 ?_
        refine A_callV (t_off l G K N hK7 n hn hN T hTx hDo hWt S Z C hS2 hW i m (g + 1) hi hm hz (by omega)) m_X8_offBy ml_X8_196 rfl lay_86 rfl (by decide) rfl rfl (Nat.le_of_ble_eq_true rfl) (by decide) (by decide) (by decide) dX8_weighed_55 (fun _ _ _ h => congrArg List.length h.2.1) ?_
        rintro _ _ K2 ⟨rfl, rfl, hf2⟩
        have hfr2 : ∀ q, q ≠ 97 → q ≠ 98 → K2 q = I q := fun q a b => (hf2 q a b).trans (hfr q a b)
        have hAg := hAl (g + 1) (by omega)
        refine A_lstore (by decide) rfl dX8_weighed_58 ?_
        refine A_lload rfl dX8_weighed_60 ?_
        refine A_lload rfl dX8_weighed_62 ?_
        refine A_lcmp dX8_weighed_64 ?_
        refine A_if_ge 73 rfl dX8_weighed_65 (fun cq65 => ?_) (fun cq65 => ?_)
        · skip
          refine A_iload_n rfl dX8_weighed_73 ?_
          refine A_istore_n (by decide) rfl dX8_weighed_74 ?_
          refine A_lload rfl dX8_weighed_75 ?_
          refine A_lload rfl dX8_weighed_77 ?_
          refine A_lcmp dX8_weighed_79 ?_
          refine A_if_ge 88 rfl dX8_weighed_80 (fun cq80 => ?_) (fun cq80 => ?_)
          · skip
            refine A_lload rfl dX8_weighed_88 ?_
            refine A_lstore (by decide) rfl dX8_weighed_90 ?_
            refine A_iinc ic_1 rfl (by decide) rfl dX8_weighed_92 ?_
            refine A_goto 44 rfl dX8_weighed_95 ?_
            have h65 : ∀ (hq : lN (q_wz (q_wA N n (C i) m) g).2 ≤ lN ((q_wA N n (C i) m) (g + 1))), q_wz (q_wA N n (C i) m) (g + 1) = q_wz (q_wA N n (C i) m) g := fun hq => by
              have h8 := (lN_le (by omega) (by omega)).mp hq
              rw [q_wz, if_neg (by omega)]
            have h66 : ∀ (hq : ¬ lN (q_wz (q_wA N n (C i) m) g).2 ≤ lN ((q_wA N n (C i) m) (g + 1))), q_wz (q_wA N n (C i) m) (g + 1) = (g + 1, (q_wA N n (C i) m) (g + 1)) := fun hq => by
              have h8 := mt (lN_le (by omega) (by omega)).mpr hq
              rw [q_wz, if_pos (by omega)]
            first
              | (have h7 : 0 ≤ lg_cmp (lN ((q_wA N n (C i) m) (g + 1))) (lN (q_wz (q_wA N n (C i) m) g).2) := cq65
                 have h6 : 0 ≤ lg_cmp (lN ((q_wA N n (C i) m) (g + 1))) (lN (q_wz (q_wA N n (C i) m) g).2) := cq80
                 have h5 := h65 ((lg_cmp_ge _ _).mp h7)
                 refine AW_L (by rw [nI_1 (g + 1), ← h5]) ?_
                 exact ih _ (by omega) i m (g + 1) _ K2 rfl rfl hi hm hz (by omega) heg hfr2)
              | (have h7 : ¬ 0 ≤ lg_cmp (lN ((q_wA N n (C i) m) (g + 1))) (lN (q_wz (q_wA N n (C i) m) g).2) := cq65
                 have h6 : ¬ 0 ≤ lg_cmp (lN ((q_wA N n (C i) m) (g + 1))) (lN (q_wz (q_wA N n (C i) m) g).2) := cq80
                 have h5 := h66 (fun q => h7 ((lg_cmp_ge _ _).mpr q))
                 have e1 : (q_wz (q_wA N n (C i) m) (g + 1)).1 = g + 1 := by rw [h5]
                 have e2 : (q_wz (q_wA N n (C i) m) (g + 1)).2 = (q_wA N n (C i) m) (g + 1) := by rw [h5]
                 have h9 := ih _ (by omega) i m (g + 1) (some (.long (lN ((q_wA N n (C i) m) (g + 1))))) K2 rfl rfl hi hm hz (by omega) heg hfr2
                 rw [e1, e2] at h9
                 refine AW_L (by rw [nI_1 (g + 1)]) ?_
                 exact h9)
              | (exact absurd cq65 cq80)
              | (exact absurd cq80 cq65)
          · skip
            refine A_lload rfl dX8_weighed_83 ?_
            refine A_goto 90 rfl dX8_weighed_85 ?_
            refine A_lstore (by decide) rfl dX8_weighed_90 ?_
            refine A_iinc ic_1 rfl (by decide) rfl dX8_weighed_92 ?_
            refine A_goto 44 rfl dX8_weighed_95 ?_
            have h65 : ∀ (hq : lN (q_wz (q_wA N n (C i) m) g).2 ≤ lN ((q_wA N n (C i) m) (g + 1))), q_wz (q_wA N n (C i) m) (g + 1) = q_wz (q_wA N n (C i) m) g := fun hq => by
              have h8 := (lN_le (by omega) (by omega)).mp hq
              rw [q_wz, if_neg (by omega)]
            have h66 : ∀ (hq : ¬ lN (q_wz (q_wA N n (C i) m) g).2 ≤ lN ((q_wA N n (C i) m) (g + 1))), q_wz (q_wA N n (C i) m) (g + 1) = (g + 1, (q_wA N n (C i) m) (g + 1)) := fun hq => by
              have h8 := mt (lN_le (by omega) (by omega)).mpr hq
              rw [q_wz, if_pos (by omega)]
            first
              | (have h7 : 0 ≤ lg_cmp (lN ((q_wA N n (C i) m) (g + 1))) (lN (q_wz (q_wA N n (C i) m) g).2) := cq65
                 have h6 : 0 ≤ lg_cmp (lN ((q_wA N n (C i) m) (g + 1))) (lN (q_wz (q_wA N n (C i) m) g).2) := cq80
                 have h5 := h65 ((lg_cmp_ge _ _).mp h7)
                 refine AW_L (by rw [nI_1 (g + 1), ← h5]) ?_
                 exact ih _ (by omega) i m (g + 1) _ K2 rfl rfl hi hm hz (by omega) heg hfr2)
              | (have h7 : ¬ 0 ≤ lg_cmp (lN ((q_wA N n (C i) m) (g + 1))) (lN (q_wz (q_wA N n (C i) m) g).2) := cq65
                 have h6 : ¬ 0 ≤ lg_cmp (lN ((q_wA N n (C i) m) (g + 1))) (lN (q_wz (q_wA N n (C i) m) g).2) := cq80
                 have h5 := h66 (fun q => h7 ((lg_cmp_ge _ _).mpr q))
                 have e1 : (q_wz (q_wA N n (C i) m) (g + 1)).1 = g + 1 := by rw [h5]
                 have e2 : (q_wz (q_wA N n (C i) m) (g + 1)).2 = (q_wA N n (C i) m) (g + 1) := by rw [h5]
                 have h9 := ih _ (by omega) i m (g + 1) (some (.long (lN ((q_wA N n (C i) m) (g + 1))))) K2 rfl rfl hi hm hz (by omega) heg hfr2
                 rw [e1, e2] at h9
                 refine AW_L (by rw [nI_1 (g + 1)]) ?_
                 exact h9)
              | (exact absurd cq65 cq80)
              | (exact absurd cq80 cq65)
        · skip
          refine A_iload rfl dX8_weighed_68 ?_
          refine A_goto 74 rfl dX8_weighed_70 ?_
          refine A_istore_n (by decide) rfl dX8_weighed_74 ?_
          refine A_lload rfl dX8_weighed_75 ?_
          refine A_lload rfl dX8_weighed_77 ?_
          refine A_lcmp dX8_weighed_79 ?_
          refine A_if_ge 88 rfl dX8_weighed_80 (fun cq80 => ?_) (fun cq80 => ?_)
          · skip
            refine A_lload rfl dX8_weighed_88 ?_
            refine A_lstore (by decide) rfl dX8_weighed_90 ?_
            refine A_iinc ic_1 rfl (by decide) rfl dX8_weighed_92 ?_
            refine A_goto 44 rfl dX8_weighed_95 ?_
            have h65 : ∀ (hq : lN (q_wz (q_wA N n (C i) m) g).2 ≤ lN ((q_wA N n (C i) m) (g + 1))), q_wz (q_wA N n (C i) m) (g + 1) = q_wz (q_wA N n (C i) m) g := fun hq => by
              have h8 := (lN_le (by omega) (by omega)).mp hq
              rw [q_wz, if_neg (by omega)]
            have h66 : ∀ (hq : ¬ lN (q_wz (q_wA N n (C i) m) g).2 ≤ lN ((q_wA N n (C i) m) (g + 1))), q_wz (q_wA N n (C i) m) (g + 1) = (g + 1, (q_wA N n (C i) m) (g + 1)) := fun hq => by
              have h8 := mt (lN_le (by omega) (by omega)).mpr hq
              rw [q_wz, if_pos (by omega)]
            first
              | (have h7 : 0 ≤ lg_cmp (lN ((q_wA N n (C i) m) (g + 1))) (lN (q_wz (q_wA N n (C i) m) g).2) := cq65
                 have h6 : 0 ≤ lg_cmp (lN ((q_wA N n (C i) m) (g + 1))) (lN (q_wz (q_wA N n (C i) m) g).2) := cq80
                 have h5 := h65 ((lg_cmp_ge _ _).mp h7)
                 refine AW_L (by rw [nI_1 (g + 1), ← h5]) ?_
                 exact ih _ (by omega) i m (g + 1) _ K2 rfl rfl hi hm hz (by omega) heg hfr2)
              | (have h7 : ¬ 0 ≤ lg_cmp (lN ((q_wA N n (C i) m) (g + 1))) (lN (q_wz (q_wA N n (C i) m) g).2) := cq65
                 have h6 : ¬ 0 ≤ lg_cmp (lN ((q_wA N n (C i) m) (g + 1))) (lN (q_wz (q_wA N n (C i) m) g).2) := cq80
                 have h5 := h66 (fun q => h7 ((lg_cmp_ge _ _).mpr q))
                 have e1 : (q_wz (q_wA N n (C i) m) (g + 1)).1 = g + 1 := by rw [h5]
                 have e2 : (q_wz (q_wA N n (C i) m) (g + 1)).2 = (q_wA N n (C i) m) (g + 1) := by rw [h5]
                 have h9 := ih _ (by omega) i m (g + 1) (some (.long (lN ((q_wA N n (C i) m) (g + 1))))) K2 rfl rfl hi hm hz (by omega) heg hfr2
                 rw [e1, e2] at h9
                 refine AW_L (by rw [nI_1 (g + 1)]) ?_
                 exact h9)
              | (exact absurd cq65 cq80)
              | (exact absurd cq80 cq65)
          · skip
            refine A_lload rfl dX8_weighed_83 ?_
            refine A_goto 90 rfl dX8_weighed_85 ?_
            refine A_lstore (by decide) rfl dX8_weighed_90 ?_
            refine A_iinc ic_1 rfl (by decide) rfl dX8_weighed_92 ?_
            refine A_goto 44 rfl dX8_weighed_95 ?_
            have h65 : ∀ (hq : lN (q_wz (q_wA N n (C i) m) g).2 ≤ lN ((q_wA N n (C i) m) (g + 1))), q_wz (q_wA N n (C i) m) (g + 1) = q_wz (q_wA N n (C i) m) g := fun hq => by
              have h8 := (lN_le (by omega) (by omega)).mp hq
              rw [q_wz, if_neg (by omega)]
            have h66 : ∀ (hq : ¬ lN (q_wz (q_wA N n (C i) m) g).2 ≤ lN ((q_wA N n (C i) m) (g + 1))), q_wz (q_wA N n (C i) m) (g + 1) = (g + 1, (q_wA N n (C i) m) (g + 1)) := fun hq => by
              have h8 := mt (lN_le (by omega) (by omega)).mpr hq
              rw [q_wz, if_pos (by omega)]
            first
              | (have h7 : 0 ≤ lg_cmp (lN ((q_wA N n (C i) m) (g + 1))) (lN (q_wz (q_wA N n (C i) m) g).2) := cq65
                 have h6 : 0 ≤ lg_cmp (lN ((q_wA N n (C i) m) (g + 1))) (lN (q_wz (q_wA N n (C i) m) g).2) := cq80
                 have h5 := h65 ((lg_cmp_ge _ _).mp h7)
                 refine AW_L (by rw [nI_1 (g + 1), ← h5]) ?_
                 exact ih _ (by omega) i m (g + 1) _ K2 rfl rfl hi hm hz (by omega) heg hfr2)
              | (have h7 : ¬ 0 ≤ lg_cmp (lN ((q_wA N n (C i) m) (g + 1))) (lN (q_wz (q_wA N n (C i) m) g).2) := cq65
                 have h6 : ¬ 0 ≤ lg_cmp (lN ((q_wA N n (C i) m) (g + 1))) (lN (q_wz (q_wA N n (C i) m) g).2) := cq80
                 have h5 := h66 (fun q => h7 ((lg_cmp_ge _ _).mpr q))
                 have e1 : (q_wz (q_wA N n (C i) m) (g + 1)).1 = g + 1 := by rw [h5]
                 have e2 : (q_wz (q_wA N n (C i) m) (g + 1)).2 = (q_wA N n (C i) m) (g + 1) := by rw [h5]
                 have h9 := ih _ (by omega) i m (g + 1) (some (.long (lN ((q_wA N n (C i) m) (g + 1))))) K2 rfl rfl hi hm hz (by omega) heg hfr2
                 rw [e1, e2] at h9
                 refine AW_L (by rw [nI_1 (g + 1)]) ?_
                 exact h9)
              | (exact absurd cq65 cq80)
              | (exact absurd cq80 cq65)
  refine Meth.of (by decide +kernel) (by simp [Value.category]) (Nat.le_of_ble_eq_true rfl) ?_
  refine A_iload_n rfl dX8_weighed_0 ?_
  refine A_callS (s_isSheetM l G _ _ _) m_X8_isSheet ml_X8_192 rfl rfl rfl (Nat.le_of_ble_eq_true rfl) (by decide) (by decide) (by decide) dX8_weighed_1 (fun _ _ _ h => congrArg List.length h.2.1) ?_
  rintro _ _ _ ⟨rfl, rfl, e9⟩
  refine AW_I e9 ?_
  clear e9
  refine A_if_eq 16 rfl dX8_weighed_4 (fun cq4 => ?_) (fun cq4 => ?_)
  · skip
    refine A_ldc kc_X8_88 rfl dX8_weighed_16 ?_
    refine A_iret rfl rfl rfl rfl dX8_weighed_18 ?_
    first
      | (have h7 := b2i_q.mp cq4; rw [f_weighed, if_neg (fun q => h7 q.1)]; exact ⟨rfl, rfl, fun _ _ _ => rfl⟩)
      | (have h7 := b2i_q.mp cq13; rw [f_weighed, if_neg (fun q => h7 q.2)]; exact ⟨rfl, rfl, fun _ _ _ => rfl⟩)
  · skip
    refine A_iload_n rfl dX8_weighed_7 ?_
    refine A_iconst ic_0 dX8_weighed_8 ?_
    refine A_iconst ic_1 dX8_weighed_9 ?_
    refine A_callS (s_in l G _ _ _ _ _) m_X8_in ml_X8_80 rfl rfl rfl (Nat.le_of_ble_eq_true rfl) (by decide) (by decide) (by decide) dX8_weighed_10 (fun _ _ _ h => congrArg List.length h.2.1) ?_
    rintro _ _ _ ⟨rfl, rfl, e9⟩
    refine AW_I e9 ?_
    clear e9
    refine A_if_ne 19 rfl dX8_weighed_13 (fun cq13 => ?_) (fun cq13 => ?_)
    · skip
      have hs0 := b2i_p.mp cq4
      obtain ⟨i, hi, rfl⟩ := in_get (a := 3) rfl hs0
      replace hi : i < 4 := by omega
      obtain ⟨m, hm, hz⟩ := (hW i hi).2.1
      have hw0 := b2i_p.mp cq13
      have eS : I 99 i = S i := (hS i hi).1
      have hSi := s_neg (hW i hi).1
      refine A_aload_n rfl dX8_weighed_19 ?_
      refine A_getR fr_X8_52.g rfl lay_86 rfl dX8_weighed_20 ?_
      refine A_iload_n rfl dX8_weighed_23 ?_
      refine A_iald i rfl lay_99 (by omega) (by decide) dX8_weighed_24 ?_
      rw [eS]
      refine A_if_ge 31 rfl dX8_weighed_25 (fun cq25 => ?_) (fun cq25 => ?_)
      · skip
        refine A_iconst ic_0 dX8_weighed_31 ?_
        refine A_istore_n (by decide) rfl dX8_weighed_32 ?_
        refine A_aload_n rfl dX8_weighed_33 ?_
        refine A_iload_n rfl dX8_weighed_34 ?_
        refine A_iconst ic_0 dX8_weighed_35 ?_
        refine A_callV (t_off l G I N hRw n hn hN T hTx hDo hWt S Z C hS hW i m 0 hi hm hz (by decide)) m_X8_offBy ml_X8_196 rfl lay_86 rfl (by decide) rfl rfl (Nat.le_of_ble_eq_true rfl) (by decide) (by decide) (by decide) dX8_weighed_36 (fun _ _ _ h => congrArg List.length h.2.1) ?_
        rintro _ _ K ⟨rfl, rfl, hfr⟩
        refine A_lstore (by decide) rfl dX8_weighed_39 ?_
        refine A_iconst ic_1 dX8_weighed_41 ?_
        refine A_istore (by decide) rfl dX8_weighed_42 ?_
        have hS1 : ¬ S i = -1 := fun q => absurd cq25 (by rw [q]; decide)
        exact loop _ i m 0 _ K rfl rfl hi hm hz (by omega) (by rw [f_weighed, if_pos ⟨hs0, hw0⟩, nI_clamp (by omega), if_neg hS1, hz, nI_clamp (by omega)]) hfr
      · skip
        refine A_ldc kc_X8_195 rfl dX8_weighed_28 ?_
        refine A_iret rfl rfl rfl rfl dX8_weighed_30 ?_
        have hS1 : S i = -1 := by
          rcases (hW i hi).1 with h9 | h9 | h9
          · exact h9
          · rw [h9] at cq25; exact absurd (by decide) cq25
          · rw [h9] at cq25; exact absurd (by decide) cq25
        rw [f_weighed, if_pos ⟨hs0, hw0⟩, nI_clamp (by omega), if_pos hS1]
        exact ⟨rfl, rfl, fun _ _ _ => rfl⟩
    · skip
      refine A_ldc kc_X8_88 rfl dX8_weighed_16 ?_
      refine A_iret rfl rfl rfl rfl dX8_weighed_18 ?_
      first
        | (have h7 := b2i_q.mp cq4; rw [f_weighed, if_neg (fun q => h7 q.1)]; exact ⟨rfl, rfl, fun _ _ _ => rfl⟩)
        | (have h7 := b2i_q.mp cq13; rw [f_weighed, if_neg (fun q => h7 q.2)]; exact ⟨rfl, rfl, fun _ _ _ => rfl⟩)
