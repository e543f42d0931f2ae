theorem ix_24 (i k : Nat) : (24 : Int32) * nI i + nI k = nI (24 * i + k) := by rw [show (24 : Int32) = nI 24 from rfl, pk_mul, nI_add]
theorem wm1 {w : Int32} (h : -1 ≤ w) (h2 : w < 0) : w = -1 := by
  simp only [Int32.lt_iff_toInt_lt, Int32.le_iff_toInt_le, ← Int32.toInt_inj, Int32.reduceToInt] at *
  omega
set_option maxHeartbeats 1000000 in
set_option maxRecDepth 100000 in
theorem m_sheet (l : Launch) (G : Gm) (I : Hp) (S Z : Nrow) (C : Fn2) (hS : ShM I S Z C) (s w x : Int32) : Meth l G yX8_sheet cX8_sheet 5 (some (FieldType.int)) 3 0 0 [.ref 86, .int s, .int w, .int x] LAY I (fun r lay1 I1 => r = some (.int (g_sheet s w x).1) ∧ lay1 = LAY ∧ (∀ q, (q ≠ 99 ∧ q ≠ 100 ∧ q ≠ 101) → I1 q = I q) ∧ ShM I1 (if (g_sheet s w x).2 then upd S s.toNatClampNeg w else S) (if (g_sheet s w x).2 then upd Z s.toNatClampNeg (z_sheet w x) else Z) (if (g_sheet s w x).2 then r_fill C s.toNatClampNeg 0 else C)) := by
  have loop : ∀ (lpn : Nat) (i k : Nat) (K : Hp), 24 - k = lpn → (s = nI i) → (i < 4) → (k ≤ 24) → (g_sheet s w x = (z_sheet w x, true)) → (∀ q, q ≠ 101 → K q = up2 (up2 I 99 i w) 100 i (z_sheet w x) q) → (∀ m, 24 * i ≤ m → m < 24 * i + k → K 101 m = 0) → (∀ m, m < 24 * i ∨ 24 * i + k ≤ m → K 101 m = I 101 m) → AW l G yX8_sheet cX8_sheet 5 (some (FieldType.int)) 3 0 0 (fun r lay1 I1 => r = some (.int (g_sheet s w x).1) ∧ lay1 = LAY ∧ (∀ q, (q ≠ 99 ∧ q ≠ 100 ∧ q ≠ 101) → I1 q = I q) ∧ ShM I1 (if (g_sheet s w x).2 then upd S s.toNatClampNeg w else S) (if (g_sheet s w x).2 then upd Z s.toNatClampNeg (z_sheet w x) else Z) (if (g_sheet s w x).2 then r_fill C s.toNatClampNeg 0 else C)) 0 0 66 [some (.ref 86), some (.int s), some (.int w), some (.int x), some (.int (nI k))] [] LAY K := by
    intro lpn
    induction lpn using Nat.strongRecOn with
    | _ lpn ih =>
      intro i k K hms hsi hi hk heg hKf hK0 hK1
      subst hsi
      refine A_iload rfl dX8_sheet_66 ?_
      refine A_bipush bp_24 dX8_sheet_68 ?_
      refine A_icmp_ge 92 rfl dX8_sheet_70 (fun cq70 => ?_) (fun cq70 => ?_)
      · skip
        have hkn : k = 24 := by
          have hq1 := (le_nI (show (24 : Int32) = nI 24 from rfl) (rfl : nI k = nI k) (by omega) (by omega)).mp cq70
          omega
        subst hkn
        refine A_aload_n rfl dX8_sheet_92 ?_
        refine A_getR fr_X8_55.g rfl lay_86 rfl dX8_sheet_93 ?_
        refine A_iload_n rfl dX8_sheet_96 ?_
        refine A_iald i rfl lay_100 (by omega) (by decide) dX8_sheet_97 ?_
        refine A_iret rfl rfl rfl rfl dX8_sheet_98 ?_
        have e100 : K 100 i = z_sheet w x := by rw [hKf 100 (by decide), up2_same]
        rw [heg, e100, if_pos rfl, if_pos rfl, if_pos rfl, nI_clamp (by omega)]
        refine ⟨rfl, rfl, fun q hq => by rw [hKf q hq.2.2, up2_ne hq.2.1, up2_ne hq.1], fun z hz => ?_⟩
        rw [hKf 99 (by decide), hKf 100 (by decide), up2_ne (show (99 : Nat) ≠ 100 by decide), up2_row, up2_row, up2_ne (show (100 : Nat) ≠ 99 by decide)]
        by_cases e : z = i
        · subst e
          refine ⟨by rw [upd_s, upd_s], by rw [upd_s, upd_s], fun m hm => ?_⟩
          rw [hK0 _ (by omega) (by omega), r_fill, if_pos rfl]
        · refine ⟨by rw [upd_n e, upd_n e]; exact (hS z hz).1, by rw [upd_n e, upd_n e]; exact (hS z hz).2.1, fun m hm => ?_⟩
          rw [hK1 _ (by omega), r_fill, if_neg e]
          exact (hS z hz).2.2 m hm
      · skip
        have hkn : k < 24 := by
          have hq1 := mt (le_nI (show (24 : Int32) = nI 24 from rfl) (rfl : nI k = nI k) (by omega) (by omega)).mpr cq70
          omega
        refine A_aload_n rfl dX8_sheet_73 ?_
        refine A_getR fr_X8_58.g rfl lay_86 rfl dX8_sheet_74 ?_
        refine A_bipush bp_24 dX8_sheet_77 ?_
        refine A_iload_n rfl dX8_sheet_79 ?_
        refine A_imul dX8_sheet_80 ?_
        refine A_iload rfl dX8_sheet_81 ?_
        refine A_iadd dX8_sheet_83 ?_
        refine A_iconst ic_0 dX8_sheet_84 ?_
        refine A_iast (24 * i + k) (ix_24 i k) lay_101 (by omega) (by decide) dX8_sheet_85 ?_
        refine A_iinc ic_1 rfl (by decide) rfl dX8_sheet_86 ?_
        refine A_goto 66 rfl dX8_sheet_89 ?_
        refine AW_L (by rw [nI_1 k]) ?_
        refine ih (24 - (k + 1)) (by omega) i (k + 1) _ rfl rfl hi (by omega) heg (fun q hq => by rw [up2_ne hq]; exact hKf q hq) (fun m h1 h2 => ?_) (fun m h1 => ?_)
        · by_cases hm : m = 24 * i + k
          · subst hm; rw [up2_same]
          · rw [up2_ni hm]; exact hK0 m h1 (by omega)
        · rw [up2_ni (by omega)]; exact hK1 m (by omega)
  refine Meth.of (by decide +kernel) (by simp [Value.category]) (Nat.le_of_ble_eq_true rfl) ?_
  refine A_iload_n rfl dX8_sheet_0 ?_
  refine A_callS (s_isSheetM l G _ _ _) m_X8_isSheet ml_X8_192 rfl rfl rfl (Nat.le_of_ble_eq_true rfl) (by decide) (by decide) (by decide) dX8_sheet_1 (fun _ _ _ h => congrArg List.length h.2.1) ?_
  rintro _ _ _ ⟨rfl, rfl, e9⟩
  refine AW_I e9 ?_
  clear e9
  refine A_if_eq 26 rfl dX8_sheet_4 (fun cq4 => ?_) (fun cq4 => ?_)
  · skip
    refine A_ldc kc_X8_88 rfl dX8_sheet_26 ?_
    refine A_iret rfl rfl rfl rfl dX8_sheet_28 ?_
    have eg : g_sheet s w x = (-1000000001, false) := by
      first
        | (have h7 := b2i_q.mp cq4; rw [g_sheet, if_neg h7])
        | (have h7 := b2i_q.mp cq13; rw [g_sheet, if_pos (b2i_p.mp cq4), if_neg h7])
        | (have h7 : 24 < x := Int32.not_le.mp cq23; rw [g_sheet, if_pos (b2i_p.mp cq4), if_pos (b2i_p.mp cq13), if_neg (fun h9 => cq17 (by rw [h9]; decide)), if_pos h7])
    rw [eg]
    exact ⟨rfl, rfl, fun _ _ => rfl, hS⟩
  · skip
    refine A_iload_n rfl dX8_sheet_7 ?_
    refine A_iconst ic_m1 dX8_sheet_8 ?_
    refine A_iconst ic_1 dX8_sheet_9 ?_
    refine A_callS (s_in l G _ _ _ _ _) m_X8_in ml_X8_80 rfl rfl rfl (Nat.le_of_ble_eq_true rfl) (by decide) (by decide) (by decide) dX8_sheet_10 (fun _ _ _ h => congrArg List.length h.2.1) ?_
    rintro _ _ _ ⟨rfl, rfl, e9⟩
    refine AW_I e9 ?_
    clear e9
    refine A_if_eq 26 rfl dX8_sheet_13 (fun cq13 => ?_) (fun cq13 => ?_)
    · skip
      refine A_ldc kc_X8_88 rfl dX8_sheet_26 ?_
      refine A_iret rfl rfl rfl rfl dX8_sheet_28 ?_
      have eg : g_sheet s w x = (-1000000001, false) := by
        first
          | (have h7 := b2i_q.mp cq4; rw [g_sheet, if_neg h7])
          | (have h7 := b2i_q.mp cq13; rw [g_sheet, if_pos (b2i_p.mp cq4), if_neg h7])
          | (have h7 : 24 < x := Int32.not_le.mp cq23; rw [g_sheet, if_pos (b2i_p.mp cq4), if_pos (b2i_p.mp cq13), if_neg (fun h9 => cq17 (by rw [h9]; decide)), if_pos h7])
      rw [eg]
      exact ⟨rfl, rfl, fun _ _ => rfl, hS⟩
    · skip
      refine A_iload_n rfl dX8_sheet_16 ?_
      refine A_if_lt 29 rfl dX8_sheet_17 (fun cq17 => ?_) (fun cq17 => ?_)
      · skip
        refine A_iload_n rfl dX8_sheet_29 ?_
        refine A_if_lt 41 rfl dX8_sheet_30 (fun cq30 => ?_) (fun cq30 => ?_)
        · skip
          obtain ⟨i, hi, rfl⟩ := in_get (a := 3) rfl (b2i_p.mp cq4)
          replace hi : i < 4 := by omega
          refine A_aload_n rfl dX8_sheet_41 ?_
          refine A_getR fr_X8_52.g rfl lay_86 rfl dX8_sheet_42 ?_
          refine A_iload_n rfl dX8_sheet_45 ?_
          refine A_iload_n rfl dX8_sheet_46 ?_
          refine A_iast i rfl lay_99 (by omega) (by decide) dX8_sheet_47 ?_
          refine A_aload_n rfl dX8_sheet_48 ?_
          refine A_getR fr_X8_55.g rfl lay_86 rfl dX8_sheet_49 ?_
          refine A_iload_n rfl dX8_sheet_52 ?_
          refine A_iload_n rfl dX8_sheet_53 ?_
          refine A_if_ge 61 rfl dX8_sheet_54 (fun cq54 => ?_) (fun cq54 => ?_)
          · skip
            refine A_iload_n rfl dX8_sheet_61 ?_
            refine A_iast i rfl lay_100 (by omega) (by decide) dX8_sheet_62 ?_
            refine A_iconst ic_0 dX8_sheet_63 ?_
            refine A_istore (by decide) rfl dX8_sheet_64 ?_
            first
              | (have h7 : w = -1 := wm1 (b2i_p.mp cq13).1 (Int32.not_le.mp cq54)
                 have ez : z_sheet w x = 0 := by rw [z_sheet, if_pos h7]
                 have eg : g_sheet (nI i) w x = (z_sheet w x, true) := by rw [ez, g_sheet, if_pos (b2i_p.mp cq4), if_pos (b2i_p.mp cq13), if_pos h7]
                 exact loop 24 i 0 _ rfl rfl hi (by omega) eg (fun _ _ => by rw [ez]) (fun m h1 h2 => absurd h2 (by omega)) (fun m _ => by rw [up2_ne (by decide), up2_ne (by decide)]))
              | (have h7 : ¬ w = -1 := (fun h9 => absurd cq54 (by rw [h9]; decide))
                 have h8 : ¬ 24 < x := by first | (have h6 : w < 0 := cq17; exact absurd cq54 (Int32.not_le.mpr h6)) | (have h6 : x ≤ 24 := cq23; exact Int32.not_lt.mpr h6)
                 have h9 : ¬ x < 0 := by first | (have h6 : w < 0 := cq30; exact absurd cq54 (Int32.not_le.mpr h6)) | (have h6 : 0 ≤ x := cq34; exact Int32.not_lt.mpr h6)
                 have ez : z_sheet w x = x := by rw [z_sheet, if_neg h7]
                 have eg : g_sheet (nI i) w x = (z_sheet w x, true) := by rw [ez, g_sheet, if_pos (b2i_p.mp cq4), if_pos (b2i_p.mp cq13), if_neg h7, if_neg h8, if_neg h9]
                 refine loop 24 i 0 _ rfl rfl hi (by omega) eg (fun _ _ => by rw [ez]) (fun m h1 h2 => absurd h2 (by omega)) (fun m _ => by rw [up2_ne (by decide), up2_ne (by decide)]))
          · skip
            refine A_iconst ic_0 dX8_sheet_57 ?_
            refine A_goto 62 rfl dX8_sheet_58 ?_
            refine A_iast i rfl lay_100 (by omega) (by decide) dX8_sheet_62 ?_
            refine A_iconst ic_0 dX8_sheet_63 ?_
            refine A_istore (by decide) rfl dX8_sheet_64 ?_
            first
              | (have h7 : w = -1 := wm1 (b2i_p.mp cq13).1 (Int32.not_le.mp cq54)
                 have ez : z_sheet w x = 0 := by rw [z_sheet, if_pos h7]
                 have eg : g_sheet (nI i) w x = (z_sheet w x, true) := by rw [ez, g_sheet, if_pos (b2i_p.mp cq4), if_pos (b2i_p.mp cq13), if_pos h7]
                 exact loop 24 i 0 _ rfl rfl hi (by omega) eg (fun _ _ => by rw [ez]) (fun m h1 h2 => absurd h2 (by omega)) (fun m _ => by rw [up2_ne (by decide), up2_ne (by decide)]))
              | (have h7 : ¬ w = -1 := (fun h9 => absurd cq54 (by rw [h9]; decide))
                 have h8 : ¬ 24 < x := by first | (have h6 : w < 0 := cq17; exact absurd cq54 (Int32.not_le.mpr h6)) | (have h6 : x ≤ 24 := cq23; exact Int32.not_lt.mpr h6)
                 have h9 : ¬ x < 0 := by first | (have h6 : w < 0 := cq30; exact absurd cq54 (Int32.not_le.mpr h6)) | (have h6 : 0 ≤ x := cq34; exact Int32.not_lt.mpr h6)
                 have ez : z_sheet w x = x := by rw [z_sheet, if_neg h7]
                 have eg : g_sheet (nI i) w x = (z_sheet w x, true) := by rw [ez, g_sheet, if_pos (b2i_p.mp cq4), if_pos (b2i_p.mp cq13), if_neg h7, if_neg h8, if_neg h9]
                 refine loop 24 i 0 _ rfl rfl hi (by omega) eg (fun _ _ => by rw [ez]) (fun m h1 h2 => absurd h2 (by omega)) (fun m _ => by rw [up2_ne (by decide), up2_ne (by decide)]))
        · skip
          refine A_iload_n rfl dX8_sheet_33 ?_
          refine A_if_ge 41 rfl dX8_sheet_34 (fun cq34 => ?_) (fun cq34 => ?_)
          · skip
            obtain ⟨i, hi, rfl⟩ := in_get (a := 3) rfl (b2i_p.mp cq4)
            replace hi : i < 4 := by omega
            refine A_aload_n rfl dX8_sheet_41 ?_
            refine A_getR fr_X8_52.g rfl lay_86 rfl dX8_sheet_42 ?_
            refine A_iload_n rfl dX8_sheet_45 ?_
            refine A_iload_n rfl dX8_sheet_46 ?_
            refine A_iast i rfl lay_99 (by omega) (by decide) dX8_sheet_47 ?_
            refine A_aload_n rfl dX8_sheet_48 ?_
            refine A_getR fr_X8_55.g rfl lay_86 rfl dX8_sheet_49 ?_
            refine A_iload_n rfl dX8_sheet_52 ?_
            refine A_iload_n rfl dX8_sheet_53 ?_
            refine A_if_ge 61 rfl dX8_sheet_54 (fun cq54 => ?_) (fun cq54 => ?_)
            · skip
              refine A_iload_n rfl dX8_sheet_61 ?_
              refine A_iast i rfl lay_100 (by omega) (by decide) dX8_sheet_62 ?_
              refine A_iconst ic_0 dX8_sheet_63 ?_
              refine A_istore (by decide) rfl dX8_sheet_64 ?_
              first
                | (have h7 : w = -1 := wm1 (b2i_p.mp cq13).1 (Int32.not_le.mp cq54)
                   have ez : z_sheet w x = 0 := by rw [z_sheet, if_pos h7]
                   have eg : g_sheet (nI i) w x = (z_sheet w x, true) := by rw [ez, g_sheet, if_pos (b2i_p.mp cq4), if_pos (b2i_p.mp cq13), if_pos h7]
                   exact loop 24 i 0 _ rfl rfl hi (by omega) eg (fun _ _ => by rw [ez]) (fun m h1 h2 => absurd h2 (by omega)) (fun m _ => by rw [up2_ne (by decide), up2_ne (by decide)]))
                | (have h7 : ¬ w = -1 := (fun h9 => absurd cq54 (by rw [h9]; decide))
                   have h8 : ¬ 24 < x := by first | (have h6 : w < 0 := cq17; exact absurd cq54 (Int32.not_le.mpr h6)) | (have h6 : x ≤ 24 := cq23; exact Int32.not_lt.mpr h6)
                   have h9 : ¬ x < 0 := by first | (have h6 : w < 0 := cq30; exact absurd cq54 (Int32.not_le.mpr h6)) | (have h6 : 0 ≤ x := cq34; exact Int32.not_lt.mpr h6)
                   have ez : z_sheet w x = x := by rw [z_sheet, if_neg h7]
                   have eg : g_sheet (nI i) w x = (z_sheet w x, true) := by rw [ez, g_sheet, if_pos (b2i_p.mp cq4), if_pos (b2i_p.mp cq13), if_neg h7, if_neg h8, if_neg h9]
                   refine loop 24 i 0 _ rfl rfl hi (by omega) eg (fun _ _ => by rw [ez]) (fun m h1 h2 => absurd h2 (by omega)) (fun m _ => by rw [up2_ne (by decide), up2_ne (by decide)]))
            · skip
              refine A_iconst ic_0 dX8_sheet_57 ?_
              refine A_goto 62 rfl dX8_sheet_58 ?_
              refine A_iast i rfl lay_100 (by omega) (by decide) dX8_sheet_62 ?_
              refine A_iconst ic_0 dX8_sheet_63 ?_
              refine A_istore (by decide) rfl dX8_sheet_64 ?_
              first
                | (have h7 : w = -1 := wm1 (b2i_p.mp cq13).1 (Int32.not_le.mp cq54)
                   have ez : z_sheet w x = 0 := by rw [z_sheet, if_pos h7]
                   have eg : g_sheet (nI i) w x = (z_sheet w x, true) := by rw [ez, g_sheet, if_pos (b2i_p.mp cq4), if_pos (b2i_p.mp cq13), if_pos h7]
                   exact loop 24 i 0 _ rfl rfl hi (by omega) eg (fun _ _ => by rw [ez]) (fun m h1 h2 => absurd h2 (by omega)) (fun m _ => by rw [up2_ne (by decide), up2_ne (by decide)]))
                | (have h7 : ¬ w = -1 := (fun h9 => absurd cq54 (by rw [h9]; decide))
                   have h8 : ¬ 24 < x := by first | (have h6 : w < 0 := cq17; exact absurd cq54 (Int32.not_le.mpr h6)) | (have h6 : x ≤ 24 := cq23; exact Int32.not_lt.mpr h6)
                   have h9 : ¬ x < 0 := by first | (have h6 : w < 0 := cq30; exact absurd cq54 (Int32.not_le.mpr h6)) | (have h6 : 0 ≤ x := cq34; exact Int32.not_lt.mpr h6)
                   have ez : z_sheet w x = x := by rw [z_sheet, if_neg h7]
                   have eg : g_sheet (nI i) w x = (z_sheet w x, true) := by rw [ez, g_sheet, if_pos (b2i_p.mp cq4), if_pos (b2i_p.mp cq13), if_neg h7, if_neg h8, if_neg h9]
                   refine loop 24 i 0 _ rfl rfl hi (by omega) eg (fun _ _ => by rw [ez]) (fun m h1 h2 => absurd h2 (by omega)) (fun m _ => by rw [up2_ne (by decide), up2_ne (by decide)]))
          · skip
            refine A_ldcw kc_X8_268 rfl dX8_sheet_37 ?_
            refine A_iret rfl rfl rfl rfl dX8_sheet_40 ?_
            have eg : g_sheet s w x = (-1000000014, false) := by
              have h7 : ¬ w = -1 := fun h9 => cq30 (by rw [h9]; decide)
              have h8 : x < 0 := Int32.not_le.mp cq34
              have h9 : ¬ 24 < x := fun q => absurd (Int32.lt_trans q h8) (by decide)
              rw [g_sheet, if_pos (b2i_p.mp cq4), if_pos (b2i_p.mp cq13), if_neg h7, if_neg h9, if_pos h8]
            rw [eg]
            exact ⟨rfl, rfl, fun _ _ => rfl, hS⟩
      · skip
        refine A_iload_n rfl dX8_sheet_20 ?_
        refine A_bipush bp_24 dX8_sheet_21 ?_
        refine A_icmp_le 29 rfl dX8_sheet_23 (fun cq23 => ?_) (fun cq23 => ?_)
        · skip
          refine A_iload_n rfl dX8_sheet_29 ?_
          refine A_if_lt 41 rfl dX8_sheet_30 (fun cq30 => ?_) (fun cq30 => ?_)
          · skip
            obtain ⟨i, hi, rfl⟩ := in_get (a := 3) rfl (b2i_p.mp cq4)
            replace hi : i < 4 := by omega
            refine A_aload_n rfl dX8_sheet_41 ?_
            refine A_getR fr_X8_52.g rfl lay_86 rfl dX8_sheet_42 ?_
            refine A_iload_n rfl dX8_sheet_45 ?_
            refine A_iload_n rfl dX8_sheet_46 ?_
            refine A_iast i rfl lay_99 (by omega) (by decide) dX8_sheet_47 ?_
            refine A_aload_n rfl dX8_sheet_48 ?_
            refine A_getR fr_X8_55.g rfl lay_86 rfl dX8_sheet_49 ?_
            refine A_iload_n rfl dX8_sheet_52 ?_
            refine A_iload_n rfl dX8_sheet_53 ?_
            refine A_if_ge 61 rfl dX8_sheet_54 (fun cq54 => ?_) (fun cq54 => ?_)
            · skip
              refine A_iload_n rfl dX8_sheet_61 ?_
              refine A_iast i rfl lay_100 (by omega) (by decide) dX8_sheet_62 ?_
              refine A_iconst ic_0 dX8_sheet_63 ?_
              refine A_istore (by decide) rfl dX8_sheet_64 ?_
              first
                | (have h7 : w = -1 := wm1 (b2i_p.mp cq13).1 (Int32.not_le.mp cq54)
                   have ez : z_sheet w x = 0 := by rw [z_sheet, if_pos h7]
                   have eg : g_sheet (nI i) w x = (z_sheet w x, true) := by rw [ez, g_sheet, if_pos (b2i_p.mp cq4), if_pos (b2i_p.mp cq13), if_pos h7]
                   exact loop 24 i 0 _ rfl rfl hi (by omega) eg (fun _ _ => by rw [ez]) (fun m h1 h2 => absurd h2 (by omega)) (fun m _ => by rw [up2_ne (by decide), up2_ne (by decide)]))
                | (have h7 : ¬ w = -1 := (fun h9 => absurd cq54 (by rw [h9]; decide))
                   have h8 : ¬ 24 < x := by first | (have h6 : w < 0 := cq17; exact absurd cq54 (Int32.not_le.mpr h6)) | (have h6 : x ≤ 24 := cq23; exact Int32.not_lt.mpr h6)
                   have h9 : ¬ x < 0 := by first | (have h6 : w < 0 := cq30; exact absurd cq54 (Int32.not_le.mpr h6)) | (have h6 : 0 ≤ x := cq34; exact Int32.not_lt.mpr h6)
                   have ez : z_sheet w x = x := by rw [z_sheet, if_neg h7]
                   have eg : g_sheet (nI i) w x = (z_sheet w x, true) := by rw [ez, g_sheet, if_pos (b2i_p.mp cq4), if_pos (b2i_p.mp cq13), if_neg h7, if_neg h8, if_neg h9]
                   refine loop 24 i 0 _ rfl rfl hi (by omega) eg (fun _ _ => by rw [ez]) (fun m h1 h2 => absurd h2 (by omega)) (fun m _ => by rw [up2_ne (by decide), up2_ne (by decide)]))
            · skip
              refine A_iconst ic_0 dX8_sheet_57 ?_
              refine A_goto 62 rfl dX8_sheet_58 ?_
              refine A_iast i rfl lay_100 (by omega) (by decide) dX8_sheet_62 ?_
              refine A_iconst ic_0 dX8_sheet_63 ?_
              refine A_istore (by decide) rfl dX8_sheet_64 ?_
              first
                | (have h7 : w = -1 := wm1 (b2i_p.mp cq13).1 (Int32.not_le.mp cq54)
                   have ez : z_sheet w x = 0 := by rw [z_sheet, if_pos h7]
                   have eg : g_sheet (nI i) w x = (z_sheet w x, true) := by rw [ez, g_sheet, if_pos (b2i_p.mp cq4), if_pos (b2i_p.mp cq13), if_pos h7]
                   exact loop 24 i 0 _ rfl rfl hi (by omega) eg (fun _ _ => by rw [ez]) (fun m h1 h2 => absurd h2 (by omega)) (fun m _ => by rw [up2_ne (by decide), up2_ne (by decide)]))
                | (have h7 : ¬ w = -1 := (fun h9 => absurd cq54 (by rw [h9]; decide))
                   have h8 : ¬ 24 < x := by first | (have h6 : w < 0 := cq17; exact absurd cq54 (Int32.not_le.mpr h6)) | (have h6 : x ≤ 24 := cq23; exact Int32.not_lt.mpr h6)
                   have h9 : ¬ x < 0 := by first | (have h6 : w < 0 := cq30; exact absurd cq54 (Int32.not_le.mpr h6)) | (have h6 : 0 ≤ x := cq34; exact Int32.not_lt.mpr h6)
                   have ez : z_sheet w x = x := by rw [z_sheet, if_neg h7]
                   have eg : g_sheet (nI i) w x = (z_sheet w x, true) := by rw [ez, g_sheet, if_pos (b2i_p.mp cq4), if_pos (b2i_p.mp cq13), if_neg h7, if_neg h8, if_neg h9]
                   refine loop 24 i 0 _ rfl rfl hi (by omega) eg (fun _ _ => by rw [ez]) (fun m h1 h2 => absurd h2 (by omega)) (fun m _ => by rw [up2_ne (by decide), up2_ne (by decide)]))
          · skip
            refine A_iload_n rfl dX8_sheet_33 ?_
            refine A_if_ge 41 rfl dX8_sheet_34 (fun cq34 => ?_) (fun cq34 => ?_)
            · skip
              obtain ⟨i, hi, rfl⟩ := in_get (a := 3) rfl (b2i_p.mp cq4)
              replace hi : i < 4 := by omega
              refine A_aload_n rfl dX8_sheet_41 ?_
              refine A_getR fr_X8_52.g rfl lay_86 rfl dX8_sheet_42 ?_
              refine A_iload_n rfl dX8_sheet_45 ?_
              refine A_iload_n rfl dX8_sheet_46 ?_
              refine A_iast i rfl lay_99 (by omega) (by decide) dX8_sheet_47 ?_
              refine A_aload_n rfl dX8_sheet_48 ?_
              refine A_getR fr_X8_55.g rfl lay_86 rfl dX8_sheet_49 ?_
              refine A_iload_n rfl dX8_sheet_52 ?_
              refine A_iload_n rfl dX8_sheet_53 ?_
              refine A_if_ge 61 rfl dX8_sheet_54 (fun cq54 => ?_) (fun cq54 => ?_)
              · skip
                refine A_iload_n rfl dX8_sheet_61 ?_
                refine A_iast i rfl lay_100 (by omega) (by decide) dX8_sheet_62 ?_
                refine A_iconst ic_0 dX8_sheet_63 ?_
                refine A_istore (by decide) rfl dX8_sheet_64 ?_
                first
                  | (have h7 : w = -1 := wm1 (b2i_p.mp cq13).1 (Int32.not_le.mp cq54)
                     have ez : z_sheet w x = 0 := by rw [z_sheet, if_pos h7]
                     have eg : g_sheet (nI i) w x = (z_sheet w x, true) := by rw [ez, g_sheet, if_pos (b2i_p.mp cq4), if_pos (b2i_p.mp cq13), if_pos h7]
                     exact loop 24 i 0 _ rfl rfl hi (by omega) eg (fun _ _ => by rw [ez]) (fun m h1 h2 => absurd h2 (by omega)) (fun m _ => by rw [up2_ne (by decide), up2_ne (by decide)]))
                  | (have h7 : ¬ w = -1 := (fun h9 => absurd cq54 (by rw [h9]; decide))
                     have h8 : ¬ 24 < x := by first | (have h6 : w < 0 := cq17; exact absurd cq54 (Int32.not_le.mpr h6)) | (have h6 : x ≤ 24 := cq23; exact Int32.not_lt.mpr h6)
                     have h9 : ¬ x < 0 := by first | (have h6 : w < 0 := cq30; exact absurd cq54 (Int32.not_le.mpr h6)) | (have h6 : 0 ≤ x := cq34; exact Int32.not_lt.mpr h6)
                     have ez : z_sheet w x = x := by rw [z_sheet, if_neg h7]
                     have eg : g_sheet (nI i) w x = (z_sheet w x, true) := by rw [ez, g_sheet, if_pos (b2i_p.mp cq4), if_pos (b2i_p.mp cq13), if_neg h7, if_neg h8, if_neg h9]
                     refine loop 24 i 0 _ rfl rfl hi (by omega) eg (fun _ _ => by rw [ez]) (fun m h1 h2 => absurd h2 (by omega)) (fun m _ => by rw [up2_ne (by decide), up2_ne (by decide)]))
              · skip
                refine A_iconst ic_0 dX8_sheet_57 ?_
                refine A_goto 62 rfl dX8_sheet_58 ?_
                refine A_iast i rfl lay_100 (by omega) (by decide) dX8_sheet_62 ?_
                refine A_iconst ic_0 dX8_sheet_63 ?_
                refine A_istore (by decide) rfl dX8_sheet_64 ?_
                first
                  | (have h7 : w = -1 := wm1 (b2i_p.mp cq13).1 (Int32.not_le.mp cq54)
                     have ez : z_sheet w x = 0 := by rw [z_sheet, if_pos h7]
                     have eg : g_sheet (nI i) w x = (z_sheet w x, true) := by rw [ez, g_sheet, if_pos (b2i_p.mp cq4), if_pos (b2i_p.mp cq13), if_pos h7]
                     exact loop 24 i 0 _ rfl rfl hi (by omega) eg (fun _ _ => by rw [ez]) (fun m h1 h2 => absurd h2 (by omega)) (fun m _ => by rw [up2_ne (by decide), up2_ne (by decide)]))
                  | (have h7 : ¬ w = -1 := (fun h9 => absurd cq54 (by rw [h9]; decide))
                     have h8 : ¬ 24 < x := by first | (have h6 : w < 0 := cq17; exact absurd cq54 (Int32.not_le.mpr h6)) | (have h6 : x ≤ 24 := cq23; exact Int32.not_lt.mpr h6)
                     have h9 : ¬ x < 0 := by first | (have h6 : w < 0 := cq30; exact absurd cq54 (Int32.not_le.mpr h6)) | (have h6 : 0 ≤ x := cq34; exact Int32.not_lt.mpr h6)
                     have ez : z_sheet w x = x := by rw [z_sheet, if_neg h7]
                     have eg : g_sheet (nI i) w x = (z_sheet w x, true) := by rw [ez, g_sheet, if_pos (b2i_p.mp cq4), if_pos (b2i_p.mp cq13), if_neg h7, if_neg h8, if_neg h9]
                     refine loop 24 i 0 _ rfl rfl hi (by omega) eg (fun _ _ => by rw [ez]) (fun m h1 h2 => absurd h2 (by omega)) (fun m _ => by rw [up2_ne (by decide), up2_ne (by decide)]))
            · skip
              refine A_ldcw kc_X8_268 rfl dX8_sheet_37 ?_
              refine A_iret rfl rfl rfl rfl dX8_sheet_40 ?_
              have eg : g_sheet s w x = (-1000000014, false) := by
                have h7 : ¬ w = -1 := fun h9 => cq30 (by rw [h9]; decide)
                have h8 : x < 0 := Int32.not_le.mp cq34
                have h9 : ¬ 24 < x := fun q => absurd (Int32.lt_trans q h8) (by decide)
                rw [g_sheet, if_pos (b2i_p.mp cq4), if_pos (b2i_p.mp cq13), if_neg h7, if_neg h9, if_pos h8]
              rw [eg]
              exact ⟨rfl, rfl, fun _ _ => rfl, hS⟩
        · skip
          refine A_ldc kc_X8_88 rfl dX8_sheet_26 ?_
          refine A_iret rfl rfl rfl rfl dX8_sheet_28 ?_
          have eg : g_sheet s w x = (-1000000001, false) := by
            first
              | (have h7 := b2i_q.mp cq4; rw [g_sheet, if_neg h7])
              | (have h7 := b2i_q.mp cq13; rw [g_sheet, if_pos (b2i_p.mp cq4), if_neg h7])
              | (have h7 : 24 < x := Int32.not_le.mp cq23; rw [g_sheet, if_pos (b2i_p.mp cq4), if_pos (b2i_p.mp cq13), if_neg (fun h9 => cq17 (by rw [h9]; decide)), if_pos h7])
          rw [eg]
          exact ⟨rfl, rfl, fun _ _ => rfl, hS⟩
def g_mark (S Z : Nrow) (s k x : Int32) : Int32 × Bool := if 0 ≤ s ∧ s ≤ 3 then (if S s.toNatClampNeg = -1 then (-1000000011, false) else if 0 ≤ k ∧ k < Z s.toNatClampNeg then (if S s.toNatClampNeg = 0 then (if x = -1000000005 then (-1000000012, false) else (1, true)) else if x = -1000000005 then (1, true) else if -99999 ≤ x ∧ x ≤ 99999 then (1, true) else (-1000000001, false)) else (-1000000013, false)) else (-1000000001, false)
def v_mark (S : Nrow) (s x : Int32) : Int32 := if S s.toNatClampNeg = 0 then x.toInt16.toInt32 else x
def r_put (C : Fn2) (i j : Nat) (v : Int32) : Fn2 := fun q k => if q = i ∧ k = j then v else C q k
theorem ShC.put {I : Hp} {S Z : Nrow} {C : Fn2} {i j : Nat} {v : Int32} (h : ShC I S Z C) (hi : i < 4) : ShC (up2 I (61 + 2 * i + 1) j v) S Z (r_put C i j v) := by
  intro s hs
  refine ⟨by rw [up2_ne (by omega)]; exact (h s hs).1, by rw [up2_ne (by omega)]; exact (h s hs).2.1, fun k hk => ?_⟩
  unfold r_put
  by_cases e : s = i
  · subst e
    by_cases e2 : k = j
    · subst e2; rw [up2_same, if_pos ⟨rfl, rfl⟩]
    · rw [up2_ni e2, if_neg (fun q => e2 q.2)]; exact (h s hs).2.2 k hk
  · rw [up2_ne (by omega), if_neg (fun q => e q.1)]; exact (h s hs).2.2 k hk
theorem ShM.put {I : Hp} {S Z : Nrow} {C : Fn2} {i j : Nat} {v : Int32} (h : ShM I S Z C) (hi : i < 4) (hj : j < 24) : ShM (up2 I 101 (24 * i + j) v) S Z (r_put C i j v) := by
  intro s hs
  refine ⟨by rw [up2_ne (by decide)]; exact (h s hs).1, by rw [up2_ne (by decide)]; exact (h s hs).2.1, fun k hk => ?_⟩
  unfold r_put
  by_cases e : s = i ∧ k = j
  · obtain ⟨e1, e2⟩ := e
    subst e1; subst e2
    rw [up2_same, if_pos ⟨rfl, rfl⟩]
  · rw [up2_ni (by omega), if_neg e]; exact (h s hs).2.2 k hk
theorem pl_get {m : Nat} (hm : m ≤ 24) {x v : Int32} (hx : x = nI m) (h : 0 ≤ v ∧ v < x) : ∃ i, i < m ∧ v = nI i := by
  subst hx
  obtain ⟨i, hi1, hi2⟩ := nI_of (Int32.not_lt.mpr h.1)
  subst hi2
  exact ⟨i, (nI_ltI hi1 (by omega)).mp h.2, rfl⟩
theorem le_pred {m : Nat} (hm : m ≤ 24) {x v : Int32} (hx : x = nI m) : (0 ≤ v ∧ v ≤ x - 1) ↔ (0 ≤ v ∧ v < x) := by
  subst hx
  constructor
  · rintro ⟨h1, h2⟩
    refine ⟨h1, ?_⟩
    obtain ⟨i, hi1, rfl⟩ := nI_of (Int32.not_lt.mpr h1)
    rcases (show m = 0 ∨ 0 < m by omega) with rfl | h0
    · exact absurd (Int32.lt_of_le_of_lt h2 (by decide)) (nI_pos hi1)
    · obtain ⟨p, rfl⟩ : ∃ p, m = p + 1 := ⟨m - 1, by omega⟩
      rw [nI_pred] at h2
      exact (nI_ltI hi1 (by omega)).mpr (by have := (nI_leI hi1 (by omega)).mp h2; omega)
  · rintro ⟨h1, h2⟩
    refine ⟨h1, ?_⟩
    obtain ⟨i, hi1, rfl⟩ := nI_of (Int32.not_lt.mpr h1)
    have h3 := (nI_ltI hi1 (by omega)).mp h2
    obtain ⟨p, rfl⟩ : ∃ p, m = p + 1 := ⟨m - 1, by omega⟩
    rw [nI_pred]
    exact (nI_leI hi1 (by omega)).mpr (by omega)
set_option maxHeartbeats 1000000 in
set_option maxRecDepth 100000 in
theorem c_mark (l : Launch) (G : Gm) (I : Hp) (S Z : Nrow) (C : Fn2) (hS : ShC I S Z C) (hW : ShW S Z C) (s k x : Int32) : Meth l G yX7_mark cX7_mark 5 (some (FieldType.int)) 3 0 0 [.ref 0, .int s, .int k, .int x] LAY I (fun r lay1 I1 => r = some (.int (g_mark S Z s k x).1) ∧ lay1 = LAY ∧ (∀ q, (q < 61 ∨ 69 ≤ q) → I1 q = I q) ∧ ShC I1 S Z (if (g_mark S Z s k x).2 then r_put C s.toNatClampNeg k.toNatClampNeg (v_mark S s x) else C)) := by
  refine Meth.of (by decide +kernel) (by simp [Value.category]) (Nat.le_of_ble_eq_true rfl) ?_
  refine A_iload_n rfl dX7_mark_0 ?_
  refine A_callS (s_isSheet l G _ _ _) m_X7_isSheet ml_X7_186 rfl rfl rfl (Nat.le_of_ble_eq_true rfl) (by decide) (by decide) (by decide) dX7_mark_1 (fun _ _ _ h => congrArg List.length h.2.1) ?_
  rintro _ _ _ ⟨rfl, rfl, e9⟩
  refine AW_I e9 ?_
  clear e9
  refine A_if_ne 10 rfl dX7_mark_4 (fun cq4 => ?_) (fun cq4 => ?_)
  · skip
    have hs0 := b2i_p.mp cq4
    obtain ⟨i, hi, rfl⟩ := in_get (a := 3) rfl hs0
    replace hi : i < 4 := by omega
    obtain ⟨m, hm, hz⟩ := (hW i hi).2.1
    have eS : I (61 + 2 * i) 0 = S i := (hS i hi).1
    have eZ : I (61 + 2 * i) 1 = Z i := (hS i hi).2.1
    refine A_aload_n rfl dX7_mark_10 ?_
    refine A_getR fr_X7_40.g rfl lay_0 rfl dX7_mark_11 ?_
    refine A_iload_n rfl dX7_mark_14 ?_
    refine A_aald i rfl lay_60 (Or.inr (Or.inl rfl)) (by omega) (by decide) (sh_at i hi) dX7_mark_15 ?_
    refine A_astore (by decide) rfl dX7_mark_16 ?_
    refine A_aload rfl dX7_mark_18 ?_
    refine A_getI fr_X7_189.g rfl (lr (isR_s hi)) dX7_mark_20 ?_
    refine A_iconst ic_m1 dX7_mark_23 ?_
    refine A_icmp_ne 30 rfl dX7_mark_24 (fun cq24 => ?_) (fun cq24 => ?_)
    · skip
      refine A_aload rfl dX7_mark_30 ?_
      refine A_iload_n rfl dX7_mark_32 ?_
      refine A_callV (s_rhas l G I (61 + 2 * i) (isR_s hi) _) m_X4_has ml_X7_245 rfl (lr (isR_s hi)) rfl (by decide) rfl rfl (Nat.le_of_ble_eq_true rfl) (by decide) (by decide) (by decide) dX7_mark_33 (fun _ _ _ h => congrArg List.length h.2.1) ?_
      rintro _ _ _ ⟨rfl, rfl, e9⟩
      refine AW_I e9 ?_
      clear e9
      refine A_if_ne 42 rfl dX7_mark_36 (fun cq36 => ?_) (fun cq36 => ?_)
      · skip
        have hk0 := b2i_p.mp cq36
        rw [eZ] at hk0
        obtain ⟨j, hj, rfl⟩ := pl_get hm hz hk0
        refine A_aload rfl dX7_mark_42 ?_
        refine A_getI fr_X7_189.g rfl (lr (isR_s hi)) dX7_mark_44 ?_
        refine A_if_ne 70 rfl dX7_mark_47 (fun cq47 => ?_) (fun cq47 => ?_)
        · skip
          refine A_iload_n rfl dX7_mark_70 ?_
          refine A_ldc kc_X7_109 rfl dX7_mark_71 ?_
          refine A_icmp_eq 90 rfl dX7_mark_73 (fun cq73 => ?_) (fun cq73 => ?_)
          · skip
            refine A_aload rfl dX7_mark_90 ?_
            refine A_getR fr_X7_247 rfl (lr (isR_s hi)) rfl dX7_mark_92 ?_
            refine A_iload_n rfl dX7_mark_95 ?_
            refine A_iload_n rfl dX7_mark_96 ?_
            refine A_iast j rfl (lr2 (isR_s hi)) (by omega) (by decide) dX7_mark_97 ?_
            refine A_iconst ic_1 dX7_mark_98 ?_
            refine A_iret rfl rfl rfl rfl dX7_mark_99 ?_
            rw [eS] at cq24 cq47
            have eg : g_mark S Z (nI i) (nI j) x = (1, true) := by
              first
                | (have h7 : x = -1000000005 := cq73; rw [g_mark, if_pos hs0, nI_clamp (by omega), if_neg cq24, if_pos hk0, if_neg cq47, if_pos h7])
                | (have h7 : ¬ x = -1000000005 := cq73; rw [g_mark, if_pos hs0, nI_clamp (by omega), if_neg cq24, if_pos hk0, if_neg cq47, if_neg h7, if_pos (b2i_p.mp cq84)])
            rw [eg, if_pos rfl, nI_clamp (by omega), nI_clamp (by omega), v_mark, nI_clamp (by omega), if_neg cq47]
            exact ⟨rfl, rfl, fun q hq => up2_ne (by omega), hS.put hi⟩
          · skip
            refine A_iload_n rfl dX7_mark_76 ?_
            refine A_ldc kc_X7_250 rfl dX7_mark_77 ?_
            refine A_ldc kc_X7_251 rfl dX7_mark_79 ?_
            refine A_callS (s_within l G _ _ _ _ _) m_X7_within ml_X7_56 rfl rfl rfl (Nat.le_of_ble_eq_true rfl) (by decide) (by decide) (by decide) dX7_mark_81 (fun _ _ _ h => congrArg List.length h.2.1) ?_
            rintro _ _ _ ⟨rfl, rfl, e9⟩
            refine AW_I e9 ?_
            clear e9
            refine A_if_ne 90 rfl dX7_mark_84 (fun cq84 => ?_) (fun cq84 => ?_)
            · skip
              refine A_aload rfl dX7_mark_90 ?_
              refine A_getR fr_X7_247 rfl (lr (isR_s hi)) rfl dX7_mark_92 ?_
              refine A_iload_n rfl dX7_mark_95 ?_
              refine A_iload_n rfl dX7_mark_96 ?_
              refine A_iast j rfl (lr2 (isR_s hi)) (by omega) (by decide) dX7_mark_97 ?_
              refine A_iconst ic_1 dX7_mark_98 ?_
              refine A_iret rfl rfl rfl rfl dX7_mark_99 ?_
              rw [eS] at cq24 cq47
              have eg : g_mark S Z (nI i) (nI j) x = (1, true) := by
                first
                  | (have h7 : x = -1000000005 := cq73; rw [g_mark, if_pos hs0, nI_clamp (by omega), if_neg cq24, if_pos hk0, if_neg cq47, if_pos h7])
                  | (have h7 : ¬ x = -1000000005 := cq73; rw [g_mark, if_pos hs0, nI_clamp (by omega), if_neg cq24, if_pos hk0, if_neg cq47, if_neg h7, if_pos (b2i_p.mp cq84)])
              rw [eg, if_pos rfl, nI_clamp (by omega), nI_clamp (by omega), v_mark, nI_clamp (by omega), if_neg cq47]
              exact ⟨rfl, rfl, fun q hq => up2_ne (by omega), hS.put hi⟩
            · skip
              refine A_ldc kc_X7_60 rfl dX7_mark_87 ?_
              refine A_iret rfl rfl rfl rfl dX7_mark_89 ?_
              rw [eS] at cq24 cq47
              have eg : g_mark S Z (nI i) (nI j) x = (-1000000001, false) := by rw [g_mark, if_pos hs0, nI_clamp (by omega), if_neg cq24, if_pos hk0, if_neg cq47, if_neg cq73, if_neg (b2i_q.mp cq84)]
              rw [eg]
              exact ⟨rfl, rfl, fun _ _ => rfl, hS⟩
        · skip
          refine A_iload_n rfl dX7_mark_50 ?_
          refine A_ldc kc_X7_109 rfl dX7_mark_51 ?_
          refine A_icmp_ne 59 rfl dX7_mark_53 (fun cq53 => ?_) (fun cq53 => ?_)
          · skip
            refine A_aload rfl dX7_mark_59 ?_
            refine A_getR fr_X7_247 rfl (lr (isR_s hi)) rfl dX7_mark_61 ?_
            refine A_iload_n rfl dX7_mark_64 ?_
            refine A_iload_n rfl dX7_mark_65 ?_
            refine A_i2s dX7_mark_66 ?_
            refine A_iast j rfl (lr2 (isR_s hi)) (by omega) (by decide) dX7_mark_67 ?_
            refine A_iconst ic_1 dX7_mark_68 ?_
            refine A_iret rfl rfl rfl rfl dX7_mark_69 ?_
            rw [eS] at cq24 cq47
            have eg : g_mark S Z (nI i) (nI j) x = (1, true) := by rw [g_mark, if_pos hs0, nI_clamp (by omega), if_neg cq24, if_pos hk0, if_pos cq47, if_neg cq53]
            rw [eg, if_pos rfl, nI_clamp (by omega), nI_clamp (by omega), v_mark, nI_clamp (by omega), if_pos cq47]
            exact ⟨rfl, rfl, fun q hq => up2_ne (by omega), hS.put hi⟩
          · skip
            refine A_ldc kc_X7_119 rfl dX7_mark_56 ?_
            refine A_iret rfl rfl rfl rfl dX7_mark_58 ?_
            rw [eS] at cq24 cq47
            have eg : g_mark S Z (nI i) (nI j) x = (-1000000012, false) := by rw [g_mark, if_pos hs0, nI_clamp (by omega), if_neg cq24, if_pos hk0, if_pos cq47, if_pos cq53]
            rw [eg]
            exact ⟨rfl, rfl, fun _ _ => rfl, hS⟩
      · skip
        refine A_ldc kc_X7_246 rfl dX7_mark_39 ?_
        refine A_iret rfl rfl rfl rfl dX7_mark_41 ?_
        have h7 := b2i_q.mp cq36
        rw [eZ] at h7
        rw [eS] at cq24
        have eg : g_mark S Z (nI i) k x = (-1000000013, false) := by rw [g_mark, if_pos hs0, nI_clamp (by omega), if_neg cq24, if_neg h7]
        rw [eg]
        exact ⟨rfl, rfl, fun _ _ => rfl, hS⟩
    · skip
      refine A_ldc kc_X7_192 rfl dX7_mark_27 ?_
      refine A_iret rfl rfl rfl rfl dX7_mark_29 ?_
      rw [eS] at cq24
      have eg : g_mark S Z (nI i) k x = (-1000000011, false) := by rw [g_mark, if_pos hs0, nI_clamp (by omega), if_pos cq24]
      rw [eg]
      exact ⟨rfl, rfl, fun _ _ => rfl, hS⟩
  · skip
    refine A_ldc kc_X7_60 rfl dX7_mark_7 ?_
    refine A_iret rfl rfl rfl rfl dX7_mark_9 ?_
    rw [g_mark, if_neg (b2i_q.mp cq4)]
    exact ⟨rfl, rfl, fun _ _ => rfl, hS⟩
