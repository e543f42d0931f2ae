def g_sheet (s w x : Int32) : Int32 × Bool := if 0 ≤ s ∧ s ≤ 3 then (if -1 ≤ w ∧ w ≤ 1 then (if w = -1 then (0, true) else if 24 < x then (-1000000001, false) else if x < 0 then (-1000000014, false) else (x, true)) else (-1000000001, false)) else (-1000000001, false)
def z_sheet (w x : Int32) : Int32 := if w = -1 then 0 else x
theorem ShC.begin {I : Hp} {S Z : Nrow} {C : Fn2} {i : Nat} {w y : Int32} (h : ShC I S Z C) (hi : i < 4) : ShC (heB I (61 + 2 * i) w y 24) (upd S i w) (upd Z i y) (r_fill C i 0) := by
  intro s hs
  unfold heB r_fill
  by_cases e : s = i
  · subst e
    refine ⟨?_, ?_, ?_⟩
    · simp [upd]
    · simp [upd]
    · intro k hk
      simp [hk]
  · have n1 : 61 + 2 * s ≠ 61 + 2 * i := by omega
    have n2 : 61 + 2 * s ≠ 61 + 2 * i + 1 := by omega
    have n3 : 61 + 2 * s + 1 ≠ 61 + 2 * i + 1 := by omega
    have n4 : 61 + 2 * s + 1 ≠ 61 + 2 * i := by omega
    refine ⟨?_, ?_, ?_⟩
    · rw [if_neg n2, if_neg n1, upd_n e]; exact (h s hs).1
    · rw [if_neg n2, if_neg n1, upd_n e]; exact (h s hs).2.1
    · intro k hk
      rw [if_neg n3, if_neg n4, if_neg e]
      exact (h s hs).2.2 k hk
theorem heB_o {I : Hp} {r q : Nat} {w x : Int32} {k : Nat} (h1 : q ≠ r) (h2 : q ≠ r + 1) : heB I r w x k q = I q := by unfold heB; rw [if_neg h2, if_neg h1]
theorem ShC.fr {I J : Hp} {S Z : Nrow} {C : Fn2} (h : ShC I S Z C) (k : ∀ q, 61 ≤ q → q < 69 → J q = I q) : ShC J S Z C := fun s hs => by
  have e1 := k (61 + 2 * s) (by omega) (by omega)
  have e2 := k (61 + 2 * s + 1) (by omega) (by omega)
  rw [e1, e2]
  exact h s hs
theorem ShM.fr {I J : Hp} {S Z : Nrow} {C : Fn2} (h : ShM I S Z C) (k : ∀ q, 99 ≤ q → q ≤ 101 → J q = I q) : ShM J S Z C := fun s hs => by
  rw [k 99 (by decide) (by decide), k 100 (by decide) (by decide), k 101 (by decide) (by decide)]
  exact h s hs
theorem held_in {x : Int32} (h0 : ¬ x < 0) (h1 : ¬ 24 < x) : heldF x 0 24 = x := by
  unfold heldF
  have e : (if x < 24 then x else (24 : Int32)) = x := by
    split
    · rfl
    · exact Int32.le_antisymm (Int32.not_lt.mp ‹_›) (Int32.not_lt.mp h1)
  rw [e]
  split
  · rfl
  · exact Int32.le_antisymm (Int32.not_lt.mp h0) (Int32.not_lt.mp ‹_›)
set_option maxHeartbeats 1000000 in
set_option maxRecDepth 100000 in
theorem c_sheet (l : Launch) (G : Gm) (I : Hp) (S Z : Nrow) (C : Fn2) (hS : ShC I S Z C) (s w x : Int32) : Meth l G yX7_sheet cX7_sheet 4 (some (FieldType.int)) 4 0 0 [.ref 0, .int s, .int w, .int x] LAY I (fun r lay1 I1 => r = some (.int (g_sheet s w x).1) ∧ lay1 = LAY ∧ (∀ q, (q < 61 ∨ 69 ≤ q) → I1 q = I q) ∧ ShC I1 (if (g_sheet s w x).2 then upd S s.toNatClampNeg w else S) (if (g_sheet s w x).2 then upd Z s.toNatClampNeg (z_sheet w x) else Z) (if (g_sheet s w x).2 then r_fill C s.toNatClampNeg 0 else C)) := by
  refine Meth.of (by decide +kernel) (by simp [Value.category]) (Nat.le_of_ble_eq_true rfl) ?_
  refine A_iload_n rfl dX7_sheet_0 ?_
  refine A_callS (s_isSheet l G _ _ _) m_X7_isSheet ml_X7_186 rfl rfl rfl (Nat.le_of_ble_eq_true rfl) (by decide) (by decide) (by decide) dX7_sheet_1 (fun _ _ _ h => congrArg List.length h.2.1) ?_
  rintro _ _ _ ⟨rfl, rfl, e9⟩
  refine AW_I e9 ?_
  clear e9
  refine A_if_eq 27 rfl dX7_sheet_4 (fun cq4 => ?_) (fun cq4 => ?_)
  · skip
    refine A_ldc kc_X7_60 rfl dX7_sheet_27 ?_
    refine A_iret rfl rfl rfl rfl dX7_sheet_29 ?_
    have eg : g_sheet s w x = (-1000000001, false) := by
      first
        | (have h7 := b2i_q.mp cq4; rw [g_sheet, if_neg h7])
        | (have h7 := b2i_q.mp cq13; rw [g_sheet, if_pos (b2i_p.mp cq4), if_neg h7])
        | (have h7 : 24 < x := Int32.not_le.mp cq24; rw [g_sheet, if_pos (b2i_p.mp cq4), if_pos (b2i_p.mp cq13), if_neg cq18, if_pos h7])
    rw [eg]
    exact ⟨rfl, rfl, fun _ _ => rfl, hS⟩
  · skip
    refine A_iload_n rfl dX7_sheet_7 ?_
    refine A_iconst ic_m1 dX7_sheet_8 ?_
    refine A_iconst ic_1 dX7_sheet_9 ?_
    refine A_callS (s_within l G _ _ _ _ _) m_X7_within ml_X7_56 rfl rfl rfl (Nat.le_of_ble_eq_true rfl) (by decide) (by decide) (by decide) dX7_sheet_10 (fun _ _ _ h => congrArg List.length h.2.1) ?_
    rintro _ _ _ ⟨rfl, rfl, e9⟩
    refine AW_I e9 ?_
    clear e9
    refine A_if_eq 27 rfl dX7_sheet_13 (fun cq13 => ?_) (fun cq13 => ?_)
    · skip
      refine A_ldc kc_X7_60 rfl dX7_sheet_27 ?_
      refine A_iret rfl rfl rfl rfl dX7_sheet_29 ?_
      have eg : g_sheet s w x = (-1000000001, false) := by
        first
          | (have h7 := b2i_q.mp cq4; rw [g_sheet, if_neg h7])
          | (have h7 := b2i_q.mp cq13; rw [g_sheet, if_pos (b2i_p.mp cq4), if_neg h7])
          | (have h7 : 24 < x := Int32.not_le.mp cq24; rw [g_sheet, if_pos (b2i_p.mp cq4), if_pos (b2i_p.mp cq13), if_neg cq18, if_pos h7])
      rw [eg]
      exact ⟨rfl, rfl, fun _ _ => rfl, hS⟩
    · skip
      refine A_iload_n rfl dX7_sheet_16 ?_
      refine A_iconst ic_m1 dX7_sheet_17 ?_
      refine A_icmp_eq 30 rfl dX7_sheet_18 (fun cq18 => ?_) (fun cq18 => ?_)
      · skip
        refine A_iload_n rfl dX7_sheet_30 ?_
        refine A_iconst ic_m1 dX7_sheet_31 ?_
        refine A_icmp_eq 42 rfl dX7_sheet_32 (fun cq32 => ?_) (fun cq32 => ?_)
        · skip
          obtain ⟨i, hi, rfl⟩ := in_get (a := 3) rfl (b2i_p.mp cq4)
          replace hi : i < 4 := by omega
          refine A_aload_n rfl dX7_sheet_42 ?_
          refine A_getR fr_X7_40.g rfl lay_0 rfl dX7_sheet_43 ?_
          refine A_iload_n rfl dX7_sheet_46 ?_
          refine A_aald i rfl lay_60 (Or.inr (Or.inl rfl)) (by omega) (by decide) (sh_at i hi) dX7_sheet_47 ?_
          refine A_iload_n rfl dX7_sheet_48 ?_
          refine A_iload_n rfl dX7_sheet_49 ?_
          refine A_iconst ic_m1 dX7_sheet_50 ?_
          refine A_icmp_ne 58 rfl dX7_sheet_51 (fun cq51 => ?_) (fun cq51 => ?_)
          · skip
            refine A_iload_n rfl dX7_sheet_58 ?_
            refine A_callV (s_begin l G I (61 + 2 * i) (isR_s hi) w _) m_X4_begin ml_X7_241 rfl (lr (isR_s hi)) rfl (by decide) rfl rfl (Nat.le_of_ble_eq_true rfl) (by decide) (by decide) (by decide) dX7_sheet_59 (fun _ _ _ h => congrArg List.length h.2.1) ?_
            rintro _ _ _ ⟨rfl, rfl, e9⟩
            refine AW_I e9 ?_
            clear e9
            refine A_aload_n rfl dX7_sheet_62 ?_
            refine A_getR fr_X7_40.g rfl lay_0 rfl dX7_sheet_63 ?_
            refine A_iload_n rfl dX7_sheet_66 ?_
            refine A_aald i rfl lay_60 (Or.inr (Or.inl rfl)) (by omega) (by decide) (sh_at i hi) dX7_sheet_67 ?_
            refine A_getI fr_X7_244.g rfl (lr (isR_s hi)) dX7_sheet_68 ?_
            refine A_iret rfl rfl rfl rfl dX7_sheet_71 ?_
            first
              | (have h7 : w = -1 := cq51
                 have eg : g_sheet (nI i) w x = (0, true) := by rw [g_sheet, if_pos (b2i_p.mp cq4), if_pos (b2i_p.mp cq13), if_pos h7]
                 rw [eg, z_sheet, if_pos h7, nI_clamp (by omega), heB, if_neg (by omega), if_pos rfl, upd_s]
                 exact ⟨rfl, rfl, fun q hq => heB_o (by omega) (by omega), hS.begin hi⟩)
              | (have h7 : ¬ w = -1 := cq51
                 have h8 : ¬ 24 < x := by first | (have h6 : w = -1 := cq18; exact absurd h6 h7) | (have h6 : x ≤ 24 := cq24; exact Int32.not_lt.mpr h6)
                 have h9 : ¬ x < 0 := by first | (have h6 : w = -1 := cq32; exact absurd h6 h7) | (have h6 : 0 ≤ x := cq36; exact Int32.not_lt.mpr h6)
                 have eg : g_sheet (nI i) w x = (x, true) := by rw [g_sheet, if_pos (b2i_p.mp cq4), if_pos (b2i_p.mp cq13), if_neg h7, if_neg h8, if_neg h9]
                 rw [eg, z_sheet, if_neg h7, nI_clamp (by omega), held_in h9 h8, heB, if_neg (by omega), if_pos rfl, upd_s]
                 exact ⟨rfl, rfl, fun q hq => heB_o (by omega) (by omega), hS.begin hi⟩)
          · skip
            refine A_iconst ic_0 dX7_sheet_54 ?_
            refine A_goto 59 rfl dX7_sheet_55 ?_
            refine A_callV (s_begin l G I (61 + 2 * i) (isR_s hi) w _) m_X4_begin ml_X7_241 rfl (lr (isR_s hi)) rfl (by decide) rfl rfl (Nat.le_of_ble_eq_true rfl) (by decide) (by decide) (by decide) dX7_sheet_59 (fun _ _ _ h => congrArg List.length h.2.1) ?_
            rintro _ _ _ ⟨rfl, rfl, e9⟩
            refine AW_I e9 ?_
            clear e9
            refine A_aload_n rfl dX7_sheet_62 ?_
            refine A_getR fr_X7_40.g rfl lay_0 rfl dX7_sheet_63 ?_
            refine A_iload_n rfl dX7_sheet_66 ?_
            refine A_aald i rfl lay_60 (Or.inr (Or.inl rfl)) (by omega) (by decide) (sh_at i hi) dX7_sheet_67 ?_
            refine A_getI fr_X7_244.g rfl (lr (isR_s hi)) dX7_sheet_68 ?_
            refine A_iret rfl rfl rfl rfl dX7_sheet_71 ?_
            first
              | (have h7 : w = -1 := cq51
                 have eg : g_sheet (nI i) w x = (0, true) := by rw [g_sheet, if_pos (b2i_p.mp cq4), if_pos (b2i_p.mp cq13), if_pos h7]
                 rw [eg, z_sheet, if_pos h7, nI_clamp (by omega), heB, if_neg (by omega), if_pos rfl, upd_s]
                 exact ⟨rfl, rfl, fun q hq => heB_o (by omega) (by omega), hS.begin hi⟩)
              | (have h7 : ¬ w = -1 := cq51
                 have h8 : ¬ 24 < x := by first | (have h6 : w = -1 := cq18; exact absurd h6 h7) | (have h6 : x ≤ 24 := cq24; exact Int32.not_lt.mpr h6)
                 have h9 : ¬ x < 0 := by first | (have h6 : w = -1 := cq32; exact absurd h6 h7) | (have h6 : 0 ≤ x := cq36; exact Int32.not_lt.mpr h6)
                 have eg : g_sheet (nI i) w x = (x, true) := by rw [g_sheet, if_pos (b2i_p.mp cq4), if_pos (b2i_p.mp cq13), if_neg h7, if_neg h8, if_neg h9]
                 rw [eg, z_sheet, if_neg h7, nI_clamp (by omega), held_in h9 h8, heB, if_neg (by omega), if_pos rfl, upd_s]
                 exact ⟨rfl, rfl, fun q hq => heB_o (by omega) (by omega), hS.begin hi⟩)
        · skip
          refine A_iload_n rfl dX7_sheet_35 ?_
          refine A_if_ge 42 rfl dX7_sheet_36 (fun cq36 => ?_) (fun cq36 => ?_)
          · skip
            obtain ⟨i, hi, rfl⟩ := in_get (a := 3) rfl (b2i_p.mp cq4)
            replace hi : i < 4 := by omega
            refine A_aload_n rfl dX7_sheet_42 ?_
            refine A_getR fr_X7_40.g rfl lay_0 rfl dX7_sheet_43 ?_
            refine A_iload_n rfl dX7_sheet_46 ?_
            refine A_aald i rfl lay_60 (Or.inr (Or.inl rfl)) (by omega) (by decide) (sh_at i hi) dX7_sheet_47 ?_
            refine A_iload_n rfl dX7_sheet_48 ?_
            refine A_iload_n rfl dX7_sheet_49 ?_
            refine A_iconst ic_m1 dX7_sheet_50 ?_
            refine A_icmp_ne 58 rfl dX7_sheet_51 (fun cq51 => ?_) (fun cq51 => ?_)
            · skip
              refine A_iload_n rfl dX7_sheet_58 ?_
              refine A_callV (s_begin l G I (61 + 2 * i) (isR_s hi) w _) m_X4_begin ml_X7_241 rfl (lr (isR_s hi)) rfl (by decide) rfl rfl (Nat.le_of_ble_eq_true rfl) (by decide) (by decide) (by decide) dX7_sheet_59 (fun _ _ _ h => congrArg List.length h.2.1) ?_
              rintro _ _ _ ⟨rfl, rfl, e9⟩
              refine AW_I e9 ?_
              clear e9
              refine A_aload_n rfl dX7_sheet_62 ?_
              refine A_getR fr_X7_40.g rfl lay_0 rfl dX7_sheet_63 ?_
              refine A_iload_n rfl dX7_sheet_66 ?_
              refine A_aald i rfl lay_60 (Or.inr (Or.inl rfl)) (by omega) (by decide) (sh_at i hi) dX7_sheet_67 ?_
              refine A_getI fr_X7_244.g rfl (lr (isR_s hi)) dX7_sheet_68 ?_
              refine A_iret rfl rfl rfl rfl dX7_sheet_71 ?_
              first
                | (have h7 : w = -1 := cq51
                   have eg : g_sheet (nI i) w x = (0, true) := by rw [g_sheet, if_pos (b2i_p.mp cq4), if_pos (b2i_p.mp cq13), if_pos h7]
                   rw [eg, z_sheet, if_pos h7, nI_clamp (by omega), heB, if_neg (by omega), if_pos rfl, upd_s]
                   exact ⟨rfl, rfl, fun q hq => heB_o (by omega) (by omega), hS.begin hi⟩)
                | (have h7 : ¬ w = -1 := cq51
                   have h8 : ¬ 24 < x := by first | (have h6 : w = -1 := cq18; exact absurd h6 h7) | (have h6 : x ≤ 24 := cq24; exact Int32.not_lt.mpr h6)
                   have h9 : ¬ x < 0 := by first | (have h6 : w = -1 := cq32; exact absurd h6 h7) | (have h6 : 0 ≤ x := cq36; exact Int32.not_lt.mpr h6)
                   have eg : g_sheet (nI i) w x = (x, true) := by rw [g_sheet, if_pos (b2i_p.mp cq4), if_pos (b2i_p.mp cq13), if_neg h7, if_neg h8, if_neg h9]
                   rw [eg, z_sheet, if_neg h7, nI_clamp (by omega), held_in h9 h8, heB, if_neg (by omega), if_pos rfl, upd_s]
                   exact ⟨rfl, rfl, fun q hq => heB_o (by omega) (by omega), hS.begin hi⟩)
            · skip
              refine A_iconst ic_0 dX7_sheet_54 ?_
              refine A_goto 59 rfl dX7_sheet_55 ?_
              refine A_callV (s_begin l G I (61 + 2 * i) (isR_s hi) w _) m_X4_begin ml_X7_241 rfl (lr (isR_s hi)) rfl (by decide) rfl rfl (Nat.le_of_ble_eq_true rfl) (by decide) (by decide) (by decide) dX7_sheet_59 (fun _ _ _ h => congrArg List.length h.2.1) ?_
              rintro _ _ _ ⟨rfl, rfl, e9⟩
              refine AW_I e9 ?_
              clear e9
              refine A_aload_n rfl dX7_sheet_62 ?_
              refine A_getR fr_X7_40.g rfl lay_0 rfl dX7_sheet_63 ?_
              refine A_iload_n rfl dX7_sheet_66 ?_
              refine A_aald i rfl lay_60 (Or.inr (Or.inl rfl)) (by omega) (by decide) (sh_at i hi) dX7_sheet_67 ?_
              refine A_getI fr_X7_244.g rfl (lr (isR_s hi)) dX7_sheet_68 ?_
              refine A_iret rfl rfl rfl rfl dX7_sheet_71 ?_
              first
                | (have h7 : w = -1 := cq51
                   have eg : g_sheet (nI i) w x = (0, true) := by rw [g_sheet, if_pos (b2i_p.mp cq4), if_pos (b2i_p.mp cq13), if_pos h7]
                   rw [eg, z_sheet, if_pos h7, nI_clamp (by omega), heB, if_neg (by omega), if_pos rfl, upd_s]
                   exact ⟨rfl, rfl, fun q hq => heB_o (by omega) (by omega), hS.begin hi⟩)
                | (have h7 : ¬ w = -1 := cq51
                   have h8 : ¬ 24 < x := by first | (have h6 : w = -1 := cq18; exact absurd h6 h7) | (have h6 : x ≤ 24 := cq24; exact Int32.not_lt.mpr h6)
                   have h9 : ¬ x < 0 := by first | (have h6 : w = -1 := cq32; exact absurd h6 h7) | (have h6 : 0 ≤ x := cq36; exact Int32.not_lt.mpr h6)
                   have eg : g_sheet (nI i) w x = (x, true) := by rw [g_sheet, if_pos (b2i_p.mp cq4), if_pos (b2i_p.mp cq13), if_neg h7, if_neg h8, if_neg h9]
                   rw [eg, z_sheet, if_neg h7, nI_clamp (by omega), held_in h9 h8, heB, if_neg (by omega), if_pos rfl, upd_s]
                   exact ⟨rfl, rfl, fun q hq => heB_o (by omega) (by omega), hS.begin hi⟩)
          · skip
            refine A_ldc kc_X7_240 rfl dX7_sheet_39 ?_
            refine A_iret rfl rfl rfl rfl dX7_sheet_41 ?_
            have eg : g_sheet s w x = (-1000000014, false) := by
              have h7 : ¬ w = -1 := cq32
              have h8 : x < 0 := Int32.not_le.mp cq36
              have h9 : ¬ 24 < x := fun q => absurd (Int32.lt_trans q h8) (by decide)
              rw [g_sheet, if_pos (b2i_p.mp cq4), if_pos (b2i_p.mp cq13), if_neg h7, if_neg h9, if_pos h8]
            rw [eg]
            exact ⟨rfl, rfl, fun _ _ => rfl, hS⟩
      · skip
        refine A_iload_n rfl dX7_sheet_21 ?_
        refine A_bipush bp_24 dX7_sheet_22 ?_
        refine A_icmp_le 30 rfl dX7_sheet_24 (fun cq24 => ?_) (fun cq24 => ?_)
        · skip
          refine A_iload_n rfl dX7_sheet_30 ?_
          refine A_iconst ic_m1 dX7_sheet_31 ?_
          refine A_icmp_eq 42 rfl dX7_sheet_32 (fun cq32 => ?_) (fun cq32 => ?_)
          · skip
            obtain ⟨i, hi, rfl⟩ := in_get (a := 3) rfl (b2i_p.mp cq4)
            replace hi : i < 4 := by omega
            refine A_aload_n rfl dX7_sheet_42 ?_
            refine A_getR fr_X7_40.g rfl lay_0 rfl dX7_sheet_43 ?_
            refine A_iload_n rfl dX7_sheet_46 ?_
            refine A_aald i rfl lay_60 (Or.inr (Or.inl rfl)) (by omega) (by decide) (sh_at i hi) dX7_sheet_47 ?_
            refine A_iload_n rfl dX7_sheet_48 ?_
            refine A_iload_n rfl dX7_sheet_49 ?_
            refine A_iconst ic_m1 dX7_sheet_50 ?_
            refine A_icmp_ne 58 rfl dX7_sheet_51 (fun cq51 => ?_) (fun cq51 => ?_)
            · skip
              refine A_iload_n rfl dX7_sheet_58 ?_
              refine A_callV (s_begin l G I (61 + 2 * i) (isR_s hi) w _) m_X4_begin ml_X7_241 rfl (lr (isR_s hi)) rfl (by decide) rfl rfl (Nat.le_of_ble_eq_true rfl) (by decide) (by decide) (by decide) dX7_sheet_59 (fun _ _ _ h => congrArg List.length h.2.1) ?_
              rintro _ _ _ ⟨rfl, rfl, e9⟩
              refine AW_I e9 ?_
              clear e9
              refine A_aload_n rfl dX7_sheet_62 ?_
              refine A_getR fr_X7_40.g rfl lay_0 rfl dX7_sheet_63 ?_
              refine A_iload_n rfl dX7_sheet_66 ?_
              refine A_aald i rfl lay_60 (Or.inr (Or.inl rfl)) (by omega) (by decide) (sh_at i hi) dX7_sheet_67 ?_
              refine A_getI fr_X7_244.g rfl (lr (isR_s hi)) dX7_sheet_68 ?_
              refine A_iret rfl rfl rfl rfl dX7_sheet_71 ?_
              first
                | (have h7 : w = -1 := cq51
                   have eg : g_sheet (nI i) w x = (0, true) := by rw [g_sheet, if_pos (b2i_p.mp cq4), if_pos (b2i_p.mp cq13), if_pos h7]
                   rw [eg, z_sheet, if_pos h7, nI_clamp (by omega), heB, if_neg (by omega), if_pos rfl, upd_s]
                   exact ⟨rfl, rfl, fun q hq => heB_o (by omega) (by omega), hS.begin hi⟩)
                | (have h7 : ¬ w = -1 := cq51
                   have h8 : ¬ 24 < x := by first | (have h6 : w = -1 := cq18; exact absurd h6 h7) | (have h6 : x ≤ 24 := cq24; exact Int32.not_lt.mpr h6)
                   have h9 : ¬ x < 0 := by first | (have h6 : w = -1 := cq32; exact absurd h6 h7) | (have h6 : 0 ≤ x := cq36; exact Int32.not_lt.mpr h6)
                   have eg : g_sheet (nI i) w x = (x, true) := by rw [g_sheet, if_pos (b2i_p.mp cq4), if_pos (b2i_p.mp cq13), if_neg h7, if_neg h8, if_neg h9]
                   rw [eg, z_sheet, if_neg h7, nI_clamp (by omega), held_in h9 h8, heB, if_neg (by omega), if_pos rfl, upd_s]
                   exact ⟨rfl, rfl, fun q hq => heB_o (by omega) (by omega), hS.begin hi⟩)
            · skip
              refine A_iconst ic_0 dX7_sheet_54 ?_
              refine A_goto 59 rfl dX7_sheet_55 ?_
              refine A_callV (s_begin l G I (61 + 2 * i) (isR_s hi) w _) m_X4_begin ml_X7_241 rfl (lr (isR_s hi)) rfl (by decide) rfl rfl (Nat.le_of_ble_eq_true rfl) (by decide) (by decide) (by decide) dX7_sheet_59 (fun _ _ _ h => congrArg List.length h.2.1) ?_
              rintro _ _ _ ⟨rfl, rfl, e9⟩
              refine AW_I e9 ?_
              clear e9
              refine A_aload_n rfl dX7_sheet_62 ?_
              refine A_getR fr_X7_40.g rfl lay_0 rfl dX7_sheet_63 ?_
              refine A_iload_n rfl dX7_sheet_66 ?_
              refine A_aald i rfl lay_60 (Or.inr (Or.inl rfl)) (by omega) (by decide) (sh_at i hi) dX7_sheet_67 ?_
              refine A_getI fr_X7_244.g rfl (lr (isR_s hi)) dX7_sheet_68 ?_
              refine A_iret rfl rfl rfl rfl dX7_sheet_71 ?_
              first
                | (have h7 : w = -1 := cq51
                   have eg : g_sheet (nI i) w x = (0, true) := by rw [g_sheet, if_pos (b2i_p.mp cq4), if_pos (b2i_p.mp cq13), if_pos h7]
                   rw [eg, z_sheet, if_pos h7, nI_clamp (by omega), heB, if_neg (by omega), if_pos rfl, upd_s]
                   exact ⟨rfl, rfl, fun q hq => heB_o (by omega) (by omega), hS.begin hi⟩)
                | (have h7 : ¬ w = -1 := cq51
                   have h8 : ¬ 24 < x := by first | (have h6 : w = -1 := cq18; exact absurd h6 h7) | (have h6 : x ≤ 24 := cq24; exact Int32.not_lt.mpr h6)
                   have h9 : ¬ x < 0 := by first | (have h6 : w = -1 := cq32; exact absurd h6 h7) | (have h6 : 0 ≤ x := cq36; exact Int32.not_lt.mpr h6)
                   have eg : g_sheet (nI i) w x = (x, true) := by rw [g_sheet, if_pos (b2i_p.mp cq4), if_pos (b2i_p.mp cq13), if_neg h7, if_neg h8, if_neg h9]
                   rw [eg, z_sheet, if_neg h7, nI_clamp (by omega), held_in h9 h8, heB, if_neg (by omega), if_pos rfl, upd_s]
                   exact ⟨rfl, rfl, fun q hq => heB_o (by omega) (by omega), hS.begin hi⟩)
          · skip
            refine A_iload_n rfl dX7_sheet_35 ?_
            refine A_if_ge 42 rfl dX7_sheet_36 (fun cq36 => ?_) (fun cq36 => ?_)
            · skip
              obtain ⟨i, hi, rfl⟩ := in_get (a := 3) rfl (b2i_p.mp cq4)
              replace hi : i < 4 := by omega
              refine A_aload_n rfl dX7_sheet_42 ?_
              refine A_getR fr_X7_40.g rfl lay_0 rfl dX7_sheet_43 ?_
              refine A_iload_n rfl dX7_sheet_46 ?_
              refine A_aald i rfl lay_60 (Or.inr (Or.inl rfl)) (by omega) (by decide) (sh_at i hi) dX7_sheet_47 ?_
              refine A_iload_n rfl dX7_sheet_48 ?_
              refine A_iload_n rfl dX7_sheet_49 ?_
              refine A_iconst ic_m1 dX7_sheet_50 ?_
              refine A_icmp_ne 58 rfl dX7_sheet_51 (fun cq51 => ?_) (fun cq51 => ?_)
              · skip
                refine A_iload_n rfl dX7_sheet_58 ?_
                refine A_callV (s_begin l G I (61 + 2 * i) (isR_s hi) w _) m_X4_begin ml_X7_241 rfl (lr (isR_s hi)) rfl (by decide) rfl rfl (Nat.le_of_ble_eq_true rfl) (by decide) (by decide) (by decide) dX7_sheet_59 (fun _ _ _ h => congrArg List.length h.2.1) ?_
                rintro _ _ _ ⟨rfl, rfl, e9⟩
                refine AW_I e9 ?_
                clear e9
                refine A_aload_n rfl dX7_sheet_62 ?_
                refine A_getR fr_X7_40.g rfl lay_0 rfl dX7_sheet_63 ?_
                refine A_iload_n rfl dX7_sheet_66 ?_
                refine A_aald i rfl lay_60 (Or.inr (Or.inl rfl)) (by omega) (by decide) (sh_at i hi) dX7_sheet_67 ?_
                refine A_getI fr_X7_244.g rfl (lr (isR_s hi)) dX7_sheet_68 ?_
                refine A_iret rfl rfl rfl rfl dX7_sheet_71 ?_
                first
                  | (have h7 : w = -1 := cq51
                     have eg : g_sheet (nI i) w x = (0, true) := by rw [g_sheet, if_pos (b2i_p.mp cq4), if_pos (b2i_p.mp cq13), if_pos h7]
                     rw [eg, z_sheet, if_pos h7, nI_clamp (by omega), heB, if_neg (by omega), if_pos rfl, upd_s]
                     exact ⟨rfl, rfl, fun q hq => heB_o (by omega) (by omega), hS.begin hi⟩)
                  | (have h7 : ¬ w = -1 := cq51
                     have h8 : ¬ 24 < x := by first | (have h6 : w = -1 := cq18; exact absurd h6 h7) | (have h6 : x ≤ 24 := cq24; exact Int32.not_lt.mpr h6)
                     have h9 : ¬ x < 0 := by first | (have h6 : w = -1 := cq32; exact absurd h6 h7) | (have h6 : 0 ≤ x := cq36; exact Int32.not_lt.mpr h6)
                     have eg : g_sheet (nI i) w x = (x, true) := by rw [g_sheet, if_pos (b2i_p.mp cq4), if_pos (b2i_p.mp cq13), if_neg h7, if_neg h8, if_neg h9]
                     rw [eg, z_sheet, if_neg h7, nI_clamp (by omega), held_in h9 h8, heB, if_neg (by omega), if_pos rfl, upd_s]
                     exact ⟨rfl, rfl, fun q hq => heB_o (by omega) (by omega), hS.begin hi⟩)
              · skip
                refine A_iconst ic_0 dX7_sheet_54 ?_
                refine A_goto 59 rfl dX7_sheet_55 ?_
                refine A_callV (s_begin l G I (61 + 2 * i) (isR_s hi) w _) m_X4_begin ml_X7_241 rfl (lr (isR_s hi)) rfl (by decide) rfl rfl (Nat.le_of_ble_eq_true rfl) (by decide) (by decide) (by decide) dX7_sheet_59 (fun _ _ _ h => congrArg List.length h.2.1) ?_
                rintro _ _ _ ⟨rfl, rfl, e9⟩
                refine AW_I e9 ?_
                clear e9
                refine A_aload_n rfl dX7_sheet_62 ?_
                refine A_getR fr_X7_40.g rfl lay_0 rfl dX7_sheet_63 ?_
                refine A_iload_n rfl dX7_sheet_66 ?_
                refine A_aald i rfl lay_60 (Or.inr (Or.inl rfl)) (by omega) (by decide) (sh_at i hi) dX7_sheet_67 ?_
                refine A_getI fr_X7_244.g rfl (lr (isR_s hi)) dX7_sheet_68 ?_
                refine A_iret rfl rfl rfl rfl dX7_sheet_71 ?_
                first
                  | (have h7 : w = -1 := cq51
                     have eg : g_sheet (nI i) w x = (0, true) := by rw [g_sheet, if_pos (b2i_p.mp cq4), if_pos (b2i_p.mp cq13), if_pos h7]
                     rw [eg, z_sheet, if_pos h7, nI_clamp (by omega), heB, if_neg (by omega), if_pos rfl, upd_s]
                     exact ⟨rfl, rfl, fun q hq => heB_o (by omega) (by omega), hS.begin hi⟩)
                  | (have h7 : ¬ w = -1 := cq51
                     have h8 : ¬ 24 < x := by first | (have h6 : w = -1 := cq18; exact absurd h6 h7) | (have h6 : x ≤ 24 := cq24; exact Int32.not_lt.mpr h6)
                     have h9 : ¬ x < 0 := by first | (have h6 : w = -1 := cq32; exact absurd h6 h7) | (have h6 : 0 ≤ x := cq36; exact Int32.not_lt.mpr h6)
                     have eg : g_sheet (nI i) w x = (x, true) := by rw [g_sheet, if_pos (b2i_p.mp cq4), if_pos (b2i_p.mp cq13), if_neg h7, if_neg h8, if_neg h9]
                     rw [eg, z_sheet, if_neg h7, nI_clamp (by omega), held_in h9 h8, heB, if_neg (by omega), if_pos rfl, upd_s]
                     exact ⟨rfl, rfl, fun q hq => heB_o (by omega) (by omega), hS.begin hi⟩)
            · skip
              refine A_ldc kc_X7_240 rfl dX7_sheet_39 ?_
              refine A_iret rfl rfl rfl rfl dX7_sheet_41 ?_
              have eg : g_sheet s w x = (-1000000014, false) := by
                have h7 : ¬ w = -1 := cq32
                have h8 : x < 0 := Int32.not_le.mp cq36
                have h9 : ¬ 24 < x := fun q => absurd (Int32.lt_trans q h8) (by decide)
                rw [g_sheet, if_pos (b2i_p.mp cq4), if_pos (b2i_p.mp cq13), if_neg h7, if_neg h9, if_pos h8]
              rw [eg]
              exact ⟨rfl, rfl, fun _ _ => rfl, hS⟩
        · skip
          refine A_ldc kc_X7_60 rfl dX7_sheet_27 ?_
          refine A_iret rfl rfl rfl rfl dX7_sheet_29 ?_
          have eg : g_sheet s w x = (-1000000001, false) := by
            first
              | (have h7 := b2i_q.mp cq4; rw [g_sheet, if_neg h7])
              | (have h7 := b2i_q.mp cq13; rw [g_sheet, if_pos (b2i_p.mp cq4), if_neg h7])
              | (have h7 : 24 < x := Int32.not_le.mp cq24; rw [g_sheet, if_pos (b2i_p.mp cq4), if_pos (b2i_p.mp cq13), if_neg cq18, if_pos h7])
          rw [eg]
          exact ⟨rfl, rfl, fun _ _ => rfl, hS⟩
