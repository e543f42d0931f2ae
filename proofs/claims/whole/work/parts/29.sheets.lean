def q_st (z i m : Int32) : Bool := decide (0 ≤ i ∧ 0 ≤ m ∧ m ≤ z ∧ i ≤ z - m)
def g_copy (S Z : Nrow) (a i b j m : Int32) : Int32 × Bool := if (0 ≤ a ∧ a ≤ 3) ∧ (0 ≤ b ∧ b ≤ 3) then (if S a.toNatClampNeg = -1 ∨ S b.toNatClampNeg = -1 then (-1000000011, false) else if S a.toNatClampNeg = S b.toNatClampNeg then (if q_st (Z a.toNatClampNeg) i m = true ∧ q_st (Z b.toNatClampNeg) j m = true then (m, true) else (-1000000013, false)) else (-1000000012, false)) else (-1000000001, false)
def r_copy (C : Fn2) (a i b j m : Nat) : Fn2 := fun q k => if q = b ∧ j ≤ k ∧ k < j + m then C a (i + (k - j)) else C q k
theorem ShC.copy {I : Hp} {S Z : Nrow} {C : Fn2} {a i b j m : Nat} (h : ShC I S Z C) (ha : a < 4) (hb : b < 4) (h1 : i + m ≤ 24) (h2 : j + m ≤ 24) : ShC (fun q => if q = 61 + 2 * b + 1 then va_cpy (I (61 + 2 * a + 1)) (I (61 + 2 * b + 1)) i j m else I q) S Z (r_copy C a i b j m) := by
  intro s hs
  refine ⟨by dsimp only; rw [if_neg (by omega)]; exact (h s hs).1, by dsimp only; rw [if_neg (by omega)]; exact (h s hs).2.1, fun k hk => ?_⟩
  unfold r_copy
  dsimp only
  by_cases e : s = b
  · subst e
    rw [if_pos rfl]
    by_cases e2 : j ≤ k ∧ k < j + m
    · rw [if_pos ⟨rfl, e2⟩, pk_cpy_in e2.1 e2.2]
      exact (h a ha).2.2 _ (by omega)
    · rw [if_neg (fun q => e2 q.2), pk_cpy_out (by omega)]
      exact (h s hs).2.2 k hk
  · rw [if_neg (by omega), if_neg (fun (q : s = b ∧ j ≤ k ∧ k < j + m) => e q.1)]
    exact (h s hs).2.2 k hk
theorem st_get {z i m : Int32} {p : Nat} (hp : p ≤ 24) (hz : z = nI p) (h : q_st z i m = true) : ∃ i' m', i = nI i' ∧ m = nI m' ∧ i' + m' ≤ p := by
  subst hz
  have h := of_decide_eq_true h
  obtain ⟨i', hi1, rfl⟩ := nI_of (Int32.not_lt.mpr h.1)
  obtain ⟨m', hm1, rfl⟩ := nI_of (Int32.not_lt.mpr h.2.1)
  have h3 := (nI_leI hm1 (by omega)).mp h.2.2.1
  have h4 := h.2.2.2
  rw [pk_sub h3] at h4
  have h5 := (nI_leI hi1 (by omega)).mp h4
  exact ⟨i', m', rfl, rfl, by omega⟩
theorem st_M {z i m : Int32} {p : Nat} (hp : p ≤ 24) (hz : z = nI p) (h0 : ¬ i < 0) (h1 : ¬ m < 0) : q_st z i m = decide (i ≤ z - m) := by
  subst hz
  unfold q_st
  obtain ⟨i', hi1, rfl⟩ := nI_of h0
  obtain ⟨m', hm1, rfl⟩ := nI_of h1
  by_cases h3 : m' ≤ p
  · have e1 : nI m' ≤ nI p := (nI_leI hm1 (by omega)).mpr h3
    simp [nI_pos' hi1, nI_pos' hm1, e1]
  · have e1 : ¬ nI m' ≤ nI p := mt (nI_leI hm1 (by omega)).mp h3
    have e2 : ¬ nI i' ≤ nI p - nI m' := by
      intro h
      have h4 : (nI p - nI m').toInt = (p : Int) - (m' : Int) := by
        rw [Int32.toInt_sub, nI_toInt (by omega), nI_toInt hm1]
        exact Int.bmod_eq_of_le (by omega) (by omega)
      rw [Int32.le_iff_toInt_le, h4, nI_toInt hi1] at h
      omega
    simp [e1, e2]
set_option maxHeartbeats 1000000 in
set_option maxRecDepth 100000 in
theorem s_stretch (l : Launch) (G : Gm) (I : Hp) (r : Nat) (hr : isR r) (i m : Int32) : Meth l G yX4_hasStretch cX4_hasStretch 3 (some (FieldType.boolean)) 1 0 0 [.ref r, .int i, .int m] LAY I (fun r1 lay1 I1 => r1 = some (.int (b2i (q_st (I r 1) i m))) ∧ lay1 = LAY ∧ I1 = I) := by
  refine Meth.of (by decide +kernel) (by simp [Value.category]) (Nat.le_of_ble_eq_true rfl) ?_
  refine A_iload_n rfl dX4_hasStretch_0 ?_
  refine A_if_lt 30 rfl dX4_hasStretch_1 (fun cq1 => ?_) (fun cq1 => ?_)
  · skip
    refine A_iconst ic_0 dX4_hasStretch_30 ?_
    refine A_iret rfl rfl rfl rfl dX4_hasStretch_31 ?_
    refine ⟨?_, rfl, rfl⟩
    unfold q_st
    first
      | (have h7 : i < 0 := cq1; rw [b2i_ff (fun h9 => Int32.not_lt.mpr h9.1 h7)])
      | (have h7 : m < 0 := cq5; rw [b2i_ff (fun h9 => Int32.not_lt.mpr h9.2.1 h7)])
      | (have h7 : I r 1 < m := cq13; rw [b2i_ff (fun h9 => Int32.not_lt.mpr h9.2.2.1 h7)])
      | (have h7 : I r 1 - m < i := cq23; rw [b2i_ff (fun h9 => Int32.not_lt.mpr h9.2.2.2 h7)])
      | rw [b2i_tt ⟨Int32.not_lt.mp cq1, Int32.not_lt.mp cq5, Int32.not_lt.mp cq13, Int32.not_lt.mp cq23⟩]
  · skip
    refine A_iload_n rfl dX4_hasStretch_4 ?_
    refine A_if_lt 30 rfl dX4_hasStretch_5 (fun cq5 => ?_) (fun cq5 => ?_)
    · skip
      refine A_iconst ic_0 dX4_hasStretch_30 ?_
      refine A_iret rfl rfl rfl rfl dX4_hasStretch_31 ?_
      refine ⟨?_, rfl, rfl⟩
      unfold q_st
      first
        | (have h7 : i < 0 := cq1; rw [b2i_ff (fun h9 => Int32.not_lt.mpr h9.1 h7)])
        | (have h7 : m < 0 := cq5; rw [b2i_ff (fun h9 => Int32.not_lt.mpr h9.2.1 h7)])
        | (have h7 : I r 1 < m := cq13; rw [b2i_ff (fun h9 => Int32.not_lt.mpr h9.2.2.1 h7)])
        | (have h7 : I r 1 - m < i := cq23; rw [b2i_ff (fun h9 => Int32.not_lt.mpr h9.2.2.2 h7)])
        | rw [b2i_tt ⟨Int32.not_lt.mp cq1, Int32.not_lt.mp cq5, Int32.not_lt.mp cq13, Int32.not_lt.mp cq23⟩]
    · skip
      refine A_iload_n rfl dX4_hasStretch_8 ?_
      refine A_aload_n rfl dX4_hasStretch_9 ?_
      refine A_getI fr_X4_23.g rfl (lr hr) dX4_hasStretch_10 ?_
      refine A_icmp_gt 30 rfl dX4_hasStretch_13 (fun cq13 => ?_) (fun cq13 => ?_)
      · skip
        refine A_iconst ic_0 dX4_hasStretch_30 ?_
        refine A_iret rfl rfl rfl rfl dX4_hasStretch_31 ?_
        refine ⟨?_, rfl, rfl⟩
        unfold q_st
        first
          | (have h7 : i < 0 := cq1; rw [b2i_ff (fun h9 => Int32.not_lt.mpr h9.1 h7)])
          | (have h7 : m < 0 := cq5; rw [b2i_ff (fun h9 => Int32.not_lt.mpr h9.2.1 h7)])
          | (have h7 : I r 1 < m := cq13; rw [b2i_ff (fun h9 => Int32.not_lt.mpr h9.2.2.1 h7)])
          | (have h7 : I r 1 - m < i := cq23; rw [b2i_ff (fun h9 => Int32.not_lt.mpr h9.2.2.2 h7)])
          | rw [b2i_tt ⟨Int32.not_lt.mp cq1, Int32.not_lt.mp cq5, Int32.not_lt.mp cq13, Int32.not_lt.mp cq23⟩]
      · skip
        refine A_iload_n rfl dX4_hasStretch_16 ?_
        refine A_aload_n rfl dX4_hasStretch_17 ?_
        refine A_getI fr_X4_23.g rfl (lr hr) dX4_hasStretch_18 ?_
        refine A_iload_n rfl dX4_hasStretch_21 ?_
        refine A_isub dX4_hasStretch_22 ?_
        refine A_icmp_gt 30 rfl dX4_hasStretch_23 (fun cq23 => ?_) (fun cq23 => ?_)
        · skip
          refine A_iconst ic_0 dX4_hasStretch_30 ?_
          refine A_iret rfl rfl rfl rfl dX4_hasStretch_31 ?_
          refine ⟨?_, rfl, rfl⟩
          unfold q_st
          first
            | (have h7 : i < 0 := cq1; rw [b2i_ff (fun h9 => Int32.not_lt.mpr h9.1 h7)])
            | (have h7 : m < 0 := cq5; rw [b2i_ff (fun h9 => Int32.not_lt.mpr h9.2.1 h7)])
            | (have h7 : I r 1 < m := cq13; rw [b2i_ff (fun h9 => Int32.not_lt.mpr h9.2.2.1 h7)])
            | (have h7 : I r 1 - m < i := cq23; rw [b2i_ff (fun h9 => Int32.not_lt.mpr h9.2.2.2 h7)])
            | rw [b2i_tt ⟨Int32.not_lt.mp cq1, Int32.not_lt.mp cq5, Int32.not_lt.mp cq13, Int32.not_lt.mp cq23⟩]
        · skip
          refine A_iconst ic_1 dX4_hasStretch_26 ?_
          refine A_goto 31 rfl dX4_hasStretch_27 ?_
          refine A_iret rfl rfl rfl rfl dX4_hasStretch_31 ?_
          refine ⟨?_, rfl, rfl⟩
          unfold q_st
          first
            | (have h7 : i < 0 := cq1; rw [b2i_ff (fun h9 => Int32.not_lt.mpr h9.1 h7)])
            | (have h7 : m < 0 := cq5; rw [b2i_ff (fun h9 => Int32.not_lt.mpr h9.2.1 h7)])
            | (have h7 : I r 1 < m := cq13; rw [b2i_ff (fun h9 => Int32.not_lt.mpr h9.2.2.1 h7)])
            | (have h7 : I r 1 - m < i := cq23; rw [b2i_ff (fun h9 => Int32.not_lt.mpr h9.2.2.2 h7)])
            | rw [b2i_tt ⟨Int32.not_lt.mp cq1, Int32.not_lt.mp cq5, Int32.not_lt.mp cq13, Int32.not_lt.mp cq23⟩]
set_option maxHeartbeats 1000000 in
set_option maxRecDepth 100000 in
theorem c_copy (l : Launch) (G : Gm) (I : Hp) (S Z : Nrow) (C : Fn2) (hS : ShC I S Z C) (hW : ShW S Z C) (a i b j m : Int32) : Meth l G yX7_copy cX7_copy 8 (some (FieldType.int)) 3 0 0 [.ref 0, .int a, .int i, .int b, .int j, .int m] LAY I (fun r lay1 I1 => r = some (.int (g_copy S Z a i b j m).1) ∧ lay1 = LAY ∧ (∀ q, (q < 61 ∨ 69 ≤ q) → I1 q = I q) ∧ ShC I1 S Z (if (g_copy S Z a i b j m).2 then r_copy C a.toNatClampNeg i.toNatClampNeg b.toNatClampNeg j.toNatClampNeg m.toNatClampNeg else C)) := by
  refine Meth.of (by decide +kernel) (by simp [Value.category]) (Nat.le_of_ble_eq_true rfl) ?_
  refine A_iload_n rfl dX7_copy_0 ?_
  refine A_callS (s_isSheet l G _ _ _) m_X7_isSheet ml_X7_186 rfl rfl rfl (Nat.le_of_ble_eq_true rfl) (by decide) (by decide) (by decide) dX7_copy_1 (fun _ _ _ h => congrArg List.length h.2.1) ?_
  rintro _ _ _ ⟨rfl, rfl, e9⟩
  refine AW_I e9 ?_
  clear e9
  refine A_if_eq 14 rfl dX7_copy_4 (fun cq4 => ?_) (fun cq4 => ?_)
  · skip
    refine A_ldc kc_X7_60 rfl dX7_copy_14 ?_
    refine A_iret rfl rfl rfl rfl dX7_copy_16 ?_
    have hno : ¬ ((0 ≤ a ∧ a ≤ 3) ∧ (0 ≤ b ∧ b ≤ 3)) := by
      first
        | (have h7 := b2i_q.mp cq4; exact fun h9 => h7 h9.1)
        | (have h7 := b2i_q.mp cq11; exact fun h9 => h7 h9.2)
    rw [g_copy, if_neg hno]
    exact ⟨rfl, rfl, fun _ _ => rfl, hS⟩
  · skip
    refine A_iload_n rfl dX7_copy_7 ?_
    refine A_callS (s_isSheet l G _ _ _) m_X7_isSheet ml_X7_186 rfl rfl rfl (Nat.le_of_ble_eq_true rfl) (by decide) (by decide) (by decide) dX7_copy_8 (fun _ _ _ h => congrArg List.length h.2.1) ?_
    rintro _ _ _ ⟨rfl, rfl, e9⟩
    refine AW_I e9 ?_
    clear e9
    refine A_if_ne 17 rfl dX7_copy_11 (fun cq11 => ?_) (fun cq11 => ?_)
    · skip
      have hs0 : (0 ≤ a ∧ a ≤ 3) ∧ (0 ≤ b ∧ b ≤ 3) := ⟨b2i_p.mp cq4, b2i_p.mp cq11⟩
      obtain ⟨u, hu, rfl⟩ := in_get (a := 3) rfl hs0.1
      obtain ⟨v, hv, rfl⟩ := in_get (a := 3) rfl hs0.2
      replace hu : u < 4 := by omega
      replace hv : v < 4 := by omega
      obtain ⟨p, hp, hzu⟩ := (hW u hu).2.1
      obtain ⟨p2, hp2, hzv⟩ := (hW v hv).2.1
      have eU : I (61 + 2 * u) 0 = S u := (hS u hu).1
      have eV : I (61 + 2 * v) 0 = S v := (hS v hv).1
      have eZu : I (61 + 2 * u) 1 = Z u := (hS u hu).2.1
      have eZv : I (61 + 2 * v) 1 = Z v := (hS v hv).2.1
      refine A_aload_n rfl dX7_copy_17 ?_
      refine A_getR fr_X7_40.g rfl lay_0 rfl dX7_copy_18 ?_
      refine A_iload_n rfl dX7_copy_21 ?_
      refine A_aald u rfl lay_60 (Or.inr (Or.inl rfl)) (by omega) (by decide) (sh_at u hu) dX7_copy_22 ?_
      refine A_astore (by decide) rfl dX7_copy_23 ?_
      refine A_aload_n rfl dX7_copy_25 ?_
      refine A_getR fr_X7_40.g rfl lay_0 rfl dX7_copy_26 ?_
      refine A_iload_n rfl dX7_copy_29 ?_
      refine A_aald v rfl lay_60 (Or.inr (Or.inl rfl)) (by omega) (by decide) (sh_at v hv) dX7_copy_30 ?_
      refine A_astore (by decide) rfl dX7_copy_31 ?_
      refine A_aload rfl dX7_copy_33 ?_
      refine A_getI fr_X7_189.g rfl (lr (isR_s hu)) dX7_copy_35 ?_
      refine A_iconst ic_m1 dX7_copy_38 ?_
      refine A_icmp_eq 51 rfl dX7_copy_39 (fun cq39 => ?_) (fun cq39 => ?_)
      · skip
        refine A_ldc kc_X7_192 rfl dX7_copy_51 ?_
        refine A_iret rfl rfl rfl rfl dX7_copy_53 ?_
        have hy : S u = -1 ∨ S v = -1 := by
          first
            | (have h7 : I (61 + 2 * u) 0 = -1 := cq39; rw [eU] at h7; exact Or.inl h7)
            | (have h7 : I (61 + 2 * v) 0 = -1 := cq48; rw [eV] at h7; exact Or.inr h7)
        have eg : g_copy S Z (nI u) i (nI v) j m = (-1000000011, false) := by rw [g_copy, if_pos hs0, nI_clamp (by omega), nI_clamp (by omega), if_pos hy]
        rw [eg]
        exact ⟨rfl, rfl, fun _ _ => rfl, hS⟩
      · skip
        refine A_aload rfl dX7_copy_42 ?_
        refine A_getI fr_X7_189.g rfl (lr (isR_s hv)) dX7_copy_44 ?_
        refine A_iconst ic_m1 dX7_copy_47 ?_
        refine A_icmp_ne 54 rfl dX7_copy_48 (fun cq48 => ?_) (fun cq48 => ?_)
        · skip
          rw [eU] at cq39
          rw [eV] at cq48
          have hn : ¬ (S u = -1 ∨ S v = -1) := fun h9 => h9.elim cq39 cq48
          refine A_aload rfl dX7_copy_54 ?_
          refine A_getI fr_X7_189.g rfl (lr (isR_s hu)) dX7_copy_56 ?_
          refine A_aload rfl dX7_copy_59 ?_
          refine A_getI fr_X7_189.g rfl (lr (isR_s hv)) dX7_copy_61 ?_
          refine A_icmp_eq 70 rfl dX7_copy_64 (fun cq64 => ?_) (fun cq64 => ?_)
          · skip
            rw [eU, eV] at cq64
            refine A_aload rfl dX7_copy_70 ?_
            refine A_iload_n rfl dX7_copy_72 ?_
            refine A_iload rfl dX7_copy_73 ?_
            refine A_callV (s_stretch l G I (61 + 2 * u) (isR_s hu) _ _) m_X4_hasStretch ml_X7_255 rfl (lr (isR_s hu)) rfl (by decide) rfl rfl (Nat.le_of_ble_eq_true rfl) (by decide) (by decide) (by decide) dX7_copy_75 (fun _ _ _ h => congrArg List.length h.2.1) ?_
            rintro _ _ _ ⟨rfl, rfl, e9⟩
            refine AW_I e9 ?_
            clear e9
            refine A_if_eq 93 rfl dX7_copy_78 (fun cq78 => ?_) (fun cq78 => ?_)
            · skip
              refine A_ldc kc_X7_246 rfl dX7_copy_93 ?_
              refine A_iret rfl rfl rfl rfl dX7_copy_95 ?_
              have hno : ¬ (q_st (Z u) i m = true ∧ q_st (Z v) j m = true) := by
                first
                  | (have h7 := b2i_0.mp cq78; rw [eZu] at h7; exact fun h9 => absurd (h7.symm.trans h9.1) (by decide))
                  | (have h7 := b2i_0.mp cq90; rw [eZv] at h7; exact fun h9 => absurd (h7.symm.trans h9.2) (by decide))
              have eg : g_copy S Z (nI u) i (nI v) j m = (-1000000013, false) := by rw [g_copy, if_pos hs0, nI_clamp (by omega), nI_clamp (by omega), if_neg hn, if_pos cq64, if_neg hno]
              rw [eg]
              exact ⟨rfl, rfl, fun _ _ => rfl, hS⟩
            · skip
              refine A_aload rfl dX7_copy_81 ?_
              refine A_iload rfl dX7_copy_83 ?_
              refine A_iload rfl dX7_copy_85 ?_
              refine A_callV (s_stretch l G I (61 + 2 * v) (isR_s hv) _ _) m_X4_hasStretch ml_X7_255 rfl (lr (isR_s hv)) rfl (by decide) rfl rfl (Nat.le_of_ble_eq_true rfl) (by decide) (by decide) (by decide) dX7_copy_87 (fun _ _ _ h => congrArg List.length h.2.1) ?_
              rintro _ _ _ ⟨rfl, rfl, e9⟩
              refine AW_I e9 ?_
              clear e9
              refine A_if_ne 96 rfl dX7_copy_90 (fun cq90 => ?_) (fun cq90 => ?_)
              · skip
                have h1 := b2i_1.mp cq78
                have h2 := b2i_1.mp cq90
                rw [eZu] at h1
                rw [eZv] at h2
                obtain ⟨i1, m1, rfl, rfl, hl1⟩ := st_get hp hzu h1
                obtain ⟨j1, m2, rfl, hmm, hl2⟩ := st_get hp2 hzv h2
                have hM : m1 = m2 := by
                  have := (nI_eq (a := m1) (b := m2) (by omega) (by omega)).mp hmm
                  exact this
                subst hM
                refine A_aload rfl dX7_copy_96 ?_
                refine A_getR fr_X7_247 rfl (lr (isR_s hu)) rfl dX7_copy_98 ?_
                refine A_iload_n rfl dX7_copy_101 ?_
                refine A_aload rfl dX7_copy_102 ?_
                refine A_getR fr_X7_247 rfl (lr (isR_s hv)) rfl dX7_copy_104 ?_
                refine A_iload rfl dX7_copy_107 ?_
                refine A_iload rfl dX7_copy_109 ?_
                refine A_copy i1 j1 m1 ml_X7_258 rfl (lr2 (isR_s hu)) (lr2 (isR_s hv)) rfl rfl rfl (by omega) (by omega) (by decide) (by decide) (by decide) (by decide) dX7_copy_111 ?_
                refine A_iload rfl dX7_copy_114 ?_
                refine A_iret rfl rfl rfl rfl dX7_copy_116 ?_
                have eg : g_copy S Z (nI u) (nI i1) (nI v) (nI j1) (nI m1) = (nI m1, true) := by rw [g_copy, if_pos hs0, nI_clamp (by omega), nI_clamp (by omega), if_neg hn, if_pos cq64, if_pos ⟨h1, h2⟩]
                rw [eg, if_pos rfl, nI_clamp (by omega), nI_clamp (by omega), nI_clamp (by omega), nI_clamp (by omega), nI_clamp (by omega)]
                exact ⟨rfl, rfl, fun q hq => if_neg (by omega), hS.copy hu hv (by omega) (by omega)⟩
              · skip
                refine A_ldc kc_X7_246 rfl dX7_copy_93 ?_
                refine A_iret rfl rfl rfl rfl dX7_copy_95 ?_
                have hno : ¬ (q_st (Z u) i m = true ∧ q_st (Z v) j m = true) := by
                  first
                    | (have h7 := b2i_0.mp cq78; rw [eZu] at h7; exact fun h9 => absurd (h7.symm.trans h9.1) (by decide))
                    | (have h7 := b2i_0.mp cq90; rw [eZv] at h7; exact fun h9 => absurd (h7.symm.trans h9.2) (by decide))
                have eg : g_copy S Z (nI u) i (nI v) j m = (-1000000013, false) := by rw [g_copy, if_pos hs0, nI_clamp (by omega), nI_clamp (by omega), if_neg hn, if_pos cq64, if_neg hno]
                rw [eg]
                exact ⟨rfl, rfl, fun _ _ => rfl, hS⟩
          · skip
            refine A_ldc kc_X7_119 rfl dX7_copy_67 ?_
            refine A_iret rfl rfl rfl rfl dX7_copy_69 ?_
            rw [eU, eV] at cq64
            have eg : g_copy S Z (nI u) i (nI v) j m = (-1000000012, false) := by rw [g_copy, if_pos hs0, nI_clamp (by omega), nI_clamp (by omega), if_neg hn, if_neg cq64]
            rw [eg]
            exact ⟨rfl, rfl, fun _ _ => rfl, hS⟩
        · skip
          refine A_ldc kc_X7_192 rfl dX7_copy_51 ?_
          refine A_iret rfl rfl rfl rfl dX7_copy_53 ?_
          have hy : S u = -1 ∨ S v = -1 := by
            first
              | (have h7 : I (61 + 2 * u) 0 = -1 := cq39; rw [eU] at h7; exact Or.inl h7)
              | (have h7 : I (61 + 2 * v) 0 = -1 := cq48; rw [eV] at h7; exact Or.inr h7)
          have eg : g_copy S Z (nI u) i (nI v) j m = (-1000000011, false) := by rw [g_copy, if_pos hs0, nI_clamp (by omega), nI_clamp (by omega), if_pos hy]
          rw [eg]
          exact ⟨rfl, rfl, fun _ _ => rfl, hS⟩
    · skip
      refine A_ldc kc_X7_60 rfl dX7_copy_14 ?_
      refine A_iret rfl rfl rfl rfl dX7_copy_16 ?_
      have hno : ¬ ((0 ≤ a ∧ a ≤ 3) ∧ (0 ≤ b ∧ b ≤ 3)) := by
        first
          | (have h7 := b2i_q.mp cq4; exact fun h9 => h7 h9.1)
          | (have h7 := b2i_q.mp cq11; exact fun h9 => h7 h9.2)
      rw [g_copy, if_neg hno]
      exact ⟨rfl, rfl, fun _ _ => rfl, hS⟩
