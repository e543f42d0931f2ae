set_option maxHeartbeats 4000000 in
set_option maxRecDepth 100000 in
theorem s_passes (l : Launch) (G : Gm) (j : Nat) (hj : isJ j) (I : Hp) (N : Nrow) (hR : RepJ I j N) (a c : Nat) (ha : a < 10) (hc : c < 10) (sil : Int32) (hs : ¬ nI a = sil) (hK : KnJ N) : Meth l G yX1_passes cX1_passes 4 (some (FieldType.int)) 2 0 0 [.ref j, .int (nI a), .int (nI c)] LAY I (fun r lay1 I1 => r = some (.int (q_tb (q_tell N sil a c))) ∧ lay1 = LAY ∧ I1 = I) := by
  obtain ⟨m1, hm1, hm2⟩ := hK a ha
  obtain ⟨m, hm, hme⟩ := and_lt (y := N (18 + 5 * c) ^^^ -1) hm2 hm1
  have hpo := pass_ok (sil := sil) hs rfl hme hm
  have e1 : I (j + 3) a = N (18 + 5 * a) := hR.2.2.2.1 a ha
  have e2 : I (j + 3) c = N (18 + 5 * c) := hR.2.2.2.1 c hc
  have e3 : I (j + 1) a = N (16 + 5 * a) := hR.2.1 a ha
  refine Meth.of (by decide +kernel) (by simp [Value.category]) (Nat.le_of_ble_eq_true rfl) ?_
  refine A_aload_n rfl dX1_passes_0 ?_
  refine A_getR fr_X1_37 rfl (lj hj) rfl dX1_passes_1 ?_
  refine A_iload_n rfl dX1_passes_4 ?_
  refine A_iald _ rfl (lj3 hj) (by omega) (by decide) dX1_passes_5 ?_
  refine A_aload_n rfl dX1_passes_6 ?_
  refine A_getR fr_X1_37 rfl (lj hj) rfl dX1_passes_7 ?_
  refine A_iload_n rfl dX1_passes_10 ?_
  refine A_iald _ rfl (lj3 hj) (by omega) (by decide) dX1_passes_11 ?_
  refine A_iconst ic_m1 dX1_passes_12 ?_
  refine A_ixor dX1_passes_13 ?_
  refine A_iand dX1_passes_14 ?_
  refine A_istore_n (by decide) rfl dX1_passes_15 ?_
  refine A_aload_n rfl dX1_passes_16 ?_
  refine A_getR fr_X1_43 rfl (lj hj) rfl dX1_passes_17 ?_
  refine A_iload_n rfl dX1_passes_20 ?_
  refine A_iald _ rfl (lj1 hj) (by omega) (by decide) dX1_passes_21 ?_
  refine A_tsw 73 rfl dX1_passes_22 rfl (fun jsw off hjsw cq22 => ?_) (fun cq22 => ?_)
  · match jsw, hjsw, cq22 with
    | 0, hjsw, cq22 =>
      cases hjsw
      replace cq22 := i_eq cq22 (ic_1)
      refine ⟨56, rfl, ?_⟩
      refine A_iload_n rfl dX1_passes_56 ?_
      refine A_callS (s_gr l G _ _ _) m_X1_greatest ml_X1_46 rfl rfl rfl (Nat.le_of_ble_eq_true rfl) (by decide) (by decide) (by decide) dX1_passes_57 (fun _ _ _ h => congrArg List.length h.2.1) ?_
      rintro _ _ _ ⟨rfl, rfl, e9⟩
      refine AW_I e9 ?_
      clear e9
      refine A_iret rfl rfl rfl rfl dX1_passes_60 ?_
      rw [e3] at cq22
      refine ⟨?_, rfl, rfl⟩
      rw [hpo, e1, e2]
      first | rw [if_pos (Or.inl cq22)] | rw [if_pos (Or.inr cq22)]
    | 1, hjsw, cq22 =>
      cases hjsw
      replace cq22 := i_eq cq22 (ic_2)
      refine ⟨61, rfl, ?_⟩
      refine A_iload_n rfl dX1_passes_61 ?_
      refine A_aload_n rfl dX1_passes_62 ?_
      refine A_callV (s_sway l G j hj I N hR) m_X0_swaying ml_X1_49 rfl (lj hj) rfl (by decide) rfl rfl (Nat.le_of_ble_eq_true rfl) (by decide) (by decide) (by decide) dX1_passes_63 (fun _ _ _ h => congrArg List.length h.2.1) ?_
      rintro _ _ _ ⟨rfl, rfl, e9⟩
      refine AW_I e9 ?_
      clear e9
      refine A_iand dX1_passes_66 ?_
      refine A_callS (s_least l G _ _ _) m_X1_least ml_X1_53 rfl rfl rfl (Nat.le_of_ble_eq_true rfl) (by decide) (by decide) (by decide) dX1_passes_67 (fun _ _ _ h => congrArg List.length h.2.1) ?_
      rintro _ _ _ ⟨rfl, rfl, e9⟩
      refine AW_I e9 ?_
      clear e9
      refine A_iret rfl rfl rfl rfl dX1_passes_70 ?_
      rw [e3] at cq22
      refine ⟨?_, rfl, rfl⟩
      rw [hpo, e1, e2, if_neg (by rw [cq22]; decide)]
      first | rw [if_pos (Or.inl cq22)] | rw [if_pos (Or.inr cq22)]
    | 2, hjsw, cq22 =>
      cases hjsw
      replace cq22 := i_eq cq22 (ic_3)
      refine ⟨56, rfl, ?_⟩
      refine A_iload_n rfl dX1_passes_56 ?_
      refine A_callS (s_gr l G _ _ _) m_X1_greatest ml_X1_46 rfl rfl rfl (Nat.le_of_ble_eq_true rfl) (by decide) (by decide) (by decide) dX1_passes_57 (fun _ _ _ h => congrArg List.length h.2.1) ?_
      rintro _ _ _ ⟨rfl, rfl, e9⟩
      refine AW_I e9 ?_
      clear e9
      refine A_iret rfl rfl rfl rfl dX1_passes_60 ?_
      rw [e3] at cq22
      refine ⟨?_, rfl, rfl⟩
      rw [hpo, e1, e2]
      first | rw [if_pos (Or.inl cq22)] | rw [if_pos (Or.inr cq22)]
    | 3, hjsw, cq22 =>
      cases hjsw
      replace cq22 := i_eq cq22 (ic_4)
      refine ⟨61, rfl, ?_⟩
      refine A_iload_n rfl dX1_passes_61 ?_
      refine A_aload_n rfl dX1_passes_62 ?_
      refine A_callV (s_sway l G j hj I N hR) m_X0_swaying ml_X1_49 rfl (lj hj) rfl (by decide) rfl rfl (Nat.le_of_ble_eq_true rfl) (by decide) (by decide) (by decide) dX1_passes_63 (fun _ _ _ h => congrArg List.length h.2.1) ?_
      rintro _ _ _ ⟨rfl, rfl, e9⟩
      refine AW_I e9 ?_
      clear e9
      refine A_iand dX1_passes_66 ?_
      refine A_callS (s_least l G _ _ _) m_X1_least ml_X1_53 rfl rfl rfl (Nat.le_of_ble_eq_true rfl) (by decide) (by decide) (by decide) dX1_passes_67 (fun _ _ _ h => congrArg List.length h.2.1) ?_
      rintro _ _ _ ⟨rfl, rfl, e9⟩
      refine AW_I e9 ?_
      clear e9
      refine A_iret rfl rfl rfl rfl dX1_passes_70 ?_
      rw [e3] at cq22
      refine ⟨?_, rfl, rfl⟩
      rw [hpo, e1, e2, if_neg (by rw [cq22]; decide)]
      first | rw [if_pos (Or.inl cq22)] | rw [if_pos (Or.inr cq22)]
    | 4, hjsw, cq22 =>
      cases hjsw
      replace cq22 := i_eq cq22 (ic_5)
      refine ⟨71, rfl, ?_⟩
      refine A_iconst ic_0 dX1_passes_71 ?_
      refine A_iret rfl rfl rfl rfl dX1_passes_72 ?_
      rw [e3] at cq22
      refine ⟨?_, rfl, rfl⟩
      rw [hpo, if_neg (by rw [cq22]; decide), if_neg (by rw [cq22]; decide), if_pos cq22]
    | jsw + 5, hjsw, _ => exact absurd hjsw (by simp)
  · skip
    refine A_iload_n rfl dX1_passes_73 ?_
    refine A_callS (s_least l G _ _ _) m_X1_least ml_X1_53 rfl rfl rfl (Nat.le_of_ble_eq_true rfl) (by decide) (by decide) (by decide) dX1_passes_74 (fun _ _ _ h => congrArg List.length h.2.1) ?_
    rintro _ _ _ ⟨rfl, rfl, e9⟩
    refine AW_I e9 ?_
    clear e9
    refine A_iret rfl rfl rfl rfl dX1_passes_77 ?_
    have hne : ∀ v : Int32, 1 ≤ v.toInt → v.toInt ≤ 5 → N (16 + 5 * a) ≠ v := by
      intro v hv1 hv2 hv3
      rw [e3, hv3] at cq22
      omega
    refine ⟨?_, rfl, rfl⟩
    rw [hpo, e1, e2, if_neg (fun hqq => hqq.elim (hne 1 (by decide) (by decide)) (hne 3 (by decide) (by decide))), if_neg (fun hqq => hqq.elim (hne 2 (by decide) (by decide)) (hne 4 (by decide) (by decide))), if_neg (hne 5 (by decide) (by decide))]
theorem tell_in (N : Nrow) (sil : Int32) (a c : Nat) : q_tell N sil a c = -1 ∨ ∃ f, f < 8 ∧ q_tell N sil a c = nI f := best_in 8
theorem tb_ne : ∀ f, f < 8 → ¬ q_tb (nI f) = 0 ∧ ¬ nI f < 0 := by decide +kernel
theorem tb_0 {N : Nrow} {sil : Int32} {a c : Nat} : q_tb (q_tell N sil a c) = 0 ↔ q_tell N sil a c < 0 := by
  rcases tell_in N sil a c with h | ⟨f, h1, h2⟩
  · rw [h]; decide
  · rw [h2]
    exact ⟨fun h => absurd h (tb_ne f h1).1, fun h => absurd h (tb_ne f h1).2⟩
theorem tb_sil {N : Nrow} {sil : Int32} {a c : Nat} (h : nI a = sil) : q_tb (q_tell N sil a c) = 0 := by
  have e : q_tell N sil a c = -1 := by
    unfold q_tell
    refine best_no 8 fun f hf => ?_
    rw [if_pos (Or.inr h)]
    simp [q_may, bit_0 f hf]
  rw [e]; rfl
set_option maxHeartbeats 4000000 in
set_option maxRecDepth 100000 in
theorem s_palms (l : Launch) (G : Gm) (j : Nat) (hj : isJ j) (I : Hp) (N : Nrow) (hR : RepJ I j N) (a c : Nat) (ha : a < 10) (hc : c < 10) (hac : a ≠ c) (sil : Int32) (hK : KnJ N) : Meth l G yX0_palms cX0_palms 8 (some (FieldType.int)) 3 0 0 [.ref j, .int (nI a), .int (nI c), .int sil] LAY I (fun r lay1 I1 => r = some (.int ((if (q_tell N sil a c) < 0 then 0 else 1) + (if (q_tell N sil c a) < 0 then 0 else 1))) ∧ lay1 = LAY ∧ RepJ I1 j (q_pass (q_pass N a c (q_tell N sil a c)) c a (q_tell N sil c a)) ∧ (∀ k, (k < j ∨ j + 8 ≤ k) → I1 k = I k)) := by
  have e1 : I (j + 3) a = N (18 + 5 * a) := hR.2.2.2.1 a ha
  have e2 : I (j + 3) c = N (18 + 5 * c) := hR.2.2.2.1 c hc
  have e3 : I (j + 5) a = N (20 + 5 * a) := hR.2.2.2.2.2.1 a ha
  have e4 : I (j + 5) c = N (20 + 5 * c) := hR.2.2.2.2.2.1 c hc
  have f1 : ∀ x, up2 I (j + 3) c x (j + 3) a = I (j + 3) a := fun x => up2_ni hac
  have f2 : ∀ (K : Hp) (q : Nat) (x : Int32), up2 K (j + 3) q x (j + 5) = K (j + 5) := fun K q x => up2_ne (by omega)
  have f3 : ∀ (K : Hp) (x : Int32), up2 K (j + 5) a x (j + 5) c = K (j + 5) c := fun K x => up2_ni (Ne.symm hac)
  have j32 : AW l G yX0_palms cX0_palms 8 (some (FieldType.int)) 3 0 0 (fun r lay1 I1 => r = some (.int ((if (q_tell N sil a c) < 0 then 0 else 1) + (if (q_tell N sil c a) < 0 then 0 else 1))) ∧ lay1 = LAY ∧ RepJ I1 j (q_pass (q_pass N a c (q_tell N sil a c)) c a (q_tell N sil c a)) ∧ (∀ k, (k < j ∨ j + 8 ≤ k) → I1 k = I k)) 0 0 32 [some (.ref j), some (.int (nI a)), some (.int (nI c)), some (.int sil), some (.int (q_tb (q_tell N sil a c))), none, none, none] [.int (q_tb (q_tell N sil c a))] LAY I := by
    refine A_istore (by decide) rfl dX0_palms_32 ?_
    refine A_aload_n rfl dX0_palms_34 ?_
    refine A_getR fr_X0_18.g rfl (lj hj) rfl dX0_palms_35 ?_
    refine A_iload_n rfl dX0_palms_38 ?_
    refine A_dup2 rfl rfl dX0_palms_39 ?_
    refine A_iald _ rfl (lj3 hj) (by omega) (by decide) dX0_palms_40 ?_
    refine A_iload rfl dX0_palms_41 ?_
    refine A_ior dX0_palms_43 ?_
    refine A_iast _ rfl (lj3 hj) (by omega) (by decide) dX0_palms_44 ?_
    refine A_aload_n rfl dX0_palms_45 ?_
    refine A_getR fr_X0_18.g rfl (lj hj) rfl dX0_palms_46 ?_
    refine A_iload_n rfl dX0_palms_49 ?_
    refine A_dup2 rfl rfl dX0_palms_50 ?_
    refine A_iald _ rfl (lj3 hj) (by omega) (by decide) dX0_palms_51 ?_
    refine A_iload rfl dX0_palms_52 ?_
    refine A_ior dX0_palms_54 ?_
    refine A_iast _ rfl (lj3 hj) (by omega) (by decide) dX0_palms_55 ?_
    refine A_iload rfl dX0_palms_56 ?_
    refine A_if_ne 65 rfl dX0_palms_58 (fun cq58 => ?_) (fun cq58 => ?_)
    · skip
      refine A_iconst ic_1 dX0_palms_65 ?_
      refine A_istore (by decide) rfl dX0_palms_66 ?_
      refine A_iload rfl dX0_palms_68 ?_
      refine A_if_ne 77 rfl dX0_palms_70 (fun cq70 => ?_) (fun cq70 => ?_)
      · skip
        refine A_iconst ic_1 dX0_palms_77 ?_
        refine A_istore (by decide) rfl dX0_palms_78 ?_
        refine A_aload_n rfl dX0_palms_80 ?_
        refine A_getR fr_X0_24.g rfl (lj hj) rfl dX0_palms_81 ?_
        refine A_iload_n rfl dX0_palms_84 ?_
        refine A_dup2 rfl rfl dX0_palms_85 ?_
        refine A_iald _ rfl (lj5 hj) (by omega) (by decide) dX0_palms_86 ?_
        refine A_iload rfl dX0_palms_87 ?_
        refine A_iadd dX0_palms_89 ?_
        refine A_iast _ rfl (lj5 hj) (by omega) (by decide) dX0_palms_90 ?_
        refine A_aload_n rfl dX0_palms_91 ?_
        refine A_getR fr_X0_24.g rfl (lj hj) rfl dX0_palms_92 ?_
        refine A_iload_n rfl dX0_palms_95 ?_
        refine A_dup2 rfl rfl dX0_palms_96 ?_
        refine A_iald _ rfl (lj5 hj) (by omega) (by decide) dX0_palms_97 ?_
        refine A_iload rfl dX0_palms_98 ?_
        refine A_iadd dX0_palms_100 ?_
        refine A_iast _ rfl (lj5 hj) (by omega) (by decide) dX0_palms_101 ?_
        refine A_iload rfl dX0_palms_102 ?_
        refine A_iload rfl dX0_palms_104 ?_
        refine A_iadd dX0_palms_106 ?_
        refine A_iret rfl rfl rfl rfl dX0_palms_107 ?_
        refine ⟨?_, rfl, ?_, ?_⟩
        · first | (rw [if_pos (tb_0.mp cq58), if_pos (tb_0.mp cq70)]; done) | (rw [if_pos (tb_0.mp cq58), if_neg (mt tb_0.mpr cq70)]; done) | (rw [if_neg (mt tb_0.mpr cq58), if_pos (tb_0.mp cq70)]; done) | (rw [if_neg (mt tb_0.mpr cq58), if_neg (mt tb_0.mpr cq70)]; done)
        · rw [pal_eq hac]
          have h9 := (((hR.knows (x := N (18 + 5 * c) ||| q_tb (q_tell N sil a c)) hc).knows (x := N (18 + 5 * a) ||| q_tb (q_tell N sil c a)) ha).passed (x := N (20 + 5 * a) + (if (q_tell N sil a c) < 0 then 0 else 1)) ha).passed (x := N (20 + 5 * c) + (if (q_tell N sil c a) < 0 then 0 else 1)) hc
          simp only [f1, f2, f3, e1, e2, e3, e4]
          first | (rw [if_pos (tb_0.mp cq58), if_pos (tb_0.mp cq70)] at h9 ⊢; exact h9) | (rw [if_pos (tb_0.mp cq58), if_neg (mt tb_0.mpr cq70)] at h9 ⊢; exact h9) | (rw [if_neg (mt tb_0.mpr cq58), if_pos (tb_0.mp cq70)] at h9 ⊢; exact h9) | (rw [if_neg (mt tb_0.mpr cq58), if_neg (mt tb_0.mpr cq70)] at h9 ⊢; exact h9)
        · intro k hk
          rw [up2_ne (by omega), up2_ne (by omega), up2_ne (by omega), up2_ne (by omega)]
      · skip
        refine A_iconst ic_0 dX0_palms_73 ?_
        refine A_goto 78 rfl dX0_palms_74 ?_
        refine A_istore (by decide) rfl dX0_palms_78 ?_
        refine A_aload_n rfl dX0_palms_80 ?_
        refine A_getR fr_X0_24.g rfl (lj hj) rfl dX0_palms_81 ?_
        refine A_iload_n rfl dX0_palms_84 ?_
        refine A_dup2 rfl rfl dX0_palms_85 ?_
        refine A_iald _ rfl (lj5 hj) (by omega) (by decide) dX0_palms_86 ?_
        refine A_iload rfl dX0_palms_87 ?_
        refine A_iadd dX0_palms_89 ?_
        refine A_iast _ rfl (lj5 hj) (by omega) (by decide) dX0_palms_90 ?_
        refine A_aload_n rfl dX0_palms_91 ?_
        refine A_getR fr_X0_24.g rfl (lj hj) rfl dX0_palms_92 ?_
        refine A_iload_n rfl dX0_palms_95 ?_
        refine A_dup2 rfl rfl dX0_palms_96 ?_
        refine A_iald _ rfl (lj5 hj) (by omega) (by decide) dX0_palms_97 ?_
        refine A_iload rfl dX0_palms_98 ?_
        refine A_iadd dX0_palms_100 ?_
        refine A_iast _ rfl (lj5 hj) (by omega) (by decide) dX0_palms_101 ?_
        refine A_iload rfl dX0_palms_102 ?_
        refine A_iload rfl dX0_palms_104 ?_
        refine A_iadd dX0_palms_106 ?_
        refine A_iret rfl rfl rfl rfl dX0_palms_107 ?_
        refine ⟨?_, rfl, ?_, ?_⟩
        · first | (rw [if_pos (tb_0.mp cq58), if_pos (tb_0.mp cq70)]; done) | (rw [if_pos (tb_0.mp cq58), if_neg (mt tb_0.mpr cq70)]; done) | (rw [if_neg (mt tb_0.mpr cq58), if_pos (tb_0.mp cq70)]; done) | (rw [if_neg (mt tb_0.mpr cq58), if_neg (mt tb_0.mpr cq70)]; done)
        · rw [pal_eq hac]
          have h9 := (((hR.knows (x := N (18 + 5 * c) ||| q_tb (q_tell N sil a c)) hc).knows (x := N (18 + 5 * a) ||| q_tb (q_tell N sil c a)) ha).passed (x := N (20 + 5 * a) + (if (q_tell N sil a c) < 0 then 0 else 1)) ha).passed (x := N (20 + 5 * c) + (if (q_tell N sil c a) < 0 then 0 else 1)) hc
          simp only [f1, f2, f3, e1, e2, e3, e4]
          first | (rw [if_pos (tb_0.mp cq58), if_pos (tb_0.mp cq70)] at h9 ⊢; exact h9) | (rw [if_pos (tb_0.mp cq58), if_neg (mt tb_0.mpr cq70)] at h9 ⊢; exact h9) | (rw [if_neg (mt tb_0.mpr cq58), if_pos (tb_0.mp cq70)] at h9 ⊢; exact h9) | (rw [if_neg (mt tb_0.mpr cq58), if_neg (mt tb_0.mpr cq70)] at h9 ⊢; exact h9)
        · intro k hk
          rw [up2_ne (by omega), up2_ne (by omega), up2_ne (by omega), up2_ne (by omega)]
    · skip
      refine A_iconst ic_0 dX0_palms_61 ?_
      refine A_goto 66 rfl dX0_palms_62 ?_
      refine A_istore (by decide) rfl dX0_palms_66 ?_
      refine A_iload rfl dX0_palms_68 ?_
      refine A_if_ne 77 rfl dX0_palms_70 (fun cq70 => ?_) (fun cq70 => ?_)
      · skip
        refine A_iconst ic_1 dX0_palms_77 ?_
        refine A_istore (by decide) rfl dX0_palms_78 ?_
        refine A_aload_n rfl dX0_palms_80 ?_
        refine A_getR fr_X0_24.g rfl (lj hj) rfl dX0_palms_81 ?_
        refine A_iload_n rfl dX0_palms_84 ?_
        refine A_dup2 rfl rfl dX0_palms_85 ?_
        refine A_iald _ rfl (lj5 hj) (by omega) (by decide) dX0_palms_86 ?_
        refine A_iload rfl dX0_palms_87 ?_
        refine A_iadd dX0_palms_89 ?_
        refine A_iast _ rfl (lj5 hj) (by omega) (by decide) dX0_palms_90 ?_
        refine A_aload_n rfl dX0_palms_91 ?_
        refine A_getR fr_X0_24.g rfl (lj hj) rfl dX0_palms_92 ?_
        refine A_iload_n rfl dX0_palms_95 ?_
        refine A_dup2 rfl rfl dX0_palms_96 ?_
        refine A_iald _ rfl (lj5 hj) (by omega) (by decide) dX0_palms_97 ?_
        refine A_iload rfl dX0_palms_98 ?_
        refine A_iadd dX0_palms_100 ?_
        refine A_iast _ rfl (lj5 hj) (by omega) (by decide) dX0_palms_101 ?_
        refine A_iload rfl dX0_palms_102 ?_
        refine A_iload rfl dX0_palms_104 ?_
        refine A_iadd dX0_palms_106 ?_
        refine A_iret rfl rfl rfl rfl dX0_palms_107 ?_
        refine ⟨?_, rfl, ?_, ?_⟩
        · first | (rw [if_pos (tb_0.mp cq58), if_pos (tb_0.mp cq70)]; done) | (rw [if_pos (tb_0.mp cq58), if_neg (mt tb_0.mpr cq70)]; done) | (rw [if_neg (mt tb_0.mpr cq58), if_pos (tb_0.mp cq70)]; done) | (rw [if_neg (mt tb_0.mpr cq58), if_neg (mt tb_0.mpr cq70)]; done)
        · rw [pal_eq hac]
          have h9 := (((hR.knows (x := N (18 + 5 * c) ||| q_tb (q_tell N sil a c)) hc).knows (x := N (18 + 5 * a) ||| q_tb (q_tell N sil c a)) ha).passed (x := N (20 + 5 * a) + (if (q_tell N sil a c) < 0 then 0 else 1)) ha).passed (x := N (20 + 5 * c) + (if (q_tell N sil c a) < 0 then 0 else 1)) hc
          simp only [f1, f2, f3, e1, e2, e3, e4]
          first | (rw [if_pos (tb_0.mp cq58), if_pos (tb_0.mp cq70)] at h9 ⊢; exact h9) | (rw [if_pos (tb_0.mp cq58), if_neg (mt tb_0.mpr cq70)] at h9 ⊢; exact h9) | (rw [if_neg (mt tb_0.mpr cq58), if_pos (tb_0.mp cq70)] at h9 ⊢; exact h9) | (rw [if_neg (mt tb_0.mpr cq58), if_neg (mt tb_0.mpr cq70)] at h9 ⊢; exact h9)
        · intro k hk
          rw [up2_ne (by omega), up2_ne (by omega), up2_ne (by omega), up2_ne (by omega)]
      · skip
        refine A_iconst ic_0 dX0_palms_73 ?_
        refine A_goto 78 rfl dX0_palms_74 ?_
        refine A_istore (by decide) rfl dX0_palms_78 ?_
        refine A_aload_n rfl dX0_palms_80 ?_
        refine A_getR fr_X0_24.g rfl (lj hj) rfl dX0_palms_81 ?_
        refine A_iload_n rfl dX0_palms_84 ?_
        refine A_dup2 rfl rfl dX0_palms_85 ?_
        refine A_iald _ rfl (lj5 hj) (by omega) (by decide) dX0_palms_86 ?_
        refine A_iload rfl dX0_palms_87 ?_
        refine A_iadd dX0_palms_89 ?_
        refine A_iast _ rfl (lj5 hj) (by omega) (by decide) dX0_palms_90 ?_
        refine A_aload_n rfl dX0_palms_91 ?_
        refine A_getR fr_X0_24.g rfl (lj hj) rfl dX0_palms_92 ?_
        refine A_iload_n rfl dX0_palms_95 ?_
        refine A_dup2 rfl rfl dX0_palms_96 ?_
        refine A_iald _ rfl (lj5 hj) (by omega) (by decide) dX0_palms_97 ?_
        refine A_iload rfl dX0_palms_98 ?_
        refine A_iadd dX0_palms_100 ?_
        refine A_iast _ rfl (lj5 hj) (by omega) (by decide) dX0_palms_101 ?_
        refine A_iload rfl dX0_palms_102 ?_
        refine A_iload rfl dX0_palms_104 ?_
        refine A_iadd dX0_palms_106 ?_
        refine A_iret rfl rfl rfl rfl dX0_palms_107 ?_
        refine ⟨?_, rfl, ?_, ?_⟩
        · first | (rw [if_pos (tb_0.mp cq58), if_pos (tb_0.mp cq70)]; done) | (rw [if_pos (tb_0.mp cq58), if_neg (mt tb_0.mpr cq70)]; done) | (rw [if_neg (mt tb_0.mpr cq58), if_pos (tb_0.mp cq70)]; done) | (rw [if_neg (mt tb_0.mpr cq58), if_neg (mt tb_0.mpr cq70)]; done)
        · rw [pal_eq hac]
          have h9 := (((hR.knows (x := N (18 + 5 * c) ||| q_tb (q_tell N sil a c)) hc).knows (x := N (18 + 5 * a) ||| q_tb (q_tell N sil c a)) ha).passed (x := N (20 + 5 * a) + (if (q_tell N sil a c) < 0 then 0 else 1)) ha).passed (x := N (20 + 5 * c) + (if (q_tell N sil c a) < 0 then 0 else 1)) hc
          simp only [f1, f2, f3, e1, e2, e3, e4]
          first | (rw [if_pos (tb_0.mp cq58), if_pos (tb_0.mp cq70)] at h9 ⊢; exact h9) | (rw [if_pos (tb_0.mp cq58), if_neg (mt tb_0.mpr cq70)] at h9 ⊢; exact h9) | (rw [if_neg (mt tb_0.mpr cq58), if_pos (tb_0.mp cq70)] at h9 ⊢; exact h9) | (rw [if_neg (mt tb_0.mpr cq58), if_neg (mt tb_0.mpr cq70)] at h9 ⊢; exact h9)
        · intro k hk
          rw [up2_ne (by omega), up2_ne (by omega), up2_ne (by omega), up2_ne (by omega)]
  have j15 : AW l G yX0_palms cX0_palms 8 (some (FieldType.int)) 3 0 0 (fun r lay1 I1 => r = some (.int ((if (q_tell N sil a c) < 0 then 0 else 1) + (if (q_tell N sil c a) < 0 then 0 else 1))) ∧ lay1 = LAY ∧ RepJ I1 j (q_pass (q_pass N a c (q_tell N sil a c)) c a (q_tell N sil c a)) ∧ (∀ k, (k < j ∨ j + 8 ≤ k) → I1 k = I k)) 0 0 15 [some (.ref j), some (.int (nI a)), some (.int (nI c)), some (.int sil), none, none, none, none] [.int (q_tb (q_tell N sil a c))] LAY I := by
    refine A_istore (by decide) rfl dX0_palms_15 ?_
    refine A_iload_n rfl dX0_palms_17 ?_
    refine A_iload_n rfl dX0_palms_18 ?_
    refine A_icmp_ne 26 rfl dX0_palms_19 (fun cq19 => ?_) (fun cq19 => ?_)
    · skip
      refine A_aload_n rfl dX0_palms_26 ?_
      refine A_iload_n rfl dX0_palms_27 ?_
      refine A_iload_n rfl dX0_palms_28 ?_
      refine A_callS (s_passes l G j hj I N hR c a hc ha sil cq19 hK) m_X1_passes ml_X0_94 rfl rfl rfl (Nat.le_of_ble_eq_true rfl) (by decide) (by decide) (by decide) dX0_palms_29 (fun _ _ _ h => congrArg List.length h.2.1) ?_
      rintro _ _ _ ⟨rfl, rfl, e9⟩
      refine AW_I e9 ?_
      clear e9
      first | exact j32 | exact AW_st (by rw [tb_sil cq19]) j32
    · skip
      refine A_iconst ic_0 dX0_palms_22 ?_
      refine A_goto 32 rfl dX0_palms_23 ?_
      first | exact j32 | exact AW_st (by rw [tb_sil cq19]) j32
  refine Meth.of (by decide +kernel) (by simp [Value.category]) (Nat.le_of_ble_eq_true rfl) ?_
  refine A_iload_n rfl dX0_palms_0 ?_
  refine A_iload_n rfl dX0_palms_1 ?_
  refine A_icmp_ne 9 rfl dX0_palms_2 (fun cq2 => ?_) (fun cq2 => ?_)
  · skip
    refine A_aload_n rfl dX0_palms_9 ?_
    refine A_iload_n rfl dX0_palms_10 ?_
    refine A_iload_n rfl dX0_palms_11 ?_
    refine A_callS (s_passes l G j hj I N hR a c ha hc sil cq2 hK) m_X1_passes ml_X0_94 rfl rfl rfl (Nat.le_of_ble_eq_true rfl) (by decide) (by decide) (by decide) dX0_palms_12 (fun _ _ _ h => congrArg List.length h.2.1) ?_
    rintro _ _ _ ⟨rfl, rfl, e9⟩
    refine AW_I e9 ?_
    clear e9
    first | exact j15 | exact AW_st (by rw [tb_sil cq2]) j15
  · skip
    refine A_iconst ic_0 dX0_palms_5 ?_
    refine A_goto 15 rfl dX0_palms_6 ?_
    first | exact j15 | exact AW_st (by rw [tb_sil cq2]) j15
theorem tb_lt (N : Nrow) (sil : Int32) (a c : Nat) : ∃ q, q < 256 ∧ q_tb (q_tell N sil a c) = nI q := by
  have h : ∀ f, f < 8 → ∃ q, q < 256 ∧ q_tb (nI f) = nI q := by
    intro f hf
    refine ⟨2 ^ f, Nat.pow_lt_pow_right (by decide) hf, ?_⟩
    have : ∀ f, f < 8 → q_tb (nI f) = nI (2 ^ f) := by decide +kernel
    exact this f hf
  rcases tell_in N sil a c with h0 | ⟨f, h1, h2⟩
  · exact ⟨0, by decide, by rw [h0]; rfl⟩
  · rw [h2]; exact h f h1
theorem KnJ.up {N : Nrow} {m : Nat} {x : Int32} (h : KnJ N) (hm : ∀ i, i < 10 → m ≠ 18 + 5 * i) : KnJ (upd N m x) := fun i hi => by rw [upd_n (Ne.symm (hm i hi))]; exact h i hi
theorem KnJ.put {N : Nrow} {i m : Nat} {x : Int32} (h : KnJ N) (hi : i < 10) (hm : m < 256) (hx : x = nI m) : KnJ (upd N (18 + 5 * i) x) := fun q hq => by
  by_cases e : q = i
  · subst e; rw [upd_s]; exact ⟨m, hm, hx⟩
  · rw [upd_n (by omega)]; exact h q hq
theorem KnJ.pass {N M : Nrow} {sil : Int32} {a c b e : Nat} (h : KnJ N) (hc : c < 10) (ha : a < 10) : KnJ (q_pass N a c (q_tell M sil b e)) := by
  rw [tb_or]
  obtain ⟨m, hm1, hm2⟩ := h c hc
  obtain ⟨q, hq1, hq2⟩ := tb_lt M sil b e
  obtain ⟨r, hr1, hr2⟩ := or_lt hm2 hm1 hq2 hq1
  exact (h.put hc hr1 hr2).up (fun i hi => by omega)
theorem pass_1 {N : Nrow} {a c m : Nat} {t : Int32} (h1 : m ≠ 18 + 5 * c) (h2 : m ≠ 20 + 5 * a) : q_pass N a c t m = N m := by
  rw [tb_or, upd_n h2, upd_n h1]
/-- what a pair leaves -/
theorem pair_keep {N : Nrow} {sil : Int32} {n k : Nat} (hn : n ≤ 10) (hN : N 1 = nI n) (hk : k < n) (hK : KnJ N) : (q_pair sil N k).1 1 = nI n ∧ KnJ (q_pair sil N k).1 := by
  obtain ⟨c, hc1, hc2⟩ := par_in hN (by omega) hn (nI k)
  unfold q_pair
  split
  · dsimp only
    split
    · dsimp only
      exact ⟨by rw [upd_n (by decide), upd_n (by decide)]; exact hN, (hK.up (fun i hi => by omega)).up (fun i hi => by omega)⟩
    · dsimp only
      rw [hc2, nI_clamp (by omega)]
      refine ⟨by rw [pass_1 (by omega) (by omega), pass_1 (by omega) (by omega), upd_n (by decide)]; exact hN, ?_⟩
      exact ((hK.up (fun i hi => by omega)).pass (by omega) (by omega)).pass (by omega) (by omega)
  · exact ⟨hN, hK⟩
theorem hourL_keep {N : Nrow} {sil : Int32} {n : Nat} (hn : n ≤ 10) (hN : N 1 = nI n) (hK : KnJ N) : ∀ k, k ≤ n → (q_hourL sil N k).1 1 = nI n ∧ KnJ (q_hourL sil N k).1
  | 0, _ => ⟨hN, hK⟩
  | k + 1, h => by
    obtain ⟨h1, h2⟩ := hourL_keep (sil := sil) hn hN hK k (by omega)
    exact pair_keep hn h1 (by omega) h2
/-- an hour's pair, case by case -/
theorem pair_no {N : Nrow} {sil : Int32} {k : Nat} (h : ¬ nI k < q_par N (nI k)) : q_pair sil N k = (N, 0) := by unfold q_pair; rw [if_neg h]
theorem pair_slip {N : Nrow} {sil : Int32} {k : Nat} (h : nI k < q_par N (nI k)) (h2 : irem (q_r (q_z (N 0))) 100 < N 4) : q_pair sil N k = (upd (upd N 0 (q_z (N 0))) 6 (N 6 + 1), 0) := by
  unfold q_pair
  rw [if_pos h]
  dsimp only
  rw [upd_s, upd_n (show 4 ≠ 0 by decide), if_pos h2, upd_n (show 6 ≠ 0 by decide)]
theorem pair_pal {N : Nrow} {sil : Int32} {k c : Nat} (h : nI k < q_par N (nI k)) (h2 : ¬ irem (q_r (q_z (N 0))) 100 < N 4) (hc : q_par N (nI k) = nI c) (hc2 : c < 10) : q_pair sil N k = (q_pass (q_pass (upd N 0 (q_z (N 0))) k c (q_tell (upd N 0 (q_z (N 0))) sil k c)) c k (q_tell (upd N 0 (q_z (N 0))) sil c k), (if q_tell (upd N 0 (q_z (N 0))) sil k c < 0 then 0 else 1) + (if q_tell (upd N 0 (q_z (N 0))) sil c k < 0 then 0 else 1)) := by
  unfold q_pair
  rw [if_pos h]
  dsimp only
  rw [upd_s, upd_n (show 4 ≠ 0 by decide), if_neg h2, hc, nI_clamp (by omega)]
set_option maxHeartbeats 4000000 in
set_option maxRecDepth 100000 in
theorem s_hour (l : Launch) (G : Gm) (j : Nat) (hj : isJ j) (I : Hp) (N : Nrow) (n : Nat) (hn : n ≤ 10) (hN : N 1 = nI n) (hR : RepJ I j N) (hK : KnJ N) (sil : Int32) : Meth l G yX0_anHour cX0_anHour 5 (some (FieldType.int)) 4 0 0 [.ref j, .int sil] LAY I (fun r lay1 I1 => r = some (.int (q_hour sil N n).2) ∧ lay1 = LAY ∧ RepJ I1 j (q_hour sil N n).1 ∧ (∀ k, (k < j ∨ j + 8 ≤ k) → I1 k = I k)) := by
  have loop : ∀ (lpn : Nat) (k : Nat) (x s : Int32) (o4 : Option Value) (K : Hp), n - k = lpn → (k ≤ n) → (x = nI k) → (s = (q_hourL sil N k).2) → (RepJ K j (q_hourL sil N k).1) → (∀ q, (q < j ∨ j + 8 ≤ q) → K q = I q) → AW l G yX0_anHour cX0_anHour 5 (some (FieldType.int)) 4 0 0 (fun r lay1 I1 => r = some (.int (q_hour sil N n).2) ∧ lay1 = LAY ∧ RepJ I1 j (q_hour sil N n).1 ∧ (∀ k, (k < j ∨ j + 8 ≤ k) → I1 k = I k)) 0 0 4 [some (.ref j), some (.int sil), some (.int s), some (.int x), o4] [] LAY K := by
    intro lpn
    induction lpn using Nat.strongRecOn with
    | _ lpn ih =>
      intro k x s o4 K hms hk hx hs hRk hfr
      subst hx
      obtain ⟨hN1, hK1⟩ := hourL_keep (sil := sil) hn hN hK k hk
      have hsz : K j 8 = nI n := hRk.1.1.trans hN1
      refine A_iload_n rfl dX0_anHour_4 ?_
      refine A_aload_n rfl dX0_anHour_5 ?_
      refine A_getI fr_X0_53.g rfl (lj hj) dX0_anHour_6 ?_
      refine A_icmp_ge 69 rfl dX0_anHour_9 (fun cq9 => ?_) (fun cq9 => ?_)
      · skip
        have hkn := (le_nI hsz rfl (by omega) (by omega)).mp cq9
        have hke : k = n := by omega
        subst hke
        refine A_aload_n rfl dX0_anHour_69 ?_
        refine A_dup rfl dX0_anHour_70 ?_
        refine A_getI fr_X0_62.g rfl (lj hj) dX0_anHour_71 ?_
        refine A_iconst ic_1 dX0_anHour_74 ?_
        refine A_iadd dX0_anHour_75 ?_
        refine A_putI fr_X0_62 rfl (lj hj) rfl rfl dX0_anHour_76 ?_
        refine A_iload_n rfl dX0_anHour_79 ?_
        refine A_iret rfl rfl rfl rfl dX0_anHour_80 ?_
        refine ⟨by rw [hs]; rfl, rfl, ?_, ?_⟩
        · have h9 := hRk.hour (x := K j 13 + 1)
          rw [hRk.1.2.2.2.2.2.1] at h9
          show RepJ (up2 K j 13 (K j 13 + 1)) j _
          rw [hRk.1.2.2.2.2.2.1]
          exact h9
        · intro q hq
          rw [up2_ne (by omega)]
          exact hfr q hq
      · skip
        have hkn : k < n := by
          have hq1 := mt (le_nI hsz (rfl : nI k = nI k) (by omega) (by omega)).mpr cq9
          omega
        obtain ⟨c, hc1, hc2⟩ := par_in hN1 (by omega) hn (nI k)
        refine A_aload_n rfl dX0_anHour_12 ?_
        refine A_iload_n rfl dX0_anHour_13 ?_
        refine A_callV (s_par l G j hj K (q_hourL sil N k).1 n hn hN1 hRk (by omega) (nI k)) m_X0_partner ml_X0_87 rfl (lj hj) rfl (by decide) rfl rfl (Nat.le_of_ble_eq_true rfl) (by decide) (by decide) (by decide) dX0_anHour_14 (fun _ _ _ h => congrArg List.length h.2.1) ?_
        rintro _ _ _ ⟨rfl, rfl, e9⟩
        refine AW_I e9 ?_
        clear e9
        refine A_istore (by decide) rfl dX0_anHour_17 ?_
        refine A_iload rfl dX0_anHour_19 ?_
        refine A_iload_n rfl dX0_anHour_21 ?_
        refine A_icmp_le 63 rfl dX0_anHour_22 (fun cq22 => ?_) (fun cq22 => ?_)
        · skip
          refine A_iinc ic_1 rfl (by decide) rfl dX0_anHour_63 ?_
          refine A_goto 4 rfl dX0_anHour_66 ?_
          refine ih (n - (k + 1)) (by omega) (k + 1) _ _ _ _ rfl (by omega) (nI_1 k) ?_ ?_ ?_
          · rw [hs, q_hourL, pair_no (Int32.not_lt.mpr cq22)]; simp
          · rw [q_hourL, pair_no (Int32.not_lt.mpr cq22)]; exact hRk
          · exact hfr
        · skip
          have hlt : nI k < q_par (q_hourL sil N k).1 (nI k) := Int32.not_le.mp cq22
          have hlt2 : k < c := by rw [hc2] at hlt; exact (lt_nI rfl rfl (by omega) (by omega)).mp hlt
          refine A_aload_n rfl dX0_anHour_25 ?_
          refine A_callV (s_draw l G j hj K _ rfl) m_X0_draw ml_X0_68 rfl (lj hj) rfl (by decide) rfl rfl (Nat.le_of_ble_eq_true rfl) (by decide) (by decide) (by decide) dX0_anHour_26 (fun _ _ _ h => congrArg List.length h.2.1) ?_
          rintro _ _ _ ⟨rfl, rfl, e9⟩
          refine AW_I e9 ?_
          clear e9
          refine A_bipush bp_100 dX0_anHour_29 ?_
          refine A_irem dX0_anHour_31 (by decide) ?_
          refine A_aload_n rfl dX0_anHour_32 ?_
          refine A_getI fr_X0_37.g rfl (lj hj) dX0_anHour_33 ?_
          refine A_icmp_ge 52 rfl dX0_anHour_36 (fun cq36 => ?_) (fun cq36 => ?_)
          · skip
            rw [hc2]
            refine A_iload_n rfl dX0_anHour_52 ?_
            refine A_aload_n rfl dX0_anHour_53 ?_
            refine A_iload_n rfl dX0_anHour_54 ?_
            refine A_iload rfl dX0_anHour_55 ?_
            refine A_iload_n rfl dX0_anHour_57 ?_
            refine A_callV (s_palms l G j hj _ _ (hRk.z (x := q_z (K j 14))) k c (by omega) (by omega) (by omega) sil (hK1.up (fun i hi => by omega))) m_X0_palms ml_X0_90 rfl (lj hj) rfl (by decide) rfl rfl (Nat.le_of_ble_eq_true rfl) (by decide) (by decide) (by decide) dX0_anHour_58 (fun _ _ _ hqq => congrArg List.length hqq.2.1) ?_
            rintro _ _ K2 ⟨rfl, rfl, hR2, hf2⟩
            refine A_iadd dX0_anHour_61 ?_
            refine A_istore_n (by decide) rfl dX0_anHour_62 ?_
            have hz0 : K j 14 = (q_hourL sil N k).1 0 := hRk.1.2.2.2.2.2.2.1
            have hsl : up2 K j 14 (q_z (K j 14)) j 10 = (q_hourL sil N k).1 4 := by rw [up2_ni (by decide)]; exact hRk.1.2.2.1
            rw [hsl, hz0] at cq36
            rw [hz0] at hR2 ⊢
            refine A_iinc ic_1 rfl (by decide) rfl dX0_anHour_63 ?_
            refine A_goto 4 rfl dX0_anHour_66 ?_
            refine ih (n - (k + 1)) (by omega) (k + 1) _ _ _ _ rfl (by omega) (nI_1 k) ?_ ?_ ?_
            · rw [hs, q_hourL, pair_pal hlt (Int32.not_lt.mpr cq36) hc2 (by omega)]
            · rw [q_hourL, pair_pal hlt (Int32.not_lt.mpr cq36) hc2 (by omega)]
              exact hR2
            · intro q hq
              rw [hf2 q hq, up2_ne (by omega)]
              exact hfr q hq
          · skip
            refine A_aload_n rfl dX0_anHour_39 ?_
            refine A_dup rfl dX0_anHour_40 ?_
            refine A_getI fr_X0_59.g rfl (lj hj) dX0_anHour_41 ?_
            refine A_iconst ic_1 dX0_anHour_44 ?_
            refine A_iadd dX0_anHour_45 ?_
            refine A_putI fr_X0_59 rfl (lj hj) rfl rfl dX0_anHour_46 ?_
            refine A_goto 63 rfl dX0_anHour_49 ?_
            have hz0 : K j 14 = (q_hourL sil N k).1 0 := hRk.1.2.2.2.2.2.2.1
            have hsl : up2 K j 14 (q_z (K j 14)) j 10 = (q_hourL sil N k).1 4 := by rw [up2_ni (by decide)]; exact hRk.1.2.2.1
            rw [hsl, hz0] at cq36
            refine A_iinc ic_1 rfl (by decide) rfl dX0_anHour_63 ?_
            refine A_goto 4 rfl dX0_anHour_66 ?_
            refine ih (n - (k + 1)) (by omega) (k + 1) _ _ _ _ rfl (by omega) (nI_1 k) ?_ ?_ ?_
            · rw [hs, q_hourL, pair_slip hlt (Int32.not_le.mp cq36)]; simp
            · rw [q_hourL, pair_slip hlt (Int32.not_le.mp cq36)]
              have h9 := (hRk.z (x := q_z (K j 14))).slips (x := (q_hourL sil N k).1 6 + 1)
              have hs6 : up2 K j 14 (q_z (K j 14)) j 12 = (q_hourL sil N k).1 6 := by rw [up2_ni (by decide)]; exact hRk.1.2.2.2.2.1
              rw [hs6, hz0]
              rw [hz0] at h9
              exact h9
            · intro q hq
              rw [up2_ne (by omega), up2_ne (by omega)]
              exact hfr q hq
  refine Meth.of (by decide +kernel) (by simp [Value.category]) (Nat.le_of_ble_eq_true rfl) ?_
  refine A_iconst ic_0 dX0_anHour_0 ?_
  refine A_istore_n (by decide) rfl dX0_anHour_1 ?_
  refine A_iconst ic_0 dX0_anHour_2 ?_
  refine A_istore_n (by decide) rfl dX0_anHour_3 ?_
  exact loop n 0 _ _ _ I (by omega) (by omega) nI_0.symm rfl hR (fun _ _ => rfl)
