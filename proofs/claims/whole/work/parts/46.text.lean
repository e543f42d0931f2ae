/-- the first word -/
def tk0 (B : Nat → Int32) (L : Nat) : Tok := lx B L 0 false
def KyW (B : Nat → Int32) (L key : Nat) : Prop := key ≤ 2 ∧ lx_wd B (tk0 B L) key ∧ ∀ j, j < key → ¬ lx_wd B (tk0 B L) j
def FaT (B : Nat → Int32) (L f : Nat) : Prop := f ≤ L ∧ ((f = (tk0 B L).1 ∧ ∀ j, j ≤ 2 → ¬ lx_wd B (tk0 B L) j) ∨ ∃ key c, KyW B L key ∧ m_E B L key (lx_nx B L (tk0 B L)) true [] [] 0 (fun _ => false) (false, f, c))
def OkT (B : Nat → Int32) (L key : Nat) (D : List Int32) : Prop := KyW B L key ∧ (∃ f, m_E B L key (lx_nx B L (tk0 B L)) true [] [] 0 (fun _ => false) (true, f, D)) ∧ m_wf (nnk key) D ∧ m_dp D = 1 ∧ D.length ≤ 96
theorem LwT.nil {J : Hp} {key : Nat} : LwT (up2 (up2 (up2 J 34 0 (nI key)) 34 1 0) 34 3 0) key [] := ⟨by rw [up2_ni (by decide), up2_ni (by decide), up2_same], by rw [up2_ni (by decide), up2_same]; rfl, by rw [up2_same]; rfl, trivial⟩
set_option maxHeartbeats 1000000 in
set_option maxRecDepth 100000 in
theorem s_fault (l : Launch) (G : Gm) (I : Hp) (B : Nat → Int32) (L : Nat) (hB : TpI B L I)  : Meth l G yX6_faultOfText cX6_faultOfText 2 (some (FieldType.int)) 150 0 0 [.ref 32] LAY I (fun r lay1 I1 => ∃ x, r = some (.int x) ∧ lay1 = LAY ∧ (∀ q, q ≠ 32 → q ≠ 34 → q ≠ 35 → I1 q = I q) ∧ ((∃ f, x = nI f ∧ FaT B L f) ∨ (x = -1 ∧ ∃ key D, OkT B L key D ∧ LwT I1 key D))) := by
  refine Meth.of (by decide +kernel) (by simp [Value.category]) (Nat.le_of_ble_eq_true rfl) ?_
  have hB0 : TpI B L (up2 (up2 I 32 4 0) 32 5 3) := hB.fr (by rw [up2_ni (by decide), up2_ni (by decide)]) (by rw [up2_ne (by decide), up2_ne (by decide)])
  refine A_aload_n rfl dX6_faultOfText_0 ?_
  refine A_iconst ic_0 dX6_faultOfText_1 ?_
  refine A_putI fr_X6_26 rfl lay_32 rfl rfl dX6_faultOfText_2 ?_
  refine A_aload_n rfl dX6_faultOfText_5 ?_
  refine A_iconst ic_3 dX6_faultOfText_6 ?_
  refine A_putI fr_X6_29 rfl lay_32 rfl rfl dX6_faultOfText_7 ?_
  refine A_aload_n rfl dX6_faultOfText_10 ?_
  refine A_callV (s_step l G (up2 (up2 I 32 4 0) 32 5 3) B L hB0 0 3 (by omega) (by rw [up2_ni (by decide), up2_same]; rfl) (by rw [up2_same]; rfl) (by decide)) m_X6_step ml_X6_32 rfl lay_32 rfl (by decide) rfl rfl (Nat.le_of_ble_eq_true rfl) (by decide) (by decide) (by decide) dX6_faultOfText_11 (fun _ _ _ hqq => congrArg List.length hqq.2.1) ?_
  rintro _ _ K ⟨rfl, rfl, hT, hK0, hK1⟩
  have hB1 : TpI B L K := hB0.fr hK0 (hK1 33 (by decide))
  have hIx : lx_I B L (tk0 B L) := lx_I.of hB.2.2 (Nat.zero_le _)
  have hT : TkC K (tk0 B L) := hT
  have hfr1 : ∀ q, q ≠ 32 → q ≠ 34 → q ≠ 35 → K q = I q := fun q a b c => by rw [hK1 q a, up2_ne a, up2_ne a]
  refine A_aload_n rfl dX6_faultOfText_14 ?_
  refine A_callV (s_key l G K B L hB1 (tk0 B L) hT hIx) m_X6_keyAtHand ml_X6_35 rfl lay_32 rfl (by decide) rfl rfl (Nat.le_of_ble_eq_true rfl) (by decide) (by decide) (by decide) dX6_faultOfText_15 (fun _ _ _ ⟨_, _, hqq, _⟩ => congrArg List.length hqq) ?_
  rintro _ _ _ ⟨x, rfl, rfl, e9, hky⟩
  refine AW_I e9 ?_
  clear e9
  refine A_istore_n (by decide) rfl dX6_faultOfText_18 ?_
  refine A_iload_n rfl dX6_faultOfText_19 ?_
  refine A_if_ge 28 rfl dX6_faultOfText_20 (fun cq20 => ?_) (fun cq20 => ?_)
  · skip
    have h0x : 0 ≤ x := cq20
    rcases hky with ⟨hx, -⟩ | ⟨key, hk2, rfl, hw1, hw2⟩
    · rw [hx] at h0x; exact absurd h0x (by decide)
    have hky1 : KyW B L key := ⟨hk2, hw1, hw2⟩
    have hP0 : PS I (up2 (up2 (up2 K 34 0 (nI key)) 34 1 0) 34 3 0) B L key (tk0 B L) [] := ⟨hB1.fr (by rw [up2_ne (by decide), up2_ne (by decide), up2_ne (by decide)]) (by rw [up2_ne (by decide), up2_ne (by decide), up2_ne (by decide)]), by unfold TkC; rw [up2_ne (by decide), up2_ne (by decide), up2_ne (by decide)]; exact hT, hIx, LwT.nil, fun q a b c => by rw [up2_ne b, up2_ne b, up2_ne b]; exact hfr1 q a b c⟩
    refine A_aload_n rfl dX6_faultOfText_28 ?_
    refine A_getR fr_X6_18.g rfl lay_32 rfl dX6_faultOfText_29 ?_
    refine A_iload_n rfl dX6_faultOfText_32 ?_
    refine A_callV (s_lbeg l G K (nI key)) m_X2_begin ml_X6_42 rfl (ll q34) rfl (by decide) rfl rfl (Nat.le_of_ble_eq_true rfl) (by decide) (by decide) (by decide) dX6_faultOfText_33 (fun _ _ _ h => congrArg List.length h.2.1) ?_
    rintro _ _ _ ⟨rfl, rfl, e9⟩
    refine AW_I e9 ?_
    clear e9
    refine A_aload_n rfl dX6_faultOfText_36 ?_
    refine A_callV (s_step l G (up2 (up2 (up2 K 34 0 (nI key)) 34 1 0) 34 3 0) B L hP0.1 (tk0 B L).2.1 (tk0 B L).2.2.1 hIx.2.2.1 hP0.2.1.2.1 hP0.2.1.2.2.1 hIx.2.2.2.1) m_X6_step ml_X6_32 rfl lay_32 rfl (by decide) rfl rfl (Nat.le_of_ble_eq_true rfl) (by decide) (by decide) (by decide) dX6_faultOfText_37 (fun _ _ _ hqq => congrArg List.length hqq.2.1) ?_
    rintro _ _ K2 ⟨rfl, rfl, hk1, hk2, hk9⟩
    have hP2 := hP0.step hk1 hk2 hk9
    clear hk1 hk2 hk9
    refine A_aload_n rfl dX6_faultOfText_40 ?_
    refine A_iconst ic_0 dX6_faultOfText_41 ?_
    refine A_iconst ic_0 dX6_faultOfText_42 ?_
    refine A_iconst ic_0 dX6_faultOfText_43 ?_
    refine A_callV ((s_lp l G I B L key hky1.1 (7 * (16 - 0 - 0) + (6 - 0))).2 0 0 0 (by decide) (by decide) (by decide) rfl K2 _ [] hP2 (Nat.zero_le _)) m_X6_level ml_X6_46 rfl lay_32 rfl (by decide) rfl rfl (Nat.le_of_ble_eq_true rfl) (by decide) (by decide) (by decide) dX6_faultOfText_44 (fun _ _ _ ⟨_, _, hqq, _⟩ => congrArg List.length hqq) ?_
    rintro _ _ K3 ⟨b1, rfl, rfl, hy1, hn1⟩
    refine A_if_eq 61 rfl dX6_faultOfText_47 (fun cq47 => ?_) (fun cq47 => ?_)
    · skip
      refine A_aload_n rfl dX6_faultOfText_61 ?_
      refine A_getI fr_X6_39.g rfl lay_32 dX6_faultOfText_62 ?_
      refine A_iret rfl rfl rfl rfl dX6_faultOfText_65 ?_
      first
        | (have h7 : b2i b1 = 0 := cq47
           obtain ⟨f, hf1, hf2⟩ := hn1 (b2i_0.mp h7)
           obtain ⟨c, hc⟩ := hf2.whole
           exact ⟨_, rfl, rfl, hf1.2.2, Or.inl ⟨f, hf1.1, hf1.2.1, Or.inr ⟨key, c, hky1, hc⟩⟩⟩)
        | (have h7 : nI τ1.2.2.1 = 0 := cq54
           have h8 : τ1.2.2.1 = 0 := (nI_eq (b := 0) (by have := hP3.2.2.1.2.2.2.1; omega) (by omega)).mp h7
           have hw := hgd [] trivial
           rw [List.append_nil] at hw
           exact ⟨_, rfl, rfl, hP3.2.2.2.2, Or.inr ⟨rfl, key, D1, ⟨hky1, ⟨_, hok.whole h8⟩, hw.1, hw.2, by have := hP3.2.2.1.1; have := hB.2.2.1; omega⟩, hP3.2.2.2.1⟩⟩)
        | (have h7 : ¬ nI τ1.2.2.1 = 0 := cq54
           obtain ⟨c, hc⟩ := hok.not_whole (fun q => h7 (by rw [q]; rfl))
           exact ⟨_, rfl, rfl, hP3.2.2.2.2, Or.inl ⟨τ1.1, hP3.2.1.1, hP3.2.2.1.1, Or.inr ⟨key, c, hky1, hc⟩⟩⟩)
    · skip
      obtain ⟨τ1, D1, hP3, hok, hgd, hln⟩ := hy1 (b2i_1.mp cq47)
      rw [List.append_nil] at hP3
      refine A_aload_n rfl dX6_faultOfText_50 ?_
      refine A_getI fr_X6_29.g rfl lay_32 dX6_faultOfText_51 ?_
      rw [hP3.2.1.2.2.1]
      refine A_if_ne 61 rfl dX6_faultOfText_54 (fun cq54 => ?_) (fun cq54 => ?_)
      · skip
        refine A_aload_n rfl dX6_faultOfText_61 ?_
        refine A_getI fr_X6_39.g rfl lay_32 dX6_faultOfText_62 ?_
        refine A_iret rfl rfl rfl rfl dX6_faultOfText_65 ?_
        first
          | (have h7 : b2i b1 = 0 := cq47
             obtain ⟨f, hf1, hf2⟩ := hn1 (b2i_0.mp h7)
             obtain ⟨c, hc⟩ := hf2.whole
             exact ⟨_, rfl, rfl, hf1.2.2, Or.inl ⟨f, hf1.1, hf1.2.1, Or.inr ⟨key, c, hky1, hc⟩⟩⟩)
          | (have h7 : nI τ1.2.2.1 = 0 := cq54
             have h8 : τ1.2.2.1 = 0 := (nI_eq (b := 0) (by have := hP3.2.2.1.2.2.2.1; omega) (by omega)).mp h7
             have hw := hgd [] trivial
             rw [List.append_nil] at hw
             exact ⟨_, rfl, rfl, hP3.2.2.2.2, Or.inr ⟨rfl, key, D1, ⟨hky1, ⟨_, hok.whole h8⟩, hw.1, hw.2, by have := hP3.2.2.1.1; have := hB.2.2.1; omega⟩, hP3.2.2.2.1⟩⟩)
          | (have h7 : ¬ nI τ1.2.2.1 = 0 := cq54
             obtain ⟨c, hc⟩ := hok.not_whole (fun q => h7 (by rw [q]; rfl))
             exact ⟨_, rfl, rfl, hP3.2.2.2.2, Or.inl ⟨τ1.1, hP3.2.1.1, hP3.2.2.1.1, Or.inr ⟨key, c, hky1, hc⟩⟩⟩)
      · skip
        refine A_iconst ic_m1 dX6_faultOfText_57 ?_
        refine A_goto 65 rfl dX6_faultOfText_58 ?_
        refine A_iret rfl rfl rfl rfl dX6_faultOfText_65 ?_
        first
          | (have h7 : b2i b1 = 0 := cq47
             obtain ⟨f, hf1, hf2⟩ := hn1 (b2i_0.mp h7)
             obtain ⟨c, hc⟩ := hf2.whole
             exact ⟨_, rfl, rfl, hf1.2.2, Or.inl ⟨f, hf1.1, hf1.2.1, Or.inr ⟨key, c, hky1, hc⟩⟩⟩)
          | (have h7 : nI τ1.2.2.1 = 0 := cq54
             have h8 : τ1.2.2.1 = 0 := (nI_eq (b := 0) (by have := hP3.2.2.1.2.2.2.1; omega) (by omega)).mp h7
             have hw := hgd [] trivial
             rw [List.append_nil] at hw
             exact ⟨_, rfl, rfl, hP3.2.2.2.2, Or.inr ⟨rfl, key, D1, ⟨hky1, ⟨_, hok.whole h8⟩, hw.1, hw.2, by have := hP3.2.2.1.1; have := hB.2.2.1; omega⟩, hP3.2.2.2.1⟩⟩)
          | (have h7 : ¬ nI τ1.2.2.1 = 0 := cq54
             obtain ⟨c, hc⟩ := hok.not_whole (fun q => h7 (by rw [q]; rfl))
             exact ⟨_, rfl, rfl, hP3.2.2.2.2, Or.inl ⟨τ1.1, hP3.2.1.1, hP3.2.2.1.1, Or.inr ⟨key, c, hky1, hc⟩⟩⟩)
  · skip
    have hno : ∀ j, j ≤ 2 → ¬ lx_wd B (tk0 B L) j := by
      rcases hky with ⟨-, hq⟩ | ⟨key, hk2, rfl, -⟩
      · exact hq
      · exact absurd (nI_pos' (n := key) (by omega)) cq20
    refine A_aload_n rfl dX6_faultOfText_23 ?_
    refine A_getI fr_X6_39.g rfl lay_32 dX6_faultOfText_24 ?_
    rw [hT.1]
    refine A_iret rfl rfl rfl rfl dX6_faultOfText_27 ?_
    exact ⟨_, rfl, rfl, hfr1, Or.inl ⟨_, rfl, hIx.1, Or.inl ⟨rfl, hno⟩⟩⟩
/-- a law behind 'become' -/
def beL (I : Hp) (q : Nat) : Hp := cpR (up2 (up2 (up2 I q 0 (I 34 0)) q 1 (I 34 1)) q 3 (I 34 3)) 35 (q + 1) 96
theorem beL_o {I : Hp} {q k : Nat} (h1 : k ≠ q) (h2 : k ≠ q + 1) : beL I q k = I k := by unfold beL; rw [cpR_ne h2, up2_ne h1, up2_ne h1, up2_ne h1]
theorem beL_0 {I : Hp} {q : Nat} : beL I q q 0 = I 34 0 := by unfold beL; rw [cpR_ne (by omega), up2_ni (by decide), up2_ni (by decide), up2_same]
theorem beL_1 {I : Hp} {q : Nat} : beL I q q 1 = I 34 1 := by unfold beL; rw [cpR_ne (by omega), up2_ni (by decide), up2_same]
theorem beL_3 {I : Hp} {q : Nat} : beL I q q 3 = I 34 3 := by unfold beL; rw [cpR_ne (by omega), up2_same]
theorem beL_c {I : Hp} {q k : Nat} (h : q ≠ 35) (hk : k < 96) : beL I q (q + 1) k = I 35 k := by unfold beL; rw [cpR_in hk, up2_ne (Ne.symm h), up2_ne (Ne.symm h), up2_ne (Ne.symm h)]
set_option maxHeartbeats 1000000 in
set_option maxRecDepth 100000 in
theorem s_lbec (l : Launch) (G : Gm) (I : Hp) (q : Nat) (hq : isQ q) (hne : 34 ≠ q) : Meth l G yX2_become cX2_become 2 none 1 0 0 [.ref q, .ref 34] LAY I (fun r lay1 I1 => r = none ∧ lay1 = LAY ∧ I1 = beL I q) := by
  refine Meth.of (by decide +kernel) (by simp [Value.category]) (Nat.le_of_ble_eq_true rfl) ?_
  refine A_aload_n rfl dX2_become_0 ?_
  refine A_aload_n rfl dX2_become_1 ?_
  refine A_getI fr_X2_15.g rfl (ll q34) dX2_become_2 ?_
  refine A_putI fr_X2_15 rfl (ll hq) rfl rfl dX2_become_5 ?_
  refine A_aload_n rfl dX2_become_8 ?_
  refine A_aload_n rfl dX2_become_9 ?_
  refine A_getI fr_X2_19.g rfl (ll q34) dX2_become_10 ?_
  rw [up2_ne hne]
  refine A_putI fr_X2_19 rfl (ll hq) rfl rfl dX2_become_13 ?_
  refine A_aload_n rfl dX2_become_16 ?_
  refine A_aload_n rfl dX2_become_17 ?_
  refine A_getI fr_X2_22.g rfl (ll q34) dX2_become_18 ?_
  rw [up2_ne hne, up2_ne hne]
  refine A_putI fr_X2_22 rfl (ll hq) rfl rfl dX2_become_21 ?_
  refine A_aload_n rfl dX2_become_24 ?_
  refine A_getR fr_X2_9.g rfl (ll q34) rfl dX2_become_25 ?_
  refine A_iconst ic_0 dX2_become_28 ?_
  refine A_aload_n rfl dX2_become_29 ?_
  refine A_getR fr_X2_9.g rfl (ll hq) rfl dX2_become_30 ?_
  refine A_iconst ic_0 dX2_become_33 ?_
  refine A_bipush bp_96 dX2_become_34 ?_
  refine A_cpR 96 ml_X2_25 rfl (ll2 q34) (ll2 hq) rfl rfl rfl (by decide) (by decide) (by decide) (by decide) (by decide) (Nat.le_of_ble_eq_true rfl) dX2_become_36 ?_
  refine A_vret rfl rfl rfl dX2_become_39 ?_
  exact ⟨rfl, rfl, rfl⟩
