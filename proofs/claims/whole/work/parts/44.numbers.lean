def nnk (key : Nat) : Nat := if key = 0 then 3 else 2
abbrev PS (I0 J : Hp) (B : Nat → Int32) (L key : Nat) (τ : Tok) (D : List Int32) : Prop := TpI B L J ∧ TkC J τ ∧ lx_I B L τ ∧ LwT J key D ∧ ∀ q, q ≠ 32 → q ≠ 34 → q ≠ 35 → J q = I0 q
abbrev FS (I0 J : Hp) (L f : Nat) : Prop := J 32 3 = nI f ∧ f ≤ L ∧ ∀ q, q ≠ 32 → q ≠ 34 → q ≠ 35 → J q = I0 q
theorem PS.step {I0 J J1 : Hp} {B : Nat → Int32} {L key : Nat} {τ : Tok} {D : List Int32} (h : PS I0 J B L key τ D) (h1 : TkC J1 (lx_nx B L τ)) (h2 : J1 32 0 = J 32 0) (h3 : ∀ q, q ≠ 32 → J1 q = J q) : PS I0 J1 B L key (lx_nx B L τ) D :=
  ⟨h.1.fr h2 (h3 33 (by decide)), h1, h.2.2.1.nx h.1.2.2, h.2.2.2.1.fr (h3 34 (by decide)) (h3 35 (by decide)), fun q a b c => (h3 q a).trans (h.2.2.2.2 q a b c)⟩
theorem PS.law {I0 J J1 : Hp} {B : Nat → Int32} {L key : Nat} {τ : Tok} {D D2 : List Int32} (h : PS I0 J B L key τ D) (h1 : LwT J1 key D2) (h3 : ∀ q, q ≠ 34 → q ≠ 35 → J1 q = J q) : PS I0 J1 B L key τ D2 :=
  ⟨h.1.fr (by rw [h3 32 (by decide) (by decide)]) (h3 33 (by decide) (by decide)), by unfold TkC; rw [h3 32 (by decide) (by decide)]; exact h.2.1, h.2.2.1, h1, fun q a b c => (h3 q b c).trans (h.2.2.2.2 q a b c)⟩
theorem PS.fs {I0 J : Hp} {B : Nat → Int32} {L key : Nat} {τ : Tok} {D : List Int32} (h : PS I0 J B L key τ D) : FS I0 J L τ.1 := ⟨h.2.1.1, h.2.2.1.1, h.2.2.2.2⟩
theorem so_dig : ∀ v, v < 256 → lx_so (nI v) = 2 → 48 ≤ v ∧ v ≤ 57 := by decide +kernel
theorem num_nI {B : Nat → Int32} {f : Nat} : ∀ n, n ≤ 4 → (∀ i, f ≤ i → i < f + n → ∃ v, 48 ≤ v ∧ v ≤ 57 ∧ B i = nI v) → ∃ m, m < 10 ^ n ∧ lx_num B f n = nI m
  | 0, _, _ => ⟨0, by decide, rfl⟩
  | n + 1, hn, h => by
    obtain ⟨m, hm, e⟩ := num_nI n (by omega) (fun i h1 h2 => h i h1 (by omega))
    obtain ⟨v, hv1, hv2, ev⟩ := h (f + n) (by omega) (by omega)
    refine ⟨m * 10 + v - 48, by rw [Nat.pow_succ]; omega, ?_⟩
    rw [lx_num, e, ev, show (10 : Int32) = nI 10 from rfl, show (48 : Int32) = nI 48 from rfl, pk_mul, nI_add, sub_nI (by omega)]
theorem nm_ix : ∀ key, key < 3 → ∀ v, v < 256 → st_ix (3 + key) (nI v) 6 0 = lx_nm key (nI v) := by decide +kernel
theorem nm_in (key : Nat) (b : Int32) : lx_nm key b = -1 ∨ ∃ i, i < nnk key ∧ lx_nm key b = nI i := by
  unfold lx_nm nnk
  by_cases h0 : key = 0
  · rw [if_pos h0, if_pos h0]
    repeat' split
    · exact Or.inr ⟨0, by decide, rfl⟩
    · exact Or.inr ⟨1, by decide, rfl⟩
    · exact Or.inr ⟨2, by decide, rfl⟩
    · exact Or.inl rfl
  · rw [if_neg h0, if_neg h0]
    by_cases h1 : key = 1
    · rw [if_pos h1]
      repeat' split
      · exact Or.inr ⟨0, by decide, rfl⟩
      · exact Or.inr ⟨1, by decide, rfl⟩
      · exact Or.inl rfl
    · rw [if_neg h1]
      repeat' split
      · exact Or.inr ⟨0, by decide, rfl⟩
      · exact Or.inr ⟨1, by decide, rfl⟩
      · exact Or.inl rfl
theorem nnk_3 (key : Nat) : nnk key ≤ 3 := by unfold nnk; split <;> omega
theorem enc_nm : ∀ i, i < 3 → (-1 : Int32) - nI i = q_enc (nI (10000 + i)) := by decide +kernel
set_option maxHeartbeats 1000000 in
set_option maxRecDepth 100000 in
theorem s_num (l : Launch) (G : Gm) (I0 J : Hp) (B : Nat → Int32) (L key : Nat) (hkey : key ≤ 2) (τ : Tok) (D : List Int32) (hP : PS I0 J B L key τ D) (hDl : D.length ≤ τ.1) (hk2 : τ.2.2.1 = 2) : Meth l G yX6_number cX6_number 3 (some (FieldType.boolean)) 3 0 0 [.ref 32] LAY J (fun r lay1 I1 => ∃ b : Bool, r = some (.int (b2i b)) ∧ lay1 = LAY ∧ (b = true → τ.2.1 - τ.1 ≤ 4 ∧ ∃ m, m < 10000 ∧ lx_num B τ.1 (τ.2.1 - τ.1) = nI m ∧ PS I0 I1 B L key (lx_nx B L τ) (lx_num B τ.1 (τ.2.1 - τ.1) :: D)) ∧ (b = false → ¬ τ.2.1 - τ.1 ≤ 4 ∧ I1 = J)) := by
  have loop : ∀ (lpn : Nat) (n : Nat), τ.2.1 - τ.1 - n = lpn → (n ≤ τ.2.1 - τ.1) → (τ.2.1 - τ.1 ≤ 4) → AW l G yX6_number cX6_number 3 (some (FieldType.boolean)) 3 0 0 (fun r lay1 I1 => ∃ b : Bool, r = some (.int (b2i b)) ∧ lay1 = LAY ∧ (b = true → τ.2.1 - τ.1 ≤ 4 ∧ ∃ m, m < 10000 ∧ lx_num B τ.1 (τ.2.1 - τ.1) = nI m ∧ PS I0 I1 B L key (lx_nx B L τ) (lx_num B τ.1 (τ.2.1 - τ.1) :: D)) ∧ (b = false → ¬ τ.2.1 - τ.1 ≤ 4 ∧ I1 = J)) 0 0 22 [some (.ref 32), some (.int (lx_num B τ.1 n)), some (.int (nI (τ.1 + n)))] [] LAY J := by
    intro lpn
    induction lpn using Nat.strongRecOn with
    | _ lpn ih =>
      intro n hms hn h4
      have hL := hP.1.2.2.1
      have htL := hP.2.2.1.2.2.1
      have hft := hP.2.2.1.2.1
      have hfL : τ.1 < L := by have := hP.2.2.1.2.2.2.2.1; have := hP.2.2.1.1; omega
      refine A_iload_n rfl dX6_number_22 ?_
      refine A_aload_n rfl dX6_number_23 ?_
      refine A_getI fr_X6_26.g rfl lay_32 dX6_number_24 ?_
      rw [hP.2.1.2.1]
      refine A_icmp_ge 50 rfl dX6_number_27 (fun cq27 => ?_) (fun cq27 => ?_)
      · skip
        have hnt : n = τ.2.1 - τ.1 := by
          have hq1 := (le_nI (rfl : nI τ.2.1 = nI τ.2.1) (rfl : nI (τ.1 + n) = nI (τ.1 + n)) (by omega) (by omega)).mp cq27
          omega
        subst hnt
        obtain ⟨m, hm, em⟩ := num_nI (B := B) (f := τ.1) (τ.2.1 - τ.1) h4 (fun i h1 h2 => by
          obtain ⟨v, hv1, hv2⟩ := hP.1.2.2.2 i (by omega)
          have h8 := hP.2.2.1.2.2.2.2.2.2.2.2.2.1 i h1 (by omega) (Or.inr hk2)
          rw [hv2, hk2] at h8
          exact ⟨v, (so_dig v hv1 h8).1, (so_dig v hv1 h8).2, hv2⟩)
        have hm4 : m < 10000 := Nat.lt_of_lt_of_le hm (Nat.pow_le_pow_right (by decide) h4)
        have henc : lx_num B τ.1 (τ.2.1 - τ.1) = q_enc (lx_num B τ.1 (τ.2.1 - τ.1)) := by rw [em, enc_num hm4]
        have hpos : 0 ≤ lx_num B τ.1 (τ.2.1 - τ.1) := by rw [em]; exact nI_pos' (by omega)
        refine A_aload_n rfl dX6_number_50 ?_
        refine A_getR fr_X6_18.g rfl lay_32 rfl dX6_number_51 ?_
        refine A_iload_n rfl dX6_number_54 ?_
        refine A_callV (s_addN l G J key D hP.2.2.2.1 (by omega) _ _ henc hpos) m_X2_addNumber ml_X6_128 rfl (ll q34) rfl (by decide) rfl rfl (Nat.le_of_ble_eq_true rfl) (by decide) (by decide) (by decide) dX6_number_55 (fun _ _ _ h => congrArg List.length h.2.1) ?_
        rintro _ _ K ⟨rfl, rfl, hK1, hK2⟩
        have hP2 : PS I0 K B L key τ (lx_num B τ.1 (τ.2.1 - τ.1) :: D) := hP.law hK1 hK2
        refine A_aload_n rfl dX6_number_58 ?_
        refine A_callV (s_step l G K B L hP2.1 τ.2.1 τ.2.2.1 htL hP2.2.1.2.1 hP2.2.1.2.2.1 hP2.2.2.1.2.2.2.1) m_X6_step ml_X6_32 rfl lay_32 rfl (by decide) rfl rfl (Nat.le_of_ble_eq_true rfl) (by decide) (by decide) (by decide) dX6_number_59 (fun _ _ _ hqq => congrArg List.length hqq.2.1) ?_
        rintro _ _ K2 ⟨rfl, rfl, hk1, hk2, hk3⟩
        have hP3 := hP2.step hk1 hk2 hk3
        refine A_iconst ic_1 dX6_number_62 ?_
        refine A_iret rfl rfl rfl rfl dX6_number_63 ?_
        exact ⟨true, rfl, rfl, fun _ => ⟨h4, m, hm4, em, hP3⟩, fun q => by cases q⟩
      · skip
        have hnt : n < τ.2.1 - τ.1 := by
          have hq1 := mt (le_nI (rfl : nI τ.2.1 = nI τ.2.1) (rfl : nI (τ.1 + n) = nI (τ.1 + n)) (by omega) (by omega)).mpr cq27
          omega
        have hat : lx_at B L (τ.1 + n) = B (τ.1 + n) := by unfold lx_at; rw [if_pos (by omega)]
        refine A_iload_n rfl dX6_number_30 ?_
        refine A_bipush bp_10 dX6_number_31 ?_
        refine A_imul dX6_number_33 ?_
        refine A_aload_n rfl dX6_number_34 ?_
        refine A_iload_n rfl dX6_number_35 ?_
        refine A_callV (s_bat l G J B L hP.1 (τ.1 + n) (by omega)) m_X6_byteAt ml_X6_50 rfl lay_32 rfl (by decide) rfl rfl (Nat.le_of_ble_eq_true rfl) (by decide) (by decide) (by decide) dX6_number_36 (fun _ _ _ h => congrArg List.length h.2.1) ?_
        rintro _ _ _ ⟨rfl, rfl, e9⟩
        refine AW_I e9 ?_
        clear e9
        rw [hat]
        refine A_iadd dX6_number_39 ?_
        refine A_bipush bp_48 dX6_number_40 ?_
        refine A_isub dX6_number_42 ?_
        refine A_istore_n (by decide) rfl dX6_number_43 ?_
        refine A_iinc ic_1 rfl (by decide) rfl dX6_number_44 ?_
        refine A_goto 22 rfl dX6_number_47 ?_
        refine AW_L (L := [some (.ref 32), some (.int (lx_num B τ.1 (n + 1))), some (.int (nI (τ.1 + (n + 1))))]) (by rw [lx_num, show τ.1 + (n + 1) = τ.1 + n + 1 by omega, ← nI_1]; rfl) ?_
        exact ih _ (by omega) (n + 1) rfl (by omega) h4
  refine Meth.of (by decide +kernel) (by simp [Value.category]) (Nat.le_of_ble_eq_true rfl) ?_
  refine A_aload_n rfl dX6_number_0 ?_
  refine A_getI fr_X6_26.g rfl lay_32 dX6_number_1 ?_
  have hL := hP.1.2.2.1
  have htL := hP.2.2.1.2.2.1
  have hft := hP.2.2.1.2.1
  rw [hP.2.1.2.1]
  refine A_aload_n rfl dX6_number_4 ?_
  refine A_getI fr_X6_39.g rfl lay_32 dX6_number_5 ?_
  rw [hP.2.1.1]
  refine A_isub dX6_number_8 ?_
  rw [sub_nI hft]
  refine A_iconst ic_4 dX6_number_9 ?_
  refine A_icmp_le 15 rfl dX6_number_10 (fun cq10 => ?_) (fun cq10 => ?_)
  · skip
    refine A_iconst ic_0 dX6_number_15 ?_
    refine A_istore_n (by decide) rfl dX6_number_16 ?_
    refine A_aload_n rfl dX6_number_17 ?_
    refine A_getI fr_X6_39.g rfl lay_32 dX6_number_18 ?_
    rw [hP.2.1.1]
    refine A_istore_n (by decide) rfl dX6_number_21 ?_
    have h4 := (le_nI (rfl : nI (τ.2.1 - τ.1) = nI (τ.2.1 - τ.1)) (show (4 : Int32) = nI 4 from rfl) (by omega) (by omega)).mp cq10
    exact loop _ 0 rfl (by omega) h4
  · skip
    refine A_iconst ic_0 dX6_number_13 ?_
    refine A_iret rfl rfl rfl rfl dX6_number_14 ?_
    have h4 := mt (le_nI (rfl : nI (τ.2.1 - τ.1) = nI (τ.2.1 - τ.1)) (show (4 : Int32) = nI 4 from rfl) (by omega) (by omega)).mpr cq10
    exact ⟨false, rfl, rfl, fun q => (by cases q), fun _ => ⟨h4, rfl⟩⟩
set_option maxHeartbeats 1000000 in
set_option maxRecDepth 100000 in
theorem s_nam (l : Launch) (G : Gm) (I0 J : Hp) (B : Nat → Int32) (L key : Nat) (hkey : key ≤ 2) (τ : Tok) (D : List Int32) (hP : PS I0 J B L key τ D) (hDl : D.length ≤ τ.1) (hk1 : τ.2.2.1 = 1) : Meth l G yX6_name cX6_name 2 (some (FieldType.boolean)) 5 0 0 [.ref 32] LAY J (fun r lay1 I1 => ∃ b : Bool, r = some (.int (b2i b)) ∧ lay1 = LAY ∧ (b = true → τ.2.1 - τ.1 = 1 ∧ 0 ≤ lx_nm key (B τ.1) ∧ ∃ i, i < nnk key ∧ 10000 + lx_nm key (B τ.1) = nI (10000 + i) ∧ PS I0 I1 B L key (lx_nx B L τ) ((10000 + lx_nm key (B τ.1)) :: D)) ∧ (b = false → ¬ (τ.2.1 - τ.1 = 1 ∧ 0 ≤ lx_nm key (B τ.1)) ∧ I1 = J)) := by
  have j39 : ∀ (lpn : Nat) (z : Nat) (x : Int32), z = lpn → (0 ≤ x → τ.2.1 - τ.1 = 1 ∧ x = lx_nm key (B τ.1)) → (τ.2.1 - τ.1 = 1 → x = lx_nm key (B τ.1)) → (¬ 0 ≤ x → x = -1) → AW l G yX6_name cX6_name 2 (some (FieldType.boolean)) 5 0 0 (fun r lay1 I1 => ∃ b : Bool, r = some (.int (b2i b)) ∧ lay1 = LAY ∧ (b = true → τ.2.1 - τ.1 = 1 ∧ 0 ≤ lx_nm key (B τ.1) ∧ ∃ i, i < nnk key ∧ 10000 + lx_nm key (B τ.1) = nI (10000 + i) ∧ PS I0 I1 B L key (lx_nx B L τ) ((10000 + lx_nm key (B τ.1)) :: D)) ∧ (b = false → ¬ (τ.2.1 - τ.1 = 1 ∧ 0 ≤ lx_nm key (B τ.1)) ∧ I1 = J)) 0 0 39 [some (.ref 32), none] [.int x] LAY J := by
    intro lpn
    induction lpn using Nat.strongRecOn with
    | _ lpn ih =>
      intro z x hms hx hx2 hx3
      have hL := hP.1.2.2.1
      have htL := hP.2.2.1.2.2.1
      have hft := hP.2.2.1.2.1
      have hfL : τ.1 < L := by have := hP.2.2.1.2.2.2.2.1; have := hP.2.2.1.1; omega
      refine A_istore_n (by decide) rfl dX6_name_39 ?_
      refine A_iload_n rfl dX6_name_40 ?_
      refine A_if_ge 46 rfl dX6_name_41 (fun cq41 => ?_) (fun cq41 => ?_)
      · skip
        obtain ⟨ht1, rfl⟩ := hx cq41
        obtain ⟨i, hi1, ei⟩ := (nm_in key (B τ.1)).resolve_left (fun q => by have h9 : (0 : Int32) ≤ lx_nm key (B τ.1) := cq41; rw [q] at h9; exact absurd h9 (by decide))
        have e10 : (10000 : Int32) + lx_nm key (B τ.1) = nI (10000 + i) := by rw [ei, show (10000 : Int32) = nI 10000 from rfl, nI_add]
        have henc : (-1 : Int32) - lx_nm key (B τ.1) = q_enc (10000 + lx_nm key (B τ.1)) := by rw [e10, ei]; exact enc_nm i (by have := nnk_3 key; omega)
        have hpos : 0 ≤ (10000 : Int32) + lx_nm key (B τ.1) := by rw [e10]; exact nI_pos' (by have := nnk_3 key; omega)
        refine A_aload_n rfl dX6_name_46 ?_
        refine A_getR fr_X6_18.g rfl lay_32 rfl dX6_name_47 ?_
        refine A_iload_n rfl dX6_name_50 ?_
        refine A_callV (s_addM l G J key D hP.2.2.2.1 (by omega) _ _ (10000 + lx_nm key (B τ.1)) rfl henc hpos) m_X2_addName ml_X6_137 rfl (ll q34) rfl (by decide) rfl rfl (Nat.le_of_ble_eq_true rfl) (by decide) (by decide) (by decide) dX6_name_51 (fun _ _ _ h => congrArg List.length h.2.1) ?_
        rintro _ _ K ⟨rfl, rfl, hK1, hK2⟩
        have hP2 : PS I0 K B L key τ ((10000 + lx_nm key (B τ.1)) :: D) := hP.law hK1 hK2
        refine A_aload_n rfl dX6_name_54 ?_
        refine A_callV (s_step l G K B L hP2.1 τ.2.1 τ.2.2.1 htL hP2.2.1.2.1 hP2.2.1.2.2.1 hP2.2.2.1.2.2.2.1) m_X6_step ml_X6_32 rfl lay_32 rfl (by decide) rfl rfl (Nat.le_of_ble_eq_true rfl) (by decide) (by decide) (by decide) dX6_name_55 (fun _ _ _ hqq => congrArg List.length hqq.2.1) ?_
        rintro _ _ K2 ⟨rfl, rfl, hk1, hk2, hk3⟩
        have hP3 := hP2.step hk1 hk2 hk3
        refine A_iconst ic_1 dX6_name_58 ?_
        refine A_iret rfl rfl rfl rfl dX6_name_59 ?_
        exact ⟨true, rfl, rfl, fun _ => ⟨ht1, cq41, i, hi1, e10, hP3⟩, fun q => by cases q⟩
      · skip
        refine A_iconst ic_0 dX6_name_44 ?_
        refine A_iret rfl rfl rfl rfl dX6_name_45 ?_
        exact ⟨false, rfl, rfl, fun q => (by cases q), fun _ => ⟨fun q => cq41 (by rw [hx2 q.1]; exact q.2), rfl⟩⟩
  refine Meth.of (by decide +kernel) (by simp [Value.category]) (Nat.le_of_ble_eq_true rfl) ?_
  refine A_aload_n rfl dX6_name_0 ?_
  refine A_getI fr_X6_26.g rfl lay_32 dX6_name_1 ?_
  have hL := hP.1.2.2.1
  have htL := hP.2.2.1.2.2.1
  have hft := hP.2.2.1.2.1
  rw [hP.2.1.2.1]
  refine A_aload_n rfl dX6_name_4 ?_
  refine A_getI fr_X6_39.g rfl lay_32 dX6_name_5 ?_
  rw [hP.2.1.1]
  refine A_isub dX6_name_8 ?_
  rw [sub_nI hft]
  refine A_iconst ic_1 dX6_name_9 ?_
  refine A_icmp_ne 38 rfl dX6_name_10 (fun cq10 => ?_) (fun cq10 => ?_)
  · skip
    refine A_iconst ic_m1 dX6_name_38 ?_
    first
      | (have hix : st_ix (3 + key) (B τ.1) 6 0 = lx_nm key (B τ.1) := by rw [hv2]; exact nm_ix key (by omega) v hv1
         exact j39 0 0 _ rfl (fun q => ⟨ht1, hix⟩) (fun q => hix) (fun q => by rw [hix]; exact (nm_in key (B τ.1)).resolve_right (fun ⟨i, hi1, ei⟩ => q (by rw [hix, ei]; exact nI_pos' (by have := nnk_3 key; omega)))))
      | (exact j39 0 0 _ rfl (fun q => absurd q (by decide)) (fun q => absurd (show nI (τ.2.1 - τ.1) = 1 by rw [q]; rfl) cq10) (fun q => rfl))
  · skip
    have ht1 : τ.2.1 - τ.1 = 1 := (nI_eq (b := 1) (by omega) (by omega)).mp cq10
    obtain ⟨hlt, hat, -⟩ := lx_at_f hP.2.2.1 (by omega)
    obtain ⟨v, hv1, hv2⟩ := hP.1.2.2.2 τ.1 hlt
    refine A_aload_n rfl dX6_name_13 ?_
    refine A_getR fr_X6_18.g rfl lay_32 rfl dX6_name_14 ?_
    refine A_getI fr_X6_131.g rfl (ll q34) dX6_name_17 ?_
    rw [hP.2.2.2.1.1]
    refine A_callS (s_names l G _ _ key hkey) m_X6_namesOf ml_X6_134 rfl rfl rfl (Nat.le_of_ble_eq_true rfl) (by decide) (by decide) (by decide) dX6_name_20 (fun _ _ _ h => congrArg List.length h.2.1) ?_
    rintro _ _ _ ⟨rfl, rfl, e9⟩
    refine AW_I e9 ?_
    clear e9
    refine A_aload_n rfl dX6_name_23 ?_
    refine A_aload_n rfl dX6_name_24 ?_
    refine A_getI fr_X6_39.g rfl lay_32 dX6_name_25 ?_
    rw [hP.2.1.1]
    refine A_callV (s_bat l G J B L hP.1 τ.1 (by omega)) m_X6_byteAt ml_X6_50 rfl lay_32 rfl (by decide) rfl rfl (Nat.le_of_ble_eq_true rfl) (by decide) (by decide) (by decide) dX6_name_28 (fun _ _ _ h => congrArg List.length h.2.1) ?_
    rintro _ _ _ ⟨rfl, rfl, e9⟩
    refine AW_I e9 ?_
    clear e9
    rw [hat]
    refine A_i2c dX6_name_31 ?_
    rw [show ((B τ.1).toUInt32 % 65536).toInt32 = B τ.1 by rw [hv2]; exact i2c_b v hv1]
    refine A_callVS (s_ix l G _ _ (3 + key) (by omega) _ (by rw [hv2]; exact nI_pos (by omega)) (by rw [hv2]; exact fun q => absurd ((nI_ltI (a := 255) (by decide) (by omega)).mp q) (by omega))) m_J0_indexOf_0f7a4 ml_X6_99 rfl (by omega) rfl rfl rfl (Nat.le_of_ble_eq_true rfl) (by decide) (by decide) (by decide) dX6_name_32 (fun _ _ _ h => congrArg List.length h.2.1) ?_
    rintro _ _ _ ⟨rfl, rfl, e9⟩
    refine AW_I e9 ?_
    clear e9
    refine A_goto 39 rfl dX6_name_35 ?_
    first
      | (have hix : st_ix (3 + key) (B τ.1) 6 0 = lx_nm key (B τ.1) := by rw [hv2]; exact nm_ix key (by omega) v hv1
         exact j39 0 0 _ rfl (fun q => ⟨ht1, hix⟩) (fun q => hix) (fun q => by rw [hix]; exact (nm_in key (B τ.1)).resolve_right (fun ⟨i, hi1, ei⟩ => q (by rw [hix, ei]; exact nI_pos' (by have := nnk_3 key; omega)))))
      | (exact j39 0 0 _ rfl (fun q => absurd q (by decide)) (fun q => absurd (show nI (τ.2.1 - τ.1) = 1 by rw [q]; rfl) cq10) (fun q => rfl))
