theorem nz_e {k j : Nat} {x : Int32} (hk : k < 100) (hj : j < 100) (e : nI k = x) (hx : x = nI j) : k = j := (nI_eq (by omega) (by omega)).mp (e.trans hx)
theorem q34 : isQ 34 := ⟨15, by decide, by decide, rfl⟩
/-- what the tape's law holds: the code, the last first -/
def LwT (J : Hp) (key : Nat) (D : List Int32) : Prop := J 34 0 = nI key ∧ J 34 1 = nI (m_at D) ∧ J 34 3 = nI D.length ∧ RepE (J 35) D
theorem LwT.fr {I J : Hp} {key : Nat} {D : List Int32} (h : LwT I key D) (h1 : J 34 = I 34) (h2 : J 35 = I 35) : LwT J key D := by
  unfold LwT
  rw [h1, h2]
  exact h
theorem i2c_b : ∀ v, v < 256 → ((nI v).toUInt32 % 65536).toInt32 = nI v := by decide +kernel
set_option maxHeartbeats 1000000 in
set_option maxRecDepth 100000 in
theorem s_word (l : Launch) (G : Gm) (lay : Lay) (I : Hp) (k : Nat) (hk : k ≤ 2) : Meth l G yX6_wordOf cX6_wordOf 1 (some ((FieldType.object "java/lang/String"))) 1 0 0 [.int (nI k)] lay I (fun r lay1 I1 => r = some (.ref (100000 + k)) ∧ lay1 = lay ∧ I1 = I) := by
  refine Meth.of (by decide +kernel) (by simp [Value.category]) (Nat.le_of_ble_eq_true rfl) ?_
  refine A_iload_n rfl dX6_wordOf_0 ?_
  refine A_if_ne 9 rfl dX6_wordOf_1 (fun cq1 => ?_) (fun cq1 => ?_)
  · skip
    refine A_iload_n rfl dX6_wordOf_9 ?_
    refine A_iconst ic_1 dX6_wordOf_10 ?_
    refine A_icmp_ne 19 rfl dX6_wordOf_11 (fun cq11 => ?_) (fun cq11 => ?_)
    · skip
      refine A_ldcS 2 (by decide) rfl rfl dX6_wordOf_19 ?_
      refine A_aret rfl (Or.inl ⟨_, rfl⟩) rfl rfl dX6_wordOf_21 ?_
      refine ⟨?_, rfl, rfl⟩
      first
        | (have e : k = 0 := nz_e (by omega) (by decide) cq1 rfl; subst e; rfl)
        | (have e : k = 1 := nz_e (by omega) (by decide) cq11 rfl; subst e; rfl)
        | (have e : k = 2 := by
             have h0 : k ≠ 0 := fun q => cq1 (by rw [q]; rfl)
             have h1 : k ≠ 1 := fun q => cq11 (by rw [q]; rfl)
             omega
           subst e; rfl)
    · skip
      refine A_ldcS 1 (by decide) rfl rfl dX6_wordOf_14 ?_
      refine A_goto 21 rfl dX6_wordOf_16 ?_
      refine A_aret rfl (Or.inl ⟨_, rfl⟩) rfl rfl dX6_wordOf_21 ?_
      refine ⟨?_, rfl, rfl⟩
      first
        | (have e : k = 0 := nz_e (by omega) (by decide) cq1 rfl; subst e; rfl)
        | (have e : k = 1 := nz_e (by omega) (by decide) cq11 rfl; subst e; rfl)
        | (have e : k = 2 := by
             have h0 : k ≠ 0 := fun q => cq1 (by rw [q]; rfl)
             have h1 : k ≠ 1 := fun q => cq11 (by rw [q]; rfl)
             omega
           subst e; rfl)
  · skip
    refine A_ldcS 0 (by decide) rfl rfl dX6_wordOf_4 ?_
    refine A_goto 21 rfl dX6_wordOf_6 ?_
    refine A_aret rfl (Or.inl ⟨_, rfl⟩) rfl rfl dX6_wordOf_21 ?_
    refine ⟨?_, rfl, rfl⟩
    first
      | (have e : k = 0 := nz_e (by omega) (by decide) cq1 rfl; subst e; rfl)
      | (have e : k = 1 := nz_e (by omega) (by decide) cq11 rfl; subst e; rfl)
      | (have e : k = 2 := by
           have h0 : k ≠ 0 := fun q => cq1 (by rw [q]; rfl)
           have h1 : k ≠ 1 := fun q => cq11 (by rw [q]; rfl)
           omega
         subst e; rfl)
set_option maxHeartbeats 1000000 in
set_option maxRecDepth 100000 in
theorem s_names (l : Launch) (G : Gm) (lay : Lay) (I : Hp) (k : Nat) (hk : k ≤ 2) : Meth l G yX6_namesOf cX6_namesOf 1 (some ((FieldType.object "java/lang/String"))) 1 0 0 [.int (nI k)] lay I (fun r lay1 I1 => r = some (.ref (100000 + (3 + k))) ∧ lay1 = lay ∧ I1 = I) := by
  refine Meth.of (by decide +kernel) (by simp [Value.category]) (Nat.le_of_ble_eq_true rfl) ?_
  refine A_iload_n rfl dX6_namesOf_0 ?_
  refine A_if_ne 9 rfl dX6_namesOf_1 (fun cq1 => ?_) (fun cq1 => ?_)
  · skip
    refine A_iload_n rfl dX6_namesOf_9 ?_
    refine A_iconst ic_1 dX6_namesOf_10 ?_
    refine A_icmp_ne 19 rfl dX6_namesOf_11 (fun cq11 => ?_) (fun cq11 => ?_)
    · skip
      refine A_ldcS 5 (by decide) rfl rfl dX6_namesOf_19 ?_
      refine A_aret rfl (Or.inl ⟨_, rfl⟩) rfl rfl dX6_namesOf_21 ?_
      refine ⟨?_, rfl, rfl⟩
      first
        | (have e : k = 0 := nz_e (by omega) (by decide) cq1 rfl; subst e; rfl)
        | (have e : k = 1 := nz_e (by omega) (by decide) cq11 rfl; subst e; rfl)
        | (have e : k = 2 := by
             have h0 : k ≠ 0 := fun q => cq1 (by rw [q]; rfl)
             have h1 : k ≠ 1 := fun q => cq11 (by rw [q]; rfl)
             omega
           subst e; rfl)
    · skip
      refine A_ldcS 4 (by decide) rfl rfl dX6_namesOf_14 ?_
      refine A_goto 21 rfl dX6_namesOf_16 ?_
      refine A_aret rfl (Or.inl ⟨_, rfl⟩) rfl rfl dX6_namesOf_21 ?_
      refine ⟨?_, rfl, rfl⟩
      first
        | (have e : k = 0 := nz_e (by omega) (by decide) cq1 rfl; subst e; rfl)
        | (have e : k = 1 := nz_e (by omega) (by decide) cq11 rfl; subst e; rfl)
        | (have e : k = 2 := by
             have h0 : k ≠ 0 := fun q => cq1 (by rw [q]; rfl)
             have h1 : k ≠ 1 := fun q => cq11 (by rw [q]; rfl)
             omega
           subst e; rfl)
  · skip
    refine A_ldcS 3 (by decide) rfl rfl dX6_namesOf_4 ?_
    refine A_goto 21 rfl dX6_namesOf_6 ?_
    refine A_aret rfl (Or.inl ⟨_, rfl⟩) rfl rfl dX6_namesOf_21 ?_
    refine ⟨?_, rfl, rfl⟩
    first
      | (have e : k = 0 := nz_e (by omega) (by decide) cq1 rfl; subst e; rfl)
      | (have e : k = 1 := nz_e (by omega) (by decide) cq11 rfl; subst e; rfl)
      | (have e : k = 2 := by
           have h0 : k ≠ 0 := fun q => cq1 (by rw [q]; rfl)
           have h1 : k ≠ 1 := fun q => cq11 (by rw [q]; rfl)
           omega
         subst e; rfl)
set_option maxHeartbeats 1000000 in
set_option maxRecDepth 100000 in
theorem s_signs (l : Launch) (G : Gm) (lay : Lay) (I : Hp) (k : Nat) (hk : k ≤ 4) : Meth l G yX6_signsOf cX6_signsOf 1 (some ((FieldType.object "java/lang/String"))) 1 0 0 [.int (nI k)] lay I (fun r lay1 I1 => r = some (.ref (100000 + (9 + k))) ∧ lay1 = lay ∧ I1 = I) := by
  refine Meth.of (by decide +kernel) (by simp [Value.category]) (Nat.le_of_ble_eq_true rfl) ?_
  refine A_iload_n rfl dX6_signsOf_0 ?_
  refine A_tsw 44 rfl dX6_signsOf_1 rfl (fun jsw off hjsw cq1 => ?_) (fun cq1 => ?_)
  · match jsw, hjsw, cq1 with
    | 0, hjsw, cq1 =>
      cases hjsw
      replace cq1 := i_eq cq1 (ic_0)
      refine ⟨32, rfl, ?_⟩
      refine A_ldcS 9 (by decide) rfl rfl dX6_signsOf_32 ?_
      refine A_aret rfl (Or.inl ⟨_, rfl⟩) rfl rfl dX6_signsOf_34 ?_
      have e : k = 0 := nz_e (by omega) (by decide) cq1 rfl
      subst e; exact ⟨rfl, rfl, rfl⟩
    | 1, hjsw, cq1 =>
      cases hjsw
      replace cq1 := i_eq cq1 (ic_1)
      refine ⟨35, rfl, ?_⟩
      refine A_ldcS 10 (by decide) rfl rfl dX6_signsOf_35 ?_
      refine A_aret rfl (Or.inl ⟨_, rfl⟩) rfl rfl dX6_signsOf_37 ?_
      have e : k = 1 := nz_e (by omega) (by decide) cq1 rfl
      subst e; exact ⟨rfl, rfl, rfl⟩
    | 2, hjsw, cq1 =>
      cases hjsw
      replace cq1 := i_eq cq1 (ic_2)
      refine ⟨38, rfl, ?_⟩
      refine A_ldcS 11 (by decide) rfl rfl dX6_signsOf_38 ?_
      refine A_aret rfl (Or.inl ⟨_, rfl⟩) rfl rfl dX6_signsOf_40 ?_
      have e : k = 2 := nz_e (by omega) (by decide) cq1 rfl
      subst e; exact ⟨rfl, rfl, rfl⟩
    | 3, hjsw, cq1 =>
      cases hjsw
      replace cq1 := i_eq cq1 (ic_3)
      refine ⟨41, rfl, ?_⟩
      refine A_ldcS 12 (by decide) rfl rfl dX6_signsOf_41 ?_
      refine A_aret rfl (Or.inl ⟨_, rfl⟩) rfl rfl dX6_signsOf_43 ?_
      have e : k = 3 := nz_e (by omega) (by decide) cq1 rfl
      subst e; exact ⟨rfl, rfl, rfl⟩
    | jsw + 4, hjsw, _ => exact absurd hjsw (by simp)
  · skip
    refine A_ldcS 13 (by decide) rfl rfl dX6_signsOf_44 ?_
    refine A_aret rfl (Or.inl ⟨_, rfl⟩) rfl rfl dX6_signsOf_46 ?_
    have e : k = 4 := by
      rw [nI_toInt (by omega)] at cq1
      omega
    subst e; exact ⟨rfl, rfl, rfl⟩
set_option maxHeartbeats 1000000 in
set_option maxRecDepth 100000 in
theorem s_sig (l : Launch) (G : Gm) (I : Hp) (B : Nat → Int32) (L : Nat) (hB : TpI B L I) (τ : Tok) (hT : TkC I τ) (hI : lx_I B L τ) (i : Nat) (hi : i < 14) : Meth l G yX6_isSignOf cX6_isSignOf 2 (some (FieldType.boolean)) 5 0 0 [.ref 32, .ref (100000 + i)] LAY I (fun r lay1 I1 => r = some (.int (b2i (decide (τ.2.2.1 = 3 ∧ 0 ≤ st_ix i (B τ.1) 6 0)))) ∧ lay1 = LAY ∧ I1 = I) := by
  refine Meth.of (by decide +kernel) (by simp [Value.category]) (Nat.le_of_ble_eq_true rfl) ?_
  refine A_aload_n rfl dX6_isSignOf_0 ?_
  refine A_getI fr_X6_29.g rfl lay_32 dX6_isSignOf_1 ?_
  refine A_iconst ic_3 dX6_isSignOf_4 ?_
  rw [hT.2.2.1]
  have hL := hB.2.2.1
  have hfL := hI.1
  refine A_icmp_ne 28 rfl dX6_isSignOf_5 (fun cq5 => ?_) (fun cq5 => ?_)
  · skip
    refine A_iconst ic_0 dX6_isSignOf_28 ?_
    refine A_iret rfl rfl rfl rfl dX6_isSignOf_29 ?_
    refine ⟨?_, rfl, rfl⟩
    first
      | (have h7 : ¬ nI τ.2.2.1 = 3 := cq5; rw [b2i_ff (fun q => h7 (by rw [q.1]; rfl))])
      | (have h7 : st_ix i (B τ.1) 6 0 < 0 := cq21; rw [b2i_ff (fun q => absurd h7 (Int32.not_lt.mpr q.2))])
      | (have h7 : ¬ st_ix i (B τ.1) 6 0 < 0 := cq21; rw [b2i_tt ⟨hk3, Int32.not_lt.mp h7⟩])
  · skip
    have hk3 : τ.2.2.1 = 3 := (nI_eq (b := 3) (by have := hI.2.2.2.1; omega) (by omega)).mp cq5
    obtain ⟨hlt, hat, -⟩ := lx_at_f hI (by omega)
    obtain ⟨v, hv1, hv2⟩ := hB.2.2.2 τ.1 hlt
    refine A_aload_n rfl dX6_isSignOf_8 ?_
    refine A_aload_n rfl dX6_isSignOf_9 ?_
    refine A_aload_n rfl dX6_isSignOf_10 ?_
    refine A_getI fr_X6_39.g rfl lay_32 dX6_isSignOf_11 ?_
    rw [hT.1]
    refine A_callV (s_bat l G I B L hB τ.1 (by omega)) m_X6_byteAt ml_X6_50 rfl lay_32 rfl (by decide) rfl rfl (Nat.le_of_ble_eq_true rfl) (by decide) (by decide) (by decide) dX6_isSignOf_14 (fun _ _ _ h => congrArg List.length h.2.1) ?_
    rintro _ _ _ ⟨rfl, rfl, e9⟩
    refine AW_I e9 ?_
    clear e9
    rw [hat]
    refine A_i2c dX6_isSignOf_17 ?_
    rw [show ((B τ.1).toUInt32 % 65536).toInt32 = B τ.1 by rw [hv2]; exact i2c_b v hv1]
    refine A_callVS (s_ix l G _ _ i hi _ (by rw [hv2]; exact nI_pos (by omega)) (by rw [hv2]; exact fun q => absurd ((nI_ltI (a := 255) (by decide) (by omega)).mp q) (by omega))) m_J0_indexOf_0f7a4 ml_X6_99 rfl hi rfl rfl rfl (Nat.le_of_ble_eq_true rfl) (by decide) (by decide) (by decide) dX6_isSignOf_18 (fun _ _ _ h => congrArg List.length h.2.1) ?_
    rintro _ _ _ ⟨rfl, rfl, e9⟩
    refine AW_I e9 ?_
    clear e9
    refine A_if_lt 28 rfl dX6_isSignOf_21 (fun cq21 => ?_) (fun cq21 => ?_)
    · skip
      refine A_iconst ic_0 dX6_isSignOf_28 ?_
      refine A_iret rfl rfl rfl rfl dX6_isSignOf_29 ?_
      refine ⟨?_, rfl, rfl⟩
      first
        | (have h7 : ¬ nI τ.2.2.1 = 3 := cq5; rw [b2i_ff (fun q => h7 (by rw [q.1]; rfl))])
        | (have h7 : st_ix i (B τ.1) 6 0 < 0 := cq21; rw [b2i_ff (fun q => absurd h7 (Int32.not_lt.mpr q.2))])
        | (have h7 : ¬ st_ix i (B τ.1) 6 0 < 0 := cq21; rw [b2i_tt ⟨hk3, Int32.not_lt.mp h7⟩])
    · skip
      refine A_iconst ic_1 dX6_isSignOf_24 ?_
      refine A_goto 29 rfl dX6_isSignOf_25 ?_
      refine A_iret rfl rfl rfl rfl dX6_isSignOf_29 ?_
      refine ⟨?_, rfl, rfl⟩
      first
        | (have h7 : ¬ nI τ.2.2.1 = 3 := cq5; rw [b2i_ff (fun q => h7 (by rw [q.1]; rfl))])
        | (have h7 : st_ix i (B τ.1) 6 0 < 0 := cq21; rw [b2i_ff (fun q => absurd h7 (Int32.not_lt.mpr q.2))])
        | (have h7 : ¬ st_ix i (B τ.1) 6 0 < 0 := cq21; rw [b2i_tt ⟨hk3, Int32.not_lt.mp h7⟩])
set_option maxHeartbeats 1000000 in
set_option maxRecDepth 100000 in
theorem s_isw (l : Launch) (G : Gm) (I : Hp) (B : Nat → Int32) (L : Nat) (hB : TpI B L I) (τ : Tok) (hT : TkC I τ) (hI : lx_I B L τ) (i : Nat) (hi : i < 14) : Meth l G yX6_isWord cX6_isWord 3 (some (FieldType.boolean)) 5 0 0 [.ref 32, .ref (100000 + i)] LAY I (fun r lay1 I1 => r = some (.int (b2i (decide (τ.2.1 - τ.1 = js_ln.getD i 0 ∧ ∀ j, j < js_ln.getD i 0 → B (τ.1 + j) = (js_by.getD i []).getD j 0)))) ∧ lay1 = LAY ∧ I1 = I) := by
  have loop : ∀ (lpn : Nat) (k : Nat), js_ln.getD i 0 - k = lpn → (k ≤ js_ln.getD i 0) → (τ.2.1 - τ.1 = js_ln.getD i 0) → (∀ j, j < k → B (τ.1 + j) = (js_by.getD i []).getD j 0) → AW l G yX6_isWord cX6_isWord 3 (some (FieldType.boolean)) 5 0 0 (fun r lay1 I1 => r = some (.int (b2i (decide (τ.2.1 - τ.1 = js_ln.getD i 0 ∧ ∀ j, j < js_ln.getD i 0 → B (τ.1 + j) = (js_by.getD i []).getD j 0)))) ∧ lay1 = LAY ∧ I1 = I) 0 0 20 [some (.ref 32), some (.ref (100000 + i)), some (.int (nI k))] [] LAY I := by
    intro lpn
    induction lpn using Nat.strongRecOn with
    | _ lpn ih =>
      intro k hms hk hln hall
      have hj5 := js_le i hi
      have hL := hB.2.2.1
      have htL := hI.2.2.1
      have hft := hI.2.1
      refine A_iload_n rfl dX6_isWord_20 ?_
      refine A_aload_n rfl dX6_isWord_21 ?_
      refine A_callVS (s_len l G _ _ i hi) m_J0_length_8abf5 ml_X6_69 rfl hi rfl rfl rfl (Nat.le_of_ble_eq_true rfl) (by decide) (by decide) (by decide) dX6_isWord_22 (fun _ _ _ h => congrArg List.length h.2.1) ?_
      rintro _ _ _ ⟨rfl, rfl, e9⟩
      refine AW_I e9 ?_
      clear e9
      refine A_icmp_ge 54 rfl dX6_isWord_25 (fun cq25 => ?_) (fun cq25 => ?_)
      · skip
        refine A_iconst ic_1 dX6_isWord_54 ?_
        refine A_iret rfl rfl rfl rfl dX6_isWord_55 ?_
        have hkn : k = js_ln.getD i 0 := by
          have hq1 := (le_nI (rfl : nI (js_ln.getD i 0) = nI (js_ln.getD i 0)) (rfl : nI k = nI k) (by omega) (by omega)).mp cq25
          omega
        exact ⟨by rw [b2i_tt ⟨hln, fun j hj => hall j (by omega)⟩], rfl, rfl⟩
      · skip
        have hkn : k < js_ln.getD i 0 := by
          have hq1 := mt (le_nI (rfl : nI (js_ln.getD i 0) = nI (js_ln.getD i 0)) (rfl : nI k = nI k) (by omega) (by omega)).mpr cq25
          omega
        have hat : lx_at B L (τ.1 + k) = B (τ.1 + k) := by unfold lx_at; rw [if_pos (by omega)]
        refine A_aload_n rfl dX6_isWord_28 ?_
        refine A_aload_n rfl dX6_isWord_29 ?_
        refine A_getI fr_X6_39.g rfl lay_32 dX6_isWord_30 ?_
        rw [hT.1]
        refine A_iload_n rfl dX6_isWord_33 ?_
        refine A_iadd dX6_isWord_34 ?_
        rw [nI_add]
        refine A_callV (s_bat l G I B L hB (τ.1 + k) (by omega)) m_X6_byteAt ml_X6_50 rfl lay_32 rfl (by decide) rfl rfl (Nat.le_of_ble_eq_true rfl) (by decide) (by decide) (by decide) dX6_isWord_35 (fun _ _ _ h => congrArg List.length h.2.1) ?_
        rintro _ _ _ ⟨rfl, rfl, e9⟩
        refine AW_I e9 ?_
        clear e9
        rw [hat]
        refine A_aload_n rfl dX6_isWord_38 ?_
        refine A_iload_n rfl dX6_isWord_39 ?_
        refine A_callVS (s_ch l G _ _ i hi k hkn) m_J0_charAt_5068e ml_X6_73 rfl hi rfl rfl rfl (Nat.le_of_ble_eq_true rfl) (by decide) (by decide) (by decide) dX6_isWord_40 (fun _ _ _ h => congrArg List.length h.2.1) ?_
        rintro _ _ _ ⟨rfl, rfl, e9⟩
        refine AW_I e9 ?_
        clear e9
        refine A_icmp_eq 48 rfl dX6_isWord_43 (fun cq43 => ?_) (fun cq43 => ?_)
        · skip
          refine A_iinc ic_1 rfl (by decide) rfl dX6_isWord_48 ?_
          refine A_goto 20 rfl dX6_isWord_51 ?_
          refine AW_L (by rw [nI_1]) ?_
          refine ih (js_ln.getD i 0 - (k + 1)) (by omega) (k + 1) rfl (by omega) hln (fun j hj => ?_)
          by_cases e : j = k
          · subst e; exact cq43
          · exact hall j (by omega)
        · skip
          refine A_iconst ic_0 dX6_isWord_46 ?_
          refine A_iret rfl rfl rfl rfl dX6_isWord_47 ?_
          exact ⟨by rw [b2i_ff (fun q => cq43 (q.2 k hkn))], rfl, rfl⟩
  refine Meth.of (by decide +kernel) (by simp [Value.category]) (Nat.le_of_ble_eq_true rfl) ?_
  refine A_aload_n rfl dX6_isWord_0 ?_
  refine A_getI fr_X6_26.g rfl lay_32 dX6_isWord_1 ?_
  rw [hT.2.1]
  have hj5 := js_le i hi
  have hL := hB.2.2.1
  have htL := hI.2.2.1
  have hft := hI.2.1
  refine A_aload_n rfl dX6_isWord_4 ?_
  refine A_getI fr_X6_39.g rfl lay_32 dX6_isWord_5 ?_
  rw [hT.1]
  refine A_isub dX6_isWord_8 ?_
  rw [sub_nI hft]
  refine A_aload_n rfl dX6_isWord_9 ?_
  refine A_callVS (s_len l G _ _ i hi) m_J0_length_8abf5 ml_X6_69 rfl hi rfl rfl rfl (Nat.le_of_ble_eq_true rfl) (by decide) (by decide) (by decide) dX6_isWord_10 (fun _ _ _ h => congrArg List.length h.2.1) ?_
  rintro _ _ _ ⟨rfl, rfl, e9⟩
  refine AW_I e9 ?_
  clear e9
  refine A_icmp_eq 18 rfl dX6_isWord_13 (fun cq13 => ?_) (fun cq13 => ?_)
  · skip
    refine A_iconst ic_0 dX6_isWord_18 ?_
    refine A_istore_n (by decide) rfl dX6_isWord_19 ?_
    exact loop _ 0 rfl (by omega) ((nI_eq (by omega) (by omega)).mp cq13) (fun j hj => by omega)
  · skip
    refine A_iconst ic_0 dX6_isWord_16 ?_
    refine A_iret rfl rfl rfl rfl dX6_isWord_17 ?_
    exact ⟨by rw [b2i_ff (fun q => cq13 (by rw [q.1]))], rfl, rfl⟩
abbrev lx_wd (B : Nat → Int32) (τ : Tok) (i : Nat) : Prop := (τ.2.1 - τ.1 = js_ln.getD i 0 ∧ ∀ j, j < js_ln.getD i 0 → B (τ.1 + j) = (js_by.getD i []).getD j 0)
def KyR (B : Nat → Int32) (τ : Tok) (x : Int32) : Prop := (x = -1 ∧ ∀ j, j ≤ 2 → ¬ lx_wd B τ j) ∨ ∃ k, k ≤ 2 ∧ x = nI k ∧ lx_wd B τ k ∧ ∀ j, j < k → ¬ lx_wd B τ j
set_option maxHeartbeats 1000000 in
set_option maxRecDepth 100000 in
theorem s_key (l : Launch) (G : Gm) (I : Hp) (B : Nat → Int32) (L : Nat) (hB : TpI B L I) (τ : Tok) (hT : TkC I τ) (hI : lx_I B L τ)  : Meth l G yX6_keyAtHand cX6_keyAtHand 2 (some (FieldType.int)) 6 0 0 [.ref 32] LAY I (fun r lay1 I1 => ∃ x, r = some (.int x) ∧ lay1 = LAY ∧ I1 = I ∧ KyR B τ x) := by
  have loop : ∀ (lpn : Nat) (k : Nat), 3 - k = lpn → (k ≤ 3) → (∀ j, j < k → ¬ lx_wd B τ j) → AW l G yX6_keyAtHand cX6_keyAtHand 2 (some (FieldType.int)) 6 0 0 (fun r lay1 I1 => ∃ x, r = some (.int x) ∧ lay1 = LAY ∧ I1 = I ∧ KyR B τ x) 0 0 2 [some (.ref 32), some (.int (nI k))] [] LAY I := by
    intro lpn
    induction lpn using Nat.strongRecOn with
    | _ lpn ih =>
      intro k hms hk hall
      refine A_iload_n rfl dX6_keyAtHand_2 ?_
      refine A_iconst ic_2 dX6_keyAtHand_3 ?_
      refine A_icmp_gt 26 rfl dX6_keyAtHand_4 (fun cq4 => ?_) (fun cq4 => ?_)
      · skip
        refine A_iconst ic_m1 dX6_keyAtHand_26 ?_
        refine A_iret rfl rfl rfl rfl dX6_keyAtHand_27 ?_
        have hk2 := (lt_nI (show (2 : Int32) = nI 2 from rfl) (rfl : nI k = nI k) (by omega) (by omega)).mp cq4
        exact ⟨-1, rfl, rfl, rfl, Or.inl ⟨rfl, fun j hj => hall j (by omega)⟩⟩
      · skip
        have hk2 : k ≤ 2 := by
          have hq1 := mt (lt_nI (show (2 : Int32) = nI 2 from rfl) (rfl : nI k = nI k) (by omega) (by omega)).mpr cq4
          omega
        refine A_aload_n rfl dX6_keyAtHand_7 ?_
        refine A_iload_n rfl dX6_keyAtHand_8 ?_
        refine A_callS (s_word l G _ _ k hk2) m_X6_wordOf ml_X6_61 rfl rfl rfl (Nat.le_of_ble_eq_true rfl) (by decide) (by decide) (by decide) dX6_keyAtHand_9 (fun _ _ _ h => congrArg List.length h.2.1) ?_
        rintro _ _ _ ⟨rfl, rfl, e9⟩
        refine AW_I e9 ?_
        clear e9
        refine A_callV (s_isw l G I B L hB τ hT hI k (by omega)) m_X6_isWord ml_X6_65 rfl lay_32 rfl (by decide) rfl rfl (Nat.le_of_ble_eq_true rfl) (by decide) (by decide) (by decide) dX6_keyAtHand_12 (fun _ _ _ h => congrArg List.length h.2.1) ?_
        rintro _ _ _ ⟨rfl, rfl, e9⟩
        refine AW_I e9 ?_
        clear e9
        refine A_if_eq 20 rfl dX6_keyAtHand_15 (fun cq15 => ?_) (fun cq15 => ?_)
        · skip
          refine A_iinc ic_1 rfl (by decide) rfl dX6_keyAtHand_20 ?_
          refine A_goto 2 rfl dX6_keyAtHand_23 ?_
          refine AW_L (by rw [nI_1]) ?_
          refine ih (3 - (k + 1)) (by omega) (k + 1) rfl (by omega) (fun j hj => ?_)
          by_cases e : j = k
          · subst e; exact b2i_q.mp cq15
          · exact hall j (by omega)
        · skip
          refine A_iload_n rfl dX6_keyAtHand_18 ?_
          refine A_iret rfl rfl rfl rfl dX6_keyAtHand_19 ?_
          exact ⟨nI k, rfl, rfl, rfl, Or.inr ⟨k, hk2, rfl, b2i_p.mp cq15, hall⟩⟩
  refine Meth.of (by decide +kernel) (by simp [Value.category]) (Nat.le_of_ble_eq_true rfl) ?_
  refine A_iconst ic_0 dX6_keyAtHand_0 ?_
  refine A_istore_n (by decide) rfl dX6_keyAtHand_1 ?_
  exact loop _ 0 rfl (by omega) (fun j hj => by omega)
set_option maxHeartbeats 1000000 in
set_option maxRecDepth 100000 in
theorem s_ladd (l : Launch) (G : Gm) (I : Hp) (n : Nat) (hn : n < 96) (h3 : I 34 3 = nI n) (v : Int32) : Meth l G yX2_add cX2_add 2 none 1 0 0 [.ref 34, .int v] LAY I (fun r lay1 I1 => r = none ∧ lay1 = LAY ∧ I1 = up2 (up2 I 35 n v) 34 3 (nI (n + 1))) := by
  refine Meth.of (by decide +kernel) (by simp [Value.category]) (Nat.le_of_ble_eq_true rfl) ?_
  refine A_aload_n rfl dX2_add_0 ?_
  refine A_getI fr_X2_22.g rfl (ll q34) dX2_add_1 ?_
  rw [h3]
  refine A_bipush bp_96 dX2_add_4 ?_
  refine A_icmp_ge 29 rfl dX2_add_6 (fun cq6 => absurd cq6 (fun q => absurd ((le_nI (show (96 : Int32) = nI 96 from rfl) (rfl : nI n = nI n) (by omega) (by omega)).mp q) (by omega))) (fun cq6 => ?_)
  refine A_aload_n rfl dX2_add_9 ?_
  refine A_getR fr_X2_9.g rfl (ll q34) rfl dX2_add_10 ?_
  refine A_aload_n rfl dX2_add_13 ?_
  refine A_getI fr_X2_22.g rfl (ll q34) dX2_add_14 ?_
  rw [h3]
  refine A_iload_n rfl dX2_add_17 ?_
  refine A_iast n rfl (ll2 q34) (by omega) (by decide) dX2_add_18 ?_
  refine A_aload_n rfl dX2_add_19 ?_
  refine A_dup rfl dX2_add_20 ?_
  refine A_getI fr_X2_22.g rfl (ll q34) dX2_add_21 ?_
  rw [show (up2 I (34 + 1) n v) 34 3 = nI n by rw [up2_ne (by decide)]; exact h3]
  refine A_iconst ic_1 dX2_add_24 ?_
  refine A_iadd dX2_add_25 ?_
  rw [nI_1]
  refine A_putI fr_X2_22 rfl (ll q34) rfl rfl dX2_add_26 ?_
  refine A_vret rfl rfl rfl dX2_add_29 ?_
  exact ⟨rfl, rfl, rfl⟩
theorem LwT.push {I : Hp} {key : Nat} {D : List Int32} {c v x : Int32} (h : LwT I key D) (hv : v = q_enc c) (hx : x = nI (m_at (c :: D))) : LwT (up2 (up2 (up2 I 34 1 x) 35 D.length v) 34 3 (nI (D.length + 1))) key (c :: D) := by
  refine ⟨?_, ?_, ?_, ?_⟩
  · rw [up2_ni (by decide), up2_ne (by decide), up2_ni (by decide)]; exact h.1
  · rw [up2_ni (by decide), up2_ne (by decide), up2_same]; exact hx
  · rw [up2_same]; rfl
  · rw [up2_ne (by decide), up2_row, up2_ne (by decide)]
    exact h.2.2.2.push hv
theorem LwT.push2 {I : Hp} {key : Nat} {D : List Int32} {c v : Int32} (h : LwT I key D) (hv : v = q_enc c) (hc : ¬ 0 ≤ c) : LwT (up2 (up2 I 35 D.length v) 34 3 (nI (D.length + 1))) key (c :: D) := by
  refine ⟨?_, ?_, ?_, ?_⟩
  · rw [up2_ni (by decide), up2_ne (by decide)]; exact h.1
  · rw [up2_ni (by decide), up2_ne (by decide), h.2.1, m_at, if_neg hc, Nat.add_zero]
  · rw [up2_same]; rfl
  · rw [up2_ne (by decide), up2_row]
    exact h.2.2.2.push hv
set_option maxHeartbeats 1000000 in
set_option maxRecDepth 100000 in
theorem s_addN (l : Launch) (G : Gm) (I : Hp) (key : Nat) (D : List Int32) (hD : LwT I key D) (hlen : D.length < 96) (v c : Int32) (hv : v = q_enc c) (hc : 0 ≤ c) : Meth l G yX2_addNumber cX2_addNumber 2 none 2 0 0 [.ref 34, .int v] LAY I (fun r lay1 I1 => r = none ∧ lay1 = LAY ∧ LwT I1 key (c :: D) ∧ ∀ q, q ≠ 34 → q ≠ 35 → I1 q = I q) := by
  refine Meth.of (by decide +kernel) (by simp [Value.category]) (Nat.le_of_ble_eq_true rfl) ?_
  refine A_aload_n rfl dX2_addNumber_0 ?_
  refine A_dup rfl dX2_addNumber_1 ?_
  refine A_getI fr_X2_19.g rfl (ll q34) dX2_addNumber_2 ?_
  rw [hD.2.1]
  refine A_iconst ic_1 dX2_addNumber_5 ?_
  refine A_iadd dX2_addNumber_6 ?_
  refine A_putI fr_X2_19 rfl (ll q34) rfl rfl dX2_addNumber_7 ?_
  refine A_aload_n rfl dX2_addNumber_10 ?_
  refine A_iload_n rfl dX2_addNumber_11 ?_
  refine A_callV (s_ladd l G (up2 I 34 1 (nI (m_at D) + 1)) D.length hlen (by rw [up2_ni (by decide)]; exact hD.2.2.1) v) m_X2_add ml_X2_31 rfl (ll q34) rfl (by decide) rfl rfl (Nat.le_of_ble_eq_true rfl) (by decide) (by decide) (by decide) dX2_addNumber_12 (fun _ _ _ h => congrArg List.length h.2.1) ?_
  rintro _ _ _ ⟨rfl, rfl, e9⟩
  refine AW_I e9 ?_
  clear e9
  refine A_vret rfl rfl rfl dX2_addNumber_15 ?_
  exact ⟨rfl, rfl, hD.push hv (by rw [m_at, if_pos hc, nI_1]), fun q a b => by rw [up2_ne a, up2_ne b, up2_ne a]⟩
set_option maxHeartbeats 1000000 in
set_option maxRecDepth 100000 in
theorem s_addM (l : Launch) (G : Gm) (I : Hp) (key : Nat) (D : List Int32) (hD : LwT I key D) (hlen : D.length < 96) (w v c : Int32) (hw : -1 - w = v) (hv : v = q_enc c) (hc : 0 ≤ c) : Meth l G yX2_addName cX2_addName 2 none 2 0 0 [.ref 34, .int w] LAY I (fun r lay1 I1 => r = none ∧ lay1 = LAY ∧ LwT I1 key (c :: D) ∧ ∀ q, q ≠ 34 → q ≠ 35 → I1 q = I q) := by
  refine Meth.of (by decide +kernel) (by simp [Value.category]) (Nat.le_of_ble_eq_true rfl) ?_
  refine A_aload_n rfl dX2_addName_0 ?_
  refine A_dup rfl dX2_addName_1 ?_
  refine A_getI fr_X2_19.g rfl (ll q34) dX2_addName_2 ?_
  rw [hD.2.1]
  refine A_iconst ic_1 dX2_addName_5 ?_
  refine A_iadd dX2_addName_6 ?_
  refine A_putI fr_X2_19 rfl (ll q34) rfl rfl dX2_addName_7 ?_
  refine A_aload_n rfl dX2_addName_10 ?_
  refine A_iconst ic_m1 dX2_addName_11 ?_
  refine A_iload_n rfl dX2_addName_12 ?_
  refine A_isub dX2_addName_13 ?_
  rw [hw]
  refine A_callV (s_ladd l G (up2 I 34 1 (nI (m_at D) + 1)) D.length hlen (by rw [up2_ni (by decide)]; exact hD.2.2.1) v) m_X2_add ml_X2_31 rfl (ll q34) rfl (by decide) rfl rfl (Nat.le_of_ble_eq_true rfl) (by decide) (by decide) (by decide) dX2_addName_14 (fun _ _ _ h => congrArg List.length h.2.1) ?_
  rintro _ _ _ ⟨rfl, rfl, e9⟩
  refine AW_I e9 ?_
  clear e9
  refine A_vret rfl rfl rfl dX2_addName_17 ?_
  exact ⟨rfl, rfl, hD.push hv (by rw [m_at, if_pos hc, nI_1]), fun q a b => by rw [up2_ne a, up2_ne b, up2_ne a]⟩
set_option maxHeartbeats 1000000 in
set_option maxRecDepth 100000 in
theorem s_addS (l : Launch) (G : Gm) (I : Hp) (key : Nat) (D : List Int32) (hD : LwT I key D) (hlen : D.length < 96) (w c : Int32) (hv : -w = q_enc c) (hc : ¬ 0 ≤ c) : Meth l G yX2_addSign cX2_addSign 2 none 2 0 0 [.ref 34, .int w] LAY I (fun r lay1 I1 => r = none ∧ lay1 = LAY ∧ LwT I1 key (c :: D) ∧ ∀ q, q ≠ 34 → q ≠ 35 → I1 q = I q) := by
  refine Meth.of (by decide +kernel) (by simp [Value.category]) (Nat.le_of_ble_eq_true rfl) ?_
  refine A_aload_n rfl dX2_addSign_0 ?_
  refine A_iload_n rfl dX2_addSign_1 ?_
  refine A_ineg dX2_addSign_2 ?_
  refine A_callV (s_ladd l G I D.length hlen hD.2.2.1 (-w)) m_X2_add ml_X2_31 rfl (ll q34) rfl (by decide) rfl rfl (Nat.le_of_ble_eq_true rfl) (by decide) (by decide) (by decide) dX2_addSign_3 (fun _ _ _ h => congrArg List.length h.2.1) ?_
  rintro _ _ _ ⟨rfl, rfl, e9⟩
  refine AW_I e9 ?_
  clear e9
  refine A_vret rfl rfl rfl dX2_addSign_6 ?_
  exact ⟨rfl, rfl, hD.push2 hv hc, fun q a b => by rw [up2_ne a, up2_ne b]⟩
set_option maxHeartbeats 1000000 in
set_option maxRecDepth 100000 in
theorem s_lbeg (l : Launch) (G : Gm) (I : Hp) (x : Int32) : Meth l G yX2_begin cX2_begin 2 none 1 0 0 [.ref 34, .int x] LAY I (fun r lay1 I1 => r = none ∧ lay1 = LAY ∧ I1 = up2 (up2 (up2 I 34 0 x) 34 1 0) 34 3 0) := by
  refine Meth.of (by decide +kernel) (by simp [Value.category]) (Nat.le_of_ble_eq_true rfl) ?_
  refine A_aload_n rfl dX2_begin_0 ?_
  refine A_iload_n rfl dX2_begin_1 ?_
  refine A_putI fr_X2_15 rfl (ll q34) rfl rfl dX2_begin_2 ?_
  refine A_aload_n rfl dX2_begin_5 ?_
  refine A_iconst ic_0 dX2_begin_6 ?_
  refine A_putI fr_X2_19 rfl (ll q34) rfl rfl dX2_begin_7 ?_
  refine A_aload_n rfl dX2_begin_10 ?_
  refine A_iconst ic_0 dX2_begin_11 ?_
  refine A_putI fr_X2_22 rfl (ll q34) rfl rfl dX2_begin_12 ?_
  refine A_vret rfl rfl rfl dX2_begin_15 ?_
  exact ⟨rfl, rfl, rfl⟩
