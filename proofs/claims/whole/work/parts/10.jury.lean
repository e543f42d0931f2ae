theorem hour_keep {N : Nrow} {sil : Int32} {n : Nat} (hn : n ≤ 10) (hN : N 1 = nI n) (hK : KnJ N) : KnJ (q_hour sil N n).1 := by
  unfold q_hour
  dsimp only
  exact (hourL_keep hn hN hK n (Nat.le_refl n)).2.up (fun i hi => by omega)
theorem go_kn {N : Nrow} {sil : Int32} {n : Nat} (hn : n ≤ 10) (hN : N 1 = nI n) (hK : KnJ N) : ∀ k, KnJ (q_go sil n N k).1
  | 0 => hK
  | k + 1 => hour_keep hn (go_1 hn hN k) (go_kn hn hN hK k)
set_option maxHeartbeats 4000000 in
set_option maxRecDepth 100000 in
theorem s_go (l : Launch) (G : Gm) (j : Nat) (hj : isJ j) (I : Hp) (N : Nrow) (n : Nat) (hn : n ≤ 10) (hN : N 1 = nI n) (hR : RepJ I j N) (hK : KnJ N) (sil : Int32) (h : Nat) (hh : h < 1000) : Meth l G yX0_pass cX0_pass 5 (some (FieldType.int)) 5 0 0 [.ref j, .int (nI h), .int sil] LAY I (fun r lay1 I1 => r = some (.int (q_go sil n N h).2) ∧ lay1 = LAY ∧ RepJ I1 j (q_go sil n N h).1 ∧ (∀ k, (k < j ∨ j + 8 ≤ k) → I1 k = I k)) := by
  have loop : ∀ (lpn : Nat) (k : Nat) (x s : Int32) (K : Hp), h - k = lpn → (k ≤ h) → (x = nI k) → (s = (q_go sil n N k).2) → (RepJ K j (q_go sil n N k).1) → (∀ q, (q < j ∨ j + 8 ≤ q) → K q = I q) → AW l G yX0_pass cX0_pass 5 (some (FieldType.int)) 5 0 0 (fun r lay1 I1 => r = some (.int (q_go sil n N h).2) ∧ lay1 = LAY ∧ RepJ I1 j (q_go sil n N h).1 ∧ (∀ k, (k < j ∨ j + 8 ≤ k) → I1 k = I k)) 0 0 5 [some (.ref j), some (.int (nI h)), some (.int sil), some (.int s), some (.int x)] [] LAY K := by
    intro lpn
    induction lpn using Nat.strongRecOn with
    | _ lpn ih =>
      intro k x s K hms hk hx hs hRk hfr
      subst hx
      refine A_iload rfl dX0_pass_5 ?_
      refine A_iload_n rfl dX0_pass_7 ?_
      refine A_icmp_ge 25 rfl dX0_pass_8 (fun cq8 => ?_) (fun cq8 => ?_)
      · skip
        have hkn := (le_nI rfl rfl (by omega) (by omega)).mp cq8
        have hke : k = h := by omega
        subst hke
        refine A_iload_n rfl dX0_pass_25 ?_
        refine A_iret rfl rfl rfl rfl dX0_pass_26 ?_
        exact ⟨by rw [hs], rfl, hRk, hfr⟩
      · skip
        have hkn : k < h := by
          have hq1 := mt (le_nI (rfl : nI h = nI h) (rfl : nI k = nI k) (by omega) (by omega)).mpr cq8
          omega
        refine A_iload_n rfl dX0_pass_11 ?_
        refine A_aload_n rfl dX0_pass_12 ?_
        refine A_iload_n rfl dX0_pass_13 ?_
        refine A_callV (s_hour l G j hj K _ n hn (go_1 hn hN k) hRk (go_kn hn hN hK k) sil) m_X0_anHour ml_X0_83 rfl (lj hj) rfl (by decide) rfl rfl (Nat.le_of_ble_eq_true rfl) (by decide) (by decide) (by decide) dX0_pass_14 (fun _ _ _ hqq => congrArg List.length hqq.2.1) ?_
        rintro _ _ K2 ⟨rfl, rfl, hR2, hf2⟩
        refine A_iadd dX0_pass_17 ?_
        refine A_istore_n (by decide) rfl dX0_pass_18 ?_
        refine A_iinc ic_1 rfl (by decide) rfl dX0_pass_19 ?_
        refine A_goto 5 rfl dX0_pass_22 ?_
        exact ih (h - (k + 1)) (by omega) (k + 1) _ _ _ rfl (by omega) (nI_1 k) (by rw [hs]; rfl) hR2 (fun q hq => (hf2 q hq).trans (hfr q hq))
  refine Meth.of (by decide +kernel) (by simp [Value.category]) (Nat.le_of_ble_eq_true rfl) ?_
  refine A_iconst ic_0 dX0_pass_0 ?_
  refine A_istore_n (by decide) rfl dX0_pass_1 ?_
  refine A_iconst ic_0 dX0_pass_2 ?_
  refine A_istore (by decide) rfl dX0_pass_3 ?_
  exact loop h 0 _ _ I rfl (by omega) nI_0.symm rfl hR (fun _ _ => rfl)
theorem ob_ok : ∀ f, f < 8 → ∀ m, m < 256 → (nI m &&& (1 <<< (nI f &&& 31)) = 0 ↔ q_bit (nI m) f = 0) ∧ (q_bit (nI m) f = 1 → nI m ||| (1 <<< (nI f &&& 31)) = nI m) ∧ (nI m ||| (1 <<< (nI f &&& 31))).toBitVec.toNat < 256 := by decide +kernel
theorem out_keep {N : Nrow} {f : Nat} {way : Int32} (hf : f < 8) (hK : KnJ N) : ∀ k, k ≤ 10 → KnJ (q_outL N f way k).1
  | 0, _ => hK
  | k + 1, h => by
    have ih := out_keep (way := way) hf hK k (by omega)
    rw [q_outL]
    split
    · obtain ⟨m, hm1, hm2⟩ := ih k (by omega)
      refine ih.put (by omega) (ob_ok f hf m hm1).2.2 ?_
      rw [hm2, nI_back]
    · exact ih
theorem outL_x {N : Nrow} {f : Nat} {way : Int32} {m : Nat} (hm : ∀ i, i < 10 → m ≠ 18 + 5 * i) : ∀ k, k ≤ 10 → (q_outL N f way k).1 m = N m
  | 0, _ => rfl
  | k + 1, h => by
    have ih := outL_x (N := N) (f := f) (way := way) hm k (by omega)
    rw [q_outL]
    split
    · dsimp only; rw [upd_n (hm k (by omega))]; exact ih
    · exact ih
set_option maxHeartbeats 4000000 in
set_option maxRecDepth 100000 in
theorem s_out (l : Launch) (G : Gm) (j : Nat) (hj : isJ j) (I : Hp) (N : Nrow) (n : Nat) (hn : n ≤ 10) (hN : N 1 = nI n) (hR : RepJ I j N) (hK : KnJ N) (f : Nat) (hf : f < 8) (way : Int32) : Meth l G yX0_comesOut cX0_comesOut 6 (some (FieldType.int)) 1 0 0 [.ref j, .int (nI f), .int way] LAY I (fun r lay1 I1 => r = some (.int (q_outL N f way n).2) ∧ lay1 = LAY ∧ RepJ I1 j (q_outL N f way n).1 ∧ (∀ k, (k < j ∨ j + 8 ≤ k) → I1 k = I k)) := by
  have loop : ∀ (lpn : Nat) (k : Nat) (x s : Int32) (K : Hp), n - k = lpn → (k ≤ n) → (x = nI k) → (s = (q_outL N f way k).2) → (RepJ K j (q_outL N f way k).1) → (∀ q, (q < j ∨ j + 8 ≤ q) → K q = I q) → AW l G yX0_comesOut cX0_comesOut 6 (some (FieldType.int)) 1 0 0 (fun r lay1 I1 => r = some (.int (q_outL N f way n).2) ∧ lay1 = LAY ∧ RepJ I1 j (q_outL N f way n).1 ∧ (∀ k, (k < j ∨ j + 8 ≤ k) → I1 k = I k)) 0 0 10 [some (.ref j), some (.int (nI f)), some (.int way), some (.int (1 <<< (nI f &&& 31))), some (.int s), some (.int x)] [] LAY K := by
    intro lpn
    induction lpn using Nat.strongRecOn with
    | _ lpn ih =>
      intro k x s K hms hk hx hs hRk hfr
      subst hx
      have hN1 : (q_outL N f way k).1 1 = nI n := by rw [outL_x (fun i hi => by omega) k (by omega)]; exact hN
      have hK1 := out_keep (way := way) hf hK k (by omega)
      have hsz : K j 8 = nI n := hRk.1.1.trans hN1
      refine A_iload rfl dX0_comesOut_10 ?_
      refine A_aload_n rfl dX0_comesOut_12 ?_
      refine A_getI fr_X0_53.g rfl (lj hj) dX0_comesOut_13 ?_
      refine A_icmp_ge 62 rfl dX0_comesOut_16 (fun cq16 => ?_) (fun cq16 => ?_)
      · skip
        have hkn := (le_nI hsz rfl (by omega) (by omega)).mp cq16
        have hke : k = n := by omega
        subst hke
        refine A_iload rfl dX0_comesOut_62 ?_
        refine A_iret rfl rfl rfl rfl dX0_comesOut_64 ?_
        exact ⟨by rw [hs], rfl, hRk, hfr⟩
      · skip
        have hkn : k < n := by
          have hq1 := mt (le_nI hsz (rfl : nI k = nI k) (by omega) (by omega)).mpr cq16
          omega
        have e2 : K (j + 2) k = (q_outL N f way k).1 (17 + 5 * k) := hRk.2.2.1 k (by omega)
        have e3 : K (j + 3) k = (q_outL N f way k).1 (18 + 5 * k) := hRk.2.2.2.1 k (by omega)
        obtain ⟨m, hm1, hm2⟩ := hK1 k (by omega)
        have hob := ob_ok f hf m hm1
        rw [← hm2] at hob
        refine A_aload_n rfl dX0_comesOut_19 ?_
        refine A_getR fr_X0_15.g rfl (lj hj) rfl dX0_comesOut_20 ?_
        refine A_iload rfl dX0_comesOut_23 ?_
        refine A_iald _ rfl (lj2 hj) (by omega) (by decide) dX0_comesOut_25 ?_
        refine A_iload_n rfl dX0_comesOut_26 ?_
        refine A_icmp_ne 56 rfl dX0_comesOut_27 (fun cq27 => ?_) (fun cq27 => ?_)
        · skip
          rw [e2] at cq27
          refine A_iinc ic_1 rfl (by decide) rfl dX0_comesOut_56 ?_
          refine A_goto 10 rfl dX0_comesOut_59 ?_
          refine ih (n - (k + 1)) (by omega) (k + 1) _ _ _ rfl (by omega) (nI_1 k) ?_ ?_ ?_
          · rw [hs, q_outL]; rw [if_neg cq27]
          · rw [q_outL]; rw [if_neg cq27]; exact hRk
          · exact hfr
        · skip
          refine A_aload_n rfl dX0_comesOut_30 ?_
          refine A_getR fr_X0_18.g rfl (lj hj) rfl dX0_comesOut_31 ?_
          refine A_iload rfl dX0_comesOut_34 ?_
          refine A_iald _ rfl (lj3 hj) (by omega) (by decide) dX0_comesOut_36 ?_
          refine A_iload_n rfl dX0_comesOut_37 ?_
          refine A_iand dX0_comesOut_38 ?_
          refine A_if_ne 56 rfl dX0_comesOut_39 (fun cq39 => ?_) (fun cq39 => ?_)
          · skip
            rw [e2] at cq27
            rw [e3] at cq39
            have hb1 : q_bit ((q_outL N f way k).1 (18 + 5 * k)) f = 1 := (bit_01 _ f).resolve_left (fun hqq => cq39 (hob.1.mpr hqq))
            refine A_iinc ic_1 rfl (by decide) rfl dX0_comesOut_56 ?_
            refine A_goto 10 rfl dX0_comesOut_59 ?_
            refine ih (n - (k + 1)) (by omega) (k + 1) _ _ _ rfl (by omega) (nI_1 k) ?_ ?_ ?_
            · rw [hs, q_outL]; rw [if_pos cq27, hb1]; simp
            · rw [q_outL]; rw [if_pos cq27, hob.2.1 hb1, upd_id]; exact hRk
            · exact hfr
          · skip
            refine A_aload_n rfl dX0_comesOut_42 ?_
            refine A_getR fr_X0_18.g rfl (lj hj) rfl dX0_comesOut_43 ?_
            refine A_iload rfl dX0_comesOut_46 ?_
            refine A_dup2 rfl rfl dX0_comesOut_48 ?_
            refine A_iald _ rfl (lj3 hj) (by omega) (by decide) dX0_comesOut_49 ?_
            refine A_iload_n rfl dX0_comesOut_50 ?_
            refine A_ior dX0_comesOut_51 ?_
            refine A_iast _ rfl (lj3 hj) (by omega) (by decide) dX0_comesOut_52 ?_
            refine A_iinc ic_1 rfl (by decide) rfl dX0_comesOut_53 ?_
            rw [e2] at cq27
            rw [e3] at cq39
            have hb0 : q_bit ((q_outL N f way k).1 (18 + 5 * k)) f = 0 := hob.1.mp cq39
            refine A_iinc ic_1 rfl (by decide) rfl dX0_comesOut_56 ?_
            refine A_goto 10 rfl dX0_comesOut_59 ?_
            refine ih (n - (k + 1)) (by omega) (k + 1) _ _ _ rfl (by omega) (nI_1 k) ?_ ?_ ?_
            · rw [hs, q_outL]; rw [if_pos cq27, hb0]; rfl
            · rw [q_outL]; rw [if_pos cq27, e3]; exact hRk.knows (by omega)
            · intro q hq
              rw [up2_ne (by omega)]
              exact hfr q hq
  refine Meth.of (by decide +kernel) (by simp [Value.category]) (Nat.le_of_ble_eq_true rfl) ?_
  refine A_iconst ic_1 dX0_comesOut_0 ?_
  refine A_iload_n rfl dX0_comesOut_1 ?_
  refine A_ishl dX0_comesOut_2 ?_
  refine A_istore_n (by decide) rfl dX0_comesOut_3 ?_
  refine A_iconst ic_0 dX0_comesOut_4 ?_
  refine A_istore (by decide) rfl dX0_comesOut_5 ?_
  refine A_iconst ic_0 dX0_comesOut_7 ?_
  refine A_istore (by decide) rfl dX0_comesOut_8 ?_
  exact loop n 0 _ _ I (by omega) (by omega) nI_0.symm rfl hR (fun _ _ => rfl)
set_option maxHeartbeats 4000000 in
set_option maxRecDepth 100000 in
theorem s_add (l : Launch) (G : Gm) (j : Nat) (hj : isJ j) (I : Hp) (N : Nrow) (n : Nat) (hn : n < 10) (hN : N 1 = nI n) (hR : RepJ I j N) (a b c e : Int32) : Meth l G yX0_add cX0_add 5 none 1 0 0 [.ref j, .int a, .int b, .int c, .int e] LAY I (fun r lay1 I1 => r = none ∧ lay1 = LAY ∧ RepJ I1 j (q_add N n a b c e) ∧ (∀ k, (k < j ∨ j + 8 ≤ k) → I1 k = I k)) := by
  have hsz : I j 8 = nI n := hR.1.1.trans hN
  have f8 : ∀ {K : Hp} {q i : Nat} {x : Int32}, K j 8 = nI n → 0 < q → up2 K (j + q) i x j 8 = nI n := fun hqq hq0 => by rw [up2_ne (by omega)]; exact hqq
  refine Meth.of (by decide +kernel) (by simp [Value.category]) (Nat.le_of_ble_eq_true rfl) ?_
  refine A_aload_n rfl dX0_add_0 ?_
  refine A_getI fr_X0_53.g rfl (lj hj) dX0_add_1 ?_
  refine A_bipush bp_10 dX0_add_4 ?_
  refine A_icmp_lt 10 rfl dX0_add_6 (fun cq6 => ?_) (fun cq6 => ?_)
  · skip
    refine A_aload_n rfl dX0_add_10 ?_
    refine A_getR fr_X0_9.g rfl (lj hj) rfl dX0_add_11 ?_
    refine A_aload_n rfl dX0_add_14 ?_
    refine A_getI fr_X0_53.g rfl (lj hj) dX0_add_15 ?_
    refine A_iload_n rfl dX0_add_18 ?_
    refine A_iast n hsz (lj1 hj) (by omega) (by decide) dX0_add_19 ?_
    refine A_aload_n rfl dX0_add_20 ?_
    refine A_getR fr_X0_15.g rfl (lj hj) rfl dX0_add_21 ?_
    refine A_aload_n rfl dX0_add_24 ?_
    refine A_getI fr_X0_53.g rfl (lj hj) dX0_add_25 ?_
    refine A_iload_n rfl dX0_add_28 ?_
    refine A_iast n (f8 hsz (by decide)) (lj2 hj) (by omega) (by decide) dX0_add_29 ?_
    refine A_aload_n rfl dX0_add_30 ?_
    refine A_getR fr_X0_18.g rfl (lj hj) rfl dX0_add_31 ?_
    refine A_aload_n rfl dX0_add_34 ?_
    refine A_getI fr_X0_53.g rfl (lj hj) dX0_add_35 ?_
    refine A_iload_n rfl dX0_add_38 ?_
    refine A_iast n (f8 (f8 hsz (by decide)) (by decide)) (lj3 hj) (by omega) (by decide) dX0_add_39 ?_
    refine A_aload_n rfl dX0_add_40 ?_
    refine A_getR fr_X0_21.g rfl (lj hj) rfl dX0_add_41 ?_
    refine A_aload_n rfl dX0_add_44 ?_
    refine A_getI fr_X0_53.g rfl (lj hj) dX0_add_45 ?_
    refine A_iload rfl dX0_add_48 ?_
    refine A_iast n (f8 (f8 (f8 hsz (by decide)) (by decide)) (by decide)) (lj4 hj) (by omega) (by decide) dX0_add_50 ?_
    refine A_aload_n rfl dX0_add_51 ?_
    refine A_getR fr_X0_24.g rfl (lj hj) rfl dX0_add_52 ?_
    refine A_aload_n rfl dX0_add_55 ?_
    refine A_getI fr_X0_53.g rfl (lj hj) dX0_add_56 ?_
    refine A_iconst ic_0 dX0_add_59 ?_
    refine A_iast n (f8 (f8 (f8 (f8 hsz (by decide)) (by decide)) (by decide)) (by decide)) (lj5 hj) (by omega) (by decide) dX0_add_60 ?_
    refine A_aload_n rfl dX0_add_61 ?_
    refine A_dup rfl dX0_add_62 ?_
    refine A_getI fr_X0_53.g rfl (lj hj) dX0_add_63 ?_
    refine A_iconst ic_1 dX0_add_66 ?_
    refine A_iadd dX0_add_67 ?_
    refine A_putI fr_X0_53 rfl (lj hj) rfl rfl dX0_add_68 ?_
    refine A_vret rfl rfl rfl dX0_add_71 ?_
    refine ⟨rfl, rfl, ?_, ?_⟩
    · have h9 := (((((hR.kind (x := a) hn).side (x := b) hn).knows (x := c) hn).doubt (x := e) hn).passed (x := 0) hn).size (x := N 1 + 1)
      rw [f8 (f8 (f8 (f8 (f8 hsz (by decide)) (by decide)) (by decide)) (by decide)) (by decide), ← hN]
      exact h9
    · intro k hk
      rw [up2_ne (by omega), up2_ne (by omega), up2_ne (by omega), up2_ne (by omega), up2_ne (by omega), up2_ne (by omega)]
  · skip
    exfalso
    have hq1 := mt (lt_nI hsz (show (10 : Int32) = nI 10 from rfl) (by omega) (by omega)).mpr cq6
    omega
def q_lot (N : Nrow) (n : Nat) : Nrow :=
  let z1 := q_z (N 0)
  let z2 := q_z z1
  let z3 := q_z z2
  let z4 := q_z z3
  q_add (upd (upd (upd (upd N 0 z1) 0 z2) 0 z3) 0 z4) n (irem (q_r z1) 6) (irem (q_r z2) 2) (irem (q_r z3) 256) (irem (q_r z4) 30)
set_option maxHeartbeats 4000000 in
set_option maxRecDepth 100000 in
theorem s_lot (l : Launch) (G : Gm) (j : Nat) (hj : isJ j) (I : Hp) (N : Nrow) (n : Nat) (hn : n < 10) (hN : N 1 = nI n) (hR : RepJ I j N) : Meth l G yX0_addByLot cX0_addByLot 5 none 2 0 0 [.ref j] LAY I (fun r lay1 I1 => r = none ∧ lay1 = LAY ∧ RepJ I1 j (q_lot N n) ∧ (∀ k, (k < j ∨ j + 8 ≤ k) → I1 k = I k)) := by
  have hz0 : I j 14 = N 0 := hR.1.2.2.2.2.2.2.1
  refine Meth.of (by decide +kernel) (by simp [Value.category]) (Nat.le_of_ble_eq_true rfl) ?_
  refine A_aload_n rfl dX0_addByLot_0 ?_
  refine A_callV (s_draw l G j hj _ _ hz0) m_X0_draw ml_X0_68 rfl (lj hj) rfl (by decide) rfl rfl (Nat.le_of_ble_eq_true rfl) (by decide) (by decide) (by decide) dX0_addByLot_1 (fun _ _ _ h => congrArg List.length h.2.1) ?_
  rintro _ _ _ ⟨rfl, rfl, e9⟩
  refine AW_I e9 ?_
  clear e9
  refine A_bipush bp_6 dX0_addByLot_4 ?_
  refine A_irem dX0_addByLot_6 (by decide) ?_
  refine A_istore_n (by decide) rfl dX0_addByLot_7 ?_
  refine A_aload_n rfl dX0_addByLot_8 ?_
  refine A_callV (s_draw l G j hj _ _ up2_same) m_X0_draw ml_X0_68 rfl (lj hj) rfl (by decide) rfl rfl (Nat.le_of_ble_eq_true rfl) (by decide) (by decide) (by decide) dX0_addByLot_9 (fun _ _ _ h => congrArg List.length h.2.1) ?_
  rintro _ _ _ ⟨rfl, rfl, e9⟩
  refine AW_I e9 ?_
  clear e9
  refine A_iconst ic_2 dX0_addByLot_12 ?_
  refine A_irem dX0_addByLot_13 (by decide) ?_
  refine A_istore_n (by decide) rfl dX0_addByLot_14 ?_
  refine A_aload_n rfl dX0_addByLot_15 ?_
  refine A_callV (s_draw l G j hj _ _ up2_same) m_X0_draw ml_X0_68 rfl (lj hj) rfl (by decide) rfl rfl (Nat.le_of_ble_eq_true rfl) (by decide) (by decide) (by decide) dX0_addByLot_16 (fun _ _ _ h => congrArg List.length h.2.1) ?_
  rintro _ _ _ ⟨rfl, rfl, e9⟩
  refine AW_I e9 ?_
  clear e9
  refine A_sipush sp_256 dX0_addByLot_19 ?_
  refine A_irem dX0_addByLot_22 (by decide) ?_
  refine A_istore_n (by decide) rfl dX0_addByLot_23 ?_
  refine A_aload_n rfl dX0_addByLot_24 ?_
  refine A_callV (s_draw l G j hj _ _ up2_same) m_X0_draw ml_X0_68 rfl (lj hj) rfl (by decide) rfl rfl (Nat.le_of_ble_eq_true rfl) (by decide) (by decide) (by decide) dX0_addByLot_25 (fun _ _ _ h => congrArg List.length h.2.1) ?_
  rintro _ _ _ ⟨rfl, rfl, e9⟩
  refine AW_I e9 ?_
  clear e9
  refine A_bipush bp_30 dX0_addByLot_28 ?_
  refine A_irem dX0_addByLot_30 (by decide) ?_
  refine A_istore (by decide) rfl dX0_addByLot_31 ?_
  refine A_aload_n rfl dX0_addByLot_33 ?_
  refine A_iload_n rfl dX0_addByLot_34 ?_
  refine A_iload_n rfl dX0_addByLot_35 ?_
  refine A_iload_n rfl dX0_addByLot_36 ?_
  refine A_iload rfl dX0_addByLot_37 ?_
  refine A_callV (s_add l G j hj _ _ n hn (by rw [upd_n (by decide), upd_n (by decide), upd_n (by decide), upd_n (by decide)]; exact hN) ((((hR.z (x := q_z (N 0))).z (x := q_z (q_z (N 0)))).z (x := q_z (q_z (q_z (N 0))))).z (x := q_z (q_z (q_z (q_z (N 0)))))) _ _ _ _) m_X0_add ml_X0_72 rfl (lj hj) rfl (by decide) rfl rfl (Nat.le_of_ble_eq_true rfl) (by decide) (by decide) (by decide) dX0_addByLot_39 (fun _ _ _ hqq => congrArg List.length hqq.2.1) ?_
  rintro _ _ K2 ⟨rfl, rfl, hR2, hf2⟩
  refine A_vret rfl rfl rfl dX0_addByLot_42 ?_
  refine ⟨rfl, rfl, hR2, fun k hk => ?_⟩
  rw [hf2 k hk, up2_ne (by omega), up2_ne (by omega), up2_ne (by omega), up2_ne (by omega)]
/-- a row is copied over another one -/
def cpR (I : Hp) (a b n : Nat) : Hp := fun k => if k = b then va_cpy (I a) (I b) 0 0 n else I k
theorem A_cpR {l : Launch} {G : Gm} {y : MethodName} {cc : ByteArray} {nL : Nat} {rt : Option FieldType} {d mc ms : Nat} {Q : Pst} {cells slots pc : Nat} {L : List (Option Value)} {st : List Value} {lay : Lay} {I : Hp} {own : String} {idx k0 k1 n0 n1 : Nat} {r0 r1 : List (Option Nat)} {sp dp n : Int32} (q : Nat) (hl : Cond.methodLink own idx arraycopyName ∈ tb) (ho : y.cls = own) (hk0 : lay[k0]? = some (9, n0, r0)) (hk1 : lay[k1]? = some (9, n1, r1)) (ha : sp = nI 0) (hb : dp = nI 0) (hq : n = nI q) (h0 : 0 + q ≤ n0) (h1 : 0 + q ≤ n1) (hb0 : n0 < 2 ^ 31) (hb1 : n1 < 2 ^ 31) (h2 : 1 ≤ d) (hst : (st.map fun v => v.category).sum ≤ 8) (hd : decode cc pc = .ok (.invokestatic idx, 3)) (kk : AW l G y cc nL rt d mc ms Q cells slots (pc + 3) L st lay (cpR I k0 k1 q)) : AW l G y cc nL rt d mc ms Q cells slots pc L (.int n :: .int dp :: .ref k1 :: .int sp :: .ref k0 :: st) lay I := A_copy 0 0 q hl ho hk0 hk1 ha hb hq h0 h1 hb0 hb1 h2 hst hd kk
theorem cpR_in {I : Hp} {a b n i : Nat} (h : i < n) : cpR I a b n b i = I a i := by
  unfold cpR
  rw [if_pos rfl, pk_cpy_in (Nat.zero_le _) (by omega), Nat.zero_add, Nat.sub_zero]
theorem cpR_ne {I : Hp} {a b n k : Nat} (h : k ≠ b) : cpR I a b n k = I k := by unfold cpR; rw [if_neg h]
/-- what a jury is behind 'become' -/
def beJ (I : Hp) (i j : Nat) : Hp :=
  let K := cpR (cpR (cpR (cpR (cpR (cpR (cpR I (i + 1) (j + 1) 10) (i + 2) (j + 2) 10) (i + 3) (j + 3) 10) (i + 4) (j + 4) 10) (i + 5) (j + 5) 10) (i + 6) (j + 6) 8) (i + 7) (j + 7) 3
  up2 (up2 (up2 (up2 (up2 (up2 (up2 (up2 K j 8 (I i 8)) j 9 (I i 9)) j 10 (I i 10)) j 11 (I i 11)) j 12 (I i 12)) j 13 (I i 13)) j 14 (I i 14)) j 15 (I i 15)
theorem beJ_o {I : Hp} {i j k : Nat} (h : k < j ∨ j + 8 ≤ k) : beJ I i j k = I k := by
  unfold beJ
  rw [up2_ne (by omega), up2_ne (by omega), up2_ne (by omega), up2_ne (by omega), up2_ne (by omega), up2_ne (by omega), up2_ne (by omega), up2_ne (by omega), cpR_ne (by omega), cpR_ne (by omega), cpR_ne (by omega), cpR_ne (by omega), cpR_ne (by omega), cpR_ne (by omega), cpR_ne (by omega)]
theorem beJ_1 {I : Hp} {i j q : Nat} (h : i + 8 ≤ j ∨ j + 8 ≤ i) (hq : q < 10) : beJ I i j (j + 1) q = I (i + 1) q := by
  unfold beJ
  rw [up2_ne (by omega), up2_ne (by omega), up2_ne (by omega), up2_ne (by omega), up2_ne (by omega), up2_ne (by omega), up2_ne (by omega), up2_ne (by omega), cpR_ne (by omega), cpR_ne (by omega), cpR_ne (by omega), cpR_ne (by omega), cpR_ne (by omega), cpR_ne (by omega), cpR_in hq]
theorem beJ_2 {I : Hp} {i j q : Nat} (h : i + 8 ≤ j ∨ j + 8 ≤ i) (hq : q < 10) : beJ I i j (j + 2) q = I (i + 2) q := by
  unfold beJ
  rw [up2_ne (by omega), up2_ne (by omega), up2_ne (by omega), up2_ne (by omega), up2_ne (by omega), up2_ne (by omega), up2_ne (by omega), up2_ne (by omega), cpR_ne (by omega), cpR_ne (by omega), cpR_ne (by omega), cpR_ne (by omega), cpR_ne (by omega), cpR_in hq, cpR_ne (by omega)]
theorem beJ_3 {I : Hp} {i j q : Nat} (h : i + 8 ≤ j ∨ j + 8 ≤ i) (hq : q < 10) : beJ I i j (j + 3) q = I (i + 3) q := by
  unfold beJ
  rw [up2_ne (by omega), up2_ne (by omega), up2_ne (by omega), up2_ne (by omega), up2_ne (by omega), up2_ne (by omega), up2_ne (by omega), up2_ne (by omega), cpR_ne (by omega), cpR_ne (by omega), cpR_ne (by omega), cpR_ne (by omega), cpR_in hq, cpR_ne (by omega), cpR_ne (by omega)]
theorem beJ_4 {I : Hp} {i j q : Nat} (h : i + 8 ≤ j ∨ j + 8 ≤ i) (hq : q < 10) : beJ I i j (j + 4) q = I (i + 4) q := by
  unfold beJ
  rw [up2_ne (by omega), up2_ne (by omega), up2_ne (by omega), up2_ne (by omega), up2_ne (by omega), up2_ne (by omega), up2_ne (by omega), up2_ne (by omega), cpR_ne (by omega), cpR_ne (by omega), cpR_ne (by omega), cpR_in hq, cpR_ne (by omega), cpR_ne (by omega), cpR_ne (by omega)]
theorem beJ_5 {I : Hp} {i j q : Nat} (h : i + 8 ≤ j ∨ j + 8 ≤ i) (hq : q < 10) : beJ I i j (j + 5) q = I (i + 5) q := by
  unfold beJ
  rw [up2_ne (by omega), up2_ne (by omega), up2_ne (by omega), up2_ne (by omega), up2_ne (by omega), up2_ne (by omega), up2_ne (by omega), up2_ne (by omega), cpR_ne (by omega), cpR_ne (by omega), cpR_in hq, cpR_ne (by omega), cpR_ne (by omega), cpR_ne (by omega), cpR_ne (by omega)]
theorem beJ_6 {I : Hp} {i j q : Nat} (h : i + 8 ≤ j ∨ j + 8 ≤ i) (hq : q < 8) : beJ I i j (j + 6) q = I (i + 6) q := by
  unfold beJ
  rw [up2_ne (by omega), up2_ne (by omega), up2_ne (by omega), up2_ne (by omega), up2_ne (by omega), up2_ne (by omega), up2_ne (by omega), up2_ne (by omega), cpR_ne (by omega), cpR_in hq, cpR_ne (by omega), cpR_ne (by omega), cpR_ne (by omega), cpR_ne (by omega), cpR_ne (by omega)]
theorem beJ_7 {I : Hp} {i j q : Nat} (h : i + 8 ≤ j ∨ j + 8 ≤ i) (hq : q < 3) : beJ I i j (j + 7) q = I (i + 7) q := by
  unfold beJ
  rw [up2_ne (by omega), up2_ne (by omega), up2_ne (by omega), up2_ne (by omega), up2_ne (by omega), up2_ne (by omega), up2_ne (by omega), up2_ne (by omega), cpR_in hq, cpR_ne (by omega), cpR_ne (by omega), cpR_ne (by omega), cpR_ne (by omega), cpR_ne (by omega), cpR_ne (by omega)]
theorem beJ_8 {I : Hp} {i j : Nat} : beJ I i j j 8 = I i 8 := by
  unfold beJ
  rw [up2_ni (by decide), up2_ni (by decide), up2_ni (by decide), up2_ni (by decide), up2_ni (by decide), up2_ni (by decide), up2_ni (by decide), up2_same]
theorem beJ_9 {I : Hp} {i j : Nat} : beJ I i j j 9 = I i 9 := by
  unfold beJ
  rw [up2_ni (by decide), up2_ni (by decide), up2_ni (by decide), up2_ni (by decide), up2_ni (by decide), up2_ni (by decide), up2_same]
theorem beJ_10 {I : Hp} {i j : Nat} : beJ I i j j 10 = I i 10 := by
  unfold beJ
  rw [up2_ni (by decide), up2_ni (by decide), up2_ni (by decide), up2_ni (by decide), up2_ni (by decide), up2_same]
theorem beJ_11 {I : Hp} {i j : Nat} : beJ I i j j 11 = I i 11 := by
  unfold beJ
  rw [up2_ni (by decide), up2_ni (by decide), up2_ni (by decide), up2_ni (by decide), up2_same]
theorem beJ_12 {I : Hp} {i j : Nat} : beJ I i j j 12 = I i 12 := by
  unfold beJ
  rw [up2_ni (by decide), up2_ni (by decide), up2_ni (by decide), up2_same]
theorem beJ_13 {I : Hp} {i j : Nat} : beJ I i j j 13 = I i 13 := by
  unfold beJ
  rw [up2_ni (by decide), up2_ni (by decide), up2_same]
theorem beJ_14 {I : Hp} {i j : Nat} : beJ I i j j 14 = I i 14 := by
  unfold beJ
  rw [up2_ni (by decide), up2_same]
theorem beJ_15 {I : Hp} {i j : Nat} : beJ I i j j 15 = I i 15 := by
  unfold beJ
  rw [up2_same]
theorem RepJ.be {I : Hp} {i j : Nat} {N : Nrow} (h : i + 8 ≤ j ∨ j + 8 ≤ i) (hR : RepJ I i N) : RepJ (beJ I i j) j N := by
  obtain ⟨⟨a1, a2, a3, a4, a5, a6, a7, a8⟩, b1, b2, b3, b4, b5, b6, b7⟩ := hR
  exact ⟨⟨by rw [beJ_8]; exact a1, by rw [beJ_9]; exact a2, by rw [beJ_10]; exact a3, by rw [beJ_11]; exact a4, by rw [beJ_12]; exact a5, by rw [beJ_13]; exact a6, by rw [beJ_14]; exact a7, by rw [beJ_15]; exact a8⟩, fun q hq => by rw [beJ_1 h hq]; exact b1 q hq, fun q hq => by rw [beJ_2 h hq]; exact b2 q hq, fun q hq => by rw [beJ_3 h hq]; exact b3 q hq, fun q hq => by rw [beJ_4 h hq]; exact b4 q hq, fun q hq => by rw [beJ_5 h hq]; exact b5 q hq, fun q hq => by rw [beJ_6 h hq]; exact b6 q hq, fun q hq => by rw [beJ_7 h hq]; exact b7 q hq⟩
set_option maxHeartbeats 4000000 in
set_option maxRecDepth 100000 in
theorem s_become (l : Launch) (G : Gm) (i j : Nat) (hi : isJ i) (hj : isJ j) (hij : i + 8 ≤ j ∨ j + 8 ≤ i) (I : Hp) : Meth l G yX0_become cX0_become 2 none 1 0 0 [.ref j, .ref i] LAY I (fun r lay1 I1 => r = none ∧ lay1 = LAY ∧ I1 = beJ I i j) := by
  refine Meth.of (by decide +kernel) (by simp [Value.category]) (Nat.le_of_ble_eq_true rfl) ?_
  refine A_aload_n rfl dX0_become_0 ?_
  refine A_getR fr_X0_9.g rfl (lj hi) rfl dX0_become_1 ?_
  refine A_iconst ic_0 dX0_become_4 ?_
  refine A_aload_n rfl dX0_become_5 ?_
  refine A_getR fr_X0_9.g rfl (lj hj) rfl dX0_become_6 ?_
  refine A_iconst ic_0 dX0_become_9 ?_
  refine A_bipush bp_10 dX0_become_10 ?_
  refine A_cpR 10 ml_X0_47 rfl (lj1 hi) (lj1 hj) rfl rfl rfl (by decide) (by decide) (by decide) (by decide) (by decide) (Nat.le_of_ble_eq_true rfl) dX0_become_12 ?_
  refine A_aload_n rfl dX0_become_15 ?_
  refine A_getR fr_X0_15.g rfl (lj hi) rfl dX0_become_16 ?_
  refine A_iconst ic_0 dX0_become_19 ?_
  refine A_aload_n rfl dX0_become_20 ?_
  refine A_getR fr_X0_15.g rfl (lj hj) rfl dX0_become_21 ?_
  refine A_iconst ic_0 dX0_become_24 ?_
  refine A_bipush bp_10 dX0_become_25 ?_
  refine A_cpR 10 ml_X0_47 rfl (lj2 hi) (lj2 hj) rfl rfl rfl (by decide) (by decide) (by decide) (by decide) (by decide) (Nat.le_of_ble_eq_true rfl) dX0_become_27 ?_
  refine A_aload_n rfl dX0_become_30 ?_
  refine A_getR fr_X0_18.g rfl (lj hi) rfl dX0_become_31 ?_
  refine A_iconst ic_0 dX0_become_34 ?_
  refine A_aload_n rfl dX0_become_35 ?_
  refine A_getR fr_X0_18.g rfl (lj hj) rfl dX0_become_36 ?_
  refine A_iconst ic_0 dX0_become_39 ?_
  refine A_bipush bp_10 dX0_become_40 ?_
  refine A_cpR 10 ml_X0_47 rfl (lj3 hi) (lj3 hj) rfl rfl rfl (by decide) (by decide) (by decide) (by decide) (by decide) (Nat.le_of_ble_eq_true rfl) dX0_become_42 ?_
  refine A_aload_n rfl dX0_become_45 ?_
  refine A_getR fr_X0_21.g rfl (lj hi) rfl dX0_become_46 ?_
  refine A_iconst ic_0 dX0_become_49 ?_
  refine A_aload_n rfl dX0_become_50 ?_
  refine A_getR fr_X0_21.g rfl (lj hj) rfl dX0_become_51 ?_
  refine A_iconst ic_0 dX0_become_54 ?_
  refine A_bipush bp_10 dX0_become_55 ?_
  refine A_cpR 10 ml_X0_47 rfl (lj4 hi) (lj4 hj) rfl rfl rfl (by decide) (by decide) (by decide) (by decide) (by decide) (Nat.le_of_ble_eq_true rfl) dX0_become_57 ?_
  refine A_aload_n rfl dX0_become_60 ?_
  refine A_getR fr_X0_24.g rfl (lj hi) rfl dX0_become_61 ?_
  refine A_iconst ic_0 dX0_become_64 ?_
  refine A_aload_n rfl dX0_become_65 ?_
  refine A_getR fr_X0_24.g rfl (lj hj) rfl dX0_become_66 ?_
  refine A_iconst ic_0 dX0_become_69 ?_
  refine A_bipush bp_10 dX0_become_70 ?_
  refine A_cpR 10 ml_X0_47 rfl (lj5 hi) (lj5 hj) rfl rfl rfl (by decide) (by decide) (by decide) (by decide) (by decide) (Nat.le_of_ble_eq_true rfl) dX0_become_72 ?_
  refine A_aload_n rfl dX0_become_75 ?_
  refine A_getR fr_X0_27.g rfl (lj hi) rfl dX0_become_76 ?_
  refine A_iconst ic_0 dX0_become_79 ?_
  refine A_aload_n rfl dX0_become_80 ?_
  refine A_getR fr_X0_27.g rfl (lj hj) rfl dX0_become_81 ?_
  refine A_iconst ic_0 dX0_become_84 ?_
  refine A_bipush bp_8 dX0_become_85 ?_
  refine A_cpR 8 ml_X0_47 rfl (lj6 hi) (lj6 hj) rfl rfl rfl (by decide) (by decide) (by decide) (by decide) (by decide) (Nat.le_of_ble_eq_true rfl) dX0_become_87 ?_
  refine A_aload_n rfl dX0_become_90 ?_
  refine A_getR fr_X0_30.g rfl (lj hi) rfl dX0_become_91 ?_
  refine A_iconst ic_0 dX0_become_94 ?_
  refine A_aload_n rfl dX0_become_95 ?_
  refine A_getR fr_X0_30.g rfl (lj hj) rfl dX0_become_96 ?_
  refine A_iconst ic_0 dX0_become_99 ?_
  refine A_iconst ic_3 dX0_become_100 ?_
  refine A_cpR 3 ml_X0_47 rfl (lj7 hi) (lj7 hj) rfl rfl rfl (by decide) (by decide) (by decide) (by decide) (by decide) (Nat.le_of_ble_eq_true rfl) dX0_become_101 ?_
  refine A_aload_n rfl dX0_become_104 ?_
  refine A_aload_n rfl dX0_become_105 ?_
  refine A_getI fr_X0_53.g rfl (lj hi) dX0_become_106 ?_
  refine A_putI fr_X0_53 rfl (lj hj) rfl rfl dX0_become_109 ?_
  refine A_aload_n rfl dX0_become_112 ?_
  refine A_aload_n rfl dX0_become_113 ?_
  refine A_getI fr_X0_33.g rfl (lj hi) dX0_become_114 ?_
  refine A_putI fr_X0_33 rfl (lj hj) rfl rfl dX0_become_117 ?_
  refine A_aload_n rfl dX0_become_120 ?_
  refine A_aload_n rfl dX0_become_121 ?_
  refine A_getI fr_X0_37.g rfl (lj hi) dX0_become_122 ?_
  refine A_putI fr_X0_37 rfl (lj hj) rfl rfl dX0_become_125 ?_
  refine A_aload_n rfl dX0_become_128 ?_
  refine A_aload_n rfl dX0_become_129 ?_
  refine A_getI fr_X0_56.g rfl (lj hi) dX0_become_130 ?_
  refine A_putI fr_X0_56 rfl (lj hj) rfl rfl dX0_become_133 ?_
  refine A_aload_n rfl dX0_become_136 ?_
  refine A_aload_n rfl dX0_become_137 ?_
  refine A_getI fr_X0_59.g rfl (lj hi) dX0_become_138 ?_
  refine A_putI fr_X0_59 rfl (lj hj) rfl rfl dX0_become_141 ?_
  refine A_aload_n rfl dX0_become_144 ?_
  refine A_aload_n rfl dX0_become_145 ?_
  refine A_getI fr_X0_62.g rfl (lj hi) dX0_become_146 ?_
  refine A_putI fr_X0_62 rfl (lj hj) rfl rfl dX0_become_149 ?_
  refine A_aload_n rfl dX0_become_152 ?_
  refine A_aload_n rfl dX0_become_153 ?_
  refine A_getI fr_X0_40.g rfl (lj hi) dX0_become_154 ?_
  refine A_putI fr_X0_40 rfl (lj hj) rfl rfl dX0_become_157 ?_
  refine A_aload_n rfl dX0_become_160 ?_
  refine A_aload_n rfl dX0_become_161 ?_
  refine A_getI fr_X0_65.g rfl (lj hi) dX0_become_162 ?_
  refine A_putI fr_X0_65 rfl (lj hj) rfl rfl dX0_become_165 ?_
  refine A_vret rfl rfl rfl dX0_become_168 ?_
  refine ⟨rfl, rfl, ?_⟩
  have g0 : ∀ f, (cpR (cpR (cpR (cpR (cpR (cpR (cpR I (i + 1) (j + 1) 10) (i + 2) (j + 2) 10) (i + 3) (j + 3) 10) (i + 4) (j + 4) 10) (i + 5) (j + 5) 10) (i + 6) (j + 6) 8) (i + 7) (j + 7) 3) i f = I i f := fun f => by rw [cpR_ne (by omega), cpR_ne (by omega), cpR_ne (by omega), cpR_ne (by omega), cpR_ne (by omega), cpR_ne (by omega), cpR_ne (by omega)]
  have g1 : ∀ (K : Hp) (f : Nat) (x : Int32), up2 K j f x i = K i := fun K f x => up2_ne (by omega)
  show up2 (up2 (up2 (up2 (up2 (up2 (up2 (up2 (cpR (cpR (cpR (cpR (cpR (cpR (cpR I (i + 1) (j + 1) 10) (i + 2) (j + 2) 10) (i + 3) (j + 3) 10) (i + 4) (j + 4) 10) (i + 5) (j + 5) 10) (i + 6) (j + 6) 8) (i + 7) (j + 7) 3) j 8 _) j 9 _) j 10 _) j 11 _) j 12 _) j 13 _) j 14 _) j 15 _ = beJ I i j
  simp only [g1, g0]
  rfl
