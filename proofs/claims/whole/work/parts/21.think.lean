def q_all (s : Int32) (n : Nat) : Nat → Nat → Nrow → Int32
  | 0, _, _ => -1000000005
  | g + 1, k, M => if s &&& (q_com M n ^^^ -1) = 0 then nI k else q_all s n g (k + 1) (q_hour (-1) M n).1
def f_allKnow (N : Nrow) (n : Nat) : Int32 := q_all (q_any N n) n 201 0 N
set_option maxHeartbeats 1000000 in
set_option maxRecDepth 100000 in
theorem c_allKnow (l : Launch) (G : Gm) (I : Hp) (N : Nrow) (n : Nat) (hn : n ≤ 10) (hN : N 1 = nI n) (hR : RepJ I 36 N) (hK : KnJ N)  : Meth l G yX7_allKnow cX7_allKnow 3 (some (FieldType.int)) 5 0 0 [.ref 0] LAY I (fun r lay1 I1 => r = some (.int (f_allKnow N n)) ∧ lay1 = LAY ∧ Tho I I1) := by
  have loop : ∀ (lpn : Nat) (k : Nat) (M : Nrow) (K : Hp), 201 - k = lpn → (k ≤ 201) → (M 1 = nI n) → (KnJ M) → (q_all (q_any N n) n (201 - k) k M = f_allKnow N n) → (RepJ K 52 M) → (Tho I K) → AW l G yX7_allKnow cX7_allKnow 3 (some (FieldType.int)) 5 0 0 (fun r lay1 I1 => r = some (.int (f_allKnow N n)) ∧ lay1 = LAY ∧ Tho I I1) 0 0 21 [some (.ref 0), some (.int (q_any N n)), some (.int (nI k))] [] LAY K := by
    intro lpn
    induction lpn using Nat.strongRecOn with
    | _ lpn ih =>
      intro k M K hms hk hM hKn hgd hRk hT
      refine A_iload_n rfl dX7_allKnow_21 ?_
      refine A_sipush sp_200 dX7_allKnow_22 ?_
      refine A_icmp_gt 59 rfl dX7_allKnow_25 (fun cq25 => ?_) (fun cq25 => ?_)
      · skip
        have hkn : k = 201 := by
          have hq1 := (lt_nI (show (200 : Int32) = nI 200 from rfl) (rfl : nI k = nI k) (by omega) (by omega)).mp cq25
          omega
        subst hkn
        refine A_ldc kc_X7_109 rfl dX7_allKnow_59 ?_
        refine A_iret rfl rfl rfl rfl dX7_allKnow_61 ?_
        rw [← hgd]
        exact ⟨rfl, rfl, hT⟩
      · skip
        have hkn : k ≤ 200 := by
          have hq1 := mt (lt_nI (show (200 : Int32) = nI 200 from rfl) (rfl : nI k = nI k) (by omega) (by omega)).mpr cq25
          omega
        obtain ⟨g, hg⟩ : ∃ g, 201 - k = g + 1 := ⟨200 - k, by omega⟩
        refine A_iload_n rfl dX7_allKnow_28 ?_
        refine A_aload_n rfl dX7_allKnow_29 ?_
        refine A_getR fr_X7_35.g rfl lay_0 rfl dX7_allKnow_30 ?_
        refine A_callV (s_com l G 52 j52 K _ n hn hM hRk) m_X0_common ml_X7_159 rfl (lj j52) rfl (by decide) rfl rfl (Nat.le_of_ble_eq_true rfl) (by decide) (by decide) (by decide) dX7_allKnow_33 (fun _ _ _ h => congrArg List.length h.2.1) ?_
        rintro _ _ _ ⟨rfl, rfl, e9⟩
        refine AW_I e9 ?_
        clear e9
        refine A_iconst ic_m1 dX7_allKnow_36 ?_
        refine A_ixor dX7_allKnow_37 ?_
        refine A_iand dX7_allKnow_38 ?_
        refine A_if_ne 44 rfl dX7_allKnow_39 (fun cq39 => ?_) (fun cq39 => ?_)
        · skip
          refine A_aload_n rfl dX7_allKnow_44 ?_
          refine A_getR fr_X7_35.g rfl lay_0 rfl dX7_allKnow_45 ?_
          refine A_iconst ic_m1 dX7_allKnow_48 ?_
          refine A_callV (s_hour l G 52 j52 K _ n hn hM hRk hKn (-1)) m_X0_anHour ml_X7_183 rfl (lj j52) rfl (by decide) rfl rfl (Nat.le_of_ble_eq_true rfl) (by decide) (by decide) (by decide) dX7_allKnow_49 (fun _ _ _ hqq => congrArg List.length hqq.2.1) ?_
          rintro _ _ K2 ⟨rfl, rfl, hR2, hf2⟩
          refine A_pop rfl dX7_allKnow_52 ?_
          refine A_iinc ic_1 rfl (by decide) rfl dX7_allKnow_53 ?_
          refine A_goto 21 rfl dX7_allKnow_56 ?_
          refine AW_L (by rw [nI_1 k]) ?_
          exact ih (201 - (k + 1)) (by omega) (k + 1) _ _ rfl (by omega) (hour_1 hn hM) (hour_keep hn hM hKn) (by rw [← hgd, hg, show 201 - (k + 1) = g by omega, q_all, if_neg cq39]) hR2 (hT.fr hf2)
        · skip
          refine A_iload_n rfl dX7_allKnow_42 ?_
          refine A_iret rfl rfl rfl rfl dX7_allKnow_43 ?_
          rw [← hgd, hg, q_all, if_pos cq39]
          exact ⟨rfl, rfl, hT⟩
  refine Meth.of (by decide +kernel) (by simp [Value.category]) (Nat.le_of_ble_eq_true rfl) ?_
  refine A_aload_n rfl dX7_allKnow_0 ?_
  refine A_getR fr_X7_35.g rfl lay_0 rfl dX7_allKnow_1 ?_
  refine A_aload_n rfl dX7_allKnow_4 ?_
  refine A_getR fr_X7_28.g rfl lay_0 rfl dX7_allKnow_5 ?_
  refine A_callV (s_become l G 36 52 j36 j52 (by decide) I) m_X0_become ml_X7_179 rfl (lj j52) rfl (by decide) rfl rfl (Nat.le_of_ble_eq_true rfl) (by decide) (by decide) (by decide) dX7_allKnow_8 (fun _ _ _ h => congrArg List.length h.2.1) ?_
  rintro _ _ _ ⟨rfl, rfl, e9⟩
  refine AW_I e9 ?_
  clear e9
  refine A_aload_n rfl dX7_allKnow_11 ?_
  refine A_getR fr_X7_28.g rfl lay_0 rfl dX7_allKnow_12 ?_
  refine A_callV (s_any l G 36 j36 _ N n hn hN ((Tho.rf I).be.rep hR)) m_X0_any ml_X7_172 rfl (lj j36) rfl (by decide) rfl rfl (Nat.le_of_ble_eq_true rfl) (by decide) (by decide) (by decide) dX7_allKnow_15 (fun _ _ _ h => congrArg List.length h.2.1) ?_
  rintro _ _ _ ⟨rfl, rfl, e9⟩
  refine AW_I e9 ?_
  clear e9
  refine A_istore_n (by decide) rfl dX7_allKnow_18 ?_
  refine A_iconst ic_0 dX7_allKnow_19 ?_
  refine A_istore_n (by decide) rfl dX7_allKnow_20 ?_
  exact loop 201 0 N _ rfl (by omega) hN hK rfl (hR.be (by decide)) (Tho.rf I).be
set_option maxHeartbeats 1000000 in
set_option maxRecDepth 100000 in
theorem m_allKnow (l : Launch) (G : Gm) (I : Hp) (N : Nrow) (h87 : I 87 = N) (n : Nat) (hn : n ≤ 10) (hN : N 1 = nI n) (hsil : I 86 4 = -1)  : Meth l G yX8_allKnow cX8_allKnow 4 (some (FieldType.int)) 4 0 0 [.ref 86] LAY I (fun r lay1 I1 => r = some (.int (f_allKnow N n)) ∧ lay1 = LAY ∧ ∀ q, q ≠ 90 → q ≠ 97 → q ≠ 98 → I1 q = I q) := by
  subst h87
  have loop : ∀ (lpn : Nat) (k : Nat) (M : Nrow) (K : Hp) (o3 : Option Value), 201 - k = lpn → (k ≤ 201) → (M 1 = nI n) → (Kp (I 87) M) → (q_all (q_any (I 87) n) n (201 - k) k M = f_allKnow (I 87) n) → (K = setN (setR I 90 (cpN (I 87) (I 90) 66)) M) → AW l G yX8_allKnow cX8_allKnow 4 (some (FieldType.int)) 4 0 0 (fun r lay1 I1 => r = some (.int (f_allKnow (I 87) n)) ∧ lay1 = LAY ∧ ∀ q, q ≠ 90 → q ≠ 97 → q ≠ 98 → I1 q = I q) 0 0 11 [some (.ref 86), some (.int (q_any (I 87) n)), some (.int (nI k)), o3] [] LAY K := by
    intro lpn
    induction lpn using Nat.strongRecOn with
    | _ lpn ih =>
      intro k M K o3 hms hk hM hKp hgd hKe
      subst hKe
      refine A_iload_n rfl dX8_allKnow_11 ?_
      refine A_sipush sp_200 dX8_allKnow_12 ?_
      refine A_icmp_gt 37 rfl dX8_allKnow_15 (fun cq15 => ?_) (fun cq15 => ?_)
      · skip
        have hB := ((Mind.st (I := I)).setN (M := M) (fun m hm => hKp m (kp_67 hm))).back hsil
        refine A_aload_n rfl dX8_allKnow_37 ?_
        refine A_callV (t_putsBack l G _) m_X8_putsBack ml_X8_183 rfl lay_86 rfl (by decide) rfl rfl (Nat.le_of_ble_eq_true rfl) (by decide) (by decide) (by decide) dX8_allKnow_38 (fun _ _ _ h => congrArg List.length h.2.1) ?_
        rintro _ _ _ ⟨rfl, rfl, e9⟩
        refine AW_I e9 ?_
        clear e9
        refine A_iload_n rfl dX8_allKnow_41 ?_
        refine A_sipush sp_200 dX8_allKnow_42 ?_
        refine A_icmp_gt 52 rfl dX8_allKnow_45 (fun cq45 => ?_) (fun cq45 => ?_)
        · skip
          refine A_ldc kc_X8_79 rfl dX8_allKnow_52 ?_
          refine A_iret rfl rfl rfl rfl dX8_allKnow_54 ?_
          refine ⟨?_, rfl, hB.1.end_ hB.2.1 hB.2.2⟩
          first
            | exact absurd cq15 cq45
            | exact absurd cq45 cq15
            | (have h7 := b2i_p.mp cq23; have h8 : ¬ (200 : Int32) < nI k := cq15; rw [← hgd, hg, q_all, if_pos h7])
            | (have h7 : (200 : Int32) < nI k := cq15; have hq1 := (lt_nI (show (200 : Int32) = nI 200 from rfl) (rfl : nI k = nI k) (by omega) (by omega)).mp h7; have hkn : k = 201 := (by omega); subst hkn; rw [← hgd]; rfl)
        · skip
          refine A_iload_n rfl dX8_allKnow_48 ?_
          refine A_goto 54 rfl dX8_allKnow_49 ?_
          refine A_iret rfl rfl rfl rfl dX8_allKnow_54 ?_
          refine ⟨?_, rfl, hB.1.end_ hB.2.1 hB.2.2⟩
          first
            | exact absurd cq15 cq45
            | exact absurd cq45 cq15
            | (have h7 := b2i_p.mp cq23; have h8 : ¬ (200 : Int32) < nI k := cq15; rw [← hgd, hg, q_all, if_pos h7])
            | (have h7 : (200 : Int32) < nI k := cq15; have hq1 := (lt_nI (show (200 : Int32) = nI 200 from rfl) (rfl : nI k = nI k) (by omega) (by omega)).mp h7; have hkn : k = 201 := (by omega); subst hkn; rw [← hgd]; rfl)
      · skip
        have hkn : k ≤ 200 := by
          have hq1 := mt (lt_nI (show (200 : Int32) = nI 200 from rfl) (rfl : nI k = nI k) (by omega) (by omega)).mpr cq15
          omega
        obtain ⟨g, hg⟩ : ∃ g, 201 - k = g + 1 := ⟨200 - k, by omega⟩
        refine A_aload_n rfl dX8_allKnow_18 ?_
        refine A_iload_n rfl dX8_allKnow_19 ?_
        refine A_callV (t_isKnown l G _ _ setN_87 n hn hM _) m_X8_isKnown ml_X8_186 rfl lay_86 rfl (by decide) rfl rfl (Nat.le_of_ble_eq_true rfl) (by decide) (by decide) (by decide) dX8_allKnow_20 (fun _ _ _ h => congrArg List.length h.2.1) ?_
        rintro _ _ _ ⟨rfl, rfl, e9⟩
        refine AW_I e9 ?_
        clear e9
        refine A_if_ne 37 rfl dX8_allKnow_23 (fun cq23 => ?_) (fun cq23 => ?_)
        · skip
          have hB := ((Mind.st (I := I)).setN (M := M) (fun m hm => hKp m (kp_67 hm))).back hsil
          refine A_aload_n rfl dX8_allKnow_37 ?_
          refine A_callV (t_putsBack l G _) m_X8_putsBack ml_X8_183 rfl lay_86 rfl (by decide) rfl rfl (Nat.le_of_ble_eq_true rfl) (by decide) (by decide) (by decide) dX8_allKnow_38 (fun _ _ _ h => congrArg List.length h.2.1) ?_
          rintro _ _ _ ⟨rfl, rfl, e9⟩
          refine AW_I e9 ?_
          clear e9
          refine A_iload_n rfl dX8_allKnow_41 ?_
          refine A_sipush sp_200 dX8_allKnow_42 ?_
          refine A_icmp_gt 52 rfl dX8_allKnow_45 (fun cq45 => ?_) (fun cq45 => ?_)
          · skip
            refine A_ldc kc_X8_79 rfl dX8_allKnow_52 ?_
            refine A_iret rfl rfl rfl rfl dX8_allKnow_54 ?_
            refine ⟨?_, rfl, hB.1.end_ hB.2.1 hB.2.2⟩
            first
              | exact absurd cq15 cq45
              | exact absurd cq45 cq15
              | (have h7 := b2i_p.mp cq23; have h8 : ¬ (200 : Int32) < nI k := cq15; rw [← hgd, hg, q_all, if_pos h7])
              | (have h7 : (200 : Int32) < nI k := cq15; have hq1 := (lt_nI (show (200 : Int32) = nI 200 from rfl) (rfl : nI k = nI k) (by omega) (by omega)).mp h7; have hkn : k = 201 := (by omega); subst hkn; rw [← hgd]; rfl)
          · skip
            refine A_iload_n rfl dX8_allKnow_48 ?_
            refine A_goto 54 rfl dX8_allKnow_49 ?_
            refine A_iret rfl rfl rfl rfl dX8_allKnow_54 ?_
            refine ⟨?_, rfl, hB.1.end_ hB.2.1 hB.2.2⟩
            first
              | exact absurd cq15 cq45
              | exact absurd cq45 cq15
              | (have h7 := b2i_p.mp cq23; have h8 : ¬ (200 : Int32) < nI k := cq15; rw [← hgd, hg, q_all, if_pos h7])
              | (have h7 : (200 : Int32) < nI k := cq15; have hq1 := (lt_nI (show (200 : Int32) = nI 200 from rfl) (rfl : nI k = nI k) (by omega) (by omega)).mp h7; have hkn : k = 201 := (by omega); subst hkn; rw [← hgd]; rfl)
        · skip
          refine A_aload_n rfl dX8_allKnow_26 ?_
          refine A_callV (t_hour l G _ _ setN_87 (-1) (by rw [setN_ne (by decide), setR_n (by decide)]; exact hsil) n hn hM) m_X8_hour ml_X8_159 rfl lay_86 rfl (by decide) rfl rfl (Nat.le_of_ble_eq_true rfl) (by decide) (by decide) (by decide) dX8_allKnow_27 (fun _ _ _ h => congrArg List.length h.2.1) ?_
          rintro _ _ _ ⟨rfl, rfl, e9⟩
          refine AW_I e9 ?_
          clear e9
          refine A_istore_n (by decide) rfl dX8_allKnow_30 ?_
          refine A_iinc ic_1 rfl (by decide) rfl dX8_allKnow_31 ?_
          refine A_goto 11 rfl dX8_allKnow_34 ?_
          refine AW_L (by rw [nI_1 k]) ?_
          exact ih (201 - (k + 1)) (by omega) (k + 1) _ _ _ rfl (by omega) (hour_1 hn hM) (hKp.tr (hour_kp hn hM)) (by rw [← hgd, hg, show 201 - (k + 1) = g by omega, q_all, if_neg (b2i_q.mp cq23)]) setN_set
  refine Meth.of (by decide +kernel) (by simp [Value.category]) (Nat.le_of_ble_eq_true rfl) ?_
  refine A_aload_n rfl dX8_allKnow_0 ?_
  refine A_callV (t_thinks l G I) m_X8_thinks ml_X8_177 rfl lay_86 rfl (by decide) rfl rfl (Nat.le_of_ble_eq_true rfl) (by decide) (by decide) (by decide) dX8_allKnow_1 (fun _ _ _ h => congrArg List.length h.2.1) ?_
  rintro _ _ _ ⟨rfl, rfl, e9⟩
  refine AW_I e9 ?_
  clear e9
  refine A_aload_n rfl dX8_allKnow_4 ?_
  refine A_callV (t_any l G _ (I 87) (setR_n (by decide)) n hn hN) m_X8_any ml_X8_174 rfl lay_86 rfl (by decide) rfl rfl (Nat.le_of_ble_eq_true rfl) (by decide) (by decide) (by decide) dX8_allKnow_5 (fun _ _ _ h => congrArg List.length h.2.1) ?_
  rintro _ _ _ ⟨rfl, rfl, e9⟩
  refine AW_I e9 ?_
  clear e9
  refine A_istore_n (by decide) rfl dX8_allKnow_8 ?_
  refine A_iconst ic_0 dX8_allKnow_9 ?_
  refine A_istore_n (by decide) rfl dX8_allKnow_10 ?_
  exact loop 201 0 (I 87) _ _ rfl (by omega) hN (Kp.rf _) rfl (by funext q; unfold setN setR; by_cases h8 : q = 87 <;> simp [h8])
def q_arg (f : Nat → Int32) : Nat → Int32 × Int32
  | 0 => (0, -1)
  | k + 1 => if f k ≤ (q_arg f k).2 then q_arg f k else (nI k, f k)
theorem arg_p {f : Nat → Int32} {k : Nat} (h : f k ≤ (q_arg f k).2) : q_arg f (k + 1) = q_arg f k := by rw [q_arg, if_pos h]
theorem arg_n {f : Nat → Int32} {k : Nat} (h : ¬ f k ≤ (q_arg f k).2) : q_arg f (k + 1) = (nI k, f k) := by rw [q_arg, if_neg h]
def q_bt (N : Nrow) (n h : Nat) (t : Nat) : Int32 := q_kn (q_go (-1) n (upd N 5 (nI t)) h).1 n
def f_best (N : Nrow) (n : Nat) (h w : Int32) : Int32 := if (1 ≤ h ∧ h ≤ 60) ∧ (0 ≤ w ∧ w ≤ 1) then (if w = 0 then (q_arg (q_bt N n h.toNatClampNeg) 10).1 else (q_arg (q_bt N n h.toNatClampNeg) 10).2) else -1000000001
theorem in_get60 {v : Int32} (h : 1 ≤ v ∧ v ≤ 60) : ∃ i, i ≤ 60 ∧ v = nI i := in_get (a := 60) rfl ⟨Int32.le_trans (by decide) h.1, h.2⟩
theorem up5_1 {N : Nrow} {n : Nat} {x : Int32} (h : N 1 = nI n) : upd N 5 x 1 = nI n := by rw [upd_n (by decide)]; exact h
theorem up5_kp {N : Nrow} {x : Int32} : Kp N (upd N 5 x) := (Kp.rf N).up (fun m hm => hm.2.2.1)
theorem m1_le {m : Nat} (h : m < 2 ^ 31) : ¬ nI m ≤ -1 := fun e => nI_pos h (Int32.lt_of_le_of_lt e (by decide))
theorem bt_0 (N : Nrow) (n h t : Nat) (hn : n ≤ 10) : ¬ q_bt N n h t ≤ -1 := by
  obtain ⟨m, h1, h2⟩ := kn_nI (q_go (-1) n (upd N 5 (nI t)) h).1 n
  rw [q_bt, h2]
  exact m1_le (by omega)
set_option maxHeartbeats 1000000 in
set_option maxRecDepth 100000 in
theorem c_bestTurn (l : Launch) (G : Gm) (I : Hp) (N : Nrow) (n : Nat) (hn : n ≤ 10) (hN : N 1 = nI n) (hR : RepJ I 36 N) (hK : KnJ N) (h w : Int32) : Meth l G yX7_bestTurn cX7_bestTurn 7 (some (FieldType.int)) 6 0 0 [.ref 0, .int h, .int w] LAY I (fun r lay1 I1 => r = some (.int (f_best N n h w)) ∧ lay1 = LAY ∧ Tho I I1) := by
  have loop : ∀ (lpn : Nat) (hn0 : Nat) (k : Nat) (s3 s4 : Int32) (o6 : Option Value) (K : Hp), 10 - k = lpn → (h = nI hn0) → (hn0 ≤ 60) → ((1 ≤ h ∧ h ≤ 60) ∧ (0 ≤ w ∧ w ≤ 1)) → (k ≤ 10) → ((s3, s4) = q_arg (q_bt N n hn0) k) → (Tho I K) → AW l G yX7_bestTurn cX7_bestTurn 7 (some (FieldType.int)) 6 0 0 (fun r lay1 I1 => r = some (.int (f_best N n h w)) ∧ lay1 = LAY ∧ Tho I I1) 0 0 30 [some (.ref 0), some (.int h), some (.int w), some (.int s3), some (.int s4), some (.int (nI k)), o6] [] LAY K := by
    intro lpn
    induction lpn using Nat.strongRecOn with
    | _ lpn ih =>
      intro hn0 k s3 s4 o6 K hms hh0 hh1 hok hk hs hT
      subst hh0
      have hs4 := congrArg Prod.snd hs
      have hs3 := congrArg Prod.fst hs
      dsimp only at hs3 hs4
      refine A_iload rfl dX7_bestTurn_30 ?_
      refine A_bipush bp_9 dX7_bestTurn_32 ?_
      refine A_icmp_gt 96 rfl dX7_bestTurn_34 (fun cq34 => ?_) (fun cq34 => ?_)
      · skip
        have hkn : k = 10 := by
          have hq1 := (lt_nI (show (9 : Int32) = nI 9 from rfl) (rfl : nI k = nI k) (by omega) (by omega)).mp cq34
          omega
        subst hkn
        refine A_iload_n rfl dX7_bestTurn_96 ?_
        refine A_if_ne 104 rfl dX7_bestTurn_97 (fun cq97 => ?_) (fun cq97 => ?_)
        · skip
          refine A_iload rfl dX7_bestTurn_104 ?_
          refine A_iret rfl rfl rfl rfl dX7_bestTurn_106 ?_
          rw [f_best, if_pos hok, nI_clamp (by omega)]
          first
            | (have h7 : w = 0 := cq97; rw [if_pos h7]; exact ⟨by rw [hs3], rfl, hT⟩)
            | (have h7 : ¬ w = 0 := cq97; rw [if_neg h7]; exact ⟨by rw [hs4], rfl, hT⟩)
        · skip
          refine A_iload_n rfl dX7_bestTurn_100 ?_
          refine A_goto 106 rfl dX7_bestTurn_101 ?_
          refine A_iret rfl rfl rfl rfl dX7_bestTurn_106 ?_
          rw [f_best, if_pos hok, nI_clamp (by omega)]
          first
            | (have h7 : w = 0 := cq97; rw [if_pos h7]; exact ⟨by rw [hs3], rfl, hT⟩)
            | (have h7 : ¬ w = 0 := cq97; rw [if_neg h7]; exact ⟨by rw [hs4], rfl, hT⟩)
      · skip
        have hkn : k ≤ 9 := by
          have hq1 := mt (lt_nI (show (9 : Int32) = nI 9 from rfl) (rfl : nI k = nI k) (by omega) (by omega)).mpr cq34
          omega
        refine A_aload_n rfl dX7_bestTurn_37 ?_
        refine A_getR fr_X7_35.g rfl lay_0 rfl dX7_bestTurn_38 ?_
        refine A_aload_n rfl dX7_bestTurn_41 ?_
        refine A_getR fr_X7_28.g rfl lay_0 rfl dX7_bestTurn_42 ?_
        refine A_callV (s_become l G 36 52 j36 j52 (by decide) K) m_X0_become ml_X7_179 rfl (lj j52) rfl (by decide) rfl rfl (Nat.le_of_ble_eq_true rfl) (by decide) (by decide) (by decide) dX7_bestTurn_45 (fun _ _ _ h => congrArg List.length h.2.1) ?_
        rintro _ _ _ ⟨rfl, rfl, e9⟩
        refine AW_I e9 ?_
        clear e9
        refine A_aload_n rfl dX7_bestTurn_48 ?_
        refine A_getR fr_X7_35.g rfl lay_0 rfl dX7_bestTurn_49 ?_
        refine A_iload rfl dX7_bestTurn_52 ?_
        refine A_putI fr_X7_136 rfl (lj j52) rfl rfl dX7_bestTurn_54 ?_
        refine A_aload_n rfl dX7_bestTurn_57 ?_
        refine A_getR fr_X7_35.g rfl lay_0 rfl dX7_bestTurn_58 ?_
        refine A_iload_n rfl dX7_bestTurn_61 ?_
        refine A_iconst ic_m1 dX7_bestTurn_62 ?_
        refine A_callV (s_go l G 52 j52 _ (upd N 5 (nI k)) n hn (up5_1 hN) (((hT.rep hR).be (by decide)).turn) (hK.up (fun i hi => by omega)) (-1) hn0 (by omega)) m_X0_pass ml_X7_156 rfl (lj j52) rfl (by decide) rfl rfl (Nat.le_of_ble_eq_true rfl) (by decide) (by decide) (by decide) dX7_bestTurn_63 (fun _ _ _ hqq => congrArg List.length hqq.2.1) ?_
        rintro _ _ K2 ⟨rfl, rfl, hR2, hf2⟩
        refine A_pop rfl dX7_bestTurn_66 ?_
        refine A_aload_n rfl dX7_bestTurn_67 ?_
        refine A_getR fr_X7_35.g rfl lay_0 rfl dX7_bestTurn_68 ?_
        refine A_callV (s_kn l G 52 j52 K2 _ n hn (go_1 hn (up5_1 hN) hn0) hR2 (go_kn hn (up5_1 hN) (hK.up (fun i hi => by omega)) hn0)) m_X0_known ml_X7_169 rfl (lj j52) rfl (by decide) rfl rfl (Nat.le_of_ble_eq_true rfl) (by decide) (by decide) (by decide) dX7_bestTurn_71 (fun _ _ _ h => congrArg List.length h.2.1) ?_
        rintro _ _ _ ⟨rfl, rfl, e9⟩
        refine AW_I e9 ?_
        clear e9
        refine A_istore (by decide) rfl dX7_bestTurn_74 ?_
        refine A_iload rfl dX7_bestTurn_76 ?_
        refine A_iload rfl dX7_bestTurn_78 ?_
        refine A_icmp_le 90 rfl dX7_bestTurn_80 (fun cq80 => ?_) (fun cq80 => ?_)
        · skip
          refine A_iinc ic_1 rfl (by decide) rfl dX7_bestTurn_90 ?_
          refine A_goto 30 rfl dX7_bestTurn_93 ?_
          refine AW_L (by rw [nI_1 k]) ?_
          refine ih (10 - (k + 1)) (by omega) hn0 (k + 1) _ _ _ _ rfl rfl hh1 hok (by omega) ?_ (((hT.be).up (by decide) (by decide)).fr hf2)
          first
            | (have h7 : q_bt N n hn0 k ≤ s4 := cq80; rw [arg_p (by rw [← hs4]; exact h7)]; exact hs)
            | (have h7 : ¬ q_bt N n hn0 k ≤ s4 := cq80; rw [arg_n (by rw [← hs4]; exact h7)]; rfl)
        · skip
          refine A_iload rfl dX7_bestTurn_83 ?_
          refine A_istore (by decide) rfl dX7_bestTurn_85 ?_
          refine A_iload rfl dX7_bestTurn_87 ?_
          refine A_istore_n (by decide) rfl dX7_bestTurn_89 ?_
          refine A_iinc ic_1 rfl (by decide) rfl dX7_bestTurn_90 ?_
          refine A_goto 30 rfl dX7_bestTurn_93 ?_
          refine AW_L (by rw [nI_1 k]) ?_
          refine ih (10 - (k + 1)) (by omega) hn0 (k + 1) _ _ _ _ rfl rfl hh1 hok (by omega) ?_ (((hT.be).up (by decide) (by decide)).fr hf2)
          first
            | (have h7 : q_bt N n hn0 k ≤ s4 := cq80; rw [arg_p (by rw [← hs4]; exact h7)]; exact hs)
            | (have h7 : ¬ q_bt N n hn0 k ≤ s4 := cq80; rw [arg_n (by rw [← hs4]; exact h7)]; rfl)
  refine Meth.of (by decide +kernel) (by simp [Value.category]) (Nat.le_of_ble_eq_true rfl) ?_
  refine A_iload_n rfl dX7_bestTurn_0 ?_
  refine A_iconst ic_1 dX7_bestTurn_1 ?_
  refine A_bipush bp_60 dX7_bestTurn_2 ?_
  refine A_callS (s_within l G _ _ _ _ _) m_X7_within ml_X7_56 rfl rfl rfl (Nat.le_of_ble_eq_true rfl) (by decide) (by decide) (by decide) dX7_bestTurn_4 (fun _ _ _ h => congrArg List.length h.2.1) ?_
  rintro _ _ _ ⟨rfl, rfl, e9⟩
  refine AW_I e9 ?_
  clear e9
  refine A_if_eq 19 rfl dX7_bestTurn_7 (fun cq7 => ?_) (fun cq7 => ?_)
  · skip
    refine A_ldc kc_X7_60 rfl dX7_bestTurn_19 ?_
    refine A_iret rfl rfl rfl rfl dX7_bestTurn_21 ?_
    have hno : ¬ ((1 ≤ h ∧ h ≤ 60) ∧ (0 ≤ w ∧ w ≤ 1)) := by
      first
        | (have h7 := b2i_q.mp cq7; exact fun h9 => h7 h9.1)
        | (have h7 := b2i_q.mp cq16; exact fun h9 => h7 h9.2)
    rw [f_best, if_neg hno]
    exact ⟨rfl, rfl, Tho.rf I⟩
  · skip
    refine A_iload_n rfl dX7_bestTurn_10 ?_
    refine A_iconst ic_0 dX7_bestTurn_11 ?_
    refine A_iconst ic_1 dX7_bestTurn_12 ?_
    refine A_callS (s_within l G _ _ _ _ _) m_X7_within ml_X7_56 rfl rfl rfl (Nat.le_of_ble_eq_true rfl) (by decide) (by decide) (by decide) dX7_bestTurn_13 (fun _ _ _ h => congrArg List.length h.2.1) ?_
    rintro _ _ _ ⟨rfl, rfl, e9⟩
    refine AW_I e9 ?_
    clear e9
    refine A_if_ne 22 rfl dX7_bestTurn_16 (fun cq16 => ?_) (fun cq16 => ?_)
    · skip
      have hok : (1 ≤ h ∧ h ≤ 60) ∧ (0 ≤ w ∧ w ≤ 1) := ⟨b2i_p.mp cq7, b2i_p.mp cq16⟩
      obtain ⟨hn0, hh1, hh0⟩ := in_get60 hok.1
      refine A_iconst ic_0 dX7_bestTurn_22 ?_
      refine A_istore_n (by decide) rfl dX7_bestTurn_23 ?_
      refine A_iconst ic_m1 dX7_bestTurn_24 ?_
      refine A_istore (by decide) rfl dX7_bestTurn_25 ?_
      refine A_iconst ic_0 dX7_bestTurn_27 ?_
      refine A_istore (by decide) rfl dX7_bestTurn_28 ?_
      exact loop 10 hn0 0 _ _ _ _ rfl hh0 hh1 hok (by omega) rfl (Tho.rf I)
    · skip
      refine A_ldc kc_X7_60 rfl dX7_bestTurn_19 ?_
      refine A_iret rfl rfl rfl rfl dX7_bestTurn_21 ?_
      have hno : ¬ ((1 ≤ h ∧ h ≤ 60) ∧ (0 ≤ w ∧ w ≤ 1)) := by
        first
          | (have h7 := b2i_q.mp cq7; exact fun h9 => h7 h9.1)
          | (have h7 := b2i_q.mp cq16; exact fun h9 => h7 h9.2)
      rw [f_best, if_neg hno]
      exact ⟨rfl, rfl, Tho.rf I⟩
