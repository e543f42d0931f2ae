def q_ck (w : Nat → Int32) (s n : Nat) : Nat → Nat → Nrow → Nat
  | 0, k, _ => 2 * k
  | g + 1, k, M => if 2 * k < s ∧ w (2 * k) = q_kn (q_hour (-1) M n).1 n then (if 2 * k + 1 < s ∧ w (2 * k + 1) = q_vo (q_hour (-1) M n).1 n then q_ck w s n g (k + 1) (q_hour (-1) M n).1 else 2 * k + 1) else 2 * k
def q_lim (x hh : Nat) : Nat := if x < 9999 - hh then x else 9999 - hh
def f_check (w : Nat → Int32) (s : Nat) (kept : Int32) (N : Nrow) (n hh : Nat) (x : Int32) : Int32 := if 1 ≤ x ∧ x ≤ 30 then (if kept = 0 then -1000000002 else if q_ck w s n (q_lim x.toNatClampNeg hh) 0 N = s ∧ q_ck w s n (q_lim x.toNatClampNeg hh) 0 N = 2 * q_lim x.toNatClampNeg hh then 0 else nI (1 + q_ck w s n (q_lim x.toNatClampNeg hh) 0 N)) else -1000000001
theorem in_get30 {v : Int32} (h : 1 ≤ v ∧ v ≤ 30) : ∃ i, i ≤ 30 ∧ v = nI i := in_get (a := 30) rfl ⟨Int32.le_trans (by decide) h.1, h.2⟩
theorem lim_le (x hh : Nat) : q_lim x hh ≤ x := by unfold q_lim; split <;> omega
set_option maxHeartbeats 1000000 in
set_option maxRecDepth 100000 in
theorem s_said (l : Launch) (G : Gm) (I : Hp) (s j : Nat) (hs : s ≤ 60) (hj : j < 1000) (v : Int32) : Meth l G yX7_isSaid cX7_isSaid 4 (some (FieldType.boolean)) 1 0 0 [.ref 0, .int (nI s), .int (nI j), .int v] LAY I (fun r lay1 I1 => r = some (.int (b2i (decide (j < s ∧ I 85 j = v)))) ∧ lay1 = LAY ∧ I1 = I) := by
  refine Meth.of (by decide +kernel) (by simp [Value.category]) (Nat.le_of_ble_eq_true rfl) ?_
  refine A_iload_n rfl dX7_isSaid_0 ?_
  refine A_iload_n rfl dX7_isSaid_1 ?_
  refine A_icmp_ge 25 rfl dX7_isSaid_2 (fun cq2 => ?_) (fun cq2 => ?_)
  · skip
    refine A_iconst ic_0 dX7_isSaid_25 ?_
    refine A_iret rfl rfl rfl rfl dX7_isSaid_26 ?_
    refine ⟨?_, rfl, rfl⟩
    first
      | (have h7 : nI s ≤ nI j := cq2; have h8 := (le_nI (rfl : nI s = nI s) (rfl : nI j = nI j) (by omega) (by omega)).mp h7; rw [b2i_ff (fun h9 => absurd h9.1 (by omega))])
      | (have h7 : (60 : Int32) ≤ nI j := cq8; have h8 := (le_nI (show (60 : Int32) = nI 60 from rfl) (rfl : nI j = nI j) (by omega) (by omega)).mp h7; exact absurd h8 (by omega))
      | (have h7 : ¬ I 85 j = v := cq18; rw [b2i_ff (fun h9 => h7 h9.2)])
      | (have h7 : I 85 j = v := cq18; rw [b2i_tt ⟨h1, h7⟩])
  · skip
    have h1 : j < s := by
      have hq1 := mt (le_nI (rfl : nI s = nI s) (rfl : nI j = nI j) (by omega) (by omega)).mpr cq2
      omega
    refine A_iload_n rfl dX7_isSaid_5 ?_
    refine A_bipush bp_60 dX7_isSaid_6 ?_
    refine A_icmp_ge 25 rfl dX7_isSaid_8 (fun cq8 => ?_) (fun cq8 => ?_)
    · skip
      refine A_iconst ic_0 dX7_isSaid_25 ?_
      refine A_iret rfl rfl rfl rfl dX7_isSaid_26 ?_
      refine ⟨?_, rfl, rfl⟩
      first
        | (have h7 : nI s ≤ nI j := cq2; have h8 := (le_nI (rfl : nI s = nI s) (rfl : nI j = nI j) (by omega) (by omega)).mp h7; rw [b2i_ff (fun h9 => absurd h9.1 (by omega))])
        | (have h7 : (60 : Int32) ≤ nI j := cq8; have h8 := (le_nI (show (60 : Int32) = nI 60 from rfl) (rfl : nI j = nI j) (by omega) (by omega)).mp h7; exact absurd h8 (by omega))
        | (have h7 : ¬ I 85 j = v := cq18; rw [b2i_ff (fun h9 => h7 h9.2)])
        | (have h7 : I 85 j = v := cq18; rw [b2i_tt ⟨h1, h7⟩])
    · skip
      refine A_aload_n rfl dX7_isSaid_11 ?_
      refine A_getR fr_X7_52.g rfl lay_0 rfl dX7_isSaid_12 ?_
      refine A_iload_n rfl dX7_isSaid_15 ?_
      refine A_iald j rfl lay_85 (by omega) (by decide) dX7_isSaid_16 ?_
      refine A_iload_n rfl dX7_isSaid_17 ?_
      refine A_icmp_ne 25 rfl dX7_isSaid_18 (fun cq18 => ?_) (fun cq18 => ?_)
      · skip
        refine A_iconst ic_0 dX7_isSaid_25 ?_
        refine A_iret rfl rfl rfl rfl dX7_isSaid_26 ?_
        refine ⟨?_, rfl, rfl⟩
        first
          | (have h7 : nI s ≤ nI j := cq2; have h8 := (le_nI (rfl : nI s = nI s) (rfl : nI j = nI j) (by omega) (by omega)).mp h7; rw [b2i_ff (fun h9 => absurd h9.1 (by omega))])
          | (have h7 : (60 : Int32) ≤ nI j := cq8; have h8 := (le_nI (show (60 : Int32) = nI 60 from rfl) (rfl : nI j = nI j) (by omega) (by omega)).mp h7; exact absurd h8 (by omega))
          | (have h7 : ¬ I 85 j = v := cq18; rw [b2i_ff (fun h9 => h7 h9.2)])
          | (have h7 : I 85 j = v := cq18; rw [b2i_tt ⟨h1, h7⟩])
      · skip
        refine A_iconst ic_1 dX7_isSaid_21 ?_
        refine A_goto 26 rfl dX7_isSaid_22 ?_
        refine A_iret rfl rfl rfl rfl dX7_isSaid_26 ?_
        refine ⟨?_, rfl, rfl⟩
        first
          | (have h7 : nI s ≤ nI j := cq2; have h8 := (le_nI (rfl : nI s = nI s) (rfl : nI j = nI j) (by omega) (by omega)).mp h7; rw [b2i_ff (fun h9 => absurd h9.1 (by omega))])
          | (have h7 : (60 : Int32) ≤ nI j := cq8; have h8 := (le_nI (show (60 : Int32) = nI 60 from rfl) (rfl : nI j = nI j) (by omega) (by omega)).mp h7; exact absurd h8 (by omega))
          | (have h7 : ¬ I 85 j = v := cq18; rw [b2i_ff (fun h9 => h7 h9.2)])
          | (have h7 : I 85 j = v := cq18; rw [b2i_tt ⟨h1, h7⟩])
def CkC (I J : Hp) : Prop := J 0 8 = 0 ∧ (∀ j, j ≠ 8 → J 0 j = I 0 j) ∧ ∀ q, q ≠ 0 → (q < 52 ∨ 60 ≤ q) → q ≠ 2 → J q = I q
theorem CkC.st {I : Hp} : CkC I (up2 I 0 8 0) := ⟨up2_same, fun j hj => up2_ni hj, fun q hq _ _ => up2_ne hq⟩
theorem CkC.tho {I J K : Hp} (h : CkC I J) (k : Tho J K) : CkC I K := ⟨by rw [k 0 (by omega) (by omega)]; exact h.1, fun j hj => by rw [k 0 (by omega) (by omega)]; exact h.2.1 j hj, fun q a b c => (k q b c).trans (h.2.2 q a b c)⟩
theorem CkC.lw {I J : Hp} {N : Nrow} {T : Nat} (h : CkC I J) (hT : T ≤ 14) (k : LwR I N T) : LwR J N T := k.fr hT (fun q h1 h2 => h.2.2 q (by omega) (by omega) (by omega))
theorem ix_2k (k : Nat) : nI (2 * k) + 2 = nI (2 * (k + 1)) := by rw [show (2 : Int32) = nI 2 from rfl, nI_add]; congr 1
set_option maxHeartbeats 1000000 in
set_option maxRecDepth 100000 in
theorem c_check (l : Launch) (G : Gm) (I : Hp) (N : Nrow) (n hh T s : Nat) (hn : n ≤ 10) (hh1 : hh ≤ 9999) (hs : s ≤ 60) (hs0 : I 0 8 = nI s) (hkp : ¬ I 0 9 = 0 → RepJ I 44 N ∧ N 1 = nI n ∧ N 2 = nI hh ∧ KnJ N ∧ TxJ N T ∧ LwR I N T ∧ DoJ N) (x : Int32) : Meth l G yX7_check cX7_check 5 (some (FieldType.int)) 7 0 0 [.ref 0, .int x] LAY I (fun r lay1 I1 => r = some (.int (f_check (I 85) s (I 0 9) N n hh x)) ∧ lay1 = LAY ∧ CkC I I1) := by
  have loop : ∀ (lpn : Nat) (m k : Nat) (M : Nrow) (K : Hp), m - k = lpn → (m ≤ 30) → (k ≤ m) → (2 * k ≤ s) → (¬ I 0 9 = 0) → (M 1 = nI n) → (KnJ M) → (Kp N M) → (q_ck (I 85) s n (m - k) k M = q_ck (I 85) s n m 0 N) → (f_check (I 85) s (I 0 9) N n hh x = if q_ck (I 85) s n m 0 N = s ∧ q_ck (I 85) s n m 0 N = 2 * m then 0 else nI (1 + q_ck (I 85) s n m 0 N)) → (RepJ K 52 M) → (CkC I K) → AW l G yX7_check cX7_check 5 (some (FieldType.int)) 7 0 0 (fun r lay1 I1 => r = some (.int (f_check (I 85) s (I 0 9) N n hh x)) ∧ lay1 = LAY ∧ CkC I I1) 0 0 66 [some (.ref 0), some (.int x), some (.int (nI s)), some (.int (nI (2 * m))), some (.int (nI (2 * k)))] [] LAY K := by
    intro lpn
    induction lpn using Nat.strongRecOn with
    | _ lpn ih =>
      intro m k M K hms hm hk hks hkk hM hKn hKp hrec heg hRk hC
      obtain ⟨hR44, hN1, hN2, hKnN, hTx, hLw, hDo⟩ := hkp hkk
      refine A_iload rfl dX7_check_66 ?_
      refine A_iload_n rfl dX7_check_68 ?_
      refine A_icmp_ge 133 rfl dX7_check_69 (fun cq69 => ?_) (fun cq69 => ?_)
      · skip
        have hkn : k = m := by
          have hq1 := (le_nI (rfl : nI (2 * m) = nI (2 * m)) (rfl : nI (2 * k) = nI (2 * k)) (by omega) (by omega)).mp cq69
          omega
        subst hkn
        rw [show k - k = 0 by omega, q_ck] at hrec
        refine A_iload_n rfl dX7_check_133 ?_
        refine A_iload_n rfl dX7_check_134 ?_
        refine A_icmp_le 144 rfl dX7_check_135 (fun cq135 => ?_) (fun cq135 => ?_)
        · skip
          refine A_iconst ic_0 dX7_check_144 ?_
          refine A_iret rfl rfl rfl rfl dX7_check_145 ?_
          rw [heg, ← hrec]
          first
            | (have h7 : nI s ≤ nI (2 * k) := cq135; have h8 := (le_nI (rfl : nI s = nI s) (rfl : nI (2 * k) = nI (2 * k)) (by omega) (by omega)).mp h7; rw [if_pos ⟨by omega, rfl⟩]; exact ⟨rfl, rfl, hC⟩)
            | (have h7 : ¬ nI s ≤ nI (2 * k) := cq135; have h8 := mt (le_nI (rfl : nI s = nI s) (rfl : nI (2 * k) = nI (2 * k)) (by omega) (by omega)).mpr h7; rw [if_neg (by omega)]; exact ⟨by rw [show (1 : Int32) + nI (2 * k) = nI (1 + 2 * k) by rw [show (1 : Int32) = nI 1 from rfl, nI_add]], rfl, hC⟩)
        · skip
          refine A_iconst ic_1 dX7_check_138 ?_
          refine A_iload_n rfl dX7_check_139 ?_
          refine A_iadd dX7_check_140 ?_
          refine A_goto 145 rfl dX7_check_141 ?_
          refine A_iret rfl rfl rfl rfl dX7_check_145 ?_
          rw [heg, ← hrec]
          first
            | (have h7 : nI s ≤ nI (2 * k) := cq135; have h8 := (le_nI (rfl : nI s = nI s) (rfl : nI (2 * k) = nI (2 * k)) (by omega) (by omega)).mp h7; rw [if_pos ⟨by omega, rfl⟩]; exact ⟨rfl, rfl, hC⟩)
            | (have h7 : ¬ nI s ≤ nI (2 * k) := cq135; have h8 := mt (le_nI (rfl : nI s = nI s) (rfl : nI (2 * k) = nI (2 * k)) (by omega) (by omega)).mpr h7; rw [if_neg (by omega)]; exact ⟨by rw [show (1 : Int32) + nI (2 * k) = nI (1 + 2 * k) by rw [show (1 : Int32) = nI 1 from rfl, nI_add]], rfl, hC⟩)
      · skip
        have hkn : k < m := by
          have hq1 := mt (le_nI (rfl : nI (2 * m) = nI (2 * m)) (rfl : nI (2 * k) = nI (2 * k)) (by omega) (by omega)).mpr cq69
          omega
        obtain ⟨g, hg⟩ : ∃ g, m - k = g + 1 := ⟨m - k - 1, by omega⟩
        rw [hg, q_ck] at hrec
        refine A_aload_n rfl dX7_check_72 ?_
        refine A_getR fr_X7_35.g rfl lay_0 rfl dX7_check_73 ?_
        refine A_iconst ic_m1 dX7_check_76 ?_
        refine A_callV (s_hour l G 52 j52 K _ n hn hM hRk hKn (-1)) m_X0_anHour ml_X7_183 rfl (lj j52) rfl (by decide) rfl rfl (Nat.le_of_ble_eq_true rfl) (by decide) (by decide) (by decide) dX7_check_77 (fun _ _ _ hqq => congrArg List.length hqq.2.1) ?_
        rintro _ _ K2 ⟨rfl, rfl, hR2, hf2⟩
        have hC2 : CkC I K2 := hC.tho (fun q a _ => hf2 q (by omega))
        have hM2 := hour_1 (sil := -1) hn hM
        have hKn2 := hour_keep (sil := -1) hn hM hKn
        have hKp2 : Kp N (q_hour (-1) M n).1 := hKp.tr (hour_kp hn hM)
        have e85 : K2 85 = I 85 := hC2.2.2 85 (by decide) (by decide) (by decide)
        refine A_pop rfl dX7_check_80 ?_
        refine A_aload_n rfl dX7_check_81 ?_
        refine A_iload_n rfl dX7_check_82 ?_
        refine A_iload rfl dX7_check_83 ?_
        refine A_aload_n rfl dX7_check_85 ?_
        refine A_getR fr_X7_35.g rfl lay_0 rfl dX7_check_86 ?_
        refine A_callV (s_kn l G 52 j52 K2 _ n hn hM2 hR2 hKn2) m_X0_known ml_X7_169 rfl (lj j52) rfl (by decide) rfl rfl (Nat.le_of_ble_eq_true rfl) (by decide) (by decide) (by decide) dX7_check_89 (fun _ _ _ h => congrArg List.length h.2.1) ?_
        rintro _ _ _ ⟨rfl, rfl, e9⟩
        refine AW_I e9 ?_
        clear e9
        refine A_callV (s_said l G K2 s (2 * k) hs (by omega) _) m_X7_isSaid ml_X7_292 rfl lay_0 rfl (by decide) rfl rfl (Nat.le_of_ble_eq_true rfl) (by decide) (by decide) (by decide) dX7_check_92 (fun _ _ _ h => congrArg List.length h.2.1) ?_
        rintro _ _ _ ⟨rfl, rfl, e9⟩
        refine AW_I e9 ?_
        clear e9
        refine A_if_ne 103 rfl dX7_check_95 (fun cq95 => ?_) (fun cq95 => ?_)
        · skip
          have hy1 := b2i_p.mp cq95
          rw [e85] at hy1
          rw [if_pos hy1] at hrec
          refine A_aload_n rfl dX7_check_103 ?_
          refine A_iload_n rfl dX7_check_104 ?_
          refine A_iload rfl dX7_check_105 ?_
          refine A_iconst ic_1 dX7_check_107 ?_
          refine A_iadd dX7_check_108 ?_
          rw [nI_1]
          refine A_aload_n rfl dX7_check_109 ?_
          refine A_getR fr_X7_35.g rfl lay_0 rfl dX7_check_110 ?_
          refine A_callV (s_vo l G 52 j52 K2 _ T hR2 hKn2 (hTx.kp hKp2) ((hC2.lw hTx.1 hLw).kp hKp2) (hDo.kp hKp2) n hn hM2) m_X0_votes ml_X7_163 rfl (lj j52) rfl (by decide) rfl rfl (Nat.le_of_ble_eq_true rfl) (by decide) (by decide) (by decide) dX7_check_113 (fun _ _ _ h => congrArg List.length h.2.1) ?_
          rintro _ _ K3 ⟨rfl, rfl, hf3⟩
          have hC3 : CkC I K3 := hC2.tho (fun q _ b => hf3 q b)
          have e85b : K3 85 = I 85 := hC3.2.2 85 (by decide) (by decide) (by decide)
          refine A_callV (s_said l G K3 s (2 * k + 1) hs (by omega) _) m_X7_isSaid ml_X7_292 rfl lay_0 rfl (by decide) rfl rfl (Nat.le_of_ble_eq_true rfl) (by decide) (by decide) (by decide) dX7_check_116 (fun _ _ _ h => congrArg List.length h.2.1) ?_
          rintro _ _ _ ⟨rfl, rfl, e9⟩
          refine AW_I e9 ?_
          clear e9
          refine A_if_ne 127 rfl dX7_check_119 (fun cq119 => ?_) (fun cq119 => ?_)
          · skip
            refine A_iinc ic_2 rfl (by decide) rfl dX7_check_127 ?_
            refine A_goto 66 rfl dX7_check_130 ?_
            have hy2 := b2i_p.mp cq119
            rw [e85b] at hy2
            rw [if_pos hy2] at hrec
            refine AW_L (by rw [ix_2k k]) ?_
            exact ih (m - (k + 1)) (by omega) m (k + 1) _ _ rfl hm (by omega) (by omega) hkk hM2 hKn2 hKp2 (by rw [show m - (k + 1) = g by omega]; exact hrec) heg (hR2.other (fun q a b => hf3 q (by omega))) hC3
          · skip
            refine A_iconst ic_2 dX7_check_122 ?_
            refine A_iload rfl dX7_check_123 ?_
            refine A_iadd dX7_check_125 ?_
            refine A_iret rfl rfl rfl rfl dX7_check_126 ?_
            have hy2 := b2i_q.mp cq119
            rw [e85b] at hy2
            rw [if_neg hy2] at hrec
            rw [heg, ← hrec, if_neg (by omega)]
            exact ⟨by rw [show (2 : Int32) + nI (2 * k) = nI (1 + (2 * k + 1)) by rw [show (2 : Int32) = nI 2 from rfl, nI_add]; congr 1; omega], rfl, hC3⟩
        · skip
          refine A_iconst ic_1 dX7_check_98 ?_
          refine A_iload rfl dX7_check_99 ?_
          refine A_iadd dX7_check_101 ?_
          refine A_iret rfl rfl rfl rfl dX7_check_102 ?_
          have hy1 := b2i_q.mp cq95
          rw [e85] at hy1
          rw [if_neg hy1] at hrec
          rw [heg, ← hrec, if_neg (by omega)]
          exact ⟨by rw [show (1 : Int32) + nI (2 * k) = nI (1 + 2 * k) by rw [show (1 : Int32) = nI 1 from rfl, nI_add]], rfl, hC2⟩
  refine Meth.of (by decide +kernel) (by simp [Value.category]) (Nat.le_of_ble_eq_true rfl) ?_
  refine A_aload_n rfl dX7_check_0 ?_
  refine A_getI fr_X7_285.g rfl lay_0 dX7_check_1 ?_
  rw [hs0]
  refine A_istore_n (by decide) rfl dX7_check_4 ?_
  refine A_aload_n rfl dX7_check_5 ?_
  refine A_iconst ic_0 dX7_check_6 ?_
  refine A_putI fr_X7_285 rfl lay_0 rfl rfl dX7_check_7 ?_
  refine A_iload_n rfl dX7_check_10 ?_
  refine A_iconst ic_1 dX7_check_11 ?_
  refine A_bipush bp_30 dX7_check_12 ?_
  refine A_callS (s_within l G _ _ _ _ _) m_X7_within ml_X7_56 rfl rfl rfl (Nat.le_of_ble_eq_true rfl) (by decide) (by decide) (by decide) dX7_check_14 (fun _ _ _ h => congrArg List.length h.2.1) ?_
  rintro _ _ _ ⟨rfl, rfl, e9⟩
  refine AW_I e9 ?_
  clear e9
  refine A_if_ne 23 rfl dX7_check_17 (fun cq17 => ?_) (fun cq17 => ?_)
  · skip
    refine A_aload_n rfl dX7_check_23 ?_
    refine A_getI fr_X7_288.g rfl lay_0 dX7_check_24 ?_
    rw [show (up2 I 0 8 0) 0 9 = I 0 9 from up2_ni (by decide)]
    refine A_if_ne 34 rfl dX7_check_27 (fun cq27 => ?_) (fun cq27 => ?_)
    · skip
      have hok := b2i_p.mp cq17
      obtain ⟨i, hi, rfl⟩ := in_get30 hok
      obtain ⟨hR44, hN1, hN2, hKnN, hTx, hLw, hDo⟩ := hkp cq27
      have hR44b : RepJ (up2 I 0 8 0) 44 N := hR44.other (fun q a b => up2_ne (by omega))
      have e13 : (beJ (up2 I 0 8 0) 44 52) 44 13 = nI hh := by rw [beJ_o (by decide), up2_ne (by decide)]; exact hR44.1.2.2.2.2.2.1.trans hN2
      refine A_aload_n rfl dX7_check_34 ?_
      refine A_getR fr_X7_35.g rfl lay_0 rfl dX7_check_35 ?_
      refine A_aload_n rfl dX7_check_38 ?_
      refine A_getR fr_X7_32.g rfl lay_0 rfl dX7_check_39 ?_
      refine A_callV (s_become l G 44 52 j44 j52 (by decide) _) m_X0_become ml_X7_179 rfl (lj j52) rfl (by decide) rfl rfl (Nat.le_of_ble_eq_true rfl) (by decide) (by decide) (by decide) dX7_check_42 (fun _ _ _ h => congrArg List.length h.2.1) ?_
      rintro _ _ _ ⟨rfl, rfl, e9⟩
      refine AW_I e9 ?_
      clear e9
      refine A_iconst ic_2 dX7_check_45 ?_
      refine A_iload_n rfl dX7_check_46 ?_
      refine A_sipush sp_9999 dX7_check_47 ?_
      refine A_aload_n rfl dX7_check_50 ?_
      refine A_getR fr_X7_32.g rfl lay_0 rfl dX7_check_51 ?_
      refine A_getI fr_X7_153.g rfl (lj j44) dX7_check_54 ?_
      rw [e13]
      refine A_isub dX7_check_57 ?_
      rw [h9999 hh1]
      refine A_callS (s_min l G _ _ _ _) m_J9_min_7cf53 ml_X7_139 rfl rfl rfl (Nat.le_of_ble_eq_true rfl) (by decide) (by decide) (by decide) dX7_check_58 (fun _ _ _ h => congrArg List.length h.2.1) ?_
      rintro _ _ _ ⟨rfl, rfl, e9⟩
      refine AW_I e9 ?_
      clear e9
      rw [show (if nI (9999 - hh) < nI i then nI (9999 - hh) else nI i) = nI (q_lim i hh) by
        unfold q_lim
        by_cases hlt : 9999 - hh < i
        · rw [if_pos ((nI_ltI (by omega) (by omega)).mpr hlt), if_neg (by omega)]
        · rw [if_neg (mt (nI_ltI (by omega) (by omega)).mp hlt)]; congr 1; split <;> omega]
      refine A_imul dX7_check_61 ?_
      rw [show (2 : Int32) * nI (q_lim i hh) = nI (2 * q_lim i hh) by rw [show (2 : Int32) = nI 2 from rfl, pk_mul]]
      refine A_istore_n (by decide) rfl dX7_check_62 ?_
      refine A_iconst ic_0 dX7_check_63 ?_
      refine A_istore (by decide) rfl dX7_check_64 ?_
      have hl := lim_le i hh
      exact loop _ (q_lim i hh) 0 N _ rfl (by omega) (by omega) (by omega) cq27 hN1 hKnN (Kp.rf N) rfl (by rw [f_check, if_pos hok, if_neg cq27, nI_clamp (by omega)]) (hR44b.be (by decide)) (CkC.st.tho (fun q a _ => beJ_o (by omega)))
    · skip
      refine A_ldcw kc_X7_284 rfl dX7_check_30 ?_
      refine A_iret rfl rfl rfl rfl dX7_check_33 ?_
      rw [f_check, if_pos (b2i_p.mp cq17), if_pos cq27]
      exact ⟨rfl, rfl, CkC.st⟩
  · skip
    refine A_ldc kc_X7_60 rfl dX7_check_20 ?_
    refine A_iret rfl rfl rfl rfl dX7_check_22 ?_
    rw [f_check, if_neg (b2i_q.mp cq17)]
    exact ⟨rfl, rfl, CkC.st⟩
