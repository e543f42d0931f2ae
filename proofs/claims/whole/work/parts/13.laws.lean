/-- the component's number for a reference's number of a text -/
def q_enc (c : Int32) : Int32 := if 0 ≤ c then (if c < 10000 then c else 9999 - c) else if c = -1 then -124 else if c = -2 then -38 else if c = -3 then -60 else if c = -4 then -61 else if c = -5 then -62 else if c = -6 then -43 else if c = -7 then -45 else if c = -8 then -42 else if c = -9 then -47 else -33
theorem enc_num {v : Nat} (h : v < 10000) : q_enc (nI v) = nI v := by
  unfold q_enc
  rw [if_pos (nI_pos' (by omega)), if_pos ((lt_nI rfl (show (10000 : Int32) = nI 10000 from rfl) (by omega) (by omega)).mpr h)]
theorem enc_nam : ∀ i, i < 3 → ¬ q_enc (nI (10000 + i)) < -3 ∧ q_enc (nI (10000 + i)) < 0 := by decide +kernel
theorem enc_na (a b c : Int32) (i : Nat) (hi : i < 3) : naF (q_enc (nI (10000 + i))) a b c = if i = 0 then a else if i = 1 then b else c := by
  rcases (show i = 0 ∨ i = 1 ∨ i = 2 by omega) with rfl | rfl | rfl
  · rw [show q_enc (nI (10000 + 0)) = -1 by decide +kernel]; rfl
  · rw [show q_enc (nI (10000 + 1)) = -2 by decide +kernel]; rfl
  · rw [show q_enc (nI (10000 + 2)) = -3 by decide +kernel]; rfl
theorem enc_not : q_enc (-10) = -33 := by decide +kernel
theorem enc_two : ∀ s, s < 10 → 1 ≤ s → q_enc (-(nI s)) < -3 ∧ ¬ q_enc (-(nI s)) = -33 := by decide +kernel
theorem enc_jo (a b : Int32) (s : Nat) (h1 : 1 ≤ s) (h2 : s ≤ 9) : joF (-(q_enc (-(nI s)))) a b = q_two (-(nI s)) a b := by
  rcases (show s = 1 ∨ s = 2 ∨ s = 3 ∨ s = 4 ∨ s = 5 ∨ s = 6 ∨ s = 7 ∨ s = 8 ∨ s = 9 by omega) with rfl | rfl | rfl | rfl | rfl | rfl | rfl | rfl | rfl
  · rw [show -(q_enc (-(nI 1))) = 124 by decide +kernel, show -(nI 1) = -1 from rfl, tw_1, jo_or 124 a b (by decide)]
  · rw [show -(q_enc (-(nI 2))) = 38 by decide +kernel, show -(nI 2) = -2 from rfl, tw_2, jo_38]
  · rw [show -(q_enc (-(nI 3))) = 60 by decide +kernel, show -(nI 3) = -3 from rfl, tw_3, jo_60]
  · rw [show -(q_enc (-(nI 4))) = 61 by decide +kernel, show -(nI 4) = -4 from rfl, tw_4, jo_61]
  · rw [show -(q_enc (-(nI 5))) = 62 by decide +kernel, show -(nI 5) = -5 from rfl, tw_5, jo_62]
  · rw [show -(q_enc (-(nI 6))) = 43 by decide +kernel, show -(nI 6) = -6 from rfl, tw_6, jo_43]
  · rw [show -(q_enc (-(nI 7))) = 45 by decide +kernel, show -(nI 7) = -7 from rfl, tw_7, jo_45]
  · rw [show -(q_enc (-(nI 8))) = 42 by decide +kernel, show -(nI 8) = -8 from rfl, tw_8, jo_42]
  · rw [show -(q_enc (-(nI 9))) = 47 by decide +kernel, show -(nI 9) = -9 from rfl, tw_9 (-9) a b (by decide), jo_47]
theorem nI_m3 {v : Nat} (h : v < 2 ^ 31) : ¬ nI v < -3 := by
  rw [Int32.lt_iff_toInt_lt, nI_toInt h, show (-3 : Int32).toInt = -3 from rfl]
  omega
def q_nm (a b c : Int32) : Nat → Int32 := fun i => if i = 0 then a else if i = 1 then b else c
set_option maxHeartbeats 1000000 in
set_option maxRecDepth 100000 in
theorem s_work (l : Launch) (G : Gm) (I : Hp) (q : Nat) (hq : isQ q) (cd : Nat → Int32) (len nn : Nat) (a b c : Int32) (hlen : I q 3 = nI len) (hcde : ∀ k, k < len → I (q + 1) k = q_enc (cd k)) (hwf : WfT cd len nn) (hnn : nn ≤ 3) : Meth l G yX2_work cX2_work 8 (some (FieldType.int)) 2 0 0 [.ref q, .ref 2, .int a, .int b, .int c] LAY I (fun r lay1 I1 => r = some (.int ((q_ev (q_nm a b c) cd len).1 0)) ∧ lay1 = LAY ∧ ∀ z, z ≠ 2 → I1 z = I z) := by
  have hl96 := hwf.1
  have hq2 : q ≠ 2 := by obtain ⟨t, -, -, rfl⟩ := hq; omega
  have hq3 : q + 1 ≠ 2 := by obtain ⟨t, -, -, rfl⟩ := hq; omega
  have loop : ∀ (lpn : Nat) (k : Nat) (x tp : Int32) (o7 : Option Value) (K : Hp), len - k = lpn → (k ≤ len) → (x = nI k) → (tp = nI (q_dp cd k)) → (Ag (K 2) (q_ev (q_nm a b c) cd k).1 (q_dp cd k)) → (∀ z, z ≠ 2 → K z = I z) → AW l G yX2_work cX2_work 8 (some (FieldType.int)) 2 0 0 (fun r lay1 I1 => r = some (.int ((q_ev (q_nm a b c) cd len).1 0)) ∧ lay1 = LAY ∧ ∀ z, z ≠ 2 → I1 z = I z) 0 0 6 [some (.ref q), some (.ref 2), some (.int a), some (.int b), some (.int c), some (.int tp), some (.int x), o7] [] LAY K := by
    intro lpn
    induction lpn using Nat.strongRecOn with
    | _ lpn ih =>
      intro k x tp o7 K hms hk hx htp hag hfr
      subst hx
      subst htp
      have hdl := dp_le cd k
      have hl96 := hwf.1
      have hKl : K q 3 = nI len := by rw [hfr q hq2]; exact hlen
      refine A_iload rfl dX2_work_6 ?_
      refine A_aload_n rfl dX2_work_8 ?_
      refine A_getI fr_X2_22.g rfl (ll hq) dX2_work_9 ?_
      refine A_icmp_ge 146 rfl dX2_work_12 (fun cq12 => ?_) (fun cq12 => ?_)
      · skip
        have hkn := (le_nI hKl rfl (by omega) (by omega)).mp cq12
        have hke : k = len := by omega
        subst hke
        refine A_iload rfl dX2_work_146 ?_
        refine A_iconst ic_1 dX2_work_148 ?_
        refine A_icmp_ge 156 rfl dX2_work_149 (fun cq149 => ?_) (fun cq149 => absurd ((le_nI (show (1 : Int32) = nI 1 from rfl) rfl (by omega) (by omega)).mpr hwf.2.1) cq149)
        refine A_aload_n rfl dX2_work_156 ?_
        refine A_iconst ic_0 dX2_work_157 ?_
        refine A_iald 0 rfl lay_2 (by decide) (by decide) dX2_work_158 ?_
        refine A_iret rfl rfl rfl rfl dX2_work_159 ?_
        exact ⟨by rw [hag 0 (by have := hwf.2.1; omega)], rfl, hfr⟩
      · skip
        have hkn : k < len := by
          have hq1 := mt (le_nI hKl (rfl : nI k = nI k) (by omega) (by omega)).mpr cq12
          omega
        have hcd : K (q + 1) k = q_enc (cd k) := by rw [hfr (q + 1) hq3]; exact hcde k hkn
        refine A_aload_n rfl dX2_work_15 ?_
        refine A_getR fr_X2_9.g rfl (ll hq) rfl dX2_work_16 ?_
        refine A_iload rfl dX2_work_19 ?_
        refine A_iald _ rfl (ll2 hq) (by omega) (by decide) dX2_work_21 ?_
        rcases hwf.2.2 k hkn with ⟨v, hv1, hcv⟩ | ⟨i, hi1, hcv⟩ | ⟨hcv, hd1⟩ | ⟨s0, hs1, hs2, hcv, hd2⟩
        · skip
          rw [show K (q + 1) k = nI v from hcd.trans (by rw [hcv, enc_num hv1])]
          refine A_istore (by decide) rfl dX2_work_22 ?_
          refine A_iload rfl dX2_work_24 ?_
          refine A_bipush bp_m3 dX2_work_26 ?_
          refine A_icmp_lt 69 rfl dX2_work_28 (fun cq28 => absurd cq28 (nI_m3 (by omega))) (fun cq28 => ?_)
          refine A_iload rfl dX2_work_31 ?_
          refine A_aload_n rfl dX2_work_33 ?_
          refine A_alen lay_2 dX2_work_34 ?_
          refine A_icmp_lt 40 rfl dX2_work_35 (fun cq35 => ?_) (fun cq35 => absurd ((lt_nI rfl rfl (by omega) (by omega)).mpr (by omega)) cq35)
          refine A_aload_n rfl dX2_work_40 ?_
          refine A_iload rfl dX2_work_41 ?_
          refine A_iload rfl dX2_work_43 ?_
          refine A_if_lt 53 rfl dX2_work_45 (fun cq45 => absurd cq45 (nI_pos (by omega))) (fun cq45 => ?_)
          refine A_iload rfl dX2_work_48 ?_
          refine A_goto 62 rfl dX2_work_50 ?_
          refine A_iast _ rfl lay_2 (by omega) (by decide) dX2_work_62 ?_
          refine A_iinc ic_1 rfl (by decide) rfl dX2_work_63 ?_
          refine A_goto 140 rfl dX2_work_66 ?_
          refine A_iinc ic_1 rfl (by decide) rfl dX2_work_140 ?_
          refine A_goto 6 rfl dX2_work_143 ?_
          refine ih (len - (k + 1)) (by omega) (k + 1) _ _ _ _ rfl (by omega) (nI_1 k) (by rw [dp_num hcv (by omega)]; exact nI_1 _) ?_ (fun q hq => by rw [up2_ne hq]; exact hfr q hq)
          rw [up2_row]
          rw [ev_num hcv hv1, dp_num hcv (by omega)]
          exact hag.put rfl (Or.inr ⟨rfl, rfl⟩)
        · skip
          rw [show K (q + 1) k = q_enc (nI (10000 + i)) from hcd.trans (by rw [hcv])]
          refine A_istore (by decide) rfl dX2_work_22 ?_
          refine A_iload rfl dX2_work_24 ?_
          refine A_bipush bp_m3 dX2_work_26 ?_
          refine A_icmp_lt 69 rfl dX2_work_28 (fun cq28 => absurd cq28 ((enc_nam i (by omega)).1)) (fun cq28 => ?_)
          refine A_iload rfl dX2_work_31 ?_
          refine A_aload_n rfl dX2_work_33 ?_
          refine A_alen lay_2 dX2_work_34 ?_
          refine A_icmp_lt 40 rfl dX2_work_35 (fun cq35 => ?_) (fun cq35 => absurd ((lt_nI rfl rfl (by omega) (by omega)).mpr (by omega)) cq35)
          refine A_aload_n rfl dX2_work_40 ?_
          refine A_iload rfl dX2_work_41 ?_
          refine A_iload rfl dX2_work_43 ?_
          refine A_if_lt 53 rfl dX2_work_45 (fun cq45 => ?_) (fun cq45 => absurd ((enc_nam i (by omega)).2) cq45)
          refine A_iload rfl dX2_work_53 ?_
          refine A_iload_n rfl dX2_work_55 ?_
          refine A_iload_n rfl dX2_work_56 ?_
          refine A_iload rfl dX2_work_57 ?_
          refine A_callS (s_named l G _ _ _ _ _ _) m_X2_named ml_X2_35 rfl rfl rfl (Nat.le_of_ble_eq_true rfl) (by decide) (by decide) (by decide) dX2_work_59 (fun _ _ _ h => congrArg List.length h.2.1) ?_
          rintro _ _ _ ⟨rfl, rfl, e9⟩
          refine AW_I e9 ?_
          clear e9
          refine A_iast _ rfl lay_2 (by omega) (by decide) dX2_work_62 ?_
          refine A_iinc ic_1 rfl (by decide) rfl dX2_work_63 ?_
          refine A_goto 140 rfl dX2_work_66 ?_
          refine A_iinc ic_1 rfl (by decide) rfl dX2_work_140 ?_
          refine A_goto 6 rfl dX2_work_143 ?_
          refine ih (len - (k + 1)) (by omega) (k + 1) _ _ _ _ rfl (by omega) (nI_1 k) (by rw [dp_num hcv (by omega)]; exact nI_1 _) ?_ (fun q hq => by rw [up2_ne hq]; exact hfr q hq)
          rw [up2_row]
          rw [ev_nam hcv (by omega), dp_num hcv (by omega)]
          exact hag.put (enc_na a b c i (by omega)) (Or.inr ⟨rfl, rfl⟩)
        · skip
          rw [show K (q + 1) k = -33 from hcd.trans (by rw [hcv, enc_not])]
          refine A_istore (by decide) rfl dX2_work_22 ?_
          refine A_iload rfl dX2_work_24 ?_
          refine A_bipush bp_m3 dX2_work_26 ?_
          refine A_icmp_lt 69 rfl dX2_work_28 (fun cq28 => ?_) (fun cq28 => absurd (by decide) cq28)
          refine A_iload rfl dX2_work_69 ?_
          refine A_bipush bp_m33 dX2_work_71 ?_
          refine A_icmp_ne 107 rfl dX2_work_73 (fun cq73 => absurd (rfl) cq73) (fun cq73 => ?_)
          refine A_iload rfl dX2_work_76 ?_
          refine A_iconst ic_1 dX2_work_78 ?_
          refine A_icmp_ge 84 rfl dX2_work_79 (fun cq79 => ?_) (fun cq79 => absurd ((le_nI (show (1 : Int32) = nI 1 from rfl) rfl (by omega) (by omega)).mpr (by omega)) cq79)
          refine A_aload_n rfl dX2_work_84 ?_
          refine A_iload rfl dX2_work_85 ?_
          refine A_iconst ic_1 dX2_work_87 ?_
          refine A_isub dX2_work_88 ?_
          refine A_aload_n rfl dX2_work_89 ?_
          refine A_iload rfl dX2_work_90 ?_
          refine A_iconst ic_1 dX2_work_92 ?_
          refine A_isub dX2_work_93 ?_
          refine A_iald (q_dp cd k - 1) (sub1_nI hd1) lay_2 (by omega) (by decide) dX2_work_94 ?_
          refine A_if_ne 102 rfl dX2_work_95 (fun cq95 => ?_) (fun cq95 => ?_)
          · skip
            refine A_iconst ic_0 dX2_work_102 ?_
            refine A_iast (q_dp cd k - 1) (sub1_nI hd1) lay_2 (by omega) (by decide) dX2_work_103 ?_
            refine A_goto 140 rfl dX2_work_104 ?_
            refine A_iinc ic_1 rfl (by decide) rfl dX2_work_140 ?_
            refine A_goto 6 rfl dX2_work_143 ?_
            refine ih (len - (k + 1)) (by omega) (k + 1) _ _ _ _ rfl (by omega) (nI_1 k) (by rw [dp_not hcv]) ?_ (fun q hq => by rw [up2_ne hq]; exact hfr q hq)
            rw [up2_row]
            rw [ev_not hcv, dp_not hcv]
            refine hag.put ?_ (Or.inl (Nat.le_refl _))
            rw [← hag (q_dp cd k - 1) (by omega)]
            first | exact (if_pos cq95).symm | exact (if_neg cq95).symm
          · skip
            refine A_iconst ic_1 dX2_work_98 ?_
            refine A_goto 103 rfl dX2_work_99 ?_
            refine A_iast (q_dp cd k - 1) (sub1_nI hd1) lay_2 (by omega) (by decide) dX2_work_103 ?_
            refine A_goto 140 rfl dX2_work_104 ?_
            refine A_iinc ic_1 rfl (by decide) rfl dX2_work_140 ?_
            refine A_goto 6 rfl dX2_work_143 ?_
            refine ih (len - (k + 1)) (by omega) (k + 1) _ _ _ _ rfl (by omega) (nI_1 k) (by rw [dp_not hcv]) ?_ (fun q hq => by rw [up2_ne hq]; exact hfr q hq)
            rw [up2_row]
            rw [ev_not hcv, dp_not hcv]
            refine hag.put ?_ (Or.inl (Nat.le_refl _))
            rw [← hag (q_dp cd k - 1) (by omega)]
            first | exact (if_pos cq95).symm | exact (if_neg cq95).symm
        · skip
          rw [show K (q + 1) k = q_enc (-(nI s0)) from hcd.trans (by rw [hcv])]
          refine A_istore (by decide) rfl dX2_work_22 ?_
          refine A_iload rfl dX2_work_24 ?_
          refine A_bipush bp_m3 dX2_work_26 ?_
          refine A_icmp_lt 69 rfl dX2_work_28 (fun cq28 => ?_) (fun cq28 => absurd ((enc_two s0 (by omega) hs1).1) cq28)
          refine A_iload rfl dX2_work_69 ?_
          refine A_bipush bp_m33 dX2_work_71 ?_
          refine A_icmp_ne 107 rfl dX2_work_73 (fun cq73 => ?_) (fun cq73 => absurd cq73 ((enc_two s0 (by omega) hs1).2))
          refine A_iload rfl dX2_work_107 ?_
          refine A_iconst ic_2 dX2_work_109 ?_
          refine A_icmp_ge 115 rfl dX2_work_110 (fun cq110 => ?_) (fun cq110 => absurd ((le_nI (show (2 : Int32) = nI 2 from rfl) rfl (by omega) (by omega)).mpr (by omega)) cq110)
          refine A_iinc ic_m1 rfl (by decide) rfl dX2_work_115 ?_
          refine A_aload_n rfl dX2_work_118 ?_
          refine A_iload rfl dX2_work_119 ?_
          refine A_iconst ic_1 dX2_work_121 ?_
          refine A_isub dX2_work_122 ?_
          refine A_iload rfl dX2_work_123 ?_
          refine A_ineg dX2_work_125 ?_
          refine A_aload_n rfl dX2_work_126 ?_
          refine A_iload rfl dX2_work_127 ?_
          refine A_iconst ic_1 dX2_work_129 ?_
          refine A_isub dX2_work_130 ?_
          refine A_iald (q_dp cd k - 2) (by rw [m1_nI (by omega), sub1_nI (by omega)]; rfl) lay_2 (by omega) (by decide) dX2_work_131 ?_
          refine A_aload_n rfl dX2_work_132 ?_
          refine A_iload rfl dX2_work_133 ?_
          refine A_iald (q_dp cd k - 1) (m1_nI (by omega)) lay_2 (by omega) (by decide) dX2_work_135 ?_
          refine A_callS (s_joined l G _ _ _ _ _) m_X2_joined ml_X2_39 rfl rfl rfl (Nat.le_of_ble_eq_true rfl) (by decide) (by decide) (by decide) dX2_work_136 (fun _ _ _ h => congrArg List.length h.2.1) ?_
          rintro _ _ _ ⟨rfl, rfl, e9⟩
          refine AW_I e9 ?_
          clear e9
          refine A_iast (q_dp cd k - 2) (by rw [m1_nI (by omega), sub1_nI (by omega)]; rfl) lay_2 (by omega) (by decide) dX2_work_139 ?_
          refine A_iinc ic_1 rfl (by decide) rfl dX2_work_140 ?_
          refine A_goto 6 rfl dX2_work_143 ?_
          refine ih (len - (k + 1)) (by omega) (k + 1) _ _ _ _ rfl (by omega) (nI_1 k) (by rw [dp_two hcv hs1 hs2]; exact m1_nI (by omega)) ?_ (fun q hq => by rw [up2_ne hq]; exact hfr q hq)
          rw [up2_row]
          rw [ev_two hcv hs1 hs2, dp_two hcv hs1 hs2, enc_jo _ _ s0 hs1 hs2]
          exact hag.put (by rw [hag (q_dp cd k - 2) (by omega), hag (q_dp cd k - 1) (by omega)]) (Or.inl (by omega))
  refine Meth.of (by decide +kernel) (by simp [Value.category]) (Nat.le_of_ble_eq_true rfl) ?_
  refine A_iconst ic_0 dX2_work_0 ?_
  refine A_istore (by decide) rfl dX2_work_1 ?_
  refine A_iconst ic_0 dX2_work_3 ?_
  refine A_istore (by decide) rfl dX2_work_4 ?_
  exact loop len 0 _ _ _ I rfl (by omega) nI_0.symm rfl (fun i hi => absurd hi (by simp [q_dp])) (fun _ _ => rfl)
theorem la_t : ∀ t, t < 14 → ([some 4, some 6, some 8, some 10, some 12, some 14, some 16, some 18, some 20, some 22, some 24, some 26, some 28, some 30] : List (Option Nat))[t]? = some (some (4 + 2 * t)) := by decide +kernel
set_option maxHeartbeats 1000000 in
set_option maxRecDepth 100000 in
theorem s_at (l : Launch) (G : Gm) (I : Hp) (t : Nat) (ht : t < 14) : Meth l G yX3_at cX3_at 2 (some ((FieldType.object "PalmJury$Law"))) 1 0 0 [.ref 1, .int (nI t)] LAY I (fun r lay1 I1 => r = some (.ref (4 + 2 * t)) ∧ lay1 = LAY ∧ I1 = I) := by
  refine Meth.of (by decide +kernel) (by simp [Value.category]) (Nat.le_of_ble_eq_true rfl) ?_
  refine A_aload_n rfl dX3_at_0 ?_
  refine A_getR fr_X3_17.g rfl lay_1 rfl dX3_at_1 ?_
  refine A_iload_n rfl dX3_at_4 ?_
  refine A_if_lt 18 rfl dX3_at_5 (fun cq5 => absurd cq5 (nI_pos (by omega))) (fun cq5 => ?_)
  refine A_iload_n rfl dX3_at_8 ?_
  refine A_bipush bp_14 dX3_at_9 ?_
  refine A_icmp_ge 18 rfl dX3_at_11 (fun cq11 => absurd cq11 (fun h9 => absurd ((le_nI (show (14 : Int32) = nI 14 from rfl) rfl (by omega) (by omega)).mp h9) (by omega))) (fun cq11 => ?_)
  refine A_iload_n rfl dX3_at_14 ?_
  refine A_goto 19 rfl dX3_at_15 ?_
  refine A_aald t rfl lay_3 (Or.inl rfl) (by omega) (by decide) (la_t t ht) dX3_at_19 ?_
  refine A_aret rfl (Or.inl ⟨_, rfl⟩) rfl rfl dX3_at_20 ?_
  exact ⟨rfl, rfl, rfl⟩
set_option maxHeartbeats 1000000 in
set_option maxRecDepth 100000 in
theorem s_gives (l : Launch) (G : Gm) (I : Hp) (t : Nat) (ht : t < 14) (cd : Nat → Int32) (len nn : Nat) (a b c : Int32) (hlen : I (4 + 2 * t) 3 = nI len) (hcde : ∀ k, k < len → I (4 + 2 * t + 1) k = q_enc (cd k)) (hwf : WfT cd len nn) (hnn : nn ≤ 3) : Meth l G yX3_gives cX3_gives 5 (some (FieldType.int)) 3 0 0 [.ref 1, .int (nI t), .int a, .int b, .int c] LAY I (fun r lay1 I1 => r = some (.int ((q_ev (q_nm a b c) cd len).1 0)) ∧ lay1 = LAY ∧ ∀ z, z ≠ 2 → I1 z = I z) := by
  have hq : isQ (4 + 2 * t) := ⟨t, by omega, by omega, rfl⟩
  refine Meth.of (by decide +kernel) (by simp [Value.category]) (Nat.le_of_ble_eq_true rfl) ?_
  refine A_aload_n rfl dX3_gives_0 ?_
  refine A_iload_n rfl dX3_gives_1 ?_
  refine A_callV (s_at l G I t ht) m_X3_at ml_X3_22 rfl lay_1 rfl (by decide) rfl rfl (Nat.le_of_ble_eq_true rfl) (by decide) (by decide) (by decide) dX3_gives_2 (fun _ _ _ h => congrArg List.length h.2.1) ?_
  rintro _ _ _ ⟨rfl, rfl, e9⟩
  refine AW_I e9 ?_
  clear e9
  refine A_aload_n rfl dX3_gives_5 ?_
  refine A_getR fr_X3_9.g rfl lay_1 rfl dX3_gives_6 ?_
  refine A_iload_n rfl dX3_gives_9 ?_
  refine A_iload_n rfl dX3_gives_10 ?_
  refine A_iload rfl dX3_gives_11 ?_
  refine A_callV (s_work l G I (4 + 2 * t) hq cd len nn a b c hlen hcde hwf hnn) m_X2_work ml_X3_26 rfl (ll hq) rfl (by decide) rfl rfl (Nat.le_of_ble_eq_true rfl) (by decide) (by decide) (by decide) dX3_gives_13 (fun _ _ _ hqq => congrArg List.length hqq.2.1) ?_
  rintro _ _ K2 ⟨rfl, rfl, hf2⟩
  refine A_iret rfl rfl rfl rfl dX3_gives_16 ?_
  exact ⟨rfl, rfl, hf2⟩
