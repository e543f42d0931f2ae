theorem Tho.tr {I K J : Hp} (h : Tho I K) (k : Tho K J) : Tho I J := fun q a b => (k q a b).trans (h q a b)
theorem Mind.up {I K : Hp} {x : Int32} {i : Nat} (h : Mind I K) (hi : i < 66) : Mind I (up2 K 87 i x) := by
  rw [setN_up]
  exact h.setN (fun m hm => by rw [upd_n (by omega)]; exact h.2.1 m hm)
/-- the best of a row, as the reference keeps it -/
def Arg2 (f : Nat → Int32) (k : Nat) (s3 s4 : Int32) : Prop := (k = 0 ∧ s3 = -1 ∧ s4 = -1) ∨ (0 < k ∧ (s3, s4) = q_arg f k)
theorem Arg2.p {f : Nat → Int32} {k : Nat} {s3 s4 : Int32} (h : Arg2 f k s3 s4) (h0 : ¬ f 0 ≤ -1) (hc : f k ≤ s4) : Arg2 f (k + 1) s3 s4 := by
  rcases h with ⟨h1, h3, h4⟩ | ⟨h1, h2⟩
  · subst h1
    exact absurd (h4 ▸ hc) h0
  · refine Or.inr ⟨by omega, ?_⟩
    rw [arg_p (by rw [← h2]; exact hc)]
    exact h2
theorem Arg2.n {f : Nat → Int32} {k : Nat} {s3 s4 : Int32} (h : Arg2 f k s3 s4) (h0 : ¬ f 0 ≤ -1) (hc : ¬ f k ≤ s4) : Arg2 f (k + 1) (nI k) (f k) := by
  rcases h with ⟨h1, h3, h4⟩ | ⟨h1, h2⟩
  · subst h1
    exact Or.inr ⟨by omega, by rw [arg_n h0]⟩
  · exact Or.inr ⟨by omega, by rw [arg_n (by rw [← h2]; exact hc)]⟩
set_option maxHeartbeats 1000000 in
set_option maxRecDepth 100000 in
theorem m_bestTurn (l : Launch) (G : Gm) (I : Hp) (N : Nrow) (h87 : I 87 = N) (n : Nat) (hn : n ≤ 10) (hN : N 1 = nI n) (hsil : I 86 4 = -1) (h w : Int32) : Meth l G yX8_bestTurn cX8_bestTurn 8 (some (FieldType.int)) 5 0 0 [.ref 86, .int h, .int w] LAY I (fun r lay1 I1 => r = some (.int (f_best N n h w)) ∧ lay1 = LAY ∧ ∀ q, q ≠ 90 → q ≠ 97 → q ≠ 98 → I1 q = I q) := by
  subst h87
  have loop : ∀ (lpn : Nat) (hn0 k : Nat) (s3 s4 : Int32) (o6 o7 : Option Value) (K : Hp), 10 - k = lpn → (h = nI hn0) → (hn0 ≤ 60) → ((1 ≤ h ∧ h ≤ 60) ∧ (0 ≤ w ∧ w ≤ 1)) → (k ≤ 10) → (Arg2 (q_bt (I 87) n hn0) k s3 s4) → (Mind I K) → (K 87 = I 87) → (K 86 = I 86) → AW l G yX8_bestTurn cX8_bestTurn 8 (some (FieldType.int)) 5 0 0 (fun r lay1 I1 => r = some (.int (f_best (I 87) n h w)) ∧ lay1 = LAY ∧ ∀ q, q ≠ 90 → q ≠ 97 → q ≠ 98 → I1 q = I q) 0 0 34 [some (.ref 86), some (.int h), some (.int w), some (.int s3), some (.int s4), some (.int (nI k)), o6, o7] [] LAY K := by
    intro lpn
    induction lpn using Nat.strongRecOn with
    | _ lpn ih =>
      intro hn0 k s3 s4 o6 o7 K hms hh0 hh1 hok hk hs hMi hK7 hK6
      subst hh0
      have H0 : ¬ q_bt (I 87) n hn0 0 ≤ -1 := bt_0 _ _ _ _ hn
      refine A_iload rfl dX8_bestTurn_34 ?_
      refine A_bipush bp_10 dX8_bestTurn_36 ?_
      refine A_icmp_ge 102 rfl dX8_bestTurn_38 (fun cq38 => ?_) (fun cq38 => ?_)
      · skip
        have hkn : k = 10 := by
          have hq1 := (le_nI (show (10 : Int32) = nI 10 from rfl) (rfl : nI k = nI k) (by omega) (by omega)).mp cq38
          omega
        subst hkn
        have hs1 : (s3, s4) = q_arg (q_bt (I 87) n hn0) 10 := hs.elim (fun q => absurd q.1 (by decide)) (fun q => q.2)
        have hs4 := congrArg Prod.snd hs1
        have hs3 := congrArg Prod.fst hs1
        dsimp only at hs3 hs4
        refine A_iload_n rfl dX8_bestTurn_102 ?_
        refine A_if_ne 110 rfl dX8_bestTurn_103 (fun cq103 => ?_) (fun cq103 => ?_)
        · skip
          refine A_iload rfl dX8_bestTurn_110 ?_
          refine A_iret rfl rfl rfl rfl dX8_bestTurn_112 ?_
          rw [f_best, if_pos hok, nI_clamp (by omega)]
          first
            | (have h7 : w = 0 := cq103; rw [if_pos h7]; exact ⟨by rw [hs3], rfl, hMi.end_ hK7 hK6⟩)
            | (have h7 : ¬ w = 0 := cq103; rw [if_neg h7]; exact ⟨by rw [hs4], rfl, hMi.end_ hK7 hK6⟩)
        · skip
          refine A_iload_n rfl dX8_bestTurn_106 ?_
          refine A_goto 112 rfl dX8_bestTurn_107 ?_
          refine A_iret rfl rfl rfl rfl dX8_bestTurn_112 ?_
          rw [f_best, if_pos hok, nI_clamp (by omega)]
          first
            | (have h7 : w = 0 := cq103; rw [if_pos h7]; exact ⟨by rw [hs3], rfl, hMi.end_ hK7 hK6⟩)
            | (have h7 : ¬ w = 0 := cq103; rw [if_neg h7]; exact ⟨by rw [hs4], rfl, hMi.end_ hK7 hK6⟩)
      · skip
        have hkn : k < 10 := by
          have hq1 := mt (le_nI (show (10 : Int32) = nI 10 from rfl) (rfl : nI k = nI k) (by omega) (by omega)).mpr cq38
          omega
        refine A_aload_n rfl dX8_bestTurn_41 ?_
        refine A_getR fr_X8_9.g rfl lay_86 rfl dX8_bestTurn_42 ?_
        refine A_iconst ic_5 dX8_bestTurn_45 ?_
        refine A_iload rfl dX8_bestTurn_46 ?_
        refine A_iast 5 rfl lay_87 (by decide) (by decide) dX8_bestTurn_48 ?_
        refine A_aload_n rfl dX8_bestTurn_49 ?_
        refine A_iload_n rfl dX8_bestTurn_50 ?_
        refine A_callV (t_go l G _ (upd (I 87) 5 (nI k)) (by rw [up2_row, hK7]) (-1) (by rw [up2_ne (by decide), hK6]; exact hsil) n hn (up5_1 hN) hn0 (by omega)) m_X8_goesOn ml_X8_162 rfl lay_86 rfl (by decide) rfl rfl (Nat.le_of_ble_eq_true rfl) (by decide) (by decide) (by decide) dX8_bestTurn_51 (fun _ _ _ h => congrArg List.length h.2.1) ?_
        rintro _ _ _ ⟨rfl, rfl, e9⟩
        refine AW_I e9 ?_
        clear e9
        refine A_istore (by decide) rfl dX8_bestTurn_54 ?_
        refine A_aload_n rfl dX8_bestTurn_56 ?_
        refine A_callV (t_kn l G _ _ setN_87 n hn (go_1 hn (up5_1 hN) hn0)) m_X8_knownAll ml_X8_171 rfl lay_86 rfl (by decide) rfl rfl (Nat.le_of_ble_eq_true rfl) (by decide) (by decide) (by decide) dX8_bestTurn_57 (fun _ _ _ h => congrArg List.length h.2.1) ?_
        rintro _ _ _ ⟨rfl, rfl, e9⟩
        refine AW_I e9 ?_
        clear e9
        refine A_istore (by decide) rfl dX8_bestTurn_60 ?_
        refine A_aload_n rfl dX8_bestTurn_62 ?_
        refine A_callV (t_putsBack l G _) m_X8_putsBack ml_X8_183 rfl lay_86 rfl (by decide) rfl rfl (Nat.le_of_ble_eq_true rfl) (by decide) (by decide) (by decide) dX8_bestTurn_63 (fun _ _ _ h => congrArg List.length h.2.1) ?_
        rintro _ _ _ ⟨rfl, rfl, e9⟩
        refine AW_I e9 ?_
        clear e9
        have hB := ((hMi.up (i := 5) (x := nI k) (by decide)).setN (M := (q_go (-1) n (upd (I 87) 5 (nI k)) hn0).1) (fun m hm => (up5_kp.tr (go_kp hn (up5_1 hN) hn0)) m (kp_67 hm))).back hsil
        refine A_iload rfl dX8_bestTurn_66 ?_
        refine A_iload rfl dX8_bestTurn_68 ?_
        refine A_icmp_le 78 rfl dX8_bestTurn_70 (fun cq70 => ?_) (fun cq70 => ?_)
        · skip
          refine A_iload_n rfl dX8_bestTurn_78 ?_
          refine A_istore_n (by decide) rfl dX8_bestTurn_79 ?_
          refine A_iload rfl dX8_bestTurn_80 ?_
          refine A_iload rfl dX8_bestTurn_82 ?_
          refine A_icmp_le 92 rfl dX8_bestTurn_84 (fun cq84 => ?_) (fun cq84 => ?_)
          · skip
            refine A_iload rfl dX8_bestTurn_92 ?_
            refine A_istore (by decide) rfl dX8_bestTurn_94 ?_
            refine A_iinc ic_1 rfl (by decide) rfl dX8_bestTurn_96 ?_
            refine A_goto 34 rfl dX8_bestTurn_99 ?_
            refine AW_L (by rw [nI_1 k]) ?_
            refine ih (10 - (k + 1)) (by omega) hn0 (k + 1) _ _ _ _ _ rfl rfl hh1 hok (by omega) ?_ hB.1 hB.2.1 hB.2.2
            first
              | exact absurd cq70 cq84
              | exact absurd cq84 cq70
              | (have h7 : q_bt (I 87) n hn0 k ≤ s4 := cq70; exact hs.p H0 h7)
              | (have h7 : ¬ q_bt (I 87) n hn0 k ≤ s4 := cq70; exact hs.n H0 h7)
          · skip
            refine A_iload rfl dX8_bestTurn_87 ?_
            refine A_goto 94 rfl dX8_bestTurn_89 ?_
            refine A_istore (by decide) rfl dX8_bestTurn_94 ?_
            refine A_iinc ic_1 rfl (by decide) rfl dX8_bestTurn_96 ?_
            refine A_goto 34 rfl dX8_bestTurn_99 ?_
            refine AW_L (by rw [nI_1 k]) ?_
            refine ih (10 - (k + 1)) (by omega) hn0 (k + 1) _ _ _ _ _ rfl rfl hh1 hok (by omega) ?_ hB.1 hB.2.1 hB.2.2
            first
              | exact absurd cq70 cq84
              | exact absurd cq84 cq70
              | (have h7 : q_bt (I 87) n hn0 k ≤ s4 := cq70; exact hs.p H0 h7)
              | (have h7 : ¬ q_bt (I 87) n hn0 k ≤ s4 := cq70; exact hs.n H0 h7)
        · skip
          refine A_iload rfl dX8_bestTurn_73 ?_
          refine A_goto 79 rfl dX8_bestTurn_75 ?_
          refine A_istore_n (by decide) rfl dX8_bestTurn_79 ?_
          refine A_iload rfl dX8_bestTurn_80 ?_
          refine A_iload rfl dX8_bestTurn_82 ?_
          refine A_icmp_le 92 rfl dX8_bestTurn_84 (fun cq84 => ?_) (fun cq84 => ?_)
          · skip
            refine A_iload rfl dX8_bestTurn_92 ?_
            refine A_istore (by decide) rfl dX8_bestTurn_94 ?_
            refine A_iinc ic_1 rfl (by decide) rfl dX8_bestTurn_96 ?_
            refine A_goto 34 rfl dX8_bestTurn_99 ?_
            refine AW_L (by rw [nI_1 k]) ?_
            refine ih (10 - (k + 1)) (by omega) hn0 (k + 1) _ _ _ _ _ rfl rfl hh1 hok (by omega) ?_ hB.1 hB.2.1 hB.2.2
            first
              | exact absurd cq70 cq84
              | exact absurd cq84 cq70
              | (have h7 : q_bt (I 87) n hn0 k ≤ s4 := cq70; exact hs.p H0 h7)
              | (have h7 : ¬ q_bt (I 87) n hn0 k ≤ s4 := cq70; exact hs.n H0 h7)
          · skip
            refine A_iload rfl dX8_bestTurn_87 ?_
            refine A_goto 94 rfl dX8_bestTurn_89 ?_
            refine A_istore (by decide) rfl dX8_bestTurn_94 ?_
            refine A_iinc ic_1 rfl (by decide) rfl dX8_bestTurn_96 ?_
            refine A_goto 34 rfl dX8_bestTurn_99 ?_
            refine AW_L (by rw [nI_1 k]) ?_
            refine ih (10 - (k + 1)) (by omega) hn0 (k + 1) _ _ _ _ _ rfl rfl hh1 hok (by omega) ?_ hB.1 hB.2.1 hB.2.2
            first
              | exact absurd cq70 cq84
              | exact absurd cq84 cq70
              | (have h7 : q_bt (I 87) n hn0 k ≤ s4 := cq70; exact hs.p H0 h7)
              | (have h7 : ¬ q_bt (I 87) n hn0 k ≤ s4 := cq70; exact hs.n H0 h7)
  refine Meth.of (by decide +kernel) (by simp [Value.category]) (Nat.le_of_ble_eq_true rfl) ?_
  refine A_iload_n rfl dX8_bestTurn_0 ?_
  refine A_iconst ic_1 dX8_bestTurn_1 ?_
  refine A_bipush bp_60 dX8_bestTurn_2 ?_
  refine A_callS (s_in l G _ _ _ _ _) m_X8_in ml_X8_80 rfl rfl rfl (Nat.le_of_ble_eq_true rfl) (by decide) (by decide) (by decide) dX8_bestTurn_4 (fun _ _ _ h => congrArg List.length h.2.1) ?_
  rintro _ _ _ ⟨rfl, rfl, e9⟩
  refine AW_I e9 ?_
  clear e9
  refine A_if_eq 19 rfl dX8_bestTurn_7 (fun cq7 => ?_) (fun cq7 => ?_)
  · skip
    refine A_ldc kc_X8_88 rfl dX8_bestTurn_19 ?_
    refine A_iret rfl rfl rfl rfl dX8_bestTurn_21 ?_
    have hno : ¬ ((1 ≤ h ∧ h ≤ 60) ∧ (0 ≤ w ∧ w ≤ 1)) := by
      first
        | (have h7 := b2i_q.mp cq7; exact fun h9 => h7 h9.1)
        | (have h7 := b2i_q.mp cq16; exact fun h9 => h7 h9.2)
    rw [f_best, if_neg hno]
    exact ⟨rfl, rfl, fun _ _ _ _ => rfl⟩
  · skip
    refine A_iload_n rfl dX8_bestTurn_10 ?_
    refine A_iconst ic_0 dX8_bestTurn_11 ?_
    refine A_iconst ic_1 dX8_bestTurn_12 ?_
    refine A_callS (s_in l G _ _ _ _ _) m_X8_in ml_X8_80 rfl rfl rfl (Nat.le_of_ble_eq_true rfl) (by decide) (by decide) (by decide) dX8_bestTurn_13 (fun _ _ _ h => congrArg List.length h.2.1) ?_
    rintro _ _ _ ⟨rfl, rfl, e9⟩
    refine AW_I e9 ?_
    clear e9
    refine A_if_ne 22 rfl dX8_bestTurn_16 (fun cq16 => ?_) (fun cq16 => ?_)
    · skip
      have hok : (1 ≤ h ∧ h ≤ 60) ∧ (0 ≤ w ∧ w ≤ 1) := ⟨b2i_p.mp cq7, b2i_p.mp cq16⟩
      obtain ⟨hn0, hh1, hh0⟩ := in_get60 hok.1
      refine A_aload_n rfl dX8_bestTurn_22 ?_
      refine A_callV (t_thinks l G I) m_X8_thinks ml_X8_177 rfl lay_86 rfl (by decide) rfl rfl (Nat.le_of_ble_eq_true rfl) (by decide) (by decide) (by decide) dX8_bestTurn_23 (fun _ _ _ h => congrArg List.length h.2.1) ?_
      rintro _ _ _ ⟨rfl, rfl, e9⟩
      refine AW_I e9 ?_
      clear e9
      refine A_iconst ic_m1 dX8_bestTurn_26 ?_
      refine A_istore_n (by decide) rfl dX8_bestTurn_27 ?_
      refine A_iconst ic_m1 dX8_bestTurn_28 ?_
      refine A_istore (by decide) rfl dX8_bestTurn_29 ?_
      refine A_iconst ic_0 dX8_bestTurn_31 ?_
      refine A_istore (by decide) rfl dX8_bestTurn_32 ?_
      exact loop 10 hn0 0 _ _ _ _ _ rfl hh0 hh1 hok (by omega) (Or.inl ⟨rfl, rfl, rfl⟩) Mind.st (setR_n (by decide)) (setR_n (by decide))
    · skip
      refine A_ldc kc_X8_88 rfl dX8_bestTurn_19 ?_
      refine A_iret rfl rfl rfl rfl dX8_bestTurn_21 ?_
      have hno : ¬ ((1 ≤ h ∧ h ≤ 60) ∧ (0 ≤ w ∧ w ≤ 1)) := by
        first
          | (have h7 := b2i_q.mp cq7; exact fun h9 => h7 h9.1)
          | (have h7 := b2i_q.mp cq16; exact fun h9 => h7 h9.2)
      rw [f_best, if_neg hno]
      exact ⟨rfl, rfl, fun _ _ _ _ => rfl⟩
def q_sure (N : Nrow) (n h : Nat) : Nat → Int32
  | 0 => 255
  | j + 1 => q_sure N n h j &&& q_com (q_go (nI j - 1) n N h).1 n
def f_sure (N : Nrow) (n : Nat) (h : Int32) : Int32 := if 1 ≤ h ∧ h ≤ 60 then q_sure N n h.toNatClampNeg (n + 1) else -1000000001
theorem sj_le : ∀ n, n ≤ 10 → ∀ j, j ≤ 11 → (nI n ≤ nI j - 1 ↔ n + 1 ≤ j) := by decide +kernel
theorem sj_1 (j : Nat) : nI j - 1 + 1 = nI (j + 1) - 1 := by rw [nI_pred, Int32.sub_add_cancel]
set_option maxHeartbeats 1000000 in
set_option maxRecDepth 100000 in
theorem c_sure (l : Launch) (G : Gm) (I : Hp) (N : Nrow) (n : Nat) (hn : n ≤ 10) (hN : N 1 = nI n) (hR : RepJ I 36 N) (hK : KnJ N) (h : Int32) : Meth l G yX7_sure cX7_sure 4 (some (FieldType.int)) 7 0 0 [.ref 0, .int h] LAY I (fun r lay1 I1 => r = some (.int (f_sure N n h)) ∧ lay1 = LAY ∧ Tho I I1) := by
  have loop : ∀ (lpn : Nat) (hn0 j : Nat) (s x : Int32) (K : Hp), n + 1 - j = lpn → (h = nI hn0) → (hn0 ≤ 60) → (1 ≤ h ∧ h ≤ 60) → (j ≤ n + 1) → (x = nI j - 1) → (s = q_sure N n hn0 j) → (Tho I K) → AW l G yX7_sure cX7_sure 4 (some (FieldType.int)) 7 0 0 (fun r lay1 I1 => r = some (.int (f_sure N n h)) ∧ lay1 = LAY ∧ Tho I I1) 0 0 19 [some (.ref 0), some (.int h), some (.int s), some (.int x)] [] LAY K := by
    intro lpn
    induction lpn using Nat.strongRecOn with
    | _ lpn ih =>
      intro hn0 j s x K hms hh0 hh1 hok hj hx hs hT
      subst hh0
      subst hx
      have e8 : K 36 8 = nI n := (hT.rep hR).1.1.trans hN
      refine A_iload_n rfl dX7_sure_19 ?_
      refine A_aload_n rfl dX7_sure_20 ?_
      refine A_getR fr_X7_28.g rfl lay_0 rfl dX7_sure_21 ?_
      refine A_getI fr_X7_61.g rfl (lj j36) dX7_sure_24 ?_
      rw [e8]
      refine A_icmp_ge 52 rfl dX7_sure_27 (fun cq27 => ?_) (fun cq27 => ?_)
      · skip
        have hjn : j = n + 1 := by
          have hq1 := (sj_le n hn j (by omega)).mp cq27
          omega
        subst hjn
        refine A_iload_n rfl dX7_sure_52 ?_
        refine A_iret rfl rfl rfl rfl dX7_sure_53 ?_
        rw [f_sure, if_pos hok, nI_clamp (by omega), hs]
        exact ⟨rfl, rfl, hT⟩
      · skip
        have hjn : j < n + 1 := by
          have hq1 := mt (sj_le n hn j (by omega)).mpr cq27
          omega
        refine A_aload_n rfl dX7_sure_30 ?_
        refine A_iload_n rfl dX7_sure_31 ?_
        refine A_iload_n rfl dX7_sure_32 ?_
        refine A_callV (s_think l G K N n hn hN (hT.rep hR) hK (nI j - 1) hn0 (by omega)) m_X7_think ml_X7_175 rfl lay_0 rfl (by decide) rfl rfl (Nat.le_of_ble_eq_true rfl) (by decide) (by decide) (by decide) dX7_sure_33 (fun _ _ _ hqq => congrArg List.length hqq.2.1) ?_
        rintro _ _ K2 ⟨rfl, rfl, hR2, hT2⟩
        refine A_iload_n rfl dX7_sure_36 ?_
        refine A_aload_n rfl dX7_sure_37 ?_
        refine A_getR fr_X7_35.g rfl lay_0 rfl dX7_sure_38 ?_
        refine A_callV (s_com l G 52 j52 K2 _ n hn (go_1 hn hN hn0) hR2) m_X0_common ml_X7_159 rfl (lj j52) rfl (by decide) rfl rfl (Nat.le_of_ble_eq_true rfl) (by decide) (by decide) (by decide) dX7_sure_41 (fun _ _ _ h => congrArg List.length h.2.1) ?_
        rintro _ _ _ ⟨rfl, rfl, e9⟩
        refine AW_I e9 ?_
        clear e9
        refine A_iand dX7_sure_44 ?_
        refine A_istore_n (by decide) rfl dX7_sure_45 ?_
        refine A_iinc ic_1 rfl (by decide) rfl dX7_sure_46 ?_
        refine A_goto 19 rfl dX7_sure_49 ?_
        exact ih (n + 1 - (j + 1)) (by omega) hn0 (j + 1) _ _ _ rfl rfl hh1 hok (by omega) (sj_1 j) (by rw [hs, q_sure]) (hT.tr hT2)
  refine Meth.of (by decide +kernel) (by simp [Value.category]) (Nat.le_of_ble_eq_true rfl) ?_
  refine A_iload_n rfl dX7_sure_0 ?_
  refine A_iconst ic_1 dX7_sure_1 ?_
  refine A_bipush bp_60 dX7_sure_2 ?_
  refine A_callS (s_within l G _ _ _ _ _) m_X7_within ml_X7_56 rfl rfl rfl (Nat.le_of_ble_eq_true rfl) (by decide) (by decide) (by decide) dX7_sure_4 (fun _ _ _ h => congrArg List.length h.2.1) ?_
  rintro _ _ _ ⟨rfl, rfl, e9⟩
  refine AW_I e9 ?_
  clear e9
  refine A_if_ne 13 rfl dX7_sure_7 (fun cq7 => ?_) (fun cq7 => ?_)
  · skip
    have hok : 1 ≤ h ∧ h ≤ 60 := b2i_p.mp cq7
    obtain ⟨hn0, hh1, hh0⟩ := in_get60 hok
    refine A_sipush sp_255 dX7_sure_13 ?_
    refine A_istore_n (by decide) rfl dX7_sure_16 ?_
    refine A_iconst ic_m1 dX7_sure_17 ?_
    refine A_istore_n (by decide) rfl dX7_sure_18 ?_
    exact loop (n + 1) hn0 0 _ _ _ rfl hh0 hh1 hok (by omega) rfl rfl (Tho.rf I)
  · skip
    refine A_ldc kc_X7_60 rfl dX7_sure_10 ?_
    refine A_iret rfl rfl rfl rfl dX7_sure_12 ?_
    rw [f_sure, if_neg (b2i_q.mp cq7)]
    exact ⟨rfl, rfl, Tho.rf I⟩
set_option maxHeartbeats 1000000 in
set_option maxRecDepth 100000 in
theorem m_sure (l : Launch) (G : Gm) (I : Hp) (N : Nrow) (h87 : I 87 = N) (n : Nat) (hn : n ≤ 10) (hN : N 1 = nI n) (hsil : I 86 4 = -1) (h : Int32) : Meth l G yX8_sure cX8_sure 5 (some (FieldType.int)) 5 0 0 [.ref 86, .int h] LAY I (fun r lay1 I1 => r = some (.int (f_sure N n h)) ∧ lay1 = LAY ∧ ∀ q, q ≠ 90 → q ≠ 97 → q ≠ 98 → I1 q = I q) := by
  subst h87
  have loop : ∀ (lpn : Nat) (hn0 j : Nat) (s x : Int32) (o4 : Option Value) (K : Hp), n + 1 - j = lpn → (h = nI hn0) → (hn0 ≤ 60) → (1 ≤ h ∧ h ≤ 60) → (j ≤ n + 1) → (x = nI j - 1) → (s = q_sure (I 87) n hn0 j) → (Mind I K) → (K 87 = I 87) → (K 86 = I 86) → AW l G yX8_sure cX8_sure 5 (some (FieldType.int)) 5 0 0 (fun r lay1 I1 => r = some (.int (f_sure (I 87) n h)) ∧ lay1 = LAY ∧ ∀ q, q ≠ 90 → q ≠ 97 → q ≠ 98 → I1 q = I q) 0 0 23 [some (.ref 86), some (.int h), some (.int s), some (.int x), o4] [] LAY K := by
    intro lpn
    induction lpn using Nat.strongRecOn with
    | _ lpn ih =>
      intro hn0 j s x o4 K hms hh0 hh1 hok hj hx hs hMi hK7 hK6
      subst hh0
      subst hx
      have e8 : K 87 1 = nI n := by rw [hK7]; exact hN
      refine A_iload_n rfl dX8_sure_23 ?_
      refine A_aload_n rfl dX8_sure_24 ?_
      refine A_getR fr_X8_9.g rfl lay_86 rfl dX8_sure_25 ?_
      refine A_iconst ic_1 dX8_sure_28 ?_
      refine A_iald 1 rfl lay_87 (by decide) (by decide) dX8_sure_29 ?_
      rw [e8]
      refine A_icmp_ge 62 rfl dX8_sure_30 (fun cq30 => ?_) (fun cq30 => ?_)
      · skip
        have hjn : j = n + 1 := by
          have hq1 := (sj_le n hn j (by omega)).mp cq30
          omega
        subst hjn
        refine A_iload_n rfl dX8_sure_62 ?_
        refine A_iret rfl rfl rfl rfl dX8_sure_63 ?_
        rw [f_sure, if_pos hok, nI_clamp (by omega), hs]
        exact ⟨rfl, rfl, hMi.end_ hK7 hK6⟩
      · skip
        have hjn : j < n + 1 := by
          have hq1 := mt (sj_le n hn j (by omega)).mpr cq30
          omega
        refine A_aload_n rfl dX8_sure_33 ?_
        refine A_iload_n rfl dX8_sure_34 ?_
        refine A_putI fr_X8_19 rfl lay_86 rfl rfl dX8_sure_35 ?_
        refine A_aload_n rfl dX8_sure_38 ?_
        refine A_iload_n rfl dX8_sure_39 ?_
        refine A_callV (t_go l G _ (I 87) (by rw [up2_ne (by decide), hK7]) (nI j - 1) up2_same n hn hN hn0 (by omega)) m_X8_goesOn ml_X8_162 rfl lay_86 rfl (by decide) rfl rfl (Nat.le_of_ble_eq_true rfl) (by decide) (by decide) (by decide) dX8_sure_40 (fun _ _ _ h => congrArg List.length h.2.1) ?_
        rintro _ _ _ ⟨rfl, rfl, e9⟩
        refine AW_I e9 ?_
        clear e9
        refine A_istore (by decide) rfl dX8_sure_43 ?_
        refine A_iload_n rfl dX8_sure_45 ?_
        refine A_aload_n rfl dX8_sure_46 ?_
        refine A_callV (t_com l G _ _ setN_87 n hn (go_1 hn hN hn0)) m_X8_common ml_X8_165 rfl lay_86 rfl (by decide) rfl rfl (Nat.le_of_ble_eq_true rfl) (by decide) (by decide) (by decide) dX8_sure_47 (fun _ _ _ h => congrArg List.length h.2.1) ?_
        rintro _ _ _ ⟨rfl, rfl, e9⟩
        refine AW_I e9 ?_
        clear e9
        refine A_iand dX8_sure_50 ?_
        refine A_istore_n (by decide) rfl dX8_sure_51 ?_
        refine A_aload_n rfl dX8_sure_52 ?_
        refine A_callV (t_putsBack l G _) m_X8_putsBack ml_X8_183 rfl lay_86 rfl (by decide) rfl rfl (Nat.le_of_ble_eq_true rfl) (by decide) (by decide) (by decide) dX8_sure_53 (fun _ _ _ h => congrArg List.length h.2.1) ?_
        rintro _ _ _ ⟨rfl, rfl, e9⟩
        refine AW_I e9 ?_
        clear e9
        have hB := ((hMi.sil (x := nI j - 1)).setN (M := (q_go (nI j - 1) n (I 87) hn0).1) (fun m hm => go_kp hn hN hn0 m (kp_67 hm))).back hsil
        refine A_iinc ic_1 rfl (by decide) rfl dX8_sure_56 ?_
        refine A_goto 23 rfl dX8_sure_59 ?_
        exact ih (n + 1 - (j + 1)) (by omega) hn0 (j + 1) _ _ _ _ rfl rfl hh1 hok (by omega) (sj_1 j) (by rw [hs, q_sure]) hB.1 hB.2.1 hB.2.2
  refine Meth.of (by decide +kernel) (by simp [Value.category]) (Nat.le_of_ble_eq_true rfl) ?_
  refine A_iload_n rfl dX8_sure_0 ?_
  refine A_iconst ic_1 dX8_sure_1 ?_
  refine A_bipush bp_60 dX8_sure_2 ?_
  refine A_callS (s_in l G _ _ _ _ _) m_X8_in ml_X8_80 rfl rfl rfl (Nat.le_of_ble_eq_true rfl) (by decide) (by decide) (by decide) dX8_sure_4 (fun _ _ _ h => congrArg List.length h.2.1) ?_
  rintro _ _ _ ⟨rfl, rfl, e9⟩
  refine AW_I e9 ?_
  clear e9
  refine A_if_ne 13 rfl dX8_sure_7 (fun cq7 => ?_) (fun cq7 => ?_)
  · skip
    have hok : 1 ≤ h ∧ h ≤ 60 := b2i_p.mp cq7
    obtain ⟨hn0, hh1, hh0⟩ := in_get60 hok
    refine A_aload_n rfl dX8_sure_13 ?_
    refine A_callV (t_thinks l G I) m_X8_thinks ml_X8_177 rfl lay_86 rfl (by decide) rfl rfl (Nat.le_of_ble_eq_true rfl) (by decide) (by decide) (by decide) dX8_sure_14 (fun _ _ _ h => congrArg List.length h.2.1) ?_
    rintro _ _ _ ⟨rfl, rfl, e9⟩
    refine AW_I e9 ?_
    clear e9
    refine A_sipush sp_255 dX8_sure_17 ?_
    refine A_istore_n (by decide) rfl dX8_sure_20 ?_
    refine A_iconst ic_m1 dX8_sure_21 ?_
    refine A_istore_n (by decide) rfl dX8_sure_22 ?_
    exact loop (n + 1) hn0 0 _ _ _ _ rfl hh0 hh1 hok (by omega) rfl rfl Mind.st (setR_n (by decide)) (setR_n (by decide))
  · skip
    refine A_ldc kc_X8_88 rfl dX8_sure_10 ?_
    refine A_iret rfl rfl rfl rfl dX8_sure_12 ?_
    rw [f_sure, if_neg (b2i_q.mp cq7)]
    exact ⟨rfl, rfl, fun _ _ _ _ => rfl⟩
set_option maxHeartbeats 1000000 in
set_option maxRecDepth 100000 in
theorem t_vb (l : Launch) (G : Gm) (I0 : Hp) (I : Hp) (N : Nrow) (h87 : I 87 = N) (n : Nat) (hn : n ≤ 10) (hN : N 1 = nI n) (T : Nat) (hTx : TxJ N T) (hMi : Mind I0 I) (hK0 : Kp (I0 87) N) (hsil0 : I0 86 4 = -1) (sil : Int32) (hsil : I 86 4 = sil) (h : Nat) (hh : h < 1000) : Meth l G yX8_votesBehind cX8_votesBehind 4 (some (FieldType.int)) 6 0 0 [.ref 86, .int (nI h)] LAY I (fun r lay1 I1 => r = some (.int (q_vo (q_go sil n N h).1 n)) ∧ lay1 = LAY ∧ Mind I0 I1 ∧ I1 87 = I0 87 ∧ I1 86 = I0 86) := by
  subst h87
  refine Meth.of (by decide +kernel) (by simp [Value.category]) (Nat.le_of_ble_eq_true rfl) ?_
  refine A_aload_n rfl dX8_votesBehind_0 ?_
  refine A_iload_n rfl dX8_votesBehind_1 ?_
  refine A_callV (t_go l G I _ rfl sil hsil n hn hN h hh) m_X8_goesOn ml_X8_162 rfl lay_86 rfl (by decide) rfl rfl (Nat.le_of_ble_eq_true rfl) (by decide) (by decide) (by decide) dX8_votesBehind_2 (fun _ _ _ h => congrArg List.length h.2.1) ?_
  rintro _ _ _ ⟨rfl, rfl, e9⟩
  refine AW_I e9 ?_
  clear e9
  refine A_istore_n (by decide) rfl dX8_votesBehind_5 ?_
  refine A_aload_n rfl dX8_votesBehind_6 ?_
  refine A_callV (t_vo l G _ _ setN_87 n hn (go_1 hn hN h) T (hTx.kp (go_kp hn hN h))) m_X8_votes ml_X8_168 rfl lay_86 rfl (by decide) rfl rfl (Nat.le_of_ble_eq_true rfl) (by decide) (by decide) (by decide) dX8_votesBehind_7 (fun _ _ _ h => congrArg List.length h.2.1) ?_
  rintro _ _ K2 ⟨rfl, rfl, hf2⟩
  refine A_istore_n (by decide) rfl dX8_votesBehind_10 ?_
  refine A_aload_n rfl dX8_votesBehind_11 ?_
  refine A_callV (t_putsBack l G _) m_X8_putsBack ml_X8_183 rfl lay_86 rfl (by decide) rfl rfl (Nat.le_of_ble_eq_true rfl) (by decide) (by decide) (by decide) dX8_votesBehind_12 (fun _ _ _ h => congrArg List.length h.2.1) ?_
  rintro _ _ _ ⟨rfl, rfl, e9⟩
  refine AW_I e9 ?_
  clear e9
  refine A_iload_n rfl dX8_votesBehind_15 ?_
  refine A_iret rfl rfl rfl rfl dX8_votesBehind_16 ?_
  exact ⟨rfl, rfl, ((hMi.setN (M := (q_go sil n (I 87) h).1) (fun m hm => (hK0.tr (go_kp hn hN h)) m (kp_67 hm))).fr hf2).back hsil0⟩
def q_tip (N : Nrow) (n h : Nat) (v : Int32) : Nat → Int32
  | 0 => 0
  | j + 1 => if q_vo (q_go (nI j) n N h).1 n = v then q_tip N n h v j else q_tip N n h v j ||| (1 <<< (nI j &&& 31))
def f_tip (N : Nrow) (n : Nat) (h : Int32) : Int32 := if 1 ≤ h ∧ h ≤ 60 then q_tip N n h.toNatClampNeg (q_vo (q_go (-1) n N h.toNatClampNeg).1 n) n else -1000000001
set_option maxHeartbeats 1000000 in
set_option maxRecDepth 100000 in
theorem c_tipped (l : Launch) (G : Gm) (I : Hp) (N : Nrow) (n : Nat) (hn : n ≤ 10) (hN : N 1 = nI n) (hR : RepJ I 36 N) (T : Nat) (hK : KnJ N) (hTx : TxJ N T) (hLw : LwR I N T) (hDo : DoJ N) (h : Int32) : Meth l G yX7_tipped cX7_tipped 5 (some (FieldType.int)) 7 0 0 [.ref 0, .int h] LAY I (fun r lay1 I1 => r = some (.int (f_tip N n h)) ∧ lay1 = LAY ∧ Tho I I1) := by
  have loop : ∀ (lpn : Nat) (hn0 j : Nat) (s : Int32) (K : Hp), n - j = lpn → (h = nI hn0) → (hn0 ≤ 60) → (1 ≤ h ∧ h ≤ 60) → (j ≤ n) → (s = q_tip N n hn0 (q_vo (q_go (-1) n N hn0).1 n) j) → (Tho I K) → AW l G yX7_tipped cX7_tipped 5 (some (FieldType.int)) 7 0 0 (fun r lay1 I1 => r = some (.int (f_tip N n h)) ∧ lay1 = LAY ∧ Tho I I1) 0 0 32 [some (.ref 0), some (.int h), some (.int (q_vo (q_go (-1) n N hn0).1 n)), some (.int s), some (.int (nI j))] [] LAY K := by
    intro lpn
    induction lpn using Nat.strongRecOn with
    | _ lpn ih =>
      intro hn0 j s K hms hh0 hh1 hok hj hs hT
      subst hh0
      have e8 : K 36 8 = nI n := (hT.rep hR).1.1.trans hN
      refine A_iload rfl dX7_tipped_32 ?_
      refine A_aload_n rfl dX7_tipped_34 ?_
      refine A_getR fr_X7_28.g rfl lay_0 rfl dX7_tipped_35 ?_
      refine A_getI fr_X7_61.g rfl (lj j36) dX7_tipped_38 ?_
      rw [e8]
      refine A_icmp_ge 75 rfl dX7_tipped_41 (fun cq41 => ?_) (fun cq41 => ?_)
      · skip
        have hjn : j = n := by
          have hq1 := (le_nI (rfl : nI n = nI n) (rfl : nI j = nI j) (by omega) (by omega)).mp cq41
          omega
        subst hjn
        refine A_iload_n rfl dX7_tipped_75 ?_
        refine A_iret rfl rfl rfl rfl dX7_tipped_76 ?_
        rw [f_tip, if_pos hok, nI_clamp (by omega), hs]
        exact ⟨rfl, rfl, hT⟩
      · skip
        have hjn : j < n := by
          have hq1 := mt (le_nI (rfl : nI n = nI n) (rfl : nI j = nI j) (by omega) (by omega)).mpr cq41
          omega
        refine A_aload_n rfl dX7_tipped_44 ?_
        refine A_iload_n rfl dX7_tipped_45 ?_
        refine A_iload rfl dX7_tipped_46 ?_
        refine A_callV (s_think l G K N n hn hN (hT.rep hR) hK (nI j) hn0 (by omega)) m_X7_think ml_X7_175 rfl lay_0 rfl (by decide) rfl rfl (Nat.le_of_ble_eq_true rfl) (by decide) (by decide) (by decide) dX7_tipped_48 (fun _ _ _ hqq => congrArg List.length hqq.2.1) ?_
        rintro _ _ K2 ⟨rfl, rfl, hR2, hT2⟩
        refine A_aload_n rfl dX7_tipped_51 ?_
        refine A_getR fr_X7_35.g rfl lay_0 rfl dX7_tipped_52 ?_
        refine A_callV (s_vo l G 52 j52 K2 _ T hR2 (go_kn hn hN hK hn0) (hTx.kp (go_kp hn hN hn0)) (((hT.tr hT2).lw hTx.1 hLw).kp (go_kp hn hN hn0)) (hDo.kp (go_kp hn hN hn0)) n hn (go_1 hn hN hn0)) m_X0_votes ml_X7_163 rfl (lj j52) rfl (by decide) rfl rfl (Nat.le_of_ble_eq_true rfl) (by decide) (by decide) (by decide) dX7_tipped_55 (fun _ _ _ h => congrArg List.length h.2.1) ?_
        rintro _ _ K3 ⟨rfl, rfl, hf3⟩
        refine A_iload_n rfl dX7_tipped_58 ?_
        refine A_icmp_eq 69 rfl dX7_tipped_59 (fun cq59 => ?_) (fun cq59 => ?_)
        · skip
          refine A_iinc ic_1 rfl (by decide) rfl dX7_tipped_69 ?_
          refine A_goto 32 rfl dX7_tipped_72 ?_
          refine AW_L (by rw [nI_1 j]) ?_
          refine ih (n - (j + 1)) (by omega) hn0 (j + 1) _ _ rfl rfl hh1 hok (by omega) ?_ ((hT.tr hT2).st hf3)
          first
            | (have h7 : q_vo (q_go (nI j) n N hn0).1 n = (q_vo (q_go (-1) n N hn0).1 n) := cq59; rw [q_tip, if_pos h7]; exact hs)
            | (have h7 : ¬ q_vo (q_go (nI j) n N hn0).1 n = (q_vo (q_go (-1) n N hn0).1 n) := cq59; rw [q_tip, if_neg h7, hs])
        · skip
          refine A_iload_n rfl dX7_tipped_62 ?_
          refine A_iconst ic_1 dX7_tipped_63 ?_
          refine A_iload rfl dX7_tipped_64 ?_
          refine A_ishl dX7_tipped_66 ?_
          refine A_ior dX7_tipped_67 ?_
          refine A_istore_n (by decide) rfl dX7_tipped_68 ?_
          refine A_iinc ic_1 rfl (by decide) rfl dX7_tipped_69 ?_
          refine A_goto 32 rfl dX7_tipped_72 ?_
          refine AW_L (by rw [nI_1 j]) ?_
          refine ih (n - (j + 1)) (by omega) hn0 (j + 1) _ _ rfl rfl hh1 hok (by omega) ?_ ((hT.tr hT2).st hf3)
          first
            | (have h7 : q_vo (q_go (nI j) n N hn0).1 n = (q_vo (q_go (-1) n N hn0).1 n) := cq59; rw [q_tip, if_pos h7]; exact hs)
            | (have h7 : ¬ q_vo (q_go (nI j) n N hn0).1 n = (q_vo (q_go (-1) n N hn0).1 n) := cq59; rw [q_tip, if_neg h7, hs])
  refine Meth.of (by decide +kernel) (by simp [Value.category]) (Nat.le_of_ble_eq_true rfl) ?_
  refine A_iload_n rfl dX7_tipped_0 ?_
  refine A_iconst ic_1 dX7_tipped_1 ?_
  refine A_bipush bp_60 dX7_tipped_2 ?_
  refine A_callS (s_within l G _ _ _ _ _) m_X7_within ml_X7_56 rfl rfl rfl (Nat.le_of_ble_eq_true rfl) (by decide) (by decide) (by decide) dX7_tipped_4 (fun _ _ _ h => congrArg List.length h.2.1) ?_
  rintro _ _ _ ⟨rfl, rfl, e9⟩
  refine AW_I e9 ?_
  clear e9
  refine A_if_ne 13 rfl dX7_tipped_7 (fun cq7 => ?_) (fun cq7 => ?_)
  · skip
    have hok : 1 ≤ h ∧ h ≤ 60 := b2i_p.mp cq7
    obtain ⟨hn0, hh1, hh0⟩ := in_get60 hok
    subst hh0
    refine A_aload_n rfl dX7_tipped_13 ?_
    refine A_iload_n rfl dX7_tipped_14 ?_
    refine A_iconst ic_m1 dX7_tipped_15 ?_
    refine A_callV (s_think l G I N n hn hN hR hK (-1) hn0 (by omega)) m_X7_think ml_X7_175 rfl lay_0 rfl (by decide) rfl rfl (Nat.le_of_ble_eq_true rfl) (by decide) (by decide) (by decide) dX7_tipped_16 (fun _ _ _ hqq => congrArg List.length hqq.2.1) ?_
    rintro _ _ K2 ⟨rfl, rfl, hR2, hT2⟩
    refine A_aload_n rfl dX7_tipped_19 ?_
    refine A_getR fr_X7_35.g rfl lay_0 rfl dX7_tipped_20 ?_
    refine A_callV (s_vo l G 52 j52 K2 _ T hR2 (go_kn hn hN hK hn0) (hTx.kp (go_kp hn hN hn0)) ((hT2.lw hTx.1 hLw).kp (go_kp hn hN hn0)) (hDo.kp (go_kp hn hN hn0)) n hn (go_1 hn hN hn0)) m_X0_votes ml_X7_163 rfl (lj j52) rfl (by decide) rfl rfl (Nat.le_of_ble_eq_true rfl) (by decide) (by decide) (by decide) dX7_tipped_23 (fun _ _ _ h => congrArg List.length h.2.1) ?_
    rintro _ _ K3 ⟨rfl, rfl, hf3⟩
    refine A_istore_n (by decide) rfl dX7_tipped_26 ?_
    refine A_iconst ic_0 dX7_tipped_27 ?_
    refine A_istore_n (by decide) rfl dX7_tipped_28 ?_
    refine A_iconst ic_0 dX7_tipped_29 ?_
    refine A_istore (by decide) rfl dX7_tipped_30 ?_
    exact loop n hn0 0 _ _ rfl rfl hh1 hok (by omega) rfl (hT2.st hf3)
  · skip
    refine A_ldc kc_X7_60 rfl dX7_tipped_10 ?_
    refine A_iret rfl rfl rfl rfl dX7_tipped_12 ?_
    rw [f_tip, if_neg (b2i_q.mp cq7)]
    exact ⟨rfl, rfl, Tho.rf I⟩
set_option maxHeartbeats 1000000 in
set_option maxRecDepth 100000 in
theorem m_tipped (l : Launch) (G : Gm) (I : Hp) (N : Nrow) (h87 : I 87 = N) (n : Nat) (hn : n ≤ 10) (hN : N 1 = nI n) (T : Nat) (hTx : TxJ N T) (hsil : I 86 4 = -1) (h : Int32) : Meth l G yX8_tipped cX8_tipped 5 (some (FieldType.int)) 7 0 0 [.ref 86, .int h] LAY I (fun r lay1 I1 => r = some (.int (f_tip N n h)) ∧ lay1 = LAY ∧ ∀ q, q ≠ 90 → q ≠ 97 → q ≠ 98 → I1 q = I q) := by
  subst h87
  have loop : ∀ (lpn : Nat) (hn0 j : Nat) (s : Int32) (K : Hp), n - j = lpn → (h = nI hn0) → (hn0 ≤ 60) → (1 ≤ h ∧ h ≤ 60) → (j ≤ n) → (s = q_tip (I 87) n hn0 (q_vo (q_go (-1) n (I 87) hn0).1 n) j) → (Mind I K) → (K 87 = I 87) → (K 86 = I 86) → AW l G yX8_tipped cX8_tipped 5 (some (FieldType.int)) 7 0 0 (fun r lay1 I1 => r = some (.int (f_tip (I 87) n h)) ∧ lay1 = LAY ∧ ∀ q, q ≠ 90 → q ≠ 97 → q ≠ 98 → I1 q = I q) 0 0 28 [some (.ref 86), some (.int h), some (.int (q_vo (q_go (-1) n (I 87) hn0).1 n)), some (.int s), some (.int (nI j))] [] LAY K := by
    intro lpn
    induction lpn using Nat.strongRecOn with
    | _ lpn ih =>
      intro hn0 j s K hms hh0 hh1 hok hj hs hMi hK7 hK6
      subst hh0
      have e8 : K 87 1 = nI n := by rw [hK7]; exact hN
      refine A_iload rfl dX8_tipped_28 ?_
      refine A_aload_n rfl dX8_tipped_30 ?_
      refine A_getR fr_X8_9.g rfl lay_86 rfl dX8_tipped_31 ?_
      refine A_iconst ic_1 dX8_tipped_34 ?_
      refine A_iald 1 rfl lay_87 (by decide) (by decide) dX8_tipped_35 ?_
      rw [e8]
      refine A_icmp_ge 71 rfl dX8_tipped_36 (fun cq36 => ?_) (fun cq36 => ?_)
      · skip
        have hjn : j = n := by
          have hq1 := (le_nI (rfl : nI n = nI n) (rfl : nI j = nI j) (by omega) (by omega)).mp cq36
          omega
        subst hjn
        refine A_iload_n rfl dX8_tipped_71 ?_
        refine A_iret rfl rfl rfl rfl dX8_tipped_72 ?_
        rw [f_tip, if_pos hok, nI_clamp (by omega), hs]
        exact ⟨rfl, rfl, hMi.end_ hK7 hK6⟩
      · skip
        have hjn : j < n := by
          have hq1 := mt (le_nI (rfl : nI n = nI n) (rfl : nI j = nI j) (by omega) (by omega)).mpr cq36
          omega
        refine A_aload_n rfl dX8_tipped_39 ?_
        refine A_iload rfl dX8_tipped_40 ?_
        refine A_putI fr_X8_19 rfl lay_86 rfl rfl dX8_tipped_42 ?_
        refine A_iload_n rfl dX8_tipped_45 ?_
        refine A_aload_n rfl dX8_tipped_46 ?_
        refine A_iload_n rfl dX8_tipped_47 ?_
        refine A_callV (t_vb l G I _ (I 87) (by rw [up2_ne (by decide), hK7]) n hn hN T hTx hMi.sil (Kp.rf _) hsil (nI j) up2_same hn0 (by omega)) m_X8_votesBehind ml_X8_189 rfl lay_86 rfl (by decide) rfl rfl (Nat.le_of_ble_eq_true rfl) (by decide) (by decide) (by decide) dX8_tipped_48 (fun _ _ _ hqq => congrArg List.length hqq.2.1) ?_
        rintro _ _ K2 ⟨rfl, rfl, hM2, hK72, hK62⟩
        refine A_iload_n rfl dX8_tipped_51 ?_
        refine A_icmp_ne 59 rfl dX8_tipped_52 (fun cq52 => ?_) (fun cq52 => ?_)
        · skip
          refine A_iconst ic_1 dX8_tipped_59 ?_
          refine A_iload rfl dX8_tipped_60 ?_
          refine A_ishl dX8_tipped_62 ?_
          refine A_ior dX8_tipped_63 ?_
          refine A_istore_n (by decide) rfl dX8_tipped_64 ?_
          refine A_iinc ic_1 rfl (by decide) rfl dX8_tipped_65 ?_
          refine A_goto 28 rfl dX8_tipped_68 ?_
          refine AW_L (by rw [nI_1 j]) ?_
          refine ih (n - (j + 1)) (by omega) hn0 (j + 1) _ _ rfl rfl hh1 hok (by omega) ?_ hM2 hK72 hK62
          first
            | (have h7 : q_vo (q_go (nI j) n (I 87) hn0).1 n = (q_vo (q_go (-1) n (I 87) hn0).1 n) := cq52; rw [q_tip, if_pos h7, hs]; simp)
            | (have h7 : ¬ q_vo (q_go (nI j) n (I 87) hn0).1 n = (q_vo (q_go (-1) n (I 87) hn0).1 n) := cq52; rw [q_tip, if_neg h7, hs])
        · skip
          refine A_iconst ic_0 dX8_tipped_55 ?_
          refine A_goto 63 rfl dX8_tipped_56 ?_
          refine A_ior dX8_tipped_63 ?_
          refine A_istore_n (by decide) rfl dX8_tipped_64 ?_
          refine A_iinc ic_1 rfl (by decide) rfl dX8_tipped_65 ?_
          refine A_goto 28 rfl dX8_tipped_68 ?_
          refine AW_L (by rw [nI_1 j]) ?_
          refine ih (n - (j + 1)) (by omega) hn0 (j + 1) _ _ rfl rfl hh1 hok (by omega) ?_ hM2 hK72 hK62
          first
            | (have h7 : q_vo (q_go (nI j) n (I 87) hn0).1 n = (q_vo (q_go (-1) n (I 87) hn0).1 n) := cq52; rw [q_tip, if_pos h7, hs]; simp)
            | (have h7 : ¬ q_vo (q_go (nI j) n (I 87) hn0).1 n = (q_vo (q_go (-1) n (I 87) hn0).1 n) := cq52; rw [q_tip, if_neg h7, hs])
  refine Meth.of (by decide +kernel) (by simp [Value.category]) (Nat.le_of_ble_eq_true rfl) ?_
  refine A_iload_n rfl dX8_tipped_0 ?_
  refine A_iconst ic_1 dX8_tipped_1 ?_
  refine A_bipush bp_60 dX8_tipped_2 ?_
  refine A_callS (s_in l G _ _ _ _ _) m_X8_in ml_X8_80 rfl rfl rfl (Nat.le_of_ble_eq_true rfl) (by decide) (by decide) (by decide) dX8_tipped_4 (fun _ _ _ h => congrArg List.length h.2.1) ?_
  rintro _ _ _ ⟨rfl, rfl, e9⟩
  refine AW_I e9 ?_
  clear e9
  refine A_if_ne 13 rfl dX8_tipped_7 (fun cq7 => ?_) (fun cq7 => ?_)
  · skip
    have hok : 1 ≤ h ∧ h ≤ 60 := b2i_p.mp cq7
    obtain ⟨hn0, hh1, hh0⟩ := in_get60 hok
    subst hh0
    refine A_aload_n rfl dX8_tipped_13 ?_
    refine A_callV (t_thinks l G I) m_X8_thinks ml_X8_177 rfl lay_86 rfl (by decide) rfl rfl (Nat.le_of_ble_eq_true rfl) (by decide) (by decide) (by decide) dX8_tipped_14 (fun _ _ _ h => congrArg List.length h.2.1) ?_
    rintro _ _ _ ⟨rfl, rfl, e9⟩
    refine AW_I e9 ?_
    clear e9
    refine A_aload_n rfl dX8_tipped_17 ?_
    refine A_iload_n rfl dX8_tipped_18 ?_
    refine A_callV (t_vb l G I _ (I 87) (setR_n (by decide)) n hn hN T hTx Mind.st (Kp.rf _) hsil (-1) (by rw [setR_n (by decide)]; exact hsil) hn0 (by omega)) m_X8_votesBehind ml_X8_189 rfl lay_86 rfl (by decide) rfl rfl (Nat.le_of_ble_eq_true rfl) (by decide) (by decide) (by decide) dX8_tipped_19 (fun _ _ _ hqq => congrArg List.length hqq.2.1) ?_
    rintro _ _ K2 ⟨rfl, rfl, hM2, hK72, hK62⟩
    refine A_istore_n (by decide) rfl dX8_tipped_22 ?_
    refine A_iconst ic_0 dX8_tipped_23 ?_
    refine A_istore_n (by decide) rfl dX8_tipped_24 ?_
    refine A_iconst ic_0 dX8_tipped_25 ?_
    refine A_istore (by decide) rfl dX8_tipped_26 ?_
    exact loop n hn0 0 _ _ rfl rfl hh1 hok (by omega) rfl hM2 hK72 hK62
  · skip
    refine A_ldc kc_X8_88 rfl dX8_tipped_10 ?_
    refine A_iret rfl rfl rfl rfl dX8_tipped_12 ?_
    rw [f_tip, if_neg (b2i_q.mp cq7)]
    exact ⟨rfl, rfl, fun _ _ _ _ => rfl⟩
def q_ad (N : Nrow) (n h k : Nat) : Int32 := q_vo (q_go (-1) n (q_outL N (k / 2) (irem (nI k) 2) n).1 h).1 n
def f_adv (N : Nrow) (n : Nat) (h w : Int32) : Int32 := if (0 ≤ h ∧ h ≤ 60) ∧ (0 ≤ w ∧ w ≤ 1) then (if w = 0 then (q_arg (q_ad N n h.toNatClampNeg) 16).1 else (q_arg (q_ad N n h.toNatClampNeg) 16).2) else -1000000001
theorem ad_0 (N : Nrow) (n h k : Nat) (hn : n ≤ 10) : ¬ q_ad N n h k ≤ -1 := by
  obtain ⟨m, h1, h2⟩ := vo_nI (q_go (-1) n (q_outL N (k / 2) (irem (nI k) 2) n).1 h).1 n
  rw [q_ad, h2]
  exact m1_le (by omega)
theorem out_1n {N : Nrow} {n f : Nat} {way : Int32} (hn : n ≤ 10) (hN : N 1 = nI n) : (q_outL N f way n).1 1 = nI n := (out_kp hn 1 kp_1).trans hN
theorem half (k : Nat) (h : k < 2 ^ 31) : nI k / 2 = nI (k / 2) := by rw [show (2 : Int32) = nI 2 from rfl, pk_div h (by decide) (by decide)]
set_option maxHeartbeats 1000000 in
set_option maxRecDepth 100000 in
theorem c_advocate (l : Launch) (G : Gm) (I : Hp) (N : Nrow) (n : Nat) (hn : n ≤ 10) (hN : N 1 = nI n) (hR : RepJ I 36 N) (T : Nat) (hK : KnJ N) (hTx : TxJ N T) (hLw : LwR I N T) (hDo : DoJ N) (h w : Int32) : Meth l G yX7_advocate cX7_advocate 7 (some (FieldType.int)) 7 0 0 [.ref 0, .int h, .int w] LAY I (fun r lay1 I1 => r = some (.int (f_adv N n h w)) ∧ lay1 = LAY ∧ Tho I I1) := by
  have loop : ∀ (lpn : Nat) (hn0 k : Nat) (s3 s4 : Int32) (o6 : Option Value) (K : Hp), 16 - k = lpn → (h = nI hn0) → (hn0 ≤ 60) → ((0 ≤ h ∧ h ≤ 60) ∧ (0 ≤ w ∧ w ≤ 1)) → (k ≤ 16) → ((s3, s4) = q_arg (q_ad N n hn0) k) → (Tho I K) → AW l G yX7_advocate cX7_advocate 7 (some (FieldType.int)) 7 0 0 (fun r lay1 I1 => r = some (.int (f_adv N n h w)) ∧ lay1 = LAY ∧ Tho I I1) 0 0 30 [some (.ref 0), some (.int h), some (.int w), some (.int s3), some (.int s4), some (.int (nI k)), o6] [] LAY K := by
    intro lpn
    induction lpn using Nat.strongRecOn with
    | _ lpn ih =>
      intro hn0 k s3 s4 o6 K hms hh0 hh1 hok hk hs hT
      subst hh0
      have hs4 := congrArg Prod.snd hs
      have hs3 := congrArg Prod.fst hs
      dsimp only at hs3 hs4
      refine A_iload rfl dX7_advocate_30 ?_
      refine A_bipush bp_16 dX7_advocate_32 ?_
      refine A_icmp_ge 103 rfl dX7_advocate_34 (fun cq34 => ?_) (fun cq34 => ?_)
      · skip
        have hkn : k = 16 := by
          have hq1 := (le_nI (show (16 : Int32) = nI 16 from rfl) (rfl : nI k = nI k) (by omega) (by omega)).mp cq34
          omega
        subst hkn
        refine A_iload_n rfl dX7_advocate_103 ?_
        refine A_if_ne 111 rfl dX7_advocate_104 (fun cq104 => ?_) (fun cq104 => ?_)
        · skip
          refine A_iload rfl dX7_advocate_111 ?_
          refine A_iret rfl rfl rfl rfl dX7_advocate_113 ?_
          rw [f_adv, if_pos hok, nI_clamp (by omega)]
          first
            | (have h7 : w = 0 := cq104; rw [if_pos h7]; exact ⟨by rw [hs3], rfl, hT⟩)
            | (have h7 : ¬ w = 0 := cq104; rw [if_neg h7]; exact ⟨by rw [hs4], rfl, hT⟩)
        · skip
          refine A_iload_n rfl dX7_advocate_107 ?_
          refine A_goto 113 rfl dX7_advocate_108 ?_
          refine A_iret rfl rfl rfl rfl dX7_advocate_113 ?_
          rw [f_adv, if_pos hok, nI_clamp (by omega)]
          first
            | (have h7 : w = 0 := cq104; rw [if_pos h7]; exact ⟨by rw [hs3], rfl, hT⟩)
            | (have h7 : ¬ w = 0 := cq104; rw [if_neg h7]; exact ⟨by rw [hs4], rfl, hT⟩)
      · skip
        have hkn : k < 16 := by
          have hq1 := mt (le_nI (show (16 : Int32) = nI 16 from rfl) (rfl : nI k = nI k) (by omega) (by omega)).mpr cq34
          omega
        refine A_aload_n rfl dX7_advocate_37 ?_
        refine A_getR fr_X7_35.g rfl lay_0 rfl dX7_advocate_38 ?_
        refine A_aload_n rfl dX7_advocate_41 ?_
        refine A_getR fr_X7_28.g rfl lay_0 rfl dX7_advocate_42 ?_
        refine A_callV (s_become l G 36 52 j36 j52 (by decide) K) m_X0_become ml_X7_179 rfl (lj j52) rfl (by decide) rfl rfl (Nat.le_of_ble_eq_true rfl) (by decide) (by decide) (by decide) dX7_advocate_45 (fun _ _ _ h => congrArg List.length h.2.1) ?_
        rintro _ _ _ ⟨rfl, rfl, e9⟩
        refine AW_I e9 ?_
        clear e9
        refine A_aload_n rfl dX7_advocate_48 ?_
        refine A_getR fr_X7_35.g rfl lay_0 rfl dX7_advocate_49 ?_
        refine A_iload rfl dX7_advocate_52 ?_
        refine A_iconst ic_2 dX7_advocate_54 ?_
        refine A_idiv dX7_advocate_55 (by decide) ?_
        rw [half k (by omega)]
        refine A_iload rfl dX7_advocate_56 ?_
        refine A_iconst ic_2 dX7_advocate_58 ?_
        refine A_irem dX7_advocate_59 (by decide) ?_
        refine A_callV (s_out l G 52 j52 _ N n hn hN ((hT.rep hR).be (by decide)) hK (k / 2) (by omega) (irem (nI k) 2)) m_X0_comesOut ml_X7_150 rfl (lj j52) rfl (by decide) rfl rfl (Nat.le_of_ble_eq_true rfl) (by decide) (by decide) (by decide) dX7_advocate_60 (fun _ _ _ hqq => congrArg List.length hqq.2.1) ?_
        rintro _ _ K2 ⟨rfl, rfl, hR2, hf2⟩
        refine A_pop rfl dX7_advocate_63 ?_
        refine A_aload_n rfl dX7_advocate_64 ?_
        refine A_getR fr_X7_35.g rfl lay_0 rfl dX7_advocate_65 ?_
        refine A_iload_n rfl dX7_advocate_68 ?_
        refine A_iconst ic_m1 dX7_advocate_69 ?_
        refine A_callV (s_go l G 52 j52 K2 _ n hn (out_1n hn hN) hR2 (out_keep (by omega) hK n hn) (-1) hn0 (by omega)) m_X0_pass ml_X7_156 rfl (lj j52) rfl (by decide) rfl rfl (Nat.le_of_ble_eq_true rfl) (by decide) (by decide) (by decide) dX7_advocate_70 (fun _ _ _ hqq => congrArg List.length hqq.2.1) ?_
        rintro _ _ K3 ⟨rfl, rfl, hR3, hf3⟩
        have hT3 : Tho I K3 := ((hT.be).fr hf2).fr hf3
        have hKp3 : Kp N (q_go (-1) n (q_outL N (k / 2) (irem (nI k) 2) n).1 hn0).1 := (out_kp hn).tr (go_kp hn (out_1n hn hN) hn0)
        refine A_pop rfl dX7_advocate_73 ?_
        refine A_aload_n rfl dX7_advocate_74 ?_
        refine A_getR fr_X7_35.g rfl lay_0 rfl dX7_advocate_75 ?_
        refine A_callV (s_vo l G 52 j52 K3 _ T hR3 (go_kn hn (out_1n hn hN) (out_keep (by omega) hK n hn) hn0) (hTx.kp hKp3) ((hT3.lw hTx.1 hLw).kp hKp3) (hDo.kp hKp3) n hn (go_1 hn (out_1n hn hN) hn0)) m_X0_votes ml_X7_163 rfl (lj j52) rfl (by decide) rfl rfl (Nat.le_of_ble_eq_true rfl) (by decide) (by decide) (by decide) dX7_advocate_78 (fun _ _ _ h => congrArg List.length h.2.1) ?_
        rintro _ _ K4 ⟨rfl, rfl, hf4⟩
        refine A_istore (by decide) rfl dX7_advocate_81 ?_
        refine A_iload rfl dX7_advocate_83 ?_
        refine A_iload rfl dX7_advocate_85 ?_
        refine A_icmp_le 97 rfl dX7_advocate_87 (fun cq87 => ?_) (fun cq87 => ?_)
        · skip
          refine A_iinc ic_1 rfl (by decide) rfl dX7_advocate_97 ?_
          refine A_goto 30 rfl dX7_advocate_100 ?_
          refine AW_L (by rw [nI_1 k]) ?_
          refine ih (16 - (k + 1)) (by omega) hn0 (k + 1) _ _ _ _ rfl rfl hh1 hok (by omega) ?_ (hT3.st hf4)
          first
            | (have h7 : q_ad N n hn0 k ≤ s4 := cq87; rw [arg_p (by rw [← hs4]; exact h7)]; exact hs)
            | (have h7 : ¬ q_ad N n hn0 k ≤ s4 := cq87; rw [arg_n (by rw [← hs4]; exact h7)]; rfl)
        · skip
          refine A_iload rfl dX7_advocate_90 ?_
          refine A_istore (by decide) rfl dX7_advocate_92 ?_
          refine A_iload rfl dX7_advocate_94 ?_
          refine A_istore_n (by decide) rfl dX7_advocate_96 ?_
          refine A_iinc ic_1 rfl (by decide) rfl dX7_advocate_97 ?_
          refine A_goto 30 rfl dX7_advocate_100 ?_
          refine AW_L (by rw [nI_1 k]) ?_
          refine ih (16 - (k + 1)) (by omega) hn0 (k + 1) _ _ _ _ rfl rfl hh1 hok (by omega) ?_ (hT3.st hf4)
          first
            | (have h7 : q_ad N n hn0 k ≤ s4 := cq87; rw [arg_p (by rw [← hs4]; exact h7)]; exact hs)
            | (have h7 : ¬ q_ad N n hn0 k ≤ s4 := cq87; rw [arg_n (by rw [← hs4]; exact h7)]; rfl)
  refine Meth.of (by decide +kernel) (by simp [Value.category]) (Nat.le_of_ble_eq_true rfl) ?_
  refine A_iload_n rfl dX7_advocate_0 ?_
  refine A_iconst ic_0 dX7_advocate_1 ?_
  refine A_bipush bp_60 dX7_advocate_2 ?_
  refine A_callS (s_within l G _ _ _ _ _) m_X7_within ml_X7_56 rfl rfl rfl (Nat.le_of_ble_eq_true rfl) (by decide) (by decide) (by decide) dX7_advocate_4 (fun _ _ _ h => congrArg List.length h.2.1) ?_
  rintro _ _ _ ⟨rfl, rfl, e9⟩
  refine AW_I e9 ?_
  clear e9
  refine A_if_eq 19 rfl dX7_advocate_7 (fun cq7 => ?_) (fun cq7 => ?_)
  · skip
    refine A_ldc kc_X7_60 rfl dX7_advocate_19 ?_
    refine A_iret rfl rfl rfl rfl dX7_advocate_21 ?_
    have hno : ¬ ((0 ≤ h ∧ h ≤ 60) ∧ (0 ≤ w ∧ w ≤ 1)) := by
      first
        | (have h7 := b2i_q.mp cq7; exact fun h9 => h7 h9.1)
        | (have h7 := b2i_q.mp cq16; exact fun h9 => h7 h9.2)
    rw [f_adv, if_neg hno]
    exact ⟨rfl, rfl, Tho.rf I⟩
  · skip
    refine A_iload_n rfl dX7_advocate_10 ?_
    refine A_iconst ic_0 dX7_advocate_11 ?_
    refine A_iconst ic_1 dX7_advocate_12 ?_
    refine A_callS (s_within l G _ _ _ _ _) m_X7_within ml_X7_56 rfl rfl rfl (Nat.le_of_ble_eq_true rfl) (by decide) (by decide) (by decide) dX7_advocate_13 (fun _ _ _ h => congrArg List.length h.2.1) ?_
    rintro _ _ _ ⟨rfl, rfl, e9⟩
    refine AW_I e9 ?_
    clear e9
    refine A_if_ne 22 rfl dX7_advocate_16 (fun cq16 => ?_) (fun cq16 => ?_)
    · skip
      have hok : (0 ≤ h ∧ h ≤ 60) ∧ (0 ≤ w ∧ w ≤ 1) := ⟨b2i_p.mp cq7, b2i_p.mp cq16⟩
      obtain ⟨hn0, hh1, hh0⟩ := in_get (a := 60) rfl hok.1
      refine A_iconst ic_0 dX7_advocate_22 ?_
      refine A_istore_n (by decide) rfl dX7_advocate_23 ?_
      refine A_iconst ic_m1 dX7_advocate_24 ?_
      refine A_istore (by decide) rfl dX7_advocate_25 ?_
      refine A_iconst ic_0 dX7_advocate_27 ?_
      refine A_istore (by decide) rfl dX7_advocate_28 ?_
      exact loop 16 hn0 0 _ _ _ _ rfl hh0 hh1 hok (by omega) rfl (Tho.rf I)
    · skip
      refine A_ldc kc_X7_60 rfl dX7_advocate_19 ?_
      refine A_iret rfl rfl rfl rfl dX7_advocate_21 ?_
      have hno : ¬ ((0 ≤ h ∧ h ≤ 60) ∧ (0 ≤ w ∧ w ≤ 1)) := by
        first
          | (have h7 := b2i_q.mp cq7; exact fun h9 => h7 h9.1)
          | (have h7 := b2i_q.mp cq16; exact fun h9 => h7 h9.2)
      rw [f_adv, if_neg hno]
      exact ⟨rfl, rfl, Tho.rf I⟩
set_option maxHeartbeats 1000000 in
set_option maxRecDepth 100000 in
theorem m_advocate (l : Launch) (G : Gm) (I : Hp) (N : Nrow) (h87 : I 87 = N) (n : Nat) (hn : n ≤ 10) (hN : N 1 = nI n) (T : Nat) (hTx : TxJ N T) (hsil : I 86 4 = -1) (h w : Int32) : Meth l G yX8_advocate cX8_advocate 8 (some (FieldType.int)) 7 0 0 [.ref 86, .int h, .int w] LAY I (fun r lay1 I1 => r = some (.int (f_adv N n h w)) ∧ lay1 = LAY ∧ ∀ q, q ≠ 90 → q ≠ 97 → q ≠ 98 → I1 q = I q) := by
  subst h87
  have loop : ∀ (lpn : Nat) (hn0 k : Nat) (s3 s4 : Int32) (o6 o7 : Option Value) (K : Hp), 16 - k = lpn → (h = nI hn0) → (hn0 ≤ 60) → ((0 ≤ h ∧ h ≤ 60) ∧ (0 ≤ w ∧ w ≤ 1)) → (k ≤ 16) → (Arg2 (q_ad (I 87) n hn0) k s3 s4) → (Mind I K) → (K 87 = I 87) → (K 86 = I 86) → AW l G yX8_advocate cX8_advocate 8 (some (FieldType.int)) 7 0 0 (fun r lay1 I1 => r = some (.int (f_adv (I 87) n h w)) ∧ lay1 = LAY ∧ ∀ q, q ≠ 90 → q ≠ 97 → q ≠ 98 → I1 q = I q) 0 0 34 [some (.ref 86), some (.int h), some (.int w), some (.int s3), some (.int s4), some (.int (nI k)), o6, o7] [] LAY K := by
    intro lpn
    induction lpn using Nat.strongRecOn with
    | _ lpn ih =>
      intro hn0 k s3 s4 o6 o7 K hms hh0 hh1 hok hk hs hMi hK7 hK6
      subst hh0
      have H0 : ¬ q_ad (I 87) n hn0 0 ≤ -1 := ad_0 _ _ _ _ hn
      refine A_iload rfl dX8_advocate_34 ?_
      refine A_bipush bp_16 dX8_advocate_36 ?_
      refine A_icmp_ge 98 rfl dX8_advocate_38 (fun cq38 => ?_) (fun cq38 => ?_)
      · skip
        have hkn : k = 16 := by
          have hq1 := (le_nI (show (16 : Int32) = nI 16 from rfl) (rfl : nI k = nI k) (by omega) (by omega)).mp cq38
          omega
        subst hkn
        have hs1 : (s3, s4) = q_arg (q_ad (I 87) n hn0) 16 := hs.elim (fun q => absurd q.1 (by decide)) (fun q => q.2)
        have hs4 := congrArg Prod.snd hs1
        have hs3 := congrArg Prod.fst hs1
        dsimp only at hs3 hs4
        refine A_iload_n rfl dX8_advocate_98 ?_
        refine A_if_ne 106 rfl dX8_advocate_99 (fun cq99 => ?_) (fun cq99 => ?_)
        · skip
          refine A_iload rfl dX8_advocate_106 ?_
          refine A_iret rfl rfl rfl rfl dX8_advocate_108 ?_
          rw [f_adv, if_pos hok, nI_clamp (by omega)]
          first
            | (have h7 : w = 0 := cq99; rw [if_pos h7]; exact ⟨by rw [hs3], rfl, hMi.end_ hK7 hK6⟩)
            | (have h7 : ¬ w = 0 := cq99; rw [if_neg h7]; exact ⟨by rw [hs4], rfl, hMi.end_ hK7 hK6⟩)
        · skip
          refine A_iload_n rfl dX8_advocate_102 ?_
          refine A_goto 108 rfl dX8_advocate_103 ?_
          refine A_iret rfl rfl rfl rfl dX8_advocate_108 ?_
          rw [f_adv, if_pos hok, nI_clamp (by omega)]
          first
            | (have h7 : w = 0 := cq99; rw [if_pos h7]; exact ⟨by rw [hs3], rfl, hMi.end_ hK7 hK6⟩)
            | (have h7 : ¬ w = 0 := cq99; rw [if_neg h7]; exact ⟨by rw [hs4], rfl, hMi.end_ hK7 hK6⟩)
      · skip
        have hkn : k < 16 := by
          have hq1 := mt (le_nI (show (16 : Int32) = nI 16 from rfl) (rfl : nI k = nI k) (by omega) (by omega)).mpr cq38
          omega
        refine A_aload_n rfl dX8_advocate_41 ?_
        refine A_iload rfl dX8_advocate_42 ?_
        refine A_iconst ic_2 dX8_advocate_44 ?_
        refine A_idiv dX8_advocate_45 (by decide) ?_
        rw [half k (by omega)]
        refine A_iload rfl dX8_advocate_46 ?_
        refine A_iconst ic_2 dX8_advocate_48 ?_
        refine A_irem dX8_advocate_49 (by decide) ?_
        refine A_callV (t_out l G _ (I 87) hK7 n hn hN (k / 2) (irem (nI k) 2)) m_X8_comesOut ml_X8_153 rfl lay_86 rfl (by decide) rfl rfl (Nat.le_of_ble_eq_true rfl) (by decide) (by decide) (by decide) dX8_advocate_50 (fun _ _ _ h => congrArg List.length h.2.1) ?_
        rintro _ _ _ ⟨rfl, rfl, e9⟩
        refine AW_I e9 ?_
        clear e9
        refine A_istore (by decide) rfl dX8_advocate_53 ?_
        refine A_aload_n rfl dX8_advocate_55 ?_
        refine A_iload_n rfl dX8_advocate_56 ?_
        refine A_callV (t_vb l G I _ _ setN_87 n hn (out_1n hn hN) T (hTx.kp (out_kp hn)) (hMi.setN (fun m hm => out_kp hn m (kp_67 hm))) (out_kp hn) hsil (-1) (by rw [setN_ne (by decide), hK6]; exact hsil) hn0 (by omega)) m_X8_votesBehind ml_X8_189 rfl lay_86 rfl (by decide) rfl rfl (Nat.le_of_ble_eq_true rfl) (by decide) (by decide) (by decide) dX8_advocate_57 (fun _ _ _ hqq => congrArg List.length hqq.2.1) ?_
        rintro _ _ K2 ⟨rfl, rfl, hM2, hK72, hK62⟩
        refine A_istore (by decide) rfl dX8_advocate_60 ?_
        refine A_iload rfl dX8_advocate_62 ?_
        refine A_iload rfl dX8_advocate_64 ?_
        refine A_icmp_le 74 rfl dX8_advocate_66 (fun cq66 => ?_) (fun cq66 => ?_)
        · skip
          refine A_iload_n rfl dX8_advocate_74 ?_
          refine A_istore_n (by decide) rfl dX8_advocate_75 ?_
          refine A_iload rfl dX8_advocate_76 ?_
          refine A_iload rfl dX8_advocate_78 ?_
          refine A_icmp_le 88 rfl dX8_advocate_80 (fun cq80 => ?_) (fun cq80 => ?_)
          · skip
            refine A_iload rfl dX8_advocate_88 ?_
            refine A_istore (by decide) rfl dX8_advocate_90 ?_
            refine A_iinc ic_1 rfl (by decide) rfl dX8_advocate_92 ?_
            refine A_goto 34 rfl dX8_advocate_95 ?_
            refine AW_L (by rw [nI_1 k]) ?_
            refine ih (16 - (k + 1)) (by omega) hn0 (k + 1) _ _ _ _ _ rfl rfl hh1 hok (by omega) ?_ hM2 hK72 hK62
            first
              | exact absurd cq66 cq80
              | exact absurd cq80 cq66
              | (have h7 : q_ad (I 87) n hn0 k ≤ s4 := cq66; exact hs.p H0 h7)
              | (have h7 : ¬ q_ad (I 87) n hn0 k ≤ s4 := cq66; exact hs.n H0 h7)
          · skip
            refine A_iload rfl dX8_advocate_83 ?_
            refine A_goto 90 rfl dX8_advocate_85 ?_
            refine A_istore (by decide) rfl dX8_advocate_90 ?_
            refine A_iinc ic_1 rfl (by decide) rfl dX8_advocate_92 ?_
            refine A_goto 34 rfl dX8_advocate_95 ?_
            refine AW_L (by rw [nI_1 k]) ?_
            refine ih (16 - (k + 1)) (by omega) hn0 (k + 1) _ _ _ _ _ rfl rfl hh1 hok (by omega) ?_ hM2 hK72 hK62
            first
              | exact absurd cq66 cq80
              | exact absurd cq80 cq66
              | (have h7 : q_ad (I 87) n hn0 k ≤ s4 := cq66; exact hs.p H0 h7)
              | (have h7 : ¬ q_ad (I 87) n hn0 k ≤ s4 := cq66; exact hs.n H0 h7)
        · skip
          refine A_iload rfl dX8_advocate_69 ?_
          refine A_goto 75 rfl dX8_advocate_71 ?_
          refine A_istore_n (by decide) rfl dX8_advocate_75 ?_
          refine A_iload rfl dX8_advocate_76 ?_
          refine A_iload rfl dX8_advocate_78 ?_
          refine A_icmp_le 88 rfl dX8_advocate_80 (fun cq80 => ?_) (fun cq80 => ?_)
          · skip
            refine A_iload rfl dX8_advocate_88 ?_
            refine A_istore (by decide) rfl dX8_advocate_90 ?_
            refine A_iinc ic_1 rfl (by decide) rfl dX8_advocate_92 ?_
            refine A_goto 34 rfl dX8_advocate_95 ?_
            refine AW_L (by rw [nI_1 k]) ?_
            refine ih (16 - (k + 1)) (by omega) hn0 (k + 1) _ _ _ _ _ rfl rfl hh1 hok (by omega) ?_ hM2 hK72 hK62
            first
              | exact absurd cq66 cq80
              | exact absurd cq80 cq66
              | (have h7 : q_ad (I 87) n hn0 k ≤ s4 := cq66; exact hs.p H0 h7)
              | (have h7 : ¬ q_ad (I 87) n hn0 k ≤ s4 := cq66; exact hs.n H0 h7)
          · skip
            refine A_iload rfl dX8_advocate_83 ?_
            refine A_goto 90 rfl dX8_advocate_85 ?_
            refine A_istore (by decide) rfl dX8_advocate_90 ?_
            refine A_iinc ic_1 rfl (by decide) rfl dX8_advocate_92 ?_
            refine A_goto 34 rfl dX8_advocate_95 ?_
            refine AW_L (by rw [nI_1 k]) ?_
            refine ih (16 - (k + 1)) (by omega) hn0 (k + 1) _ _ _ _ _ rfl rfl hh1 hok (by omega) ?_ hM2 hK72 hK62
            first
              | exact absurd cq66 cq80
              | exact absurd cq80 cq66
              | (have h7 : q_ad (I 87) n hn0 k ≤ s4 := cq66; exact hs.p H0 h7)
              | (have h7 : ¬ q_ad (I 87) n hn0 k ≤ s4 := cq66; exact hs.n H0 h7)
  refine Meth.of (by decide +kernel) (by simp [Value.category]) (Nat.le_of_ble_eq_true rfl) ?_
  refine A_iload_n rfl dX8_advocate_0 ?_
  refine A_iconst ic_0 dX8_advocate_1 ?_
  refine A_bipush bp_60 dX8_advocate_2 ?_
  refine A_callS (s_in l G _ _ _ _ _) m_X8_in ml_X8_80 rfl rfl rfl (Nat.le_of_ble_eq_true rfl) (by decide) (by decide) (by decide) dX8_advocate_4 (fun _ _ _ h => congrArg List.length h.2.1) ?_
  rintro _ _ _ ⟨rfl, rfl, e9⟩
  refine AW_I e9 ?_
  clear e9
  refine A_if_eq 19 rfl dX8_advocate_7 (fun cq7 => ?_) (fun cq7 => ?_)
  · skip
    refine A_ldc kc_X8_88 rfl dX8_advocate_19 ?_
    refine A_iret rfl rfl rfl rfl dX8_advocate_21 ?_
    have hno : ¬ ((0 ≤ h ∧ h ≤ 60) ∧ (0 ≤ w ∧ w ≤ 1)) := by
      first
        | (have h7 := b2i_q.mp cq7; exact fun h9 => h7 h9.1)
        | (have h7 := b2i_q.mp cq16; exact fun h9 => h7 h9.2)
    rw [f_adv, if_neg hno]
    exact ⟨rfl, rfl, fun _ _ _ _ => rfl⟩
  · skip
    refine A_iload_n rfl dX8_advocate_10 ?_
    refine A_iconst ic_0 dX8_advocate_11 ?_
    refine A_iconst ic_1 dX8_advocate_12 ?_
    refine A_callS (s_in l G _ _ _ _ _) m_X8_in ml_X8_80 rfl rfl rfl (Nat.le_of_ble_eq_true rfl) (by decide) (by decide) (by decide) dX8_advocate_13 (fun _ _ _ h => congrArg List.length h.2.1) ?_
    rintro _ _ _ ⟨rfl, rfl, e9⟩
    refine AW_I e9 ?_
    clear e9
    refine A_if_ne 22 rfl dX8_advocate_16 (fun cq16 => ?_) (fun cq16 => ?_)
    · skip
      have hok : (0 ≤ h ∧ h ≤ 60) ∧ (0 ≤ w ∧ w ≤ 1) := ⟨b2i_p.mp cq7, b2i_p.mp cq16⟩
      obtain ⟨hn0, hh1, hh0⟩ := in_get (a := 60) rfl hok.1
      refine A_aload_n rfl dX8_advocate_22 ?_
      refine A_callV (t_thinks l G I) m_X8_thinks ml_X8_177 rfl lay_86 rfl (by decide) rfl rfl (Nat.le_of_ble_eq_true rfl) (by decide) (by decide) (by decide) dX8_advocate_23 (fun _ _ _ h => congrArg List.length h.2.1) ?_
      rintro _ _ _ ⟨rfl, rfl, e9⟩
      refine AW_I e9 ?_
      clear e9
      refine A_iconst ic_m1 dX8_advocate_26 ?_
      refine A_istore_n (by decide) rfl dX8_advocate_27 ?_
      refine A_iconst ic_m1 dX8_advocate_28 ?_
      refine A_istore (by decide) rfl dX8_advocate_29 ?_
      refine A_iconst ic_0 dX8_advocate_31 ?_
      refine A_istore (by decide) rfl dX8_advocate_32 ?_
      exact loop 16 hn0 0 _ _ _ _ _ rfl hh0 hh1 hok (by omega) (Or.inl ⟨rfl, rfl, rfl⟩) Mind.st (setR_n (by decide)) (setR_n (by decide))
    · skip
      refine A_ldc kc_X8_88 rfl dX8_advocate_19 ?_
      refine A_iret rfl rfl rfl rfl dX8_advocate_21 ?_
      have hno : ¬ ((0 ≤ h ∧ h ≤ 60) ∧ (0 ≤ w ∧ w ≤ 1)) := by
        first
          | (have h7 := b2i_q.mp cq7; exact fun h9 => h7 h9.1)
          | (have h7 := b2i_q.mp cq16; exact fun h9 => h7 h9.2)
      rw [f_adv, if_neg hno]
      exact ⟨rfl, rfl, fun _ _ _ _ => rfl⟩
