def CkM (I J : Hp) : Prop := J 86 33 = 0 ∧ (∀ j, j ≠ 33 → J 86 j = I 86 j) ∧ (∀ i, i < 1438 → J 89 i = I 87 i) ∧ (∀ i, 1438 ≤ i → J 87 i = I 87 i) ∧ ∀ q, q ≠ 86 → q ≠ 87 → q ≠ 89 → q ≠ 97 → q ≠ 98 → J q = I q
theorem CkM.hour {I J : Hp} {M : Nrow} (h : CkM I J) (hM : ∀ i, 1438 ≤ i → M i = J 87 i) : CkM I (setN J M) := ⟨by rw [setN_ne (by decide)]; exact h.1, fun j hj => by rw [setN_ne (by decide)]; exact h.2.1 j hj, fun i hi => by rw [setN_ne (by decide)]; exact h.2.2.1 i hi, fun i hi => by rw [setN_87, hM i hi]; exact h.2.2.2.1 i hi, fun q a b c d e => by rw [setN_ne b]; exact h.2.2.2.2 q a b c d e⟩
theorem CkM.vo {I J K : Hp} (h : CkM I J) (k : ∀ q, q ≠ 97 → q ≠ 98 → K q = J q) : CkM I K := ⟨by rw [k 86 (by decide) (by decide)]; exact h.1, fun j hj => by rw [k 86 (by decide) (by decide)]; exact h.2.1 j hj, fun i hi => by rw [k 89 (by decide) (by decide)]; exact h.2.2.1 i hi, fun i hi => by rw [k 87 (by decide) (by decide)]; exact h.2.2.2.1 i hi, fun q a b c d e => by rw [k q d e]; exact h.2.2.2.2 q a b c d e⟩
theorem nI_p0 (a : Nat) : nI a + 0 = nI a := by rw [show (0 : Int32) = nI 0 from rfl, nI_add, Nat.add_zero]
theorem nI_2k (k : Nat) : (2 : Int32) * nI k = nI (2 * k) := by rw [show (2 : Int32) = nI 2 from rfl, pk_mul]
set_option maxHeartbeats 1000000 in
set_option maxRecDepth 100000 in
theorem m_check (l : Launch) (G : Gm) (I : Hp) (n hh T s : Nat) (hn : n ≤ 10) (hh1 : hh ≤ 9999) (hs : s ≤ 60) (hs0 : I 86 33 = nI s) (hsil : I 86 4 = -1) (hz : ∀ i, 1438 ≤ i → I 87 i = 0 ∧ I 88 i = 0) (hkp : ¬ I 86 3 = 0 → I 88 1 = nI n ∧ I 88 2 = nI hh ∧ TxJ (I 88) T) (x : Int32) : Meth l G yX8_check cX8_check 7 (some (FieldType.int)) 6 0 0 [.ref 86, .int x] LAY I (fun r lay1 I1 => r = some (.int (f_check (I 107) s (I 86 3) (I 88) n hh x)) ∧ lay1 = LAY ∧ I1 86 33 = 0 ∧ (∀ j, j ≠ 33 → I1 86 j = I 86 j) ∧ ∀ q, q ≠ 86 → q ≠ 89 → q ≠ 97 → q ≠ 98 → I1 q = I q) := by
  have j180 : ∀ (lpn : Nat) (m rt k : Nat) (K : Hp) (o6 : Option Value), m = lpn → (m ≤ 30) → (rt = (q_ck (I 107) s n m 0 (I 88))) → (rt ≤ 100) → (f_check (I 107) s (I 86 3) (I 88) n hh x = if (q_ck (I 107) s n m 0 (I 88)) = s ∧ (q_ck (I 107) s n m 0 (I 88)) = 2 * m then 0 else nI (1 + (q_ck (I 107) s n m 0 (I 88)))) → (CkM I K) → AW l G yX8_check cX8_check 7 (some (FieldType.int)) 6 0 0 (fun r lay1 I1 => r = some (.int (f_check (I 107) s (I 86 3) (I 88) n hh x)) ∧ lay1 = LAY ∧ I1 86 33 = 0 ∧ (∀ j, j ≠ 33 → I1 86 j = I 86 j) ∧ ∀ q, q ≠ 86 → q ≠ 89 → q ≠ 97 → q ≠ 98 → I1 q = I q) 0 0 180 [some (.ref 86), some (.int x), some (.int (nI s)), some (.int (nI (2 * m))), some (.int (nI rt)), some (.int (nI k)), o6] [] LAY K := by
    intro lpn
    induction lpn using Nat.strongRecOn with
    | _ lpn ih =>
      intro m rt k K o6 hms hm hrt hb heg hC
      refine A_aload_n rfl dX8_check_180 ?_
      refine A_getR fr_X8_16.g rfl lay_86 rfl dX8_check_181 ?_
      refine A_aload_n rfl dX8_check_184 ?_
      refine A_getR fr_X8_9.g rfl lay_86 rfl dX8_check_185 ?_
      refine A_callS (t_copyAll l G K 89 87 lay_89 lay_87 (by decide)) m_X8_copyAll ml_X8_283 rfl rfl rfl (Nat.le_of_ble_eq_true rfl) (by decide) (by decide) (by decide) dX8_check_188 (fun _ _ _ h => congrArg List.length h.2.1) ?_
      rintro _ _ _ ⟨rfl, rfl, e9⟩
      refine AW_I e9 ?_
      clear e9
      refine A_iload rfl dX8_check_191 ?_
      refine A_iload_n rfl dX8_check_193 ?_
      refine A_icmp_ne 207 rfl dX8_check_194 (fun cq194 => ?_) (fun cq194 => ?_)
      · skip
        refine A_iconst ic_1 dX8_check_207 ?_
        refine A_iload rfl dX8_check_208 ?_
        refine A_iadd dX8_check_210 ?_
        refine A_iret rfl rfl rfl rfl dX8_check_211 ?_
        have h87 : (setR K 87 (cpN (K 89) (K 87) 1438)) 87 = I 87 := by
          rw [setR_s]
          funext i
          unfold cpN
          split
          · exact hC.2.2.1 i (by assumption)
          · exact hC.2.2.2.1 i (by omega)
        refine ⟨?_, rfl, by rw [setR_n (by decide)]; exact hC.1, fun j hj => by rw [setR_n (by decide)]; exact hC.2.1 j hj, fun q a b c d => ?_⟩
        · rw [heg, ← hrt]
          first
            | (have h7 : ¬ nI rt = nI s := cq194; rw [if_neg (fun q => h7 (by rw [q.1])), show (1 : Int32) + nI rt = nI (1 + rt) by rw [show (1 : Int32) = nI 1 from rfl, nI_add]])
            | (have h7 : ¬ nI rt = nI (2 * m) := cq200; rw [if_neg (fun q => h7 (by rw [q.2])), show (1 : Int32) + nI rt = nI (1 + rt) by rw [show (1 : Int32) = nI 1 from rfl, nI_add]])
            | (have h7 : nI rt = nI s := cq194; have h6 : nI rt = nI (2 * m) := cq200; rw [if_pos ⟨(nI_eq (by omega) (by omega)).mp h7, (nI_eq (by omega) (by omega)).mp h6⟩])
        · by_cases e : q = 87
          · subst e; exact h87
          · rw [setR_n e]; exact hC.2.2.2.2 q a e b c d
      · skip
        refine A_iload rfl dX8_check_197 ?_
        refine A_iload_n rfl dX8_check_199 ?_
        refine A_icmp_ne 207 rfl dX8_check_200 (fun cq200 => ?_) (fun cq200 => ?_)
        · skip
          refine A_iconst ic_1 dX8_check_207 ?_
          refine A_iload rfl dX8_check_208 ?_
          refine A_iadd dX8_check_210 ?_
          refine A_iret rfl rfl rfl rfl dX8_check_211 ?_
          have h87 : (setR K 87 (cpN (K 89) (K 87) 1438)) 87 = I 87 := by
            rw [setR_s]
            funext i
            unfold cpN
            split
            · exact hC.2.2.1 i (by assumption)
            · exact hC.2.2.2.1 i (by omega)
          refine ⟨?_, rfl, by rw [setR_n (by decide)]; exact hC.1, fun j hj => by rw [setR_n (by decide)]; exact hC.2.1 j hj, fun q a b c d => ?_⟩
          · rw [heg, ← hrt]
            first
              | (have h7 : ¬ nI rt = nI s := cq194; rw [if_neg (fun q => h7 (by rw [q.1])), show (1 : Int32) + nI rt = nI (1 + rt) by rw [show (1 : Int32) = nI 1 from rfl, nI_add]])
              | (have h7 : ¬ nI rt = nI (2 * m) := cq200; rw [if_neg (fun q => h7 (by rw [q.2])), show (1 : Int32) + nI rt = nI (1 + rt) by rw [show (1 : Int32) = nI 1 from rfl, nI_add]])
              | (have h7 : nI rt = nI s := cq194; have h6 : nI rt = nI (2 * m) := cq200; rw [if_pos ⟨(nI_eq (by omega) (by omega)).mp h7, (nI_eq (by omega) (by omega)).mp h6⟩])
          · by_cases e : q = 87
            · subst e; exact h87
            · rw [setR_n e]; exact hC.2.2.2.2 q a e b c d
        · skip
          refine A_iconst ic_0 dX8_check_203 ?_
          refine A_goto 211 rfl dX8_check_204 ?_
          refine A_iret rfl rfl rfl rfl dX8_check_211 ?_
          have h87 : (setR K 87 (cpN (K 89) (K 87) 1438)) 87 = I 87 := by
            rw [setR_s]
            funext i
            unfold cpN
            split
            · exact hC.2.2.1 i (by assumption)
            · exact hC.2.2.2.1 i (by omega)
          refine ⟨?_, rfl, by rw [setR_n (by decide)]; exact hC.1, fun j hj => by rw [setR_n (by decide)]; exact hC.2.1 j hj, fun q a b c d => ?_⟩
          · rw [heg, ← hrt]
            first
              | (have h7 : ¬ nI rt = nI s := cq194; rw [if_neg (fun q => h7 (by rw [q.1])), show (1 : Int32) + nI rt = nI (1 + rt) by rw [show (1 : Int32) = nI 1 from rfl, nI_add]])
              | (have h7 : ¬ nI rt = nI (2 * m) := cq200; rw [if_neg (fun q => h7 (by rw [q.2])), show (1 : Int32) + nI rt = nI (1 + rt) by rw [show (1 : Int32) = nI 1 from rfl, nI_add]])
              | (have h7 : nI rt = nI s := cq194; have h6 : nI rt = nI (2 * m) := cq200; rw [if_pos ⟨(nI_eq (by omega) (by omega)).mp h7, (nI_eq (by omega) (by omega)).mp h6⟩])
          · by_cases e : q = 87
            · subst e; exact h87
            · rw [setR_n e]; exact hC.2.2.2.2 q a e b c d
  have j80s : ∀ (lpn : Nat) (m rt k : Nat) (K : Hp) (o6 : Option Value), m = lpn → (m ≤ 30) → (rt = (q_ck (I 107) s n m 0 (I 88))) → (rt < 2 * k) → (k ≤ 31) → (f_check (I 107) s (I 86 3) (I 88) n hh x = if (q_ck (I 107) s n m 0 (I 88)) = s ∧ (q_ck (I 107) s n m 0 (I 88)) = 2 * m then 0 else nI (1 + (q_ck (I 107) s n m 0 (I 88)))) → (CkM I K) → AW l G yX8_check cX8_check 7 (some (FieldType.int)) 6 0 0 (fun r lay1 I1 => r = some (.int (f_check (I 107) s (I 86 3) (I 88) n hh x)) ∧ lay1 = LAY ∧ I1 86 33 = 0 ∧ (∀ j, j ≠ 33 → I1 86 j = I 86 j) ∧ ∀ q, q ≠ 86 → q ≠ 89 → q ≠ 97 → q ≠ 98 → I1 q = I q) 0 0 80 [some (.ref 86), some (.int x), some (.int (nI s)), some (.int (nI (2 * m))), some (.int (nI rt)), some (.int (nI k)), o6] [] LAY K := by
    intro lpn
    induction lpn using Nat.strongRecOn with
    | _ lpn ih =>
      intro m rt k K o6 hms hm hrt hk hk2 heg hC
      refine A_iconst ic_2 dX8_check_80 ?_
      refine A_iload rfl dX8_check_81 ?_
      refine A_imul dX8_check_83 ?_
      rw [nI_2k]
      refine A_iload_n rfl dX8_check_84 ?_
      refine A_icmp_ge 180 rfl dX8_check_85 (fun cq85 => ?_) (fun cq85 => ?_)
      · skip
        exact j180 _ m rt k K _ rfl hm hrt (by omega) heg hC
      · skip
        refine A_iload rfl dX8_check_88 ?_
        refine A_iconst ic_2 dX8_check_90 ?_
        refine A_iload rfl dX8_check_91 ?_
        refine A_imul dX8_check_93 ?_
        rw [nI_2k]
        refine A_icmp_ne 180 rfl dX8_check_94 (fun cq94 => ?_) (fun cq94 => absurd cq94 (fun q => absurd ((nI_eq (by omega) (by omega)).mp q) (by omega)))
        exact j180 _ m rt k K _ rfl hm hrt (by omega) heg hC
  have loop : ∀ (lpn : Nat) (m k : Nat) (M : Nrow) (K : Hp) (o6 : Option Value), m - k = lpn → (m ≤ 30) → (k ≤ m) → (2 * k ≤ s) → (¬ I 86 3 = 0) → (K 87 = M) → (M 1 = nI n) → (Kp (I 88) M) → (q_ck (I 107) s n (m - k) k M = (q_ck (I 107) s n m 0 (I 88))) → (f_check (I 107) s (I 86 3) (I 88) n hh x = if (q_ck (I 107) s n m 0 (I 88)) = s ∧ (q_ck (I 107) s n m 0 (I 88)) = 2 * m then 0 else nI (1 + (q_ck (I 107) s n m 0 (I 88)))) → (CkM I K) → AW l G yX8_check cX8_check 7 (some (FieldType.int)) 6 0 0 (fun r lay1 I1 => r = some (.int (f_check (I 107) s (I 86 3) (I 88) n hh x)) ∧ lay1 = LAY ∧ I1 86 33 = 0 ∧ (∀ j, j ≠ 33 → I1 86 j = I 86 j) ∧ ∀ q, q ≠ 86 → q ≠ 89 → q ≠ 97 → q ≠ 98 → I1 q = I q) 0 0 80 [some (.ref 86), some (.int x), some (.int (nI s)), some (.int (nI (2 * m))), some (.int (nI (2 * k))), some (.int (nI k)), o6] [] LAY K := by
    intro lpn
    induction lpn using Nat.strongRecOn with
    | _ lpn ih =>
      intro m k M K o6 hms hm hk hks hkk h87 hM hKp hrec heg hC
      obtain ⟨hN1, hN2, hTx⟩ := hkp hkk
      have jA : ∀ (K2 : Hp) (o6 : Option Value), (CkM I K2) → (2 * k = (q_ck (I 107) s n m 0 (I 88))) → AW l G yX8_check cX8_check 7 (some (FieldType.int)) 6 0 0 (fun r lay1 I1 => r = some (.int (f_check (I 107) s (I 86 3) (I 88) n hh x)) ∧ lay1 = LAY ∧ I1 86 33 = 0 ∧ (∀ j, j ≠ 33 → I1 86 j = I 86 j) ∧ ∀ q, q ≠ 86 → q ≠ 89 → q ≠ 97 → q ≠ 98 → I1 q = I q) 0 0 133 [some (.ref 86), some (.int x), some (.int (nI s)), some (.int (nI (2 * m))), some (.int (nI (2 * k))), some (.int (nI k)), o6] [] LAY K2 := by
        intro K2 o6 hC2 hR
        refine A_iload rfl dX8_check_133 ?_
        refine A_iload rfl dX8_check_135 ?_
        refine A_iconst ic_2 dX8_check_137 ?_
        refine A_iload rfl dX8_check_138 ?_
        refine A_imul dX8_check_140 ?_
        rw [nI_2k]
        refine A_iconst ic_1 dX8_check_141 ?_
        refine A_iadd dX8_check_142 ?_
        rw [nI_1]
        refine A_icmp_ne 170 rfl dX8_check_143 (fun cq143 => ?_) (fun cq143 => absurd cq143 (fun q => absurd ((nI_eq (by omega) (by omega)).mp q) (by omega)))
        refine A_iconst ic_0 dX8_check_170 ?_
        refine A_iadd dX8_check_171 ?_
        rw [nI_p0]
        refine A_istore (by decide) rfl dX8_check_172 ?_
        refine A_iinc ic_1 rfl (by decide) rfl dX8_check_174 ?_
        refine A_goto 80 rfl dX8_check_177 ?_
        refine AW_L (by rw [nI_1]) ?_
        exact j80s _ m (2 * k) (k + 1) K2 _ rfl hm hR (by omega) (by omega) heg hC2
      have jB : ∀ (K2 : Hp) (o6 : Option Value), (CkM I K2) → (K2 87 = (q_hour (-1) M n).1) → (k < m) → ((q_hour (-1) M n).1 1 = nI n) → (Kp (I 88) (q_hour (-1) M n).1) → (TxJ (q_hour (-1) M n).1 T) → ((if 2 * k + 1 < s ∧ I 107 (2 * k + 1) = q_vo (q_hour (-1) M n).1 n then q_ck (I 107) s n (m - (k + 1)) (k + 1) (q_hour (-1) M n).1 else 2 * k + 1) = (q_ck (I 107) s n m 0 (I 88))) → AW l G yX8_check cX8_check 7 (some (FieldType.int)) 6 0 0 (fun r lay1 I1 => r = some (.int (f_check (I 107) s (I 86 3) (I 88) n hh x)) ∧ lay1 = LAY ∧ I1 86 33 = 0 ∧ (∀ j, j ≠ 33 → I1 86 j = I 86 j) ∧ ∀ q, q ≠ 86 → q ≠ 89 → q ≠ 97 → q ≠ 98 → I1 q = I q) 0 0 133 [some (.ref 86), some (.int x), some (.int (nI s)), some (.int (nI (2 * m))), some (.int (nI (2 * k + 1))), some (.int (nI k)), o6] [] LAY K2 := by
        intro K2 o6 hC2 h87b hkm hM2 hKp2 hTx2 hrec2
        have e107 : K2 107 = I 107 := hC2.2.2.2.2 107 (by decide) (by decide) (by decide) (by decide) (by decide)
        refine A_iload rfl dX8_check_133 ?_
        refine A_iload rfl dX8_check_135 ?_
        refine A_iconst ic_2 dX8_check_137 ?_
        refine A_iload rfl dX8_check_138 ?_
        refine A_imul dX8_check_140 ?_
        rw [nI_2k]
        refine A_iconst ic_1 dX8_check_141 ?_
        refine A_iadd dX8_check_142 ?_
        rw [nI_1]
        refine A_icmp_ne 170 rfl dX8_check_143 (fun cq143 => absurd (rfl) cq143) (fun cq143 => ?_)
        refine A_iload rfl dX8_check_146 ?_
        refine A_iload_n rfl dX8_check_148 ?_
        refine A_icmp_ge 170 rfl dX8_check_149 (fun cq149 => ?_) (fun cq149 => ?_)
        · skip
          refine A_iconst ic_0 dX8_check_170 ?_
          refine A_iadd dX8_check_171 ?_
          refine A_istore (by decide) rfl dX8_check_172 ?_
          refine A_iinc ic_1 rfl (by decide) rfl dX8_check_174 ?_
          refine A_goto 80 rfl dX8_check_177 ?_
          first
            | (have h7 : nI s ≤ nI (2 * k + 1) := cq149
               have h8 := (le_nI (rfl : nI s = nI s) (rfl : nI (2 * k + 1) = nI (2 * k + 1)) (by omega) (by omega)).mp h7
               rw [if_neg (by omega)] at hrec2
               refine AW_L (by rw [nI_1 k, nI_p0]) ?_
               exact j80s _ m (2 * k + 1) (k + 1) K2 _ rfl hm hrec2 (by omega) (by omega) heg hC2)
            | (have h7 : ¬ I 107 (2 * k + 1) = q_vo (q_hour (-1) M n).1 n := cq163
               rw [if_neg (fun q => h7 q.2)] at hrec2
               refine AW_L (by rw [nI_1 k, nI_p0]) ?_
               exact j80s _ m (2 * k + 1) (k + 1) K3 _ rfl hm hrec2 (by omega) (by omega) heg hC3)
            | (have h7 : I 107 (2 * k + 1) = q_vo (q_hour (-1) M n).1 n := cq163
               rw [if_pos ⟨hks, h7⟩] at hrec2
               refine AW_L (by rw [nI_1 k, nI_1 (2 * k + 1), show 2 * k + 1 + 1 = 2 * (k + 1) by omega]) ?_
               exact ih (m - (k + 1)) (by omega) m (k + 1) (q_hour (-1) M n).1 K3 _ rfl hm (by omega) (by omega) hkk ((hf3 87 (by decide) (by decide)).trans h87b) hM2 hKp2 hrec2 heg hC3)
        · skip
          have hks : 2 * k + 1 < s := by
            have hq1 := mt (le_nI (rfl : nI s = nI s) (rfl : nI (2 * k + 1) = nI (2 * k + 1)) (by omega) (by omega)).mpr cq149
            omega
          refine A_aload_n rfl dX8_check_152 ?_
          refine A_getR fr_X8_76.g rfl lay_86 rfl dX8_check_153 ?_
          refine A_iload rfl dX8_check_156 ?_
          refine A_iald (2 * k + 1) rfl lay_107 (by omega) (by decide) dX8_check_158 ?_
          rw [e107]
          refine A_aload_n rfl dX8_check_159 ?_
          refine A_callV (t_vo l G K2 _ h87b n hn hM2 T hTx2) m_X8_votes ml_X8_168 rfl lay_86 rfl (by decide) rfl rfl (Nat.le_of_ble_eq_true rfl) (by decide) (by decide) (by decide) dX8_check_160 (fun _ _ _ h => congrArg List.length h.2.1) ?_
          rintro _ _ K3 ⟨rfl, rfl, hf3⟩
          have hC3 := hC2.vo hf3
          refine A_icmp_ne 170 rfl dX8_check_163 (fun cq163 => ?_) (fun cq163 => ?_)
          · skip
            refine A_iconst ic_0 dX8_check_170 ?_
            refine A_iadd dX8_check_171 ?_
            refine A_istore (by decide) rfl dX8_check_172 ?_
            refine A_iinc ic_1 rfl (by decide) rfl dX8_check_174 ?_
            refine A_goto 80 rfl dX8_check_177 ?_
            first
              | (have h7 : nI s ≤ nI (2 * k + 1) := cq149
                 have h8 := (le_nI (rfl : nI s = nI s) (rfl : nI (2 * k + 1) = nI (2 * k + 1)) (by omega) (by omega)).mp h7
                 rw [if_neg (by omega)] at hrec2
                 refine AW_L (by rw [nI_1 k, nI_p0]) ?_
                 exact j80s _ m (2 * k + 1) (k + 1) K2 _ rfl hm hrec2 (by omega) (by omega) heg hC2)
              | (have h7 : ¬ I 107 (2 * k + 1) = q_vo (q_hour (-1) M n).1 n := cq163
                 rw [if_neg (fun q => h7 q.2)] at hrec2
                 refine AW_L (by rw [nI_1 k, nI_p0]) ?_
                 exact j80s _ m (2 * k + 1) (k + 1) K3 _ rfl hm hrec2 (by omega) (by omega) heg hC3)
              | (have h7 : I 107 (2 * k + 1) = q_vo (q_hour (-1) M n).1 n := cq163
                 rw [if_pos ⟨hks, h7⟩] at hrec2
                 refine AW_L (by rw [nI_1 k, nI_1 (2 * k + 1), show 2 * k + 1 + 1 = 2 * (k + 1) by omega]) ?_
                 exact ih (m - (k + 1)) (by omega) m (k + 1) (q_hour (-1) M n).1 K3 _ rfl hm (by omega) (by omega) hkk ((hf3 87 (by decide) (by decide)).trans h87b) hM2 hKp2 hrec2 heg hC3)
          · skip
            refine A_iconst ic_1 dX8_check_166 ?_
            refine A_goto 171 rfl dX8_check_167 ?_
            refine A_iadd dX8_check_171 ?_
            refine A_istore (by decide) rfl dX8_check_172 ?_
            refine A_iinc ic_1 rfl (by decide) rfl dX8_check_174 ?_
            refine A_goto 80 rfl dX8_check_177 ?_
            first
              | (have h7 : nI s ≤ nI (2 * k + 1) := cq149
                 have h8 := (le_nI (rfl : nI s = nI s) (rfl : nI (2 * k + 1) = nI (2 * k + 1)) (by omega) (by omega)).mp h7
                 rw [if_neg (by omega)] at hrec2
                 refine AW_L (by rw [nI_1 k, nI_p0]) ?_
                 exact j80s _ m (2 * k + 1) (k + 1) K2 _ rfl hm hrec2 (by omega) (by omega) heg hC2)
              | (have h7 : ¬ I 107 (2 * k + 1) = q_vo (q_hour (-1) M n).1 n := cq163
                 rw [if_neg (fun q => h7 q.2)] at hrec2
                 refine AW_L (by rw [nI_1 k, nI_p0]) ?_
                 exact j80s _ m (2 * k + 1) (k + 1) K3 _ rfl hm hrec2 (by omega) (by omega) heg hC3)
              | (have h7 : I 107 (2 * k + 1) = q_vo (q_hour (-1) M n).1 n := cq163
                 rw [if_pos ⟨hks, h7⟩] at hrec2
                 refine AW_L (by rw [nI_1 k, nI_1 (2 * k + 1), show 2 * k + 1 + 1 = 2 * (k + 1) by omega]) ?_
                 exact ih (m - (k + 1)) (by omega) m (k + 1) (q_hour (-1) M n).1 K3 _ rfl hm (by omega) (by omega) hkk ((hf3 87 (by decide) (by decide)).trans h87b) hM2 hKp2 hrec2 heg hC3)
      refine A_iconst ic_2 dX8_check_80 ?_
      refine A_iload rfl dX8_check_81 ?_
      refine A_imul dX8_check_83 ?_
      rw [nI_2k]
      refine A_iload_n rfl dX8_check_84 ?_
      refine A_icmp_ge 180 rfl dX8_check_85 (fun cq85 => ?_) (fun cq85 => ?_)
      · skip
        have hkm : k = m := by
          have hq1 := (le_nI (rfl : nI (2 * m) = nI (2 * m)) (rfl : nI (2 * k) = nI (2 * k)) (by omega) (by omega)).mp cq85
          omega
        rw [hkm, Nat.sub_self, q_ck] at hrec
        refine AW_L (by rw [hkm]) ?_
        exact j180 _ m (2 * m) m K _ rfl hm hrec (by omega) heg hC
      · skip
        have hkm : k < m := by
          have hq1 := mt (le_nI (rfl : nI (2 * m) = nI (2 * m)) (rfl : nI (2 * k) = nI (2 * k)) (by omega) (by omega)).mpr cq85
          omega
        refine A_iload rfl dX8_check_88 ?_
        refine A_iconst ic_2 dX8_check_90 ?_
        refine A_iload rfl dX8_check_91 ?_
        refine A_imul dX8_check_93 ?_
        rw [nI_2k]
        refine A_icmp_ne 180 rfl dX8_check_94 (fun cq94 => absurd (rfl) cq94) (fun cq94 => ?_)
        refine A_aload_n rfl dX8_check_97 ?_
        refine A_callV (t_hour l G K M h87 (-1) (by rw [hC.2.1 4 (by decide)]; exact hsil) n hn hM) m_X8_hour ml_X8_159 rfl lay_86 rfl (by decide) rfl rfl (Nat.le_of_ble_eq_true rfl) (by decide) (by decide) (by decide) dX8_check_98 (fun _ _ _ hqq => congrArg List.length hqq.2.1) ?_
        rintro _ _ _ ⟨rfl, rfl, e9⟩
        refine AW_I e9 ?_
        clear e9
        have hM2 := hour_1 (sil := -1) hn hM
        have hKp2 : Kp (I 88) (q_hour (-1) M n).1 := hKp.tr (hour_kp hn hM)
        have hC2 : CkM I (setN K (q_hour (-1) M n).1) := hC.hour (fun i hi => by rw [hour_kp (sil := -1) hn hM i (kp_67 (by omega)), h87])
        have e107 : (setN K (q_hour (-1) M n).1) 107 = I 107 := hC2.2.2.2.2 107 (by decide) (by decide) (by decide) (by decide) (by decide)
        obtain ⟨g, hg⟩ : ∃ g, m - k = g + 1 := ⟨m - k - 1, by omega⟩
        rw [hg, q_ck] at hrec
        refine A_istore (by decide) rfl dX8_check_101 ?_
        refine A_iload rfl dX8_check_103 ?_
        refine A_iload rfl dX8_check_105 ?_
        refine A_iload_n rfl dX8_check_107 ?_
        refine A_icmp_ge 129 rfl dX8_check_108 (fun cq108 => ?_) (fun cq108 => ?_)
        · skip
          refine A_iconst ic_0 dX8_check_129 ?_
          refine A_iadd dX8_check_130 ?_
          refine A_istore (by decide) rfl dX8_check_131 ?_
          first
            | (have h7 : nI s ≤ nI (2 * k) := cq108
               have h8 := (le_nI (rfl : nI s = nI s) (rfl : nI (2 * k) = nI (2 * k)) (by omega) (by omega)).mp h7
               rw [if_neg (by omega)] at hrec
               refine AW_L (by rw [nI_p0]) ?_
               exact jA _ _ hC2 hrec)
            | (have h7 : ¬ I 107 (2 * k) = q_kn (q_hour (-1) M n).1 n := cq122
               rw [if_neg (fun q => h7 q.2)] at hrec
               refine AW_L (by rw [nI_p0]) ?_
               exact jA _ _ hC2 hrec)
            | (have h7 : I 107 (2 * k) = q_kn (q_hour (-1) M n).1 n := cq122
               rw [if_pos ⟨hks2, h7⟩, show g = m - (k + 1) by omega] at hrec
               refine AW_L (by rw [nI_1 (2 * k)]) ?_
               exact jB _ _ hC2 setN_87 hkm hM2 hKp2 (hTx.kp hKp2) hrec)
        · skip
          have hks2 : 2 * k < s := by
            have hq1 := mt (le_nI (rfl : nI s = nI s) (rfl : nI (2 * k) = nI (2 * k)) (by omega) (by omega)).mpr cq108
            omega
          refine A_aload_n rfl dX8_check_111 ?_
          refine A_getR fr_X8_76.g rfl lay_86 rfl dX8_check_112 ?_
          refine A_iload rfl dX8_check_115 ?_
          refine A_iald (2 * k) rfl lay_107 (by omega) (by decide) dX8_check_117 ?_
          rw [e107]
          refine A_aload_n rfl dX8_check_118 ?_
          refine A_callV (t_kn l G (setN K (q_hour (-1) M n).1) _ setN_87 n hn hM2) m_X8_knownAll ml_X8_171 rfl lay_86 rfl (by decide) rfl rfl (Nat.le_of_ble_eq_true rfl) (by decide) (by decide) (by decide) dX8_check_119 (fun _ _ _ h => congrArg List.length h.2.1) ?_
          rintro _ _ _ ⟨rfl, rfl, e9⟩
          refine AW_I e9 ?_
          clear e9
          refine A_icmp_ne 129 rfl dX8_check_122 (fun cq122 => ?_) (fun cq122 => ?_)
          · skip
            refine A_iconst ic_0 dX8_check_129 ?_
            refine A_iadd dX8_check_130 ?_
            refine A_istore (by decide) rfl dX8_check_131 ?_
            first
              | (have h7 : nI s ≤ nI (2 * k) := cq108
                 have h8 := (le_nI (rfl : nI s = nI s) (rfl : nI (2 * k) = nI (2 * k)) (by omega) (by omega)).mp h7
                 rw [if_neg (by omega)] at hrec
                 refine AW_L (by rw [nI_p0]) ?_
                 exact jA _ _ hC2 hrec)
              | (have h7 : ¬ I 107 (2 * k) = q_kn (q_hour (-1) M n).1 n := cq122
                 rw [if_neg (fun q => h7 q.2)] at hrec
                 refine AW_L (by rw [nI_p0]) ?_
                 exact jA _ _ hC2 hrec)
              | (have h7 : I 107 (2 * k) = q_kn (q_hour (-1) M n).1 n := cq122
                 rw [if_pos ⟨hks2, h7⟩, show g = m - (k + 1) by omega] at hrec
                 refine AW_L (by rw [nI_1 (2 * k)]) ?_
                 exact jB _ _ hC2 setN_87 hkm hM2 hKp2 (hTx.kp hKp2) hrec)
          · skip
            refine A_iconst ic_1 dX8_check_125 ?_
            refine A_goto 130 rfl dX8_check_126 ?_
            refine A_iadd dX8_check_130 ?_
            refine A_istore (by decide) rfl dX8_check_131 ?_
            first
              | (have h7 : nI s ≤ nI (2 * k) := cq108
                 have h8 := (le_nI (rfl : nI s = nI s) (rfl : nI (2 * k) = nI (2 * k)) (by omega) (by omega)).mp h7
                 rw [if_neg (by omega)] at hrec
                 refine AW_L (by rw [nI_p0]) ?_
                 exact jA _ _ hC2 hrec)
              | (have h7 : ¬ I 107 (2 * k) = q_kn (q_hour (-1) M n).1 n := cq122
                 rw [if_neg (fun q => h7 q.2)] at hrec
                 refine AW_L (by rw [nI_p0]) ?_
                 exact jA _ _ hC2 hrec)
              | (have h7 : I 107 (2 * k) = q_kn (q_hour (-1) M n).1 n := cq122
                 rw [if_pos ⟨hks2, h7⟩, show g = m - (k + 1) by omega] at hrec
                 refine AW_L (by rw [nI_1 (2 * k)]) ?_
                 exact jB _ _ hC2 setN_87 hkm hM2 hKp2 (hTx.kp hKp2) hrec)
  refine Meth.of (by decide +kernel) (by simp [Value.category]) (Nat.le_of_ble_eq_true rfl) ?_
  refine A_aload_n rfl dX8_check_0 ?_
  refine A_getI fr_X8_276.g rfl lay_86 dX8_check_1 ?_
  rw [hs0]
  refine A_istore_n (by decide) rfl dX8_check_4 ?_
  refine A_aload_n rfl dX8_check_5 ?_
  refine A_iconst ic_0 dX8_check_6 ?_
  refine A_putI fr_X8_276 rfl lay_86 rfl rfl dX8_check_7 ?_
  refine A_iload_n rfl dX8_check_10 ?_
  refine A_iconst ic_1 dX8_check_11 ?_
  refine A_bipush bp_30 dX8_check_12 ?_
  refine A_callS (s_in l G _ _ _ _ _) m_X8_in ml_X8_80 rfl rfl rfl (Nat.le_of_ble_eq_true rfl) (by decide) (by decide) (by decide) dX8_check_14 (fun _ _ _ h => congrArg List.length h.2.1) ?_
  rintro _ _ _ ⟨rfl, rfl, e9⟩
  refine AW_I e9 ?_
  clear e9
  refine A_if_ne 23 rfl dX8_check_17 (fun cq17 => ?_) (fun cq17 => ?_)
  · skip
    refine A_aload_n rfl dX8_check_23 ?_
    refine A_getI fr_X8_279.g rfl lay_86 dX8_check_24 ?_
    rw [show (up2 I 86 33 0) 86 3 = I 86 3 from up2_ni (by decide)]
    refine A_if_ne 34 rfl dX8_check_27 (fun cq27 => ?_) (fun cq27 => ?_)
    · skip
      have hok := b2i_p.mp cq17
      obtain ⟨i, hi, rfl⟩ := in_get30 hok
      obtain ⟨hN1, hN2, hTx⟩ := hkp cq27
      have hlm := lim_le i hh
      have hrow : cpN (I 88) (I 87) 1438 = I 88 := by
        funext z
        unfold cpN
        split
        · rfl
        · rw [(hz z (by omega)).1, (hz z (by omega)).2]
      have h88 : (setR (up2 I 86 33 0) 89 (cpN ((up2 I 86 33 0) 87) ((up2 I 86 33 0) 89) 1438)) 88 = I 88 := by rw [setR_n (by decide), up2_ne (by decide)]
      have hB87 : (setR (up2 I 86 33 0) 89 (cpN ((up2 I 86 33 0) 87) ((up2 I 86 33 0) 89) 1438)) 87 = I 87 := by rw [setR_n (by decide), up2_ne (by decide)]
      refine A_aload_n rfl dX8_check_34 ?_
      refine A_getR fr_X8_9.g rfl lay_86 rfl dX8_check_35 ?_
      refine A_aload_n rfl dX8_check_38 ?_
      refine A_getR fr_X8_16.g rfl lay_86 rfl dX8_check_39 ?_
      refine A_callS (t_copyAll l G (up2 I 86 33 0) 87 89 lay_87 lay_89 (by decide)) m_X8_copyAll ml_X8_283 rfl rfl rfl (Nat.le_of_ble_eq_true rfl) (by decide) (by decide) (by decide) dX8_check_42 (fun _ _ _ h => congrArg List.length h.2.1) ?_
      rintro _ _ _ ⟨rfl, rfl, e9⟩
      refine AW_I e9 ?_
      clear e9
      refine A_aload_n rfl dX8_check_45 ?_
      refine A_getR fr_X8_13.g rfl lay_86 rfl dX8_check_46 ?_
      refine A_aload_n rfl dX8_check_49 ?_
      refine A_getR fr_X8_9.g rfl lay_86 rfl dX8_check_50 ?_
      refine A_callS (t_copyAll l G (setR (up2 I 86 33 0) 89 (cpN ((up2 I 86 33 0) 87) ((up2 I 86 33 0) 89) 1438)) 88 87 lay_88 lay_87 (by decide)) m_X8_copyAll ml_X8_283 rfl rfl rfl (Nat.le_of_ble_eq_true rfl) (by decide) (by decide) (by decide) dX8_check_53 (fun _ _ _ h => congrArg List.length h.2.1) ?_
      rintro _ _ _ ⟨rfl, rfl, e9⟩
      refine AW_I e9 ?_
      clear e9
      refine A_iconst ic_2 dX8_check_56 ?_
      refine A_sipush sp_9999 dX8_check_57 ?_
      refine A_aload_n rfl dX8_check_60 ?_
      refine A_getR fr_X8_9.g rfl lay_86 rfl dX8_check_61 ?_
      refine A_iconst ic_2 dX8_check_64 ?_
      refine A_iald 2 rfl lay_87 (by decide) (by decide) dX8_check_65 ?_
      rw [setR_s, h88, hB87, hrow, hN2]
      refine A_isub dX8_check_66 ?_
      rw [h9999 hh1]
      refine A_iconst ic_0 dX8_check_67 ?_
      refine A_iload_n rfl dX8_check_68 ?_
      refine A_callS (s_withinM l G _ _ _ _ _) m_X8_within ml_X8_111 rfl rfl rfl (Nat.le_of_ble_eq_true rfl) (by decide) (by decide) (by decide) dX8_check_69 (fun _ _ _ h => congrArg List.length h.2.1) ?_
      rintro _ _ _ ⟨rfl, rfl, e9⟩
      refine AW_I e9 ?_
      clear e9
      rw [show (if nI (9999 - hh) < 0 then (0 : Int32) else if nI i < nI (9999 - hh) then nI i else nI (9999 - hh)) = nI (q_lim i hh) by
        unfold q_lim
        rw [if_neg (nI_pos (by omega))]
        by_cases hlt : i < 9999 - hh
        · rw [if_pos ((nI_ltI (by omega) (by omega)).mpr hlt), if_pos hlt]
        · rw [if_neg (mt (nI_ltI (by omega) (by omega)).mp hlt), if_neg hlt]]
      refine A_imul dX8_check_72 ?_
      rw [nI_2k]
      refine A_istore_n (by decide) rfl dX8_check_73 ?_
      refine A_iconst ic_0 dX8_check_74 ?_
      refine A_istore (by decide) rfl dX8_check_75 ?_
      refine A_iconst ic_0 dX8_check_77 ?_
      refine A_istore (by decide) rfl dX8_check_78 ?_
      refine loop _ (q_lim i hh) 0 (I 88) _ _ rfl (by omega) (by omega) (by omega) cq27 ?_ hN1 (Kp.rf _) rfl (by rw [f_check, if_pos hok, if_neg cq27, nI_clamp (by omega)]) ⟨?_, fun j hj => ?_, fun z hz1 => ?_, fun z hz1 => ?_, fun q a b c d e => ?_⟩
      · rw [setR_s]
      · rw [setR_n (by decide), setR_n (by decide), up2_same]
      · rw [setR_n (by decide), setR_n (by decide), up2_ni hj]
      · rw [setR_n (by decide), setR_s, up2_ne (by decide), up2_ne (by decide)]; unfold cpN; rw [if_pos hz1]
      · rw [setR_s, (hz z hz1).1, (hz z hz1).2]
      · rw [setR_n b, setR_n c, up2_ne a]
    · skip
      refine A_ldcw kc_X8_275 rfl dX8_check_30 ?_
      refine A_iret rfl rfl rfl rfl dX8_check_33 ?_
      rw [f_check, if_pos (b2i_p.mp cq17), if_pos cq27]
      exact ⟨rfl, rfl, up2_same, fun j hj => up2_ni hj, fun q a _ _ _ => up2_ne a⟩
  · skip
    refine A_ldc kc_X8_88 rfl dX8_check_20 ?_
    refine A_iret rfl rfl rfl rfl dX8_check_22 ?_
    rw [f_check, if_neg (b2i_q.mp cq17)]
    exact ⟨rfl, rfl, up2_same, fun j hj => up2_ni hj, fun q a _ _ _ => up2_ne a⟩
