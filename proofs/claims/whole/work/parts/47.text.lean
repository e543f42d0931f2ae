/-- a list's row -/
def cdL (D : List Int32) : Nat → Int32 := fun k => D.reverse.getD k 0
theorem RepL.congr {row row2 : Nat → Int32} : ∀ {c : List Int32}, RepL row c → (∀ k, k < c.length → row2 k = row k) → RepL row2 c
  | [], _, _ => trivial
  | x :: c, h, hk => ⟨by rw [hk c.length (by simp)]; exact h.1, RepL.congr h.2 (fun k hq => hk k (by simp; omega))⟩
theorem RepL.det {row row2 : Nat → Int32} : ∀ {c : List Int32}, RepL row c → RepL row2 c → ∀ k, k < c.length → row k = row2 k
  | [], _, _, k, hk => by simp at hk
  | x :: c, h, h2, k, hk => by
    by_cases e : k = c.length
    · subst e; rw [h.1, h2.1]
    · exact RepL.det h.2 h2.2 k (by simp at hk; omega)
theorem cdL_rep : ∀ D : List Int32, RepL (cdL D) D
  | [] => trivial
  | x :: c => by
    refine ⟨?_, (cdL_rep c).congr (fun k hk => ?_)⟩
    · unfold cdL
      rw [List.reverse_cons, List.getD_eq_getElem?_getD, List.getElem?_append_right (by simp)]
      simp
    · unfold cdL
      rw [List.reverse_cons, List.getD_eq_getElem?_getD, List.getD_eq_getElem?_getD, List.getElem?_append_left (by simpa using hk)]
theorem rep_enc {row : Nat → Int32} {D : List Int32} (h : RepE row D) : ∀ k, k < D.length → row k = q_enc (cdL D k) := rep_at (cdL_rep D) h
/-- the row with one more text -/
def txN (N : Nrow) (T key : Nat) (D : List Int32) : Nrow := fun i => if i = 7 then nI (T + 1) else if i = 66 + 2 * T then nI (1000 * key + D.length) else if i = 67 + 2 * T then nI (m_at D) else if 94 + 96 * T ≤ i ∧ i < 94 + 96 * T + D.length then cdL D (i - (94 + 96 * T)) else N i
theorem tx_lo {N : Nrow} {T key i : Nat} {D : List Int32} (h : i < 66) (h7 : i ≠ 7) : txN N T key D i = N i := by
  unfold txN; rw [if_neg h7, if_neg (by omega), if_neg (by omega), if_neg (by omega)]
theorem tx_66 {N : Nrow} {T key t : Nat} {D : List Int32} (h : t < T) (hT : T < 14) : txN N T key D (66 + 2 * t) = N (66 + 2 * t) ∧ txN N T key D (67 + 2 * t) = N (67 + 2 * t) := by
  unfold txN
  exact ⟨by rw [if_neg (by omega), if_neg (by omega), if_neg (by omega), if_neg (by omega)], by rw [if_neg (by omega), if_neg (by omega), if_neg (by omega), if_neg (by omega)]⟩
theorem tx_94 {N : Nrow} {T key t k : Nat} {D : List Int32} (h : t < T) (hT : T < 14) (hk : k < 96) : txN N T key D (94 + 96 * t + k) = N (94 + 96 * t + k) := by
  unfold txN
  rw [if_neg (by omega), if_neg (by omega), if_neg (by omega), if_neg (by omega)]
theorem tx_7 {N : Nrow} {T key : Nat} {D : List Int32} : txN N T key D 7 = nI (T + 1) := by unfold txN; rw [if_pos rfl]
theorem tx_T {N : Nrow} {T key : Nat} {D : List Int32} : txN N T key D (66 + 2 * T) = nI (1000 * key + D.length) := by unfold txN; rw [if_neg (by omega), if_pos rfl]
theorem tx_T1 {N : Nrow} {T key : Nat} {D : List Int32} : txN N T key D (67 + 2 * T) = nI (m_at D) := by unfold txN; rw [if_neg (by omega), if_neg (by omega), if_pos rfl]
theorem tx_c {N : Nrow} {T key k : Nat} {D : List Int32} (hT : T < 14) (hk : k < D.length) : txN N T key D (94 + 96 * T + k) = cdL D k := by
  unfold txN
  rw [if_neg (by omega), if_neg (by omega), if_neg (by omega), if_pos (by omega), show 94 + 96 * T + k - (94 + 96 * T) = k by omega]
theorem cntL_congr {N M : Nrow} {key : Int32} : ∀ T, (∀ t, t < T → M (66 + 2 * t) = N (66 + 2 * t)) → q_cntL M key T = q_cntL N key T
  | 0, _ => rfl
  | T + 1, h => by rw [q_cntL, q_cntL, h T (by omega), cntL_congr T (fun t ht => h t (by omega))]
theorem tx_cnt {N : Nrow} {T key k : Nat} {D : List Int32} (hT : T < 14) (hN : N 7 = nI T) (hkey : key ≤ 2) (hD : D.length ≤ 96) (hk : k < 3) : q_cnt (txN N T key D) (nI k) = if k = key then nI T else q_cnt N (nI k) := by
  unfold q_cnt
  rw [tx_7, nI_clamp (by omega), q_cntL, tx_T, key_div hkey hD, hN, nI_clamp (by omega)]
  by_cases e : k = key
  · subst e; rw [if_pos rfl, if_pos rfl]
  · rw [if_neg (fun q => e ((nI_eq (by omega) (by omega)).mp q).symm), if_neg e]
    exact cntL_congr T (fun t ht => (tx_66 ht hT).1)
theorem held_k : ∀ k, k ≤ 2 → heldF (nI k) 0 2 = nI k := by decide +kernel
/-- a law's object -/
def LawOf (J : Hp) (T key : Nat) (D : List Int32) : Prop := J (4 + 2 * T) 0 = nI key ∧ J (4 + 2 * T) 1 = nI (m_at D) ∧ J (4 + 2 * T) 3 = nI D.length ∧ ∀ k, k < D.length → J (4 + 2 * T + 1) k = q_enc (cdL D k)
theorem RepJ.tx {I J : Hp} {N : Nrow} {T key : Nat} {D : List Int32} (h : RepJ I 36 N) (hT : T < 14) (hN : N 7 = nI T) (hkey : key ≤ 2) (hD : D.length ≤ 96) (h0 : J 36 = upd (I 36) 15 (nI (T + 1))) (h7 : J (36 + 7) = upd (I (36 + 7)) key (nI T)) (hf : ∀ q, 36 < q → q < 43 → J q = I q) : RepJ J 36 (txN N T key D) := by
  refine ⟨?_, ?_, ?_, ?_, ?_, ?_, ?_, ?_⟩
  · rw [h0]
    refine ⟨?_, ?_, ?_, ?_, ?_, ?_, ?_, ?_⟩
    · rw [upd_n (by decide), tx_lo (by decide) (by decide)]; exact h.1.1
    · rw [upd_n (by decide), tx_lo (by decide) (by decide)]; exact h.1.2.1
    · rw [upd_n (by decide), tx_lo (by decide) (by decide)]; exact h.1.2.2.1
    · rw [upd_n (by decide), tx_lo (by decide) (by decide)]; exact h.1.2.2.2.1
    · rw [upd_n (by decide), tx_lo (by decide) (by decide)]; exact h.1.2.2.2.2.1
    · rw [upd_n (by decide), tx_lo (by decide) (by decide)]; exact h.1.2.2.2.2.2.1
    · rw [upd_n (by decide), tx_lo (by decide) (by decide)]; exact h.1.2.2.2.2.2.2.1
    · rw [upd_s, tx_7]
  · intro i hi; rw [hf (36 + 1) (by decide) (by decide), tx_lo (by omega) (by omega)]; exact h.2.1 i hi
  · intro i hi; rw [hf (36 + 2) (by decide) (by decide), tx_lo (by omega) (by omega)]; exact h.2.2.1 i hi
  · intro i hi; rw [hf (36 + 3) (by decide) (by decide), tx_lo (by omega) (by omega)]; exact h.2.2.2.1 i hi
  · intro i hi; rw [hf (36 + 4) (by decide) (by decide), tx_lo (by omega) (by omega)]; exact h.2.2.2.2.1 i hi
  · intro i hi; rw [hf (36 + 5) (by decide) (by decide), tx_lo (by omega) (by omega)]; exact h.2.2.2.2.2.1 i hi
  · intro i hi; rw [hf (36 + 6) (by decide) (by decide), tx_lo (by omega) (by omega)]; exact h.2.2.2.2.2.2.1 i hi
  · intro k hk
    rw [h7, tx_cnt hT hN hkey hD hk]
    by_cases e : k = key
    · subst e; rw [upd_s, if_pos rfl]
    · rw [upd_n e, if_neg e]; exact h.2.2.2.2.2.2.2 k hk
set_option maxHeartbeats 1000000 in
set_option maxRecDepth 100000 in
theorem c_text (l : Launch) (G : Gm) (I : Hp) (N : Nrow) (n : Nat) (hn : n ≤ 10) (hN : N 1 = nI n) (hR : RepJ I 36 N) (T : Nat) (hTx : TxJ N T) (B : Nat → Int32) (L : Nat) (hB : TpI B L I) : Meth l G yX7_text cX7_text 3 (some (FieldType.int)) 151 0 0 [.ref 0] LAY I (fun r lay1 I1 => ∃ x, r = some (.int x) ∧ lay1 = LAY ∧ I1 32 0 = 0 ∧ ((∃ f, FaT B L f ∧ x = -100 - nI f ∧ (∀ q, q ≠ 32 → q ≠ 34 → q ≠ 35 → I1 q = I q)) ∨ ∃ key D, OkT B L key D ∧ ((T = 14 ∧ x = -1000000003 ∧ (∀ q, q ≠ 32 → q ≠ 34 → q ≠ 35 → I1 q = I q)) ∨ (T < 14 ∧ x = nI T ∧ RepJ I1 36 (txN N T key D) ∧ LawOf I1 T key D ∧ (∀ q, q ≠ 32 → q ≠ 34 → q ≠ 35 → q ≠ 36 → q ≠ 43 → q ≠ 4 + 2 * T → q ≠ 5 + 2 * T → I1 q = I q))))) := by
  refine Meth.of (by decide +kernel) (by simp [Value.category]) (Nat.le_of_ble_eq_true rfl) ?_
  refine A_aload_n rfl dX7_text_0 ?_
  refine A_getR fr_X7_19.g rfl lay_0 rfl dX7_text_1 ?_
  refine A_callV (s_fault l G I B L hB) m_X6_faultOfText ml_X7_211 rfl lay_32 rfl (by decide) rfl rfl (Nat.le_of_ble_eq_true rfl) (by decide) (by decide) (by decide) dX7_text_4 (fun _ _ _ ⟨_, _, hqq, _⟩ => congrArg List.length hqq) ?_
  rintro _ _ K ⟨x, rfl, rfl, hfr, hres⟩
  have ht14 := hTx.1
  have h15 : (up2 K 32 0 0) 36 15 = nI T := by rw [up2_ne (by decide), hfr 36 (by decide) (by decide) (by decide), hR.1.2.2.2.2.2.2.2]; exact hTx.2.1
  refine A_istore_n (by decide) rfl dX7_text_7 ?_
  refine A_aload_n rfl dX7_text_8 ?_
  refine A_getR fr_X7_19.g rfl lay_0 rfl dX7_text_9 ?_
  refine A_iconst ic_0 dX7_text_12 ?_
  refine A_putI fr_X7_204 rfl lay_32 rfl rfl dX7_text_13 ?_
  refine A_iload_n rfl dX7_text_16 ?_
  refine A_if_lt 25 rfl dX7_text_17 (fun cq17 => ?_) (fun cq17 => ?_)
  · skip
    rcases hres with ⟨f, hxf, hfa⟩ | ⟨hx1, key, D, hok, hLw⟩
    · have h7 : x < 0 := cq17
      rw [hxf] at h7
      exact absurd h7 (nI_pos (by have := hfa.1; have := hB.2.2.1; omega))
    have hk2 := hok.1.1
    have hD96 := hok.2.2.2.2
    refine A_aload_n rfl dX7_text_25 ?_
    refine A_getR fr_X7_28.g rfl lay_0 rfl dX7_text_26 ?_
    refine A_getI fr_X7_214.g rfl (lj j36) dX7_text_29 ?_
    rw [h15]
    refine A_bipush bp_14 dX7_text_32 ?_
    refine A_icmp_lt 40 rfl dX7_text_34 (fun cq34 => ?_) (fun cq34 => ?_)
    · skip
      have hT : T < 14 := (lt_nI (rfl : nI T = nI T) (show (14 : Int32) = nI 14 from rfl) (by omega) (by omega)).mp cq34
      refine A_aload_n rfl dX7_text_40 ?_
      refine A_getR fr_X7_28.g rfl lay_0 rfl dX7_text_41 ?_
      refine A_getI fr_X7_214.g rfl (lj j36) dX7_text_44 ?_
      rw [h15]
      refine A_istore_n (by decide) rfl dX7_text_47 ?_
      refine A_aload_n rfl dX7_text_48 ?_
      refine A_getR fr_X7_10.g rfl lay_0 rfl dX7_text_49 ?_
      refine A_iload_n rfl dX7_text_52 ?_
      refine A_callV (s_at l G (up2 K 32 0 0) T hT) m_X3_at ml_X7_217 rfl lay_1 rfl (by decide) rfl rfl (Nat.le_of_ble_eq_true rfl) (by decide) (by decide) (by decide) dX7_text_53 (fun _ _ _ h => congrArg List.length h.2.1) ?_
      rintro _ _ _ ⟨rfl, rfl, e9⟩
      refine AW_I e9 ?_
      clear e9
      refine A_aload_n rfl dX7_text_56 ?_
      refine A_getR fr_X7_19.g rfl lay_0 rfl dX7_text_57 ?_
      refine A_getR fr_X7_221 rfl lay_32 rfl dX7_text_60 ?_
      refine A_callV (s_lbec l G (up2 K 32 0 0) (4 + 2 * T) (isQ_t hT) (by omega)) m_X2_become ml_X7_225 rfl (ll (isQ_t hT)) rfl (by decide) rfl rfl (Nat.le_of_ble_eq_true rfl) (by decide) (by decide) (by decide) dX7_text_63 (fun _ _ _ h => congrArg List.length h.2.1) ?_
      rintro _ _ _ ⟨rfl, rfl, e9⟩
      refine AW_I e9 ?_
      clear e9
      refine A_aload_n rfl dX7_text_66 ?_
      refine A_getR fr_X7_28.g rfl lay_0 rfl dX7_text_67 ?_
      refine A_getR fr_X7_197 rfl (lj j36) rfl dX7_text_70 ?_
      refine A_aload_n rfl dX7_text_73 ?_
      refine A_getR fr_X7_19.g rfl lay_0 rfl dX7_text_74 ?_
      refine A_getR fr_X7_221 rfl lay_32 rfl dX7_text_77 ?_
      refine A_getI fr_X7_230.g rfl (ll q34) dX7_text_80 ?_
      rw [show (beL (up2 K 32 0 0) (4 + 2 * T)) 34 0 = nI key by rw [beL_o (by omega) (by omega), up2_ne (by decide)]; exact hLw.1]
      refine A_iconst ic_0 dX7_text_83 ?_
      refine A_iconst ic_2 dX7_text_84 ?_
      refine A_callS (s_held l G _ _ _ _ _) m_X7_held ml_X7_233 rfl rfl rfl (Nat.le_of_ble_eq_true rfl) (by decide) (by decide) (by decide) dX7_text_85 (fun _ _ _ h => congrArg List.length h.2.1) ?_
      rintro _ _ _ ⟨rfl, rfl, e9⟩
      refine AW_I e9 ?_
      clear e9
      rw [held_k key hk2]
      refine A_iload_n rfl dX7_text_88 ?_
      refine A_iast key rfl (lj7 j36) (by omega) (by decide) dX7_text_89 ?_
      refine A_aload_n rfl dX7_text_90 ?_
      refine A_getR fr_X7_28.g rfl lay_0 rfl dX7_text_91 ?_
      refine A_dup rfl dX7_text_94 ?_
      refine A_getI fr_X7_214.g rfl (lj j36) dX7_text_95 ?_
      rw [show (up2 (beL (up2 K 32 0 0) (4 + 2 * T)) (36 + 7) key (nI T)) 36 15 = nI T by rw [up2_ne (by decide), beL_o (by omega) (by omega)]; exact h15]
      refine A_iconst ic_1 dX7_text_98 ?_
      refine A_iadd dX7_text_99 ?_
      rw [nI_1]
      refine A_putI fr_X7_214 rfl (lj j36) rfl rfl dX7_text_100 ?_
      refine A_iload_n rfl dX7_text_103 ?_
      refine A_iret rfl rfl rfl rfl dX7_text_104 ?_
      refine ⟨_, rfl, rfl, ?_, Or.inr ⟨key, D, hok, Or.inr ⟨hT, rfl, ?_, ?_, ?_⟩⟩⟩
      · rw [up2_ne (by decide), up2_ne (by decide), beL_o (by omega) (by omega), up2_same]
      · refine hR.tx hT hTx.2.1 hk2 hD96 ?_ ?_ ?_
        · rw [up2_row, up2_ne (by decide), beL_o (by omega) (by omega), up2_ne (by decide), hfr 36 (by decide) (by decide) (by decide)]
        · rw [up2_ne (by decide), up2_row, beL_o (by omega) (by omega), up2_ne (by decide), hfr (36 + 7) (by decide) (by decide) (by decide)]
        · intro q h1 h2
          rw [up2_ne (by omega), up2_ne (by omega), beL_o (by omega) (by omega), up2_ne (by omega), hfr q (by omega) (by omega) (by omega)]
      · refine ⟨?_, ?_, ?_, ?_⟩
        · rw [up2_ne (by omega), up2_ne (by omega), beL_0, up2_ne (by decide)]; exact hLw.1
        · rw [up2_ne (by omega), up2_ne (by omega), beL_1, up2_ne (by decide)]; exact hLw.2.1
        · rw [up2_ne (by omega), up2_ne (by omega), beL_3, up2_ne (by decide)]; exact hLw.2.2.1
        · intro k hk
          rw [up2_ne (by omega), up2_ne (by omega), beL_c (by omega) (by omega), up2_ne (by decide)]
          exact rep_enc hLw.2.2.2 k hk
      · intro q a b c e f g h
        rw [up2_ne e, up2_ne f, beL_o g (by omega), up2_ne a, hfr q a b c]
    · skip
      refine A_ldc kc_X7_65 rfl dX7_text_37 ?_
      refine A_iret rfl rfl rfl rfl dX7_text_39 ?_
      have hT : T = 14 := by
        have hq1 := mt (lt_nI (rfl : nI T = nI T) (show (14 : Int32) = nI 14 from rfl) (by omega) (by omega)).mpr cq34
        omega
      exact ⟨_, rfl, rfl, up2_same, Or.inr ⟨key, D, hok, Or.inl ⟨hT, rfl, fun q a b c => by rw [up2_ne a]; exact hfr q a b c⟩⟩⟩
  · skip
    refine A_bipush bp_m100 dX7_text_20 ?_
    refine A_iload_n rfl dX7_text_22 ?_
    refine A_isub dX7_text_23 ?_
    refine A_iret rfl rfl rfl rfl dX7_text_24 ?_
    have hfa : ∃ f, x = nI f ∧ FaT B L f := by
      rcases hres with hq | ⟨hx1, -⟩
      · exact hq
      · rw [hx1] at cq17; exact absurd (by decide) cq17
    obtain ⟨f, hxf, hfa⟩ := hfa
    exact ⟨_, rfl, rfl, up2_same, Or.inl ⟨f, hfa, by rw [hxf], fun q a b c => by rw [up2_ne a]; exact hfr q a b c⟩⟩
