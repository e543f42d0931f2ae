theorem less_in {p d : Nat} (hp : p ≤ 100) (hd : d ≤ 40) : ∃ b, b ≤ 100 ∧ q_less (nI p) (nI d) = nI b := by
  unfold q_less
  by_cases h : nI p < nI d
  · rw [if_pos h]; exact ⟨0, by omega, rfl⟩
  · rw [if_neg h]
    have := mt (nI_ltI (by omega) (by omega)).mpr h
    exact ⟨p - d, by omega, sub_nI (by omega)⟩
theorem bel_in {N : Nrow} (hDo : DoJ N) {i : Nat} (hi : i < 10) : ∃ b, b ≤ 100 ∧ q_bel N i = nI b := by
  obtain ⟨p, hp, hpe⟩ := plain_in N i
  obtain ⟨d, hd, hde⟩ := hDo i hi
  obtain ⟨e, he, hee⟩ := hold_in (if 50 < nI p then nI p + 10 else if nI p < 50 then nI p - 10 else nI p)
  obtain ⟨z, hz, hze⟩ := less_in hp hd
  have hmo : q_more (nI p) = nI e := hee
  unfold q_bel
  rw [hpe, hde, hze, hmo]
  split
  · exact ⟨z, hz, rfl⟩
  split
  · exact ⟨e, he, rfl⟩
  split
  · have h2 : ∀ z, z ≤ 100 → ∃ b, b ≤ 100 ∧ (nI z + 50) / 2 = nI b := by
      intro z hz
      have : ∀ z, z < 101 → (nI z + 50) / 2 = nI ((z + 50) / 2) := by decide +kernel
      exact ⟨(z + 50) / 2, by omega, this z (by omega)⟩
    exact h2 z hz
  split
  · exact ⟨100 - e, by omega, by rw [show (100 : Int32) = nI 100 from rfl, sub_nI he]⟩
  · exact ⟨p, hp, rfl⟩
/-- how far what jurors believe and places are apart, up to place k -/
def q_ap (N : Nrow) (n : Nat) (C : Nat → Int32) : Nat → Nat
  | 0 => 0
  | k + 1 => q_ap N n C k + if C k = -1000000005 then 0 else ((if k < n then (q_bel N k).toInt else 0) - (C k).toInt).natAbs
theorem ap_le {N : Nrow} {n : Nat} {C : Nat → Int32} (hDo : DoJ N) (hn : n ≤ 10) (hC : ∀ k, k < 24 → C k = -1000000005 ∨ (-99999 ≤ C k ∧ C k ≤ 99999)) : ∀ k, k ≤ 24 → q_ap N n C k ≤ 100099 * k
  | 0, _ => Nat.le_refl _
  | k + 1, h => by
    have q := ap_le hDo hn hC k (by omega)
    rw [q_ap]
    split
    · omega
    · next hne =>
      have hc := (hC k (by omega)).resolve_left hne
      rw [Int32.le_iff_toInt_le, Int32.le_iff_toInt_le, show (-99999 : Int32).toInt = -99999 from rfl, show (99999 : Int32).toInt = 99999 from rfl] at hc
      split
      · next hk =>
        obtain ⟨b, hb, e⟩ := bel_in hDo (show k < 10 by omega)
        rw [e, nI_toInt (by omega)]
        omega
      · omega
theorem abs_i {b : Nat} {c : Int32} (hb : b ≤ 100) (hc : -99999 ≤ c ∧ c ≤ 99999) : (if nI b - c < 0 then -(nI b - c) else nI b - c) = nI ((b : Int) - c.toInt).natAbs := by
  rw [Int32.le_iff_toInt_le, Int32.le_iff_toInt_le, show (-99999 : Int32).toInt = -99999 from rfl, show (99999 : Int32).toInt = 99999 from rfl] at hc
  have e1 : (nI b - c).toInt = (b : Int) - c.toInt := by
    rw [Int32.toInt_sub, nI_toInt (by omega)]
    exact Int.bmod_eq_of_le (by omega) (by omega)
  split
  · next h =>
    rw [Int32.lt_iff_toInt_lt, e1, show (0 : Int32).toInt = 0 from rfl] at h
    apply Int32.toInt_inj.mp
    rw [Int32.toInt_neg, e1, nI_toInt (by omega)]
    rw [Int.bmod_eq_of_le (by omega) (by omega)]
    omega
  · next h =>
    rw [Int32.lt_iff_toInt_lt, e1, show (0 : Int32).toInt = 0 from rfl] at h
    apply Int32.toInt_inj.mp
    rw [e1, nI_toInt (by omega)]
    omega
/-- 20 more -/
def q_up (x : Int32) : Int32 := if 50 < x + 20 then 50 else x + 20
def WtJ (N : Nrow) : Prop := ∀ f, f < 8 → -50 ≤ N (8 + f) ∧ N (8 + f) ≤ 50
def q_wf (N : Nrow) (f : Nat) : Nrow := upd N (8 + f) (q_up (N (8 + f)))
/-- the best fact and how far it is, of the first f + 1 -/
def q_wz (A : Nat → Nat) : Nat → Nat × Nat
  | 0 => (0, A 0)
  | f + 1 => if A (f + 1) < (q_wz A f).2 then (f + 1, A (f + 1)) else q_wz A f
def q_wA (N : Nrow) (n : Nat) (C : Nat → Int32) (m : Nat) : Nat → Nat := fun f => q_ap (q_wf N f) n C m
def f_weighed (S Z : Nrow) (C : Fn2) (N : Nrow) (n : Nat) (s w : Int32) : Int32 := if (0 ≤ s ∧ s ≤ 3) ∧ (0 ≤ w ∧ w ≤ 1) then (if S s.toNatClampNeg = -1 then -1000000011 else if w = 0 then nI (q_wz (q_wA N n (C s.toNatClampNeg) (Z s.toNatClampNeg).toNatClampNeg) 7).1 else nI (q_wz (q_wA N n (C s.toNatClampNeg) (Z s.toNatClampNeg).toNatClampNeg) 7).2) else -1000000001
theorem TxJ.wf {N : Nrow} {T f : Nat} (h : TxJ N T) (hf : f < 8) : TxJ (q_wf N f) T := by
  have e : ∀ i, i ≠ 8 + f → q_wf N f i = N i := fun i hi => upd_n hi
  refine ⟨h.1, by rw [e 7 (by omega)]; exact h.2.1, fun t ht => ?_⟩
  obtain ⟨key, len, h1, h2, h3⟩ := h.2.2 t ht
  refine ⟨key, len, h1, by rw [e _ (by omega)]; exact h2, ?_⟩
  have e2 : (fun k => q_wf N f (94 + 96 * t + k)) = fun k => N (94 + 96 * t + k) := by funext k; exact e _ (by omega)
  rw [e2]; exact h3
theorem LwR.wf {I : Hp} {N : Nrow} {T f : Nat} (h : LwR I N T) (hf : f < 8) : LwR I (q_wf N f) T := fun t ht => by
  have e : ∀ i, i ≠ 8 + f → q_wf N f i = N i := fun i hi => upd_n hi
  obtain ⟨key, len, h1, h2, h3, h4, h5, h6, h7⟩ := h t ht
  exact ⟨key, len, h1, h2, by rw [e _ (by omega)]; exact h3, h4, by rw [e _ (by omega)]; exact h5, h6, fun k hk => by rw [e _ (by omega)]; exact h7 k hk⟩
theorem DoJ.wf {N : Nrow} {f : Nat} (h : DoJ N) (hf : f < 8) : DoJ (q_wf N f) := fun i hi => by
  rw [show q_wf N f (19 + 5 * i) = N (19 + 5 * i) from upd_n (by omega)]; exact h i hi
theorem KnJ.wf {N : Nrow} {f : Nat} (h : KnJ N) (hf : f < 8) : KnJ (q_wf N f) := h.up (fun i hi => by omega)
theorem wf_1 {N : Nrow} {f n : Nat} (hN : N 1 = nI n) (hf : f < 8) : q_wf N f 1 = nI n := (upd_n (by omega)).trans hN
theorem wf_back {N : Nrow} {f : Nat} : upd (q_wf N f) (8 + f) (N (8 + f)) = N := by
  unfold q_wf
  funext i
  by_cases e : i = 8 + f
  · subst e; rw [upd_s]
  · rw [upd_n e, upd_n e]
set_option maxHeartbeats 1000000 in
set_option maxRecDepth 100000 in
theorem s_apart (l : Launch) (G : Gm) (J : Hp) (N : Nrow) (n T : Nat) (hn : n ≤ 10) (hN : N 1 = nI n) (hR : RepJ J 52 N) (hK : KnJ N) (hTx : TxJ N T) (hLw : LwR J N T) (hDo : DoJ N) (r m : Nat) (hr : isR r) (hm : m ≤ 24) (hz : J r 1 = nI m) (hC : ∀ k, k < 24 → J (r + 1) k = -1000000005 ∨ (-99999 ≤ J (r + 1) k ∧ J (r + 1) k ≤ 99999)) : Meth l G yX7_apart cX7_apart 5 (some (FieldType.int)) 6 0 0 [.ref 52, .ref r] LAY J (fun r1 lay1 I1 => r1 = some (.int (nI (q_ap N n (fun z => J (r + 1) z) m))) ∧ lay1 = LAY ∧ ∀ q, q ≠ 2 → I1 q = J q) := by
  have loop : ∀ (lpn : Nat) (k : Nat) (o4 : Option Value) (K : Hp), m - k = lpn → (k ≤ m) → (∀ q, q ≠ 2 → K q = J q) → AW l G yX7_apart cX7_apart 5 (some (FieldType.int)) 6 0 0 (fun r1 lay1 I1 => r1 = some (.int (nI (q_ap N n (fun z => J (r + 1) z) m))) ∧ lay1 = LAY ∧ ∀ q, q ≠ 2 → I1 q = J q) 0 0 4 [some (.ref 52), some (.ref r), some (.int (nI (q_ap N n (fun z => J (r + 1) z) k))), some (.int (nI k)), o4] [] LAY K := by
    intro lpn
    induction lpn using Nat.strongRecOn with
    | _ lpn ih =>
      intro k o4 K hms hk hfr
      have hr2 : r ≠ 2 ∧ r + 1 ≠ 2 := by rcases hr with ⟨t, h1, rfl⟩ | ⟨t, h1, rfl⟩ <;> omega
      have eZ : K r 1 = nI m := by rw [hfr r hr2.1]; exact hz
      have eC : K (r + 1) = J (r + 1) := hfr _ hr2.2
      have e8 : K 52 8 = nI n := by rw [hfr 52 (by decide), hR.1.1]; exact hN
      have hRK : RepJ K 52 N := hR.other (fun q a b => hfr q (by omega))
      refine A_iload_n rfl dX7_apart_4 ?_
      refine A_aload_n rfl dX7_apart_5 ?_
      refine A_getI fr_X7_244.g rfl (lr hr) dX7_apart_6 ?_
      rw [eZ]
      refine A_icmp_ge 60 rfl dX7_apart_9 (fun cq9 => ?_) (fun cq9 => ?_)
      · skip
        refine A_iload_n rfl dX7_apart_60 ?_
        refine A_iret rfl rfl rfl rfl dX7_apart_61 ?_
        have hkm : k = m := by
          have hq1 := (le_nI (rfl : nI m = nI m) (rfl : nI k = nI k) (by omega) (by omega)).mp cq9
          omega
        subst hkm
        exact ⟨rfl, rfl, hfr⟩
      · skip
        have hkm : k < m := by
          have hq1 := mt (le_nI (rfl : nI m = nI m) (rfl : nI k = nI k) (by omega) (by omega)).mpr cq9
          omega
        refine A_aload_n rfl dX7_apart_12 ?_
        refine A_iload_n rfl dX7_apart_13 ?_
        refine A_callV (s_hasN l G K r hr _ m hm eZ) m_X4_hasNumber ml_X7_252 rfl (lr hr) rfl (by decide) rfl rfl (Nat.le_of_ble_eq_true rfl) (by decide) (by decide) (by decide) dX7_apart_14 (fun _ _ _ h => congrArg List.length h.2.1) ?_
        rintro _ _ _ ⟨rfl, rfl, e9⟩
        refine AW_I e9 ?_
        clear e9
        refine A_if_eq 54 rfl dX7_apart_17 (fun cq17 => ?_) (fun cq17 => ?_)
        · skip
          refine A_iinc ic_1 rfl (by decide) rfl dX7_apart_54 ?_
          refine A_goto 4 rfl dX7_apart_57 ?_
          first
            | (have h7 := b2i_q.mp cq17
               have h8 : J (r + 1) k = -1000000005 := by
                 by_cases q : J (r + 1) k = -1000000005
                 · exact q
                 · exact absurd ⟨⟨nI_pos' (by omega), by rw [eZ]; exact (nI_ltI (by omega) (by omega)).mpr hkm⟩, by rw [nI_clamp (by omega), eC]; exact q⟩ h7
               have hv : q_ap N n (fun z => J (r + 1) z) (k + 1) = q_ap N n (fun z => J (r + 1) z) k := by rw [q_ap, if_pos h8, Nat.add_zero]
               refine AW_L (by rw [nI_1 k, ← hv]) ?_
               exact ih _ (by omega) (k + 1) _ _ rfl (by omega) hfr)
            | (have h9 : K2 (r + 1) k = J (r + 1) k := by rw [hfr2 _ hr2.2]
               have hv : nI (q_ap N n (fun z => J (r + 1) z) k) + (if q_bel N k - K2 (r + 1) k < 0 then -(q_bel N k - K2 (r + 1) k) else q_bel N k - K2 (r + 1) k) = nI (q_ap N n (fun z => J (r + 1) z) (k + 1)) := by rw [q_ap, if_neg hnn, if_pos hkn, eb, nI_toInt (by omega), ← nI_add, h9, abs_i hb hc]
               refine AW_L (by rw [nI_1 k, hv]) ?_
               exact ih _ (by omega) (k + 1) _ _ rfl (by omega) hfr2)
            | (have h9 := b2i_q.mp cq25
               rw [e8] at h9
               have hkn : ¬ k < n := fun q => h9 ⟨nI_pos' (by omega), (nI_ltI (by omega) (by omega)).mpr q⟩
               have h6 := abs_i (b := 0) (by decide) hc
               have hv : nI (q_ap N n (fun z => J (r + 1) z) k) + (if 0 - K (r + 1) k < 0 then -(0 - K (r + 1) k) else 0 - K (r + 1) k) = nI (q_ap N n (fun z => J (r + 1) z) (k + 1)) := by rw [q_ap, if_neg hnn, if_neg hkn, ← nI_add, eC]; exact congrArg (fun z => nI (q_ap N n (fun z => J (r + 1) z) k) + z) h6
               refine AW_L (by rw [nI_1 k, hv]) ?_
               exact ih _ (by omega) (k + 1) _ _ rfl (by omega) hfr)
        · skip
          have hnn := (b2i_p.mp cq17).2
          rw [nI_clamp (by omega), eC] at hnn
          have hc := (hC k (by omega)).resolve_left hnn
          refine A_aload_n rfl dX7_apart_20 ?_
          refine A_iload_n rfl dX7_apart_21 ?_
          refine A_callV (s_has l G 52 j52 K _) m_X0_has ml_X7_70 rfl (lj j52) rfl (by decide) rfl rfl (Nat.le_of_ble_eq_true rfl) (by decide) (by decide) (by decide) dX7_apart_22 (fun _ _ _ h => congrArg List.length h.2.1) ?_
          rintro _ _ _ ⟨rfl, rfl, e9⟩
          refine AW_I e9 ?_
          clear e9
          refine A_if_eq 36 rfl dX7_apart_25 (fun cq25 => ?_) (fun cq25 => ?_)
          · skip
            refine A_iconst ic_0 dX7_apart_36 ?_
            refine A_istore (by decide) rfl dX7_apart_37 ?_
            refine A_iload_n rfl dX7_apart_39 ?_
            refine A_iload rfl dX7_apart_40 ?_
            refine A_aload_n rfl dX7_apart_42 ?_
            refine A_getR fr_X7_247 rfl (lr hr) rfl dX7_apart_43 ?_
            refine A_iload_n rfl dX7_apart_46 ?_
            refine A_iald k rfl (lr2 hr) (by omega) (by decide) dX7_apart_47 ?_
            refine A_isub dX7_apart_48 ?_
            refine A_callS (s_abs l G _ _ _) m_J9_abs_0f7a4 ml_X7_295 rfl rfl rfl (Nat.le_of_ble_eq_true rfl) (by decide) (by decide) (by decide) dX7_apart_49 (fun _ _ _ h => congrArg List.length h.2.1) ?_
            rintro _ _ _ ⟨rfl, rfl, e9⟩
            refine AW_I e9 ?_
            clear e9
            refine A_iadd dX7_apart_52 ?_
            refine A_istore_n (by decide) rfl dX7_apart_53 ?_
            refine A_iinc ic_1 rfl (by decide) rfl dX7_apart_54 ?_
            refine A_goto 4 rfl dX7_apart_57 ?_
            first
              | (have h7 := b2i_q.mp cq17
                 have h8 : J (r + 1) k = -1000000005 := by
                   by_cases q : J (r + 1) k = -1000000005
                   · exact q
                   · exact absurd ⟨⟨nI_pos' (by omega), by rw [eZ]; exact (nI_ltI (by omega) (by omega)).mpr hkm⟩, by rw [nI_clamp (by omega), eC]; exact q⟩ h7
                 have hv : q_ap N n (fun z => J (r + 1) z) (k + 1) = q_ap N n (fun z => J (r + 1) z) k := by rw [q_ap, if_pos h8, Nat.add_zero]
                 refine AW_L (by rw [nI_1 k, ← hv]) ?_
                 exact ih _ (by omega) (k + 1) _ _ rfl (by omega) hfr)
              | (have h9 : K2 (r + 1) k = J (r + 1) k := by rw [hfr2 _ hr2.2]
                 have hv : nI (q_ap N n (fun z => J (r + 1) z) k) + (if q_bel N k - K2 (r + 1) k < 0 then -(q_bel N k - K2 (r + 1) k) else q_bel N k - K2 (r + 1) k) = nI (q_ap N n (fun z => J (r + 1) z) (k + 1)) := by rw [q_ap, if_neg hnn, if_pos hkn, eb, nI_toInt (by omega), ← nI_add, h9, abs_i hb hc]
                 refine AW_L (by rw [nI_1 k, hv]) ?_
                 exact ih _ (by omega) (k + 1) _ _ rfl (by omega) hfr2)
              | (have h9 := b2i_q.mp cq25
                 rw [e8] at h9
                 have hkn : ¬ k < n := fun q => h9 ⟨nI_pos' (by omega), (nI_ltI (by omega) (by omega)).mpr q⟩
                 have h6 := abs_i (b := 0) (by decide) hc
                 have hv : nI (q_ap N n (fun z => J (r + 1) z) k) + (if 0 - K (r + 1) k < 0 then -(0 - K (r + 1) k) else 0 - K (r + 1) k) = nI (q_ap N n (fun z => J (r + 1) z) (k + 1)) := by rw [q_ap, if_neg hnn, if_neg hkn, ← nI_add, eC]; exact congrArg (fun z => nI (q_ap N n (fun z => J (r + 1) z) k) + z) h6
                 refine AW_L (by rw [nI_1 k, hv]) ?_
                 exact ih _ (by omega) (k + 1) _ _ rfl (by omega) hfr)
          · skip
            have hh0 := b2i_p.mp cq25
            rw [e8] at hh0
            have hkn : k < n := (nI_ltI (by omega) (by omega)).mp hh0.2
            have hkj : k < 10 := by omega
            obtain ⟨b, hb, eb⟩ := bel_in hDo hkj
            refine A_aload_n rfl dX7_apart_28 ?_
            refine A_iload_n rfl dX7_apart_29 ?_
            refine A_callV (s_bel l G 52 j52 K N T hRK hK hTx (hLw.fr hTx.1 (fun q a b => hfr q (by omega))) hDo k hkj) m_X0_believes ml_X7_89 rfl (lj j52) rfl (by decide) rfl rfl (Nat.le_of_ble_eq_true rfl) (by decide) (by decide) (by decide) dX7_apart_30 (fun _ _ _ h => congrArg List.length h.2.1) ?_
            rintro _ _ K2 ⟨rfl, rfl, hf2⟩
            have hfr2 : ∀ q, q ≠ 2 → K2 q = J q := fun q hq => (hf2 q hq).trans (hfr q hq)
            refine A_goto 37 rfl dX7_apart_33 ?_
            refine A_istore (by decide) rfl dX7_apart_37 ?_
            refine A_iload_n rfl dX7_apart_39 ?_
            refine A_iload rfl dX7_apart_40 ?_
            refine A_aload_n rfl dX7_apart_42 ?_
            refine A_getR fr_X7_247 rfl (lr hr) rfl dX7_apart_43 ?_
            refine A_iload_n rfl dX7_apart_46 ?_
            refine A_iald k rfl (lr2 hr) (by omega) (by decide) dX7_apart_47 ?_
            refine A_isub dX7_apart_48 ?_
            refine A_callS (s_abs l G _ _ _) m_J9_abs_0f7a4 ml_X7_295 rfl rfl rfl (Nat.le_of_ble_eq_true rfl) (by decide) (by decide) (by decide) dX7_apart_49 (fun _ _ _ h => congrArg List.length h.2.1) ?_
            rintro _ _ _ ⟨rfl, rfl, e9⟩
            refine AW_I e9 ?_
            clear e9
            refine A_iadd dX7_apart_52 ?_
            refine A_istore_n (by decide) rfl dX7_apart_53 ?_
            refine A_iinc ic_1 rfl (by decide) rfl dX7_apart_54 ?_
            refine A_goto 4 rfl dX7_apart_57 ?_
            first
              | (have h7 := b2i_q.mp cq17
                 have h8 : J (r + 1) k = -1000000005 := by
                   by_cases q : J (r + 1) k = -1000000005
                   · exact q
                   · exact absurd ⟨⟨nI_pos' (by omega), by rw [eZ]; exact (nI_ltI (by omega) (by omega)).mpr hkm⟩, by rw [nI_clamp (by omega), eC]; exact q⟩ h7
                 have hv : q_ap N n (fun z => J (r + 1) z) (k + 1) = q_ap N n (fun z => J (r + 1) z) k := by rw [q_ap, if_pos h8, Nat.add_zero]
                 refine AW_L (by rw [nI_1 k, ← hv]) ?_
                 exact ih _ (by omega) (k + 1) _ _ rfl (by omega) hfr)
              | (have h9 : K2 (r + 1) k = J (r + 1) k := by rw [hfr2 _ hr2.2]
                 have hv : nI (q_ap N n (fun z => J (r + 1) z) k) + (if q_bel N k - K2 (r + 1) k < 0 then -(q_bel N k - K2 (r + 1) k) else q_bel N k - K2 (r + 1) k) = nI (q_ap N n (fun z => J (r + 1) z) (k + 1)) := by rw [q_ap, if_neg hnn, if_pos hkn, eb, nI_toInt (by omega), ← nI_add, h9, abs_i hb hc]
                 refine AW_L (by rw [nI_1 k, hv]) ?_
                 exact ih _ (by omega) (k + 1) _ _ rfl (by omega) hfr2)
              | (have h9 := b2i_q.mp cq25
                 rw [e8] at h9
                 have hkn : ¬ k < n := fun q => h9 ⟨nI_pos' (by omega), (nI_ltI (by omega) (by omega)).mpr q⟩
                 have h6 := abs_i (b := 0) (by decide) hc
                 have hv : nI (q_ap N n (fun z => J (r + 1) z) k) + (if 0 - K (r + 1) k < 0 then -(0 - K (r + 1) k) else 0 - K (r + 1) k) = nI (q_ap N n (fun z => J (r + 1) z) (k + 1)) := by rw [q_ap, if_neg hnn, if_neg hkn, ← nI_add, eC]; exact congrArg (fun z => nI (q_ap N n (fun z => J (r + 1) z) k) + z) h6
                 refine AW_L (by rw [nI_1 k, hv]) ?_
                 exact ih _ (by omega) (k + 1) _ _ rfl (by omega) hfr)
  refine Meth.of (by decide +kernel) (by simp [Value.category]) (Nat.le_of_ble_eq_true rfl) ?_
  refine A_iconst ic_0 dX7_apart_0 ?_
  refine A_istore_n (by decide) rfl dX7_apart_1 ?_
  refine A_iconst ic_0 dX7_apart_2 ?_
  refine A_istore_n (by decide) rfl dX7_apart_3 ?_
  exact loop _ 0 _ J rfl (by omega) (fun _ _ => rfl)
