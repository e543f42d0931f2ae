/-- how deep the row of a text is -/
def q_dp (cd : Nat → Int32) : Nat → Nat
  | 0 => 0
  | k + 1 => if 0 ≤ cd k then q_dp cd k + 1 else if cd k = -10 then q_dp cd k else q_dp cd k - 1
/-- a text that can be worked out, with nn names -/
def WfT (cd : Nat → Int32) (len nn : Nat) : Prop := len ≤ 96 ∧ 1 ≤ q_dp cd len ∧ ∀ k, k < len → (∃ v, v < 10000 ∧ cd k = nI v) ∨ (∃ i, i < nn ∧ cd k = nI (10000 + i)) ∨ (cd k = -10 ∧ 1 ≤ q_dp cd k) ∨ (∃ s, 1 ≤ s ∧ s ≤ 9 ∧ cd k = -(nI s) ∧ 2 ≤ q_dp cd k)
theorem dp_le (cd : Nat → Int32) : ∀ k, q_dp cd k ≤ k
  | 0 => Nat.le_refl 0
  | k + 1 => by
    have h := dp_le cd k
    rw [q_dp]
    split
    · omega
    · split <;> omega
theorem neg_s : ∀ s, s < 10 → 1 ≤ s → -(nI s) < 0 ∧ ¬ 0 ≤ -(nI s) ∧ ¬ -(nI s) = -10 := by decide +kernel
theorem dp_num {cd : Nat → Int32} {k v : Nat} (h : cd k = nI v) (hv : v < 20000) : q_dp cd (k + 1) = q_dp cd k + 1 := by rw [q_dp, h, if_pos (nI_pos' (by omega))]
theorem dp_not {cd : Nat → Int32} {k : Nat} (h : cd k = -10) : q_dp cd (k + 1) = q_dp cd k := by rw [q_dp, h, if_neg (by decide), if_pos rfl]
theorem dp_two {cd : Nat → Int32} {k s : Nat} (h : cd k = -(nI s)) (h1 : 1 ≤ s) (h2 : s ≤ 9) : q_dp cd (k + 1) = q_dp cd k - 1 := by
  have hs := neg_s s (by omega) h1
  rw [q_dp, h, if_neg hs.2.1, if_neg hs.2.2]
theorem ev_dp (nm cd : Nat → Int32) : ∀ k, (q_ev nm cd k).2 = q_dp cd k
  | 0 => rfl
  | k + 1 => by
    have h := ev_dp nm cd k
    rw [q_ev, q_dp]
    split
    · dsimp only; rw [h]
    · split
      · exact h
      · dsimp only; rw [h]
theorem ev_num {nm cd : Nat → Int32} {k v : Nat} (h : cd k = nI v) (hv : v < 10000) : (q_ev nm cd (k + 1)).1 = upd (q_ev nm cd k).1 (q_dp cd k) (nI v) := by
  rw [q_ev]
  rw [h, if_pos (nI_pos' (by omega)), if_pos ((lt_nI rfl (show (10000 : Int32) = nI 10000 from rfl) (by omega) (by omega)).mpr hv), ev_dp]
theorem sub_nI {a b : Nat} (h : b ≤ a) : nI a - nI b = nI (a - b) := pk_sub h
theorem ev_nam {nm cd : Nat → Int32} {k i : Nat} (h : cd k = nI (10000 + i)) (hv : i < 3) : (q_ev nm cd (k + 1)).1 = upd (q_ev nm cd k).1 (q_dp cd k) (nm i) := by
  rw [q_ev]
  rw [h, if_pos (nI_pos' (by omega)), if_neg (fun q => absurd ((lt_nI rfl (show (10000 : Int32) = nI 10000 from rfl) (by omega) (by omega)).mp q) (by omega)), ev_dp, show nI (10000 + i) - 10000 = nI i from by rw [show (10000 : Int32) = nI 10000 from rfl, sub_nI (by omega), Nat.add_sub_cancel_left], nI_clamp (by omega)]
theorem ev_not {nm cd : Nat → Int32} {k : Nat} (h : cd k = -10) : (q_ev nm cd (k + 1)).1 = upd (q_ev nm cd k).1 (q_dp cd k - 1) (if (q_ev nm cd k).1 (q_dp cd k - 1) = 0 then 1 else 0) := by
  rw [q_ev]
  rw [h, if_neg (by decide), if_pos rfl, ev_dp]
theorem ev_two {nm cd : Nat → Int32} {k s : Nat} (h : cd k = -(nI s)) (h1 : 1 ≤ s) (h2 : s ≤ 9) : (q_ev nm cd (k + 1)).1 = upd (q_ev nm cd k).1 (q_dp cd k - 2) (q_two (-(nI s)) ((q_ev nm cd k).1 (q_dp cd k - 2)) ((q_ev nm cd k).1 (q_dp cd k - 1))) := by
  have hs := neg_s s (by omega) h1
  rw [q_ev]
  rw [h, if_neg hs.2.1, if_neg hs.2.2, ev_dp]
/-- two rows agree below d -/
def Ag (f g : Nat → Int32) (d : Nat) : Prop := ∀ i, i < d → f i = g i
theorem Ag.put {f g : Nat → Int32} {d e k : Nat} {x y : Int32} (h : Ag f g d) (hxy : x = y) (he : e ≤ d ∨ (e = d + 1 ∧ k = d)) : Ag (upd f k x) (upd g k y) e := by
  intro i hi
  by_cases q : i = k
  · subst q; rw [upd_s, upd_s]; exact hxy
  · rw [upd_n q, upd_n q]
    exact h i (by omega)
theorem ix_cd (t k : Nat) : (94 : Int32) + 96 * nI t + nI k = nI (94 + 96 * t + k) := by rw [show (94 : Int32) = nI 94 from rfl, show (96 : Int32) = nI 96 from rfl, pk_mul, nI_add, nI_add]
theorem ix_tx (t : Nat) : (66 : Int32) + 2 * nI t = nI (66 + 2 * t) := by rw [show (66 : Int32) = nI 66 from rfl, show (2 : Int32) = nI 2 from rfl, pk_mul, nI_add]
theorem sub1_nI {d : Nat} (h : 1 ≤ d) : nI d - 1 = nI (d - 1) := by rw [show (1 : Int32) = nI 1 from rfl, sub_nI h]
theorem m1_nI {d : Nat} (h : 1 ≤ d) : nI d + -1 = nI (d - 1) := by rw [← sub1_nI h, Int32.sub_eq_add_neg]
set_option maxHeartbeats 1000000 in
set_option maxRecDepth 100000 in
theorem t_wo (l : Launch) (G : Gm) (I : Hp) (cd nm : Nat → Int32) (t len nn : Nat) (ht : t < 14) (hcde : ∀ k, I 87 (94 + 96 * t + k) = cd k) (hlen : irem (I 87 (66 + 2 * t)) 1000 = nI len) (hwf : WfT cd len nn) (hnn : nn ≤ 3) (hnm : ∀ i, i < nn → I 98 i = nm i) : Meth l G yX8_worksOut cX8_worksOut 6 (some (FieldType.int)) 2 0 0 [.ref 86, .int (nI t)] LAY I (fun r lay1 I1 => r = some (.int ((q_ev nm cd len).1 0)) ∧ lay1 = LAY ∧ ∀ q, q ≠ 97 → I1 q = I q) := by
  have hl96 := hwf.1
  have loop : ∀ (lpn : Nat) (k : Nat) (x tp : Int32) (o5 : Option Value) (K : Hp), len - k = lpn → (k ≤ len) → (x = nI k) → (tp = nI (q_dp cd k)) → (Ag (K 97) (q_ev nm cd k).1 (q_dp cd k)) → (∀ q, q ≠ 97 → K q = I q) → AW l G yX8_worksOut cX8_worksOut 6 (some (FieldType.int)) 2 0 0 (fun r lay1 I1 => r = some (.int ((q_ev nm cd len).1 0)) ∧ lay1 = LAY ∧ ∀ q, q ≠ 97 → I1 q = I q) 0 0 21 [some (.ref 86), some (.int (nI t)), some (.int tp), some (.int (nI len)), some (.int x), o5] [] LAY K := by
    intro lpn
    induction lpn using Nat.strongRecOn with
    | _ lpn ih =>
      intro k x tp o5 K hms hk hx htp hag hfr
      subst hx
      subst htp
      have hdl := dp_le cd k
      have hl96 := hwf.1
      refine A_iload rfl dX8_worksOut_21 ?_
      refine A_iload_n rfl dX8_worksOut_23 ?_
      refine A_icmp_ge 155 rfl dX8_worksOut_24 (fun cq24 => ?_) (fun cq24 => ?_)
      · skip
        have hkn := (le_nI rfl rfl (by omega) (by omega)).mp cq24
        have hke : k = len := by omega
        subst hke
        refine A_aload_n rfl dX8_worksOut_155 ?_
        refine A_getR fr_X8_46.g rfl lay_86 rfl dX8_worksOut_156 ?_
        refine A_iconst ic_0 dX8_worksOut_159 ?_
        refine A_iald 0 rfl lay_97 (by decide) (by decide) dX8_worksOut_160 ?_
        refine A_iret rfl rfl rfl rfl dX8_worksOut_161 ?_
        exact ⟨by rw [hag 0 (by have := hwf.2.1; omega)], rfl, hfr⟩
      · skip
        have hkn : k < len := by
          have hq1 := mt (le_nI (rfl : nI len = nI len) (rfl : nI k = nI k) (by omega) (by omega)).mpr cq24
          omega
        have hcd : K 87 (94 + 96 * t + k) = cd k := by rw [hfr 87 (by decide), hcde]
        refine A_aload_n rfl dX8_worksOut_27 ?_
        refine A_getR fr_X8_9.g rfl lay_86 rfl dX8_worksOut_28 ?_
        refine A_bipush bp_94 dX8_worksOut_31 ?_
        refine A_bipush bp_96 dX8_worksOut_33 ?_
        refine A_iload_n rfl dX8_worksOut_35 ?_
        refine A_imul dX8_worksOut_36 ?_
        refine A_iadd dX8_worksOut_37 ?_
        refine A_iload rfl dX8_worksOut_38 ?_
        refine A_iadd dX8_worksOut_40 ?_
        refine A_iald (94 + 96 * t + k) (ix_cd t k) lay_87 (by omega) (by decide) dX8_worksOut_41 ?_
        rcases hwf.2.2 k hkn with ⟨v, hv1, hcv⟩ | ⟨i, hi1, hcv⟩ | ⟨hcv, hd1⟩ | ⟨s0, hs1, hs2, hcv, hd2⟩
        · skip
          rw [show K 87 (94 + 96 * t + k) = nI v from hcd.trans hcv]
          refine A_istore (by decide) rfl dX8_worksOut_42 ?_
          refine A_iload rfl dX8_worksOut_44 ?_
          refine A_if_lt 85 rfl dX8_worksOut_46 (fun cq46 => absurd cq46 (nI_pos (by omega))) (fun cq46 => ?_)
          refine A_aload_n rfl dX8_worksOut_49 ?_
          refine A_getR fr_X8_46.g rfl lay_86 rfl dX8_worksOut_50 ?_
          refine A_iload_n rfl dX8_worksOut_53 ?_
          refine A_iload rfl dX8_worksOut_54 ?_
          refine A_sipush sp_10000 dX8_worksOut_56 ?_
          refine A_icmp_ge 67 rfl dX8_worksOut_59 (fun cq59 => absurd cq59 (fun h9 => absurd ((le_nI (show (10000 : Int32) = nI 10000 from rfl) rfl (by omega) (by omega)).mp h9) (by omega))) (fun cq59 => ?_)
          refine A_iload rfl dX8_worksOut_62 ?_
          refine A_goto 78 rfl dX8_worksOut_64 ?_
          refine A_iast _ rfl lay_97 (by omega) (by decide) dX8_worksOut_78 ?_
          refine A_iinc ic_1 rfl (by decide) rfl dX8_worksOut_79 ?_
          refine A_goto 149 rfl dX8_worksOut_82 ?_
          refine A_iinc ic_1 rfl (by decide) rfl dX8_worksOut_149 ?_
          refine A_goto 21 rfl dX8_worksOut_152 ?_
          refine ih (len - (k + 1)) (by omega) (k + 1) _ _ _ _ rfl (by omega) (nI_1 k) (by rw [dp_num hcv (by omega)]; exact nI_1 _) ?_ (fun q hq => by rw [up2_ne hq]; exact hfr q hq)
          rw [up2_row]
          rw [ev_num hcv hv1, dp_num hcv (by omega)]
          exact hag.put rfl (Or.inr ⟨rfl, rfl⟩)
        · skip
          rw [show K 87 (94 + 96 * t + k) = nI (10000 + i) from hcd.trans hcv]
          refine A_istore (by decide) rfl dX8_worksOut_42 ?_
          refine A_iload rfl dX8_worksOut_44 ?_
          refine A_if_lt 85 rfl dX8_worksOut_46 (fun cq46 => absurd cq46 (nI_pos (by omega))) (fun cq46 => ?_)
          refine A_aload_n rfl dX8_worksOut_49 ?_
          refine A_getR fr_X8_46.g rfl lay_86 rfl dX8_worksOut_50 ?_
          refine A_iload_n rfl dX8_worksOut_53 ?_
          refine A_iload rfl dX8_worksOut_54 ?_
          refine A_sipush sp_10000 dX8_worksOut_56 ?_
          refine A_icmp_ge 67 rfl dX8_worksOut_59 (fun cq59 => ?_) (fun cq59 => absurd ((le_nI (show (10000 : Int32) = nI 10000 from rfl) rfl (by omega) (by omega)).mpr (by omega)) cq59)
          refine A_aload_n rfl dX8_worksOut_67 ?_
          refine A_getR fr_X8_49.g rfl lay_86 rfl dX8_worksOut_68 ?_
          refine A_iload rfl dX8_worksOut_71 ?_
          refine A_sipush sp_10000 dX8_worksOut_73 ?_
          refine A_isub dX8_worksOut_76 ?_
          refine A_iald i (by rw [show (10000 : Int32) = nI 10000 from rfl, sub_nI (by omega), Nat.add_sub_cancel_left]) lay_98 (by omega) (by decide) dX8_worksOut_77 ?_
          refine A_iast _ rfl lay_97 (by omega) (by decide) dX8_worksOut_78 ?_
          refine A_iinc ic_1 rfl (by decide) rfl dX8_worksOut_79 ?_
          refine A_goto 149 rfl dX8_worksOut_82 ?_
          refine A_iinc ic_1 rfl (by decide) rfl dX8_worksOut_149 ?_
          refine A_goto 21 rfl dX8_worksOut_152 ?_
          refine ih (len - (k + 1)) (by omega) (k + 1) _ _ _ _ rfl (by omega) (nI_1 k) (by rw [dp_num hcv (by omega)]; exact nI_1 _) ?_ (fun q hq => by rw [up2_ne hq]; exact hfr q hq)
          rw [up2_row]
          rw [ev_nam hcv (by omega), dp_num hcv (by omega)]
          exact hag.put (by rw [hfr 98 (by decide)]; exact hnm i hi1) (Or.inr ⟨rfl, rfl⟩)
        · skip
          rw [show K 87 (94 + 96 * t + k) = -10 from hcd.trans hcv]
          refine A_istore (by decide) rfl dX8_worksOut_42 ?_
          refine A_iload rfl dX8_worksOut_44 ?_
          refine A_if_lt 85 rfl dX8_worksOut_46 (fun cq46 => ?_) (fun cq46 => absurd (by decide) cq46)
          refine A_iload rfl dX8_worksOut_85 ?_
          refine A_bipush bp_m10 dX8_worksOut_87 ?_
          refine A_icmp_ne 119 rfl dX8_worksOut_89 (fun cq89 => absurd (rfl) cq89) (fun cq89 => ?_)
          refine A_aload_n rfl dX8_worksOut_92 ?_
          refine A_getR fr_X8_46.g rfl lay_86 rfl dX8_worksOut_93 ?_
          refine A_iload_n rfl dX8_worksOut_96 ?_
          refine A_iconst ic_1 dX8_worksOut_97 ?_
          refine A_isub dX8_worksOut_98 ?_
          refine A_aload_n rfl dX8_worksOut_99 ?_
          refine A_getR fr_X8_46.g rfl lay_86 rfl dX8_worksOut_100 ?_
          refine A_iload_n rfl dX8_worksOut_103 ?_
          refine A_iconst ic_1 dX8_worksOut_104 ?_
          refine A_isub dX8_worksOut_105 ?_
          refine A_iald (q_dp cd k - 1) (sub1_nI hd1) lay_97 (by omega) (by decide) dX8_worksOut_106 ?_
          refine A_if_ne 114 rfl dX8_worksOut_107 (fun cq107 => ?_) (fun cq107 => ?_)
          · skip
            refine A_iconst ic_0 dX8_worksOut_114 ?_
            refine A_iast (q_dp cd k - 1) (sub1_nI hd1) lay_97 (by omega) (by decide) dX8_worksOut_115 ?_
            refine A_goto 149 rfl dX8_worksOut_116 ?_
            refine A_iinc ic_1 rfl (by decide) rfl dX8_worksOut_149 ?_
            refine A_goto 21 rfl dX8_worksOut_152 ?_
            refine ih (len - (k + 1)) (by omega) (k + 1) _ _ _ _ rfl (by omega) (nI_1 k) (by rw [dp_not hcv]) ?_ (fun q hq => by rw [up2_ne hq]; exact hfr q hq)
            rw [up2_row]
            rw [ev_not hcv, dp_not hcv]
            refine hag.put ?_ (Or.inl (Nat.le_refl _))
            rw [← hag (q_dp cd k - 1) (by omega)]
            first | exact (if_pos cq107).symm | exact (if_neg cq107).symm
          · skip
            refine A_iconst ic_1 dX8_worksOut_110 ?_
            refine A_goto 115 rfl dX8_worksOut_111 ?_
            refine A_iast (q_dp cd k - 1) (sub1_nI hd1) lay_97 (by omega) (by decide) dX8_worksOut_115 ?_
            refine A_goto 149 rfl dX8_worksOut_116 ?_
            refine A_iinc ic_1 rfl (by decide) rfl dX8_worksOut_149 ?_
            refine A_goto 21 rfl dX8_worksOut_152 ?_
            refine ih (len - (k + 1)) (by omega) (k + 1) _ _ _ _ rfl (by omega) (nI_1 k) (by rw [dp_not hcv]) ?_ (fun q hq => by rw [up2_ne hq]; exact hfr q hq)
            rw [up2_row]
            rw [ev_not hcv, dp_not hcv]
            refine hag.put ?_ (Or.inl (Nat.le_refl _))
            rw [← hag (q_dp cd k - 1) (by omega)]
            first | exact (if_pos cq107).symm | exact (if_neg cq107).symm
        · skip
          rw [show K 87 (94 + 96 * t + k) = -(nI s0) from hcd.trans hcv]
          refine A_istore (by decide) rfl dX8_worksOut_42 ?_
          refine A_iload rfl dX8_worksOut_44 ?_
          refine A_if_lt 85 rfl dX8_worksOut_46 (fun cq46 => ?_) (fun cq46 => absurd ((neg_s s0 (by omega) hs1).1) cq46)
          refine A_iload rfl dX8_worksOut_85 ?_
          refine A_bipush bp_m10 dX8_worksOut_87 ?_
          refine A_icmp_ne 119 rfl dX8_worksOut_89 (fun cq89 => ?_) (fun cq89 => absurd cq89 ((neg_s s0 (by omega) hs1).2.2))
          refine A_iinc ic_m1 rfl (by decide) rfl dX8_worksOut_119 ?_
          refine A_aload_n rfl dX8_worksOut_122 ?_
          refine A_getR fr_X8_46.g rfl lay_86 rfl dX8_worksOut_123 ?_
          refine A_iload_n rfl dX8_worksOut_126 ?_
          refine A_iconst ic_1 dX8_worksOut_127 ?_
          refine A_isub dX8_worksOut_128 ?_
          refine A_iload rfl dX8_worksOut_129 ?_
          refine A_aload_n rfl dX8_worksOut_131 ?_
          refine A_getR fr_X8_46.g rfl lay_86 rfl dX8_worksOut_132 ?_
          refine A_iload_n rfl dX8_worksOut_135 ?_
          refine A_iconst ic_1 dX8_worksOut_136 ?_
          refine A_isub dX8_worksOut_137 ?_
          refine A_iald (q_dp cd k - 2) (by rw [m1_nI (by omega), sub1_nI (by omega)]; rfl) lay_97 (by omega) (by decide) dX8_worksOut_138 ?_
          refine A_aload_n rfl dX8_worksOut_139 ?_
          refine A_getR fr_X8_46.g rfl lay_86 rfl dX8_worksOut_140 ?_
          refine A_iload_n rfl dX8_worksOut_143 ?_
          refine A_iald (q_dp cd k - 1) (m1_nI (by omega)) lay_97 (by omega) (by decide) dX8_worksOut_144 ?_
          refine A_callS (t_two l G _ _ _ _ _) m_X8_two ml_X8_265 rfl rfl rfl (Nat.le_of_ble_eq_true rfl) (by decide) (by decide) (by decide) dX8_worksOut_145 (fun _ _ _ h => congrArg List.length h.2.1) ?_
          rintro _ _ _ ⟨rfl, rfl, e9⟩
          refine AW_I e9 ?_
          clear e9
          refine A_iast (q_dp cd k - 2) (by rw [m1_nI (by omega), sub1_nI (by omega)]; rfl) lay_97 (by omega) (by decide) dX8_worksOut_148 ?_
          refine A_iinc ic_1 rfl (by decide) rfl dX8_worksOut_149 ?_
          refine A_goto 21 rfl dX8_worksOut_152 ?_
          refine ih (len - (k + 1)) (by omega) (k + 1) _ _ _ _ rfl (by omega) (nI_1 k) (by rw [dp_two hcv hs1 hs2]; exact m1_nI (by omega)) ?_ (fun q hq => by rw [up2_ne hq]; exact hfr q hq)
          rw [up2_row]
          rw [ev_two hcv hs1 hs2, dp_two hcv hs1 hs2]
          exact hag.put (by rw [hag (q_dp cd k - 2) (by omega), hag (q_dp cd k - 1) (by omega)]) (Or.inl (by omega))
  refine Meth.of (by decide +kernel) (by simp [Value.category]) (Nat.le_of_ble_eq_true rfl) ?_
  refine A_iconst ic_0 dX8_worksOut_0 ?_
  refine A_istore_n (by decide) rfl dX8_worksOut_1 ?_
  refine A_aload_n rfl dX8_worksOut_2 ?_
  refine A_getR fr_X8_9.g rfl lay_86 rfl dX8_worksOut_3 ?_
  refine A_bipush bp_66 dX8_worksOut_6 ?_
  refine A_iconst ic_2 dX8_worksOut_8 ?_
  refine A_iload_n rfl dX8_worksOut_9 ?_
  refine A_imul dX8_worksOut_10 ?_
  refine A_iadd dX8_worksOut_11 ?_
  refine A_iald (66 + 2 * t) (ix_tx t) lay_87 (by omega) (by decide) dX8_worksOut_12 ?_
  refine A_sipush sp_1000 dX8_worksOut_13 ?_
  refine A_irem dX8_worksOut_16 (by decide) ?_
  rw [show I 87 (66 + 2 * t) - I 87 (66 + 2 * t) / 1000 * 1000 = nI len from hlen]
  refine A_istore_n (by decide) rfl dX8_worksOut_17 ?_
  refine A_iconst ic_0 dX8_worksOut_18 ?_
  refine A_istore (by decide) rfl dX8_worksOut_19 ?_
  exact loop len 0 _ _ _ I rfl (by omega) nI_0.symm rfl (fun i hi => absurd hi (by simp [q_dp])) (fun _ _ => rfl)
