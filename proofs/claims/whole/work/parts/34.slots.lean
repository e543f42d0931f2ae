theorem SlM.lay {I J : Hp} {H A B : Nrow} {E E2 : Fn2} {i : Nat} {t a b : Int32} (h : SlM I H A B E) (hi : i < 5) (h0 : J 102 = upd (I 102) i t) (h1 : J 103 = upd (I 103) i a) (h2 : J 104 = upd (I 104) i b) (h3 : ∀ q, q < 5 → ∀ k, k < 24 → J 105 (24 * q + k) = E2 q k) : SlM J (upd H i t) (upd A i a) (upd B i b) E2 := by
  intro q hq
  rw [h0, h1, h2]
  refine ⟨?_, ?_, ?_, h3 q hq⟩
  · by_cases e : q = i
    · subst e; rw [upd_s, upd_s]
    · rw [upd_n e, upd_n e]; exact (h q hq).1
  · by_cases e : q = i
    · subst e; rw [upd_s, upd_s]
    · rw [upd_n e, upd_n e]; exact (h q hq).2.1
  · by_cases e : q = i
    · subst e; rw [upd_s, upd_s]
    · rw [upd_n e, upd_n e]; exact (h q hq).2.2.1
set_option maxHeartbeats 1000000 in
set_option maxRecDepth 100000 in
theorem m_lay (l : Launch) (G : Gm) (I : Hp) (N : Nrow) (h87 : I 87 = N) (n : Nat) (hn : n ≤ 10) (hN : N 1 = nI n) (S Z : Nrow) (C : Fn2) (hSh : ShM I S Z C) (hSW : ShW S Z C) (H A B : Nrow) (E : Fn2) (hS : SlM I H A B E) (hW : SlW H A) (q t x : Int32) : Meth l G yX8_lay cX8_lay 6 (some (FieldType.int)) 4 0 0 [.ref 86, .int q, .int t, .int x] LAY I (fun r lay1 I1 => r = some (.int (g_lay S H N q t x).1) ∧ lay1 = LAY ∧ (∀ z, (z ≠ 102 ∧ z ≠ 103 ∧ z ≠ 104 ∧ z ≠ 105) → I1 z = I z) ∧ SlM I1 (if (g_lay S H N q t x).2 then upd H q.toNatClampNeg t else H) (if (g_lay S H N q t x).2 then upd A q.toNatClampNeg (a_lay Z N t x) else A) (if (g_lay S H N q t x).2 then upd B q.toNatClampNeg (b_lay N t x) else B) (if (g_lay S H N q t x).2 then e_lay C E q t x else E)) := by
  subst h87
  have loop : ∀ (lpn : Nat) (i k : Nat) (K : Hp), 24 - k = lpn → (q = nI i) → (i < 5) → (k ≤ 24) → ((0 ≤ q ∧ q ≤ 4) ∧ (0 ≤ t ∧ t ≤ 3)) → ((t = 1 ∧ (0 ≤ x ∧ x < I 87 1)) ∨ (t = 2 ∧ (0 ≤ x ∧ x ≤ 3) ∧ ¬ S x.toNatClampNeg = -1) ∨ (¬ t = 1 ∧ ¬ t = 2)) → (g_lay S H (I 87) q t x = (H i, true)) → (K 102 = upd (I 102) i t) → (K 103 = upd (I 103) i (a_lay Z (I 87) t x)) → (K 104 = upd (I 104) i (b_lay (I 87) t x)) → (∀ z, (z < 24 * i ∨ 24 * i + k ≤ z ∨ ¬ t = 2) → K 105 z = I 105 z) → (t = 2 → ∀ z, z < k → K 105 (24 * i + z) = C x.toNatClampNeg z) → (∀ z, z ≠ 102 → z ≠ 103 → z ≠ 104 → z ≠ 105 → K z = I z) → AW l G yX8_lay cX8_lay 6 (some (FieldType.int)) 4 0 0 (fun r lay1 I1 => r = some (.int (g_lay S H (I 87) q t x).1) ∧ lay1 = LAY ∧ (∀ z, (z ≠ 102 ∧ z ≠ 103 ∧ z ≠ 104 ∧ z ≠ 105) → I1 z = I z) ∧ SlM I1 (if (g_lay S H (I 87) q t x).2 then upd H q.toNatClampNeg t else H) (if (g_lay S H (I 87) q t x).2 then upd A q.toNatClampNeg (a_lay Z (I 87) t x) else A) (if (g_lay S H (I 87) q t x).2 then upd B q.toNatClampNeg (b_lay (I 87) t x) else B) (if (g_lay S H (I 87) q t x).2 then e_lay C E q t x else E)) 0 0 134 [some (.ref 86), some (.int q), some (.int t), some (.int x), some (.int (H i)), some (.int (nI k))] [] LAY K := by
    intro lpn
    induction lpn using Nat.strongRecOn with
    | _ lpn ih =>
      intro i k K hms hqi hi hk hok hcase heg h2 h3 h4 h5 h6 hfr
      subst hqi
      refine A_iload rfl dX8_lay_134 ?_
      refine A_bipush bp_24 dX8_lay_136 ?_
      refine A_icmp_ge 176 rfl dX8_lay_138 (fun cq138 => ?_) (fun cq138 => ?_)
      · skip
        refine A_iload rfl dX8_lay_176 ?_
        refine A_iret rfl rfl rfl rfl dX8_lay_178 ?_
        have h56 : ∀ q, q < 5 → ∀ k, k < 24 → K 105 (24 * q + k) = e_lay C E (nI i) t x q k := by
          intro z hz y hy
          unfold e_lay
          by_cases ht2 : t = 2
          · have hk24 : k = 24 := by
              first
                | (have h7 := (le_nI (show (24 : Int32) = nI 24 from rfl) (rfl : nI k = nI k) (by omega) (by omega)).mp cq138; omega)
                | exact absurd ht2 cq143
            subst hk24
            rw [if_pos ht2, r_row, nI_clamp (by omega)]
            by_cases e : z = i
            · subst e; rw [if_pos rfl]; exact h6 ht2 y hy
            · rw [if_neg e, h5 _ (by omega)]; exact (hS z hz).2.2.2 y hy
          · rw [if_neg ht2, h5 _ (Or.inr (Or.inr ht2))]; exact (hS z hz).2.2.2 y hy
        rw [heg, if_pos rfl, if_pos rfl, if_pos rfl, if_pos rfl, nI_clamp (by omega)]
        exact ⟨rfl, rfl, fun z hz => hfr z hz.1 hz.2.1 hz.2.2.1 hz.2.2.2, hS.lay hi h2 h3 h4 h56⟩
      · skip
        have hkn : k < 24 := by
          have hq1 := mt (le_nI (show (24 : Int32) = nI 24 from rfl) (rfl : nI k = nI k) (by omega) (by omega)).mpr cq138
          omega
        refine A_iload_n rfl dX8_lay_141 ?_
        refine A_iconst ic_2 dX8_lay_142 ?_
        refine A_icmp_ne 176 rfl dX8_lay_143 (fun cq143 => ?_) (fun cq143 => ?_)
        · skip
          refine A_iload rfl dX8_lay_176 ?_
          refine A_iret rfl rfl rfl rfl dX8_lay_178 ?_
          have h56 : ∀ q, q < 5 → ∀ k, k < 24 → K 105 (24 * q + k) = e_lay C E (nI i) t x q k := by
            intro z hz y hy
            unfold e_lay
            by_cases ht2 : t = 2
            · have hk24 : k = 24 := by
                first
                  | (have h7 := (le_nI (show (24 : Int32) = nI 24 from rfl) (rfl : nI k = nI k) (by omega) (by omega)).mp cq138; omega)
                  | exact absurd ht2 cq143
              subst hk24
              rw [if_pos ht2, r_row, nI_clamp (by omega)]
              by_cases e : z = i
              · subst e; rw [if_pos rfl]; exact h6 ht2 y hy
              · rw [if_neg e, h5 _ (by omega)]; exact (hS z hz).2.2.2 y hy
            · rw [if_neg ht2, h5 _ (Or.inr (Or.inr ht2))]; exact (hS z hz).2.2.2 y hy
          rw [heg, if_pos rfl, if_pos rfl, if_pos rfl, if_pos rfl, nI_clamp (by omega)]
          exact ⟨rfl, rfl, fun z hz => hfr z hz.1 hz.2.1 hz.2.2.1 hz.2.2.2, hS.lay hi h2 h3 h4 h56⟩
        · skip
          obtain ⟨hx1, hx2⟩ : (0 ≤ x ∧ x ≤ 3) ∧ ¬ S x.toNatClampNeg = -1 := by
            rcases hcase with h9 | h9 | h9
            · exact absurd (h9.1.symm.trans cq143) (by decide)
            · exact h9.2
            · exact absurd cq143 h9.2
          obtain ⟨u, hu, rfl⟩ := in_get (a := 3) rfl hx1
          replace hu : u < 4 := by omega
          have ec : K 101 (24 * u + k) = C u k := by rw [hfr 101 (by decide) (by decide) (by decide) (by decide)]; exact (hSh u hu).2.2 k hkn
          refine A_aload_n rfl dX8_lay_146 ?_
          refine A_getR fr_X8_70.g rfl lay_86 rfl dX8_lay_147 ?_
          refine A_bipush bp_24 dX8_lay_150 ?_
          refine A_iload_n rfl dX8_lay_152 ?_
          refine A_imul dX8_lay_153 ?_
          refine A_iload rfl dX8_lay_154 ?_
          refine A_iadd dX8_lay_156 ?_
          refine A_aload_n rfl dX8_lay_157 ?_
          refine A_getR fr_X8_58.g rfl lay_86 rfl dX8_lay_158 ?_
          refine A_bipush bp_24 dX8_lay_161 ?_
          refine A_iload_n rfl dX8_lay_163 ?_
          refine A_imul dX8_lay_164 ?_
          refine A_iload rfl dX8_lay_165 ?_
          refine A_iadd dX8_lay_167 ?_
          refine A_iald (24 * u + k) (ix_24 u k) lay_101 (by omega) (by decide) dX8_lay_168 ?_
          rw [ec]
          refine A_iast (24 * i + k) (ix_24 i k) lay_105 (by omega) (by decide) dX8_lay_169 ?_
          refine A_iinc ic_1 rfl (by decide) rfl dX8_lay_170 ?_
          refine A_goto 134 rfl dX8_lay_173 ?_
          refine AW_L (by rw [nI_1 k]) ?_
          refine ih (24 - (k + 1)) (by omega) i (k + 1) _ rfl rfl hi (by omega) hok hcase heg (by rw [up2_ne (by decide)]; exact h2) (by rw [up2_ne (by decide)]; exact h3) (by rw [up2_ne (by decide)]; exact h4) (fun z hz => ?_) (fun h9 z hz => ?_) (fun z a b c e => by rw [up2_ne e]; exact hfr z a b c e)
          · rcases hz with hz | hz | hz
            · rw [up2_ni (by omega)]; exact h5 z (Or.inl hz)
            · rw [up2_ni (by omega)]; exact h5 z (Or.inr (Or.inl (by omega)))
            · exact absurd cq143 hz
          · by_cases e : z = k
            · subst e; rw [up2_same, nI_clamp (by omega)]
            · rw [up2_ni (by omega)]; exact h6 h9 z (by omega)
  have j61 : ∀ (i : Nat), (q = nI i) → (i < 5) → ((0 ≤ q ∧ q ≤ 4) ∧ (0 ≤ t ∧ t ≤ 3)) → ((t = 1 ∧ (0 ≤ x ∧ x < I 87 1)) ∨ (t = 2 ∧ (0 ≤ x ∧ x ≤ 3) ∧ ¬ S x.toNatClampNeg = -1) ∨ (¬ t = 1 ∧ ¬ t = 2)) → AW l G yX8_lay cX8_lay 6 (some (FieldType.int)) 4 0 0 (fun r lay1 I1 => r = some (.int (g_lay S H (I 87) q t x).1) ∧ lay1 = LAY ∧ (∀ z, (z ≠ 102 ∧ z ≠ 103 ∧ z ≠ 104 ∧ z ≠ 105) → I1 z = I z) ∧ SlM I1 (if (g_lay S H (I 87) q t x).2 then upd H q.toNatClampNeg t else H) (if (g_lay S H (I 87) q t x).2 then upd A q.toNatClampNeg (a_lay Z (I 87) t x) else A) (if (g_lay S H (I 87) q t x).2 then upd B q.toNatClampNeg (b_lay (I 87) t x) else B) (if (g_lay S H (I 87) q t x).2 then e_lay C E q t x else E)) 0 0 61 [some (.ref 86), some (.int q), some (.int t), some (.int x), none, none] [] LAY I := by
    intro i hqi hi hok hcase
    subst hqi
    have eH : I 102 i = H i := (hS i hi).1
    have eg : g_lay S H (I 87) (nI i) t x = (H i, true) := by
      rcases hcase with ⟨h8, h9⟩ | ⟨h8, h9, h10⟩ | ⟨h8, h9⟩
      · rw [g_lay, if_pos hok, if_pos h8, if_pos h9, nI_clamp (by omega)]
      · rw [g_lay, if_pos hok, if_neg (by rw [h8]; decide), if_pos h8, if_pos h9, if_neg h10, nI_clamp (by omega)]
      · rw [g_lay, if_pos hok, if_neg h8, if_neg h9, nI_clamp (by omega)]
    have hx1 : t = 1 → ∃ u, u < n ∧ x = nI u := by
      intro h7
      rcases hcase with h9 | h9 | h9
      · exact jur_get hn hN h9.2
      · exact absurd (h9.1.symm.trans h7) (by decide)
      · exact absurd h7 h9.1
    have hx2 : t = 2 → ∃ u, u < 4 ∧ x = nI u := by
      intro h7
      rcases hcase with h9 | h9 | h9
      · exact absurd (h9.1.symm.trans h7) (by decide)
      · obtain ⟨u, hu, e⟩ := in_get (a := 3) rfl h9.2.1; exact ⟨u, by omega, e⟩
      · exact absurd h7 h9.2
    refine A_aload_n rfl dX8_lay_61 ?_
    refine A_getR fr_X8_61.g rfl lay_86 rfl dX8_lay_62 ?_
    refine A_iload_n rfl dX8_lay_65 ?_
    refine A_iald i rfl lay_102 (by omega) (by decide) dX8_lay_66 ?_
    rw [eH]
    refine A_istore (by decide) rfl dX8_lay_67 ?_
    refine A_aload_n rfl dX8_lay_69 ?_
    refine A_getR fr_X8_61.g rfl lay_86 rfl dX8_lay_70 ?_
    refine A_iload_n rfl dX8_lay_73 ?_
    refine A_iload_n rfl dX8_lay_74 ?_
    refine A_iast i rfl lay_102 (by omega) (by decide) dX8_lay_75 ?_
    refine A_aload_n rfl dX8_lay_76 ?_
    refine A_getR fr_X8_64.g rfl lay_86 rfl dX8_lay_77 ?_
    refine A_iload_n rfl dX8_lay_80 ?_
    refine A_iload_n rfl dX8_lay_81 ?_
    refine A_iconst ic_1 dX8_lay_82 ?_
    refine A_icmp_ne 95 rfl dX8_lay_83 (fun cq83 => ?_) (fun cq83 => ?_)
    · skip
      refine A_iload_n rfl dX8_lay_95 ?_
      refine A_iconst ic_2 dX8_lay_96 ?_
      refine A_icmp_ne 109 rfl dX8_lay_97 (fun cq97 => ?_) (fun cq97 => ?_)
      · skip
        refine A_iload_n rfl dX8_lay_109 ?_
        refine A_iast i rfl lay_103 (by omega) (by decide) dX8_lay_110 ?_
        refine A_aload_n rfl dX8_lay_111 ?_
        refine A_getR fr_X8_67.g rfl lay_86 rfl dX8_lay_112 ?_
        refine A_iload_n rfl dX8_lay_115 ?_
        refine A_iload_n rfl dX8_lay_116 ?_
        refine A_iconst ic_1 dX8_lay_117 ?_
        refine A_icmp_ne 129 rfl dX8_lay_118 (fun cq118 => ?_) (fun cq118 => ?_)
        · skip
          refine A_iconst ic_0 dX8_lay_129 ?_
          refine A_iast i rfl lay_104 (by omega) (by decide) dX8_lay_130 ?_
          refine A_iconst ic_0 dX8_lay_131 ?_
          refine A_istore (by decide) rfl dX8_lay_132 ?_
          first
            | exact absurd cq83 cq118
            | exact absurd cq118 cq83
            | (refine loop 24 i 0 _ rfl rfl hi (by omega) hok hcase eg ?_ ?_ ?_ (fun z _ => by rw [up2_ne (by decide), up2_ne (by decide), up2_ne (by decide)]) (fun _ z hz => absurd hz (by omega)) (fun z a b c e => by rw [up2_ne c, up2_ne b, up2_ne a])
               · rw [up2_ne (by decide), up2_ne (by decide), up2_row]
               · rw [up2_ne (by decide), up2_row, up2_ne (by decide), a_lay]
                 first | (have h7 : t = 1 := cq83; rw [if_pos h7, nI_clamp (by omega)]) | (have h7 : t = 2 := cq97; rw [if_neg (by rw [h7]; decide), if_pos h7, nI_clamp (by omega)]) | (have h6 : ¬ t = 1 := cq83; have h7 : ¬ t = 2 := cq97; rw [if_neg h6, if_neg h7])
               · rw [up2_row, up2_ne (by decide), up2_ne (by decide), b_lay]
                 first | (have h7 : t = 1 := cq118; rw [if_pos h7, nI_clamp (by omega)]) | (have h7 : ¬ t = 1 := cq118; rw [if_neg h7]))
        · skip
          obtain ⟨u2, hu2, e2⟩ := hx1 cq118
          first | subst e2 | (obtain rfl := (nI_eq (by omega) (by omega)).mp e2)
          refine A_aload_n rfl dX8_lay_121 ?_
          refine A_iload_n rfl dX8_lay_122 ?_
          refine A_callV (t_worth l G _ (I 87) (by rw [up2_ne (by decide), up2_ne (by decide)]) _ (by omega)) m_X8_worthOf ml_X8_128 rfl lay_86 rfl (by decide) rfl rfl (Nat.le_of_ble_eq_true rfl) (by decide) (by decide) (by decide) dX8_lay_123 (fun _ _ _ h => congrArg List.length h.2.1) ?_
          rintro _ _ _ ⟨rfl, rfl, e9⟩
          refine AW_I e9 ?_
          clear e9
          refine A_goto 130 rfl dX8_lay_126 ?_
          refine A_iast i rfl lay_104 (by omega) (by decide) dX8_lay_130 ?_
          refine A_iconst ic_0 dX8_lay_131 ?_
          refine A_istore (by decide) rfl dX8_lay_132 ?_
          first
            | exact absurd cq83 cq118
            | exact absurd cq118 cq83
            | (refine loop 24 i 0 _ rfl rfl hi (by omega) hok hcase eg ?_ ?_ ?_ (fun z _ => by rw [up2_ne (by decide), up2_ne (by decide), up2_ne (by decide)]) (fun _ z hz => absurd hz (by omega)) (fun z a b c e => by rw [up2_ne c, up2_ne b, up2_ne a])
               · rw [up2_ne (by decide), up2_ne (by decide), up2_row]
               · rw [up2_ne (by decide), up2_row, up2_ne (by decide), a_lay]
                 first | (have h7 : t = 1 := cq83; rw [if_pos h7, nI_clamp (by omega)]) | (have h7 : t = 2 := cq97; rw [if_neg (by rw [h7]; decide), if_pos h7, nI_clamp (by omega)]) | (have h6 : ¬ t = 1 := cq83; have h7 : ¬ t = 2 := cq97; rw [if_neg h6, if_neg h7])
               · rw [up2_row, up2_ne (by decide), up2_ne (by decide), b_lay]
                 first | (have h7 : t = 1 := cq118; rw [if_pos h7, nI_clamp (by omega)]) | (have h7 : ¬ t = 1 := cq118; rw [if_neg h7]))
      · skip
        obtain ⟨u, hu, rfl⟩ := hx2 cq97
        have ez : (up2 I 102 i t) 100 u = Z u := by rw [up2_ne (by decide)]; exact (hSh u hu).2.1
        refine A_aload_n rfl dX8_lay_100 ?_
        refine A_getR fr_X8_55.g rfl lay_86 rfl dX8_lay_101 ?_
        refine A_iload_n rfl dX8_lay_104 ?_
        refine A_iald u rfl lay_100 (by omega) (by decide) dX8_lay_105 ?_
        rw [ez]
        refine A_goto 110 rfl dX8_lay_106 ?_
        refine A_iast i rfl lay_103 (by omega) (by decide) dX8_lay_110 ?_
        refine A_aload_n rfl dX8_lay_111 ?_
        refine A_getR fr_X8_67.g rfl lay_86 rfl dX8_lay_112 ?_
        refine A_iload_n rfl dX8_lay_115 ?_
        refine A_iload_n rfl dX8_lay_116 ?_
        refine A_iconst ic_1 dX8_lay_117 ?_
        refine A_icmp_ne 129 rfl dX8_lay_118 (fun cq118 => ?_) (fun cq118 => ?_)
        · skip
          refine A_iconst ic_0 dX8_lay_129 ?_
          refine A_iast i rfl lay_104 (by omega) (by decide) dX8_lay_130 ?_
          refine A_iconst ic_0 dX8_lay_131 ?_
          refine A_istore (by decide) rfl dX8_lay_132 ?_
          first
            | exact absurd cq83 cq118
            | exact absurd cq118 cq83
            | (refine loop 24 i 0 _ rfl rfl hi (by omega) hok hcase eg ?_ ?_ ?_ (fun z _ => by rw [up2_ne (by decide), up2_ne (by decide), up2_ne (by decide)]) (fun _ z hz => absurd hz (by omega)) (fun z a b c e => by rw [up2_ne c, up2_ne b, up2_ne a])
               · rw [up2_ne (by decide), up2_ne (by decide), up2_row]
               · rw [up2_ne (by decide), up2_row, up2_ne (by decide), a_lay]
                 first | (have h7 : t = 1 := cq83; rw [if_pos h7, nI_clamp (by omega)]) | (have h7 : t = 2 := cq97; rw [if_neg (by rw [h7]; decide), if_pos h7, nI_clamp (by omega)]) | (have h6 : ¬ t = 1 := cq83; have h7 : ¬ t = 2 := cq97; rw [if_neg h6, if_neg h7])
               · rw [up2_row, up2_ne (by decide), up2_ne (by decide), b_lay]
                 first | (have h7 : t = 1 := cq118; rw [if_pos h7, nI_clamp (by omega)]) | (have h7 : ¬ t = 1 := cq118; rw [if_neg h7]))
        · skip
          obtain ⟨u2, hu2, e2⟩ := hx1 cq118
          first | subst e2 | (obtain rfl := (nI_eq (by omega) (by omega)).mp e2)
          refine A_aload_n rfl dX8_lay_121 ?_
          refine A_iload_n rfl dX8_lay_122 ?_
          refine A_callV (t_worth l G _ (I 87) (by rw [up2_ne (by decide), up2_ne (by decide)]) _ (by omega)) m_X8_worthOf ml_X8_128 rfl lay_86 rfl (by decide) rfl rfl (Nat.le_of_ble_eq_true rfl) (by decide) (by decide) (by decide) dX8_lay_123 (fun _ _ _ h => congrArg List.length h.2.1) ?_
          rintro _ _ _ ⟨rfl, rfl, e9⟩
          refine AW_I e9 ?_
          clear e9
          refine A_goto 130 rfl dX8_lay_126 ?_
          refine A_iast i rfl lay_104 (by omega) (by decide) dX8_lay_130 ?_
          refine A_iconst ic_0 dX8_lay_131 ?_
          refine A_istore (by decide) rfl dX8_lay_132 ?_
          first
            | exact absurd cq83 cq118
            | exact absurd cq118 cq83
            | (refine loop 24 i 0 _ rfl rfl hi (by omega) hok hcase eg ?_ ?_ ?_ (fun z _ => by rw [up2_ne (by decide), up2_ne (by decide), up2_ne (by decide)]) (fun _ z hz => absurd hz (by omega)) (fun z a b c e => by rw [up2_ne c, up2_ne b, up2_ne a])
               · rw [up2_ne (by decide), up2_ne (by decide), up2_row]
               · rw [up2_ne (by decide), up2_row, up2_ne (by decide), a_lay]
                 first | (have h7 : t = 1 := cq83; rw [if_pos h7, nI_clamp (by omega)]) | (have h7 : t = 2 := cq97; rw [if_neg (by rw [h7]; decide), if_pos h7, nI_clamp (by omega)]) | (have h6 : ¬ t = 1 := cq83; have h7 : ¬ t = 2 := cq97; rw [if_neg h6, if_neg h7])
               · rw [up2_row, up2_ne (by decide), up2_ne (by decide), b_lay]
                 first | (have h7 : t = 1 := cq118; rw [if_pos h7, nI_clamp (by omega)]) | (have h7 : ¬ t = 1 := cq118; rw [if_neg h7]))
    · skip
      obtain ⟨u, hu, rfl⟩ := hx1 cq83
      refine A_aload_n rfl dX8_lay_86 ?_
      refine A_iload_n rfl dX8_lay_87 ?_
      refine A_iconst ic_0 dX8_lay_88 ?_
      refine A_callV (t_of l G _ (I 87) (by rw [up2_ne (by decide)]) u 0 (by omega)) m_X8_of ml_X8_94 rfl lay_86 rfl (by decide) rfl rfl (Nat.le_of_ble_eq_true rfl) (by decide) (by decide) (by decide) dX8_lay_89 (fun _ _ _ h => congrArg List.length h.2.1) ?_
      rintro _ _ _ ⟨rfl, rfl, e9⟩
      refine AW_I e9 ?_
      clear e9
      refine A_goto 110 rfl dX8_lay_92 ?_
      refine A_iast i rfl lay_103 (by omega) (by decide) dX8_lay_110 ?_
      refine A_aload_n rfl dX8_lay_111 ?_
      refine A_getR fr_X8_67.g rfl lay_86 rfl dX8_lay_112 ?_
      refine A_iload_n rfl dX8_lay_115 ?_
      refine A_iload_n rfl dX8_lay_116 ?_
      refine A_iconst ic_1 dX8_lay_117 ?_
      refine A_icmp_ne 129 rfl dX8_lay_118 (fun cq118 => ?_) (fun cq118 => ?_)
      · skip
        refine A_iconst ic_0 dX8_lay_129 ?_
        refine A_iast i rfl lay_104 (by omega) (by decide) dX8_lay_130 ?_
        refine A_iconst ic_0 dX8_lay_131 ?_
        refine A_istore (by decide) rfl dX8_lay_132 ?_
        first
          | exact absurd cq83 cq118
          | exact absurd cq118 cq83
          | (refine loop 24 i 0 _ rfl rfl hi (by omega) hok hcase eg ?_ ?_ ?_ (fun z _ => by rw [up2_ne (by decide), up2_ne (by decide), up2_ne (by decide)]) (fun _ z hz => absurd hz (by omega)) (fun z a b c e => by rw [up2_ne c, up2_ne b, up2_ne a])
             · rw [up2_ne (by decide), up2_ne (by decide), up2_row]
             · rw [up2_ne (by decide), up2_row, up2_ne (by decide), a_lay]
               first | (have h7 : t = 1 := cq83; rw [if_pos h7, nI_clamp (by omega)]) | (have h7 : t = 2 := cq97; rw [if_neg (by rw [h7]; decide), if_pos h7, nI_clamp (by omega)]) | (have h6 : ¬ t = 1 := cq83; have h7 : ¬ t = 2 := cq97; rw [if_neg h6, if_neg h7])
             · rw [up2_row, up2_ne (by decide), up2_ne (by decide), b_lay]
               first | (have h7 : t = 1 := cq118; rw [if_pos h7, nI_clamp (by omega)]) | (have h7 : ¬ t = 1 := cq118; rw [if_neg h7]))
      · skip
        obtain ⟨u2, hu2, e2⟩ := hx1 cq118
        first | subst e2 | (obtain rfl := (nI_eq (by omega) (by omega)).mp e2)
        refine A_aload_n rfl dX8_lay_121 ?_
        refine A_iload_n rfl dX8_lay_122 ?_
        refine A_callV (t_worth l G _ (I 87) (by rw [up2_ne (by decide), up2_ne (by decide)]) _ (by omega)) m_X8_worthOf ml_X8_128 rfl lay_86 rfl (by decide) rfl rfl (Nat.le_of_ble_eq_true rfl) (by decide) (by decide) (by decide) dX8_lay_123 (fun _ _ _ h => congrArg List.length h.2.1) ?_
        rintro _ _ _ ⟨rfl, rfl, e9⟩
        refine AW_I e9 ?_
        clear e9
        refine A_goto 130 rfl dX8_lay_126 ?_
        refine A_iast i rfl lay_104 (by omega) (by decide) dX8_lay_130 ?_
        refine A_iconst ic_0 dX8_lay_131 ?_
        refine A_istore (by decide) rfl dX8_lay_132 ?_
        first
          | exact absurd cq83 cq118
          | exact absurd cq118 cq83
          | (refine loop 24 i 0 _ rfl rfl hi (by omega) hok hcase eg ?_ ?_ ?_ (fun z _ => by rw [up2_ne (by decide), up2_ne (by decide), up2_ne (by decide)]) (fun _ z hz => absurd hz (by omega)) (fun z a b c e => by rw [up2_ne c, up2_ne b, up2_ne a])
             · rw [up2_ne (by decide), up2_ne (by decide), up2_row]
             · rw [up2_ne (by decide), up2_row, up2_ne (by decide), a_lay]
               first | (have h7 : t = 1 := cq83; rw [if_pos h7, nI_clamp (by omega)]) | (have h7 : t = 2 := cq97; rw [if_neg (by rw [h7]; decide), if_pos h7, nI_clamp (by omega)]) | (have h6 : ¬ t = 1 := cq83; have h7 : ¬ t = 2 := cq97; rw [if_neg h6, if_neg h7])
             · rw [up2_row, up2_ne (by decide), up2_ne (by decide), b_lay]
               first | (have h7 : t = 1 := cq118; rw [if_pos h7, nI_clamp (by omega)]) | (have h7 : ¬ t = 1 := cq118; rw [if_neg h7]))
  refine Meth.of (by decide +kernel) (by simp [Value.category]) (Nat.le_of_ble_eq_true rfl) ?_
  refine A_iload_n rfl dX8_lay_0 ?_
  refine A_callS (s_isSlotM l G _ _ _) m_X8_isSlot ml_X8_272 rfl rfl rfl (Nat.le_of_ble_eq_true rfl) (by decide) (by decide) (by decide) dX8_lay_1 (fun _ _ _ h => congrArg List.length h.2.1) ?_
  rintro _ _ _ ⟨rfl, rfl, e9⟩
  refine AW_I e9 ?_
  clear e9
  refine A_if_eq 41 rfl dX8_lay_4 (fun cq4 => ?_) (fun cq4 => ?_)
  · skip
    refine A_ldc kc_X8_88 rfl dX8_lay_41 ?_
    refine A_iret rfl rfl rfl rfl dX8_lay_43 ?_
    have eg : g_lay S H (I 87) q t x = (-1000000001, false) := by
      first
        | (have h7 := b2i_q.mp cq4; rw [g_lay, if_neg (fun h9 => h7 h9.1)])
        | (have h7 := b2i_q.mp cq13; rw [g_lay, if_neg (fun h9 => h7 h9.2)])
        | (have h6 : t = 1 := cq18; have h7 := b2i_q.mp cq26;  rw [g_lay, if_pos ⟨b2i_p.mp cq4, b2i_p.mp cq13⟩, if_pos h6, if_neg h7])
        | (have h6 : t = 2 := cq31; have h7 := b2i_q.mp cq38; rw [g_lay, if_pos ⟨b2i_p.mp cq4, b2i_p.mp cq13⟩, if_neg (by rw [h6]; decide), if_pos h6, if_neg h7])
    rw [eg]
    exact ⟨rfl, rfl, fun _ _ => rfl, hS⟩
  · skip
    refine A_iload_n rfl dX8_lay_7 ?_
    refine A_iconst ic_0 dX8_lay_8 ?_
    refine A_iconst ic_3 dX8_lay_9 ?_
    refine A_callS (s_in l G _ _ _ _ _) m_X8_in ml_X8_80 rfl rfl rfl (Nat.le_of_ble_eq_true rfl) (by decide) (by decide) (by decide) dX8_lay_10 (fun _ _ _ h => congrArg List.length h.2.1) ?_
    rintro _ _ _ ⟨rfl, rfl, e9⟩
    refine AW_I e9 ?_
    clear e9
    refine A_if_eq 41 rfl dX8_lay_13 (fun cq13 => ?_) (fun cq13 => ?_)
    · skip
      refine A_ldc kc_X8_88 rfl dX8_lay_41 ?_
      refine A_iret rfl rfl rfl rfl dX8_lay_43 ?_
      have eg : g_lay S H (I 87) q t x = (-1000000001, false) := by
        first
          | (have h7 := b2i_q.mp cq4; rw [g_lay, if_neg (fun h9 => h7 h9.1)])
          | (have h7 := b2i_q.mp cq13; rw [g_lay, if_neg (fun h9 => h7 h9.2)])
          | (have h6 : t = 1 := cq18; have h7 := b2i_q.mp cq26;  rw [g_lay, if_pos ⟨b2i_p.mp cq4, b2i_p.mp cq13⟩, if_pos h6, if_neg h7])
          | (have h6 : t = 2 := cq31; have h7 := b2i_q.mp cq38; rw [g_lay, if_pos ⟨b2i_p.mp cq4, b2i_p.mp cq13⟩, if_neg (by rw [h6]; decide), if_pos h6, if_neg h7])
      rw [eg]
      exact ⟨rfl, rfl, fun _ _ => rfl, hS⟩
    · skip
      refine A_iload_n rfl dX8_lay_16 ?_
      refine A_iconst ic_1 dX8_lay_17 ?_
      refine A_icmp_ne 29 rfl dX8_lay_18 (fun cq18 => ?_) (fun cq18 => ?_)
      · skip
        refine A_iload_n rfl dX8_lay_29 ?_
        refine A_iconst ic_2 dX8_lay_30 ?_
        refine A_icmp_ne 44 rfl dX8_lay_31 (fun cq31 => ?_) (fun cq31 => ?_)
        · skip
          refine A_iload_n rfl dX8_lay_44 ?_
          refine A_iconst ic_2 dX8_lay_45 ?_
          refine A_icmp_ne 61 rfl dX8_lay_46 (fun cq46 => ?_) (fun cq46 => ?_)
          · skip
            have hok : (0 ≤ q ∧ q ≤ 4) ∧ (0 ≤ t ∧ t ≤ 3) := ⟨b2i_p.mp cq4, b2i_p.mp cq13⟩
            obtain ⟨i, hi, hqi⟩ := in_get (a := 4) rfl hok.1
            refine j61 i hqi (by omega) hok ?_
            first
              | (have h6 : t = 1 := cq18; have h7 := b2i_p.mp cq26; exact Or.inl ⟨h6, h7⟩)
              | (have h6 : t = 2 := cq31; have h7 : 0 ≤ I 99 u := cq55; rw [(hSh u hu).1] at h7; exact Or.inr (Or.inl ⟨h6, hxs, fun h9 => absurd h7 (by rw [nI_clamp (by omega)] at h9; rw [h9]; decide)⟩))
              | (have h6 : ¬ t = 1 := cq18; have h7 : ¬ t = 2 := cq31; exact Or.inr (Or.inr ⟨h6, h7⟩))
              | (have h6 : t = 2 := cq31; have h7 : ¬ t = 2 := cq46; exact absurd h6 h7)
          · skip
            have hxs : 0 ≤ x ∧ x ≤ 3 := by
              first | exact b2i_p.mp cq38 | exact absurd cq46 cq31
            obtain ⟨u, hu, rfl⟩ := in_get (a := 3) rfl hxs
            replace hu : u < 4 := by omega
            refine A_aload_n rfl dX8_lay_49 ?_
            refine A_getR fr_X8_52.g rfl lay_86 rfl dX8_lay_50 ?_
            refine A_iload_n rfl dX8_lay_53 ?_
            refine A_iald u rfl lay_99 (by omega) (by decide) dX8_lay_54 ?_
            refine A_if_ge 61 rfl dX8_lay_55 (fun cq55 => ?_) (fun cq55 => ?_)
            · skip
              have hok : (0 ≤ q ∧ q ≤ 4) ∧ (0 ≤ t ∧ t ≤ 3) := ⟨b2i_p.mp cq4, b2i_p.mp cq13⟩
              obtain ⟨i, hi, hqi⟩ := in_get (a := 4) rfl hok.1
              refine j61 i hqi (by omega) hok ?_
              first
                | (have h6 : t = 1 := cq18; have h7 := b2i_p.mp cq26; exact Or.inl ⟨h6, h7⟩)
                | (have h6 : t = 2 := cq31; have h7 : 0 ≤ I 99 u := cq55; rw [(hSh u hu).1] at h7; exact Or.inr (Or.inl ⟨h6, hxs, fun h9 => absurd h7 (by rw [nI_clamp (by omega)] at h9; rw [h9]; decide)⟩))
                | (have h6 : ¬ t = 1 := cq18; have h7 : ¬ t = 2 := cq31; exact Or.inr (Or.inr ⟨h6, h7⟩))
                | (have h6 : t = 2 := cq31; have h7 : ¬ t = 2 := cq46; exact absurd h6 h7)
            · skip
              refine A_ldc kc_X8_195 rfl dX8_lay_58 ?_
              refine A_iret rfl rfl rfl rfl dX8_lay_60 ?_
              rw [(hSh u hu).1] at cq55
              have eg : g_lay S H (I 87) q t (nI u) = (-1000000011, false) := by rw [g_lay, if_pos ⟨b2i_p.mp cq4, b2i_p.mp cq13⟩, if_neg (by rw [cq46]; decide), if_pos cq46, if_pos hxs, nI_clamp (by omega), if_pos ((s_neg (hSW u hu).1).1.mp cq55)]
              rw [eg]
              exact ⟨rfl, rfl, fun _ _ => rfl, hS⟩
        · skip
          refine A_iload_n rfl dX8_lay_34 ?_
          refine A_callS (s_isSheetM l G _ _ _) m_X8_isSheet ml_X8_192 rfl rfl rfl (Nat.le_of_ble_eq_true rfl) (by decide) (by decide) (by decide) dX8_lay_35 (fun _ _ _ h => congrArg List.length h.2.1) ?_
          rintro _ _ _ ⟨rfl, rfl, e9⟩
          refine AW_I e9 ?_
          clear e9
          refine A_if_ne 44 rfl dX8_lay_38 (fun cq38 => ?_) (fun cq38 => ?_)
          · skip
            refine A_iload_n rfl dX8_lay_44 ?_
            refine A_iconst ic_2 dX8_lay_45 ?_
            refine A_icmp_ne 61 rfl dX8_lay_46 (fun cq46 => ?_) (fun cq46 => ?_)
            · skip
              have hok : (0 ≤ q ∧ q ≤ 4) ∧ (0 ≤ t ∧ t ≤ 3) := ⟨b2i_p.mp cq4, b2i_p.mp cq13⟩
              obtain ⟨i, hi, hqi⟩ := in_get (a := 4) rfl hok.1
              refine j61 i hqi (by omega) hok ?_
              first
                | (have h6 : t = 1 := cq18; have h7 := b2i_p.mp cq26; exact Or.inl ⟨h6, h7⟩)
                | (have h6 : t = 2 := cq31; have h7 : 0 ≤ I 99 u := cq55; rw [(hSh u hu).1] at h7; exact Or.inr (Or.inl ⟨h6, hxs, fun h9 => absurd h7 (by rw [nI_clamp (by omega)] at h9; rw [h9]; decide)⟩))
                | (have h6 : ¬ t = 1 := cq18; have h7 : ¬ t = 2 := cq31; exact Or.inr (Or.inr ⟨h6, h7⟩))
                | (have h6 : t = 2 := cq31; have h7 : ¬ t = 2 := cq46; exact absurd h6 h7)
            · skip
              have hxs : 0 ≤ x ∧ x ≤ 3 := by
                first | exact b2i_p.mp cq38 | exact absurd cq46 cq31
              obtain ⟨u, hu, rfl⟩ := in_get (a := 3) rfl hxs
              replace hu : u < 4 := by omega
              refine A_aload_n rfl dX8_lay_49 ?_
              refine A_getR fr_X8_52.g rfl lay_86 rfl dX8_lay_50 ?_
              refine A_iload_n rfl dX8_lay_53 ?_
              refine A_iald u rfl lay_99 (by omega) (by decide) dX8_lay_54 ?_
              refine A_if_ge 61 rfl dX8_lay_55 (fun cq55 => ?_) (fun cq55 => ?_)
              · skip
                have hok : (0 ≤ q ∧ q ≤ 4) ∧ (0 ≤ t ∧ t ≤ 3) := ⟨b2i_p.mp cq4, b2i_p.mp cq13⟩
                obtain ⟨i, hi, hqi⟩ := in_get (a := 4) rfl hok.1
                refine j61 i hqi (by omega) hok ?_
                first
                  | (have h6 : t = 1 := cq18; have h7 := b2i_p.mp cq26; exact Or.inl ⟨h6, h7⟩)
                  | (have h6 : t = 2 := cq31; have h7 : 0 ≤ I 99 u := cq55; rw [(hSh u hu).1] at h7; exact Or.inr (Or.inl ⟨h6, hxs, fun h9 => absurd h7 (by rw [nI_clamp (by omega)] at h9; rw [h9]; decide)⟩))
                  | (have h6 : ¬ t = 1 := cq18; have h7 : ¬ t = 2 := cq31; exact Or.inr (Or.inr ⟨h6, h7⟩))
                  | (have h6 : t = 2 := cq31; have h7 : ¬ t = 2 := cq46; exact absurd h6 h7)
              · skip
                refine A_ldc kc_X8_195 rfl dX8_lay_58 ?_
                refine A_iret rfl rfl rfl rfl dX8_lay_60 ?_
                rw [(hSh u hu).1] at cq55
                have eg : g_lay S H (I 87) q t (nI u) = (-1000000011, false) := by rw [g_lay, if_pos ⟨b2i_p.mp cq4, b2i_p.mp cq13⟩, if_neg (by rw [cq46]; decide), if_pos cq46, if_pos hxs, nI_clamp (by omega), if_pos ((s_neg (hSW u hu).1).1.mp cq55)]
                rw [eg]
                exact ⟨rfl, rfl, fun _ _ => rfl, hS⟩
          · skip
            refine A_ldc kc_X8_88 rfl dX8_lay_41 ?_
            refine A_iret rfl rfl rfl rfl dX8_lay_43 ?_
            have eg : g_lay S H (I 87) q t x = (-1000000001, false) := by
              first
                | (have h7 := b2i_q.mp cq4; rw [g_lay, if_neg (fun h9 => h7 h9.1)])
                | (have h7 := b2i_q.mp cq13; rw [g_lay, if_neg (fun h9 => h7 h9.2)])
                | (have h6 : t = 1 := cq18; have h7 := b2i_q.mp cq26;  rw [g_lay, if_pos ⟨b2i_p.mp cq4, b2i_p.mp cq13⟩, if_pos h6, if_neg h7])
                | (have h6 : t = 2 := cq31; have h7 := b2i_q.mp cq38; rw [g_lay, if_pos ⟨b2i_p.mp cq4, b2i_p.mp cq13⟩, if_neg (by rw [h6]; decide), if_pos h6, if_neg h7])
            rw [eg]
            exact ⟨rfl, rfl, fun _ _ => rfl, hS⟩
      · skip
        refine A_aload_n rfl dX8_lay_21 ?_
        refine A_iload_n rfl dX8_lay_22 ?_
        refine A_callV (t_isJuror l G I _ rfl _ n hn hN) m_X8_isJuror ml_X8_118 rfl lay_86 rfl (by decide) rfl rfl (Nat.le_of_ble_eq_true rfl) (by decide) (by decide) (by decide) dX8_lay_23 (fun _ _ _ h => congrArg List.length h.2.1) ?_
        rintro _ _ _ ⟨rfl, rfl, e9⟩
        refine AW_I e9 ?_
        clear e9
        refine A_if_eq 41 rfl dX8_lay_26 (fun cq26 => ?_) (fun cq26 => ?_)
        · skip
          refine A_ldc kc_X8_88 rfl dX8_lay_41 ?_
          refine A_iret rfl rfl rfl rfl dX8_lay_43 ?_
          have eg : g_lay S H (I 87) q t x = (-1000000001, false) := by
            first
              | (have h7 := b2i_q.mp cq4; rw [g_lay, if_neg (fun h9 => h7 h9.1)])
              | (have h7 := b2i_q.mp cq13; rw [g_lay, if_neg (fun h9 => h7 h9.2)])
              | (have h6 : t = 1 := cq18; have h7 := b2i_q.mp cq26;  rw [g_lay, if_pos ⟨b2i_p.mp cq4, b2i_p.mp cq13⟩, if_pos h6, if_neg h7])
              | (have h6 : t = 2 := cq31; have h7 := b2i_q.mp cq38; rw [g_lay, if_pos ⟨b2i_p.mp cq4, b2i_p.mp cq13⟩, if_neg (by rw [h6]; decide), if_pos h6, if_neg h7])
          rw [eg]
          exact ⟨rfl, rfl, fun _ _ => rfl, hS⟩
        · skip
          refine A_iload_n rfl dX8_lay_29 ?_
          refine A_iconst ic_2 dX8_lay_30 ?_
          refine A_icmp_ne 44 rfl dX8_lay_31 (fun cq31 => ?_) (fun cq31 => ?_)
          · skip
            refine A_iload_n rfl dX8_lay_44 ?_
            refine A_iconst ic_2 dX8_lay_45 ?_
            refine A_icmp_ne 61 rfl dX8_lay_46 (fun cq46 => ?_) (fun cq46 => ?_)
            · skip
              have hok : (0 ≤ q ∧ q ≤ 4) ∧ (0 ≤ t ∧ t ≤ 3) := ⟨b2i_p.mp cq4, b2i_p.mp cq13⟩
              obtain ⟨i, hi, hqi⟩ := in_get (a := 4) rfl hok.1
              refine j61 i hqi (by omega) hok ?_
              first
                | (have h6 : t = 1 := cq18; have h7 := b2i_p.mp cq26; exact Or.inl ⟨h6, h7⟩)
                | (have h6 : t = 2 := cq31; have h7 : 0 ≤ I 99 u := cq55; rw [(hSh u hu).1] at h7; exact Or.inr (Or.inl ⟨h6, hxs, fun h9 => absurd h7 (by rw [nI_clamp (by omega)] at h9; rw [h9]; decide)⟩))
                | (have h6 : ¬ t = 1 := cq18; have h7 : ¬ t = 2 := cq31; exact Or.inr (Or.inr ⟨h6, h7⟩))
                | (have h6 : t = 2 := cq31; have h7 : ¬ t = 2 := cq46; exact absurd h6 h7)
            · skip
              have hxs : 0 ≤ x ∧ x ≤ 3 := by
                first | exact b2i_p.mp cq38 | exact absurd cq46 cq31
              obtain ⟨u, hu, rfl⟩ := in_get (a := 3) rfl hxs
              replace hu : u < 4 := by omega
              refine A_aload_n rfl dX8_lay_49 ?_
              refine A_getR fr_X8_52.g rfl lay_86 rfl dX8_lay_50 ?_
              refine A_iload_n rfl dX8_lay_53 ?_
              refine A_iald u rfl lay_99 (by omega) (by decide) dX8_lay_54 ?_
              refine A_if_ge 61 rfl dX8_lay_55 (fun cq55 => ?_) (fun cq55 => ?_)
              · skip
                have hok : (0 ≤ q ∧ q ≤ 4) ∧ (0 ≤ t ∧ t ≤ 3) := ⟨b2i_p.mp cq4, b2i_p.mp cq13⟩
                obtain ⟨i, hi, hqi⟩ := in_get (a := 4) rfl hok.1
                refine j61 i hqi (by omega) hok ?_
                first
                  | (have h6 : t = 1 := cq18; have h7 := b2i_p.mp cq26; exact Or.inl ⟨h6, h7⟩)
                  | (have h6 : t = 2 := cq31; have h7 : 0 ≤ I 99 u := cq55; rw [(hSh u hu).1] at h7; exact Or.inr (Or.inl ⟨h6, hxs, fun h9 => absurd h7 (by rw [nI_clamp (by omega)] at h9; rw [h9]; decide)⟩))
                  | (have h6 : ¬ t = 1 := cq18; have h7 : ¬ t = 2 := cq31; exact Or.inr (Or.inr ⟨h6, h7⟩))
                  | (have h6 : t = 2 := cq31; have h7 : ¬ t = 2 := cq46; exact absurd h6 h7)
              · skip
                refine A_ldc kc_X8_195 rfl dX8_lay_58 ?_
                refine A_iret rfl rfl rfl rfl dX8_lay_60 ?_
                rw [(hSh u hu).1] at cq55
                have eg : g_lay S H (I 87) q t (nI u) = (-1000000011, false) := by rw [g_lay, if_pos ⟨b2i_p.mp cq4, b2i_p.mp cq13⟩, if_neg (by rw [cq46]; decide), if_pos cq46, if_pos hxs, nI_clamp (by omega), if_pos ((s_neg (hSW u hu).1).1.mp cq55)]
                rw [eg]
                exact ⟨rfl, rfl, fun _ _ => rfl, hS⟩
          · skip
            refine A_iload_n rfl dX8_lay_34 ?_
            refine A_callS (s_isSheetM l G _ _ _) m_X8_isSheet ml_X8_192 rfl rfl rfl (Nat.le_of_ble_eq_true rfl) (by decide) (by decide) (by decide) dX8_lay_35 (fun _ _ _ h => congrArg List.length h.2.1) ?_
            rintro _ _ _ ⟨rfl, rfl, e9⟩
            refine AW_I e9 ?_
            clear e9
            refine A_if_ne 44 rfl dX8_lay_38 (fun cq38 => ?_) (fun cq38 => ?_)
            · skip
              refine A_iload_n rfl dX8_lay_44 ?_
              refine A_iconst ic_2 dX8_lay_45 ?_
              refine A_icmp_ne 61 rfl dX8_lay_46 (fun cq46 => ?_) (fun cq46 => ?_)
              · skip
                have hok : (0 ≤ q ∧ q ≤ 4) ∧ (0 ≤ t ∧ t ≤ 3) := ⟨b2i_p.mp cq4, b2i_p.mp cq13⟩
                obtain ⟨i, hi, hqi⟩ := in_get (a := 4) rfl hok.1
                refine j61 i hqi (by omega) hok ?_
                first
                  | (have h6 : t = 1 := cq18; have h7 := b2i_p.mp cq26; exact Or.inl ⟨h6, h7⟩)
                  | (have h6 : t = 2 := cq31; have h7 : 0 ≤ I 99 u := cq55; rw [(hSh u hu).1] at h7; exact Or.inr (Or.inl ⟨h6, hxs, fun h9 => absurd h7 (by rw [nI_clamp (by omega)] at h9; rw [h9]; decide)⟩))
                  | (have h6 : ¬ t = 1 := cq18; have h7 : ¬ t = 2 := cq31; exact Or.inr (Or.inr ⟨h6, h7⟩))
                  | (have h6 : t = 2 := cq31; have h7 : ¬ t = 2 := cq46; exact absurd h6 h7)
              · skip
                have hxs : 0 ≤ x ∧ x ≤ 3 := by
                  first | exact b2i_p.mp cq38 | exact absurd cq46 cq31
                obtain ⟨u, hu, rfl⟩ := in_get (a := 3) rfl hxs
                replace hu : u < 4 := by omega
                refine A_aload_n rfl dX8_lay_49 ?_
                refine A_getR fr_X8_52.g rfl lay_86 rfl dX8_lay_50 ?_
                refine A_iload_n rfl dX8_lay_53 ?_
                refine A_iald u rfl lay_99 (by omega) (by decide) dX8_lay_54 ?_
                refine A_if_ge 61 rfl dX8_lay_55 (fun cq55 => ?_) (fun cq55 => ?_)
                · skip
                  have hok : (0 ≤ q ∧ q ≤ 4) ∧ (0 ≤ t ∧ t ≤ 3) := ⟨b2i_p.mp cq4, b2i_p.mp cq13⟩
                  obtain ⟨i, hi, hqi⟩ := in_get (a := 4) rfl hok.1
                  refine j61 i hqi (by omega) hok ?_
                  first
                    | (have h6 : t = 1 := cq18; have h7 := b2i_p.mp cq26; exact Or.inl ⟨h6, h7⟩)
                    | (have h6 : t = 2 := cq31; have h7 : 0 ≤ I 99 u := cq55; rw [(hSh u hu).1] at h7; exact Or.inr (Or.inl ⟨h6, hxs, fun h9 => absurd h7 (by rw [nI_clamp (by omega)] at h9; rw [h9]; decide)⟩))
                    | (have h6 : ¬ t = 1 := cq18; have h7 : ¬ t = 2 := cq31; exact Or.inr (Or.inr ⟨h6, h7⟩))
                    | (have h6 : t = 2 := cq31; have h7 : ¬ t = 2 := cq46; exact absurd h6 h7)
                · skip
                  refine A_ldc kc_X8_195 rfl dX8_lay_58 ?_
                  refine A_iret rfl rfl rfl rfl dX8_lay_60 ?_
                  rw [(hSh u hu).1] at cq55
                  have eg : g_lay S H (I 87) q t (nI u) = (-1000000011, false) := by rw [g_lay, if_pos ⟨b2i_p.mp cq4, b2i_p.mp cq13⟩, if_neg (by rw [cq46]; decide), if_pos cq46, if_pos hxs, nI_clamp (by omega), if_pos ((s_neg (hSW u hu).1).1.mp cq55)]
                  rw [eg]
                  exact ⟨rfl, rfl, fun _ _ => rfl, hS⟩
            · skip
              refine A_ldc kc_X8_88 rfl dX8_lay_41 ?_
              refine A_iret rfl rfl rfl rfl dX8_lay_43 ?_
              have eg : g_lay S H (I 87) q t x = (-1000000001, false) := by
                first
                  | (have h7 := b2i_q.mp cq4; rw [g_lay, if_neg (fun h9 => h7 h9.1)])
                  | (have h7 := b2i_q.mp cq13; rw [g_lay, if_neg (fun h9 => h7 h9.2)])
                  | (have h6 : t = 1 := cq18; have h7 := b2i_q.mp cq26;  rw [g_lay, if_pos ⟨b2i_p.mp cq4, b2i_p.mp cq13⟩, if_pos h6, if_neg h7])
                  | (have h6 : t = 2 := cq31; have h7 := b2i_q.mp cq38; rw [g_lay, if_pos ⟨b2i_p.mp cq4, b2i_p.mp cq13⟩, if_neg (by rw [h6]; decide), if_pos h6, if_neg h7])
              rw [eg]
              exact ⟨rfl, rfl, fun _ _ => rfl, hS⟩
