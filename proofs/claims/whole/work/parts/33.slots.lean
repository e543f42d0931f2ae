def r_row (E : Fn2) (q : Nat) (c : Nat → Int32) : Fn2 := fun z k => if z = q then c k else E z k
def g_lay (S H N : Nrow) (q t x : Int32) : Int32 × Bool := if (0 ≤ q ∧ q ≤ 4) ∧ (0 ≤ t ∧ t ≤ 3) then (if t = 1 then (if 0 ≤ x ∧ x < N 1 then (H q.toNatClampNeg, true) else (-1000000001, false)) else if t = 2 then (if 0 ≤ x ∧ x ≤ 3 then (if S x.toNatClampNeg = -1 then (-1000000011, false) else (H q.toNatClampNeg, true)) else (-1000000001, false)) else (H q.toNatClampNeg, true)) else (-1000000001, false)
def a_lay (Z N : Nrow) (t x : Int32) : Int32 := if t = 1 then N (16 + 5 * x.toNatClampNeg) else if t = 2 then Z x.toNatClampNeg else x
def b_lay (N : Nrow) (t x : Int32) : Int32 := if t = 1 then q_worth (N (16 + 5 * x.toNatClampNeg)) (N (19 + 5 * x.toNatClampNeg)) else 0
def e_lay (C E : Fn2) (q t x : Int32) : Fn2 := if t = 2 then r_row E q.toNatClampNeg (C x.toNatClampNeg) else E
def beR (I : Hp) (r a : Nat) : Hp := cpR (up2 (up2 I r 0 (I a 0)) r 1 (I a 1)) (a + 1) (r + 1) 24
theorem beR_o {I : Hp} {r a q : Nat} (h1 : q ≠ r) (h2 : q ≠ r + 1) : beR I r a q = I q := by
  unfold beR cpR
  rw [if_neg h2, up2_ne h1, up2_ne h1]
theorem beR_1 {I : Hp} {r a : Nat} : beR I r a r 1 = I a 1 := by
  unfold beR cpR
  rw [if_neg (by omega), up2_same]
theorem beR_c {I : Hp} {r a k : Nat} (h : a + 1 ≠ r) (h2 : r ≠ a) (hk : k < 24) : beR I r a (r + 1) k = I (a + 1) k := by
  unfold beR
  rw [cpR_in hk, up2_ne h, up2_ne h]
set_option maxHeartbeats 1000000 in
set_option maxRecDepth 100000 in
theorem s_rbec (l : Launch) (G : Gm) (I : Hp) (r a : Nat) (hr : isR r) (ha : isR a) (hne : a ≠ r) : Meth l G yX4_become cX4_become 2 none 1 0 0 [.ref r, .ref a] LAY I (fun r1 lay1 I1 => r1 = none ∧ lay1 = LAY ∧ I1 = beR I r a) := by
  refine Meth.of (by decide +kernel) (by simp [Value.category]) (Nat.le_of_ble_eq_true rfl) ?_
  refine A_aload_n rfl dX4_become_0 ?_
  refine A_aload_n rfl dX4_become_1 ?_
  refine A_getI fr_X4_9.g rfl (lr ha) dX4_become_2 ?_
  refine A_putI fr_X4_9 rfl (lr hr) rfl rfl dX4_become_5 ?_
  refine A_aload_n rfl dX4_become_8 ?_
  refine A_aload_n rfl dX4_become_9 ?_
  refine A_getI fr_X4_23.g rfl (lr ha) dX4_become_10 ?_
  rw [show (up2 I r 0 (I a 0)) a 1 = I a 1 by rw [up2_ne hne]]
  refine A_putI fr_X4_23 rfl (lr hr) rfl rfl dX4_become_13 ?_
  refine A_aload_n rfl dX4_become_16 ?_
  refine A_getR fr_X4_15.g rfl (lr ha) rfl dX4_become_17 ?_
  refine A_iconst ic_0 dX4_become_20 ?_
  refine A_aload_n rfl dX4_become_21 ?_
  refine A_getR fr_X4_15.g rfl (lr hr) rfl dX4_become_22 ?_
  refine A_iconst ic_0 dX4_become_25 ?_
  refine A_bipush bp_24 dX4_become_26 ?_
  refine A_cpR 24 ml_X4_26 rfl (lr2 ha) (lr2 hr) rfl rfl rfl (by decide) (by decide) (by decide) (by decide) (by decide) (by decide) dX4_become_28 ?_
  refine A_vret rfl rfl rfl dX4_become_31 ?_
  exact ⟨rfl, rfl, rfl⟩
theorem SlC.lay {I J : Hp} {H A B : Nrow} {E : Fn2} {i : Nat} {t a b : Int32} {E2 : Fn2} (h : SlC I H A B E) (hi : i < 5) (hf : ∀ z, z ≠ 70 + 3 * i → z ≠ 70 + 3 * i + 1 → z ≠ 70 + 3 * i + 1 + 1 → J z = I z) (h0 : J (70 + 3 * i) 0 = t) (h1 : t = 1 → J (70 + 3 * i) 1 = a ∧ q_worth a (J (70 + 3 * i) 2) = b) (h2 : t = 2 → J (70 + 3 * i + 1) 1 = a ∧ ∀ k, k < 24 → J (70 + 3 * i + 1 + 1) k = E2 i k) (h3 : t = 3 → J (70 + 3 * i) 3 = a) (hE : ∀ z, z ≠ i → E2 z = E z) : SlC J (upd H i t) (upd A i a) (upd B i b) E2 := by
  intro q hq
  by_cases e : q = i
  · subst e
    rw [upd_s, upd_s, upd_s]
    exact ⟨h0, h1, h2, h3⟩
  · rw [upd_n e, upd_n e, upd_n e, hf _ (by omega) (by omega) (by omega), hf (70 + 3 * q + 1) (by omega) (by omega) (by omega), hf (70 + 3 * q + 1 + 1) (by omega) (by omega) (by omega), hE q e]
    exact h q hq
theorem e_lay_o {C E : Fn2} {i : Nat} {t x : Int32} (hi : i < 5) : ∀ z, z ≠ i → e_lay C E (nI i) t x z = E z := by
  intro z hz
  unfold e_lay
  split
  · funext k
    unfold r_row
    rw [nI_clamp (by omega), if_neg hz]
  · rfl
set_option maxHeartbeats 1000000 in
set_option maxRecDepth 100000 in
theorem c_lay (l : Launch) (G : Gm) (I : Hp) (N : Nrow) (n : Nat) (hn : n ≤ 10) (hN : N 1 = nI n) (hR : RepJ I 36 N) (S Z : Nrow) (C : Fn2) (hSh : ShC I S Z C) (hSW : ShW S Z C) (H A B : Nrow) (E : Fn2) (hS : SlC I H A B E) (hW : SlW H A) (q t x : Int32) : Meth l G yX7_lay cX7_lay 6 (some (FieldType.int)) 3 0 0 [.ref 0, .int q, .int t, .int x] LAY I (fun r lay1 I1 => r = some (.int (g_lay S H N q t x).1) ∧ lay1 = LAY ∧ (∀ z, (z < 70 ∨ 85 ≤ z) → I1 z = I z) ∧ SlC I1 (if (g_lay S H N q t x).2 then upd H q.toNatClampNeg t else H) (if (g_lay S H N q t x).2 then upd A q.toNatClampNeg (a_lay Z N t x) else A) (if (g_lay S H N q t x).2 then upd B q.toNatClampNeg (b_lay N t x) else B) (if (g_lay S H N q t x).2 then e_lay C E q t x else E)) := by
  have j71 : ∀ (i : Nat), (q = nI i) → (i < 5) → ((0 ≤ q ∧ q ≤ 4) ∧ (0 ≤ t ∧ t ≤ 3)) → ((t = 1 ∧ (0 ≤ x ∧ x < N 1)) ∨ (t = 2 ∧ (0 ≤ x ∧ x ≤ 3) ∧ ¬ S x.toNatClampNeg = -1) ∨ (¬ t = 1 ∧ ¬ t = 2)) → AW l G yX7_lay cX7_lay 6 (some (FieldType.int)) 3 0 0 (fun r lay1 I1 => r = some (.int (g_lay S H N q t x).1) ∧ lay1 = LAY ∧ (∀ z, (z < 70 ∨ 85 ≤ z) → I1 z = I z) ∧ SlC I1 (if (g_lay S H N q t x).2 then upd H q.toNatClampNeg t else H) (if (g_lay S H N q t x).2 then upd A q.toNatClampNeg (a_lay Z N t x) else A) (if (g_lay S H N q t x).2 then upd B q.toNatClampNeg (b_lay N t x) else B) (if (g_lay S H N q t x).2 then e_lay C E q t x else E)) 0 0 71 [some (.ref 0), some (.int q), some (.int t), some (.int x), none, none] [] LAY I := by
    intro i hqi hi hok hcase
    subst hqi
    have eH : I (70 + 3 * i) 0 = H i := (hS i hi).1
    refine A_aload_n rfl dX7_lay_71 ?_
    refine A_getR fr_X7_47.g rfl lay_0 rfl dX7_lay_72 ?_
    refine A_iload_n rfl dX7_lay_75 ?_
    refine A_aald i rfl lay_69 (Or.inr (Or.inr rfl)) (by omega) (by decide) (sl_at i hi) dX7_lay_76 ?_
    refine A_astore (by decide) rfl dX7_lay_77 ?_
    refine A_aload rfl dX7_lay_79 ?_
    refine A_getI fr_X7_267.g rfl (lz hi) dX7_lay_81 ?_
    refine A_istore (by decide) rfl dX7_lay_84 ?_
    refine A_aload rfl dX7_lay_86 ?_
    refine A_iload_n rfl dX7_lay_88 ?_
    refine A_putI fr_X7_267 rfl (lz hi) rfl rfl dX7_lay_89 ?_
    refine A_iload_n rfl dX7_lay_92 ?_
    refine A_iconst ic_1 dX7_lay_93 ?_
    refine A_icmp_ne 128 rfl dX7_lay_94 (fun cq94 => ?_) (fun cq94 => ?_)
    · skip
      refine A_iload_n rfl dX7_lay_128 ?_
      refine A_iconst ic_2 dX7_lay_129 ?_
      refine A_icmp_ne 150 rfl dX7_lay_130 (fun cq130 => ?_) (fun cq130 => ?_)
      · skip
        refine A_aload rfl dX7_lay_150 ?_
        refine A_iload_n rfl dX7_lay_152 ?_
        refine A_putI fr_X7_281 rfl (lz hi) rfl rfl dX7_lay_153 ?_
        refine A_iload rfl dX7_lay_156 ?_
        refine A_iret rfl rfl rfl rfl dX7_lay_158 ?_
        first
          | (have h6 : t = 1 := cq94
             have eg : g_lay S H N (nI i) t (nI u) = (H i, true) := by rw [g_lay, if_pos hok, if_pos h6, if_pos hx1, nI_clamp (by omega)]
             rw [eg, if_pos rfl, if_pos rfl, if_pos rfl, if_pos rfl, nI_clamp (by omega), eH]
             refine ⟨rfl, rfl, fun z hz => by rw [up2_ne (by omega), up2_ne (by omega), up2_ne (by omega)], hS.lay hi (fun z h1 _ _ => by rw [up2_ne h1, up2_ne h1, up2_ne h1]) (by rw [up2_ni (by decide), up2_ni (by decide), up2_same]) (fun _ => ?_) (fun h9 => absurd (h9.symm.trans h6) (by decide)) (fun h9 => absurd (h9.symm.trans h6) (by decide)) (e_lay_o hi)⟩
             rw [up2_ni (show (1 : Nat) ≠ 2 by decide), up2_same, up2_same, a_lay, b_lay, if_pos h6, if_pos h6, nI_clamp (by omega), up2_ne (show 36 + 1 ≠ 70 + 3 * i by omega), up2_ne (show 36 + 4 ≠ 70 + 3 * i by omega), up2_ne (show 36 + 4 ≠ 70 + 3 * i by omega), hR.2.1 u (by omega), hR.2.2.2.2.1 u (by omega)]
             exact ⟨rfl, rfl⟩)
          | (have h6 : t = 2 := cq130
             have eg : g_lay S H N (nI i) t (nI u) = (H i, true) := by rw [g_lay, if_pos hok, if_neg (by rw [h6]; decide), if_pos h6, if_pos hx1, if_neg hx2, nI_clamp (by omega)]
             rw [eg, if_pos rfl, if_pos rfl, if_pos rfl, if_pos rfl, nI_clamp (by omega), eH]
             refine ⟨rfl, rfl, fun z hz => by rw [beR_o (by omega) (by omega), up2_ne (by omega)], hS.lay hi (fun z h1 h2 h3 => by rw [beR_o h2 h3, up2_ne h1]) (by rw [beR_o (by omega) (by omega), up2_same]) (fun h9 => absurd (h9.symm.trans h6) (by decide)) (fun _ => ⟨?_, fun k hk => ?_⟩) (fun h9 => absurd (h9.symm.trans h6) (by decide)) (e_lay_o hi)⟩
             · rw [beR_1, up2_ne (by omega), a_lay, if_neg (by rw [h6]; decide), if_pos h6, nI_clamp (by omega)]; exact (hSh u hu).2.1
             · rw [beR_c (by omega) (by omega) hk, up2_ne (by omega), e_lay, if_pos h6, r_row, nI_clamp (by omega), if_pos rfl, nI_clamp (by omega)]; exact (hSh u hu).2.2 k hk)
          | (have h5 : ¬ t = 1 := cq94
             have h6 : ¬ t = 2 := cq130
             have eg : g_lay S H N (nI i) t x = (H i, true) := by rw [g_lay, if_pos hok, if_neg h5, if_neg h6, nI_clamp (by omega)]
             rw [eg, if_pos rfl, if_pos rfl, if_pos rfl, if_pos rfl, nI_clamp (by omega), eH]
             refine ⟨rfl, rfl, fun z hz => by rw [up2_ne (by omega), up2_ne (by omega)], hS.lay hi (fun z h1 _ _ => by rw [up2_ne h1, up2_ne h1]) (by rw [up2_ni (by decide), up2_same]) (fun h9 => absurd h9 h5) (fun h9 => absurd h9 h6) (fun _ => by rw [up2_same, a_lay, if_neg h5, if_neg h6]) (e_lay_o hi)⟩)
      · skip
        have hxx : (0 ≤ x ∧ x ≤ 3) ∧ ¬ S x.toNatClampNeg = -1 := by
          rcases hcase with h9 | h9 | h9
          · exact absurd (h9.1.symm.trans cq130) (by decide)
          · exact h9.2
          · exact absurd cq130 h9.2
        obtain ⟨hx1, hx2⟩ := hxx
        obtain ⟨u, hu, rfl⟩ := in_get (a := 3) rfl hx1
        replace hu : u < 4 := by omega
        refine A_aload rfl dX7_lay_133 ?_
        refine A_getR fr_X7_274 rfl (lz hi) rfl dX7_lay_135 ?_
        refine A_aload_n rfl dX7_lay_138 ?_
        refine A_getR fr_X7_40.g rfl lay_0 rfl dX7_lay_139 ?_
        refine A_iload_n rfl dX7_lay_142 ?_
        refine A_aald u rfl lay_60 (Or.inr (Or.inl rfl)) (by omega) (by decide) (sh_at u hu) dX7_lay_143 ?_
        refine A_callV (s_rbec l G _ (70 + 3 * i + 1) (61 + 2 * u) (isR_q hi) (isR_s hu) (by omega)) m_X4_become ml_X7_278 rfl (lr (isR_q hi)) rfl (by decide) rfl rfl (Nat.le_of_ble_eq_true rfl) (by decide) (by decide) (by decide) dX7_lay_144 (fun _ _ _ h => congrArg List.length h.2.1) ?_
        rintro _ _ _ ⟨rfl, rfl, e9⟩
        refine AW_I e9 ?_
        clear e9
        refine A_goto 156 rfl dX7_lay_147 ?_
        refine A_iload rfl dX7_lay_156 ?_
        refine A_iret rfl rfl rfl rfl dX7_lay_158 ?_
        first
          | (have h6 : t = 1 := cq94
             have eg : g_lay S H N (nI i) t (nI u) = (H i, true) := by rw [g_lay, if_pos hok, if_pos h6, if_pos hx1, nI_clamp (by omega)]
             rw [eg, if_pos rfl, if_pos rfl, if_pos rfl, if_pos rfl, nI_clamp (by omega), eH]
             refine ⟨rfl, rfl, fun z hz => by rw [up2_ne (by omega), up2_ne (by omega), up2_ne (by omega)], hS.lay hi (fun z h1 _ _ => by rw [up2_ne h1, up2_ne h1, up2_ne h1]) (by rw [up2_ni (by decide), up2_ni (by decide), up2_same]) (fun _ => ?_) (fun h9 => absurd (h9.symm.trans h6) (by decide)) (fun h9 => absurd (h9.symm.trans h6) (by decide)) (e_lay_o hi)⟩
             rw [up2_ni (show (1 : Nat) ≠ 2 by decide), up2_same, up2_same, a_lay, b_lay, if_pos h6, if_pos h6, nI_clamp (by omega), up2_ne (show 36 + 1 ≠ 70 + 3 * i by omega), up2_ne (show 36 + 4 ≠ 70 + 3 * i by omega), up2_ne (show 36 + 4 ≠ 70 + 3 * i by omega), hR.2.1 u (by omega), hR.2.2.2.2.1 u (by omega)]
             exact ⟨rfl, rfl⟩)
          | (have h6 : t = 2 := cq130
             have eg : g_lay S H N (nI i) t (nI u) = (H i, true) := by rw [g_lay, if_pos hok, if_neg (by rw [h6]; decide), if_pos h6, if_pos hx1, if_neg hx2, nI_clamp (by omega)]
             rw [eg, if_pos rfl, if_pos rfl, if_pos rfl, if_pos rfl, nI_clamp (by omega), eH]
             refine ⟨rfl, rfl, fun z hz => by rw [beR_o (by omega) (by omega), up2_ne (by omega)], hS.lay hi (fun z h1 h2 h3 => by rw [beR_o h2 h3, up2_ne h1]) (by rw [beR_o (by omega) (by omega), up2_same]) (fun h9 => absurd (h9.symm.trans h6) (by decide)) (fun _ => ⟨?_, fun k hk => ?_⟩) (fun h9 => absurd (h9.symm.trans h6) (by decide)) (e_lay_o hi)⟩
             · rw [beR_1, up2_ne (by omega), a_lay, if_neg (by rw [h6]; decide), if_pos h6, nI_clamp (by omega)]; exact (hSh u hu).2.1
             · rw [beR_c (by omega) (by omega) hk, up2_ne (by omega), e_lay, if_pos h6, r_row, nI_clamp (by omega), if_pos rfl, nI_clamp (by omega)]; exact (hSh u hu).2.2 k hk)
          | (have h5 : ¬ t = 1 := cq94
             have h6 : ¬ t = 2 := cq130
             have eg : g_lay S H N (nI i) t x = (H i, true) := by rw [g_lay, if_pos hok, if_neg h5, if_neg h6, nI_clamp (by omega)]
             rw [eg, if_pos rfl, if_pos rfl, if_pos rfl, if_pos rfl, nI_clamp (by omega), eH]
             refine ⟨rfl, rfl, fun z hz => by rw [up2_ne (by omega), up2_ne (by omega)], hS.lay hi (fun z h1 _ _ => by rw [up2_ne h1, up2_ne h1]) (by rw [up2_ni (by decide), up2_same]) (fun h9 => absurd h9 h5) (fun h9 => absurd h9 h6) (fun _ => by rw [up2_same, a_lay, if_neg h5, if_neg h6]) (e_lay_o hi)⟩)
    · skip
      obtain ⟨u, hu, rfl⟩ : ∃ u, u < n ∧ x = nI u := by
        rcases hcase with h9 | h9 | h9
        · exact jur_get hn hN h9.2
        · exact absurd (h9.1.symm.trans cq94) (by decide)
        · exact absurd cq94 h9.1
      have hx1 : 0 ≤ nI u ∧ nI u < N 1 := by rw [hN]; exact ⟨nI_pos' (by omega), (nI_ltI (by omega) (by omega)).mpr hu⟩
      refine A_aload rfl dX7_lay_97 ?_
      refine A_aload_n rfl dX7_lay_99 ?_
      refine A_getR fr_X7_28.g rfl lay_0 rfl dX7_lay_100 ?_
      refine A_getR fr_X7_74 rfl (lj j36) rfl dX7_lay_103 ?_
      refine A_iload_n rfl dX7_lay_106 ?_
      refine A_iald u rfl (lj1 j36) (by omega) (by decide) dX7_lay_107 ?_
      refine A_putI fr_X7_270 rfl (lz hi) rfl rfl dX7_lay_108 ?_
      refine A_aload rfl dX7_lay_111 ?_
      refine A_aload_n rfl dX7_lay_113 ?_
      refine A_getR fr_X7_28.g rfl lay_0 rfl dX7_lay_114 ?_
      refine A_getR fr_X7_83 rfl (lj j36) rfl dX7_lay_117 ?_
      refine A_iload_n rfl dX7_lay_120 ?_
      refine A_iald u rfl (lj4 j36) (by omega) (by decide) dX7_lay_121 ?_
      refine A_putI fr_X7_272 rfl (lz hi) rfl rfl dX7_lay_122 ?_
      refine A_goto 156 rfl dX7_lay_125 ?_
      refine A_iload rfl dX7_lay_156 ?_
      refine A_iret rfl rfl rfl rfl dX7_lay_158 ?_
      first
        | (have h6 : t = 1 := cq94
           have eg : g_lay S H N (nI i) t (nI u) = (H i, true) := by rw [g_lay, if_pos hok, if_pos h6, if_pos hx1, nI_clamp (by omega)]
           rw [eg, if_pos rfl, if_pos rfl, if_pos rfl, if_pos rfl, nI_clamp (by omega), eH]
           refine ⟨rfl, rfl, fun z hz => by rw [up2_ne (by omega), up2_ne (by omega), up2_ne (by omega)], hS.lay hi (fun z h1 _ _ => by rw [up2_ne h1, up2_ne h1, up2_ne h1]) (by rw [up2_ni (by decide), up2_ni (by decide), up2_same]) (fun _ => ?_) (fun h9 => absurd (h9.symm.trans h6) (by decide)) (fun h9 => absurd (h9.symm.trans h6) (by decide)) (e_lay_o hi)⟩
           rw [up2_ni (show (1 : Nat) ≠ 2 by decide), up2_same, up2_same, a_lay, b_lay, if_pos h6, if_pos h6, nI_clamp (by omega), up2_ne (show 36 + 1 ≠ 70 + 3 * i by omega), up2_ne (show 36 + 4 ≠ 70 + 3 * i by omega), up2_ne (show 36 + 4 ≠ 70 + 3 * i by omega), hR.2.1 u (by omega), hR.2.2.2.2.1 u (by omega)]
           exact ⟨rfl, rfl⟩)
        | (have h6 : t = 2 := cq130
           have eg : g_lay S H N (nI i) t (nI u) = (H i, true) := by rw [g_lay, if_pos hok, if_neg (by rw [h6]; decide), if_pos h6, if_pos hx1, if_neg hx2, nI_clamp (by omega)]
           rw [eg, if_pos rfl, if_pos rfl, if_pos rfl, if_pos rfl, nI_clamp (by omega), eH]
           refine ⟨rfl, rfl, fun z hz => by rw [beR_o (by omega) (by omega), up2_ne (by omega)], hS.lay hi (fun z h1 h2 h3 => by rw [beR_o h2 h3, up2_ne h1]) (by rw [beR_o (by omega) (by omega), up2_same]) (fun h9 => absurd (h9.symm.trans h6) (by decide)) (fun _ => ⟨?_, fun k hk => ?_⟩) (fun h9 => absurd (h9.symm.trans h6) (by decide)) (e_lay_o hi)⟩
           · rw [beR_1, up2_ne (by omega), a_lay, if_neg (by rw [h6]; decide), if_pos h6, nI_clamp (by omega)]; exact (hSh u hu).2.1
           · rw [beR_c (by omega) (by omega) hk, up2_ne (by omega), e_lay, if_pos h6, r_row, nI_clamp (by omega), if_pos rfl, nI_clamp (by omega)]; exact (hSh u hu).2.2 k hk)
        | (have h5 : ¬ t = 1 := cq94
           have h6 : ¬ t = 2 := cq130
           have eg : g_lay S H N (nI i) t x = (H i, true) := by rw [g_lay, if_pos hok, if_neg h5, if_neg h6, nI_clamp (by omega)]
           rw [eg, if_pos rfl, if_pos rfl, if_pos rfl, if_pos rfl, nI_clamp (by omega), eH]
           refine ⟨rfl, rfl, fun z hz => by rw [up2_ne (by omega), up2_ne (by omega)], hS.lay hi (fun z h1 _ _ => by rw [up2_ne h1, up2_ne h1]) (by rw [up2_ni (by decide), up2_same]) (fun h9 => absurd h9 h5) (fun h9 => absurd h9 h6) (fun _ => by rw [up2_same, a_lay, if_neg h5, if_neg h6]) (e_lay_o hi)⟩)
  refine Meth.of (by decide +kernel) (by simp [Value.category]) (Nat.le_of_ble_eq_true rfl) ?_
  refine A_iload_n rfl dX7_lay_0 ?_
  refine A_callS (s_isSlot l G _ _ _) m_X7_isSlot ml_X7_264 rfl rfl rfl (Nat.le_of_ble_eq_true rfl) (by decide) (by decide) (by decide) dX7_lay_1 (fun _ _ _ h => congrArg List.length h.2.1) ?_
  rintro _ _ _ ⟨rfl, rfl, e9⟩
  refine AW_I e9 ?_
  clear e9
  refine A_if_eq 16 rfl dX7_lay_4 (fun cq4 => ?_) (fun cq4 => ?_)
  · skip
    refine A_ldc kc_X7_60 rfl dX7_lay_16 ?_
    refine A_iret rfl rfl rfl rfl dX7_lay_18 ?_
    have eg : g_lay S H N q t x = (-1000000001, false) := by
      first
        | (have h7 := b2i_q.mp cq4; rw [g_lay, if_neg (fun h9 => h7 h9.1)])
        | (have h7 := b2i_q.mp cq13; rw [g_lay, if_neg (fun h9 => h7 h9.2)])
    rw [eg]
    exact ⟨rfl, rfl, fun _ _ => rfl, hS⟩
  · skip
    refine A_iload_n rfl dX7_lay_7 ?_
    refine A_iconst ic_0 dX7_lay_8 ?_
    refine A_iconst ic_3 dX7_lay_9 ?_
    refine A_callS (s_within l G _ _ _ _ _) m_X7_within ml_X7_56 rfl rfl rfl (Nat.le_of_ble_eq_true rfl) (by decide) (by decide) (by decide) dX7_lay_10 (fun _ _ _ h => congrArg List.length h.2.1) ?_
    rintro _ _ _ ⟨rfl, rfl, e9⟩
    refine AW_I e9 ?_
    clear e9
    refine A_if_ne 19 rfl dX7_lay_13 (fun cq13 => ?_) (fun cq13 => ?_)
    · skip
      refine A_iload_n rfl dX7_lay_19 ?_
      refine A_iconst ic_1 dX7_lay_20 ?_
      refine A_icmp_ne 35 rfl dX7_lay_21 (fun cq21 => ?_) (fun cq21 => ?_)
      · skip
        refine A_iload_n rfl dX7_lay_35 ?_
        refine A_iconst ic_2 dX7_lay_36 ?_
        refine A_icmp_ne 50 rfl dX7_lay_37 (fun cq37 => ?_) (fun cq37 => ?_)
        · skip
          refine A_iload_n rfl dX7_lay_50 ?_
          refine A_iconst ic_2 dX7_lay_51 ?_
          refine A_icmp_ne 71 rfl dX7_lay_52 (fun cq52 => ?_) (fun cq52 => ?_)
          · skip
            have hok : (0 ≤ q ∧ q ≤ 4) ∧ (0 ≤ t ∧ t ≤ 3) := ⟨b2i_p.mp cq4, b2i_p.mp cq13⟩
            obtain ⟨i, hi, hqi⟩ := in_get (a := 4) rfl hok.1
            refine j71 i hqi (by omega) hok ?_
            first
              | (have h6 : t = 1 := cq21; have h7 := b2i_p.mp cq32; rw [hR.1.1] at h7; exact Or.inl ⟨h6, h7⟩)
              | (have h6 : t = 2 := cq37; have h7 : ¬ I (61 + 2 * u) 0 = -1 := cq65; rw [(hSh u hu).1] at h7; exact Or.inr (Or.inl ⟨h6, hxs, by rw [nI_clamp (by omega)]; exact h7⟩))
              | (have h6 : ¬ t = 1 := cq21; have h7 : ¬ t = 2 := cq37; exact Or.inr (Or.inr ⟨h6, h7⟩))
              | (have h6 : t = 2 := cq37; have h7 : ¬ t = 2 := cq52; exact absurd h6 h7)
          · skip
            have hxs : 0 ≤ x ∧ x ≤ 3 := by
              first | exact b2i_p.mp cq44 | exact absurd cq52 cq37
            obtain ⟨u, hu, rfl⟩ := in_get (a := 3) rfl hxs
            replace hu : u < 4 := by omega
            refine A_aload_n rfl dX7_lay_55 ?_
            refine A_getR fr_X7_40.g rfl lay_0 rfl dX7_lay_56 ?_
            refine A_iload_n rfl dX7_lay_59 ?_
            refine A_aald u rfl lay_60 (Or.inr (Or.inl rfl)) (by omega) (by decide) (sh_at u hu) dX7_lay_60 ?_
            refine A_getI fr_X7_189.g rfl (lr (isR_s hu)) dX7_lay_61 ?_
            refine A_iconst ic_m1 dX7_lay_64 ?_
            refine A_icmp_ne 71 rfl dX7_lay_65 (fun cq65 => ?_) (fun cq65 => ?_)
            · skip
              have hok : (0 ≤ q ∧ q ≤ 4) ∧ (0 ≤ t ∧ t ≤ 3) := ⟨b2i_p.mp cq4, b2i_p.mp cq13⟩
              obtain ⟨i, hi, hqi⟩ := in_get (a := 4) rfl hok.1
              refine j71 i hqi (by omega) hok ?_
              first
                | (have h6 : t = 1 := cq21; have h7 := b2i_p.mp cq32; rw [hR.1.1] at h7; exact Or.inl ⟨h6, h7⟩)
                | (have h6 : t = 2 := cq37; have h7 : ¬ I (61 + 2 * u) 0 = -1 := cq65; rw [(hSh u hu).1] at h7; exact Or.inr (Or.inl ⟨h6, hxs, by rw [nI_clamp (by omega)]; exact h7⟩))
                | (have h6 : ¬ t = 1 := cq21; have h7 : ¬ t = 2 := cq37; exact Or.inr (Or.inr ⟨h6, h7⟩))
                | (have h6 : t = 2 := cq37; have h7 : ¬ t = 2 := cq52; exact absurd h6 h7)
            · skip
              refine A_ldc kc_X7_192 rfl dX7_lay_68 ?_
              refine A_iret rfl rfl rfl rfl dX7_lay_70 ?_
              rw [(hSh u hu).1] at cq65
              have eg : g_lay S H N q t (nI u) = (-1000000011, false) := by rw [g_lay, if_pos ⟨b2i_p.mp cq4, b2i_p.mp cq13⟩, if_neg (by rw [cq52]; decide), if_pos cq52, if_pos hxs, nI_clamp (by omega), if_pos cq65]
              rw [eg]
              exact ⟨rfl, rfl, fun _ _ => rfl, hS⟩
        · skip
          refine A_iload_n rfl dX7_lay_40 ?_
          refine A_callS (s_isSheet l G _ _ _) m_X7_isSheet ml_X7_186 rfl rfl rfl (Nat.le_of_ble_eq_true rfl) (by decide) (by decide) (by decide) dX7_lay_41 (fun _ _ _ h => congrArg List.length h.2.1) ?_
          rintro _ _ _ ⟨rfl, rfl, e9⟩
          refine AW_I e9 ?_
          clear e9
          refine A_if_ne 50 rfl dX7_lay_44 (fun cq44 => ?_) (fun cq44 => ?_)
          · skip
            refine A_iload_n rfl dX7_lay_50 ?_
            refine A_iconst ic_2 dX7_lay_51 ?_
            refine A_icmp_ne 71 rfl dX7_lay_52 (fun cq52 => ?_) (fun cq52 => ?_)
            · skip
              have hok : (0 ≤ q ∧ q ≤ 4) ∧ (0 ≤ t ∧ t ≤ 3) := ⟨b2i_p.mp cq4, b2i_p.mp cq13⟩
              obtain ⟨i, hi, hqi⟩ := in_get (a := 4) rfl hok.1
              refine j71 i hqi (by omega) hok ?_
              first
                | (have h6 : t = 1 := cq21; have h7 := b2i_p.mp cq32; rw [hR.1.1] at h7; exact Or.inl ⟨h6, h7⟩)
                | (have h6 : t = 2 := cq37; have h7 : ¬ I (61 + 2 * u) 0 = -1 := cq65; rw [(hSh u hu).1] at h7; exact Or.inr (Or.inl ⟨h6, hxs, by rw [nI_clamp (by omega)]; exact h7⟩))
                | (have h6 : ¬ t = 1 := cq21; have h7 : ¬ t = 2 := cq37; exact Or.inr (Or.inr ⟨h6, h7⟩))
                | (have h6 : t = 2 := cq37; have h7 : ¬ t = 2 := cq52; exact absurd h6 h7)
            · skip
              have hxs : 0 ≤ x ∧ x ≤ 3 := by
                first | exact b2i_p.mp cq44 | exact absurd cq52 cq37
              obtain ⟨u, hu, rfl⟩ := in_get (a := 3) rfl hxs
              replace hu : u < 4 := by omega
              refine A_aload_n rfl dX7_lay_55 ?_
              refine A_getR fr_X7_40.g rfl lay_0 rfl dX7_lay_56 ?_
              refine A_iload_n rfl dX7_lay_59 ?_
              refine A_aald u rfl lay_60 (Or.inr (Or.inl rfl)) (by omega) (by decide) (sh_at u hu) dX7_lay_60 ?_
              refine A_getI fr_X7_189.g rfl (lr (isR_s hu)) dX7_lay_61 ?_
              refine A_iconst ic_m1 dX7_lay_64 ?_
              refine A_icmp_ne 71 rfl dX7_lay_65 (fun cq65 => ?_) (fun cq65 => ?_)
              · skip
                have hok : (0 ≤ q ∧ q ≤ 4) ∧ (0 ≤ t ∧ t ≤ 3) := ⟨b2i_p.mp cq4, b2i_p.mp cq13⟩
                obtain ⟨i, hi, hqi⟩ := in_get (a := 4) rfl hok.1
                refine j71 i hqi (by omega) hok ?_
                first
                  | (have h6 : t = 1 := cq21; have h7 := b2i_p.mp cq32; rw [hR.1.1] at h7; exact Or.inl ⟨h6, h7⟩)
                  | (have h6 : t = 2 := cq37; have h7 : ¬ I (61 + 2 * u) 0 = -1 := cq65; rw [(hSh u hu).1] at h7; exact Or.inr (Or.inl ⟨h6, hxs, by rw [nI_clamp (by omega)]; exact h7⟩))
                  | (have h6 : ¬ t = 1 := cq21; have h7 : ¬ t = 2 := cq37; exact Or.inr (Or.inr ⟨h6, h7⟩))
                  | (have h6 : t = 2 := cq37; have h7 : ¬ t = 2 := cq52; exact absurd h6 h7)
              · skip
                refine A_ldc kc_X7_192 rfl dX7_lay_68 ?_
                refine A_iret rfl rfl rfl rfl dX7_lay_70 ?_
                rw [(hSh u hu).1] at cq65
                have eg : g_lay S H N q t (nI u) = (-1000000011, false) := by rw [g_lay, if_pos ⟨b2i_p.mp cq4, b2i_p.mp cq13⟩, if_neg (by rw [cq52]; decide), if_pos cq52, if_pos hxs, nI_clamp (by omega), if_pos cq65]
                rw [eg]
                exact ⟨rfl, rfl, fun _ _ => rfl, hS⟩
          · skip
            refine A_ldc kc_X7_60 rfl dX7_lay_47 ?_
            refine A_iret rfl rfl rfl rfl dX7_lay_49 ?_
            have eg : g_lay S H N q t x = (-1000000001, false) := by
              first
                | (have h7 := b2i_q.mp cq4; rw [g_lay, if_neg (fun h9 => h7 h9.1)])
                | (have h7 := b2i_q.mp cq13; rw [g_lay, if_neg (fun h9 => h7 h9.2)])
                | (have h6 : t = 1 := cq21; have h7 := b2i_q.mp cq32; rw [hR.1.1] at h7; rw [g_lay, if_pos ⟨b2i_p.mp cq4, b2i_p.mp cq13⟩, if_pos h6, if_neg h7])
                | (have h6 : t = 2 := cq37; have h7 := b2i_q.mp cq44; rw [g_lay, if_pos ⟨b2i_p.mp cq4, b2i_p.mp cq13⟩, if_neg (by rw [h6]; decide), if_pos h6, if_neg h7])
            rw [eg]
            exact ⟨rfl, rfl, fun _ _ => rfl, hS⟩
      · skip
        refine A_aload_n rfl dX7_lay_24 ?_
        refine A_getR fr_X7_28.g rfl lay_0 rfl dX7_lay_25 ?_
        refine A_iload_n rfl dX7_lay_28 ?_
        refine A_callV (s_has l G 36 j36 I _) m_X0_has ml_X7_70 rfl (lj j36) rfl (by decide) rfl rfl (Nat.le_of_ble_eq_true rfl) (by decide) (by decide) (by decide) dX7_lay_29 (fun _ _ _ h => congrArg List.length h.2.1) ?_
        rintro _ _ _ ⟨rfl, rfl, e9⟩
        refine AW_I e9 ?_
        clear e9
        refine A_if_eq 47 rfl dX7_lay_32 (fun cq32 => ?_) (fun cq32 => ?_)
        · skip
          refine A_ldc kc_X7_60 rfl dX7_lay_47 ?_
          refine A_iret rfl rfl rfl rfl dX7_lay_49 ?_
          have eg : g_lay S H N q t x = (-1000000001, false) := by
            first
              | (have h7 := b2i_q.mp cq4; rw [g_lay, if_neg (fun h9 => h7 h9.1)])
              | (have h7 := b2i_q.mp cq13; rw [g_lay, if_neg (fun h9 => h7 h9.2)])
              | (have h6 : t = 1 := cq21; have h7 := b2i_q.mp cq32; rw [hR.1.1] at h7; rw [g_lay, if_pos ⟨b2i_p.mp cq4, b2i_p.mp cq13⟩, if_pos h6, if_neg h7])
              | (have h6 : t = 2 := cq37; have h7 := b2i_q.mp cq44; rw [g_lay, if_pos ⟨b2i_p.mp cq4, b2i_p.mp cq13⟩, if_neg (by rw [h6]; decide), if_pos h6, if_neg h7])
          rw [eg]
          exact ⟨rfl, rfl, fun _ _ => rfl, hS⟩
        · skip
          refine A_iload_n rfl dX7_lay_35 ?_
          refine A_iconst ic_2 dX7_lay_36 ?_
          refine A_icmp_ne 50 rfl dX7_lay_37 (fun cq37 => ?_) (fun cq37 => ?_)
          · skip
            refine A_iload_n rfl dX7_lay_50 ?_
            refine A_iconst ic_2 dX7_lay_51 ?_
            refine A_icmp_ne 71 rfl dX7_lay_52 (fun cq52 => ?_) (fun cq52 => ?_)
            · skip
              have hok : (0 ≤ q ∧ q ≤ 4) ∧ (0 ≤ t ∧ t ≤ 3) := ⟨b2i_p.mp cq4, b2i_p.mp cq13⟩
              obtain ⟨i, hi, hqi⟩ := in_get (a := 4) rfl hok.1
              refine j71 i hqi (by omega) hok ?_
              first
                | (have h6 : t = 1 := cq21; have h7 := b2i_p.mp cq32; rw [hR.1.1] at h7; exact Or.inl ⟨h6, h7⟩)
                | (have h6 : t = 2 := cq37; have h7 : ¬ I (61 + 2 * u) 0 = -1 := cq65; rw [(hSh u hu).1] at h7; exact Or.inr (Or.inl ⟨h6, hxs, by rw [nI_clamp (by omega)]; exact h7⟩))
                | (have h6 : ¬ t = 1 := cq21; have h7 : ¬ t = 2 := cq37; exact Or.inr (Or.inr ⟨h6, h7⟩))
                | (have h6 : t = 2 := cq37; have h7 : ¬ t = 2 := cq52; exact absurd h6 h7)
            · skip
              have hxs : 0 ≤ x ∧ x ≤ 3 := by
                first | exact b2i_p.mp cq44 | exact absurd cq52 cq37
              obtain ⟨u, hu, rfl⟩ := in_get (a := 3) rfl hxs
              replace hu : u < 4 := by omega
              refine A_aload_n rfl dX7_lay_55 ?_
              refine A_getR fr_X7_40.g rfl lay_0 rfl dX7_lay_56 ?_
              refine A_iload_n rfl dX7_lay_59 ?_
              refine A_aald u rfl lay_60 (Or.inr (Or.inl rfl)) (by omega) (by decide) (sh_at u hu) dX7_lay_60 ?_
              refine A_getI fr_X7_189.g rfl (lr (isR_s hu)) dX7_lay_61 ?_
              refine A_iconst ic_m1 dX7_lay_64 ?_
              refine A_icmp_ne 71 rfl dX7_lay_65 (fun cq65 => ?_) (fun cq65 => ?_)
              · skip
                have hok : (0 ≤ q ∧ q ≤ 4) ∧ (0 ≤ t ∧ t ≤ 3) := ⟨b2i_p.mp cq4, b2i_p.mp cq13⟩
                obtain ⟨i, hi, hqi⟩ := in_get (a := 4) rfl hok.1
                refine j71 i hqi (by omega) hok ?_
                first
                  | (have h6 : t = 1 := cq21; have h7 := b2i_p.mp cq32; rw [hR.1.1] at h7; exact Or.inl ⟨h6, h7⟩)
                  | (have h6 : t = 2 := cq37; have h7 : ¬ I (61 + 2 * u) 0 = -1 := cq65; rw [(hSh u hu).1] at h7; exact Or.inr (Or.inl ⟨h6, hxs, by rw [nI_clamp (by omega)]; exact h7⟩))
                  | (have h6 : ¬ t = 1 := cq21; have h7 : ¬ t = 2 := cq37; exact Or.inr (Or.inr ⟨h6, h7⟩))
                  | (have h6 : t = 2 := cq37; have h7 : ¬ t = 2 := cq52; exact absurd h6 h7)
              · skip
                refine A_ldc kc_X7_192 rfl dX7_lay_68 ?_
                refine A_iret rfl rfl rfl rfl dX7_lay_70 ?_
                rw [(hSh u hu).1] at cq65
                have eg : g_lay S H N q t (nI u) = (-1000000011, false) := by rw [g_lay, if_pos ⟨b2i_p.mp cq4, b2i_p.mp cq13⟩, if_neg (by rw [cq52]; decide), if_pos cq52, if_pos hxs, nI_clamp (by omega), if_pos cq65]
                rw [eg]
                exact ⟨rfl, rfl, fun _ _ => rfl, hS⟩
          · skip
            refine A_iload_n rfl dX7_lay_40 ?_
            refine A_callS (s_isSheet l G _ _ _) m_X7_isSheet ml_X7_186 rfl rfl rfl (Nat.le_of_ble_eq_true rfl) (by decide) (by decide) (by decide) dX7_lay_41 (fun _ _ _ h => congrArg List.length h.2.1) ?_
            rintro _ _ _ ⟨rfl, rfl, e9⟩
            refine AW_I e9 ?_
            clear e9
            refine A_if_ne 50 rfl dX7_lay_44 (fun cq44 => ?_) (fun cq44 => ?_)
            · skip
              refine A_iload_n rfl dX7_lay_50 ?_
              refine A_iconst ic_2 dX7_lay_51 ?_
              refine A_icmp_ne 71 rfl dX7_lay_52 (fun cq52 => ?_) (fun cq52 => ?_)
              · skip
                have hok : (0 ≤ q ∧ q ≤ 4) ∧ (0 ≤ t ∧ t ≤ 3) := ⟨b2i_p.mp cq4, b2i_p.mp cq13⟩
                obtain ⟨i, hi, hqi⟩ := in_get (a := 4) rfl hok.1
                refine j71 i hqi (by omega) hok ?_
                first
                  | (have h6 : t = 1 := cq21; have h7 := b2i_p.mp cq32; rw [hR.1.1] at h7; exact Or.inl ⟨h6, h7⟩)
                  | (have h6 : t = 2 := cq37; have h7 : ¬ I (61 + 2 * u) 0 = -1 := cq65; rw [(hSh u hu).1] at h7; exact Or.inr (Or.inl ⟨h6, hxs, by rw [nI_clamp (by omega)]; exact h7⟩))
                  | (have h6 : ¬ t = 1 := cq21; have h7 : ¬ t = 2 := cq37; exact Or.inr (Or.inr ⟨h6, h7⟩))
                  | (have h6 : t = 2 := cq37; have h7 : ¬ t = 2 := cq52; exact absurd h6 h7)
              · skip
                have hxs : 0 ≤ x ∧ x ≤ 3 := by
                  first | exact b2i_p.mp cq44 | exact absurd cq52 cq37
                obtain ⟨u, hu, rfl⟩ := in_get (a := 3) rfl hxs
                replace hu : u < 4 := by omega
                refine A_aload_n rfl dX7_lay_55 ?_
                refine A_getR fr_X7_40.g rfl lay_0 rfl dX7_lay_56 ?_
                refine A_iload_n rfl dX7_lay_59 ?_
                refine A_aald u rfl lay_60 (Or.inr (Or.inl rfl)) (by omega) (by decide) (sh_at u hu) dX7_lay_60 ?_
                refine A_getI fr_X7_189.g rfl (lr (isR_s hu)) dX7_lay_61 ?_
                refine A_iconst ic_m1 dX7_lay_64 ?_
                refine A_icmp_ne 71 rfl dX7_lay_65 (fun cq65 => ?_) (fun cq65 => ?_)
                · skip
                  have hok : (0 ≤ q ∧ q ≤ 4) ∧ (0 ≤ t ∧ t ≤ 3) := ⟨b2i_p.mp cq4, b2i_p.mp cq13⟩
                  obtain ⟨i, hi, hqi⟩ := in_get (a := 4) rfl hok.1
                  refine j71 i hqi (by omega) hok ?_
                  first
                    | (have h6 : t = 1 := cq21; have h7 := b2i_p.mp cq32; rw [hR.1.1] at h7; exact Or.inl ⟨h6, h7⟩)
                    | (have h6 : t = 2 := cq37; have h7 : ¬ I (61 + 2 * u) 0 = -1 := cq65; rw [(hSh u hu).1] at h7; exact Or.inr (Or.inl ⟨h6, hxs, by rw [nI_clamp (by omega)]; exact h7⟩))
                    | (have h6 : ¬ t = 1 := cq21; have h7 : ¬ t = 2 := cq37; exact Or.inr (Or.inr ⟨h6, h7⟩))
                    | (have h6 : t = 2 := cq37; have h7 : ¬ t = 2 := cq52; exact absurd h6 h7)
                · skip
                  refine A_ldc kc_X7_192 rfl dX7_lay_68 ?_
                  refine A_iret rfl rfl rfl rfl dX7_lay_70 ?_
                  rw [(hSh u hu).1] at cq65
                  have eg : g_lay S H N q t (nI u) = (-1000000011, false) := by rw [g_lay, if_pos ⟨b2i_p.mp cq4, b2i_p.mp cq13⟩, if_neg (by rw [cq52]; decide), if_pos cq52, if_pos hxs, nI_clamp (by omega), if_pos cq65]
                  rw [eg]
                  exact ⟨rfl, rfl, fun _ _ => rfl, hS⟩
            · skip
              refine A_ldc kc_X7_60 rfl dX7_lay_47 ?_
              refine A_iret rfl rfl rfl rfl dX7_lay_49 ?_
              have eg : g_lay S H N q t x = (-1000000001, false) := by
                first
                  | (have h7 := b2i_q.mp cq4; rw [g_lay, if_neg (fun h9 => h7 h9.1)])
                  | (have h7 := b2i_q.mp cq13; rw [g_lay, if_neg (fun h9 => h7 h9.2)])
                  | (have h6 : t = 1 := cq21; have h7 := b2i_q.mp cq32; rw [hR.1.1] at h7; rw [g_lay, if_pos ⟨b2i_p.mp cq4, b2i_p.mp cq13⟩, if_pos h6, if_neg h7])
                  | (have h6 : t = 2 := cq37; have h7 := b2i_q.mp cq44; rw [g_lay, if_pos ⟨b2i_p.mp cq4, b2i_p.mp cq13⟩, if_neg (by rw [h6]; decide), if_pos h6, if_neg h7])
              rw [eg]
              exact ⟨rfl, rfl, fun _ _ => rfl, hS⟩
    · skip
      refine A_ldc kc_X7_60 rfl dX7_lay_16 ?_
      refine A_iret rfl rfl rfl rfl dX7_lay_18 ?_
      have eg : g_lay S H N q t x = (-1000000001, false) := by
        first
          | (have h7 := b2i_q.mp cq4; rw [g_lay, if_neg (fun h9 => h7 h9.1)])
          | (have h7 := b2i_q.mp cq13; rw [g_lay, if_neg (fun h9 => h7 h9.2)])
      rw [eg]
      exact ⟨rfl, rfl, fun _ _ => rfl, hS⟩
