/-! sheets: S sorts, Z sizes, C places -/
abbrev Fn2 : Type := Nat → Nat → Int32
def ShC (I : Hp) (S Z : Nrow) (C : Fn2) : Prop := ∀ s, s < 4 → I (61 + 2 * s) 0 = S s ∧ I (61 + 2 * s) 1 = Z s ∧ ∀ k, k < 24 → I (61 + 2 * s + 1) k = C s k
def ShM (I : Hp) (S Z : Nrow) (C : Fn2) : Prop := ∀ s, s < 4 → I 99 s = S s ∧ I 100 s = Z s ∧ ∀ k, k < 24 → I 101 (24 * s + k) = C s k
def ShW (S Z : Nrow) (C : Fn2) : Prop := ∀ s, s < 4 → (S s = -1 ∨ S s = 0 ∨ S s = 1) ∧ (∃ m, m ≤ 24 ∧ Z s = nI m) ∧ ∀ k, k < 24 → C s k = -1000000005 ∨ (-99999 ≤ C s k ∧ C s k ≤ 99999)
theorem isR_s {s : Nat} (h : s < 4) : isR (61 + 2 * s) := Or.inl ⟨s, h, rfl⟩
theorem isR_q {q : Nat} (h : q < 5) : isR (70 + 3 * q + 1) := Or.inr ⟨q, h, by omega⟩
theorem sh_at : ∀ s, s < 4 → ([some 61, some 63, some 65, some 67] : List (Option Nat))[s]? = some (some (61 + 2 * s)) := by decide
theorem sl_at : ∀ q, q < 5 → ([some 70, some 73, some 76, some 79, some 82] : List (Option Nat))[q]? = some (some (70 + 3 * q)) := by decide
def r_fill (C : Fn2) (s : Nat) (x : Int32) : Fn2 := fun q k => if q = s then x else C q k
def heB (I : Hp) (r : Nat) (w x : Int32) (k : Nat) : Hp := fun q => if q = r + 1 then (fun j => if j < k then 0 else I q j) else if q = r then upd (upd (I r) 0 w) 1 x else I q
theorem heB_0 {I : Hp} {r : Nat} {w x : Int32} : up2 (up2 I r 0 w) r 1 x = heB I r w x 0 := by
  funext q j
  unfold heB up2
  by_cases h1 : q = r + 1
  · subst h1
    simp
  · by_cases h2 : q = r <;> simp [h1, h2]
theorem heB_s {I : Hp} {r : Nat} {w x : Int32} {k : Nat} : up2 (heB I r w x k) (r + 1) k 0 = heB I r w x (k + 1) := by
  funext q j
  unfold heB up2 upd
  by_cases h1 : q = r + 1
  · subst h1
    simp only [if_true]
    by_cases h2 : j = k
    · subst h2; simp
    · rw [if_neg h2]
      by_cases h3 : j < k
      · rw [if_pos h3, if_pos (by omega)]
      · rw [if_neg h3, if_neg (by omega)]
  · simp [h1]
set_option maxHeartbeats 1000000 in
set_option maxRecDepth 100000 in
theorem s_begin (l : Launch) (G : Gm) (I : Hp) (r : Nat) (hr : isR r) (w x : Int32) : Meth l G yX4_begin cX4_begin 4 none 3 0 0 [.ref r, .int w, .int x] LAY I (fun r1 lay1 I1 => r1 = none ∧ lay1 = LAY ∧ I1 = heB I r w (heldF x 0 24) 24) := by
  have loop : ∀ (lpn : Nat) (k : Nat), 24 - k = lpn → (k ≤ 24) → AW l G yX4_begin cX4_begin 4 none 3 0 0 (fun r1 lay1 I1 => r1 = none ∧ lay1 = LAY ∧ I1 = heB I r w (heldF x 0 24) 24) 0 0 18 [some (.ref r), some (.int w), some (.int x), some (.int (nI k))] [] LAY (heB I r w (heldF x 0 24) k) := by
    intro lpn
    induction lpn using Nat.strongRecOn with
    | _ lpn ih =>
      intro k hms hk
      refine A_iload_n rfl dX4_begin_18 ?_
      refine A_bipush bp_24 dX4_begin_19 ?_
      refine A_icmp_ge 37 rfl dX4_begin_21 (fun cq21 => ?_) (fun cq21 => ?_)
      · skip
        have hkn : k = 24 := by
          have hq1 := (le_nI (show (24 : Int32) = nI 24 from rfl) (rfl : nI k = nI k) (by omega) (by omega)).mp cq21
          omega
        subst hkn
        refine A_vret rfl rfl rfl dX4_begin_37 ?_
        exact ⟨rfl, rfl, rfl⟩
      · skip
        have hkn : k < 24 := by
          have hq1 := mt (le_nI (show (24 : Int32) = nI 24 from rfl) (rfl : nI k = nI k) (by omega) (by omega)).mpr cq21
          omega
        refine A_aload_n rfl dX4_begin_24 ?_
        refine A_getR fr_X4_15.g rfl (lr hr) rfl dX4_begin_25 ?_
        refine A_iload_n rfl dX4_begin_28 ?_
        refine A_iconst ic_0 dX4_begin_29 ?_
        refine A_iast k rfl (lr2 hr) (by omega) (by decide) dX4_begin_30 ?_
        rw [heB_s]
        refine A_iinc ic_1 rfl (by decide) rfl dX4_begin_31 ?_
        refine A_goto 18 rfl dX4_begin_34 ?_
        refine AW_L (by rw [nI_1 k]) ?_
        exact ih (24 - (k + 1)) (by omega) (k + 1) rfl (by omega)
  refine Meth.of (by decide +kernel) (by simp [Value.category]) (Nat.le_of_ble_eq_true rfl) ?_
  refine A_aload_n rfl dX4_begin_0 ?_
  refine A_iload_n rfl dX4_begin_1 ?_
  refine A_putI fr_X4_9 rfl (lr hr) rfl rfl dX4_begin_2 ?_
  refine A_aload_n rfl dX4_begin_5 ?_
  refine A_iload_n rfl dX4_begin_6 ?_
  refine A_iconst ic_0 dX4_begin_7 ?_
  refine A_bipush bp_24 dX4_begin_8 ?_
  refine A_callN (s_held l G _ _ _ _ _) m_X7_held rfl (by decide) rfl rfl (Nat.le_of_ble_eq_true rfl) (by decide) (by decide) (by decide) dX4_begin_10 (fun _ _ _ h => congrArg List.length h.2.1) ?_
  rintro _ _ _ ⟨rfl, rfl, e9⟩
  refine AW_I e9 ?_
  clear e9
  refine A_putI fr_X4_23 rfl (lr hr) rfl rfl dX4_begin_13 ?_
  rw [heB_0]
  refine A_iconst ic_0 dX4_begin_16 ?_
  refine A_istore_n (by decide) rfl dX4_begin_17 ?_
  exact loop 24 0 rfl (by omega)
set_option maxHeartbeats 1000000 in
set_option maxRecDepth 100000 in
theorem s_rhas (l : Launch) (G : Gm) (I : Hp) (r : Nat) (hr : isR r) (v : Int32) : Meth l G yX4_has cX4_has 2 (some (FieldType.boolean)) 1 0 0 [.ref r, .int v] LAY I (fun r1 lay1 I1 => r1 = some (.int (b2i (decide (0 ≤ v ∧ v < I r 1)))) ∧ lay1 = LAY ∧ I1 = I) := by
  refine Meth.of (by decide +kernel) (by simp [Value.category]) (Nat.le_of_ble_eq_true rfl) ?_
  refine A_iload_n rfl dX4_has_0 ?_
  refine A_if_lt 16 rfl dX4_has_1 (fun cq1 => ?_) (fun cq1 => ?_)
  · skip
    refine A_iconst ic_0 dX4_has_16 ?_
    refine A_iret rfl rfl rfl rfl dX4_has_17 ?_
    refine ⟨?_, rfl, rfl⟩
    first
      | (have h7 : v < 0 := cq1; rw [b2i_ff (fun h9 => Int32.not_lt.mpr h9.1 h7)])
      | (have h7 : I r 1 ≤ v := cq9; rw [b2i_ff (fun h9 => Int32.not_lt.mpr h7 h9.2)])
      | rw [b2i_tt ⟨Int32.not_lt.mp cq1, Int32.not_le.mp cq9⟩]
  · skip
    refine A_iload_n rfl dX4_has_4 ?_
    refine A_aload_n rfl dX4_has_5 ?_
    refine A_getI fr_X4_23.g rfl (lr hr) dX4_has_6 ?_
    refine A_icmp_ge 16 rfl dX4_has_9 (fun cq9 => ?_) (fun cq9 => ?_)
    · skip
      refine A_iconst ic_0 dX4_has_16 ?_
      refine A_iret rfl rfl rfl rfl dX4_has_17 ?_
      refine ⟨?_, rfl, rfl⟩
      first
        | (have h7 : v < 0 := cq1; rw [b2i_ff (fun h9 => Int32.not_lt.mpr h9.1 h7)])
        | (have h7 : I r 1 ≤ v := cq9; rw [b2i_ff (fun h9 => Int32.not_lt.mpr h7 h9.2)])
        | rw [b2i_tt ⟨Int32.not_lt.mp cq1, Int32.not_le.mp cq9⟩]
    · skip
      refine A_iconst ic_1 dX4_has_12 ?_
      refine A_goto 17 rfl dX4_has_13 ?_
      refine A_iret rfl rfl rfl rfl dX4_has_17 ?_
      refine ⟨?_, rfl, rfl⟩
      first
        | (have h7 : v < 0 := cq1; rw [b2i_ff (fun h9 => Int32.not_lt.mpr h9.1 h7)])
        | (have h7 : I r 1 ≤ v := cq9; rw [b2i_ff (fun h9 => Int32.not_lt.mpr h7 h9.2)])
        | rw [b2i_tt ⟨Int32.not_lt.mp cq1, Int32.not_le.mp cq9⟩]
set_option maxHeartbeats 1000000 in
set_option maxRecDepth 100000 in
theorem s_hasN (l : Launch) (G : Gm) (I : Hp) (r : Nat) (hr : isR r) (v : Int32) (m : Nat) (hm : m ≤ 24) (hz : I r 1 = nI m) : Meth l G yX4_hasNumber cX4_hasNumber 2 (some (FieldType.boolean)) 2 0 0 [.ref r, .int v] LAY I (fun r1 lay1 I1 => r1 = some (.int (b2i (decide ((0 ≤ v ∧ v < I r 1) ∧ I (r + 1) v.toNatClampNeg ≠ -1000000005)))) ∧ lay1 = LAY ∧ I1 = I) := by
  refine Meth.of (by decide +kernel) (by simp [Value.category]) (Nat.le_of_ble_eq_true rfl) ?_
  refine A_aload_n rfl dX4_hasNumber_0 ?_
  refine A_iload_n rfl dX4_hasNumber_1 ?_
  refine A_callV (s_rhas l G I r hr _) m_X4_has ml_X4_32 rfl (lr hr) rfl (by decide) rfl rfl (Nat.le_of_ble_eq_true rfl) (by decide) (by decide) (by decide) dX4_hasNumber_2 (fun _ _ _ h => congrArg List.length h.2.1) ?_
  rintro _ _ _ ⟨rfl, rfl, e9⟩
  refine AW_I e9 ?_
  clear e9
  refine A_if_eq 23 rfl dX4_hasNumber_5 (fun cq5 => ?_) (fun cq5 => ?_)
  · skip
    refine A_iconst ic_0 dX4_hasNumber_23 ?_
    refine A_iret rfl rfl rfl rfl dX4_hasNumber_24 ?_
    refine ⟨?_, rfl, rfl⟩
    first
      | (have h7 := b2i_q.mp cq5; rw [b2i_ff (fun h9 => h7 h9.1)])
      | (have h7 : I (r + 1) i = -1000000005 := cq16; rw [nI_clamp (by omega), b2i_ff (fun h9 => h9.2 h7)])
      | (have h7 : ¬ I (r + 1) i = -1000000005 := cq16; rw [nI_clamp (by omega), b2i_tt ⟨hv, h7⟩])
  · skip
    have hv := b2i_p.mp cq5
    obtain ⟨i, hi, hvi⟩ : ∃ i, i < m ∧ v = nI i := by
      rw [hz] at hv
      obtain ⟨i, hi1, hi2⟩ := nI_of (Int32.not_lt.mpr hv.1)
      subst hi2
      exact ⟨i, (nI_ltI hi1 (by omega)).mp hv.2, rfl⟩
    subst hvi
    refine A_aload_n rfl dX4_hasNumber_8 ?_
    refine A_getR fr_X4_15.g rfl (lr hr) rfl dX4_hasNumber_9 ?_
    refine A_iload_n rfl dX4_hasNumber_12 ?_
    refine A_iald i rfl (lr2 hr) (by omega) (by decide) dX4_hasNumber_13 ?_
    refine A_ldc kc_X4_36 rfl dX4_hasNumber_14 ?_
    refine A_icmp_eq 23 rfl dX4_hasNumber_16 (fun cq16 => ?_) (fun cq16 => ?_)
    · skip
      refine A_iconst ic_0 dX4_hasNumber_23 ?_
      refine A_iret rfl rfl rfl rfl dX4_hasNumber_24 ?_
      refine ⟨?_, rfl, rfl⟩
      first
        | (have h7 := b2i_q.mp cq5; rw [b2i_ff (fun h9 => h7 h9.1)])
        | (have h7 : I (r + 1) i = -1000000005 := cq16; rw [nI_clamp (by omega), b2i_ff (fun h9 => h9.2 h7)])
        | (have h7 : ¬ I (r + 1) i = -1000000005 := cq16; rw [nI_clamp (by omega), b2i_tt ⟨hv, h7⟩])
    · skip
      refine A_iconst ic_1 dX4_hasNumber_19 ?_
      refine A_goto 24 rfl dX4_hasNumber_20 ?_
      refine A_iret rfl rfl rfl rfl dX4_hasNumber_24 ?_
      refine ⟨?_, rfl, rfl⟩
      first
        | (have h7 := b2i_q.mp cq5; rw [b2i_ff (fun h9 => h7 h9.1)])
        | (have h7 : I (r + 1) i = -1000000005 := cq16; rw [nI_clamp (by omega), b2i_ff (fun h9 => h9.2 h7)])
        | (have h7 : ¬ I (r + 1) i = -1000000005 := cq16; rw [nI_clamp (by omega), b2i_tt ⟨hv, h7⟩])
