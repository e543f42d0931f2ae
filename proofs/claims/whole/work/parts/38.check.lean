def q_ck (w : Nat → Int32) (s n : Nat) : Nat → Nat → Nrow → Nat
  | 0, k, _ => 2 * k
  | g + 1, k, M => if 2 * k < s ∧ w (2 * k) = q_kn (q_hour (-1) M n).1 n then (if 2 * k + 1 < s ∧ w (2 * k + 1) = q_vo (q_hour (-1) M n).1 n then q_ck w s n g (k + 1) (q_hour (-1) M n).1 else 2 * k + 1) else 2 * k
def q_lim (x hh : Nat) : Nat := if x < 9999 - hh then x else 9999 - hh
def f_check (w : Nat → Int32) (s : Nat) (kept : Int32) (N : Nrow) (n hh : Nat) (x : Int32) : Int32 := if 1 ≤ x ∧ x ≤ 30 then (if kept = 0 then -1000000002 else if q_ck w s n (q_lim x.toNatClampNeg hh) 0 N = s ∧ q_ck w s n (q_lim x.toNatClampNeg hh) 0 N = 2 * q_lim x.toNatClampNeg hh then 0 else nI (1 + q_ck w s n (q_lim x.toNatClampNeg hh) 0 N)) else -1000000001
theorem in_get30 {v : Int32} (h : 1 ≤ v ∧ v ≤ 30) : ∃ i, i ≤ 30 ∧ v = nI i := in_get (a := 30) rfl ⟨Int32.le_trans (by decide) h.1, h.2⟩
theorem lim_le (x hh : Nat) : q_lim x hh ≤ x := by unfold q_lim; split <;> omega
set_option maxHeartbeats 1000000 in
set_option maxRecDepth 100000 in
theorem s_said (l : Launch) (G : Gm) (I : Hp) (s j : Nat) (hs : s ≤ 60) (hj : j < 1000) (v : Int32) : Meth l G yX7_isSaid cX7_isSaid 4 (some (FieldType.boolean)) 1 0 0 [.ref 0, .int (nI s), .int (nI j), .int v] LAY I (fun r lay1 I1 => r = some (.int (b2i (decide (j < s ∧ I 85 j = v)))) ∧ lay1 = LAY ∧ I1 = I) := by
  refine Meth.of (by decide +kernel) (by simp [Value.category]) (Nat.le_of_ble_eq_true rfl) ?_
  refine A_iload_n rfl dX7_isSaid_0 ?_
  refine A_iload_n rfl dX7_isSaid_1 ?_
  refine A_icmp_ge 25 rfl dX7_isSaid_2 (fun cq2 => ?_) (fun cq2 => ?_)
  · skip
    refine A_iconst ic_0 dX7_isSaid_25 ?_
    refine A_iret rfl rfl rfl rfl dX7_isSaid_26 ?_
    refine ⟨?_, rfl, rfl⟩
    first
      | (have h7 : nI s ≤ nI j := cq2; have h8 := (le_nI (rfl : nI s = nI s) (rfl : nI j = nI j) (by omega) (by omega)).mp h7; rw [b2i_ff (fun h9 => absurd h9.1 (by omega))])
      | (have h7 : (60 : Int32) ≤ nI j := cq8; have h8 := (le_nI (show (60 : Int32) = nI 60 from rfl) (rfl : nI j = nI j) (by omega) (by omega)).mp h7; exact absurd h8 (by omega))
      | (have h7 : ¬ I 85 j = v := cq18; rw [b2i_ff (fun h9 => h7 h9.2)])
      | (have h7 : I 85 j = v := cq18; rw [b2i_tt ⟨h1, h7⟩])
  · skip
    have h1 : j < s := by
      have hq1 := mt (le_nI (rfl : nI s = nI s) (rfl : nI j = nI j) (by omega) (by omega)).mpr cq2
      omega
    refine A_iload_n rfl dX7_isSaid_5 ?_
    refine A_bipush bp_60 dX7_isSaid_6 ?_
    refine A_icmp_ge 25 rfl dX7_isSaid_8 (fun cq8 => ?_) (fun cq8 => ?_)
    · skip
      refine A_iconst ic_0 dX7_isSaid_25 ?_
      refine A_iret rfl rfl rfl rfl dX7_isSaid_26 ?_
      refine ⟨?_, rfl, rfl⟩
      first
        | (have h7 : nI s ≤ nI j := cq2; have h8 := (le_nI (rfl : nI s = nI s) (rfl : nI j = nI j) (by omega) (by omega)).mp h7; rw [b2i_ff (fun h9 => absurd h9.1 (by omega))])
        | (have h7 : (60 : Int32) ≤ nI j := cq8; have h8 := (le_nI (show (60 : Int32) = nI 60 from rfl) (rfl : nI j = nI j) (by omega) (by omega)).mp h7; exact absurd h8 (by omega))
        | (have h7 : ¬ I 85 j = v := cq18; rw [b2i_ff (fun h9 => h7 h9.2)])
        | (have h7 : I 85 j = v := cq18; rw [b2i_tt ⟨h1, h7⟩])
    · skip
      refine A_aload_n rfl dX7_isSaid_11 ?_
      refine A_getR fr_X7_52.g rfl lay_0 rfl dX7_isSaid_12 ?_
      refine A_iload_n rfl dX7_isSaid_15 ?_
      refine A_iald j rfl lay_85 (by omega) (by decide) dX7_isSaid_16 ?_
      refine A_iload_n rfl dX7_isSaid_17 ?_
      refine A_icmp_ne 25 rfl dX7_isSaid_18 (fun cq18 => ?_) (fun cq18 => ?_)
      · skip
        refine A_iconst ic_0 dX7_isSaid_25 ?_
        refine A_iret rfl rfl rfl rfl dX7_isSaid_26 ?_
        refine ⟨?_, rfl, rfl⟩
        first
          | (have h7 : nI s ≤ nI j := cq2; have h8 := (le_nI (rfl : nI s = nI s) (rfl : nI j = nI j) (by omega) (by omega)).mp h7; rw [b2i_ff (fun h9 => absurd h9.1 (by omega))])
          | (have h7 : (60 : Int32) ≤ nI j := cq8; have h8 := (le_nI (show (60 : Int32) = nI 60 from rfl) (rfl : nI j = nI j) (by omega) (by omega)).mp h7; exact absurd h8 (by omega))
          | (have h7 : ¬ I 85 j = v := cq18; rw [b2i_ff (fun h9 => h7 h9.2)])
          | (have h7 : I 85 j = v := cq18; rw [b2i_tt ⟨h1, h7⟩])
      · skip
        refine A_iconst ic_1 dX7_isSaid_21 ?_
        refine A_goto 26 rfl dX7_isSaid_22 ?_
        refine A_iret rfl rfl rfl rfl dX7_isSaid_26 ?_
        refine ⟨?_, rfl, rfl⟩
        first
          | (have h7 : nI s ≤ nI j := cq2; have h8 := (le_nI (rfl : nI s = nI s) (rfl : nI j = nI j) (by omega) (by omega)).mp h7; rw [b2i_ff (fun h9 => absurd h9.1 (by omega))])
          | (have h7 : (60 : Int32) ≤ nI j := cq8; have h8 := (le_nI (show (60 : Int32) = nI 60 from rfl) (rfl : nI j = nI j) (by omega) (by omega)).mp h7; exact absurd h8 (by omega))
          | (have h7 : ¬ I 85 j = v := cq18; rw [b2i_ff (fun h9 => h7 h9.2)])
          | (have h7 : I 85 j = v := cq18; rw [b2i_tt ⟨h1, h7⟩])
