set_option maxHeartbeats 4000000 in
set_option maxRecDepth 100000 in
theorem n_slot (l : Launch) (G : Gm) (lay : Lay) (I : Hp) (n k : Nat) (hn : lay.length = n) (hb : n < 8000) (hk : lay[k]? = some (4, 5, [none, none, none, none, none])) (hz : Zf n I) : Meth l G yX5_init cX5_init 1 none 2 2 27 [.ref k] lay I (fun r lay1 I1 => r = none ∧ lay1 = LX lay k (4, 5, [none, none, none, none, some n]) [(3, 3, [none, none, some (n + 1)]), (9, 24, [])] ∧ I1 = (up2 (up2 I k 0 0) n 0 (-1))) := by
  have hkl : k < lay.length := (List.getElem?_eq_some_iff.mp hk).1
  refine Meth.of (by decide +kernel) (by simp [Value.category]) (Nat.le_of_ble_eq_true rfl) ?_
  refine AW_lay (LX_nil hk).symm ?_
  refine A_aload_n rfl dX5_init_0 ?_
  refine A_objInit ml_X5_3 rfl (by decide) (Nat.le_of_ble_eq_true rfl) dX5_init_1 ?_
  refine A_aload_n rfl dX5_init_4 ?_
  refine A_iconst ic_0 dX5_init_5 ?_
  refine A_putI fr_X5_9 rfl (LX_at hkl) rfl rfl dX5_init_6 ?_
  refine A_aload_n rfl dX5_init_9 ?_
  refine N_n n cf_3 kl_X5_15 rfl (Nat.le_of_ble_eq_true rfl) (Nat.le_of_ble_eq_true rfl) (congrArg (fun z => z + 0) hn) (by omega) (((hz.le (m := n) (by omega)).up (by omega)).le (by omega)) dX5_init_10 ?_
  refine A_dup rfl dX5_init_13 ?_
  refine N_c (congrArg (fun z => z + 0) hn) (n_row l G _ _ (n + 1) n (by rw [LX_len]; exact (congrArg (fun z => z + 1) hn)) (by omega) ((LX_at2 (j := 0) (congrArg (fun z => z + 0) hn)).trans rfl) (((hz.le (m := n) (by omega)).up (by omega)).le (by omega))) m_X4_init ml_X5_17 rfl rfl rfl rfl (Nat.le_of_ble_eq_true rfl) (by decide) (Nat.le_of_ble_eq_true rfl) (Nat.le_of_ble_eq_true rfl) dX5_init_14 ?_
  refine AW_lay (lay := LX lay k (4, 5, [none, none, none, none, none]) [(3, 3, [none, none, some (n + 1)]), (9, 24, [])]) rfl ?_
  refine N_p fr_X5_18 rfl rfl hkl (Nat.le_of_ble_eq_true rfl) rfl (fun _ => ⟨rfl, rfl⟩) dX5_init_17 ?_
  refine AW_lay (lay := LX lay k (4, 5, [none, none, none, none, some n]) [(3, 3, [none, none, some (n + 1)]), (9, 24, [])]) rfl ?_
  refine A_vret rfl rfl rfl dX5_init_20 ?_
  exact ⟨rfl, rfl, rfl⟩
set_option maxHeartbeats 4000000 in
set_option maxRecDepth 100000 in
theorem n_tape (l : Launch) (G : Gm) (lay : Lay) (I : Hp) (n k : Nat) (hn : lay.length = n) (hb : n < 8000) (hk : lay[k]? = some (5, 7, [none, none, none, none, none, none, none])) (hz : Zf n I) : Meth l G yX6_init cX6_init 1 none 2 3 196 [.ref k] lay I (fun r lay1 I1 => r = none ∧ lay1 = LX lay k (5, 7, [none, some n, some (n + 1), none, none, none, none]) [(9, 96, []), (1, 4, [none, none, some (n + 2), none]), (9, 96, [])] ∧ I1 = I) := by
  have hkl : k < lay.length := (List.getElem?_eq_some_iff.mp hk).1
  refine Meth.of (by decide +kernel) (by simp [Value.category]) (Nat.le_of_ble_eq_true rfl) ?_
  refine AW_lay (LX_nil hk).symm ?_
  refine A_aload_n rfl dX6_init_0 ?_
  refine A_objInit ml_X6_3 rfl (by decide) (Nat.le_of_ble_eq_true rfl) dX6_init_1 ?_
  refine A_aload_n rfl dX6_init_4 ?_
  refine A_bipush bp_96 dX6_init_5 ?_
  refine N_I 96 n rfl (by decide) (Nat.le_of_ble_eq_true rfl) (Nat.le_of_ble_eq_true rfl) (congrArg (fun z => z + 0) hn) (by omega) (hz.le (by omega)) dX6_init_7 ?_
  refine AW_lay (lay := LX lay k (5, 7, [none, none, none, none, none, none, none]) [(9, 96, [])]) rfl ?_
  refine N_p fr_X6_9 rfl rfl hkl (Nat.le_of_ble_eq_true rfl) rfl (fun _ => ⟨rfl, rfl⟩) dX6_init_9 ?_
  refine AW_lay (lay := LX lay k (5, 7, [none, some n, none, none, none, none, none]) [(9, 96, [])]) rfl ?_
  refine A_aload_n rfl dX6_init_12 ?_
  refine N_n (n + 1) cf_1 kl_X6_15 rfl (Nat.le_of_ble_eq_true rfl) (Nat.le_of_ble_eq_true rfl) (congrArg (fun z => z + 1) hn) (by omega) (hz.le (by omega)) dX6_init_13 ?_
  refine A_dup rfl dX6_init_16 ?_
  refine N_c (congrArg (fun z => z + 1) hn) (n_law l G _ _ (n + 2) (n + 1) (by rw [LX_len]; exact (congrArg (fun z => z + 2) hn)) (by omega) ((LX_at2 (j := 1) (congrArg (fun z => z + 1) hn)).trans rfl) (hz.le (by omega))) m_X2_init ml_X6_17 rfl rfl rfl rfl (Nat.le_of_ble_eq_true rfl) (by decide) (Nat.le_of_ble_eq_true rfl) (Nat.le_of_ble_eq_true rfl) dX6_init_17 ?_
  refine AW_lay (lay := LX lay k (5, 7, [none, some n, none, none, none, none, none]) [(9, 96, []), (1, 4, [none, none, some (n + 2), none]), (9, 96, [])]) rfl ?_
  refine N_p fr_X6_18 rfl rfl hkl (Nat.le_of_ble_eq_true rfl) rfl (fun _ => ⟨rfl, rfl⟩) dX6_init_20 ?_
  refine AW_lay (lay := LX lay k (5, 7, [none, some n, some (n + 1), none, none, none, none]) [(9, 96, []), (1, 4, [none, none, some (n + 2), none]), (9, 96, [])]) rfl ?_
  refine A_vret rfl rfl rfl dX6_init_23 ?_
  exact ⟨rfl, rfl, rfl⟩
set_option maxHeartbeats 4000000 in
set_option maxRecDepth 100000 in
theorem n_laws (l : Launch) (G : Gm) (lay : Lay) (I : Hp) (n k : Nat) (hn : lay.length = n) (hb : n < 8000) (hk : lay[k]? = some (2, 2, [none, none])) (hz : Zf n I) : Meth l G yX3_init cX3_init 2 none 2 30 1510 [.ref k] lay I (fun r lay1 I1 => r = none ∧ lay1 = LX lay k (2, 2, [some (n + 1), some n]) [(9, 96, []), (11, 14, [some (n + 2), some (n + 4), some (n + 6), some (n + 8), some (n + 10), some (n + 12), some (n + 14), some (n + 16), some (n + 18), some (n + 20), some (n + 22), some (n + 24), some (n + 26), some (n + 28)]), (1, 4, [none, none, some (n + 3), none]), (9, 96, []), (1, 4, [none, none, some (n + 5), none]), (9, 96, []), (1, 4, [none, none, some (n + 7), none]), (9, 96, []), (1, 4, [none, none, some (n + 9), none]), (9, 96, []), (1, 4, [none, none, some (n + 11), none]), (9, 96, []), (1, 4, [none, none, some (n + 13), none]), (9, 96, []), (1, 4, [none, none, some (n + 15), none]), (9, 96, []), (1, 4, [none, none, some (n + 17), none]), (9, 96, []), (1, 4, [none, none, some (n + 19), none]), (9, 96, []), (1, 4, [none, none, some (n + 21), none]), (9, 96, []), (1, 4, [none, none, some (n + 23), none]), (9, 96, []), (1, 4, [none, none, some (n + 25), none]), (9, 96, []), (1, 4, [none, none, some (n + 27), none]), (9, 96, []), (1, 4, [none, none, some (n + 29), none]), (9, 96, [])] ∧ I1 = I) := by
  have hkl : k < lay.length := (List.getElem?_eq_some_iff.mp hk).1
  refine Meth.of (by decide +kernel) (by simp [Value.category]) (Nat.le_of_ble_eq_true rfl) ?_
  refine AW_lay (LX_nil hk).symm ?_
  refine A_aload_n rfl dX3_init_0 ?_
  refine A_objInit ml_X3_3 rfl (by decide) (Nat.le_of_ble_eq_true rfl) dX3_init_1 ?_
  refine A_aload_n rfl dX3_init_4 ?_
  refine A_bipush bp_96 dX3_init_5 ?_
  refine N_I 96 n rfl (by decide) (Nat.le_of_ble_eq_true rfl) (Nat.le_of_ble_eq_true rfl) (congrArg (fun z => z + 0) hn) (by omega) (hz.le (by omega)) dX3_init_7 ?_
  refine AW_lay (lay := LX lay k (2, 2, [none, none]) [(9, 96, [])]) rfl ?_
  refine N_p fr_X3_9 rfl rfl hkl (Nat.le_of_ble_eq_true rfl) rfl (fun _ => ⟨rfl, rfl⟩) dX3_init_9 ?_
  refine AW_lay (lay := LX lay k (2, 2, [none, some n]) [(9, 96, [])]) rfl ?_
  refine A_aload_n rfl dX3_init_12 ?_
  refine A_bipush bp_14 dX3_init_13 ?_
  refine N_q 14 (n + 1) 11 15 RX2 RX3 (by decide) rfl (by decide) kl_X3_15 rfl (Nat.le_of_ble_eq_true rfl) (Nat.le_of_ble_eq_true rfl) (congrArg (fun z => z + 1) hn) (by omega) (hz.le (by omega)) dX3_init_15 ?_
  refine AW_lay (lay := LX lay k (2, 2, [none, some n]) [(9, 96, []), (11, 14, [none, none, none, none, none, none, none, none, none, none, none, none, none, none])]) rfl ?_
  refine N_p fr_X3_17 rfl rfl hkl (Nat.le_of_ble_eq_true rfl) rfl (fun _ => ⟨rfl, rfl⟩) dX3_init_18 ?_
  refine AW_lay (lay := LX lay k (2, 2, [some (n + 1), some n]) [(9, 96, []), (11, 14, [none, none, none, none, none, none, none, none, none, none, none, none, none, none])]) rfl ?_
  refine A_iconst ic_0 dX3_init_21 ?_
  refine A_istore_n (by decide) rfl dX3_init_22 ?_
  refine A_iload_n rfl dX3_init_23 ?_
  refine A_bipush bp_14 dX3_init_24 ?_
  refine A_icmp_ge 48 rfl dX3_init_26 (fun cq => absurd cq (by decide +kernel)) (fun _ => ?_)
  refine A_aload_n rfl dX3_init_29 ?_
  refine A_getR fr_X3_17.g rfl (LX_at hkl) rfl dX3_init_30 ?_
  refine A_iload_n rfl dX3_init_33 ?_
  refine N_n (n + 2) cf_1 kl_X3_15 rfl (Nat.le_of_ble_eq_true rfl) (Nat.le_of_ble_eq_true rfl) (congrArg (fun z => z + 2) hn) (by omega) (hz.le (by omega)) dX3_init_34 ?_
  refine A_dup rfl dX3_init_37 ?_
  refine N_c (congrArg (fun z => z + 2) hn) (n_law l G _ _ (n + 3) (n + 2) (by rw [LX_len]; exact (congrArg (fun z => z + 3) hn)) (by omega) ((LX_at2 (j := 2) (congrArg (fun z => z + 2) hn)).trans rfl) (hz.le (by omega))) m_X2_init ml_X3_21 rfl rfl rfl rfl (Nat.le_of_ble_eq_true rfl) (by decide) (Nat.le_of_ble_eq_true rfl) (Nat.le_of_ble_eq_true rfl) dX3_init_38 ?_
  refine AW_lay (lay := LX lay k (2, 2, [some (n + 1), some n]) [(9, 96, []), (11, 14, [none, none, none, none, none, none, none, none, none, none, none, none, none, none]), (1, 4, [none, none, some (n + 3), none]), (9, 96, [])]) rfl ?_
  refine N_a 0 1 2 (by decide +kernel) (congrArg (fun z => z + 1) hn) rfl (congrArg (fun z => z + 2) hn) rfl (by decide) (by decide) (Nat.le_of_ble_eq_true rfl) (by decide) dX3_init_41 ?_
  refine AW_lay (lay := LX lay k (2, 2, [some (n + 1), some n]) [(9, 96, []), (11, 14, [some (n + 2), none, none, none, none, none, none, none, none, none, none, none, none, none]), (1, 4, [none, none, some (n + 3), none]), (9, 96, [])]) rfl ?_
  refine A_iinc ic_1 rfl (by decide) rfl dX3_init_42 ?_
  refine A_goto 23 rfl dX3_init_45 ?_
  refine A_iload_n rfl dX3_init_23 ?_
  refine A_bipush bp_14 dX3_init_24 ?_
  refine A_icmp_ge 48 rfl dX3_init_26 (fun cq => absurd cq (by decide +kernel)) (fun _ => ?_)
  refine A_aload_n rfl dX3_init_29 ?_
  refine A_getR fr_X3_17.g rfl (LX_at hkl) rfl dX3_init_30 ?_
  refine A_iload_n rfl dX3_init_33 ?_
  refine N_n (n + 4) cf_1 kl_X3_15 rfl (Nat.le_of_ble_eq_true rfl) (Nat.le_of_ble_eq_true rfl) (congrArg (fun z => z + 4) hn) (by omega) (hz.le (by omega)) dX3_init_34 ?_
  refine A_dup rfl dX3_init_37 ?_
  refine N_c (congrArg (fun z => z + 4) hn) (n_law l G _ _ (n + 5) (n + 4) (by rw [LX_len]; exact (congrArg (fun z => z + 5) hn)) (by omega) ((LX_at2 (j := 4) (congrArg (fun z => z + 4) hn)).trans rfl) (hz.le (by omega))) m_X2_init ml_X3_21 rfl rfl rfl rfl (Nat.le_of_ble_eq_true rfl) (by decide) (Nat.le_of_ble_eq_true rfl) (Nat.le_of_ble_eq_true rfl) dX3_init_38 ?_
  refine AW_lay (lay := LX lay k (2, 2, [some (n + 1), some n]) [(9, 96, []), (11, 14, [some (n + 2), none, none, none, none, none, none, none, none, none, none, none, none, none]), (1, 4, [none, none, some (n + 3), none]), (9, 96, []), (1, 4, [none, none, some (n + 5), none]), (9, 96, [])]) rfl ?_
  refine N_a 1 1 4 (by decide +kernel) (congrArg (fun z => z + 1) hn) rfl (congrArg (fun z => z + 4) hn) rfl (by decide) (by decide) (Nat.le_of_ble_eq_true rfl) (by decide) dX3_init_41 ?_
  refine AW_lay (lay := LX lay k (2, 2, [some (n + 1), some n]) [(9, 96, []), (11, 14, [some (n + 2), some (n + 4), none, none, none, none, none, none, none, none, none, none, none, none]), (1, 4, [none, none, some (n + 3), none]), (9, 96, []), (1, 4, [none, none, some (n + 5), none]), (9, 96, [])]) rfl ?_
  refine A_iinc ic_1 rfl (by decide) rfl dX3_init_42 ?_
  refine A_goto 23 rfl dX3_init_45 ?_
  refine A_iload_n rfl dX3_init_23 ?_
  refine A_bipush bp_14 dX3_init_24 ?_
  refine A_icmp_ge 48 rfl dX3_init_26 (fun cq => absurd cq (by decide +kernel)) (fun _ => ?_)
  refine A_aload_n rfl dX3_init_29 ?_
  refine A_getR fr_X3_17.g rfl (LX_at hkl) rfl dX3_init_30 ?_
  refine A_iload_n rfl dX3_init_33 ?_
  refine N_n (n + 6) cf_1 kl_X3_15 rfl (Nat.le_of_ble_eq_true rfl) (Nat.le_of_ble_eq_true rfl) (congrArg (fun z => z + 6) hn) (by omega) (hz.le (by omega)) dX3_init_34 ?_
  refine A_dup rfl dX3_init_37 ?_
  refine N_c (congrArg (fun z => z + 6) hn) (n_law l G _ _ (n + 7) (n + 6) (by rw [LX_len]; exact (congrArg (fun z => z + 7) hn)) (by omega) ((LX_at2 (j := 6) (congrArg (fun z => z + 6) hn)).trans rfl) (hz.le (by omega))) m_X2_init ml_X3_21 rfl rfl rfl rfl (Nat.le_of_ble_eq_true rfl) (by decide) (Nat.le_of_ble_eq_true rfl) (Nat.le_of_ble_eq_true rfl) dX3_init_38 ?_
  refine AW_lay (lay := LX lay k (2, 2, [some (n + 1), some n]) [(9, 96, []), (11, 14, [some (n + 2), some (n + 4), none, none, none, none, none, none, none, none, none, none, none, none]), (1, 4, [none, none, some (n + 3), none]), (9, 96, []), (1, 4, [none, none, some (n + 5), none]), (9, 96, []), (1, 4, [none, none, some (n + 7), none]), (9, 96, [])]) rfl ?_
  refine N_a 2 1 6 (by decide +kernel) (congrArg (fun z => z + 1) hn) rfl (congrArg (fun z => z + 6) hn) rfl (by decide) (by decide) (Nat.le_of_ble_eq_true rfl) (by decide) dX3_init_41 ?_
  refine AW_lay (lay := LX lay k (2, 2, [some (n + 1), some n]) [(9, 96, []), (11, 14, [some (n + 2), some (n + 4), some (n + 6), none, none, none, none, none, none, none, none, none, none, none]), (1, 4, [none, none, some (n + 3), none]), (9, 96, []), (1, 4, [none, none, some (n + 5), none]), (9, 96, []), (1, 4, [none, none, some (n + 7), none]), (9, 96, [])]) rfl ?_
  refine A_iinc ic_1 rfl (by decide) rfl dX3_init_42 ?_
  refine A_goto 23 rfl dX3_init_45 ?_
  refine A_iload_n rfl dX3_init_23 ?_
  refine A_bipush bp_14 dX3_init_24 ?_
  refine A_icmp_ge 48 rfl dX3_init_26 (fun cq => absurd cq (by decide +kernel)) (fun _ => ?_)
  refine A_aload_n rfl dX3_init_29 ?_
  refine A_getR fr_X3_17.g rfl (LX_at hkl) rfl dX3_init_30 ?_
  refine A_iload_n rfl dX3_init_33 ?_
  refine N_n (n + 8) cf_1 kl_X3_15 rfl (Nat.le_of_ble_eq_true rfl) (Nat.le_of_ble_eq_true rfl) (congrArg (fun z => z + 8) hn) (by omega) (hz.le (by omega)) dX3_init_34 ?_
  refine A_dup rfl dX3_init_37 ?_
  refine N_c (congrArg (fun z => z + 8) hn) (n_law l G _ _ (n + 9) (n + 8) (by rw [LX_len]; exact (congrArg (fun z => z + 9) hn)) (by omega) ((LX_at2 (j := 8) (congrArg (fun z => z + 8) hn)).trans rfl) (hz.le (by omega))) m_X2_init ml_X3_21 rfl rfl rfl rfl (Nat.le_of_ble_eq_true rfl) (by decide) (Nat.le_of_ble_eq_true rfl) (Nat.le_of_ble_eq_true rfl) dX3_init_38 ?_
  refine AW_lay (lay := LX lay k (2, 2, [some (n + 1), some n]) [(9, 96, []), (11, 14, [some (n + 2), some (n + 4), some (n + 6), none, none, none, none, none, none, none, none, none, none, none]), (1, 4, [none, none, some (n + 3), none]), (9, 96, []), (1, 4, [none, none, some (n + 5), none]), (9, 96, []), (1, 4, [none, none, some (n + 7), none]), (9, 96, []), (1, 4, [none, none, some (n + 9), none]), (9, 96, [])]) rfl ?_
  refine N_a 3 1 8 (by decide +kernel) (congrArg (fun z => z + 1) hn) rfl (congrArg (fun z => z + 8) hn) rfl (by decide) (by decide) (Nat.le_of_ble_eq_true rfl) (by decide) dX3_init_41 ?_
  refine AW_lay (lay := LX lay k (2, 2, [some (n + 1), some n]) [(9, 96, []), (11, 14, [some (n + 2), some (n + 4), some (n + 6), some (n + 8), none, none, none, none, none, none, none, none, none, none]), (1, 4, [none, none, some (n + 3), none]), (9, 96, []), (1, 4, [none, none, some (n + 5), none]), (9, 96, []), (1, 4, [none, none, some (n + 7), none]), (9, 96, []), (1, 4, [none, none, some (n + 9), none]), (9, 96, [])]) rfl ?_
  refine A_iinc ic_1 rfl (by decide) rfl dX3_init_42 ?_
  refine A_goto 23 rfl dX3_init_45 ?_
  refine A_iload_n rfl dX3_init_23 ?_
  refine A_bipush bp_14 dX3_init_24 ?_
  refine A_icmp_ge 48 rfl dX3_init_26 (fun cq => absurd cq (by decide +kernel)) (fun _ => ?_)
  refine A_aload_n rfl dX3_init_29 ?_
  refine A_getR fr_X3_17.g rfl (LX_at hkl) rfl dX3_init_30 ?_
  refine A_iload_n rfl dX3_init_33 ?_
  refine N_n (n + 10) cf_1 kl_X3_15 rfl (Nat.le_of_ble_eq_true rfl) (Nat.le_of_ble_eq_true rfl) (congrArg (fun z => z + 10) hn) (by omega) (hz.le (by omega)) dX3_init_34 ?_
  refine A_dup rfl dX3_init_37 ?_
  refine N_c (congrArg (fun z => z + 10) hn) (n_law l G _ _ (n + 11) (n + 10) (by rw [LX_len]; exact (congrArg (fun z => z + 11) hn)) (by omega) ((LX_at2 (j := 10) (congrArg (fun z => z + 10) hn)).trans rfl) (hz.le (by omega))) m_X2_init ml_X3_21 rfl rfl rfl rfl (Nat.le_of_ble_eq_true rfl) (by decide) (Nat.le_of_ble_eq_true rfl) (Nat.le_of_ble_eq_true rfl) dX3_init_38 ?_
  refine AW_lay (lay := LX lay k (2, 2, [some (n + 1), some n]) [(9, 96, []), (11, 14, [some (n + 2), some (n + 4), some (n + 6), some (n + 8), none, none, none, none, none, none, none, none, none, none]), (1, 4, [none, none, some (n + 3), none]), (9, 96, []), (1, 4, [none, none, some (n + 5), none]), (9, 96, []), (1, 4, [none, none, some (n + 7), none]), (9, 96, []), (1, 4, [none, none, some (n + 9), none]), (9, 96, []), (1, 4, [none, none, some (n + 11), none]), (9, 96, [])]) rfl ?_
  refine N_a 4 1 10 (by decide +kernel) (congrArg (fun z => z + 1) hn) rfl (congrArg (fun z => z + 10) hn) rfl (by decide) (by decide) (Nat.le_of_ble_eq_true rfl) (by decide) dX3_init_41 ?_
  refine AW_lay (lay := LX lay k (2, 2, [some (n + 1), some n]) [(9, 96, []), (11, 14, [some (n + 2), some (n + 4), some (n + 6), some (n + 8), some (n + 10), none, none, none, none, none, none, none, none, none]), (1, 4, [none, none, some (n + 3), none]), (9, 96, []), (1, 4, [none, none, some (n + 5), none]), (9, 96, []), (1, 4, [none, none, some (n + 7), none]), (9, 96, []), (1, 4, [none, none, some (n + 9), none]), (9, 96, []), (1, 4, [none, none, some (n + 11), none]), (9, 96, [])]) rfl ?_
  refine A_iinc ic_1 rfl (by decide) rfl dX3_init_42 ?_
  refine A_goto 23 rfl dX3_init_45 ?_
  refine A_iload_n rfl dX3_init_23 ?_
  refine A_bipush bp_14 dX3_init_24 ?_
  refine A_icmp_ge 48 rfl dX3_init_26 (fun cq => absurd cq (by decide +kernel)) (fun _ => ?_)
  refine A_aload_n rfl dX3_init_29 ?_
  refine A_getR fr_X3_17.g rfl (LX_at hkl) rfl dX3_init_30 ?_
  refine A_iload_n rfl dX3_init_33 ?_
  refine N_n (n + 12) cf_1 kl_X3_15 rfl (Nat.le_of_ble_eq_true rfl) (Nat.le_of_ble_eq_true rfl) (congrArg (fun z => z + 12) hn) (by omega) (hz.le (by omega)) dX3_init_34 ?_
  refine A_dup rfl dX3_init_37 ?_
  refine N_c (congrArg (fun z => z + 12) hn) (n_law l G _ _ (n + 13) (n + 12) (by rw [LX_len]; exact (congrArg (fun z => z + 13) hn)) (by omega) ((LX_at2 (j := 12) (congrArg (fun z => z + 12) hn)).trans rfl) (hz.le (by omega))) m_X2_init ml_X3_21 rfl rfl rfl rfl (Nat.le_of_ble_eq_true rfl) (by decide) (Nat.le_of_ble_eq_true rfl) (Nat.le_of_ble_eq_true rfl) dX3_init_38 ?_
  refine AW_lay (lay := LX lay k (2, 2, [some (n + 1), some n]) [(9, 96, []), (11, 14, [some (n + 2), some (n + 4), some (n + 6), some (n + 8), some (n + 10), none, none, none, none, none, none, none, none, none]), (1, 4, [none, none, some (n + 3), none]), (9, 96, []), (1, 4, [none, none, some (n + 5), none]), (9, 96, []), (1, 4, [none, none, some (n + 7), none]), (9, 96, []), (1, 4, [none, none, some (n + 9), none]), (9, 96, []), (1, 4, [none, none, some (n + 11), none]), (9, 96, []), (1, 4, [none, none, some (n + 13), none]), (9, 96, [])]) rfl ?_
  refine N_a 5 1 12 (by decide +kernel) (congrArg (fun z => z + 1) hn) rfl (congrArg (fun z => z + 12) hn) rfl (by decide) (by decide) (Nat.le_of_ble_eq_true rfl) (by decide) dX3_init_41 ?_
  refine AW_lay (lay := LX lay k (2, 2, [some (n + 1), some n]) [(9, 96, []), (11, 14, [some (n + 2), some (n + 4), some (n + 6), some (n + 8), some (n + 10), some (n + 12), none, none, none, none, none, none, none, none]), (1, 4, [none, none, some (n + 3), none]), (9, 96, []), (1, 4, [none, none, some (n + 5), none]), (9, 96, []), (1, 4, [none, none, some (n + 7), none]), (9, 96, []), (1, 4, [none, none, some (n + 9), none]), (9, 96, []), (1, 4, [none, none, some (n + 11), none]), (9, 96, []), (1, 4, [none, none, some (n + 13), none]), (9, 96, [])]) rfl ?_
  refine A_iinc ic_1 rfl (by decide) rfl dX3_init_42 ?_
  refine A_goto 23 rfl dX3_init_45 ?_
  refine A_iload_n rfl dX3_init_23 ?_
  refine A_bipush bp_14 dX3_init_24 ?_
  refine A_icmp_ge 48 rfl dX3_init_26 (fun cq => absurd cq (by decide +kernel)) (fun _ => ?_)
  refine A_aload_n rfl dX3_init_29 ?_
  refine A_getR fr_X3_17.g rfl (LX_at hkl) rfl dX3_init_30 ?_
  refine A_iload_n rfl dX3_init_33 ?_
  refine N_n (n + 14) cf_1 kl_X3_15 rfl (Nat.le_of_ble_eq_true rfl) (Nat.le_of_ble_eq_true rfl) (congrArg (fun z => z + 14) hn) (by omega) (hz.le (by omega)) dX3_init_34 ?_
  refine A_dup rfl dX3_init_37 ?_
  refine N_c (congrArg (fun z => z + 14) hn) (n_law l G _ _ (n + 15) (n + 14) (by rw [LX_len]; exact (congrArg (fun z => z + 15) hn)) (by omega) ((LX_at2 (j := 14) (congrArg (fun z => z + 14) hn)).trans rfl) (hz.le (by omega))) m_X2_init ml_X3_21 rfl rfl rfl rfl (Nat.le_of_ble_eq_true rfl) (by decide) (Nat.le_of_ble_eq_true rfl) (Nat.le_of_ble_eq_true rfl) dX3_init_38 ?_
  refine AW_lay (lay := LX lay k (2, 2, [some (n + 1), some n]) [(9, 96, []), (11, 14, [some (n + 2), some (n + 4), some (n + 6), some (n + 8), some (n + 10), some (n + 12), none, none, none, none, none, none, none, none]), (1, 4, [none, none, some (n + 3), none]), (9, 96, []), (1, 4, [none, none, some (n + 5), none]), (9, 96, []), (1, 4, [none, none, some (n + 7), none]), (9, 96, []), (1, 4, [none, none, some (n + 9), none]), (9, 96, []), (1, 4, [none, none, some (n + 11), none]), (9, 96, []), (1, 4, [none, none, some (n + 13), none]), (9, 96, []), (1, 4, [none, none, some (n + 15), none]), (9, 96, [])]) rfl ?_
  refine N_a 6 1 14 (by decide +kernel) (congrArg (fun z => z + 1) hn) rfl (congrArg (fun z => z + 14) hn) rfl (by decide) (by decide) (Nat.le_of_ble_eq_true rfl) (by decide) dX3_init_41 ?_
  refine AW_lay (lay := LX lay k (2, 2, [some (n + 1), some n]) [(9, 96, []), (11, 14, [some (n + 2), some (n + 4), some (n + 6), some (n + 8), some (n + 10), some (n + 12), some (n + 14), none, none, none, none, none, none, none]), (1, 4, [none, none, some (n + 3), none]), (9, 96, []), (1, 4, [none, none, some (n + 5), none]), (9, 96, []), (1, 4, [none, none, some (n + 7), none]), (9, 96, []), (1, 4, [none, none, some (n + 9), none]), (9, 96, []), (1, 4, [none, none, some (n + 11), none]), (9, 96, []), (1, 4, [none, none, some (n + 13), none]), (9, 96, []), (1, 4, [none, none, some (n + 15), none]), (9, 96, [])]) rfl ?_
  refine A_iinc ic_1 rfl (by decide) rfl dX3_init_42 ?_
  refine A_goto 23 rfl dX3_init_45 ?_
  refine A_iload_n rfl dX3_init_23 ?_
  refine A_bipush bp_14 dX3_init_24 ?_
  refine A_icmp_ge 48 rfl dX3_init_26 (fun cq => absurd cq (by decide +kernel)) (fun _ => ?_)
  refine A_aload_n rfl dX3_init_29 ?_
  refine A_getR fr_X3_17.g rfl (LX_at hkl) rfl dX3_init_30 ?_
  refine A_iload_n rfl dX3_init_33 ?_
  refine N_n (n + 16) cf_1 kl_X3_15 rfl (Nat.le_of_ble_eq_true rfl) (Nat.le_of_ble_eq_true rfl) (congrArg (fun z => z + 16) hn) (by omega) (hz.le (by omega)) dX3_init_34 ?_
  refine A_dup rfl dX3_init_37 ?_
  refine N_c (congrArg (fun z => z + 16) hn) (n_law l G _ _ (n + 17) (n + 16) (by rw [LX_len]; exact (congrArg (fun z => z + 17) hn)) (by omega) ((LX_at2 (j := 16) (congrArg (fun z => z + 16) hn)).trans rfl) (hz.le (by omega))) m_X2_init ml_X3_21 rfl rfl rfl rfl (Nat.le_of_ble_eq_true rfl) (by decide) (Nat.le_of_ble_eq_true rfl) (Nat.le_of_ble_eq_true rfl) dX3_init_38 ?_
  refine AW_lay (lay := LX lay k (2, 2, [some (n + 1), some n]) [(9, 96, []), (11, 14, [some (n + 2), some (n + 4), some (n + 6), some (n + 8), some (n + 10), some (n + 12), some (n + 14), none, none, none, none, none, none, none]), (1, 4, [none, none, some (n + 3), none]), (9, 96, []), (1, 4, [none, none, some (n + 5), none]), (9, 96, []), (1, 4, [none, none, some (n + 7), none]), (9, 96, []), (1, 4, [none, none, some (n + 9), none]), (9, 96, []), (1, 4, [none, none, some (n + 11), none]), (9, 96, []), (1, 4, [none, none, some (n + 13), none]), (9, 96, []), (1, 4, [none, none, some (n + 15), none]), (9, 96, []), (1, 4, [none, none, some (n + 17), none]), (9, 96, [])]) rfl ?_
  refine N_a 7 1 16 (by decide +kernel) (congrArg (fun z => z + 1) hn) rfl (congrArg (fun z => z + 16) hn) rfl (by decide) (by decide) (Nat.le_of_ble_eq_true rfl) (by decide) dX3_init_41 ?_
  refine AW_lay (lay := LX lay k (2, 2, [some (n + 1), some n]) [(9, 96, []), (11, 14, [some (n + 2), some (n + 4), some (n + 6), some (n + 8), some (n + 10), some (n + 12), some (n + 14), some (n + 16), none, none, none, none, none, none]), (1, 4, [none, none, some (n + 3), none]), (9, 96, []), (1, 4, [none, none, some (n + 5), none]), (9, 96, []), (1, 4, [none, none, some (n + 7), none]), (9, 96, []), (1, 4, [none, none, some (n + 9), none]), (9, 96, []), (1, 4, [none, none, some (n + 11), none]), (9, 96, []), (1, 4, [none, none, some (n + 13), none]), (9, 96, []), (1, 4, [none, none, some (n + 15), none]), (9, 96, []), (1, 4, [none, none, some (n + 17), none]), (9, 96, [])]) rfl ?_
  refine A_iinc ic_1 rfl (by decide) rfl dX3_init_42 ?_
  refine A_goto 23 rfl dX3_init_45 ?_
  refine A_iload_n rfl dX3_init_23 ?_
  refine A_bipush bp_14 dX3_init_24 ?_
  refine A_icmp_ge 48 rfl dX3_init_26 (fun cq => absurd cq (by decide +kernel)) (fun _ => ?_)
  refine A_aload_n rfl dX3_init_29 ?_
  refine A_getR fr_X3_17.g rfl (LX_at hkl) rfl dX3_init_30 ?_
  refine A_iload_n rfl dX3_init_33 ?_
  refine N_n (n + 18) cf_1 kl_X3_15 rfl (Nat.le_of_ble_eq_true rfl) (Nat.le_of_ble_eq_true rfl) (congrArg (fun z => z + 18) hn) (by omega) (hz.le (by omega)) dX3_init_34 ?_
  refine A_dup rfl dX3_init_37 ?_
  refine N_c (congrArg (fun z => z + 18) hn) (n_law l G _ _ (n + 19) (n + 18) (by rw [LX_len]; exact (congrArg (fun z => z + 19) hn)) (by omega) ((LX_at2 (j := 18) (congrArg (fun z => z + 18) hn)).trans rfl) (hz.le (by omega))) m_X2_init ml_X3_21 rfl rfl rfl rfl (Nat.le_of_ble_eq_true rfl) (by decide) (Nat.le_of_ble_eq_true rfl) (Nat.le_of_ble_eq_true rfl) dX3_init_38 ?_
  refine AW_lay (lay := LX lay k (2, 2, [some (n + 1), some n]) [(9, 96, []), (11, 14, [some (n + 2), some (n + 4), some (n + 6), some (n + 8), some (n + 10), some (n + 12), some (n + 14), some (n + 16), none, none, none, none, none, none]), (1, 4, [none, none, some (n + 3), none]), (9, 96, []), (1, 4, [none, none, some (n + 5), none]), (9, 96, []), (1, 4, [none, none, some (n + 7), none]), (9, 96, []), (1, 4, [none, none, some (n + 9), none]), (9, 96, []), (1, 4, [none, none, some (n + 11), none]), (9, 96, []), (1, 4, [none, none, some (n + 13), none]), (9, 96, []), (1, 4, [none, none, some (n + 15), none]), (9, 96, []), (1, 4, [none, none, some (n + 17), none]), (9, 96, []), (1, 4, [none, none, some (n + 19), none]), (9, 96, [])]) rfl ?_
  refine N_a 8 1 18 (by decide +kernel) (congrArg (fun z => z + 1) hn) rfl (congrArg (fun z => z + 18) hn) rfl (by decide) (by decide) (Nat.le_of_ble_eq_true rfl) (by decide) dX3_init_41 ?_
  refine AW_lay (lay := LX lay k (2, 2, [some (n + 1), some n]) [(9, 96, []), (11, 14, [some (n + 2), some (n + 4), some (n + 6), some (n + 8), some (n + 10), some (n + 12), some (n + 14), some (n + 16), some (n + 18), none, none, none, none, none]), (1, 4, [none, none, some (n + 3), none]), (9, 96, []), (1, 4, [none, none, some (n + 5), none]), (9, 96, []), (1, 4, [none, none, some (n + 7), none]), (9, 96, []), (1, 4, [none, none, some (n + 9), none]), (9, 96, []), (1, 4, [none, none, some (n + 11), none]), (9, 96, []), (1, 4, [none, none, some (n + 13), none]), (9, 96, []), (1, 4, [none, none, some (n + 15), none]), (9, 96, []), (1, 4, [none, none, some (n + 17), none]), (9, 96, []), (1, 4, [none, none, some (n + 19), none]), (9, 96, [])]) rfl ?_
  refine A_iinc ic_1 rfl (by decide) rfl dX3_init_42 ?_
  refine A_goto 23 rfl dX3_init_45 ?_
  refine A_iload_n rfl dX3_init_23 ?_
  refine A_bipush bp_14 dX3_init_24 ?_
  refine A_icmp_ge 48 rfl dX3_init_26 (fun cq => absurd cq (by decide +kernel)) (fun _ => ?_)
  refine A_aload_n rfl dX3_init_29 ?_
  refine A_getR fr_X3_17.g rfl (LX_at hkl) rfl dX3_init_30 ?_
  refine A_iload_n rfl dX3_init_33 ?_
  refine N_n (n + 20) cf_1 kl_X3_15 rfl (Nat.le_of_ble_eq_true rfl) (Nat.le_of_ble_eq_true rfl) (congrArg (fun z => z + 20) hn) (by omega) (hz.le (by omega)) dX3_init_34 ?_
  refine A_dup rfl dX3_init_37 ?_
  refine N_c (congrArg (fun z => z + 20) hn) (n_law l G _ _ (n + 21) (n + 20) (by rw [LX_len]; exact (congrArg (fun z => z + 21) hn)) (by omega) ((LX_at2 (j := 20) (congrArg (fun z => z + 20) hn)).trans rfl) (hz.le (by omega))) m_X2_init ml_X3_21 rfl rfl rfl rfl (Nat.le_of_ble_eq_true rfl) (by decide) (Nat.le_of_ble_eq_true rfl) (Nat.le_of_ble_eq_true rfl) dX3_init_38 ?_
  refine AW_lay (lay := LX lay k (2, 2, [some (n + 1), some n]) [(9, 96, []), (11, 14, [some (n + 2), some (n + 4), some (n + 6), some (n + 8), some (n + 10), some (n + 12), some (n + 14), some (n + 16), some (n + 18), none, none, none, none, none]), (1, 4, [none, none, some (n + 3), none]), (9, 96, []), (1, 4, [none, none, some (n + 5), none]), (9, 96, []), (1, 4, [none, none, some (n + 7), none]), (9, 96, []), (1, 4, [none, none, some (n + 9), none]), (9, 96, []), (1, 4, [none, none, some (n + 11), none]), (9, 96, []), (1, 4, [none, none, some (n + 13), none]), (9, 96, []), (1, 4, [none, none, some (n + 15), none]), (9, 96, []), (1, 4, [none, none, some (n + 17), none]), (9, 96, []), (1, 4, [none, none, some (n + 19), none]), (9, 96, []), (1, 4, [none, none, some (n + 21), none]), (9, 96, [])]) rfl ?_
  refine N_a 9 1 20 (by decide +kernel) (congrArg (fun z => z + 1) hn) rfl (congrArg (fun z => z + 20) hn) rfl (by decide) (by decide) (Nat.le_of_ble_eq_true rfl) (by decide) dX3_init_41 ?_
  refine AW_lay (lay := LX lay k (2, 2, [some (n + 1), some n]) [(9, 96, []), (11, 14, [some (n + 2), some (n + 4), some (n + 6), some (n + 8), some (n + 10), some (n + 12), some (n + 14), some (n + 16), some (n + 18), some (n + 20), none, none, none, none]), (1, 4, [none, none, some (n + 3), none]), (9, 96, []), (1, 4, [none, none, some (n + 5), none]), (9, 96, []), (1, 4, [none, none, some (n + 7), none]), (9, 96, []), (1, 4, [none, none, some (n + 9), none]), (9, 96, []), (1, 4, [none, none, some (n + 11), none]), (9, 96, []), (1, 4, [none, none, some (n + 13), none]), (9, 96, []), (1, 4, [none, none, some (n + 15), none]), (9, 96, []), (1, 4, [none, none, some (n + 17), none]), (9, 96, []), (1, 4, [none, none, some (n + 19), none]), (9, 96, []), (1, 4, [none, none, some (n + 21), none]), (9, 96, [])]) rfl ?_
  refine A_iinc ic_1 rfl (by decide) rfl dX3_init_42 ?_
  refine A_goto 23 rfl dX3_init_45 ?_
  refine A_iload_n rfl dX3_init_23 ?_
  refine A_bipush bp_14 dX3_init_24 ?_
  refine A_icmp_ge 48 rfl dX3_init_26 (fun cq => absurd cq (by decide +kernel)) (fun _ => ?_)
  refine A_aload_n rfl dX3_init_29 ?_
  refine A_getR fr_X3_17.g rfl (LX_at hkl) rfl dX3_init_30 ?_
  refine A_iload_n rfl dX3_init_33 ?_
  refine N_n (n + 22) cf_1 kl_X3_15 rfl (Nat.le_of_ble_eq_true rfl) (Nat.le_of_ble_eq_true rfl) (congrArg (fun z => z + 22) hn) (by omega) (hz.le (by omega)) dX3_init_34 ?_
  refine A_dup rfl dX3_init_37 ?_
  refine N_c (congrArg (fun z => z + 22) hn) (n_law l G _ _ (n + 23) (n + 22) (by rw [LX_len]; exact (congrArg (fun z => z + 23) hn)) (by omega) ((LX_at2 (j := 22) (congrArg (fun z => z + 22) hn)).trans rfl) (hz.le (by omega))) m_X2_init ml_X3_21 rfl rfl rfl rfl (Nat.le_of_ble_eq_true rfl) (by decide) (Nat.le_of_ble_eq_true rfl) (Nat.le_of_ble_eq_true rfl) dX3_init_38 ?_
  refine AW_lay (lay := LX lay k (2, 2, [some (n + 1), some n]) [(9, 96, []), (11, 14, [some (n + 2), some (n + 4), some (n + 6), some (n + 8), some (n + 10), some (n + 12), some (n + 14), some (n + 16), some (n + 18), some (n + 20), none, none, none, none]), (1, 4, [none, none, some (n + 3), none]), (9, 96, []), (1, 4, [none, none, some (n + 5), none]), (9, 96, []), (1, 4, [none, none, some (n + 7), none]), (9, 96, []), (1, 4, [none, none, some (n + 9), none]), (9, 96, []), (1, 4, [none, none, some (n + 11), none]), (9, 96, []), (1, 4, [none, none, some (n + 13), none]), (9, 96, []), (1, 4, [none, none, some (n + 15), none]), (9, 96, []), (1, 4, [none, none, some (n + 17), none]), (9, 96, []), (1, 4, [none, none, some (n + 19), none]), (9, 96, []), (1, 4, [none, none, some (n + 21), none]), (9, 96, []), (1, 4, [none, none, some (n + 23), none]), (9, 96, [])]) rfl ?_
  refine N_a 10 1 22 (by decide +kernel) (congrArg (fun z => z + 1) hn) rfl (congrArg (fun z => z + 22) hn) rfl (by decide) (by decide) (Nat.le_of_ble_eq_true rfl) (by decide) dX3_init_41 ?_
  refine AW_lay (lay := LX lay k (2, 2, [some (n + 1), some n]) [(9, 96, []), (11, 14, [some (n + 2), some (n + 4), some (n + 6), some (n + 8), some (n + 10), some (n + 12), some (n + 14), some (n + 16), some (n + 18), some (n + 20), some (n + 22), none, none, none]), (1, 4, [none, none, some (n + 3), none]), (9, 96, []), (1, 4, [none, none, some (n + 5), none]), (9, 96, []), (1, 4, [none, none, some (n + 7), none]), (9, 96, []), (1, 4, [none, none, some (n + 9), none]), (9, 96, []), (1, 4, [none, none, some (n + 11), none]), (9, 96, []), (1, 4, [none, none, some (n + 13), none]), (9, 96, []), (1, 4, [none, none, some (n + 15), none]), (9, 96, []), (1, 4, [none, none, some (n + 17), none]), (9, 96, []), (1, 4, [none, none, some (n + 19), none]), (9, 96, []), (1, 4, [none, none, some (n + 21), none]), (9, 96, []), (1, 4, [none, none, some (n + 23), none]), (9, 96, [])]) rfl ?_
  refine A_iinc ic_1 rfl (by decide) rfl dX3_init_42 ?_
  refine A_goto 23 rfl dX3_init_45 ?_
  refine A_iload_n rfl dX3_init_23 ?_
  refine A_bipush bp_14 dX3_init_24 ?_
  refine A_icmp_ge 48 rfl dX3_init_26 (fun cq => absurd cq (by decide +kernel)) (fun _ => ?_)
  refine A_aload_n rfl dX3_init_29 ?_
  refine A_getR fr_X3_17.g rfl (LX_at hkl) rfl dX3_init_30 ?_
  refine A_iload_n rfl dX3_init_33 ?_
  refine N_n (n + 24) cf_1 kl_X3_15 rfl (Nat.le_of_ble_eq_true rfl) (Nat.le_of_ble_eq_true rfl) (congrArg (fun z => z + 24) hn) (by omega) (hz.le (by omega)) dX3_init_34 ?_
  refine A_dup rfl dX3_init_37 ?_
  refine N_c (congrArg (fun z => z + 24) hn) (n_law l G _ _ (n + 25) (n + 24) (by rw [LX_len]; exact (congrArg (fun z => z + 25) hn)) (by omega) ((LX_at2 (j := 24) (congrArg (fun z => z + 24) hn)).trans rfl) (hz.le (by omega))) m_X2_init ml_X3_21 rfl rfl rfl rfl (Nat.le_of_ble_eq_true rfl) (by decide) (Nat.le_of_ble_eq_true rfl) (Nat.le_of_ble_eq_true rfl) dX3_init_38 ?_
  refine AW_lay (lay := LX lay k (2, 2, [some (n + 1), some n]) [(9, 96, []), (11, 14, [some (n + 2), some (n + 4), some (n + 6), some (n + 8), some (n + 10), some (n + 12), some (n + 14), some (n + 16), some (n + 18), some (n + 20), some (n + 22), none, none, none]), (1, 4, [none, none, some (n + 3), none]), (9, 96, []), (1, 4, [none, none, some (n + 5), none]), (9, 96, []), (1, 4, [none, none, some (n + 7), none]), (9, 96, []), (1, 4, [none, none, some (n + 9), none]), (9, 96, []), (1, 4, [none, none, some (n + 11), none]), (9, 96, []), (1, 4, [none, none, some (n + 13), none]), (9, 96, []), (1, 4, [none, none, some (n + 15), none]), (9, 96, []), (1, 4, [none, none, some (n + 17), none]), (9, 96, []), (1, 4, [none, none, some (n + 19), none]), (9, 96, []), (1, 4, [none, none, some (n + 21), none]), (9, 96, []), (1, 4, [none, none, some (n + 23), none]), (9, 96, []), (1, 4, [none, none, some (n + 25), none]), (9, 96, [])]) rfl ?_
  refine N_a 11 1 24 (by decide +kernel) (congrArg (fun z => z + 1) hn) rfl (congrArg (fun z => z + 24) hn) rfl (by decide) (by decide) (Nat.le_of_ble_eq_true rfl) (by decide) dX3_init_41 ?_
  refine AW_lay (lay := LX lay k (2, 2, [some (n + 1), some n]) [(9, 96, []), (11, 14, [some (n + 2), some (n + 4), some (n + 6), some (n + 8), some (n + 10), some (n + 12), some (n + 14), some (n + 16), some (n + 18), some (n + 20), some (n + 22), some (n + 24), none, none]), (1, 4, [none, none, some (n + 3), none]), (9, 96, []), (1, 4, [none, none, some (n + 5), none]), (9, 96, []), (1, 4, [none, none, some (n + 7), none]), (9, 96, []), (1, 4, [none, none, some (n + 9), none]), (9, 96, []), (1, 4, [none, none, some (n + 11), none]), (9, 96, []), (1, 4, [none, none, some (n + 13), none]), (9, 96, []), (1, 4, [none, none, some (n + 15), none]), (9, 96, []), (1, 4, [none, none, some (n + 17), none]), (9, 96, []), (1, 4, [none, none, some (n + 19), none]), (9, 96, []), (1, 4, [none, none, some (n + 21), none]), (9, 96, []), (1, 4, [none, none, some (n + 23), none]), (9, 96, []), (1, 4, [none, none, some (n + 25), none]), (9, 96, [])]) rfl ?_
  refine A_iinc ic_1 rfl (by decide) rfl dX3_init_42 ?_
  refine A_goto 23 rfl dX3_init_45 ?_
  refine A_iload_n rfl dX3_init_23 ?_
  refine A_bipush bp_14 dX3_init_24 ?_
  refine A_icmp_ge 48 rfl dX3_init_26 (fun cq => absurd cq (by decide +kernel)) (fun _ => ?_)
  refine A_aload_n rfl dX3_init_29 ?_
  refine A_getR fr_X3_17.g rfl (LX_at hkl) rfl dX3_init_30 ?_
  refine A_iload_n rfl dX3_init_33 ?_
  refine N_n (n + 26) cf_1 kl_X3_15 rfl (Nat.le_of_ble_eq_true rfl) (Nat.le_of_ble_eq_true rfl) (congrArg (fun z => z + 26) hn) (by omega) (hz.le (by omega)) dX3_init_34 ?_
  refine A_dup rfl dX3_init_37 ?_
  refine N_c (congrArg (fun z => z + 26) hn) (n_law l G _ _ (n + 27) (n + 26) (by rw [LX_len]; exact (congrArg (fun z => z + 27) hn)) (by omega) ((LX_at2 (j := 26) (congrArg (fun z => z + 26) hn)).trans rfl) (hz.le (by omega))) m_X2_init ml_X3_21 rfl rfl rfl rfl (Nat.le_of_ble_eq_true rfl) (by decide) (Nat.le_of_ble_eq_true rfl) (Nat.le_of_ble_eq_true rfl) dX3_init_38 ?_
  refine AW_lay (lay := LX lay k (2, 2, [some (n + 1), some n]) [(9, 96, []), (11, 14, [some (n + 2), some (n + 4), some (n + 6), some (n + 8), some (n + 10), some (n + 12), some (n + 14), some (n + 16), some (n + 18), some (n + 20), some (n + 22), some (n + 24), none, none]), (1, 4, [none, none, some (n + 3), none]), (9, 96, []), (1, 4, [none, none, some (n + 5), none]), (9, 96, []), (1, 4, [none, none, some (n + 7), none]), (9, 96, []), (1, 4, [none, none, some (n + 9), none]), (9, 96, []), (1, 4, [none, none, some (n + 11), none]), (9, 96, []), (1, 4, [none, none, some (n + 13), none]), (9, 96, []), (1, 4, [none, none, some (n + 15), none]), (9, 96, []), (1, 4, [none, none, some (n + 17), none]), (9, 96, []), (1, 4, [none, none, some (n + 19), none]), (9, 96, []), (1, 4, [none, none, some (n + 21), none]), (9, 96, []), (1, 4, [none, none, some (n + 23), none]), (9, 96, []), (1, 4, [none, none, some (n + 25), none]), (9, 96, []), (1, 4, [none, none, some (n + 27), none]), (9, 96, [])]) rfl ?_
  refine N_a 12 1 26 (by decide +kernel) (congrArg (fun z => z + 1) hn) rfl (congrArg (fun z => z + 26) hn) rfl (by decide) (by decide) (Nat.le_of_ble_eq_true rfl) (by decide) dX3_init_41 ?_
  refine AW_lay (lay := LX lay k (2, 2, [some (n + 1), some n]) [(9, 96, []), (11, 14, [some (n + 2), some (n + 4), some (n + 6), some (n + 8), some (n + 10), some (n + 12), some (n + 14), some (n + 16), some (n + 18), some (n + 20), some (n + 22), some (n + 24), some (n + 26), none]), (1, 4, [none, none, some (n + 3), none]), (9, 96, []), (1, 4, [none, none, some (n + 5), none]), (9, 96, []), (1, 4, [none, none, some (n + 7), none]), (9, 96, []), (1, 4, [none, none, some (n + 9), none]), (9, 96, []), (1, 4, [none, none, some (n + 11), none]), (9, 96, []), (1, 4, [none, none, some (n + 13), none]), (9, 96, []), (1, 4, [none, none, some (n + 15), none]), (9, 96, []), (1, 4, [none, none, some (n + 17), none]), (9, 96, []), (1, 4, [none, none, some (n + 19), none]), (9, 96, []), (1, 4, [none, none, some (n + 21), none]), (9, 96, []), (1, 4, [none, none, some (n + 23), none]), (9, 96, []), (1, 4, [none, none, some (n + 25), none]), (9, 96, []), (1, 4, [none, none, some (n + 27), none]), (9, 96, [])]) rfl ?_
  refine A_iinc ic_1 rfl (by decide) rfl dX3_init_42 ?_
  refine A_goto 23 rfl dX3_init_45 ?_
  refine A_iload_n rfl dX3_init_23 ?_
  refine A_bipush bp_14 dX3_init_24 ?_
  refine A_icmp_ge 48 rfl dX3_init_26 (fun cq => absurd cq (by decide +kernel)) (fun _ => ?_)
  refine A_aload_n rfl dX3_init_29 ?_
  refine A_getR fr_X3_17.g rfl (LX_at hkl) rfl dX3_init_30 ?_
  refine A_iload_n rfl dX3_init_33 ?_
  refine N_n (n + 28) cf_1 kl_X3_15 rfl (Nat.le_of_ble_eq_true rfl) (Nat.le_of_ble_eq_true rfl) (congrArg (fun z => z + 28) hn) (by omega) (hz.le (by omega)) dX3_init_34 ?_
  refine A_dup rfl dX3_init_37 ?_
  refine N_c (congrArg (fun z => z + 28) hn) (n_law l G _ _ (n + 29) (n + 28) (by rw [LX_len]; exact (congrArg (fun z => z + 29) hn)) (by omega) ((LX_at2 (j := 28) (congrArg (fun z => z + 28) hn)).trans rfl) (hz.le (by omega))) m_X2_init ml_X3_21 rfl rfl rfl rfl (Nat.le_of_ble_eq_true rfl) (by decide) (Nat.le_of_ble_eq_true rfl) (Nat.le_of_ble_eq_true rfl) dX3_init_38 ?_
  refine AW_lay (lay := LX lay k (2, 2, [some (n + 1), some n]) [(9, 96, []), (11, 14, [some (n + 2), some (n + 4), some (n + 6), some (n + 8), some (n + 10), some (n + 12), some (n + 14), some (n + 16), some (n + 18), some (n + 20), some (n + 22), some (n + 24), some (n + 26), none]), (1, 4, [none, none, some (n + 3), none]), (9, 96, []), (1, 4, [none, none, some (n + 5), none]), (9, 96, []), (1, 4, [none, none, some (n + 7), none]), (9, 96, []), (1, 4, [none, none, some (n + 9), none]), (9, 96, []), (1, 4, [none, none, some (n + 11), none]), (9, 96, []), (1, 4, [none, none, some (n + 13), none]), (9, 96, []), (1, 4, [none, none, some (n + 15), none]), (9, 96, []), (1, 4, [none, none, some (n + 17), none]), (9, 96, []), (1, 4, [none, none, some (n + 19), none]), (9, 96, []), (1, 4, [none, none, some (n + 21), none]), (9, 96, []), (1, 4, [none, none, some (n + 23), none]), (9, 96, []), (1, 4, [none, none, some (n + 25), none]), (9, 96, []), (1, 4, [none, none, some (n + 27), none]), (9, 96, []), (1, 4, [none, none, some (n + 29), none]), (9, 96, [])]) rfl ?_
  refine N_a 13 1 28 (by decide +kernel) (congrArg (fun z => z + 1) hn) rfl (congrArg (fun z => z + 28) hn) rfl (by decide) (by decide) (Nat.le_of_ble_eq_true rfl) (by decide) dX3_init_41 ?_
  refine AW_lay (lay := LX lay k (2, 2, [some (n + 1), some n]) [(9, 96, []), (11, 14, [some (n + 2), some (n + 4), some (n + 6), some (n + 8), some (n + 10), some (n + 12), some (n + 14), some (n + 16), some (n + 18), some (n + 20), some (n + 22), some (n + 24), some (n + 26), some (n + 28)]), (1, 4, [none, none, some (n + 3), none]), (9, 96, []), (1, 4, [none, none, some (n + 5), none]), (9, 96, []), (1, 4, [none, none, some (n + 7), none]), (9, 96, []), (1, 4, [none, none, some (n + 9), none]), (9, 96, []), (1, 4, [none, none, some (n + 11), none]), (9, 96, []), (1, 4, [none, none, some (n + 13), none]), (9, 96, []), (1, 4, [none, none, some (n + 15), none]), (9, 96, []), (1, 4, [none, none, some (n + 17), none]), (9, 96, []), (1, 4, [none, none, some (n + 19), none]), (9, 96, []), (1, 4, [none, none, some (n + 21), none]), (9, 96, []), (1, 4, [none, none, some (n + 23), none]), (9, 96, []), (1, 4, [none, none, some (n + 25), none]), (9, 96, []), (1, 4, [none, none, some (n + 27), none]), (9, 96, []), (1, 4, [none, none, some (n + 29), none]), (9, 96, [])]) rfl ?_
  refine A_iinc ic_1 rfl (by decide) rfl dX3_init_42 ?_
  refine A_goto 23 rfl dX3_init_45 ?_
  refine A_iload_n rfl dX3_init_23 ?_
  refine A_bipush bp_14 dX3_init_24 ?_
  refine A_icmp_ge 48 rfl dX3_init_26 (fun _ => ?_) (fun cq => absurd (by decide +kernel) cq)
  refine A_vret rfl rfl rfl dX3_init_48 ?_
  exact ⟨rfl, rfl, rfl⟩
set_option maxHeartbeats 4000000 in
set_option maxRecDepth 100000 in
theorem n_jury (l : Launch) (G : Gm) (lay : Lay) (I : Hp) (n k : Nat) (rl : Nat) (hn : lay.length = n) (hb : n < 8000) (hk : lay[k]? = some (0, 16, [none, none, none, none, none, none, none, none, none, none, none, none, none, none, none, none])) (hz : Zf n I) : Meth l G yX0_init cX0_init 2 none 1 7 61 [.ref k, .ref rl] lay I (fun r lay1 I1 => r = none ∧ lay1 = LX lay k (0, 16, [some rl, some n, some (n + 1), some (n + 2), some (n + 3), some (n + 4), some (n + 5), some (n + 6), none, none, none, none, none, none, none, none]) [(9, 10, []), (9, 10, []), (9, 10, []), (9, 10, []), (9, 10, []), (9, 8, []), (9, 3, [])] ∧ I1 = (up2 (up2 (up2 (up2 (up2 (up2 I (n + 6) 0 (-1)) (n + 6) 1 (-1)) (n + 6) 2 (-1)) k 9 50) k 10 10) k 14 1)) := by
  have hkl : k < lay.length := (List.getElem?_eq_some_iff.mp hk).1
  refine Meth.of (by decide +kernel) (by simp [Value.category]) (Nat.le_of_ble_eq_true rfl) ?_
  refine AW_lay (LX_nil hk).symm ?_
  refine A_aload_n rfl dX0_init_0 ?_
  refine A_objInit ml_X0_3 rfl (by decide) (Nat.le_of_ble_eq_true rfl) dX0_init_1 ?_
  refine A_aload_n rfl dX0_init_4 ?_
  refine A_bipush bp_10 dX0_init_5 ?_
  refine N_I 10 n rfl (by decide) (Nat.le_of_ble_eq_true rfl) (Nat.le_of_ble_eq_true rfl) (congrArg (fun z => z + 0) hn) (by omega) (hz.le (by omega)) dX0_init_7 ?_
  refine AW_lay (lay := LX lay k (0, 16, [none, none, none, none, none, none, none, none, none, none, none, none, none, none, none, none]) [(9, 10, [])]) rfl ?_
  refine N_p fr_X0_9 rfl rfl hkl (Nat.le_of_ble_eq_true rfl) rfl (fun _ => ⟨rfl, rfl⟩) dX0_init_9 ?_
  refine AW_lay (lay := LX lay k (0, 16, [none, some n, none, none, none, none, none, none, none, none, none, none, none, none, none, none]) [(9, 10, [])]) rfl ?_
  refine A_aload_n rfl dX0_init_12 ?_
  refine A_bipush bp_10 dX0_init_13 ?_
  refine N_I 10 (n + 1) rfl (by decide) (Nat.le_of_ble_eq_true rfl) (Nat.le_of_ble_eq_true rfl) (congrArg (fun z => z + 1) hn) (by omega) (hz.le (by omega)) dX0_init_15 ?_
  refine AW_lay (lay := LX lay k (0, 16, [none, some n, none, none, none, none, none, none, none, none, none, none, none, none, none, none]) [(9, 10, []), (9, 10, [])]) rfl ?_
  refine N_p fr_X0_15 rfl rfl hkl (Nat.le_of_ble_eq_true rfl) rfl (fun _ => ⟨rfl, rfl⟩) dX0_init_17 ?_
  refine AW_lay (lay := LX lay k (0, 16, [none, some n, some (n + 1), none, none, none, none, none, none, none, none, none, none, none, none, none]) [(9, 10, []), (9, 10, [])]) rfl ?_
  refine A_aload_n rfl dX0_init_20 ?_
  refine A_bipush bp_10 dX0_init_21 ?_
  refine N_I 10 (n + 2) rfl (by decide) (Nat.le_of_ble_eq_true rfl) (Nat.le_of_ble_eq_true rfl) (congrArg (fun z => z + 2) hn) (by omega) (hz.le (by omega)) dX0_init_23 ?_
  refine AW_lay (lay := LX lay k (0, 16, [none, some n, some (n + 1), none, none, none, none, none, none, none, none, none, none, none, none, none]) [(9, 10, []), (9, 10, []), (9, 10, [])]) rfl ?_
  refine N_p fr_X0_18 rfl rfl hkl (Nat.le_of_ble_eq_true rfl) rfl (fun _ => ⟨rfl, rfl⟩) dX0_init_25 ?_
  refine AW_lay (lay := LX lay k (0, 16, [none, some n, some (n + 1), some (n + 2), none, none, none, none, none, none, none, none, none, none, none, none]) [(9, 10, []), (9, 10, []), (9, 10, [])]) rfl ?_
  refine A_aload_n rfl dX0_init_28 ?_
  refine A_bipush bp_10 dX0_init_29 ?_
  refine N_I 10 (n + 3) rfl (by decide) (Nat.le_of_ble_eq_true rfl) (Nat.le_of_ble_eq_true rfl) (congrArg (fun z => z + 3) hn) (by omega) (hz.le (by omega)) dX0_init_31 ?_
  refine AW_lay (lay := LX lay k (0, 16, [none, some n, some (n + 1), some (n + 2), none, none, none, none, none, none, none, none, none, none, none, none]) [(9, 10, []), (9, 10, []), (9, 10, []), (9, 10, [])]) rfl ?_
  refine N_p fr_X0_21 rfl rfl hkl (Nat.le_of_ble_eq_true rfl) rfl (fun _ => ⟨rfl, rfl⟩) dX0_init_33 ?_
  refine AW_lay (lay := LX lay k (0, 16, [none, some n, some (n + 1), some (n + 2), some (n + 3), none, none, none, none, none, none, none, none, none, none, none]) [(9, 10, []), (9, 10, []), (9, 10, []), (9, 10, [])]) rfl ?_
  refine A_aload_n rfl dX0_init_36 ?_
  refine A_bipush bp_10 dX0_init_37 ?_
  refine N_I 10 (n + 4) rfl (by decide) (Nat.le_of_ble_eq_true rfl) (Nat.le_of_ble_eq_true rfl) (congrArg (fun z => z + 4) hn) (by omega) (hz.le (by omega)) dX0_init_39 ?_
  refine AW_lay (lay := LX lay k (0, 16, [none, some n, some (n + 1), some (n + 2), some (n + 3), none, none, none, none, none, none, none, none, none, none, none]) [(9, 10, []), (9, 10, []), (9, 10, []), (9, 10, []), (9, 10, [])]) rfl ?_
  refine N_p fr_X0_24 rfl rfl hkl (Nat.le_of_ble_eq_true rfl) rfl (fun _ => ⟨rfl, rfl⟩) dX0_init_41 ?_
  refine AW_lay (lay := LX lay k (0, 16, [none, some n, some (n + 1), some (n + 2), some (n + 3), some (n + 4), none, none, none, none, none, none, none, none, none, none]) [(9, 10, []), (9, 10, []), (9, 10, []), (9, 10, []), (9, 10, [])]) rfl ?_
  refine A_aload_n rfl dX0_init_44 ?_
  refine A_bipush bp_8 dX0_init_45 ?_
  refine N_I 8 (n + 5) rfl (by decide) (Nat.le_of_ble_eq_true rfl) (Nat.le_of_ble_eq_true rfl) (congrArg (fun z => z + 5) hn) (by omega) (hz.le (by omega)) dX0_init_47 ?_
  refine AW_lay (lay := LX lay k (0, 16, [none, some n, some (n + 1), some (n + 2), some (n + 3), some (n + 4), none, none, none, none, none, none, none, none, none, none]) [(9, 10, []), (9, 10, []), (9, 10, []), (9, 10, []), (9, 10, []), (9, 8, [])]) rfl ?_
  refine N_p fr_X0_27 rfl rfl hkl (Nat.le_of_ble_eq_true rfl) rfl (fun _ => ⟨rfl, rfl⟩) dX0_init_49 ?_
  refine AW_lay (lay := LX lay k (0, 16, [none, some n, some (n + 1), some (n + 2), some (n + 3), some (n + 4), some (n + 5), none, none, none, none, none, none, none, none, none]) [(9, 10, []), (9, 10, []), (9, 10, []), (9, 10, []), (9, 10, []), (9, 8, [])]) rfl ?_
  refine A_aload_n rfl dX0_init_52 ?_
  refine A_iconst ic_3 dX0_init_53 ?_
  refine N_I 3 (n + 6) rfl (by decide) (Nat.le_of_ble_eq_true rfl) (Nat.le_of_ble_eq_true rfl) (congrArg (fun z => z + 6) hn) (by omega) (hz.le (by omega)) dX0_init_54 ?_
  refine AW_lay (lay := LX lay k (0, 16, [none, some n, some (n + 1), some (n + 2), some (n + 3), some (n + 4), some (n + 5), none, none, none, none, none, none, none, none, none]) [(9, 10, []), (9, 10, []), (9, 10, []), (9, 10, []), (9, 10, []), (9, 8, []), (9, 3, [])]) rfl ?_
  refine A_dup rfl dX0_init_56 ?_
  refine A_iconst ic_0 dX0_init_57 ?_
  refine A_iconst ic_m1 dX0_init_58 ?_
  refine A_iast 0 rfl ((LX_at2 (j := 6) (congrArg (fun z => z + 6) hn)).trans rfl) (by decide) (by decide) dX0_init_59 ?_
  refine A_dup rfl dX0_init_60 ?_
  refine A_iconst ic_1 dX0_init_61 ?_
  refine A_iconst ic_m1 dX0_init_62 ?_
  refine A_iast 1 rfl ((LX_at2 (j := 6) (congrArg (fun z => z + 6) hn)).trans rfl) (by decide) (by decide) dX0_init_63 ?_
  refine A_dup rfl dX0_init_64 ?_
  refine A_iconst ic_2 dX0_init_65 ?_
  refine A_iconst ic_m1 dX0_init_66 ?_
  refine A_iast 2 rfl ((LX_at2 (j := 6) (congrArg (fun z => z + 6) hn)).trans rfl) (by decide) (by decide) dX0_init_67 ?_
  refine N_p fr_X0_30 rfl rfl hkl (Nat.le_of_ble_eq_true rfl) rfl (fun _ => ⟨rfl, rfl⟩) dX0_init_68 ?_
  refine AW_lay (lay := LX lay k (0, 16, [none, some n, some (n + 1), some (n + 2), some (n + 3), some (n + 4), some (n + 5), some (n + 6), none, none, none, none, none, none, none, none]) [(9, 10, []), (9, 10, []), (9, 10, []), (9, 10, []), (9, 10, []), (9, 8, []), (9, 3, [])]) rfl ?_
  refine A_aload_n rfl dX0_init_71 ?_
  refine A_bipush bp_50 dX0_init_72 ?_
  refine A_putI fr_X0_33 rfl (LX_at hkl) rfl rfl dX0_init_74 ?_
  refine A_aload_n rfl dX0_init_77 ?_
  refine A_bipush bp_10 dX0_init_78 ?_
  refine A_putI fr_X0_37 rfl (LX_at hkl) rfl rfl dX0_init_80 ?_
  refine A_aload_n rfl dX0_init_83 ?_
  refine A_iconst ic_1 dX0_init_84 ?_
  refine A_putI fr_X0_40 rfl (LX_at hkl) rfl rfl dX0_init_85 ?_
  refine A_aload_n rfl dX0_init_88 ?_
  refine A_aload_n rfl dX0_init_89 ?_
  refine N_p fr_X0_43 rfl rfl hkl (Nat.le_of_ble_eq_true rfl) rfl (fun _ => ⟨rfl, rfl⟩) dX0_init_90 ?_
  refine AW_lay (lay := LX lay k (0, 16, [some rl, some n, some (n + 1), some (n + 2), some (n + 3), some (n + 4), some (n + 5), some (n + 6), none, none, none, none, none, none, none, none]) [(9, 10, []), (9, 10, []), (9, 10, []), (9, 10, []), (9, 10, []), (9, 8, []), (9, 3, [])]) rfl ?_
  refine A_vret rfl rfl rfl dX0_init_93 ?_
  exact ⟨rfl, rfl, rfl⟩
