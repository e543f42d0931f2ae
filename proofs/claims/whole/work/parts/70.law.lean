def INI0 : Hp := (up2 (up2 (up2 (up2 (up2 (up2 (up2 (up2 (up2 (up2 (up2 (up2 (up2 (up2 (up2 (up2 (up2 (up2 (up2 (up2 (up2 (up2 (up2 (up2 (up2 (up2 (up2 (up2 (up2 (up2 (up2 (up2 (fun _ _ => 0) 43 0 (-1)) 43 1 (-1)) 43 2 (-1)) 36 9 50) 36 10 10) 36 14 1) 51 0 (-1)) 51 1 (-1)) 51 2 (-1)) 44 9 50) 44 10 10) 44 14 1) 59 0 (-1)) 59 1 (-1)) 59 2 (-1)) 52 9 50) 52 10 10) 52 14 1) 61 0 (-1)) 63 0 (-1)) 65 0 (-1)) 67 0 (-1)) 70 0 0) 71 0 (-1)) 73 0 0) 74 0 (-1)) 76 0 0) 77 0 (-1)) 79 0 0) 80 0 (-1)) 82 0 0) 83 0 (-1))
def INI : Hp := (up2 (up2 (up2 (up2 (up2 (up2 (up2 (up2 (up2 (up2 (up2 (up2 (up2 (up2 (up2 (up2 (up2 (up2 (up2 (up2 (up2 (up2 (up2 (up2 INI0 86 4 (-1)) 92 0 116) 92 1 114) 92 2 117) 92 3 115) 92 4 116) 92 5 102) 92 6 101) 92 7 101) 92 8 102) 92 9 105) 92 10 110) 92 11 101) 93 0 0) 93 1 5) 93 2 8) 93 3 12) 99 0 (-1)) 99 1 (-1)) 99 2 (-1)) 99 3 (-1)) 87 0 1) 87 3 50) 87 4 10)
theorem zf_0 (n : Nat) : Zf n (fun _ _ => 0) := fun _ _ => rfl
theorem zf_87' (q : Nat) (hq : 86 ≤ q := by decide) : INI0 q = fun _ => 0 := by
  unfold INI0
  rw [up2_ne (by omega), up2_ne (by omega), up2_ne (by omega), up2_ne (by omega), up2_ne (by omega), up2_ne (by omega), up2_ne (by omega), up2_ne (by omega), up2_ne (by omega), up2_ne (by omega), up2_ne (by omega), up2_ne (by omega), up2_ne (by omega), up2_ne (by omega), up2_ne (by omega), up2_ne (by omega), up2_ne (by omega), up2_ne (by omega), up2_ne (by omega), up2_ne (by omega), up2_ne (by omega), up2_ne (by omega), up2_ne (by omega), up2_ne (by omega), up2_ne (by omega), up2_ne (by omega), up2_ne (by omega), up2_ne (by omega), up2_ne (by omega), up2_ne (by omega), up2_ne (by omega), up2_ne (by omega)]
theorem zf_87 : Zf 87 INI0 := fun q hq => by
  unfold INI0
  rw [up2_ne (by omega), up2_ne (by omega), up2_ne (by omega), up2_ne (by omega), up2_ne (by omega), up2_ne (by omega), up2_ne (by omega), up2_ne (by omega), up2_ne (by omega), up2_ne (by omega), up2_ne (by omega), up2_ne (by omega), up2_ne (by omega), up2_ne (by omega), up2_ne (by omega), up2_ne (by omega), up2_ne (by omega), up2_ne (by omega), up2_ne (by omega), up2_ne (by omega), up2_ne (by omega), up2_ne (by omega), up2_ne (by omega), up2_ne (by omega), up2_ne (by omega), up2_ne (by omega), up2_ne (by omega), up2_ne (by omega), up2_ne (by omega), up2_ne (by omega), up2_ne (by omega), up2_ne (by omega)]
theorem INI_87 : INI 87 = upd (upd (upd (fun _ => 0) 0 1) 3 50) 4 10 := rfl
theorem INI_z (i : Nat) (hi : 1438 ≤ i) : INI 87 i = 0 := by rw [INI_87, upd_n (by omega), upd_n (by omega), upd_n (by omega)]
theorem INI_88 : INI 88 = fun _ => 0 := rfl
theorem INI_kn : ∀ i, i < 10 → INI 87 (18 + 5 * i) = nI 0 := by decide +kernel
theorem INI_do : ∀ i, i < 10 → INI 87 (19 + 5 * i) = nI 0 := by decide +kernel
theorem INI_wt : ∀ f, f < 8 → -50 ≤ INI 87 (8 + f) ∧ INI 87 (8 + f) ≤ 50 := by decide +kernel
theorem INI_r : RepJ INI 36 (INI 87) := by unfold RepJ; decide +kernel
theorem INI_sc : ShC INI (fun _ => -1) (fun _ => 0) (fun _ _ => 0) := by unfold ShC; decide +kernel
theorem INI_sm : ShM INI (fun _ => -1) (fun _ => 0) (fun _ _ => 0) := by unfold ShM; decide +kernel
theorem INI_lc : SlC INI (fun _ => 0) (fun _ => 0) (fun _ => 0) (fun _ _ => 0) := by unfold SlC; decide +kernel
theorem INI_lm : SlM INI (fun _ => 0) (fun _ => 0) (fun _ => 0) (fun _ _ => 0) := by unfold SlM; decide +kernel
theorem INI_ky : KyM INI := ⟨by decide +kernel, by decide +kernel⟩
theorem INV_INI : INV INI := by
  refine ⟨INI 87, 0, 0, 0, fun _ => -1, fun _ => 0, fun _ _ => 0, fun _ => 0, fun _ => 0, fun _ => 0, fun _ _ => 0, 0, 0, ⟨rfl, ⟨by decide, by decide +kernel, by decide, by decide +kernel, fun i hi => ⟨0, by decide, INI_kn i hi⟩, fun i hi => ⟨0, by decide, INI_do i hi⟩, INI_wt, ⟨by decide, by decide +kernel, fun t ht => by omega⟩, INI_z⟩, INI_r, fun t ht => by omega⟩, ⟨by decide +kernel, fun i _ => by rw [INI_88], fun h => absurd (show INI 86 3 = 0 by decide +kernel) h⟩, ⟨INI_sc, INI_sm, fun s hs => ⟨Or.inl rfl, ⟨0, by decide, rfl⟩, fun k hk => Or.inr ⟨by dsimp only; decide, by dsimp only; decide⟩⟩⟩, ⟨INI_lc, INI_lm, fun q hq => ⟨Or.inl rfl, fun h => absurd h (by dsimp only; decide)⟩⟩, ⟨by decide, by decide +kernel, by decide +kernel, rfl⟩, ⟨by decide +kernel, by decide +kernel, rfl, ⟨by decide, fun k hk => by omega⟩⟩, ⟨by decide +kernel, INI_ky⟩⟩
set_option maxHeartbeats 1000000 in
set_option maxRecDepth 100000 in
theorem lw_loop (l : Launch) (G : Gm) (yn : String) (mc ms : Nat) (Q : Pst) (hb : g_sl G ≤ 3072) (hQ : ∀ lay I, Q (some (.int 1)) lay I) : ∀ (lpn i : Nat) (K : Hp), 4000 - i = lpn → i ≤ 3080 → INV K → AW l G (⟨RL, yn, "([I)Z"⟩ : MethodName) cL_law 4 (some FieldType.boolean) 155 mc ms Q mc ms 18 [some (.ref 200000), some (.ref 0), some (.ref 86), some (.int (nI i))] [] LAY K := by
  intro lpn
  induction lpn using Nat.strongRecOn with
  | _ lpn ih =>
    intro i K hms hi hI
    refine A_iload_n rfl dL_law_18 ?_
    refine A_aload_n rfl dL_law_19 ?_
    refine A_sclen dL_law_20 ?_
    refine A_bipush bp_6 dL_law_21 ?_
    refine A_isub dL_law_23 ?_
    refine A_icmp_gt 1421 rfl dL_law_24 (fun cq => ?_) (fun cq => ?_)
    · refine A_iconst ic_1 dL_law_1421 ?_
      exact A_iret rfl rfl rfl rfl dL_law_1422 (hQ _ _)
    · have hi6 : i + 6 ≤ g_sl G := by
        rw [Int32.lt_iff_toInt_lt, nI_toInt (by omega), show (6 : Int32) = nI 6 from rfl, pk_sub_toInt (by omega) (by decide)] at cq
        omega
      have hgo : ∀ K2, INV K2 → AW l G (⟨RL, yn, "([I)Z"⟩ : MethodName) cL_law 4 (some FieldType.boolean) 155 mc ms Q mc ms 1415 [some (.ref 200000), some (.ref 0), some (.ref 86), some (.int (nI i))] [] LAY K2 := fun K2 h2 => by
        refine A_iinc ic_6 rfl (by decide) rfl dL_law_1415 ?_
        refine A_goto 18 rfl dL_law_1418 ?_
        refine AW_L (L := [some (.ref 200000), some (.ref 0), some (.ref 86), some (.int (nI (i + 6)))]) (by rw [show (6 : Int32) = nI 6 from rfl, nI_add]; rfl) ?_
        exact ih (4000 - (i + 6)) (by omega) (i + 6) K2 rfl (by omega) h2
      refine A_aload_n rfl dL_law_27 ?_
      refine A_iload_n rfl dL_law_28 ?_
      refine A_scld i rfl (by omega) (by omega) dL_law_29 ?_
      refine A_bipush bp_63 dL_law_30 ?_
      refine A_iand dL_law_32 ?_
      refine A_tsw 1415 rfl dL_law_33 rfl (fun jsw off hjsw cq33 => ?_) (fun _ => hgo K hI)
      · match jsw, hjsw, cq33 with
        | 0, hjsw, _ =>
          cases hjsw
          exact ⟨212, rfl, lw_juror l G yn mc ms i Q hi6 hb K hI hgo⟩
        | 1, hjsw, _ =>
          cases hjsw
          exact ⟨255, rfl, lw_told l G yn mc ms i Q hi6 hb K hI hgo⟩
        | 2, hjsw, _ =>
          cases hjsw
          exact ⟨288, rfl, lw_tells l G yn mc ms i Q hi6 hb K hI hgo⟩
        | 3, hjsw, _ =>
          cases hjsw
          exact ⟨321, rfl, lw_as l G yn mc ms i Q hi6 hb K hI hgo⟩
        | 4, hjsw, _ =>
          cases hjsw
          exact ⟨354, rfl, lw_turns l G yn mc ms i Q hi6 hb K hI hgo⟩
        | 5, hjsw, _ =>
          cases hjsw
          exact ⟨387, rfl, lw_set l G yn mc ms i Q hi6 hb K hI hgo⟩
        | 6, hjsw, _ =>
          cases hjsw
          exact ⟨430, rfl, lw_weigh l G yn mc ms i Q hi6 hb K hI hgo⟩
        | 7, hjsw, _ =>
          cases hjsw
          exact ⟨463, rfl, lw_rule l G yn mc ms i Q hi6 hb K hI hgo⟩
        | 8, hjsw, _ =>
          cases hjsw
          exact ⟨496, rfl, lw_deal l G yn mc ms i Q hi6 hb K hI hgo⟩
        | 9, hjsw, _ =>
          cases hjsw
          exact ⟨519, rfl, lw_seed l G yn mc ms i Q hi6 hb K hI hgo⟩
        | 10, hjsw, _ =>
          cases hjsw
          exact ⟨542, rfl, lw_out l G yn mc ms i Q hi6 hb K hI hgo⟩
        | 11, hjsw, _ =>
          cases hjsw
          exact ⟨575, rfl, lw_hours l G yn mc ms i Q hi6 hb K hI hgo⟩
        | 12, hjsw, _ =>
          cases hjsw
          exact ⟨598, rfl, lw_jury l G yn mc ms i Q hi6 hb K hI hgo⟩
        | 13, hjsw, _ =>
          cases hjsw
          exact ⟨621, rfl, lw_behind l G yn mc ms i Q hi6 hb K hI hgo⟩
        | 14, hjsw, _ =>
          cases hjsw
          exact ⟨654, rfl, lw_allKnow l G yn mc ms i Q hi6 hb K hI hgo⟩
        | 15, hjsw, _ =>
          cases hjsw
          exact ⟨667, rfl, lw_bestTurn l G yn mc ms i Q hi6 hb K hI hgo⟩
        | 16, hjsw, _ =>
          cases hjsw
          exact ⟨700, rfl, lw_sure l G yn mc ms i Q hi6 hb K hI hgo⟩
        | 17, hjsw, _ =>
          cases hjsw
          exact ⟨723, rfl, lw_advocate l G yn mc ms i Q hi6 hb K hI hgo⟩
        | 18, hjsw, _ =>
          cases hjsw
          exact ⟨756, rfl, lw_tipped l G yn mc ms i Q hi6 hb K hI hgo⟩
        | 19, hjsw, _ =>
          cases hjsw
          exact ⟨779, rfl, lw_weighed l G yn mc ms i Q hi6 hb K hI hgo⟩
        | 20, hjsw, _ =>
          cases hjsw
          exact ⟨812, rfl, lw_fee l G yn mc ms i Q hi6 hb K hI hgo⟩
        | 21, hjsw, _ =>
          cases hjsw
          exact ⟨825, rfl, lw_fine l G yn mc ms i Q hi6 hb K hI hgo⟩
        | 22, hjsw, _ =>
          cases hjsw
          exact ⟨848, rfl, lw_feed l G yn mc ms i Q hi6 hb K hI hgo⟩
        | 23, hjsw, _ =>
          cases hjsw
          exact ⟨891, rfl, lw_trim l G yn mc ms i Q hi6 hb K hI hgo⟩
        | 24, hjsw, _ =>
          cases hjsw
          exact ⟨914, rfl, lw_text l G yn mc ms i Q hi6 hb K hI hgo⟩
        | 25, hjsw, _ =>
          cases hjsw
          exact ⟨927, rfl, lw_textTold l G yn mc ms i Q hi6 hb K hI hgo⟩
        | 26, hjsw, _ =>
          cases hjsw
          exact ⟨960, rfl, lw_why l G yn mc ms i Q hi6 hb K hI hgo⟩
        | 27, hjsw, _ =>
          cases hjsw
          exact ⟨983, rfl, lw_sheet l G yn mc ms i Q hi6 hb K hI hgo⟩
        | 28, hjsw, _ =>
          cases hjsw
          exact ⟨1026, rfl, lw_mark l G yn mc ms i Q hi6 hb K hI hgo⟩
        | 29, hjsw, _ =>
          cases hjsw
          exact ⟨1069, rfl, lw_pour l G yn mc ms i Q hi6 hb K hI hgo⟩
        | 30, hjsw, _ =>
          cases hjsw
          exact ⟨1092, rfl, lw_reads l G yn mc ms i Q hi6 hb K hI hgo⟩
        | 31, hjsw, _ =>
          cases hjsw
          exact ⟨1115, rfl, lw_copy l G yn mc ms i Q hi6 hb K hI hgo⟩
        | 32, hjsw, _ =>
          cases hjsw
          exact ⟨1178, rfl, lw_lay l G yn mc ms i Q hi6 hb K hI hgo⟩
        | 33, hjsw, _ =>
          cases hjsw
          exact ⟨1221, rfl, lw_ask l G yn mc ms i Q hi6 hb K hI hgo⟩
        | 34, hjsw, _ =>
          cases hjsw
          exact ⟨1254, rfl, lw_item l G yn mc ms i Q hi6 hb K hI hgo⟩
        | 35, hjsw, _ =>
          cases hjsw
          exact ⟨1287, rfl, lw_rest l G yn mc ms i Q hi6 hb K hI hgo⟩
        | 36, hjsw, _ =>
          cases hjsw
          exact ⟨1320, rfl, lw_tell l G yn mc ms i Q hi6 hb K hI hgo⟩
        | 37, hjsw, _ =>
          cases hjsw
          exact ⟨1343, rfl, lw_check l G yn mc ms i Q hi6 hb K hI hgo⟩
        | 38, hjsw, _ =>
          cases hjsw
          exact ⟨1366, rfl, lw_keep l G yn mc ms i Q hi6 hb K hI hgo⟩
        | 39, hjsw, _ =>
          cases hjsw
          exact ⟨1379, rfl, lw_back l G yn mc ms i Q hi6 hb K hI hgo⟩
        | 40, hjsw, _ =>
          cases hjsw
          exact ⟨1392, rfl, lw_count l G yn mc ms i Q hi6 hb K hI hgo⟩
        | jsw + 41, hjsw, _ => exact absurd hjsw (by simp)
def LAYc : Lay := LAY.take 86
theorem LAYc_len : LAYc.length = 86 := by decide +kernel
set_option maxHeartbeats 4000000 in
set_option maxRecDepth 100000 in
theorem lw_all (l : Launch) (G : Gm) (yn : String) (hb : g_sl G ≤ 3072) : AW l G (⟨RL, yn, "([I)Z"⟩ : MethodName) cL_law 4 (some FieldType.boolean) 155 108 7444 (fun v _ _ => v = some (.int 1)) 0 0 0 [some (.ref 200000), none, none, none] [] [] (fun _ _ => 0) := by
  refine A_new cf_6 kl_L_7 rfl (by decide) (Nat.le_of_ble_eq_true rfl) (by decide) dL_law_0 ?_
  refine AW_I (I := fun _ _ => 0) (zr_id rfl) ?_
  refine A_dup rfl dL_law_3 ?_
  refine A_callI (n_pj l G _ (fun _ _ => 0) 1 0 rfl (by decide) rfl (zf_0 1)) m_X7_init ml_L_9 rfl rfl rfl (Nat.le_of_ble_eq_true rfl) (by decide) (by decide) (Nat.le_of_ble_eq_true rfl) dL_law_4 (fun _ _ _ h => by rw [h.2.1, LX_len]; rfl) ?_
  rintro _ _ _ ⟨rfl, rfl, e9⟩
  refine AW_I (I := INI0) (e9.trans rfl) ?_
  refine AW_lay (lay := LAYc) (by decide +kernel) ?_
  refine A_astore_n (by decide) rfl dL_law_7 ?_
  refine A_new cf_7 kl_L_10 rfl (by decide) (Nat.le_of_ble_eq_true rfl) (by rw [LAYc_len]; decide) dL_law_8 ?_
  rw [LAYc_len]
  refine AW_I (I := INI0) (zr_id (zf_87' 86)) ?_
  refine A_dup rfl dL_law_11 ?_
  refine A_callI (n_md l G _ INI0 87 86 (by rw [List.length_append, LAYc_len]; rfl) (by decide) (by decide +kernel) zf_87) m_X8_init ml_L_12 rfl rfl rfl (Nat.le_of_ble_eq_true rfl) (by decide) (by decide) (Nat.le_of_ble_eq_true rfl) dL_law_12 (fun _ _ _ h => by rw [h.2.1, LX_len]; rfl) ?_
  rintro _ _ _ ⟨rfl, rfl, e9⟩
  refine AW_I (I := INI) (e9.trans rfl) ?_
  refine AW_lay (lay := LAY) (by decide +kernel) ?_
  refine A_astore_n (by decide) rfl dL_law_15 ?_
  refine A_iconst ic_0 dL_law_16 ?_
  refine A_istore_n (by decide) rfl dL_law_17 ?_
  exact lw_loop l G yn 108 7444 (fun v _ _ => v = some (.int 1)) hb (fun _ _ => rfl) 4000 0 INI rfl (by decide) INV_INI
