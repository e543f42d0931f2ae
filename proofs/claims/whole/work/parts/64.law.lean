set_option maxHeartbeats 1000000 in
set_option maxRecDepth 100000 in
theorem lw_allKnow (l : Launch) (G : Gm) (yn : String) (mc ms i : Nat) (Q : Pst) (hi : i + 6 ≤ g_sl G) (hb : g_sl G ≤ 3072) (K : Hp) (hI : INV K) (hgo : ∀ K2, INV K2 → AW l G (⟨RL, yn, "([I)Z"⟩ : MethodName) cL_law 4 (some FieldType.boolean) 155 mc ms Q mc ms 1415 [some (.ref 200000), some (.ref 0), some (.ref 86), some (.int (nI i))] [] LAY K2) : AW l G (⟨RL, yn, "([I)Z"⟩ : MethodName) cL_law 4 (some FieldType.boolean) 155 mc ms Q mc ms 654 [some (.ref 200000), some (.ref 0), some (.ref 86), some (.int (nI i))] [] LAY K := by
  have hINV := hI
  obtain ⟨N, n, hh, T, S, Z, C, H, A, B, E, wt, L, hI⟩ := hI
  have hJ := hI.1.2.1
  have hn := hJ.1
  have hN := hJ.2.1
  have hR := hI.1.2.2.1
  have hK := hJ.2.2.2.2.1
  have hDo := hJ.2.2.2.2.2.1
  have hWt := hJ.2.2.2.2.2.2.1
  have hTx := hJ.2.2.2.2.2.2.2.1
  have hLw := hI.1.2.2.2
  have h87 := hI.1.1
  have hsil := hI.2.2.2.2.2.2.1
  have hSh := hI.2.2.1
  have hSl := hI.2.2.2.1
  refine A_aload_n rfl dL_law_654 ?_
  refine A_callV (c_allKnow l G K N n hn hN hR hK ) m_X7_allKnow ml_L_72 rfl lay_0 rfl (by decide) rfl rfl (Nat.le_of_ble_eq_true rfl) (by decide) (Nat.le_refl _) (Nat.le_refl _) dL_law_655 (fun _ _ _ hqq => congrArg List.length hqq.2.1) ?_
  rintro _ _ K1 ⟨rfl, rfl, hf1⟩
  have hI1 := hI.tho hf1
  have e87 := hI1.1.1
  have s1 := hI1.2.2.2.2.2.2.1
  have sh1 := hI1.2.2.1
  refine A_aload_n rfl dL_law_658 ?_
  refine A_callV (m_allKnow l G K1 N e87 n hn hN s1 ) m_X8_allKnow ml_L_76 rfl lay_86 rfl (by decide) rfl rfl (Nat.le_of_ble_eq_true rfl) (by decide) (Nat.le_refl _) (Nat.le_refl _) dL_law_659 (fun _ _ _ hqq => congrArg List.length hqq.2.1) ?_
  rintro _ _ K2 ⟨rfl, rfl, hf2⟩
  have hI2 := hI1.m2 hf2
  exact A_icmp_eq 1415 rfl dL_law_662 (fun _ => hgo _ (⟨_, _, _, _, _, _, _, _, _, _, _, _, _, hI2⟩)) (fun cq => absurd (rfl) cq)
set_option maxHeartbeats 1000000 in
set_option maxRecDepth 100000 in
theorem lw_bestTurn (l : Launch) (G : Gm) (yn : String) (mc ms i : Nat) (Q : Pst) (hi : i + 6 ≤ g_sl G) (hb : g_sl G ≤ 3072) (K : Hp) (hI : INV K) (hgo : ∀ K2, INV K2 → AW l G (⟨RL, yn, "([I)Z"⟩ : MethodName) cL_law 4 (some FieldType.boolean) 155 mc ms Q mc ms 1415 [some (.ref 200000), some (.ref 0), some (.ref 86), some (.int (nI i))] [] LAY K2) : AW l G (⟨RL, yn, "([I)Z"⟩ : MethodName) cL_law 4 (some FieldType.boolean) 155 mc ms Q mc ms 667 [some (.ref 200000), some (.ref 0), some (.ref 86), some (.int (nI i))] [] LAY K := by
  have hINV := hI
  obtain ⟨N, n, hh, T, S, Z, C, H, A, B, E, wt, L, hI⟩ := hI
  have hJ := hI.1.2.1
  have hn := hJ.1
  have hN := hJ.2.1
  have hR := hI.1.2.2.1
  have hK := hJ.2.2.2.2.1
  have hDo := hJ.2.2.2.2.2.1
  have hWt := hJ.2.2.2.2.2.2.1
  have hTx := hJ.2.2.2.2.2.2.2.1
  have hLw := hI.1.2.2.2
  have h87 := hI.1.1
  have hsil := hI.2.2.2.2.2.2.1
  have hSh := hI.2.2.1
  have hSl := hI.2.2.2.1
  refine A_aload_n rfl dL_law_667 ?_
  refine A_aload_n rfl dL_law_668 ?_
  refine A_iload_n rfl dL_law_669 ?_
  refine A_iconst ic_1 dL_law_670 ?_
  refine A_iadd dL_law_671 ?_
  refine A_scld (i + 1) (ixc i 1) (by omega) (by omega) dL_law_672 ?_
  refine A_aload_n rfl dL_law_673 ?_
  refine A_iload_n rfl dL_law_674 ?_
  refine A_iconst ic_2 dL_law_675 ?_
  refine A_iadd dL_law_676 ?_
  refine A_scld (i + 2) (ixc i 2) (by omega) (by omega) dL_law_677 ?_
  refine A_callV (c_bestTurn l G K N n hn hN hR hK _ _) m_X7_bestTurn ml_L_77 rfl lay_0 rfl (by decide) rfl rfl (Nat.le_of_ble_eq_true rfl) (by decide) (Nat.le_refl _) (Nat.le_refl _) dL_law_678 (fun _ _ _ hqq => congrArg List.length hqq.2.1) ?_
  rintro _ _ K1 ⟨rfl, rfl, hf1⟩
  have hI1 := hI.tho hf1
  have e87 := hI1.1.1
  have s1 := hI1.2.2.2.2.2.2.1
  have sh1 := hI1.2.2.1
  refine A_aload_n rfl dL_law_681 ?_
  refine A_aload_n rfl dL_law_682 ?_
  refine A_iload_n rfl dL_law_683 ?_
  refine A_iconst ic_1 dL_law_684 ?_
  refine A_iadd dL_law_685 ?_
  refine A_scld (i + 1) (ixc i 1) (by omega) (by omega) dL_law_686 ?_
  refine A_aload_n rfl dL_law_687 ?_
  refine A_iload_n rfl dL_law_688 ?_
  refine A_iconst ic_2 dL_law_689 ?_
  refine A_iadd dL_law_690 ?_
  refine A_scld (i + 2) (ixc i 2) (by omega) (by omega) dL_law_691 ?_
  refine A_callV (m_bestTurn l G K1 N e87 n hn hN s1 _ _) m_X8_bestTurn ml_L_80 rfl lay_86 rfl (by decide) rfl rfl (Nat.le_of_ble_eq_true rfl) (by decide) (Nat.le_refl _) (Nat.le_refl _) dL_law_692 (fun _ _ _ hqq => congrArg List.length hqq.2.1) ?_
  rintro _ _ K2 ⟨rfl, rfl, hf2⟩
  have hI2 := hI1.m2 hf2
  exact A_icmp_eq 1415 rfl dL_law_695 (fun _ => hgo _ (⟨_, _, _, _, _, _, _, _, _, _, _, _, _, hI2⟩)) (fun cq => absurd (rfl) cq)
set_option maxHeartbeats 1000000 in
set_option maxRecDepth 100000 in
theorem lw_sure (l : Launch) (G : Gm) (yn : String) (mc ms i : Nat) (Q : Pst) (hi : i + 6 ≤ g_sl G) (hb : g_sl G ≤ 3072) (K : Hp) (hI : INV K) (hgo : ∀ K2, INV K2 → AW l G (⟨RL, yn, "([I)Z"⟩ : MethodName) cL_law 4 (some FieldType.boolean) 155 mc ms Q mc ms 1415 [some (.ref 200000), some (.ref 0), some (.ref 86), some (.int (nI i))] [] LAY K2) : AW l G (⟨RL, yn, "([I)Z"⟩ : MethodName) cL_law 4 (some FieldType.boolean) 155 mc ms Q mc ms 700 [some (.ref 200000), some (.ref 0), some (.ref 86), some (.int (nI i))] [] LAY K := by
  have hINV := hI
  obtain ⟨N, n, hh, T, S, Z, C, H, A, B, E, wt, L, hI⟩ := hI
  have hJ := hI.1.2.1
  have hn := hJ.1
  have hN := hJ.2.1
  have hR := hI.1.2.2.1
  have hK := hJ.2.2.2.2.1
  have hDo := hJ.2.2.2.2.2.1
  have hWt := hJ.2.2.2.2.2.2.1
  have hTx := hJ.2.2.2.2.2.2.2.1
  have hLw := hI.1.2.2.2
  have h87 := hI.1.1
  have hsil := hI.2.2.2.2.2.2.1
  have hSh := hI.2.2.1
  have hSl := hI.2.2.2.1
  refine A_aload_n rfl dL_law_700 ?_
  refine A_aload_n rfl dL_law_701 ?_
  refine A_iload_n rfl dL_law_702 ?_
  refine A_iconst ic_1 dL_law_703 ?_
  refine A_iadd dL_law_704 ?_
  refine A_scld (i + 1) (ixc i 1) (by omega) (by omega) dL_law_705 ?_
  refine A_callV (c_sure l G K N n hn hN hR hK _) m_X7_sure ml_L_81 rfl lay_0 rfl (by decide) rfl rfl (Nat.le_of_ble_eq_true rfl) (by decide) (Nat.le_refl _) (Nat.le_refl _) dL_law_706 (fun _ _ _ hqq => congrArg List.length hqq.2.1) ?_
  rintro _ _ K1 ⟨rfl, rfl, hf1⟩
  have hI1 := hI.tho hf1
  have e87 := hI1.1.1
  have s1 := hI1.2.2.2.2.2.2.1
  have sh1 := hI1.2.2.1
  refine A_aload_n rfl dL_law_709 ?_
  refine A_aload_n rfl dL_law_710 ?_
  refine A_iload_n rfl dL_law_711 ?_
  refine A_iconst ic_1 dL_law_712 ?_
  refine A_iadd dL_law_713 ?_
  refine A_scld (i + 1) (ixc i 1) (by omega) (by omega) dL_law_714 ?_
  refine A_callV (m_sure l G K1 N e87 n hn hN s1 _) m_X8_sure ml_L_84 rfl lay_86 rfl (by decide) rfl rfl (Nat.le_of_ble_eq_true rfl) (by decide) (Nat.le_refl _) (Nat.le_refl _) dL_law_715 (fun _ _ _ hqq => congrArg List.length hqq.2.1) ?_
  rintro _ _ K2 ⟨rfl, rfl, hf2⟩
  have hI2 := hI1.m2 hf2
  exact A_icmp_eq 1415 rfl dL_law_718 (fun _ => hgo _ (⟨_, _, _, _, _, _, _, _, _, _, _, _, _, hI2⟩)) (fun cq => absurd (rfl) cq)
set_option maxHeartbeats 1000000 in
set_option maxRecDepth 100000 in
theorem lw_advocate (l : Launch) (G : Gm) (yn : String) (mc ms i : Nat) (Q : Pst) (hi : i + 6 ≤ g_sl G) (hb : g_sl G ≤ 3072) (K : Hp) (hI : INV K) (hgo : ∀ K2, INV K2 → AW l G (⟨RL, yn, "([I)Z"⟩ : MethodName) cL_law 4 (some FieldType.boolean) 155 mc ms Q mc ms 1415 [some (.ref 200000), some (.ref 0), some (.ref 86), some (.int (nI i))] [] LAY K2) : AW l G (⟨RL, yn, "([I)Z"⟩ : MethodName) cL_law 4 (some FieldType.boolean) 155 mc ms Q mc ms 723 [some (.ref 200000), some (.ref 0), some (.ref 86), some (.int (nI i))] [] LAY K := by
  have hINV := hI
  obtain ⟨N, n, hh, T, S, Z, C, H, A, B, E, wt, L, hI⟩ := hI
  have hJ := hI.1.2.1
  have hn := hJ.1
  have hN := hJ.2.1
  have hR := hI.1.2.2.1
  have hK := hJ.2.2.2.2.1
  have hDo := hJ.2.2.2.2.2.1
  have hWt := hJ.2.2.2.2.2.2.1
  have hTx := hJ.2.2.2.2.2.2.2.1
  have hLw := hI.1.2.2.2
  have h87 := hI.1.1
  have hsil := hI.2.2.2.2.2.2.1
  have hSh := hI.2.2.1
  have hSl := hI.2.2.2.1
  refine A_aload_n rfl dL_law_723 ?_
  refine A_aload_n rfl dL_law_724 ?_
  refine A_iload_n rfl dL_law_725 ?_
  refine A_iconst ic_1 dL_law_726 ?_
  refine A_iadd dL_law_727 ?_
  refine A_scld (i + 1) (ixc i 1) (by omega) (by omega) dL_law_728 ?_
  refine A_aload_n rfl dL_law_729 ?_
  refine A_iload_n rfl dL_law_730 ?_
  refine A_iconst ic_2 dL_law_731 ?_
  refine A_iadd dL_law_732 ?_
  refine A_scld (i + 2) (ixc i 2) (by omega) (by omega) dL_law_733 ?_
  refine A_callV (c_advocate l G K N n hn hN hR T hK hTx hLw hDo _ _) m_X7_advocate ml_L_85 rfl lay_0 rfl (by decide) rfl rfl (Nat.le_of_ble_eq_true rfl) (by decide) (Nat.le_refl _) (Nat.le_refl _) dL_law_734 (fun _ _ _ hqq => congrArg List.length hqq.2.1) ?_
  rintro _ _ K1 ⟨rfl, rfl, hf1⟩
  have hI1 := hI.tho hf1
  have e87 := hI1.1.1
  have s1 := hI1.2.2.2.2.2.2.1
  have sh1 := hI1.2.2.1
  refine A_aload_n rfl dL_law_737 ?_
  refine A_aload_n rfl dL_law_738 ?_
  refine A_iload_n rfl dL_law_739 ?_
  refine A_iconst ic_1 dL_law_740 ?_
  refine A_iadd dL_law_741 ?_
  refine A_scld (i + 1) (ixc i 1) (by omega) (by omega) dL_law_742 ?_
  refine A_aload_n rfl dL_law_743 ?_
  refine A_iload_n rfl dL_law_744 ?_
  refine A_iconst ic_2 dL_law_745 ?_
  refine A_iadd dL_law_746 ?_
  refine A_scld (i + 2) (ixc i 2) (by omega) (by omega) dL_law_747 ?_
  refine A_callV (m_advocate l G K1 N e87 n hn hN T hTx s1 _ _) m_X8_advocate ml_L_88 rfl lay_86 rfl (by decide) rfl rfl (Nat.le_of_ble_eq_true rfl) (by decide) (Nat.le_refl _) (Nat.le_refl _) dL_law_748 (fun _ _ _ hqq => congrArg List.length hqq.2.1) ?_
  rintro _ _ K2 ⟨rfl, rfl, hf2⟩
  have hI2 := hI1.m2 hf2
  exact A_icmp_eq 1415 rfl dL_law_751 (fun _ => hgo _ (⟨_, _, _, _, _, _, _, _, _, _, _, _, _, hI2⟩)) (fun cq => absurd (rfl) cq)
set_option maxHeartbeats 1000000 in
set_option maxRecDepth 100000 in
theorem lw_tipped (l : Launch) (G : Gm) (yn : String) (mc ms i : Nat) (Q : Pst) (hi : i + 6 ≤ g_sl G) (hb : g_sl G ≤ 3072) (K : Hp) (hI : INV K) (hgo : ∀ K2, INV K2 → AW l G (⟨RL, yn, "([I)Z"⟩ : MethodName) cL_law 4 (some FieldType.boolean) 155 mc ms Q mc ms 1415 [some (.ref 200000), some (.ref 0), some (.ref 86), some (.int (nI i))] [] LAY K2) : AW l G (⟨RL, yn, "([I)Z"⟩ : MethodName) cL_law 4 (some FieldType.boolean) 155 mc ms Q mc ms 756 [some (.ref 200000), some (.ref 0), some (.ref 86), some (.int (nI i))] [] LAY K := by
  have hINV := hI
  obtain ⟨N, n, hh, T, S, Z, C, H, A, B, E, wt, L, hI⟩ := hI
  have hJ := hI.1.2.1
  have hn := hJ.1
  have hN := hJ.2.1
  have hR := hI.1.2.2.1
  have hK := hJ.2.2.2.2.1
  have hDo := hJ.2.2.2.2.2.1
  have hWt := hJ.2.2.2.2.2.2.1
  have hTx := hJ.2.2.2.2.2.2.2.1
  have hLw := hI.1.2.2.2
  have h87 := hI.1.1
  have hsil := hI.2.2.2.2.2.2.1
  have hSh := hI.2.2.1
  have hSl := hI.2.2.2.1
  refine A_aload_n rfl dL_law_756 ?_
  refine A_aload_n rfl dL_law_757 ?_
  refine A_iload_n rfl dL_law_758 ?_
  refine A_iconst ic_1 dL_law_759 ?_
  refine A_iadd dL_law_760 ?_
  refine A_scld (i + 1) (ixc i 1) (by omega) (by omega) dL_law_761 ?_
  refine A_callV (c_tipped l G K N n hn hN hR T hK hTx hLw hDo _) m_X7_tipped ml_L_89 rfl lay_0 rfl (by decide) rfl rfl (Nat.le_of_ble_eq_true rfl) (by decide) (Nat.le_refl _) (Nat.le_refl _) dL_law_762 (fun _ _ _ hqq => congrArg List.length hqq.2.1) ?_
  rintro _ _ K1 ⟨rfl, rfl, hf1⟩
  have hI1 := hI.tho hf1
  have e87 := hI1.1.1
  have s1 := hI1.2.2.2.2.2.2.1
  have sh1 := hI1.2.2.1
  refine A_aload_n rfl dL_law_765 ?_
  refine A_aload_n rfl dL_law_766 ?_
  refine A_iload_n rfl dL_law_767 ?_
  refine A_iconst ic_1 dL_law_768 ?_
  refine A_iadd dL_law_769 ?_
  refine A_scld (i + 1) (ixc i 1) (by omega) (by omega) dL_law_770 ?_
  refine A_callV (m_tipped l G K1 N e87 n hn hN T hTx s1 _) m_X8_tipped ml_L_92 rfl lay_86 rfl (by decide) rfl rfl (Nat.le_of_ble_eq_true rfl) (by decide) (Nat.le_refl _) (Nat.le_refl _) dL_law_771 (fun _ _ _ hqq => congrArg List.length hqq.2.1) ?_
  rintro _ _ K2 ⟨rfl, rfl, hf2⟩
  have hI2 := hI1.m2 hf2
  exact A_icmp_eq 1415 rfl dL_law_774 (fun _ => hgo _ (⟨_, _, _, _, _, _, _, _, _, _, _, _, _, hI2⟩)) (fun cq => absurd (rfl) cq)
set_option maxHeartbeats 1000000 in
set_option maxRecDepth 100000 in
theorem lw_weighed (l : Launch) (G : Gm) (yn : String) (mc ms i : Nat) (Q : Pst) (hi : i + 6 ≤ g_sl G) (hb : g_sl G ≤ 3072) (K : Hp) (hI : INV K) (hgo : ∀ K2, INV K2 → AW l G (⟨RL, yn, "([I)Z"⟩ : MethodName) cL_law 4 (some FieldType.boolean) 155 mc ms Q mc ms 1415 [some (.ref 200000), some (.ref 0), some (.ref 86), some (.int (nI i))] [] LAY K2) : AW l G (⟨RL, yn, "([I)Z"⟩ : MethodName) cL_law 4 (some FieldType.boolean) 155 mc ms Q mc ms 779 [some (.ref 200000), some (.ref 0), some (.ref 86), some (.int (nI i))] [] LAY K := by
  have hINV := hI
  obtain ⟨N, n, hh, T, S, Z, C, H, A, B, E, wt, L, hI⟩ := hI
  have hJ := hI.1.2.1
  have hn := hJ.1
  have hN := hJ.2.1
  have hR := hI.1.2.2.1
  have hK := hJ.2.2.2.2.1
  have hDo := hJ.2.2.2.2.2.1
  have hWt := hJ.2.2.2.2.2.2.1
  have hTx := hJ.2.2.2.2.2.2.2.1
  have hLw := hI.1.2.2.2
  have h87 := hI.1.1
  have hsil := hI.2.2.2.2.2.2.1
  have hSh := hI.2.2.1
  have hSl := hI.2.2.2.1
  refine A_aload_n rfl dL_law_779 ?_
  refine A_aload_n rfl dL_law_780 ?_
  refine A_iload_n rfl dL_law_781 ?_
  refine A_iconst ic_1 dL_law_782 ?_
  refine A_iadd dL_law_783 ?_
  refine A_scld (i + 1) (ixc i 1) (by omega) (by omega) dL_law_784 ?_
  refine A_aload_n rfl dL_law_785 ?_
  refine A_iload_n rfl dL_law_786 ?_
  refine A_iconst ic_2 dL_law_787 ?_
  refine A_iadd dL_law_788 ?_
  refine A_scld (i + 2) (ixc i 2) (by omega) (by omega) dL_law_789 ?_
  refine A_callV (c_weighed l G K N n hn hN hR T hK hTx hLw hDo S Z C hSh.1 hSh.2.2 _ _) m_X7_weighed ml_L_93 rfl lay_0 rfl (by decide) rfl rfl (Nat.le_of_ble_eq_true rfl) (by decide) (Nat.le_refl _) (Nat.le_refl _) dL_law_790 (fun _ _ _ hqq => congrArg List.length hqq.2.1) ?_
  rintro _ _ K1 ⟨rfl, rfl, hf1⟩
  have hI1 := hI.tho hf1
  have e87 := hI1.1.1
  have s1 := hI1.2.2.2.2.2.2.1
  have sh1 := hI1.2.2.1
  refine A_aload_n rfl dL_law_793 ?_
  refine A_aload_n rfl dL_law_794 ?_
  refine A_iload_n rfl dL_law_795 ?_
  refine A_iconst ic_1 dL_law_796 ?_
  refine A_iadd dL_law_797 ?_
  refine A_scld (i + 1) (ixc i 1) (by omega) (by omega) dL_law_798 ?_
  refine A_aload_n rfl dL_law_799 ?_
  refine A_iload_n rfl dL_law_800 ?_
  refine A_iconst ic_2 dL_law_801 ?_
  refine A_iadd dL_law_802 ?_
  refine A_scld (i + 2) (ixc i 2) (by omega) (by omega) dL_law_803 ?_
  refine A_callV (m_weighed l G K1 N e87 n hn hN T hTx hDo hWt S Z C sh1.2.1 hSh.2.2 _ _) m_X8_weighed ml_L_96 rfl lay_86 rfl (by decide) rfl rfl (Nat.le_of_ble_eq_true rfl) (by decide) (Nat.le_refl _) (Nat.le_refl _) dL_law_804 (fun _ _ _ hqq => congrArg List.length hqq.2.1) ?_
  rintro _ _ K2 ⟨rfl, rfl, hf2⟩
  have hI2 := hI1.m1 hf2
  exact A_icmp_eq 1415 rfl dL_law_807 (fun _ => hgo _ (⟨_, _, _, _, _, _, _, _, _, _, _, _, _, hI2⟩)) (fun cq => absurd (rfl) cq)
set_option maxHeartbeats 1000000 in
set_option maxRecDepth 100000 in
theorem lw_fee (l : Launch) (G : Gm) (yn : String) (mc ms i : Nat) (Q : Pst) (hi : i + 6 ≤ g_sl G) (hb : g_sl G ≤ 3072) (K : Hp) (hI : INV K) (hgo : ∀ K2, INV K2 → AW l G (⟨RL, yn, "([I)Z"⟩ : MethodName) cL_law 4 (some FieldType.boolean) 155 mc ms Q mc ms 1415 [some (.ref 200000), some (.ref 0), some (.ref 86), some (.int (nI i))] [] LAY K2) : AW l G (⟨RL, yn, "([I)Z"⟩ : MethodName) cL_law 4 (some FieldType.boolean) 155 mc ms Q mc ms 812 [some (.ref 200000), some (.ref 0), some (.ref 86), some (.int (nI i))] [] LAY K := by
  have hINV := hI
  obtain ⟨N, n, hh, T, S, Z, C, H, A, B, E, wt, L, hI⟩ := hI
  have hJ := hI.1.2.1
  have hn := hJ.1
  have hN := hJ.2.1
  have hR := hI.1.2.2.1
  have hK := hJ.2.2.2.2.1
  have hDo := hJ.2.2.2.2.2.1
  have hWt := hJ.2.2.2.2.2.2.1
  have hTx := hJ.2.2.2.2.2.2.2.1
  have hLw := hI.1.2.2.2
  have h87 := hI.1.1
  have hsil := hI.2.2.2.2.2.2.1
  have hSh := hI.2.2.1
  have hSl := hI.2.2.2.1
  refine A_aload_n rfl dL_law_812 ?_
  refine A_callV (c_fee l G K N n hn hN hR T hK hTx hLw hDo ) m_X7_fee ml_L_97 rfl lay_0 rfl (by decide) rfl rfl (Nat.le_of_ble_eq_true rfl) (by decide) (Nat.le_refl _) (Nat.le_refl _) dL_law_813 (fun _ _ _ hqq => congrArg List.length hqq.2.1) ?_
  rintro _ _ K1 ⟨rfl, rfl, hf1⟩
  have hI1 := hI.st hf1
  have e87 := hI1.1.1
  have s1 := hI1.2.2.2.2.2.2.1
  have sh1 := hI1.2.2.1
  refine A_aload_n rfl dL_law_816 ?_
  refine A_callV (m_fee l G K1 N e87 n hn hN T hTx ) m_X8_fee ml_L_100 rfl lay_86 rfl (by decide) rfl rfl (Nat.le_of_ble_eq_true rfl) (by decide) (Nat.le_refl _) (Nat.le_refl _) dL_law_817 (fun _ _ _ hqq => congrArg List.length hqq.2.1) ?_
  rintro _ _ K2 ⟨rfl, rfl, hf2⟩
  have hI2 := hI1.m1 hf2
  exact A_icmp_eq 1415 rfl dL_law_820 (fun _ => hgo _ (⟨_, _, _, _, _, _, _, _, _, _, _, _, _, hI2⟩)) (fun cq => absurd (rfl) cq)
set_option maxHeartbeats 1000000 in
set_option maxRecDepth 100000 in
theorem lw_fine (l : Launch) (G : Gm) (yn : String) (mc ms i : Nat) (Q : Pst) (hi : i + 6 ≤ g_sl G) (hb : g_sl G ≤ 3072) (K : Hp) (hI : INV K) (hgo : ∀ K2, INV K2 → AW l G (⟨RL, yn, "([I)Z"⟩ : MethodName) cL_law 4 (some FieldType.boolean) 155 mc ms Q mc ms 1415 [some (.ref 200000), some (.ref 0), some (.ref 86), some (.int (nI i))] [] LAY K2) : AW l G (⟨RL, yn, "([I)Z"⟩ : MethodName) cL_law 4 (some FieldType.boolean) 155 mc ms Q mc ms 825 [some (.ref 200000), some (.ref 0), some (.ref 86), some (.int (nI i))] [] LAY K := by
  have hINV := hI
  obtain ⟨N, n, hh, T, S, Z, C, H, A, B, E, wt, L, hI⟩ := hI
  have hJ := hI.1.2.1
  have hn := hJ.1
  have hN := hJ.2.1
  have hR := hI.1.2.2.1
  have hK := hJ.2.2.2.2.1
  have hDo := hJ.2.2.2.2.2.1
  have hWt := hJ.2.2.2.2.2.2.1
  have hTx := hJ.2.2.2.2.2.2.2.1
  have hLw := hI.1.2.2.2
  have h87 := hI.1.1
  have hsil := hI.2.2.2.2.2.2.1
  have hSh := hI.2.2.1
  have hSl := hI.2.2.2.1
  refine A_aload_n rfl dL_law_825 ?_
  refine A_aload_n rfl dL_law_826 ?_
  refine A_iload_n rfl dL_law_827 ?_
  refine A_iconst ic_1 dL_law_828 ?_
  refine A_iadd dL_law_829 ?_
  refine A_scld (i + 1) (ixc i 1) (by omega) (by omega) dL_law_830 ?_
  refine A_callV (c_fine l G K N n hn hN hR T hK hTx hLw hDo _) m_X7_fine ml_L_101 rfl lay_0 rfl (by decide) rfl rfl (Nat.le_of_ble_eq_true rfl) (by decide) (Nat.le_refl _) (Nat.le_refl _) dL_law_831 (fun _ _ _ hqq => congrArg List.length hqq.2.1) ?_
  rintro _ _ K1 ⟨rfl, rfl, hf1⟩
  have hI1 := hI.st hf1
  have e87 := hI1.1.1
  have s1 := hI1.2.2.2.2.2.2.1
  have sh1 := hI1.2.2.1
  refine A_aload_n rfl dL_law_834 ?_
  refine A_aload_n rfl dL_law_835 ?_
  refine A_iload_n rfl dL_law_836 ?_
  refine A_iconst ic_1 dL_law_837 ?_
  refine A_iadd dL_law_838 ?_
  refine A_scld (i + 1) (ixc i 1) (by omega) (by omega) dL_law_839 ?_
  refine A_callV (m_fine l G K1 N e87 n hn hN T hTx _) m_X8_fine ml_L_104 rfl lay_86 rfl (by decide) rfl rfl (Nat.le_of_ble_eq_true rfl) (by decide) (Nat.le_refl _) (Nat.le_refl _) dL_law_840 (fun _ _ _ hqq => congrArg List.length hqq.2.1) ?_
  rintro _ _ K2 ⟨rfl, rfl, hf2⟩
  have hI2 := hI1.m1 hf2
  exact A_icmp_eq 1415 rfl dL_law_843 (fun _ => hgo _ (⟨_, _, _, _, _, _, _, _, _, _, _, _, _, hI2⟩)) (fun cq => absurd (rfl) cq)
set_option maxHeartbeats 1000000 in
set_option maxRecDepth 100000 in
theorem lw_feed (l : Launch) (G : Gm) (yn : String) (mc ms i : Nat) (Q : Pst) (hi : i + 6 ≤ g_sl G) (hb : g_sl G ≤ 3072) (K : Hp) (hI : INV K) (hgo : ∀ K2, INV K2 → AW l G (⟨RL, yn, "([I)Z"⟩ : MethodName) cL_law 4 (some FieldType.boolean) 155 mc ms Q mc ms 1415 [some (.ref 200000), some (.ref 0), some (.ref 86), some (.int (nI i))] [] LAY K2) : AW l G (⟨RL, yn, "([I)Z"⟩ : MethodName) cL_law 4 (some FieldType.boolean) 155 mc ms Q mc ms 848 [some (.ref 200000), some (.ref 0), some (.ref 86), some (.int (nI i))] [] LAY K := by
  have hINV := hI
  obtain ⟨N, n, hh, T, S, Z, C, H, A, B, E, wt, L, hI⟩ := hI
  have hJ := hI.1.2.1
  have hn := hJ.1
  have hN := hJ.2.1
  have hR := hI.1.2.2.1
  have hK := hJ.2.2.2.2.1
  have hDo := hJ.2.2.2.2.2.1
  have hWt := hJ.2.2.2.2.2.2.1
  have hTx := hJ.2.2.2.2.2.2.2.1
  have hLw := hI.1.2.2.2
  have h87 := hI.1.1
  have hsil := hI.2.2.2.2.2.2.1
  have hSh := hI.2.2.1
  have hSl := hI.2.2.2.1
  have h6 := hI.2.2.2.2.2.1
  refine A_aload_n rfl dL_law_848 ?_
  refine A_aload_n rfl dL_law_849 ?_
  refine A_iload_n rfl dL_law_850 ?_
  refine A_iconst ic_1 dL_law_851 ?_
  refine A_iadd dL_law_852 ?_
  refine A_scld (i + 1) (ixc i 1) (by omega) (by omega) dL_law_853 ?_
  refine A_aload_n rfl dL_law_854 ?_
  refine A_iload_n rfl dL_law_855 ?_
  refine A_iconst ic_2 dL_law_856 ?_
  refine A_iadd dL_law_857 ?_
  refine A_scld (i + 2) (ixc i 2) (by omega) (by omega) dL_law_858 ?_
  refine A_aload_n rfl dL_law_859 ?_
  refine A_iload_n rfl dL_law_860 ?_
  refine A_iconst ic_3 dL_law_861 ?_
  refine A_iadd dL_law_862 ?_
  refine A_scld (i + 3) (ixc i 3) (by omega) (by omega) dL_law_863 ?_
  refine A_callV (c_feed l G K L h6.2.2.2.1 h6.1 _ _ _) m_X7_feed ml_L_105 rfl lay_0 rfl (by decide) rfl rfl (Nat.le_of_ble_eq_true rfl) (by decide) (Nat.le_refl _) (Nat.le_refl _) dL_law_864 (fun _ _ _ hqq => congrArg List.length hqq.2.1) ?_
  rintro _ _ K1 ⟨rfl, rfl, u1, v1⟩
  have w1 : K1 86 7 = nI L := by
    by_cases hl : 84 < L
    · rw [u1 hl]; exact h6.2.1
    · rw [(v1 hl).2.2.2 86 (by decide) (by decide)]; exact h6.2.1
  refine A_aload_n rfl dL_law_867 ?_
  refine A_aload_n rfl dL_law_868 ?_
  refine A_iload_n rfl dL_law_869 ?_
  refine A_iconst ic_1 dL_law_870 ?_
  refine A_iadd dL_law_871 ?_
  refine A_scld (i + 1) (ixc i 1) (by omega) (by omega) dL_law_872 ?_
  refine A_aload_n rfl dL_law_873 ?_
  refine A_iload_n rfl dL_law_874 ?_
  refine A_iconst ic_2 dL_law_875 ?_
  refine A_iadd dL_law_876 ?_
  refine A_scld (i + 2) (ixc i 2) (by omega) (by omega) dL_law_877 ?_
  refine A_aload_n rfl dL_law_878 ?_
  refine A_iload_n rfl dL_law_879 ?_
  refine A_iconst ic_3 dL_law_880 ?_
  refine A_iadd dL_law_881 ?_
  refine A_scld (i + 3) (ixc i 3) (by omega) (by omega) dL_law_882 ?_
  refine A_callV (m_feed l G K1 L h6.2.2.2.1 w1 _ _ _) m_X8_feed ml_L_108 rfl lay_86 rfl (by decide) rfl rfl (Nat.le_of_ble_eq_true rfl) (by decide) (Nat.le_refl _) (Nat.le_refl _) dL_law_883 (fun _ _ _ hqq => congrArg List.length hqq.2.1) ?_
  rintro _ _ K2 ⟨rfl, rfl, u2, v2⟩
  have hfin : INV K2 := by
    by_cases hl : 84 < L
    · rw [u2 hl, u1 hl]; exact hINV
    · exact hI.feed hl (v1 hl).1 (v1 hl).2.1 (v1 hl).2.2.2 (v2 hl).1 (v2 hl).2.1 (v2 hl).2.2.1 (v2 hl).2.2.2
  exact A_icmp_eq 1415 rfl dL_law_886 (fun _ => hgo _ (hfin)) (fun cq => absurd (rfl) cq)
set_option maxHeartbeats 1000000 in
set_option maxRecDepth 100000 in
theorem lw_trim (l : Launch) (G : Gm) (yn : String) (mc ms i : Nat) (Q : Pst) (hi : i + 6 ≤ g_sl G) (hb : g_sl G ≤ 3072) (K : Hp) (hI : INV K) (hgo : ∀ K2, INV K2 → AW l G (⟨RL, yn, "([I)Z"⟩ : MethodName) cL_law 4 (some FieldType.boolean) 155 mc ms Q mc ms 1415 [some (.ref 200000), some (.ref 0), some (.ref 86), some (.int (nI i))] [] LAY K2) : AW l G (⟨RL, yn, "([I)Z"⟩ : MethodName) cL_law 4 (some FieldType.boolean) 155 mc ms Q mc ms 891 [some (.ref 200000), some (.ref 0), some (.ref 86), some (.int (nI i))] [] LAY K := by
  have hINV := hI
  obtain ⟨N, n, hh, T, S, Z, C, H, A, B, E, wt, L, hI⟩ := hI
  have hJ := hI.1.2.1
  have hn := hJ.1
  have hN := hJ.2.1
  have hR := hI.1.2.2.1
  have hK := hJ.2.2.2.2.1
  have hDo := hJ.2.2.2.2.2.1
  have hWt := hJ.2.2.2.2.2.2.1
  have hTx := hJ.2.2.2.2.2.2.2.1
  have hLw := hI.1.2.2.2
  have h87 := hI.1.1
  have hsil := hI.2.2.2.2.2.2.1
  have hSh := hI.2.2.1
  have hSl := hI.2.2.2.1
  refine A_aload_n rfl dL_law_891 ?_
  refine A_aload_n rfl dL_law_892 ?_
  refine A_iload_n rfl dL_law_893 ?_
  refine A_iconst ic_1 dL_law_894 ?_
  refine A_iadd dL_law_895 ?_
  refine A_scld (i + 1) (ixc i 1) (by omega) (by omega) dL_law_896 ?_
  refine A_callV (c_trim l G K _) m_X7_trim ml_L_109 rfl lay_0 rfl (by decide) rfl rfl (Nat.le_of_ble_eq_true rfl) (by decide) (Nat.le_refl _) (Nat.le_refl _) dL_law_897 (fun _ _ _ hqq => congrArg List.length hqq.2.1) ?_
  rintro _ _ K1 ⟨rfl, rfl, e1⟩
  refine A_aload_n rfl dL_law_900 ?_
  refine A_aload_n rfl dL_law_901 ?_
  refine A_iload_n rfl dL_law_902 ?_
  refine A_iconst ic_1 dL_law_903 ?_
  refine A_iadd dL_law_904 ?_
  refine A_scld (i + 1) (ixc i 1) (by omega) (by omega) dL_law_905 ?_
  refine A_callV (m_trim l G K1 _) m_X8_trim ml_L_112 rfl lay_86 rfl (by decide) rfl rfl (Nat.le_of_ble_eq_true rfl) (by decide) (Nat.le_refl _) (Nat.le_refl _) dL_law_906 (fun _ _ _ hqq => congrArg List.length hqq.2.1) ?_
  rintro _ _ K2 ⟨rfl, rfl, e2⟩
  exact A_icmp_eq 1415 rfl dL_law_909 (fun _ => hgo _ (hI.trim e1 e2)) (fun cq => absurd (by rw [e1, up2_ne (show (86 : Nat) ≠ 32 by decide), hI.2.2.2.2.2.1.1, hI.2.2.2.2.2.1.2.1]) cq)
set_option maxHeartbeats 1000000 in
set_option maxRecDepth 100000 in
theorem lw_text (l : Launch) (G : Gm) (yn : String) (mc ms i : Nat) (Q : Pst) (hi : i + 6 ≤ g_sl G) (hb : g_sl G ≤ 3072) (K : Hp) (hI : INV K) (hgo : ∀ K2, INV K2 → AW l G (⟨RL, yn, "([I)Z"⟩ : MethodName) cL_law 4 (some FieldType.boolean) 155 mc ms Q mc ms 1415 [some (.ref 200000), some (.ref 0), some (.ref 86), some (.int (nI i))] [] LAY K2) : AW l G (⟨RL, yn, "([I)Z"⟩ : MethodName) cL_law 4 (some FieldType.boolean) 155 mc ms Q mc ms 914 [some (.ref 200000), some (.ref 0), some (.ref 86), some (.int (nI i))] [] LAY K := by
  have hINV := hI
  obtain ⟨N, n, hh, T, S, Z, C, H, A, B, E, wt, L, hI⟩ := hI
  have hJ := hI.1.2.1
  have hn := hJ.1
  have hN := hJ.2.1
  have hR := hI.1.2.2.1
  have hK := hJ.2.2.2.2.1
  have hDo := hJ.2.2.2.2.2.1
  have hWt := hJ.2.2.2.2.2.2.1
  have hTx := hJ.2.2.2.2.2.2.2.1
  have hLw := hI.1.2.2.2
  have h87 := hI.1.1
  have hsil := hI.2.2.2.2.2.2.1
  have hSh := hI.2.2.1
  have hSl := hI.2.2.2.1
  have h6 := hI.2.2.2.2.2.1
  refine A_aload_n rfl dL_law_914 ?_
  refine A_callV (c_text l G K N n hn hN hR T hTx (K 33) L ⟨h6.1, fun _ _ => rfl, h6.2.2.2⟩) m_X7_text ml_L_113 rfl lay_0 rfl (by decide) rfl rfl (Nat.le_of_ble_eq_true rfl) (by decide) (Nat.le_refl _) (Nat.le_refl _) dL_law_915 (fun _ _ _ ⟨_, _, hqq, _⟩ => congrArg List.length hqq) ?_
  rintro _ _ K1 ⟨x, rfl, rfl, h0, hres⟩
  have f1 : ∀ q, 44 ≤ q → K1 q = K q := fun q hq => by
    rcases hres with ⟨f, -, -, hfr⟩ | ⟨key, D, -, ⟨-, -, hfr⟩ | ⟨hT, -, -, -, hfr⟩⟩
    · exact hfr q (by omega) (by omega) (by omega)
    · exact hfr q (by omega) (by omega) (by omega)
    · exact hfr q (by omega) (by omega) (by omega) (by omega) (by omega) (by omega) (by omega)
  have hout : (∀ j, j ≤ 2 → ¬ lx_wd (K 33) (tk0 (K 33) L) j) ∨ ∃ key n0 r0, KyW (K 33) L key ∧ m_run (K 33) L key n0 (lx_nx (K 33) L (tk0 (K 33) L)) true [] [] 0 (fun _ => false) = some r0 ∧ (r0.1 = true → r0.2.2.length ≤ 96) := by
    rcases hres with ⟨f, hfa, -⟩ | ⟨key, D, hok, -⟩
    · rcases hfa.2 with ⟨-, hno⟩ | ⟨key, c, hky, ⟨n0, hrun⟩⟩
      · exact Or.inl hno
      · exact Or.inr ⟨key, n0, _, hky, hrun, fun q => (by cases q)⟩
    · obtain ⟨f, ⟨n0, hrun⟩⟩ := hok.2.1
      exact Or.inr ⟨key, n0, _, hok.1, hrun, fun _ => hok.2.2.2.2⟩
  refine A_aload_n rfl dL_law_918 ?_
  refine A_callV (m_text l G K1 T (by rw [f1 87 (by decide), h87]; exact hTx) (K 33) L ⟨by rw [f1 86 (by decide)]; exact h6.2.1, fun k _ => by rw [f1 91 (by decide), h6.2.2.1], h6.2.2.2⟩ (by unfold KyM; rw [f1 92 (by decide), f1 93 (by decide)]; exact hI.2.2.2.2.2.2.2) hout) m_X8_text ml_L_116 rfl lay_86 rfl (by decide) rfl rfl (Nat.le_of_ble_eq_true rfl) (by decide) (Nat.le_refl _) (Nat.le_refl _) dL_law_919 (fun _ _ _ ⟨_, _, hqq, _⟩ => congrArg List.length hqq) ?_
  rintro _ _ K2 ⟨y, rfl, rfl, k0, k1, hmr⟩
  have hfin := hI.text h0 hres k0 k1 hmr
  exact A_icmp_eq 1415 rfl dL_law_922 (fun _ => hgo _ (hfin.2)) (fun cq => absurd (hfin.1) cq)
set_option maxHeartbeats 1000000 in
set_option maxRecDepth 100000 in
theorem lw_textTold (l : Launch) (G : Gm) (yn : String) (mc ms i : Nat) (Q : Pst) (hi : i + 6 ≤ g_sl G) (hb : g_sl G ≤ 3072) (K : Hp) (hI : INV K) (hgo : ∀ K2, INV K2 → AW l G (⟨RL, yn, "([I)Z"⟩ : MethodName) cL_law 4 (some FieldType.boolean) 155 mc ms Q mc ms 1415 [some (.ref 200000), some (.ref 0), some (.ref 86), some (.int (nI i))] [] LAY K2) : AW l G (⟨RL, yn, "([I)Z"⟩ : MethodName) cL_law 4 (some FieldType.boolean) 155 mc ms Q mc ms 927 [some (.ref 200000), some (.ref 0), some (.ref 86), some (.int (nI i))] [] LAY K := by
  have hINV := hI
  obtain ⟨N, n, hh, T, S, Z, C, H, A, B, E, wt, L, hI⟩ := hI
  have hJ := hI.1.2.1
  have hn := hJ.1
  have hN := hJ.2.1
  have hR := hI.1.2.2.1
  have hK := hJ.2.2.2.2.1
  have hDo := hJ.2.2.2.2.2.1
  have hWt := hJ.2.2.2.2.2.2.1
  have hTx := hJ.2.2.2.2.2.2.2.1
  have hLw := hI.1.2.2.2
  have h87 := hI.1.1
  have hsil := hI.2.2.2.2.2.2.1
  have hSh := hI.2.2.1
  have hSl := hI.2.2.2.1
  refine A_aload_n rfl dL_law_927 ?_
  refine A_aload_n rfl dL_law_928 ?_
  refine A_iload_n rfl dL_law_929 ?_
  refine A_iconst ic_1 dL_law_930 ?_
  refine A_iadd dL_law_931 ?_
  refine A_scld (i + 1) (ixc i 1) (by omega) (by omega) dL_law_932 ?_
  refine A_aload_n rfl dL_law_933 ?_
  refine A_iload_n rfl dL_law_934 ?_
  refine A_iconst ic_2 dL_law_935 ?_
  refine A_iadd dL_law_936 ?_
  refine A_scld (i + 2) (ixc i 2) (by omega) (by omega) dL_law_937 ?_
  refine A_callV (c_textTold l G K N n hn hN hR T hK hTx hLw hDo _ _) m_X7_textTold ml_L_117 rfl lay_0 rfl (by decide) rfl rfl (Nat.le_of_ble_eq_true rfl) (by decide) (Nat.le_refl _) (Nat.le_refl _) dL_law_938 (fun _ _ _ hqq => congrArg List.length hqq.2.1) ?_
  rintro _ _ _ ⟨rfl, rfl, e9⟩
  refine AW_I e9 ?_
  clear e9
  refine A_aload_n rfl dL_law_941 ?_
  refine A_aload_n rfl dL_law_942 ?_
  refine A_iload_n rfl dL_law_943 ?_
  refine A_iconst ic_1 dL_law_944 ?_
  refine A_iadd dL_law_945 ?_
  refine A_scld (i + 1) (ixc i 1) (by omega) (by omega) dL_law_946 ?_
  refine A_aload_n rfl dL_law_947 ?_
  refine A_iload_n rfl dL_law_948 ?_
  refine A_iconst ic_2 dL_law_949 ?_
  refine A_iadd dL_law_950 ?_
  refine A_scld (i + 2) (ixc i 2) (by omega) (by omega) dL_law_951 ?_
  refine A_callV (m_textTold l G K N h87 n hn hN T hTx _ _) m_X8_textTold ml_L_120 rfl lay_86 rfl (by decide) rfl rfl (Nat.le_of_ble_eq_true rfl) (by decide) (Nat.le_refl _) (Nat.le_refl _) dL_law_952 (fun _ _ _ hqq => congrArg List.length hqq.2.1) ?_
  rintro _ _ _ ⟨rfl, rfl, e9⟩
  refine AW_I e9 ?_
  clear e9
  exact A_icmp_eq 1415 rfl dL_law_955 (fun _ => hgo _ (hINV)) (fun cq => absurd (rfl) cq)
set_option maxHeartbeats 1000000 in
set_option maxRecDepth 100000 in
theorem lw_why (l : Launch) (G : Gm) (yn : String) (mc ms i : Nat) (Q : Pst) (hi : i + 6 ≤ g_sl G) (hb : g_sl G ≤ 3072) (K : Hp) (hI : INV K) (hgo : ∀ K2, INV K2 → AW l G (⟨RL, yn, "([I)Z"⟩ : MethodName) cL_law 4 (some FieldType.boolean) 155 mc ms Q mc ms 1415 [some (.ref 200000), some (.ref 0), some (.ref 86), some (.int (nI i))] [] LAY K2) : AW l G (⟨RL, yn, "([I)Z"⟩ : MethodName) cL_law 4 (some FieldType.boolean) 155 mc ms Q mc ms 960 [some (.ref 200000), some (.ref 0), some (.ref 86), some (.int (nI i))] [] LAY K := by
  have hINV := hI
  obtain ⟨N, n, hh, T, S, Z, C, H, A, B, E, wt, L, hI⟩ := hI
  have hJ := hI.1.2.1
  have hn := hJ.1
  have hN := hJ.2.1
  have hR := hI.1.2.2.1
  have hK := hJ.2.2.2.2.1
  have hDo := hJ.2.2.2.2.2.1
  have hWt := hJ.2.2.2.2.2.2.1
  have hTx := hJ.2.2.2.2.2.2.2.1
  have hLw := hI.1.2.2.2
  have h87 := hI.1.1
  have hsil := hI.2.2.2.2.2.2.1
  have hSh := hI.2.2.1
  have hSl := hI.2.2.2.1
  refine A_aload_n rfl dL_law_960 ?_
  refine A_aload_n rfl dL_law_961 ?_
  refine A_iload_n rfl dL_law_962 ?_
  refine A_iconst ic_1 dL_law_963 ?_
  refine A_iadd dL_law_964 ?_
  refine A_scld (i + 1) (ixc i 1) (by omega) (by omega) dL_law_965 ?_
  refine A_callV (c_why l G K N n hn hN hR _) m_X7_why ml_L_121 rfl lay_0 rfl (by decide) rfl rfl (Nat.le_of_ble_eq_true rfl) (by decide) (Nat.le_refl _) (Nat.le_refl _) dL_law_966 (fun _ _ _ hqq => congrArg List.length hqq.2.1) ?_
  rintro _ _ _ ⟨rfl, rfl, e9⟩
  refine AW_I e9 ?_
  clear e9
  refine A_aload_n rfl dL_law_969 ?_
  refine A_aload_n rfl dL_law_970 ?_
  refine A_iload_n rfl dL_law_971 ?_
  refine A_iconst ic_1 dL_law_972 ?_
  refine A_iadd dL_law_973 ?_
  refine A_scld (i + 1) (ixc i 1) (by omega) (by omega) dL_law_974 ?_
  refine A_callV (m_why l G K N h87 n hn hN T hTx _) m_X8_why ml_L_124 rfl lay_86 rfl (by decide) rfl rfl (Nat.le_of_ble_eq_true rfl) (by decide) (Nat.le_refl _) (Nat.le_refl _) dL_law_975 (fun _ _ _ hqq => congrArg List.length hqq.2.1) ?_
  rintro _ _ _ ⟨rfl, rfl, e9⟩
  refine AW_I e9 ?_
  clear e9
  exact A_icmp_eq 1415 rfl dL_law_978 (fun _ => hgo _ (hINV)) (fun cq => absurd (rfl) cq)
set_option maxHeartbeats 1000000 in
set_option maxRecDepth 100000 in
theorem lw_sheet (l : Launch) (G : Gm) (yn : String) (mc ms i : Nat) (Q : Pst) (hi : i + 6 ≤ g_sl G) (hb : g_sl G ≤ 3072) (K : Hp) (hI : INV K) (hgo : ∀ K2, INV K2 → AW l G (⟨RL, yn, "([I)Z"⟩ : MethodName) cL_law 4 (some FieldType.boolean) 155 mc ms Q mc ms 1415 [some (.ref 200000), some (.ref 0), some (.ref 86), some (.int (nI i))] [] LAY K2) : AW l G (⟨RL, yn, "([I)Z"⟩ : MethodName) cL_law 4 (some FieldType.boolean) 155 mc ms Q mc ms 983 [some (.ref 200000), some (.ref 0), some (.ref 86), some (.int (nI i))] [] LAY K := by
  have hINV := hI
  obtain ⟨N, n, hh, T, S, Z, C, H, A, B, E, wt, L, hI⟩ := hI
  have hJ := hI.1.2.1
  have hn := hJ.1
  have hN := hJ.2.1
  have hR := hI.1.2.2.1
  have hK := hJ.2.2.2.2.1
  have hDo := hJ.2.2.2.2.2.1
  have hWt := hJ.2.2.2.2.2.2.1
  have hTx := hJ.2.2.2.2.2.2.2.1
  have hLw := hI.1.2.2.2
  have h87 := hI.1.1
  have hsil := hI.2.2.2.2.2.2.1
  have hSh := hI.2.2.1
  have hSl := hI.2.2.2.1
  refine A_aload_n rfl dL_law_983 ?_
  refine A_aload_n rfl dL_law_984 ?_
  refine A_iload_n rfl dL_law_985 ?_
  refine A_iconst ic_1 dL_law_986 ?_
  refine A_iadd dL_law_987 ?_
  refine A_scld (i + 1) (ixc i 1) (by omega) (by omega) dL_law_988 ?_
  refine A_aload_n rfl dL_law_989 ?_
  refine A_iload_n rfl dL_law_990 ?_
  refine A_iconst ic_2 dL_law_991 ?_
  refine A_iadd dL_law_992 ?_
  refine A_scld (i + 2) (ixc i 2) (by omega) (by omega) dL_law_993 ?_
  refine A_aload_n rfl dL_law_994 ?_
  refine A_iload_n rfl dL_law_995 ?_
  refine A_iconst ic_3 dL_law_996 ?_
  refine A_iadd dL_law_997 ?_
  refine A_scld (i + 3) (ixc i 3) (by omega) (by omega) dL_law_998 ?_
  refine A_callV (c_sheet l G K S Z C hSh.1 _ _ _) m_X7_sheet ml_L_125 rfl lay_0 rfl (by decide) rfl rfl (Nat.le_of_ble_eq_true rfl) (by decide) (Nat.le_refl _) (Nat.le_refl _) dL_law_999 (fun _ _ _ hqq => congrArg List.length hqq.2.1) ?_
  rintro _ _ K1 ⟨rfl, rfl, hf1, hS1⟩
  have sm1 : ShM K1 S Z C := by unfold ShM; rw [hf1 99 (by decide), hf1 100 (by decide), hf1 101 (by decide)]; exact hSh.2.1
  refine A_aload_n rfl dL_law_1002 ?_
  refine A_aload_n rfl dL_law_1003 ?_
  refine A_iload_n rfl dL_law_1004 ?_
  refine A_iconst ic_1 dL_law_1005 ?_
  refine A_iadd dL_law_1006 ?_
  refine A_scld (i + 1) (ixc i 1) (by omega) (by omega) dL_law_1007 ?_
  refine A_aload_n rfl dL_law_1008 ?_
  refine A_iload_n rfl dL_law_1009 ?_
  refine A_iconst ic_2 dL_law_1010 ?_
  refine A_iadd dL_law_1011 ?_
  refine A_scld (i + 2) (ixc i 2) (by omega) (by omega) dL_law_1012 ?_
  refine A_aload_n rfl dL_law_1013 ?_
  refine A_iload_n rfl dL_law_1014 ?_
  refine A_iconst ic_3 dL_law_1015 ?_
  refine A_iadd dL_law_1016 ?_
  refine A_scld (i + 3) (ixc i 3) (by omega) (by omega) dL_law_1017 ?_
  refine A_callV (m_sheet l G K1 S Z C sm1 _ _ _) m_X8_sheet ml_L_128 rfl lay_86 rfl (by decide) rfl rfl (Nat.le_of_ble_eq_true rfl) (by decide) (Nat.le_refl _) (Nat.le_refl _) dL_law_1018 (fun _ _ _ hqq => congrArg List.length hqq.2.1) ?_
  rintro _ _ K2 ⟨rfl, rfl, hf2, hS2⟩
  exact A_icmp_eq 1415 rfl dL_law_1021 (fun _ => hgo _ (hI.sh hf1 hS1 (fun q hq => hf2 q ⟨hq.1, hq.2.1, hq.2.2.1⟩) hS2 (shw_sheet hSh.2.2 _ _ _))) (fun cq => absurd (rfl) cq)
