set_option maxHeartbeats 1000000 in
set_option maxRecDepth 100000 in
theorem lw_mark (l : Launch) (G : Gm) (yn : String) (mc ms i : Nat) (Q : Pst) (hi : i + 6 ≤ g_sl G) (hb : g_sl G ≤ 3072) (K : Hp) (hI : INV K) (hgo : ∀ K2, INV K2 → AW l G (⟨RL, yn, "([I)Z"⟩ : MethodName) cL_law 4 (some FieldType.boolean) 155 mc ms Q mc ms 1415 [some (.ref 200000), some (.ref 0), some (.ref 86), some (.int (nI i))] [] LAY K2) : AW l G (⟨RL, yn, "([I)Z"⟩ : MethodName) cL_law 4 (some FieldType.boolean) 155 mc ms Q mc ms 1026 [some (.ref 200000), some (.ref 0), some (.ref 86), some (.int (nI i))] [] LAY K := by
  have hINV := hI
  obtain ⟨N, n, hh, T, S, Z, C, H, A, B, E, wt, L, hI⟩ := hI
  have hJ := hI.1.2.1
  have hn := hJ.1
  have hN := hJ.2.1
  have hR := hI.1.2.2.1
  have hK := hJ.2.2.2.2.1
  have hDo := hJ.2.2.2.2.2.1
  have hWt := hJ.2.2.2.2.2.2.1
  have hTx := hJ.2.2.2.2.2.2.2.1
  have hLw := hI.1.2.2.2
  have h87 := hI.1.1
  have hsil := hI.2.2.2.2.2.2.1
  have hSh := hI.2.2.1
  have hSl := hI.2.2.2.1
  refine A_aload_n rfl dL_law_1026 ?_
  refine A_aload_n rfl dL_law_1027 ?_
  refine A_iload_n rfl dL_law_1028 ?_
  refine A_iconst ic_1 dL_law_1029 ?_
  refine A_iadd dL_law_1030 ?_
  refine A_scld (i + 1) (ixc i 1) (by omega) (by omega) dL_law_1031 ?_
  refine A_aload_n rfl dL_law_1032 ?_
  refine A_iload_n rfl dL_law_1033 ?_
  refine A_iconst ic_2 dL_law_1034 ?_
  refine A_iadd dL_law_1035 ?_
  refine A_scld (i + 2) (ixc i 2) (by omega) (by omega) dL_law_1036 ?_
  refine A_aload_n rfl dL_law_1037 ?_
  refine A_iload_n rfl dL_law_1038 ?_
  refine A_iconst ic_3 dL_law_1039 ?_
  refine A_iadd dL_law_1040 ?_
  refine A_scld (i + 3) (ixc i 3) (by omega) (by omega) dL_law_1041 ?_
  refine A_callV (c_mark l G K S Z C hSh.1 hSh.2.2 _ _ _) m_X7_mark ml_L_129 rfl lay_0 rfl (by decide) rfl rfl (Nat.le_of_ble_eq_true rfl) (by decide) (Nat.le_refl _) (Nat.le_refl _) dL_law_1042 (fun _ _ _ hqq => congrArg List.length hqq.2.1) ?_
  rintro _ _ K1 ⟨rfl, rfl, hf1, hS1⟩
  have sm1 : ShM K1 S Z C := by unfold ShM; rw [hf1 99 (by decide), hf1 100 (by decide), hf1 101 (by decide)]; exact hSh.2.1
  refine A_aload_n rfl dL_law_1045 ?_
  refine A_aload_n rfl dL_law_1046 ?_
  refine A_iload_n rfl dL_law_1047 ?_
  refine A_iconst ic_1 dL_law_1048 ?_
  refine A_iadd dL_law_1049 ?_
  refine A_scld (i + 1) (ixc i 1) (by omega) (by omega) dL_law_1050 ?_
  refine A_aload_n rfl dL_law_1051 ?_
  refine A_iload_n rfl dL_law_1052 ?_
  refine A_iconst ic_2 dL_law_1053 ?_
  refine A_iadd dL_law_1054 ?_
  refine A_scld (i + 2) (ixc i 2) (by omega) (by omega) dL_law_1055 ?_
  refine A_aload_n rfl dL_law_1056 ?_
  refine A_iload_n rfl dL_law_1057 ?_
  refine A_iconst ic_3 dL_law_1058 ?_
  refine A_iadd dL_law_1059 ?_
  refine A_scld (i + 3) (ixc i 3) (by omega) (by omega) dL_law_1060 ?_
  refine A_callV (m_mark l G K1 S Z C sm1 hSh.2.2 _ _ _) m_X8_mark ml_L_132 rfl lay_86 rfl (by decide) rfl rfl (Nat.le_of_ble_eq_true rfl) (by decide) (Nat.le_refl _) (Nat.le_refl _) dL_law_1061 (fun _ _ _ hqq => congrArg List.length hqq.2.1) ?_
  rintro _ _ K2 ⟨rfl, rfl, hf2, hS2⟩
  exact A_icmp_eq 1415 rfl dL_law_1064 (fun _ => hgo _ (hI.sh hf1 hS1 (fun q hq => hf2 q ⟨hq.1, hq.2.1, hq.2.2.1⟩) hS2 (shw_mark hSh.2.2 _ _ _))) (fun cq => absurd (rfl) cq)
set_option maxHeartbeats 1000000 in
set_option maxRecDepth 100000 in
theorem lw_pour (l : Launch) (G : Gm) (yn : String) (mc ms i : Nat) (Q : Pst) (hi : i + 6 ≤ g_sl G) (hb : g_sl G ≤ 3072) (K : Hp) (hI : INV K) (hgo : ∀ K2, INV K2 → AW l G (⟨RL, yn, "([I)Z"⟩ : MethodName) cL_law 4 (some FieldType.boolean) 155 mc ms Q mc ms 1415 [some (.ref 200000), some (.ref 0), some (.ref 86), some (.int (nI i))] [] LAY K2) : AW l G (⟨RL, yn, "([I)Z"⟩ : MethodName) cL_law 4 (some FieldType.boolean) 155 mc ms Q mc ms 1069 [some (.ref 200000), some (.ref 0), some (.ref 86), some (.int (nI i))] [] LAY K := by
  have hINV := hI
  obtain ⟨N, n, hh, T, S, Z, C, H, A, B, E, wt, L, hI⟩ := hI
  have hJ := hI.1.2.1
  have hn := hJ.1
  have hN := hJ.2.1
  have hR := hI.1.2.2.1
  have hK := hJ.2.2.2.2.1
  have hDo := hJ.2.2.2.2.2.1
  have hWt := hJ.2.2.2.2.2.2.1
  have hTx := hJ.2.2.2.2.2.2.2.1
  have hLw := hI.1.2.2.2
  have h87 := hI.1.1
  have hsil := hI.2.2.2.2.2.2.1
  have hSh := hI.2.2.1
  have hSl := hI.2.2.2.1
  refine A_aload_n rfl dL_law_1069 ?_
  refine A_aload_n rfl dL_law_1070 ?_
  refine A_iload_n rfl dL_law_1071 ?_
  refine A_iconst ic_1 dL_law_1072 ?_
  refine A_iadd dL_law_1073 ?_
  refine A_scld (i + 1) (ixc i 1) (by omega) (by omega) dL_law_1074 ?_
  refine A_callV (c_pour l G K N n hn hN hR S Z C hSh.1 hSh.2.2 _) m_X7_pour ml_L_133 rfl lay_0 rfl (by decide) rfl rfl (Nat.le_of_ble_eq_true rfl) (by decide) (Nat.le_refl _) (Nat.le_refl _) dL_law_1075 (fun _ _ _ hqq => congrArg List.length hqq.2.1) ?_
  rintro _ _ K1 ⟨rfl, rfl, hN1⟩
  have e87 : K1 87 = N := (hN1.2 87 (by decide)).trans h87
  have sm1 : ShM K1 S Z C := by unfold ShM; rw [hN1.2 99 (by decide), hN1.2 100 (by decide), hN1.2 101 (by decide)]; exact hSh.2.1
  refine A_aload_n rfl dL_law_1078 ?_
  refine A_aload_n rfl dL_law_1079 ?_
  refine A_iload_n rfl dL_law_1080 ?_
  refine A_iconst ic_1 dL_law_1081 ?_
  refine A_iadd dL_law_1082 ?_
  refine A_scld (i + 1) (ixc i 1) (by omega) (by omega) dL_law_1083 ?_
  refine A_callV (m_pour l G K1 N e87 n hn hN S Z C sm1 hSh.2.2 _) m_X8_pour ml_L_136 rfl lay_86 rfl (by decide) rfl rfl (Nat.le_of_ble_eq_true rfl) (by decide) (Nat.le_refl _) (Nat.le_refl _) dL_law_1084 (fun _ _ _ hqq => congrArg List.length hqq.2.1) ?_
  rintro _ _ _ ⟨rfl, rfl, e9⟩
  refine AW_I e9 ?_
  clear e9
  exact A_icmp_eq 1415 rfl dL_law_1087 (fun _ => hgo _ (hI.rowI hN1 (jw_pour hJ _))) (fun cq => absurd (rfl) cq)
set_option maxHeartbeats 1000000 in
set_option maxRecDepth 100000 in
theorem lw_reads (l : Launch) (G : Gm) (yn : String) (mc ms i : Nat) (Q : Pst) (hi : i + 6 ≤ g_sl G) (hb : g_sl G ≤ 3072) (K : Hp) (hI : INV K) (hgo : ∀ K2, INV K2 → AW l G (⟨RL, yn, "([I)Z"⟩ : MethodName) cL_law 4 (some FieldType.boolean) 155 mc ms Q mc ms 1415 [some (.ref 200000), some (.ref 0), some (.ref 86), some (.int (nI i))] [] LAY K2) : AW l G (⟨RL, yn, "([I)Z"⟩ : MethodName) cL_law 4 (some FieldType.boolean) 155 mc ms Q mc ms 1092 [some (.ref 200000), some (.ref 0), some (.ref 86), some (.int (nI i))] [] LAY K := by
  have hINV := hI
  obtain ⟨N, n, hh, T, S, Z, C, H, A, B, E, wt, L, hI⟩ := hI
  have hJ := hI.1.2.1
  have hn := hJ.1
  have hN := hJ.2.1
  have hR := hI.1.2.2.1
  have hK := hJ.2.2.2.2.1
  have hDo := hJ.2.2.2.2.2.1
  have hWt := hJ.2.2.2.2.2.2.1
  have hTx := hJ.2.2.2.2.2.2.2.1
  have hLw := hI.1.2.2.2
  have h87 := hI.1.1
  have hsil := hI.2.2.2.2.2.2.1
  have hSh := hI.2.2.1
  have hSl := hI.2.2.2.1
  refine A_aload_n rfl dL_law_1092 ?_
  refine A_aload_n rfl dL_law_1093 ?_
  refine A_iload_n rfl dL_law_1094 ?_
  refine A_iconst ic_1 dL_law_1095 ?_
  refine A_iadd dL_law_1096 ?_
  refine A_scld (i + 1) (ixc i 1) (by omega) (by omega) dL_law_1097 ?_
  refine A_callV (c_reads l G K N n hn hN hR T hK hTx hLw hDo S Z C hSh.1 hSh.2.2 _) m_X7_reads ml_L_137 rfl lay_0 rfl (by decide) rfl rfl (Nat.le_of_ble_eq_true rfl) (by decide) (Nat.le_refl _) (Nat.le_refl _) dL_law_1098 (fun _ _ _ hqq => congrArg List.length hqq.2.1) ?_
  rintro _ _ K1 ⟨rfl, rfl, hf1⟩
  have hI1 := hI.st hf1
  have e87 := hI1.1.1
  have s1 := hI1.2.2.2.2.2.2.1
  have sh1 := hI1.2.2.1
  refine A_aload_n rfl dL_law_1101 ?_
  refine A_aload_n rfl dL_law_1102 ?_
  refine A_iload_n rfl dL_law_1103 ?_
  refine A_iconst ic_1 dL_law_1104 ?_
  refine A_iadd dL_law_1105 ?_
  refine A_scld (i + 1) (ixc i 1) (by omega) (by omega) dL_law_1106 ?_
  refine A_callV (m_reads l G K1 N e87 n hn hN T hTx S Z C sh1.2.1 hSh.2.2 _) m_X8_reads ml_L_140 rfl lay_86 rfl (by decide) rfl rfl (Nat.le_of_ble_eq_true rfl) (by decide) (Nat.le_refl _) (Nat.le_refl _) dL_law_1107 (fun _ _ _ hqq => congrArg List.length hqq.2.1) ?_
  rintro _ _ K2 ⟨rfl, rfl, hf2⟩
  have hI2 := hI1.m1 hf2
  exact A_icmp_eq 1415 rfl dL_law_1110 (fun _ => hgo _ (⟨_, _, _, _, _, _, _, _, _, _, _, _, _, hI2⟩)) (fun cq => absurd (rfl) cq)
set_option maxHeartbeats 1000000 in
set_option maxRecDepth 100000 in
theorem lw_copy (l : Launch) (G : Gm) (yn : String) (mc ms i : Nat) (Q : Pst) (hi : i + 6 ≤ g_sl G) (hb : g_sl G ≤ 3072) (K : Hp) (hI : INV K) (hgo : ∀ K2, INV K2 → AW l G (⟨RL, yn, "([I)Z"⟩ : MethodName) cL_law 4 (some FieldType.boolean) 155 mc ms Q mc ms 1415 [some (.ref 200000), some (.ref 0), some (.ref 86), some (.int (nI i))] [] LAY K2) : AW l G (⟨RL, yn, "([I)Z"⟩ : MethodName) cL_law 4 (some FieldType.boolean) 155 mc ms Q mc ms 1115 [some (.ref 200000), some (.ref 0), some (.ref 86), some (.int (nI i))] [] LAY K := by
  have hINV := hI
  obtain ⟨N, n, hh, T, S, Z, C, H, A, B, E, wt, L, hI⟩ := hI
  have hJ := hI.1.2.1
  have hn := hJ.1
  have hN := hJ.2.1
  have hR := hI.1.2.2.1
  have hK := hJ.2.2.2.2.1
  have hDo := hJ.2.2.2.2.2.1
  have hWt := hJ.2.2.2.2.2.2.1
  have hTx := hJ.2.2.2.2.2.2.2.1
  have hLw := hI.1.2.2.2
  have h87 := hI.1.1
  have hsil := hI.2.2.2.2.2.2.1
  have hSh := hI.2.2.1
  have hSl := hI.2.2.2.1
  refine A_aload_n rfl dL_law_1115 ?_
  refine A_aload_n rfl dL_law_1116 ?_
  refine A_iload_n rfl dL_law_1117 ?_
  refine A_iconst ic_1 dL_law_1118 ?_
  refine A_iadd dL_law_1119 ?_
  refine A_scld (i + 1) (ixc i 1) (by omega) (by omega) dL_law_1120 ?_
  refine A_aload_n rfl dL_law_1121 ?_
  refine A_iload_n rfl dL_law_1122 ?_
  refine A_iconst ic_2 dL_law_1123 ?_
  refine A_iadd dL_law_1124 ?_
  refine A_scld (i + 2) (ixc i 2) (by omega) (by omega) dL_law_1125 ?_
  refine A_aload_n rfl dL_law_1126 ?_
  refine A_iload_n rfl dL_law_1127 ?_
  refine A_iconst ic_3 dL_law_1128 ?_
  refine A_iadd dL_law_1129 ?_
  refine A_scld (i + 3) (ixc i 3) (by omega) (by omega) dL_law_1130 ?_
  refine A_aload_n rfl dL_law_1131 ?_
  refine A_iload_n rfl dL_law_1132 ?_
  refine A_iconst ic_4 dL_law_1133 ?_
  refine A_iadd dL_law_1134 ?_
  refine A_scld (i + 4) (ixc i 4) (by omega) (by omega) dL_law_1135 ?_
  refine A_aload_n rfl dL_law_1136 ?_
  refine A_iload_n rfl dL_law_1137 ?_
  refine A_iconst ic_5 dL_law_1138 ?_
  refine A_iadd dL_law_1139 ?_
  refine A_scld (i + 5) (ixc i 5) (by omega) (by omega) dL_law_1140 ?_
  refine A_callV (c_copy l G K S Z C hSh.1 hSh.2.2 _ _ _ _ _) m_X7_copy ml_L_141 rfl lay_0 rfl (by decide) rfl rfl (Nat.le_of_ble_eq_true rfl) (by decide) (Nat.le_refl _) (Nat.le_refl _) dL_law_1141 (fun _ _ _ hqq => congrArg List.length hqq.2.1) ?_
  rintro _ _ K1 ⟨rfl, rfl, hf1, hS1⟩
  have sm1 : ShM K1 S Z C := by unfold ShM; rw [hf1 99 (by decide), hf1 100 (by decide), hf1 101 (by decide)]; exact hSh.2.1
  refine A_aload_n rfl dL_law_1144 ?_
  refine A_aload_n rfl dL_law_1145 ?_
  refine A_iload_n rfl dL_law_1146 ?_
  refine A_iconst ic_1 dL_law_1147 ?_
  refine A_iadd dL_law_1148 ?_
  refine A_scld (i + 1) (ixc i 1) (by omega) (by omega) dL_law_1149 ?_
  refine A_aload_n rfl dL_law_1150 ?_
  refine A_iload_n rfl dL_law_1151 ?_
  refine A_iconst ic_2 dL_law_1152 ?_
  refine A_iadd dL_law_1153 ?_
  refine A_scld (i + 2) (ixc i 2) (by omega) (by omega) dL_law_1154 ?_
  refine A_aload_n rfl dL_law_1155 ?_
  refine A_iload_n rfl dL_law_1156 ?_
  refine A_iconst ic_3 dL_law_1157 ?_
  refine A_iadd dL_law_1158 ?_
  refine A_scld (i + 3) (ixc i 3) (by omega) (by omega) dL_law_1159 ?_
  refine A_aload_n rfl dL_law_1160 ?_
  refine A_iload_n rfl dL_law_1161 ?_
  refine A_iconst ic_4 dL_law_1162 ?_
  refine A_iadd dL_law_1163 ?_
  refine A_scld (i + 4) (ixc i 4) (by omega) (by omega) dL_law_1164 ?_
  refine A_aload_n rfl dL_law_1165 ?_
  refine A_iload_n rfl dL_law_1166 ?_
  refine A_iconst ic_5 dL_law_1167 ?_
  refine A_iadd dL_law_1168 ?_
  refine A_scld (i + 5) (ixc i 5) (by omega) (by omega) dL_law_1169 ?_
  refine A_callV (m_copy l G K1 S Z C sm1 hSh.2.2 _ _ _ _ _) m_X8_copy ml_L_145 rfl lay_86 rfl (by decide) rfl rfl (Nat.le_of_ble_eq_true rfl) (by decide) (Nat.le_refl _) (Nat.le_refl _) dL_law_1170 (fun _ _ _ hqq => congrArg List.length hqq.2.1) ?_
  rintro _ _ K2 ⟨rfl, rfl, hf2, hS2⟩
  exact A_icmp_eq 1415 rfl dL_law_1173 (fun _ => hgo _ (hI.sh hf1 hS1 hf2 hS2 (shw_copy hSh.2.2 _ _ _ _ _))) (fun cq => absurd (rfl) cq)
set_option maxHeartbeats 1000000 in
set_option maxRecDepth 100000 in
theorem lw_lay (l : Launch) (G : Gm) (yn : String) (mc ms i : Nat) (Q : Pst) (hi : i + 6 ≤ g_sl G) (hb : g_sl G ≤ 3072) (K : Hp) (hI : INV K) (hgo : ∀ K2, INV K2 → AW l G (⟨RL, yn, "([I)Z"⟩ : MethodName) cL_law 4 (some FieldType.boolean) 155 mc ms Q mc ms 1415 [some (.ref 200000), some (.ref 0), some (.ref 86), some (.int (nI i))] [] LAY K2) : AW l G (⟨RL, yn, "([I)Z"⟩ : MethodName) cL_law 4 (some FieldType.boolean) 155 mc ms Q mc ms 1178 [some (.ref 200000), some (.ref 0), some (.ref 86), some (.int (nI i))] [] LAY K := by
  have hINV := hI
  obtain ⟨N, n, hh, T, S, Z, C, H, A, B, E, wt, L, hI⟩ := hI
  have hJ := hI.1.2.1
  have hn := hJ.1
  have hN := hJ.2.1
  have hR := hI.1.2.2.1
  have hK := hJ.2.2.2.2.1
  have hDo := hJ.2.2.2.2.2.1
  have hWt := hJ.2.2.2.2.2.2.1
  have hTx := hJ.2.2.2.2.2.2.2.1
  have hLw := hI.1.2.2.2
  have h87 := hI.1.1
  have hsil := hI.2.2.2.2.2.2.1
  have hSh := hI.2.2.1
  have hSl := hI.2.2.2.1
  refine A_aload_n rfl dL_law_1178 ?_
  refine A_aload_n rfl dL_law_1179 ?_
  refine A_iload_n rfl dL_law_1180 ?_
  refine A_iconst ic_1 dL_law_1181 ?_
  refine A_iadd dL_law_1182 ?_
  refine A_scld (i + 1) (ixc i 1) (by omega) (by omega) dL_law_1183 ?_
  refine A_aload_n rfl dL_law_1184 ?_
  refine A_iload_n rfl dL_law_1185 ?_
  refine A_iconst ic_2 dL_law_1186 ?_
  refine A_iadd dL_law_1187 ?_
  refine A_scld (i + 2) (ixc i 2) (by omega) (by omega) dL_law_1188 ?_
  refine A_aload_n rfl dL_law_1189 ?_
  refine A_iload_n rfl dL_law_1190 ?_
  refine A_iconst ic_3 dL_law_1191 ?_
  refine A_iadd dL_law_1192 ?_
  refine A_scld (i + 3) (ixc i 3) (by omega) (by omega) dL_law_1193 ?_
  refine A_callV (c_lay l G K N n hn hN hR S Z C hSh.1 hSh.2.2 H A B E hSl.1 hSl.2.2 _ _ _) m_X7_lay ml_L_146 rfl lay_0 rfl (by decide) rfl rfl (Nat.le_of_ble_eq_true rfl) (by decide) (Nat.le_refl _) (Nat.le_refl _) dL_law_1194 (fun _ _ _ hqq => congrArg List.length hqq.2.1) ?_
  rintro _ _ K1 ⟨rfl, rfl, hf1, hS1⟩
  have e87 : K1 87 = N := (hf1 87 (by decide)).trans h87
  have sm1 : ShM K1 S Z C := by unfold ShM; rw [hf1 99 (by decide), hf1 100 (by decide), hf1 101 (by decide)]; exact hSh.2.1
  have sl1 : SlM K1 H A B E := by unfold SlM; rw [hf1 102 (by decide), hf1 103 (by decide), hf1 104 (by decide), hf1 105 (by decide)]; exact hSl.2.1
  refine A_aload_n rfl dL_law_1197 ?_
  refine A_aload_n rfl dL_law_1198 ?_
  refine A_iload_n rfl dL_law_1199 ?_
  refine A_iconst ic_1 dL_law_1200 ?_
  refine A_iadd dL_law_1201 ?_
  refine A_scld (i + 1) (ixc i 1) (by omega) (by omega) dL_law_1202 ?_
  refine A_aload_n rfl dL_law_1203 ?_
  refine A_iload_n rfl dL_law_1204 ?_
  refine A_iconst ic_2 dL_law_1205 ?_
  refine A_iadd dL_law_1206 ?_
  refine A_scld (i + 2) (ixc i 2) (by omega) (by omega) dL_law_1207 ?_
  refine A_aload_n rfl dL_law_1208 ?_
  refine A_iload_n rfl dL_law_1209 ?_
  refine A_iconst ic_3 dL_law_1210 ?_
  refine A_iadd dL_law_1211 ?_
  refine A_scld (i + 3) (ixc i 3) (by omega) (by omega) dL_law_1212 ?_
  refine A_callV (m_lay l G K1 N e87 n hn hN S Z C sm1 hSh.2.2 H A B E sl1 hSl.2.2 _ _ _) m_X8_lay ml_L_149 rfl lay_86 rfl (by decide) rfl rfl (Nat.le_of_ble_eq_true rfl) (by decide) (Nat.le_refl _) (Nat.le_refl _) dL_law_1213 (fun _ _ _ hqq => congrArg List.length hqq.2.1) ?_
  rintro _ _ K2 ⟨rfl, rfl, hf2, hS2⟩
  exact A_icmp_eq 1415 rfl dL_law_1216 (fun _ => hgo _ (hI.sl hf1 hS1 hf2 hS2 (slw_lay hSl.2.2 hSh.2.2 _ _ _))) (fun cq => absurd (rfl) cq)
set_option maxHeartbeats 1000000 in
set_option maxRecDepth 100000 in
theorem lw_ask (l : Launch) (G : Gm) (yn : String) (mc ms i : Nat) (Q : Pst) (hi : i + 6 ≤ g_sl G) (hb : g_sl G ≤ 3072) (K : Hp) (hI : INV K) (hgo : ∀ K2, INV K2 → AW l G (⟨RL, yn, "([I)Z"⟩ : MethodName) cL_law 4 (some FieldType.boolean) 155 mc ms Q mc ms 1415 [some (.ref 200000), some (.ref 0), some (.ref 86), some (.int (nI i))] [] LAY K2) : AW l G (⟨RL, yn, "([I)Z"⟩ : MethodName) cL_law 4 (some FieldType.boolean) 155 mc ms Q mc ms 1221 [some (.ref 200000), some (.ref 0), some (.ref 86), some (.int (nI i))] [] LAY K := by
  have hINV := hI
  obtain ⟨N, n, hh, T, S, Z, C, H, A, B, E, wt, L, hI⟩ := hI
  have hJ := hI.1.2.1
  have hn := hJ.1
  have hN := hJ.2.1
  have hR := hI.1.2.2.1
  have hK := hJ.2.2.2.2.1
  have hDo := hJ.2.2.2.2.2.1
  have hWt := hJ.2.2.2.2.2.2.1
  have hTx := hJ.2.2.2.2.2.2.2.1
  have hLw := hI.1.2.2.2
  have h87 := hI.1.1
  have hsil := hI.2.2.2.2.2.2.1
  have hSh := hI.2.2.1
  have hSl := hI.2.2.2.1
  refine A_aload_n rfl dL_law_1221 ?_
  refine A_aload_n rfl dL_law_1222 ?_
  refine A_iload_n rfl dL_law_1223 ?_
  refine A_iconst ic_1 dL_law_1224 ?_
  refine A_iadd dL_law_1225 ?_
  refine A_scld (i + 1) (ixc i 1) (by omega) (by omega) dL_law_1226 ?_
  refine A_aload_n rfl dL_law_1227 ?_
  refine A_iload_n rfl dL_law_1228 ?_
  refine A_iconst ic_2 dL_law_1229 ?_
  refine A_iadd dL_law_1230 ?_
  refine A_scld (i + 2) (ixc i 2) (by omega) (by omega) dL_law_1231 ?_
  refine A_callV (c_ask l G K H A B E hSl.1 hSl.2.2 _ _) m_X7_ask ml_L_150 rfl lay_0 rfl (by decide) rfl rfl (Nat.le_of_ble_eq_true rfl) (by decide) (Nat.le_refl _) (Nat.le_refl _) dL_law_1232 (fun _ _ _ hqq => congrArg List.length hqq.2.1) ?_
  rintro _ _ _ ⟨rfl, rfl, e9⟩
  refine AW_I e9 ?_
  clear e9
  refine A_aload_n rfl dL_law_1235 ?_
  refine A_aload_n rfl dL_law_1236 ?_
  refine A_iload_n rfl dL_law_1237 ?_
  refine A_iconst ic_1 dL_law_1238 ?_
  refine A_iadd dL_law_1239 ?_
  refine A_scld (i + 1) (ixc i 1) (by omega) (by omega) dL_law_1240 ?_
  refine A_aload_n rfl dL_law_1241 ?_
  refine A_iload_n rfl dL_law_1242 ?_
  refine A_iconst ic_2 dL_law_1243 ?_
  refine A_iadd dL_law_1244 ?_
  refine A_scld (i + 2) (ixc i 2) (by omega) (by omega) dL_law_1245 ?_
  refine A_callV (m_ask l G K H A B E hSl.2.1 hSl.2.2 _ _) m_X8_ask ml_L_153 rfl lay_86 rfl (by decide) rfl rfl (Nat.le_of_ble_eq_true rfl) (by decide) (Nat.le_refl _) (Nat.le_refl _) dL_law_1246 (fun _ _ _ hqq => congrArg List.length hqq.2.1) ?_
  rintro _ _ _ ⟨rfl, rfl, e9⟩
  refine AW_I e9 ?_
  clear e9
  exact A_icmp_eq 1415 rfl dL_law_1249 (fun _ => hgo _ (hINV)) (fun cq => absurd (rfl) cq)
set_option maxHeartbeats 1000000 in
set_option maxRecDepth 100000 in
theorem lw_item (l : Launch) (G : Gm) (yn : String) (mc ms i : Nat) (Q : Pst) (hi : i + 6 ≤ g_sl G) (hb : g_sl G ≤ 3072) (K : Hp) (hI : INV K) (hgo : ∀ K2, INV K2 → AW l G (⟨RL, yn, "([I)Z"⟩ : MethodName) cL_law 4 (some FieldType.boolean) 155 mc ms Q mc ms 1415 [some (.ref 200000), some (.ref 0), some (.ref 86), some (.int (nI i))] [] LAY K2) : AW l G (⟨RL, yn, "([I)Z"⟩ : MethodName) cL_law 4 (some FieldType.boolean) 155 mc ms Q mc ms 1254 [some (.ref 200000), some (.ref 0), some (.ref 86), some (.int (nI i))] [] LAY K := by
  have hINV := hI
  obtain ⟨N, n, hh, T, S, Z, C, H, A, B, E, wt, L, hI⟩ := hI
  have hJ := hI.1.2.1
  have hn := hJ.1
  have hN := hJ.2.1
  have hR := hI.1.2.2.1
  have hK := hJ.2.2.2.2.1
  have hDo := hJ.2.2.2.2.2.1
  have hWt := hJ.2.2.2.2.2.2.1
  have hTx := hJ.2.2.2.2.2.2.2.1
  have hLw := hI.1.2.2.2
  have h87 := hI.1.1
  have hsil := hI.2.2.2.2.2.2.1
  have hSh := hI.2.2.1
  have hSl := hI.2.2.2.1
  refine A_aload_n rfl dL_law_1254 ?_
  refine A_aload_n rfl dL_law_1255 ?_
  refine A_iload_n rfl dL_law_1256 ?_
  refine A_iconst ic_1 dL_law_1257 ?_
  refine A_iadd dL_law_1258 ?_
  refine A_scld (i + 1) (ixc i 1) (by omega) (by omega) dL_law_1259 ?_
  refine A_aload_n rfl dL_law_1260 ?_
  refine A_iload_n rfl dL_law_1261 ?_
  refine A_iconst ic_2 dL_law_1262 ?_
  refine A_iadd dL_law_1263 ?_
  refine A_scld (i + 2) (ixc i 2) (by omega) (by omega) dL_law_1264 ?_
  refine A_callV (c_item l G K H A B E hSl.1 hSl.2.2 _ _) m_X7_item ml_L_154 rfl lay_0 rfl (by decide) rfl rfl (Nat.le_of_ble_eq_true rfl) (by decide) (Nat.le_refl _) (Nat.le_refl _) dL_law_1265 (fun _ _ _ hqq => congrArg List.length hqq.2.1) ?_
  rintro _ _ _ ⟨rfl, rfl, e9⟩
  refine AW_I e9 ?_
  clear e9
  refine A_aload_n rfl dL_law_1268 ?_
  refine A_aload_n rfl dL_law_1269 ?_
  refine A_iload_n rfl dL_law_1270 ?_
  refine A_iconst ic_1 dL_law_1271 ?_
  refine A_iadd dL_law_1272 ?_
  refine A_scld (i + 1) (ixc i 1) (by omega) (by omega) dL_law_1273 ?_
  refine A_aload_n rfl dL_law_1274 ?_
  refine A_iload_n rfl dL_law_1275 ?_
  refine A_iconst ic_2 dL_law_1276 ?_
  refine A_iadd dL_law_1277 ?_
  refine A_scld (i + 2) (ixc i 2) (by omega) (by omega) dL_law_1278 ?_
  refine A_callV (m_item l G K H A B E hSl.2.1 hSl.2.2 _ _) m_X8_item ml_L_157 rfl lay_86 rfl (by decide) rfl rfl (Nat.le_of_ble_eq_true rfl) (by decide) (Nat.le_refl _) (Nat.le_refl _) dL_law_1279 (fun _ _ _ hqq => congrArg List.length hqq.2.1) ?_
  rintro _ _ _ ⟨rfl, rfl, e9⟩
  refine AW_I e9 ?_
  clear e9
  exact A_icmp_eq 1415 rfl dL_law_1282 (fun _ => hgo _ (hINV)) (fun cq => absurd (rfl) cq)
set_option maxHeartbeats 1000000 in
set_option maxRecDepth 100000 in
theorem lw_rest (l : Launch) (G : Gm) (yn : String) (mc ms i : Nat) (Q : Pst) (hi : i + 6 ≤ g_sl G) (hb : g_sl G ≤ 3072) (K : Hp) (hI : INV K) (hgo : ∀ K2, INV K2 → AW l G (⟨RL, yn, "([I)Z"⟩ : MethodName) cL_law 4 (some FieldType.boolean) 155 mc ms Q mc ms 1415 [some (.ref 200000), some (.ref 0), some (.ref 86), some (.int (nI i))] [] LAY K2) : AW l G (⟨RL, yn, "([I)Z"⟩ : MethodName) cL_law 4 (some FieldType.boolean) 155 mc ms Q mc ms 1287 [some (.ref 200000), some (.ref 0), some (.ref 86), some (.int (nI i))] [] LAY K := by
  have hINV := hI
  obtain ⟨N, n, hh, T, S, Z, C, H, A, B, E, wt, L, hI⟩ := hI
  have hJ := hI.1.2.1
  have hn := hJ.1
  have hN := hJ.2.1
  have hR := hI.1.2.2.1
  have hK := hJ.2.2.2.2.1
  have hDo := hJ.2.2.2.2.2.1
  have hWt := hJ.2.2.2.2.2.2.1
  have hTx := hJ.2.2.2.2.2.2.2.1
  have hLw := hI.1.2.2.2
  have h87 := hI.1.1
  have hsil := hI.2.2.2.2.2.2.1
  have hSh := hI.2.2.1
  have hSl := hI.2.2.2.1
  refine A_aload_n rfl dL_law_1287 ?_
  refine A_aload_n rfl dL_law_1288 ?_
  refine A_iload_n rfl dL_law_1289 ?_
  refine A_iconst ic_1 dL_law_1290 ?_
  refine A_iadd dL_law_1291 ?_
  refine A_scld (i + 1) (ixc i 1) (by omega) (by omega) dL_law_1292 ?_
  refine A_aload_n rfl dL_law_1293 ?_
  refine A_iload_n rfl dL_law_1294 ?_
  refine A_iconst ic_2 dL_law_1295 ?_
  refine A_iadd dL_law_1296 ?_
  refine A_scld (i + 2) (ixc i 2) (by omega) (by omega) dL_law_1297 ?_
  refine A_callV (c_rest l G K H A B E hSl.1 hSl.2.2 _ _) m_X7_rest ml_L_158 rfl lay_0 rfl (by decide) rfl rfl (Nat.le_of_ble_eq_true rfl) (by decide) (Nat.le_refl _) (Nat.le_refl _) dL_law_1298 (fun _ _ _ hqq => congrArg List.length hqq.2.1) ?_
  rintro _ _ _ ⟨rfl, rfl, e9⟩
  refine AW_I e9 ?_
  clear e9
  refine A_aload_n rfl dL_law_1301 ?_
  refine A_aload_n rfl dL_law_1302 ?_
  refine A_iload_n rfl dL_law_1303 ?_
  refine A_iconst ic_1 dL_law_1304 ?_
  refine A_iadd dL_law_1305 ?_
  refine A_scld (i + 1) (ixc i 1) (by omega) (by omega) dL_law_1306 ?_
  refine A_aload_n rfl dL_law_1307 ?_
  refine A_iload_n rfl dL_law_1308 ?_
  refine A_iconst ic_2 dL_law_1309 ?_
  refine A_iadd dL_law_1310 ?_
  refine A_scld (i + 2) (ixc i 2) (by omega) (by omega) dL_law_1311 ?_
  refine A_callV (m_rest l G K H A B E hSl.2.1 hSl.2.2 _ _) m_X8_rest ml_L_161 rfl lay_86 rfl (by decide) rfl rfl (Nat.le_of_ble_eq_true rfl) (by decide) (Nat.le_refl _) (Nat.le_refl _) dL_law_1312 (fun _ _ _ hqq => congrArg List.length hqq.2.1) ?_
  rintro _ _ _ ⟨rfl, rfl, e9⟩
  refine AW_I e9 ?_
  clear e9
  exact A_icmp_eq 1415 rfl dL_law_1315 (fun _ => hgo _ (hINV)) (fun cq => absurd (rfl) cq)
set_option maxHeartbeats 1000000 in
set_option maxRecDepth 100000 in
theorem lw_tell (l : Launch) (G : Gm) (yn : String) (mc ms i : Nat) (Q : Pst) (hi : i + 6 ≤ g_sl G) (hb : g_sl G ≤ 3072) (K : Hp) (hI : INV K) (hgo : ∀ K2, INV K2 → AW l G (⟨RL, yn, "([I)Z"⟩ : MethodName) cL_law 4 (some FieldType.boolean) 155 mc ms Q mc ms 1415 [some (.ref 200000), some (.ref 0), some (.ref 86), some (.int (nI i))] [] LAY K2) : AW l G (⟨RL, yn, "([I)Z"⟩ : MethodName) cL_law 4 (some FieldType.boolean) 155 mc ms Q mc ms 1320 [some (.ref 200000), some (.ref 0), some (.ref 86), some (.int (nI i))] [] LAY K := by
  have hINV := hI
  obtain ⟨N, n, hh, T, S, Z, C, H, A, B, E, wt, L, hI⟩ := hI
  have hJ := hI.1.2.1
  have hn := hJ.1
  have hN := hJ.2.1
  have hR := hI.1.2.2.1
  have hK := hJ.2.2.2.2.1
  have hDo := hJ.2.2.2.2.2.1
  have hWt := hJ.2.2.2.2.2.2.1
  have hTx := hJ.2.2.2.2.2.2.2.1
  have hLw := hI.1.2.2.2
  have h87 := hI.1.1
  have hsil := hI.2.2.2.2.2.2.1
  have hSh := hI.2.2.1
  have hSl := hI.2.2.2.1
  have hw5 := hI.2.2.2.2.1
  refine A_aload_n rfl dL_law_1320 ?_
  refine A_aload_n rfl dL_law_1321 ?_
  refine A_iload_n rfl dL_law_1322 ?_
  refine A_iconst ic_1 dL_law_1323 ?_
  refine A_iadd dL_law_1324 ?_
  refine A_scld (i + 1) (ixc i 1) (by omega) (by omega) dL_law_1325 ?_
  refine A_callV (c_tell l G K wt hw5.1 hw5.2.1 _) m_X7_tell ml_L_162 rfl lay_0 rfl (by decide) rfl rfl (Nat.le_of_ble_eq_true rfl) (by decide) (Nat.le_refl _) (Nat.le_refl _) dL_law_1326 (fun _ _ _ hqq => congrArg List.length hqq.2.1) ?_
  rintro _ _ K1 ⟨rfl, rfl, e1⟩
  have w1 : K1 86 33 = nI wt := by
    rw [e1]
    split
    · exact hw5.2.2.1
    · rw [up2_ne (by decide), up2_ne (by decide)]; exact hw5.2.2.1
  refine A_aload_n rfl dL_law_1329 ?_
  refine A_aload_n rfl dL_law_1330 ?_
  refine A_iload_n rfl dL_law_1331 ?_
  refine A_iconst ic_1 dL_law_1332 ?_
  refine A_iadd dL_law_1333 ?_
  refine A_scld (i + 1) (ixc i 1) (by omega) (by omega) dL_law_1334 ?_
  refine A_callV (m_tell l G K1 wt hw5.1 w1 _) m_X8_tell ml_L_165 rfl lay_86 rfl (by decide) rfl rfl (Nat.le_of_ble_eq_true rfl) (by decide) (Nat.le_refl _) (Nat.le_refl _) dL_law_1335 (fun _ _ _ hqq => congrArg List.length hqq.2.1) ?_
  rintro _ _ K2 ⟨rfl, rfl, e2⟩
  exact A_icmp_eq 1415 rfl dL_law_1338 (fun _ => hgo _ (hI.tell e1 e2)) (fun cq => absurd (rfl) cq)
set_option maxHeartbeats 1000000 in
set_option maxRecDepth 100000 in
theorem lw_check (l : Launch) (G : Gm) (yn : String) (mc ms i : Nat) (Q : Pst) (hi : i + 6 ≤ g_sl G) (hb : g_sl G ≤ 3072) (K : Hp) (hI : INV K) (hgo : ∀ K2, INV K2 → AW l G (⟨RL, yn, "([I)Z"⟩ : MethodName) cL_law 4 (some FieldType.boolean) 155 mc ms Q mc ms 1415 [some (.ref 200000), some (.ref 0), some (.ref 86), some (.int (nI i))] [] LAY K2) : AW l G (⟨RL, yn, "([I)Z"⟩ : MethodName) cL_law 4 (some FieldType.boolean) 155 mc ms Q mc ms 1343 [some (.ref 200000), some (.ref 0), some (.ref 86), some (.int (nI i))] [] LAY K := by
  have hINV := hI
  obtain ⟨N, n, hh, T, S, Z, C, H, A, B, E, wt, L, hI⟩ := hI
  have hJ := hI.1.2.1
  have hn := hJ.1
  have hN := hJ.2.1
  have hR := hI.1.2.2.1
  have hK := hJ.2.2.2.2.1
  have hDo := hJ.2.2.2.2.2.1
  have hWt := hJ.2.2.2.2.2.2.1
  have hTx := hJ.2.2.2.2.2.2.2.1
  have hLw := hI.1.2.2.2
  have h87 := hI.1.1
  have hsil := hI.2.2.2.2.2.2.1
  have hSh := hI.2.2.1
  have hSl := hI.2.2.2.1
  have hw5 := hI.2.2.2.2.1
  have him : ∃ n1 hh1 T1, n1 ≤ 10 ∧ hh1 ≤ 9999 ∧ (¬ K 86 3 = 0 → JW (K 88) n1 hh1 T1 ∧ RepJ K 44 (K 88) ∧ LwR K (K 88) T1) := by
    by_cases h3 : K 86 3 = 0
    · exact ⟨0, 0, 0, by decide, by decide, fun q => absurd h3 q⟩
    · obtain ⟨n1, hh1, T1, a, b, c, d⟩ := hI.2.1.2.2 h3
      exact ⟨n1, hh1, T1, b.1, b.2.2.1, fun _ => ⟨b, c, d⟩⟩
  obtain ⟨n1, hh1, T1, hn1, hhh1, him⟩ := him
  have h93 := hI.2.1.1
  refine A_aload_n rfl dL_law_1343 ?_
  refine A_aload_n rfl dL_law_1344 ?_
  refine A_iload_n rfl dL_law_1345 ?_
  refine A_iconst ic_1 dL_law_1346 ?_
  refine A_iadd dL_law_1347 ?_
  refine A_scld (i + 1) (ixc i 1) (by omega) (by omega) dL_law_1348 ?_
  refine A_callV (c_check l G K (K 88) n1 hh1 T1 wt hn1 hhh1 hw5.1 hw5.2.1 (fun q => by rw [h93] at q; have b := him q; exact ⟨b.2.1, b.1.2.1, b.1.2.2.2.1, b.1.2.2.2.2.1, b.1.2.2.2.2.2.2.2.1, b.2.2, b.1.2.2.2.2.2.1⟩) _) m_X7_check ml_L_166 rfl lay_0 rfl (by decide) rfl rfl (Nat.le_of_ble_eq_true rfl) (by decide) (Nat.le_refl _) (Nat.le_refl _) dL_law_1349 (fun _ _ _ hqq => congrArg List.length hqq.2.1) ?_
  rintro _ _ K1 ⟨rfl, rfl, hC⟩
  have f1 : ∀ q, 60 ≤ q → K1 q = K q := fun q hq => hC.2.2 q (by omega) (Or.inr hq) (by omega)
  refine A_aload_n rfl dL_law_1352 ?_
  refine A_aload_n rfl dL_law_1353 ?_
  refine A_iload_n rfl dL_law_1354 ?_
  refine A_iconst ic_1 dL_law_1355 ?_
  refine A_iadd dL_law_1356 ?_
  refine A_scld (i + 1) (ixc i 1) (by omega) (by omega) dL_law_1357 ?_
  refine A_callV (m_check l G K1 n1 hh1 T1 wt hn1 hhh1 hw5.1 (by rw [f1 86 (by decide)]; exact hw5.2.2.1) (by rw [f1 86 (by decide)]; exact hsil) (fun z hz => by rw [f1 87 (by decide), f1 88 (by decide), h87]; exact ⟨hJ.2.2.2.2.2.2.2.2 z hz, hI.2.1.2.1 z hz⟩) (fun q => by rw [f1 86 (by decide)] at q; rw [f1 88 (by decide)]; have b := him q; exact ⟨b.1.2.1, b.1.2.2.2.1, b.1.2.2.2.2.2.2.2.1⟩) _) m_X8_check ml_L_169 rfl lay_86 rfl (by decide) rfl rfl (Nat.le_of_ble_eq_true rfl) (by decide) (Nat.le_refl _) (Nat.le_refl _) dL_law_1358 (fun _ _ _ hqq => congrArg List.length hqq.2.1) ?_
  rintro _ _ K2 ⟨rfl, rfl, u1, u2, u3⟩
  exact A_icmp_eq 1415 rfl dL_law_1361 (fun _ => hgo _ (hI.check hC u1 u2 u3)) (fun cq => absurd (by rw [f1 107 (by decide), f1 86 (by decide), f1 88 (by decide), hw5.2.2.2, h93]) cq)
set_option maxHeartbeats 1000000 in
set_option maxRecDepth 100000 in
theorem lw_keep (l : Launch) (G : Gm) (yn : String) (mc ms i : Nat) (Q : Pst) (hi : i + 6 ≤ g_sl G) (hb : g_sl G ≤ 3072) (K : Hp) (hI : INV K) (hgo : ∀ K2, INV K2 → AW l G (⟨RL, yn, "([I)Z"⟩ : MethodName) cL_law 4 (some FieldType.boolean) 155 mc ms Q mc ms 1415 [some (.ref 200000), some (.ref 0), some (.ref 86), some (.int (nI i))] [] LAY K2) : AW l G (⟨RL, yn, "([I)Z"⟩ : MethodName) cL_law 4 (some FieldType.boolean) 155 mc ms Q mc ms 1366 [some (.ref 200000), some (.ref 0), some (.ref 86), some (.int (nI i))] [] LAY K := by
  have hINV := hI
  obtain ⟨N, n, hh, T, S, Z, C, H, A, B, E, wt, L, hI⟩ := hI
  have hJ := hI.1.2.1
  have hn := hJ.1
  have hN := hJ.2.1
  have hR := hI.1.2.2.1
  have hK := hJ.2.2.2.2.1
  have hDo := hJ.2.2.2.2.2.1
  have hWt := hJ.2.2.2.2.2.2.1
  have hTx := hJ.2.2.2.2.2.2.2.1
  have hLw := hI.1.2.2.2
  have h87 := hI.1.1
  have hsil := hI.2.2.2.2.2.2.1
  have hSh := hI.2.2.1
  have hSl := hI.2.2.2.1
  refine A_aload_n rfl dL_law_1366 ?_
  refine A_callV (c_keep l G K) m_X7_keep ml_L_170 rfl lay_0 rfl (by decide) rfl rfl (Nat.le_of_ble_eq_true rfl) (by decide) (Nat.le_refl _) (Nat.le_refl _) dL_law_1367 (fun _ _ _ hqq => congrArg List.length hqq.2.1) ?_
  rintro _ _ K1 ⟨rfl, rfl, e1⟩
  refine A_aload_n rfl dL_law_1370 ?_
  refine A_callV (m_keep l G K1) m_X8_keep ml_L_173 rfl lay_86 rfl (by decide) rfl rfl (Nat.le_of_ble_eq_true rfl) (by decide) (Nat.le_refl _) (Nat.le_refl _) dL_law_1371 (fun _ _ _ hqq => congrArg List.length hqq.2.1) ?_
  rintro _ _ K2 ⟨rfl, rfl, e2⟩
  exact A_icmp_eq 1415 rfl dL_law_1374 (fun _ => hgo _ (hI.keep e1 e2)) (fun cq => absurd (by rw [e1, up2_ne (show (87 : Nat) ≠ 0 by decide), beJ_o (by decide), h87]; exact hR.1.1) cq)
set_option maxHeartbeats 1000000 in
set_option maxRecDepth 100000 in
theorem lw_back (l : Launch) (G : Gm) (yn : String) (mc ms i : Nat) (Q : Pst) (hi : i + 6 ≤ g_sl G) (hb : g_sl G ≤ 3072) (K : Hp) (hI : INV K) (hgo : ∀ K2, INV K2 → AW l G (⟨RL, yn, "([I)Z"⟩ : MethodName) cL_law 4 (some FieldType.boolean) 155 mc ms Q mc ms 1415 [some (.ref 200000), some (.ref 0), some (.ref 86), some (.int (nI i))] [] LAY K2) : AW l G (⟨RL, yn, "([I)Z"⟩ : MethodName) cL_law 4 (some FieldType.boolean) 155 mc ms Q mc ms 1379 [some (.ref 200000), some (.ref 0), some (.ref 86), some (.int (nI i))] [] LAY K := by
  have hINV := hI
  obtain ⟨N, n, hh, T, S, Z, C, H, A, B, E, wt, L, hI⟩ := hI
  have hJ := hI.1.2.1
  have hn := hJ.1
  have hN := hJ.2.1
  have hR := hI.1.2.2.1
  have hK := hJ.2.2.2.2.1
  have hDo := hJ.2.2.2.2.2.1
  have hWt := hJ.2.2.2.2.2.2.1
  have hTx := hJ.2.2.2.2.2.2.2.1
  have hLw := hI.1.2.2.2
  have h87 := hI.1.1
  have hsil := hI.2.2.2.2.2.2.1
  have hSh := hI.2.2.1
  have hSl := hI.2.2.2.1
  refine A_aload_n rfl dL_law_1379 ?_
  refine A_callV (c_back l G K) m_X7_back ml_L_174 rfl lay_0 rfl (by decide) rfl rfl (Nat.le_of_ble_eq_true rfl) (by decide) (Nat.le_refl _) (Nat.le_refl _) dL_law_1380 (fun _ _ _ hqq => congrArg List.length hqq.2.1) ?_
  rintro _ _ K1 ⟨rfl, rfl, e1⟩
  refine A_aload_n rfl dL_law_1383 ?_
  refine A_callV (m_back l G K1) m_X8_back ml_L_177 rfl lay_86 rfl (by decide) rfl rfl (Nat.le_of_ble_eq_true rfl) (by decide) (Nat.le_refl _) (Nat.le_refl _) dL_law_1384 (fun _ _ _ hqq => congrArg List.length hqq.2.1) ?_
  rintro _ _ K2 ⟨rfl, rfl, e2⟩
  have hfin := hI.back e1 e2
  exact A_icmp_eq 1415 rfl dL_law_1387 (fun _ => hgo _ (hfin.1)) (fun cq => absurd (hfin.2) cq)
set_option maxHeartbeats 1000000 in
set_option maxRecDepth 100000 in
theorem lw_count (l : Launch) (G : Gm) (yn : String) (mc ms i : Nat) (Q : Pst) (hi : i + 6 ≤ g_sl G) (hb : g_sl G ≤ 3072) (K : Hp) (hI : INV K) (hgo : ∀ K2, INV K2 → AW l G (⟨RL, yn, "([I)Z"⟩ : MethodName) cL_law 4 (some FieldType.boolean) 155 mc ms Q mc ms 1415 [some (.ref 200000), some (.ref 0), some (.ref 86), some (.int (nI i))] [] LAY K2) : AW l G (⟨RL, yn, "([I)Z"⟩ : MethodName) cL_law 4 (some FieldType.boolean) 155 mc ms Q mc ms 1392 [some (.ref 200000), some (.ref 0), some (.ref 86), some (.int (nI i))] [] LAY K := by
  have hINV := hI
  obtain ⟨N, n, hh, T, S, Z, C, H, A, B, E, wt, L, hI⟩ := hI
  have hJ := hI.1.2.1
  have hn := hJ.1
  have hN := hJ.2.1
  have hR := hI.1.2.2.1
  have hK := hJ.2.2.2.2.1
  have hDo := hJ.2.2.2.2.2.1
  have hWt := hJ.2.2.2.2.2.2.1
  have hTx := hJ.2.2.2.2.2.2.2.1
  have hLw := hI.1.2.2.2
  have h87 := hI.1.1
  have hsil := hI.2.2.2.2.2.2.1
  have hSh := hI.2.2.1
  have hSl := hI.2.2.2.1
  refine A_aload_n rfl dL_law_1392 ?_
  refine A_aload_n rfl dL_law_1393 ?_
  refine A_iload_n rfl dL_law_1394 ?_
  refine A_iconst ic_1 dL_law_1395 ?_
  refine A_iadd dL_law_1396 ?_
  refine A_scld (i + 1) (ixc i 1) (by omega) (by omega) dL_law_1397 ?_
  refine A_callV (c_count l G K N n hn hN hR T hK hTx hLw hDo _) m_X7_count ml_L_178 rfl lay_0 rfl (by decide) rfl rfl (Nat.le_of_ble_eq_true rfl) (by decide) (Nat.le_refl _) (Nat.le_refl _) dL_law_1398 (fun _ _ _ hqq => congrArg List.length hqq.2.1) ?_
  rintro _ _ K1 ⟨rfl, rfl, hf1⟩
  have hI1 := hI.st hf1
  have e87 := hI1.1.1
  have s1 := hI1.2.2.2.2.2.2.1
  have sh1 := hI1.2.2.1
  refine A_aload_n rfl dL_law_1401 ?_
  refine A_aload_n rfl dL_law_1402 ?_
  refine A_iload_n rfl dL_law_1403 ?_
  refine A_iconst ic_1 dL_law_1404 ?_
  refine A_iadd dL_law_1405 ?_
  refine A_scld (i + 1) (ixc i 1) (by omega) (by omega) dL_law_1406 ?_
  refine A_callV (m_count l G K1 N e87 n hn hN T hTx _) m_X8_count ml_L_181 rfl lay_86 rfl (by decide) rfl rfl (Nat.le_of_ble_eq_true rfl) (by decide) (Nat.le_refl _) (Nat.le_refl _) dL_law_1407 (fun _ _ _ hqq => congrArg List.length hqq.2.1) ?_
  rintro _ _ K2 ⟨rfl, rfl, hf2⟩
  have hI2 := hI1.m1 hf2
  exact A_icmp_eq 1415 rfl dL_law_1410 (fun _ => hgo _ (⟨_, _, _, _, _, _, _, _, _, _, _, _, _, hI2⟩)) (fun cq => absurd (by rw [hI.2.2.2.2.1.2.1, hI.2.2.2.2.2.1.1, hI1.2.2.2.2.1.2.2.1, hI1.2.2.2.2.2.1.2.1]) cq)
