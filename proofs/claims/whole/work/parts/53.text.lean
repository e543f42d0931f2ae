def txQ (N : Nrow) (T key : Nat) (D : List Int32) (m : Nat) : Nrow := fun i => if i = 66 + 2 * T then nI (1000 * key + D.length) else if i = 67 + 2 * T then nI (m_at D) else if 94 + 96 * T ≤ i ∧ i < 94 + 96 * T + m then cdL D (i - (94 + 96 * T)) else N i
theorem txQ_0 {N : Nrow} {T key : Nat} {D : List Int32} : upd (upd N (66 + 2 * T) (nI (1000 * key + D.length))) (67 + 2 * T) (nI (m_at D)) = txQ N T key D 0 := by
  funext i
  unfold txQ upd
  by_cases h1 : i = 66 + 2 * T
  · rw [if_neg (show ¬ i = 67 + 2 * T by omega), if_pos h1, if_pos h1]
  · by_cases h2 : i = 67 + 2 * T
    · rw [if_pos h2, if_neg h1, if_pos h2]
    · rw [if_neg h2, if_neg h1, if_neg h1, if_neg h2, if_neg (by omega)]
theorem txQ_s {N : Nrow} {T key m : Nat} {D : List Int32} (hT : T < 14) : upd (txQ N T key D m) (94 + 96 * T + m) (cdL D m) = txQ N T key D (m + 1) := by
  funext i
  unfold upd
  by_cases h : i = 94 + 96 * T + m
  · rw [if_pos h]
    unfold txQ
    rw [if_neg (by omega), if_neg (by omega), if_pos (by omega), show i - (94 + 96 * T) = m by omega]
  · rw [if_neg h]
    unfold txQ
    by_cases h1 : i = 66 + 2 * T
    · rw [if_pos h1, if_pos h1]
    · rw [if_neg h1, if_neg h1]
      by_cases h2 : i = 67 + 2 * T
      · rw [if_pos h2, if_pos h2]
      · rw [if_neg h2, if_neg h2]
        by_cases h3 : 94 + 96 * T ≤ i ∧ i < 94 + 96 * T + m
        · rw [if_pos h3, if_pos (by omega)]
        · rw [if_neg h3, if_neg (by omega)]
theorem txQ_7 {N : Nrow} {T key m : Nat} {D : List Int32} : txQ N T key D m 7 = N 7 := by
  unfold txQ
  rw [if_neg (by omega), if_neg (by omega), if_neg (by omega)]
theorem txQ_e {N : Nrow} {T key : Nat} {D : List Int32} : upd (txQ N T key D D.length) 7 (nI (T + 1)) = txN N T key D := by
  funext i
  unfold upd txN txQ
  rfl
/-- what a text comes to -/
def OutT (B : Nat → Int32) (L f : Nat) : Prop := (f = (tk0 B L).1 ∧ ∀ j, j ≤ 2 → ¬ lx_wd B (tk0 B L) j)
set_option maxHeartbeats 1000000 in
set_option maxRecDepth 100000 in
theorem m_text (l : Launch) (G : Gm) (I : Hp) (T : Nat) (hTx : TxJ (I 87) T) (B : Nat → Int32) (L : Nat) (hB : TpM B L I) (hKy : KyM I) (hout : (∀ j, j ≤ 2 → ¬ lx_wd B (tk0 B L) j) ∨ ∃ key n0 r0, KyW B L key ∧ m_run B L key n0 (lx_nx B L (tk0 B L)) true [] [] 0 (fun _ => false) = some r0 ∧ (r0.1 = true → r0.2.2.length ≤ 96)) : Meth l G yX8_text cX8_text 4 (some (FieldType.int)) 5 0 0 [.ref 86] LAY I (fun r lay1 I1 => ∃ x, r = some (.int x) ∧ lay1 = LAY ∧ I1 86 7 = 0 ∧ (∀ j, j ≠ 7 → j ≠ 8 → j ≠ 9 → j ≠ 10 → j ≠ 11 → j ≠ 12 → j ≠ 13 → j ≠ 17 → j ≠ 18 → j ≠ 20 → I1 86 j = I 86 j) ∧ (((∀ j, j ≤ 2 → ¬ lx_wd B (tk0 B L) j) ∧ x = -100 - nI (tk0 B L).1 ∧ (∀ q, q ≠ 86 → q ≠ 94 → q ≠ 95 → q ≠ 96 → I1 q = I q)) ∨ ∃ key n0 r0, KyW B L key ∧ m_run B L key n0 (lx_nx B L (tk0 B L)) true [] [] 0 (fun _ => false) = some r0 ∧ ((r0.1 = false ∧ x = -100 - nI r0.2.1 ∧ (∀ q, q ≠ 86 → q ≠ 94 → q ≠ 95 → q ≠ 96 → I1 q = I q)) ∨ (r0.1 = true ∧ ((T = 14 ∧ x = -1000000003 ∧ (∀ q, q ≠ 86 → q ≠ 94 → q ≠ 95 → q ≠ 96 → I1 q = I q)) ∨ (T < 14 ∧ x = nI T ∧ I1 87 = txN (I 87) T key r0.2.2 ∧ (∀ q, q ≠ 86 → q ≠ 87 → q ≠ 94 → q ≠ 95 → q ≠ 96 → I1 q = I q))))))) := by
  have loop : ∀ (lpn : Nat) (m : Nat) (K K0 : Hp) (key n0 : Nat) (r0 : Bool × Nat × List Int32), r0.2.2.length - m = lpn → (T < 14) → (KyW B L key) → (m_run B L key n0 (lx_nx B L (tk0 B L)) true [] [] 0 (fun _ => false) = some r0) → (r0.1 = true) → (m ≤ r0.2.2.length) → (r0.2.2.length ≤ 96) → (K 87 = txQ (I 87) T key r0.2.2 m) → (∀ q, q ≠ 87 → K q = K0 q) → (K0 86 7 = 0) → (K0 86 17 = nI r0.2.2.length) → (RepL (K0 94) r0.2.2) → (∀ j, j ≠ 7 → j ≠ 8 → j ≠ 9 → j ≠ 10 → j ≠ 11 → j ≠ 12 → j ≠ 13 → j ≠ 17 → j ≠ 18 → j ≠ 20 → K0 86 j = I 86 j) → (∀ q, q ≠ 86 → q ≠ 94 → q ≠ 95 → q ≠ 96 → K0 q = I q) → AW l G yX8_text cX8_text 4 (some (FieldType.int)) 5 0 0 (fun r lay1 I1 => ∃ x, r = some (.int x) ∧ lay1 = LAY ∧ I1 86 7 = 0 ∧ (∀ j, j ≠ 7 → j ≠ 8 → j ≠ 9 → j ≠ 10 → j ≠ 11 → j ≠ 12 → j ≠ 13 → j ≠ 17 → j ≠ 18 → j ≠ 20 → I1 86 j = I 86 j) ∧ (((∀ j, j ≤ 2 → ¬ lx_wd B (tk0 B L) j) ∧ x = -100 - nI (tk0 B L).1 ∧ (∀ q, q ≠ 86 → q ≠ 94 → q ≠ 95 → q ≠ 96 → I1 q = I q)) ∨ ∃ key n0 r0, KyW B L key ∧ m_run B L key n0 (lx_nx B L (tk0 B L)) true [] [] 0 (fun _ => false) = some r0 ∧ ((r0.1 = false ∧ x = -100 - nI r0.2.1 ∧ (∀ q, q ≠ 86 → q ≠ 94 → q ≠ 95 → q ≠ 96 → I1 q = I q)) ∨ (r0.1 = true ∧ ((T = 14 ∧ x = -1000000003 ∧ (∀ q, q ≠ 86 → q ≠ 94 → q ≠ 95 → q ≠ 96 → I1 q = I q)) ∨ (T < 14 ∧ x = nI T ∧ I1 87 = txN (I 87) T key r0.2.2 ∧ (∀ q, q ≠ 86 → q ≠ 87 → q ≠ 94 → q ≠ 95 → q ≠ 96 → I1 q = I q))))))) 0 0 117 [some (.ref 86), some (.int 1), some (.int (nI T)), some (.int (nI m))] [] LAY K := by
    intro lpn
    induction lpn using Nat.strongRecOn with
    | _ lpn ih =>
      intro m K K0 key n0 r0 hms hT hky hrun hr1 hm hD h87 hKq h7 h17 h94 hf1 hf2
      refine A_iload_n rfl dX8_text_117 ?_
      refine A_aload_n rfl dX8_text_118 ?_
      refine A_getI fr_X8_236.g rfl lay_86 dX8_text_119 ?_
      rw [hKq 86 (by decide), h17]
      refine A_icmp_ge 151 rfl dX8_text_122 (fun cq122 => ?_) (fun cq122 => ?_)
      · skip
        have hmn : m = r0.2.2.length := by
          have hq1 := (le_nI (rfl : nI r0.2.2.length = nI r0.2.2.length) (rfl : nI m = nI m) (by omega) (by omega)).mp cq122
          omega
        subst hmn
        refine A_aload_n rfl dX8_text_151 ?_
        refine A_getR fr_X8_9.g rfl lay_86 rfl dX8_text_152 ?_
        refine A_bipush bp_7 dX8_text_155 ?_
        refine A_dup2 rfl rfl dX8_text_157 ?_
        refine A_iald 7 rfl lay_87 (by decide) (by decide) dX8_text_158 ?_
        rw [h87, txQ_7, hTx.2.1]
        refine A_iconst ic_1 dX8_text_159 ?_
        refine A_iadd dX8_text_160 ?_
        rw [nI_1]
        refine A_iast 7 rfl lay_87 (by decide) (by decide) dX8_text_161 ?_
        refine A_iload_n rfl dX8_text_162 ?_
        refine A_iret rfl rfl rfl rfl dX8_text_163 ?_
        refine ⟨_, rfl, rfl, by rw [up2_ne (by decide), hKq 86 (by decide)]; exact h7, fun j a b c d e f g h i k => by rw [up2_ne (by decide), hKq 86 (by decide)]; exact hf1 j a b c d e f g h i k, Or.inr ⟨key, n0, r0, hky, hrun, Or.inr ⟨hr1, Or.inr ⟨hT, rfl, ?_, fun q a b c d e => by rw [up2_ne b, hKq q b]; exact hf2 q a c d e⟩⟩⟩⟩
        rw [up2_row, h87, txQ_e]
      · skip
        have hmn : m < r0.2.2.length := by
          have hq1 := mt (le_nI (rfl : nI r0.2.2.length = nI r0.2.2.length) (rfl : nI m = nI m) (by omega) (by omega)).mpr cq122
          omega
        refine A_aload_n rfl dX8_text_125 ?_
        refine A_getR fr_X8_9.g rfl lay_86 rfl dX8_text_126 ?_
        refine A_bipush bp_94 dX8_text_129 ?_
        refine A_bipush bp_96 dX8_text_131 ?_
        refine A_iload_n rfl dX8_text_133 ?_
        refine A_imul dX8_text_134 ?_
        refine A_iadd dX8_text_135 ?_
        refine A_iload_n rfl dX8_text_136 ?_
        refine A_iadd dX8_text_137 ?_
        rw [ix_cd T m]
        refine A_aload_n rfl dX8_text_138 ?_
        refine A_getR fr_X8_36.g rfl lay_86 rfl dX8_text_139 ?_
        refine A_iload_n rfl dX8_text_142 ?_
        refine A_iald m rfl lay_94 (by omega) (by decide) dX8_text_143 ?_
        rw [hKq 94 (by decide), RepL.det h94 (cdL_rep r0.2.2) m hmn]
        refine A_iast (94 + 96 * T + m) rfl lay_87 (by omega) (by decide) dX8_text_144 ?_
        refine A_iinc ic_1 rfl (by decide) rfl dX8_text_145 ?_
        refine A_goto 117 rfl dX8_text_148 ?_
        refine AW_L (by rw [nI_1]) ?_
        refine ih (r0.2.2.length - (m + 1)) (by omega) (m + 1) _ K0 key n0 r0 rfl hT hky hrun hr1 (by omega) hD ?_ (fun q hq => ?_) h7 h17 h94 hf1 hf2
        · rw [up2_row, h87, txQ_s hT]
        · rw [up2_ne hq]; exact hKq q hq
  have jf : ∀ (lpn : Nat) (z f : Nat) (K : Hp) (o2 o3 : Option Value), z = lpn → (K 86 9 = nI f) → (∀ j, j ≠ 7 → j ≠ 8 → j ≠ 9 → j ≠ 10 → j ≠ 11 → j ≠ 12 → j ≠ 13 → j ≠ 17 → j ≠ 18 → j ≠ 20 → K 86 j = I 86 j) → (∀ q, q ≠ 86 → q ≠ 94 → q ≠ 95 → q ≠ 96 → K q = I q) → (((∀ j, j ≤ 2 → ¬ lx_wd B (tk0 B L) j) ∧ f = (tk0 B L).1) ∨ ∃ key n0 r0, KyW B L key ∧ m_run B L key n0 (lx_nx B L (tk0 B L)) true [] [] 0 (fun _ => false) = some r0 ∧ r0.1 = false ∧ f = r0.2.1) → AW l G yX8_text cX8_text 4 (some (FieldType.int)) 5 0 0 (fun r lay1 I1 => ∃ x, r = some (.int x) ∧ lay1 = LAY ∧ I1 86 7 = 0 ∧ (∀ j, j ≠ 7 → j ≠ 8 → j ≠ 9 → j ≠ 10 → j ≠ 11 → j ≠ 12 → j ≠ 13 → j ≠ 17 → j ≠ 18 → j ≠ 20 → I1 86 j = I 86 j) ∧ (((∀ j, j ≤ 2 → ¬ lx_wd B (tk0 B L) j) ∧ x = -100 - nI (tk0 B L).1 ∧ (∀ q, q ≠ 86 → q ≠ 94 → q ≠ 95 → q ≠ 96 → I1 q = I q)) ∨ ∃ key n0 r0, KyW B L key ∧ m_run B L key n0 (lx_nx B L (tk0 B L)) true [] [] 0 (fun _ => false) = some r0 ∧ ((r0.1 = false ∧ x = -100 - nI r0.2.1 ∧ (∀ q, q ≠ 86 → q ≠ 94 → q ≠ 95 → q ≠ 96 → I1 q = I q)) ∨ (r0.1 = true ∧ ((T = 14 ∧ x = -1000000003 ∧ (∀ q, q ≠ 86 → q ≠ 94 → q ≠ 95 → q ≠ 96 → I1 q = I q)) ∨ (T < 14 ∧ x = nI T ∧ I1 87 = txN (I 87) T key r0.2.2 ∧ (∀ q, q ≠ 86 → q ≠ 87 → q ≠ 94 → q ≠ 95 → q ≠ 96 → I1 q = I q))))))) 0 0 34 [some (.ref 86), some (.int 0), o2, o3] [] LAY K := by
    intro lpn
    induction lpn using Nat.strongRecOn with
    | _ lpn ih =>
      intro z f K o2 o3 hms h9 hf1 hf2 hres
      refine A_aload_n rfl dX8_text_34 ?_
      refine A_iconst ic_0 dX8_text_35 ?_
      refine A_putI fr_X8_200 rfl lay_86 rfl rfl dX8_text_36 ?_
      refine A_iload_n rfl dX8_text_39 ?_
      refine A_if_ne 51 rfl dX8_text_40 (fun cq40 => absurd (rfl) cq40) (fun cq40 => ?_)
      refine A_bipush bp_m100 dX8_text_43 ?_
      refine A_aload_n rfl dX8_text_45 ?_
      refine A_getI fr_X8_206.g rfl lay_86 dX8_text_46 ?_
      rw [up2_ni (show (9 : Nat) ≠ 7 by decide), h9]
      refine A_isub dX8_text_49 ?_
      refine A_iret rfl rfl rfl rfl dX8_text_50 ?_
      have hq2 : ∀ q, q ≠ 86 → q ≠ 94 → q ≠ 95 → q ≠ 96 → (up2 K 86 7 0) q = I q := fun q a b c d => by rw [up2_ne a]; exact hf2 q a b c d
      refine ⟨_, rfl, rfl, up2_same, fun j a b c d e f g h i k => by rw [up2_ni a]; exact hf1 j a b c d e f g h i k, ?_⟩
      rcases hres with ⟨z1, z2⟩ | ⟨key, n0, r0, z1, z2, z3, z4⟩
      · exact Or.inl ⟨z1, by rw [z2], hq2⟩
      · exact Or.inr ⟨key, n0, r0, z1, z2, Or.inl ⟨z3, by rw [z4], hq2⟩⟩
  have jo : ∀ (lpn : Nat) (z : Nat) (K : Hp) (key n0 : Nat) (r0 : Bool × Nat × List Int32) (o2 o3 : Option Value), z = lpn → (KyW B L key) → (m_run B L key n0 (lx_nx B L (tk0 B L)) true [] [] 0 (fun _ => false) = some r0) → (r0.1 = true) → (r0.2.2.length ≤ 96) → (K 86 13 = nI key) → (K 86 17 = nI r0.2.2.length) → (K 86 18 = nI (m_at r0.2.2)) → (RepL (K 94) r0.2.2) → (∀ j, j ≠ 7 → j ≠ 8 → j ≠ 9 → j ≠ 10 → j ≠ 11 → j ≠ 12 → j ≠ 13 → j ≠ 17 → j ≠ 18 → j ≠ 20 → K 86 j = I 86 j) → (∀ q, q ≠ 86 → q ≠ 94 → q ≠ 95 → q ≠ 96 → K q = I q) → AW l G yX8_text cX8_text 4 (some (FieldType.int)) 5 0 0 (fun r lay1 I1 => ∃ x, r = some (.int x) ∧ lay1 = LAY ∧ I1 86 7 = 0 ∧ (∀ j, j ≠ 7 → j ≠ 8 → j ≠ 9 → j ≠ 10 → j ≠ 11 → j ≠ 12 → j ≠ 13 → j ≠ 17 → j ≠ 18 → j ≠ 20 → I1 86 j = I 86 j) ∧ (((∀ j, j ≤ 2 → ¬ lx_wd B (tk0 B L) j) ∧ x = -100 - nI (tk0 B L).1 ∧ (∀ q, q ≠ 86 → q ≠ 94 → q ≠ 95 → q ≠ 96 → I1 q = I q)) ∨ ∃ key n0 r0, KyW B L key ∧ m_run B L key n0 (lx_nx B L (tk0 B L)) true [] [] 0 (fun _ => false) = some r0 ∧ ((r0.1 = false ∧ x = -100 - nI r0.2.1 ∧ (∀ q, q ≠ 86 → q ≠ 94 → q ≠ 95 → q ≠ 96 → I1 q = I q)) ∨ (r0.1 = true ∧ ((T = 14 ∧ x = -1000000003 ∧ (∀ q, q ≠ 86 → q ≠ 94 → q ≠ 95 → q ≠ 96 → I1 q = I q)) ∨ (T < 14 ∧ x = nI T ∧ I1 87 = txN (I 87) T key r0.2.2 ∧ (∀ q, q ≠ 86 → q ≠ 87 → q ≠ 94 → q ≠ 95 → q ≠ 96 → I1 q = I q))))))) 0 0 34 [some (.ref 86), some (.int 1), o2, o3] [] LAY K := by
    intro lpn
    induction lpn using Nat.strongRecOn with
    | _ lpn ih =>
      intro z K key n0 r0 o2 o3 hms hky hrun hr1 hD h13 h17 h18 h94 hf1 hf2
      have hN7 : (up2 K 86 7 0) 87 7 = nI T := by rw [up2_ne (by decide), hf2 87 (by decide) (by decide) (by decide) (by decide)]; exact hTx.2.1
      have ht14 := hTx.1
      refine A_aload_n rfl dX8_text_34 ?_
      refine A_iconst ic_0 dX8_text_35 ?_
      refine A_putI fr_X8_200 rfl lay_86 rfl rfl dX8_text_36 ?_
      refine A_iload_n rfl dX8_text_39 ?_
      refine A_if_ne 51 rfl dX8_text_40 (fun cq40 => ?_) (fun cq40 => absurd cq40 (by decide))
      refine A_aload_n rfl dX8_text_51 ?_
      refine A_getR fr_X8_9.g rfl lay_86 rfl dX8_text_52 ?_
      refine A_bipush bp_7 dX8_text_55 ?_
      refine A_iald 7 rfl lay_87 (by decide) (by decide) dX8_text_57 ?_
      rw [hN7]
      refine A_bipush bp_14 dX8_text_58 ?_
      refine A_icmp_ne 66 rfl dX8_text_60 (fun cq60 => ?_) (fun cq60 => ?_)
      · skip
        have hT : T < 14 := by
          have h7 : ¬ T = 14 := fun q => cq60 (by rw [q]; rfl)
          omega
        refine A_aload_n rfl dX8_text_66 ?_
        refine A_getR fr_X8_9.g rfl lay_86 rfl dX8_text_67 ?_
        refine A_bipush bp_7 dX8_text_70 ?_
        refine A_iald 7 rfl lay_87 (by decide) (by decide) dX8_text_72 ?_
        rw [hN7]
        refine A_istore_n (by decide) rfl dX8_text_73 ?_
        refine A_aload_n rfl dX8_text_74 ?_
        refine A_getR fr_X8_9.g rfl lay_86 rfl dX8_text_75 ?_
        refine A_bipush bp_66 dX8_text_78 ?_
        refine A_iconst ic_2 dX8_text_80 ?_
        refine A_iload_n rfl dX8_text_81 ?_
        refine A_imul dX8_text_82 ?_
        refine A_iadd dX8_text_83 ?_
        rw [ix_2 T]
        refine A_sipush sp_1000 dX8_text_84 ?_
        refine A_aload_n rfl dX8_text_87 ?_
        refine A_getI fr_X8_224.g rfl lay_86 dX8_text_88 ?_
        rw [up2_ni (show (13 : Nat) ≠ 7 by decide), h13]
        refine A_imul dX8_text_91 ?_
        refine A_aload_n rfl dX8_text_92 ?_
        refine A_getI fr_X8_236.g rfl lay_86 dX8_text_93 ?_
        rw [up2_ni (show (17 : Nat) ≠ 7 by decide), h17]
        refine A_iadd dX8_text_96 ?_
        rw [show (1000 : Int32) = nI 1000 from rfl, pk_mul, nI_add]
        refine A_iast (66 + 2 * T) rfl lay_87 (by omega) (by decide) dX8_text_97 ?_
        refine A_aload_n rfl dX8_text_98 ?_
        refine A_getR fr_X8_9.g rfl lay_86 rfl dX8_text_99 ?_
        refine A_bipush bp_66 dX8_text_102 ?_
        refine A_iconst ic_2 dX8_text_104 ?_
        refine A_iload_n rfl dX8_text_105 ?_
        refine A_imul dX8_text_106 ?_
        refine A_iadd dX8_text_107 ?_
        refine A_iconst ic_1 dX8_text_108 ?_
        refine A_iadd dX8_text_109 ?_
        rw [ix_21 T]
        refine A_aload_n rfl dX8_text_110 ?_
        refine A_getI fr_X8_242.g rfl lay_86 dX8_text_111 ?_
        rw [up2_ne (show (86 : Nat) ≠ 87 by decide), up2_ni (show (18 : Nat) ≠ 7 by decide), h18]
        refine A_iast (67 + 2 * T) rfl lay_87 (by omega) (by decide) dX8_text_114 ?_
        refine A_iconst ic_0 dX8_text_115 ?_
        refine A_istore_n (by decide) rfl dX8_text_116 ?_
        refine loop _ 0 _ (up2 K 86 7 0) key n0 r0 rfl hT hky hrun hr1 (Nat.zero_le _) hD ?_ (fun q hq => ?_) up2_same ?_ ?_ (fun j a b c d e f g h i k => by rw [up2_ni a]; exact hf1 j a b c d e f g h i k) (fun q a b c d => by rw [up2_ne a]; exact hf2 q a b c d)
        · rw [up2_row, up2_row, up2_ne (by decide), hf2 87 (by decide) (by decide) (by decide) (by decide), txQ_0]
        · rw [up2_ne hq, up2_ne hq]
        · rw [up2_ni (by decide)]; exact h17
        · rw [up2_ne (by decide)]; exact h94
      · skip
        refine A_ldc kc_X8_89 rfl dX8_text_63 ?_
        refine A_iret rfl rfl rfl rfl dX8_text_65 ?_
        have h7 : nI T = 14 := cq60
        have hT : T = 14 := (nI_eq (b := 14) (by omega) (by decide)).mp h7
        exact ⟨_, rfl, rfl, up2_same, fun j a b c d e f g h i k => by rw [up2_ni a]; exact hf1 j a b c d e f g h i k, Or.inr ⟨key, n0, r0, hky, hrun, Or.inr ⟨hr1, Or.inl ⟨hT, rfl, fun q a b c d => by rw [up2_ne a]; exact hf2 q a b c d⟩⟩⟩⟩
  refine Meth.of (by decide +kernel) (by simp [Value.category]) (Nat.le_of_ble_eq_true rfl) ?_
  have hB0 : TpM B L (up2 (up2 I 86 8 0) 86 12 (-1)) := hB.fr (by rw [up2_ni (by decide), up2_ni (by decide)]) (by rw [up2_ne (by decide), up2_ne (by decide)])
  have hEn : EnR (-1) false 0 := ⟨fun q => (by cases q), fun _ j _ hj q => absurd q.symm (nI_nm1 (by omega))⟩
  refine A_aload_n rfl dX8_text_0 ?_
  refine A_iconst ic_0 dX8_text_1 ?_
  refine A_putI fr_X8_203 rfl lay_86 rfl rfl dX8_text_2 ?_
  refine A_aload_n rfl dX8_text_5 ?_
  refine A_iconst ic_m1 dX8_text_6 ?_
  refine A_putI fr_X8_209 rfl lay_86 rfl rfl dX8_text_7 ?_
  refine A_aload_n rfl dX8_text_10 ?_
  refine A_callV (t_gow l G (up2 (up2 I 86 8 0) 86 12 (-1)) B L hB0 0 false (Nat.zero_le _) (by rw [up2_ni (by decide), up2_same]; rfl) (by rw [up2_same]; exact hEn)) m_X8_go ml_X8_227 rfl lay_86 rfl (by decide) rfl rfl (Nat.le_of_ble_eq_true rfl) (by decide) (by decide) (by decide) dX8_text_11 (fun _ _ _ hqq => congrArg List.length hqq.2.1) ?_
  rintro _ _ K ⟨rfl, rfl, hT, g2, g3⟩
  have hT : TkM B K (tk0 B L) := hT
  have hIx : lx_I B L (tk0 B L) := lx_I.of hB.2.2 (Nat.zero_le _)
  have hB1 : TpM B L K := hB0.fr (g2 7 (by decide) (by decide) (by decide) (by decide) (by decide)) (g3 91 (by decide))
  have hK1 : KyM K := by unfold KyM; rw [g3 92 (by decide), g3 93 (by decide), up2_ne (by decide), up2_ne (by decide), up2_ne (by decide), up2_ne (by decide)]; exact hKy
  have hf1 : ∀ j, j ≠ 7 → j ≠ 8 → j ≠ 9 → j ≠ 10 → j ≠ 11 → j ≠ 12 → j ≠ 13 → j ≠ 17 → j ≠ 18 → j ≠ 20 → K 86 j = I 86 j := fun j a b c d e f g h i k => by rw [g2 j b c d e f, up2_ni f, up2_ni b]
  have hf2 : ∀ q, q ≠ 86 → q ≠ 94 → q ≠ 95 → q ≠ 96 → K q = I q := fun q a b c d => by rw [g3 q a, up2_ne a, up2_ne a]
  refine A_aload_n rfl dX8_text_14 ?_
  refine A_callV (t_key l G K B L hB1 (tk0 B L) hT hIx rfl hK1) m_X8_takesKey ml_X8_259 rfl lay_86 rfl (by decide) rfl rfl (Nat.le_of_ble_eq_true rfl) (by decide) (by decide) (by decide) dX8_text_15 (fun _ _ _ ⟨_, _, hqq, _⟩ => congrArg List.length hqq) ?_
  rintro _ _ K2 ⟨b1, rfl, rfl, hy1, hn1⟩
  refine A_if_eq 32 rfl dX8_text_18 (fun cq18 => ?_) (fun cq18 => ?_)
  · skip
    refine A_iconst ic_0 dX8_text_32 ?_
    refine A_istore_n (by decide) rfl dX8_text_33 ?_
    first
      | (have h7 : b2i b1 = 0 := cq18
         obtain ⟨hno, hKe⟩ := hn1 (b2i_0.mp h7)
         subst hKe
         exact jf _ 0 (tk0 B L).1 _ _ _ rfl hT.2.1 hf1 hf2 (Or.inl ⟨hno, rfl⟩))
      | (have h7 : b2i b2 = 0 := cq25
         exact jf _ 0 r0.2.1 K3 _ _ rfl h9 hf5 hf6 (Or.inr ⟨key1, n0, r0, hky, hrun, hb2.symm.trans (b2i_0.mp h7), rfl⟩))
      | (have h7 : ¬ b2i b2 = 0 := cq25
         have h8 := b2i_1.mp h7
         obtain ⟨c1, c2, c3⟩ := hyE h8
         exact jo _ 0 K3 key1 n0 r0 _ _ rfl hky hrun (hb2.symm.trans h8) (hlen (hb2.symm.trans h8)) ((e1 13 (by decide) (by decide) (by decide) (by decide) (by decide) (by decide) (by decide) (by decide)).trans h13) c1 c2 c3 hf5 hf6)
  · skip
    obtain ⟨key1, hk2, hw1, hw2, h13, ht2, e3, e4⟩ := hy1 (b2i_1.mp cq18)
    rcases hout with hno | ⟨key, n0, r0, hky, hrun, hlen⟩
    · exact absurd hw1 (hno key1 hk2)
    obtain rfl := ky_eq hw1 hw2 hky.2.1 hky.2.2
    have hB2 : TpM B L K2 := hB1.fr (e3 7 (by decide) (by decide) (by decide) (by decide) (by decide) (by decide)) (e4 91 (by decide))
    have hf3 : ∀ j, j ≠ 7 → j ≠ 8 → j ≠ 9 → j ≠ 10 → j ≠ 11 → j ≠ 12 → j ≠ 13 → j ≠ 17 → j ≠ 18 → j ≠ 20 → K2 86 j = I 86 j := fun j a b c d e f g h i k => by rw [e3 j b c d e f g]; exact hf1 j a b c d e f g h i k
    have hf4 : ∀ q, q ≠ 86 → q ≠ 94 → q ≠ 95 → q ≠ 96 → K2 q = I q := fun q a b c d => by rw [e4 q a]; exact hf2 q a b c d
    refine A_aload_n rfl dX8_text_21 ?_
    refine A_callV (t_E l G K2 B L key1 hk2 (lx_nx B L (tk0 B L)) hB2 ht2 (hIx.nx hB.2.2) h13 n0 r0 hrun) m_X8_takesE ml_X8_262 rfl lay_86 rfl (by decide) rfl rfl (Nat.le_of_ble_eq_true rfl) (by decide) (by decide) (by decide) dX8_text_22 (fun _ _ _ ⟨_, _, hqq, _⟩ => congrArg List.length hqq) ?_
    rintro _ _ K3 ⟨b2, rfl, rfl, hb2, h9, hyE, e1, e2⟩
    have hf5 : ∀ j, j ≠ 7 → j ≠ 8 → j ≠ 9 → j ≠ 10 → j ≠ 11 → j ≠ 12 → j ≠ 13 → j ≠ 17 → j ≠ 18 → j ≠ 20 → K3 86 j = I 86 j := fun j a b c d e f g h i k => by rw [e1 j b c d e f h i k]; exact hf3 j a b c d e f g h i k
    have hf6 : ∀ q, q ≠ 86 → q ≠ 94 → q ≠ 95 → q ≠ 96 → K3 q = I q := fun q a b c d => by rw [e2 q a b c d]; exact hf4 q a b c d
    refine A_if_eq 32 rfl dX8_text_25 (fun cq25 => ?_) (fun cq25 => ?_)
    · skip
      refine A_iconst ic_0 dX8_text_32 ?_
      refine A_istore_n (by decide) rfl dX8_text_33 ?_
      first
        | (have h7 : b2i b1 = 0 := cq18
           obtain ⟨hno, hKe⟩ := hn1 (b2i_0.mp h7)
           subst hKe
           exact jf _ 0 (tk0 B L).1 _ _ _ rfl hT.2.1 hf1 hf2 (Or.inl ⟨hno, rfl⟩))
        | (have h7 : b2i b2 = 0 := cq25
           exact jf _ 0 r0.2.1 K3 _ _ rfl h9 hf5 hf6 (Or.inr ⟨key1, n0, r0, hky, hrun, hb2.symm.trans (b2i_0.mp h7), rfl⟩))
        | (have h7 : ¬ b2i b2 = 0 := cq25
           have h8 := b2i_1.mp h7
           obtain ⟨c1, c2, c3⟩ := hyE h8
           exact jo _ 0 K3 key1 n0 r0 _ _ rfl hky hrun (hb2.symm.trans h8) (hlen (hb2.symm.trans h8)) ((e1 13 (by decide) (by decide) (by decide) (by decide) (by decide) (by decide) (by decide) (by decide)).trans h13) c1 c2 c3 hf5 hf6)
    · skip
      refine A_iconst ic_1 dX8_text_28 ?_
      refine A_goto 33 rfl dX8_text_29 ?_
      refine A_istore_n (by decide) rfl dX8_text_33 ?_
      first
        | (have h7 : b2i b1 = 0 := cq18
           obtain ⟨hno, hKe⟩ := hn1 (b2i_0.mp h7)
           subst hKe
           exact jf _ 0 (tk0 B L).1 _ _ _ rfl hT.2.1 hf1 hf2 (Or.inl ⟨hno, rfl⟩))
        | (have h7 : b2i b2 = 0 := cq25
           exact jf _ 0 r0.2.1 K3 _ _ rfl h9 hf5 hf6 (Or.inr ⟨key1, n0, r0, hky, hrun, hb2.symm.trans (b2i_0.mp h7), rfl⟩))
        | (have h7 : ¬ b2i b2 = 0 := cq25
           have h8 := b2i_1.mp h7
           obtain ⟨c1, c2, c3⟩ := hyE h8
           exact jo _ 0 K3 key1 n0 r0 _ _ rfl hky hrun (hb2.symm.trans h8) (hlen (hb2.symm.trans h8)) ((e1 13 (by decide) (by decide) (by decide) (by decide) (by decide) (by decide) (by decide) (by decide)).trans h13) c1 c2 c3 hf5 hf6)
