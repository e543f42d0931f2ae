def q_ws (a b c : Int32) (k : Nat) : Int32 := if k < 4 then a else if k < 8 then b else c
def t_upto (f : Nat → Int32) (L : Nat) (a b c : Int32) (k : Nat) : Nat → Int32 := fun j => if L ≤ j ∧ j < L + k then q_byte (q_ws a b c (j - L)) ((j - L) % 4) else f j
theorem t_up0 {f : Nat → Int32} {L : Nat} {a b c : Int32} : t_upto f L a b c 0 = f := by
  funext j
  unfold t_upto
  rw [if_neg (by omega)]
theorem t_upS {f : Nat → Int32} {L : Nat} {a b c : Int32} {k : Nat} : upd (t_upto f L a b c k) (L + k) (q_byte (q_ws a b c k) (k % 4)) = t_upto f L a b c (k + 1) := by
  funext j
  unfold t_upto upd
  by_cases e : j = L + k
  · subst e
    rw [if_pos rfl, if_pos (by omega), show L + k - L = k by omega]
  · rw [if_neg e]
    dsimp only
    by_cases h : L ≤ j ∧ j < L + k
    · rw [if_pos h, if_pos (by omega)]
    · rw [if_neg h, if_neg (by omega)]
theorem t_upE {f : Nat → Int32} {L : Nat} {a b c : Int32} : t_upto f L a b c 12 = t_feed f L a b c := by
  funext j
  unfold t_feed t_upto t_word q_ws
  by_cases h3 : L + 4 + 4 ≤ j ∧ j < L + 4 + 4 + 4
  · rw [if_pos h3, if_pos (by omega), if_neg (by omega), if_neg (by omega), show (j - L) % 4 = j - (L + 4 + 4) by omega]
  · rw [if_neg h3]
    by_cases h2 : L + 4 ≤ j ∧ j < L + 4 + 4
    · rw [if_pos h2, if_pos (by omega), if_neg (by omega), if_pos (by omega), show (j - L) % 4 = j - (L + 4) by omega]
    · rw [if_neg h2]
      by_cases h1 : L ≤ j ∧ j < L + 4
      · rw [if_pos h1, if_pos (by omega), if_pos (by omega), show (j - L) % 4 = j - L by omega]
      · rw [if_neg h1, if_neg (by omega)]
theorem sv_k : ∀ k, k < 12 → (24 : Int32) - 8 * (nI k - nI k / 4 * 4) = nI (24 - 8 * (k % 4)) ∧ q_sv (k % 4) = nI (24 - 8 * (k % 4)) := by decide +kernel
theorem by_k (x : Int32) {k : Nat} (hk : k < 12) : (x >>> ((24 - 8 * (nI k - nI k / 4 * 4)) &&& 31)) &&& 255 = q_byte x (k % 4) := by
  obtain ⟨e1, e2⟩ := sv_k k hk
  unfold q_byte
  rw [e1, e2]
  exact sh_b x _ (24 - 8 * (k % 4)) (by omega) rfl
set_option maxHeartbeats 1000000 in
set_option maxRecDepth 100000 in
theorem m_feed (l : Launch) (G : Gm) (I : Hp) (L : Nat) (hL : L ≤ 96) (h0 : I 86 7 = nI L) (a b c : Int32) : Meth l G yX8_feed cX8_feed 6 (some (FieldType.int)) 2 0 0 [.ref 86, .int a, .int b, .int c] LAY I (fun r lay1 I1 => r = some (.int (f_feed L)) ∧ lay1 = LAY ∧ (84 < L → I1 = I) ∧ (¬ 84 < L → I1 86 7 = nI (L + 12) ∧ I1 91 = t_feed (I 91) L a b c ∧ (∀ j, j ≠ 7 → I1 86 j = I 86 j) ∧ (∀ q, q ≠ 86 → q ≠ 91 → I1 q = I q))) := by
  have loop : ∀ (lpn : Nat) (k : Nat) (o5 : Option Value) (K : Hp), 12 - k = lpn → (L ≤ 84) → (k ≤ 12) → (K 91 = t_upto (I 91) L a b c k) → (∀ q, q ≠ 91 → K q = I q) → AW l G yX8_feed cX8_feed 6 (some (FieldType.int)) 2 0 0 (fun r lay1 I1 => r = some (.int (f_feed L)) ∧ lay1 = LAY ∧ (84 < L → I1 = I) ∧ (¬ 84 < L → I1 86 7 = nI (L + 12) ∧ I1 91 = t_feed (I 91) L a b c ∧ (∀ j, j ≠ 7 → I1 86 j = I 86 j) ∧ (∀ q, q ≠ 86 → q ≠ 91 → I1 q = I q))) 0 0 18 [some (.ref 86), some (.int a), some (.int b), some (.int c), some (.int (nI k)), o5] [] LAY K := by
    intro lpn
    induction lpn using Nat.strongRecOn with
    | _ lpn ih =>
      intro k o5 K hms hl hk h91 hfr
      have h7k : K 86 7 = nI L := by rw [hfr 86 (by decide)]; exact h0
      refine A_iload rfl dX8_feed_18 ?_
      refine A_bipush bp_12 dX8_feed_20 ?_
      refine A_icmp_ge 84 rfl dX8_feed_22 (fun cq22 => ?_) (fun cq22 => ?_)
      · skip
        have hkn : k = 12 := by
          have hq1 := (le_nI (show (12 : Int32) = nI 12 from rfl) (rfl : nI k = nI k) (by omega) (by omega)).mp cq22
          omega
        subst hkn
        refine A_aload_n rfl dX8_feed_84 ?_
        refine A_dup rfl dX8_feed_85 ?_
        refine A_getI fr_X8_200.g rfl lay_86 dX8_feed_86 ?_
        rw [h7k]
        refine A_bipush bp_12 dX8_feed_89 ?_
        refine A_iadd dX8_feed_91 ?_
        refine A_putI fr_X8_200 rfl lay_86 rfl rfl dX8_feed_92 ?_
        refine A_aload_n rfl dX8_feed_95 ?_
        refine A_getI fr_X8_200.g rfl lay_86 dX8_feed_96 ?_
        refine A_iret rfl rfl rfl rfl dX8_feed_99 ?_
        have hl2 : ¬ 84 < L := by omega
        rw [f_feed, if_neg hl2]
        have e12 : nI L + 12 = nI (L + 12) := nI_add L 12
        refine ⟨by rw [up2_same, e12], rfl, fun h9 => absurd h9 hl2, fun _ => ⟨by rw [up2_same, e12], by rw [up2_ne (by decide), h91, t_upE], fun j hj => by rw [up2_ni hj, hfr 86 (by decide)], fun q h1 h2 => by rw [up2_ne h1]; exact hfr q h2⟩⟩
      · skip
        have hkn : k < 12 := by
          have hq1 := mt (le_nI (show (12 : Int32) = nI 12 from rfl) (rfl : nI k = nI k) (by omega) (by omega)).mpr cq22
          omega
        refine A_iload rfl dX8_feed_25 ?_
        refine A_iconst ic_4 dX8_feed_27 ?_
        refine A_icmp_ge 35 rfl dX8_feed_28 (fun cq28 => ?_) (fun cq28 => ?_)
        · skip
          refine A_iload rfl dX8_feed_35 ?_
          refine A_bipush bp_8 dX8_feed_37 ?_
          refine A_icmp_ge 46 rfl dX8_feed_39 (fun cq39 => ?_) (fun cq39 => ?_)
          · skip
            refine A_iload_n rfl dX8_feed_46 ?_
            refine A_istore (by decide) rfl dX8_feed_47 ?_
            refine A_aload_n rfl dX8_feed_49 ?_
            refine A_getR fr_X8_26.g rfl lay_86 rfl dX8_feed_50 ?_
            refine A_aload_n rfl dX8_feed_53 ?_
            refine A_getI fr_X8_200.g rfl lay_86 dX8_feed_54 ?_
            rw [h7k]
            refine A_iload rfl dX8_feed_57 ?_
            refine A_iadd dX8_feed_59 ?_
            rw [nI_add]
            refine A_iload rfl dX8_feed_60 ?_
            refine A_bipush bp_24 dX8_feed_62 ?_
            refine A_bipush bp_8 dX8_feed_64 ?_
            refine A_iload rfl dX8_feed_66 ?_
            refine A_iconst ic_4 dX8_feed_68 ?_
            refine A_irem dX8_feed_69 (by decide) ?_
            refine A_imul dX8_feed_70 ?_
            refine A_isub dX8_feed_71 ?_
            refine A_ishr dX8_feed_72 ?_
            refine A_sipush sp_255 dX8_feed_73 ?_
            refine A_iand dX8_feed_76 ?_
            rw [by_k _ hkn]
            refine A_iast (L + k) rfl lay_91 (by omega) (by decide) dX8_feed_77 ?_
            refine A_iinc ic_1 rfl (by decide) rfl dX8_feed_78 ?_
            refine A_goto 18 rfl dX8_feed_81 ?_
            refine AW_L (by rw [nI_1 k]) ?_
            refine ih (12 - (k + 1)) (by omega) (k + 1) _ _ rfl hl (by omega) ?_ (fun q hq => by rw [up2_ne hq]; exact hfr q hq)
            rw [up2_row, h91, ← t_upS, q_ws]
            first
              | (have h7 := mt (le_nI (show (4 : Int32) = nI 4 from rfl) (rfl : nI k = nI k) (by omega) (by omega)).mpr cq28; rw [if_pos (by omega)])
              | (have h7 := (le_nI (show (4 : Int32) = nI 4 from rfl) (rfl : nI k = nI k) (by omega) (by omega)).mp cq28; have h8 := mt (le_nI (show (8 : Int32) = nI 8 from rfl) (rfl : nI k = nI k) (by omega) (by omega)).mpr cq39; rw [if_neg (by omega), if_pos (by omega)])
              | (have h8 := (le_nI (show (8 : Int32) = nI 8 from rfl) (rfl : nI k = nI k) (by omega) (by omega)).mp cq39; rw [if_neg (by omega), if_neg (by omega)])
          · skip
            refine A_iload_n rfl dX8_feed_42 ?_
            refine A_goto 47 rfl dX8_feed_43 ?_
            refine A_istore (by decide) rfl dX8_feed_47 ?_
            refine A_aload_n rfl dX8_feed_49 ?_
            refine A_getR fr_X8_26.g rfl lay_86 rfl dX8_feed_50 ?_
            refine A_aload_n rfl dX8_feed_53 ?_
            refine A_getI fr_X8_200.g rfl lay_86 dX8_feed_54 ?_
            rw [h7k]
            refine A_iload rfl dX8_feed_57 ?_
            refine A_iadd dX8_feed_59 ?_
            rw [nI_add]
            refine A_iload rfl dX8_feed_60 ?_
            refine A_bipush bp_24 dX8_feed_62 ?_
            refine A_bipush bp_8 dX8_feed_64 ?_
            refine A_iload rfl dX8_feed_66 ?_
            refine A_iconst ic_4 dX8_feed_68 ?_
            refine A_irem dX8_feed_69 (by decide) ?_
            refine A_imul dX8_feed_70 ?_
            refine A_isub dX8_feed_71 ?_
            refine A_ishr dX8_feed_72 ?_
            refine A_sipush sp_255 dX8_feed_73 ?_
            refine A_iand dX8_feed_76 ?_
            rw [by_k _ hkn]
            refine A_iast (L + k) rfl lay_91 (by omega) (by decide) dX8_feed_77 ?_
            refine A_iinc ic_1 rfl (by decide) rfl dX8_feed_78 ?_
            refine A_goto 18 rfl dX8_feed_81 ?_
            refine AW_L (by rw [nI_1 k]) ?_
            refine ih (12 - (k + 1)) (by omega) (k + 1) _ _ rfl hl (by omega) ?_ (fun q hq => by rw [up2_ne hq]; exact hfr q hq)
            rw [up2_row, h91, ← t_upS, q_ws]
            first
              | (have h7 := mt (le_nI (show (4 : Int32) = nI 4 from rfl) (rfl : nI k = nI k) (by omega) (by omega)).mpr cq28; rw [if_pos (by omega)])
              | (have h7 := (le_nI (show (4 : Int32) = nI 4 from rfl) (rfl : nI k = nI k) (by omega) (by omega)).mp cq28; have h8 := mt (le_nI (show (8 : Int32) = nI 8 from rfl) (rfl : nI k = nI k) (by omega) (by omega)).mpr cq39; rw [if_neg (by omega), if_pos (by omega)])
              | (have h8 := (le_nI (show (8 : Int32) = nI 8 from rfl) (rfl : nI k = nI k) (by omega) (by omega)).mp cq39; rw [if_neg (by omega), if_neg (by omega)])
        · skip
          refine A_iload_n rfl dX8_feed_31 ?_
          refine A_goto 47 rfl dX8_feed_32 ?_
          refine A_istore (by decide) rfl dX8_feed_47 ?_
          refine A_aload_n rfl dX8_feed_49 ?_
          refine A_getR fr_X8_26.g rfl lay_86 rfl dX8_feed_50 ?_
          refine A_aload_n rfl dX8_feed_53 ?_
          refine A_getI fr_X8_200.g rfl lay_86 dX8_feed_54 ?_
          rw [h7k]
          refine A_iload rfl dX8_feed_57 ?_
          refine A_iadd dX8_feed_59 ?_
          rw [nI_add]
          refine A_iload rfl dX8_feed_60 ?_
          refine A_bipush bp_24 dX8_feed_62 ?_
          refine A_bipush bp_8 dX8_feed_64 ?_
          refine A_iload rfl dX8_feed_66 ?_
          refine A_iconst ic_4 dX8_feed_68 ?_
          refine A_irem dX8_feed_69 (by decide) ?_
          refine A_imul dX8_feed_70 ?_
          refine A_isub dX8_feed_71 ?_
          refine A_ishr dX8_feed_72 ?_
          refine A_sipush sp_255 dX8_feed_73 ?_
          refine A_iand dX8_feed_76 ?_
          rw [by_k _ hkn]
          refine A_iast (L + k) rfl lay_91 (by omega) (by decide) dX8_feed_77 ?_
          refine A_iinc ic_1 rfl (by decide) rfl dX8_feed_78 ?_
          refine A_goto 18 rfl dX8_feed_81 ?_
          refine AW_L (by rw [nI_1 k]) ?_
          refine ih (12 - (k + 1)) (by omega) (k + 1) _ _ rfl hl (by omega) ?_ (fun q hq => by rw [up2_ne hq]; exact hfr q hq)
          rw [up2_row, h91, ← t_upS, q_ws]
          first
            | (have h7 := mt (le_nI (show (4 : Int32) = nI 4 from rfl) (rfl : nI k = nI k) (by omega) (by omega)).mpr cq28; rw [if_pos (by omega)])
            | (have h7 := (le_nI (show (4 : Int32) = nI 4 from rfl) (rfl : nI k = nI k) (by omega) (by omega)).mp cq28; have h8 := mt (le_nI (show (8 : Int32) = nI 8 from rfl) (rfl : nI k = nI k) (by omega) (by omega)).mpr cq39; rw [if_neg (by omega), if_pos (by omega)])
            | (have h8 := (le_nI (show (8 : Int32) = nI 8 from rfl) (rfl : nI k = nI k) (by omega) (by omega)).mp cq39; rw [if_neg (by omega), if_neg (by omega)])
  refine Meth.of (by decide +kernel) (by simp [Value.category]) (Nat.le_of_ble_eq_true rfl) ?_
  refine A_aload_n rfl dX8_feed_0 ?_
  refine A_getI fr_X8_200.g rfl lay_86 dX8_feed_1 ?_
  refine A_bipush bp_12 dX8_feed_4 ?_
  rw [h0]
  refine A_iadd dX8_feed_6 ?_
  rw [show nI L + 12 = nI (L + 12) from nI_add L 12]
  refine A_bipush bp_96 dX8_feed_7 ?_
  refine A_icmp_le 15 rfl dX8_feed_9 (fun cq9 => ?_) (fun cq9 => ?_)
  · skip
    have hl := (le_nI (rfl : nI (L + 12) = nI (L + 12)) (show (96 : Int32) = nI 96 from rfl) (by omega) (by omega)).mp cq9
    refine A_iconst ic_0 dX8_feed_15 ?_
    refine A_istore (by decide) rfl dX8_feed_16 ?_
    exact loop 12 0 _ I rfl (by omega) (by omega) t_up0.symm (fun _ _ => rfl)
  · skip
    refine A_ldc kc_X8_89 rfl dX8_feed_12 ?_
    refine A_iret rfl rfl rfl rfl dX8_feed_14 ?_
    have hl : 84 < L := by
      have hq1 := mt (le_nI (rfl : nI (L + 12) = nI (L + 12)) (show (96 : Int32) = nI 96 from rfl) (by omega) (by omega)).mpr cq9
      omega
    rw [f_feed, if_pos hl]
    exact ⟨rfl, rfl, fun _ => rfl, fun h9 => absurd hl h9⟩
