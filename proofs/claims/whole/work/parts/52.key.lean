def kyc (k : Nat) : Int32 := [116, 114, 117, 115, 116, 102, 101, 101, 102, 105, 110, 101].getD k 0
def kya (k : Nat) : Nat := [0, 5, 8, 12].getD k 0
def KyM (J : Hp) : Prop := (∀ k, k < 12 → J 92 k = kyc k) ∧ ∀ k, k ≤ 3 → J 93 k = nI (kya k)
theorem kya_n : ∀ k, k < 3 → nI (kya (k + 1)) - nI (kya k) = nI (js_ln.getD k 0) ∧ kya k + js_ln.getD k 0 ≤ 12 := by decide +kernel
theorem kyc_n : ∀ k, k < 3 → ∀ i, i < js_ln.getD k 0 → kyc (kya k + i) = (js_by.getD k []).getD i 0 := by decide +kernel
theorem wd_so : ∀ k, k < 3 → lx_so ((js_by.getD k []).getD 0 0) = 1 ∧ 0 < js_ln.getD k 0 := by decide +kernel
theorem wd_k {B : Nat → Int32} {L : Nat} {τ : Tok} (hI : lx_I B L τ) {k : Nat} (hk : k < 3) (h : lx_wd B τ k) : τ.2.2.1 = 1 := by
  have h1 := wd_so k hk
  have h2 := h.2 0 h1.2
  have h3 : τ.1 < L := by have := h.1; have := hI.2.2.1; omega
  rw [Nat.add_zero] at h2
  rw [hI.2.2.2.2.2.2.2.2.1, lx_k_lt h3, h2]
  exact h1.1
theorem ky_eq {B : Nat → Int32} {τ : Tok} {a b : Nat} (ha : lx_wd B τ a) (ha2 : ∀ j, j < a → ¬ lx_wd B τ j) (hb : lx_wd B τ b) (hb2 : ∀ j, j < b → ¬ lx_wd B τ j) : a = b := by
  rcases Nat.lt_trichotomy a b with h | h | h
  · exact absurd ha (hb2 a h)
  · exact h
  · exact absurd hb (ha2 b h)
set_option maxHeartbeats 1000000 in
set_option maxRecDepth 100000 in
theorem t_key (l : Launch) (G : Gm) (J : Hp) (B : Nat → Int32) (L : Nat) (hB : TpM B L J) (τ : Tok) (hT : TkM B J τ) (hI : lx_I B L τ) (hst0 : τ.2.2.2 = false) (hK : KyM J) : Meth l G yX8_takesKey cX8_takesKey 5 (some (FieldType.boolean)) 3 0 0 [.ref 86] LAY J (fun r lay1 I1 => ∃ b : Bool, r = some (.int (b2i b)) ∧ lay1 = LAY ∧ (b = true → ∃ key, key ≤ 2 ∧ lx_wd B τ key ∧ (∀ j, j < key → ¬ lx_wd B τ j) ∧ I1 86 13 = nI key ∧ TkM B I1 (lx_nx B L τ) ∧ (∀ j, j ≠ 8 → j ≠ 9 → j ≠ 10 → j ≠ 11 → j ≠ 12 → j ≠ 13 → I1 86 j = J 86 j) ∧ ∀ q, q ≠ 86 → I1 q = J q) ∧ (b = false → (∀ j, j ≤ 2 → ¬ lx_wd B τ j) ∧ I1 = J)) := by
  have hL := hB.2.2.1
  have htL := hI.2.2.1
  have hft := hI.2.1
  have hk3 := hI.2.2.2.1
  have ht4 := tok_4 τ
  have loop : ∀ (lpn : Nat) (k : Nat) (o2 o3 o4 : Option Value), 3 - k = lpn → k ≤ 3 → (∀ j, j < k → ¬ lx_wd B τ j) → τ.2.2.1 = 1 → AW l G yX8_takesKey cX8_takesKey 5 (some (FieldType.boolean)) 3 0 0 (fun r lay1 I1 => ∃ b : Bool, r = some (.int (b2i b)) ∧ lay1 = LAY ∧ (b = true → ∃ key, key ≤ 2 ∧ lx_wd B τ key ∧ (∀ j, j < key → ¬ lx_wd B τ j) ∧ I1 86 13 = nI key ∧ TkM B I1 (lx_nx B L τ) ∧ (∀ j, j ≠ 8 → j ≠ 9 → j ≠ 10 → j ≠ 11 → j ≠ 12 → j ≠ 13 → I1 86 j = J 86 j) ∧ ∀ q, q ≠ 86 → I1 q = J q) ∧ (b = false → (∀ j, j ≤ 2 → ¬ lx_wd B τ j) ∧ I1 = J)) 0 0 12 [some (.ref 86), some (.int (nI k)), o2, o3, o4] [] LAY J := by
    intro lpn
    induction lpn using Nat.strongRecOn with
    | _ lpn ih =>
      intro k o2 o3 o4 hms hk hall hk1
      have inner : ∀ (lq : Nat) (i : Nat) (s : Bool) (o4 : Option Value), (js_ln.getD k 0) - i = lq → k < 3 → i ≤ (js_ln.getD k 0) → (s = true ↔ (τ.2.1 - τ.1 = (js_ln.getD k 0) ∧ ∀ j, j < i → B (τ.1 + j) = (js_by.getD k []).getD j 0)) → AW l G yX8_takesKey cX8_takesKey 5 (some (FieldType.boolean)) 3 0 0 (fun r lay1 I1 => ∃ b : Bool, r = some (.int (b2i b)) ∧ lay1 = LAY ∧ (b = true → ∃ key, key ≤ 2 ∧ lx_wd B τ key ∧ (∀ j, j < key → ¬ lx_wd B τ j) ∧ I1 86 13 = nI key ∧ TkM B I1 (lx_nx B L τ) ∧ (∀ j, j ≠ 8 → j ≠ 9 → j ≠ 10 → j ≠ 11 → j ≠ 12 → j ≠ 13 → I1 86 j = J 86 j) ∧ ∀ q, q ≠ 86 → I1 q = J q) ∧ (b = false → (∀ j, j ≤ 2 → ¬ lx_wd B τ j) ∧ I1 = J)) 0 0 55 [some (.ref 86), some (.int (nI k)), some (.int (nI (js_ln.getD k 0))), some (.int (b2i s)), some (.int (nI i))] [] LAY J := by
        intro lq
        induction lq using Nat.strongRecOn with
        | _ lq ihq =>
          intro i s o4 hq hkk hi hs
          have hj5 := js_le k (by omega)
          refine A_iload rfl dX8_takesKey_55 ?_
          refine A_iload_n rfl dX8_takesKey_57 ?_
          refine A_icmp_ge 106 rfl dX8_takesKey_58 (fun cq58 => ?_) (fun cq58 => ?_)
          · skip
            have hwd : s = true ↔ lx_wd B τ k := by
              constructor
              · intro q
                obtain ⟨z1, z2⟩ := hs.mp q
                refine ⟨z1, fun j hj => z2 j ?_⟩
                first
                  | (have h7 : nI (js_ln.getD k 0) ≤ nI i := cq58; have h8 := (le_nI (rfl : nI (js_ln.getD k 0) = nI (js_ln.getD k 0)) (rfl : nI i = nI i) (by omega) (by omega)).mp h7; omega)
                  | (have h7 : b2i s = 0 := cq62; rw [q] at h7; exact absurd h7 (by decide))
              · intro q
                exact hs.mpr ⟨q.1, fun j hj => q.2 j (by omega)⟩
            refine A_iload_n rfl dX8_takesKey_106 ?_
            refine A_if_eq 121 rfl dX8_takesKey_107 (fun cq107 => ?_) (fun cq107 => ?_)
            · skip
              refine A_iinc ic_1 rfl (by decide) rfl dX8_takesKey_121 ?_
              refine A_goto 12 rfl dX8_takesKey_124 ?_
              refine AW_L (by rw [nI_1]) ?_
              refine ih (3 - (k + 1)) (by omega) (k + 1) _ _ _ rfl (by omega) (fun j hj => ?_) hk1
              by_cases e : j = k
              · rw [e]; exact fun q => absurd (hwd.mpr q) (by rw [b2i_0.mp cq107]; decide)
              · exact hall j (by omega)
            · skip
              refine A_aload_n rfl dX8_takesKey_110 ?_
              refine A_iload_n rfl dX8_takesKey_111 ?_
              refine A_putI fr_X8_224 rfl lay_86 rfl rfl dX8_takesKey_112 ?_
              refine A_aload_n rfl dX8_takesKey_115 ?_
              refine A_callV (t_gow l G (up2 J 86 13 (nI k)) B L (hB.fr (by rw [up2_ni (by decide)]) (by rw [up2_ne (by decide)])) τ.2.1 (lx_w τ.2.2.1) htL (by rw [up2_ni (by decide)]; exact hT.1) (by rw [up2_ni (by decide)]; exact hT.2.2.2.2.2 (by omega))) m_X8_go ml_X8_227 rfl lay_86 rfl (by decide) rfl rfl (Nat.le_of_ble_eq_true rfl) (by decide) (by decide) (by decide) dX8_takesKey_116 (fun _ _ _ hqq => congrArg List.length hqq.2.1) ?_
              rintro _ _ K5 ⟨rfl, rfl, g1, g2, g3⟩
              refine A_iconst ic_1 dX8_takesKey_119 ?_
              refine A_iret rfl rfl rfl rfl dX8_takesKey_120 ?_
              have hst : s = true := b2i_1.mp cq107
              exact ⟨true, rfl, rfl, fun _ => ⟨k, by omega, hwd.mp hst, hall, by rw [g2 13 (by decide) (by decide) (by decide) (by decide) (by decide), up2_same], g1, fun j a b c e f g => by rw [g2 j a b c e f, up2_ni g], fun q hq => by rw [g3 q hq, up2_ne hq]⟩, fun q => (by cases q)⟩
          · skip
            have hin : i < (js_ln.getD k 0) := by
              have hq1 := mt (le_nI (rfl : nI (js_ln.getD k 0) = nI (js_ln.getD k 0)) (rfl : nI i = nI i) (by omega) (by omega)).mpr cq58
              omega
            refine A_iload_n rfl dX8_takesKey_61 ?_
            refine A_if_eq 106 rfl dX8_takesKey_62 (fun cq62 => ?_) (fun cq62 => ?_)
            · skip
              have hwd : s = true ↔ lx_wd B τ k := by
                constructor
                · intro q
                  obtain ⟨z1, z2⟩ := hs.mp q
                  refine ⟨z1, fun j hj => z2 j ?_⟩
                  first
                    | (have h7 : nI (js_ln.getD k 0) ≤ nI i := cq58; have h8 := (le_nI (rfl : nI (js_ln.getD k 0) = nI (js_ln.getD k 0)) (rfl : nI i = nI i) (by omega) (by omega)).mp h7; omega)
                    | (have h7 : b2i s = 0 := cq62; rw [q] at h7; exact absurd h7 (by decide))
                · intro q
                  exact hs.mpr ⟨q.1, fun j hj => q.2 j (by omega)⟩
              refine A_iload_n rfl dX8_takesKey_106 ?_
              refine A_if_eq 121 rfl dX8_takesKey_107 (fun cq107 => ?_) (fun cq107 => ?_)
              · skip
                refine A_iinc ic_1 rfl (by decide) rfl dX8_takesKey_121 ?_
                refine A_goto 12 rfl dX8_takesKey_124 ?_
                refine AW_L (by rw [nI_1]) ?_
                refine ih (3 - (k + 1)) (by omega) (k + 1) _ _ _ rfl (by omega) (fun j hj => ?_) hk1
                by_cases e : j = k
                · rw [e]; exact fun q => absurd (hwd.mpr q) (by rw [b2i_0.mp cq107]; decide)
                · exact hall j (by omega)
              · skip
                refine A_aload_n rfl dX8_takesKey_110 ?_
                refine A_iload_n rfl dX8_takesKey_111 ?_
                refine A_putI fr_X8_224 rfl lay_86 rfl rfl dX8_takesKey_112 ?_
                refine A_aload_n rfl dX8_takesKey_115 ?_
                refine A_callV (t_gow l G (up2 J 86 13 (nI k)) B L (hB.fr (by rw [up2_ni (by decide)]) (by rw [up2_ne (by decide)])) τ.2.1 (lx_w τ.2.2.1) htL (by rw [up2_ni (by decide)]; exact hT.1) (by rw [up2_ni (by decide)]; exact hT.2.2.2.2.2 (by omega))) m_X8_go ml_X8_227 rfl lay_86 rfl (by decide) rfl rfl (Nat.le_of_ble_eq_true rfl) (by decide) (by decide) (by decide) dX8_takesKey_116 (fun _ _ _ hqq => congrArg List.length hqq.2.1) ?_
                rintro _ _ K5 ⟨rfl, rfl, g1, g2, g3⟩
                refine A_iconst ic_1 dX8_takesKey_119 ?_
                refine A_iret rfl rfl rfl rfl dX8_takesKey_120 ?_
                have hst : s = true := b2i_1.mp cq107
                exact ⟨true, rfl, rfl, fun _ => ⟨k, by omega, hwd.mp hst, hall, by rw [g2 13 (by decide) (by decide) (by decide) (by decide) (by decide), up2_same], g1, fun j a b c e f g => by rw [g2 j a b c e f, up2_ni g], fun q hq => by rw [g3 q hq, up2_ne hq]⟩, fun q => (by cases q)⟩
            · skip
              have hst : s = true := b2i_1.mp cq62
              obtain ⟨hs1, hs2⟩ := hs.mp hst
              have hka := kya_n k hkk
              refine A_aload_n rfl dX8_takesKey_65 ?_
              refine A_getR fr_X8_26.g rfl lay_86 rfl dX8_takesKey_66 ?_
              refine A_aload_n rfl dX8_takesKey_69 ?_
              refine A_getI fr_X8_206.g rfl lay_86 dX8_takesKey_70 ?_
              rw [hT.2.1]
              refine A_iload rfl dX8_takesKey_73 ?_
              refine A_iadd dX8_takesKey_75 ?_
              rw [nI_add]
              refine A_iald (τ.1 + i) rfl lay_91 (by omega) (by decide) dX8_takesKey_76 ?_
              rw [hB.2.1 (τ.1 + i) (by omega)]
              refine A_aload_n rfl dX8_takesKey_77 ?_
              refine A_getR fr_X8_29.g rfl lay_86 rfl dX8_takesKey_78 ?_
              refine A_aload_n rfl dX8_takesKey_81 ?_
              refine A_getR fr_X8_33.g rfl lay_86 rfl dX8_takesKey_82 ?_
              refine A_iload_n rfl dX8_takesKey_85 ?_
              refine A_iald k rfl lay_93 (by omega) (by decide) dX8_takesKey_86 ?_
              rw [hK.2 k (by omega)]
              refine A_iload rfl dX8_takesKey_87 ?_
              refine A_iadd dX8_takesKey_89 ?_
              rw [nI_add]
              refine A_cald (kya k + i) rfl lay_92 (by omega) (by decide) dX8_takesKey_90 ?_
              rw [hK.1 (kya k + i) (by omega), kyc_n k hkk i hin]
              refine A_icmp_ne 98 rfl dX8_takesKey_91 (fun cq91 => ?_) (fun cq91 => ?_)
              · skip
                refine A_iconst ic_0 dX8_takesKey_98 ?_
                refine A_istore_n (by decide) rfl dX8_takesKey_99 ?_
                refine A_iinc ic_1 rfl (by decide) rfl dX8_takesKey_100 ?_
                refine A_goto 55 rfl dX8_takesKey_103 ?_
                refine AW_L (L := [some (.ref 86), some (.int (nI k)), some (.int (nI (js_ln.getD k 0))), some (.int (b2i (decide (B (τ.1 + i) = (js_by.getD k []).getD i 0)))), some (.int (nI (i + 1)))]) ?_ ?_
                · rw [nI_1]
                  first
                    | (have h7 : B (τ.1 + i) = (js_by.getD k []).getD i 0 := cq91; rw [b2i_tt h7]; rfl)
                    | (have h7 : ¬ B (τ.1 + i) = (js_by.getD k []).getD i 0 := cq91; rw [b2i_ff h7]; rfl)
                · refine ihq ((js_ln.getD k 0) - (i + 1)) (by omega) (i + 1) _ o4 rfl hkk (by omega) ?_
                  rw [decide_eq_true_iff]
                  constructor
                  · intro q
                    refine ⟨hs1, fun j hj => ?_⟩
                    by_cases e : j = i
                    · rw [e]; exact q
                    · exact hs2 j (by omega)
                  · intro q
                    exact q.2 i (by omega)
              · skip
                refine A_iconst ic_1 dX8_takesKey_94 ?_
                refine A_goto 99 rfl dX8_takesKey_95 ?_
                refine A_istore_n (by decide) rfl dX8_takesKey_99 ?_
                refine A_iinc ic_1 rfl (by decide) rfl dX8_takesKey_100 ?_
                refine A_goto 55 rfl dX8_takesKey_103 ?_
                refine AW_L (L := [some (.ref 86), some (.int (nI k)), some (.int (nI (js_ln.getD k 0))), some (.int (b2i (decide (B (τ.1 + i) = (js_by.getD k []).getD i 0)))), some (.int (nI (i + 1)))]) ?_ ?_
                · rw [nI_1]
                  first
                    | (have h7 : B (τ.1 + i) = (js_by.getD k []).getD i 0 := cq91; rw [b2i_tt h7]; rfl)
                    | (have h7 : ¬ B (τ.1 + i) = (js_by.getD k []).getD i 0 := cq91; rw [b2i_ff h7]; rfl)
                · refine ihq ((js_ln.getD k 0) - (i + 1)) (by omega) (i + 1) _ o4 rfl hkk (by omega) ?_
                  rw [decide_eq_true_iff]
                  constructor
                  · intro q
                    refine ⟨hs1, fun j hj => ?_⟩
                    by_cases e : j = i
                    · rw [e]; exact q
                    · exact hs2 j (by omega)
                  · intro q
                    exact q.2 i (by omega)
      refine A_iload_n rfl dX8_takesKey_12 ?_
      refine A_iconst ic_3 dX8_takesKey_13 ?_
      refine A_icmp_ge 127 rfl dX8_takesKey_14 (fun cq14 => ?_) (fun cq14 => ?_)
      · skip
        refine A_iconst ic_0 dX8_takesKey_127 ?_
        refine A_iret rfl rfl rfl rfl dX8_takesKey_128 ?_
        have hk3 := (le_nI (show (3 : Int32) = nI 3 from rfl) (rfl : nI k = nI k) (by omega) (by omega)).mp cq14
        exact ⟨false, rfl, rfl, fun q => (by cases q), fun _ => ⟨fun j hj => hall j (by omega), rfl⟩⟩
      · skip
        have hkn : k < 3 := by
          have hq1 := mt (le_nI (show (3 : Int32) = nI 3 from rfl) (rfl : nI k = nI k) (by omega) (by omega)).mpr cq14
          omega
        refine A_aload_n rfl dX8_takesKey_17 ?_
        refine A_getR fr_X8_33.g rfl lay_86 rfl dX8_takesKey_18 ?_
        refine A_iload_n rfl dX8_takesKey_21 ?_
        refine A_iconst ic_1 dX8_takesKey_22 ?_
        refine A_iadd dX8_takesKey_23 ?_
        rw [nI_1]
        refine A_iald (k + 1) rfl lay_93 (by omega) (by decide) dX8_takesKey_24 ?_
        rw [hK.2 (k + 1) (by omega)]
        refine A_aload_n rfl dX8_takesKey_25 ?_
        refine A_getR fr_X8_33.g rfl lay_86 rfl dX8_takesKey_26 ?_
        refine A_iload_n rfl dX8_takesKey_29 ?_
        refine A_iald k rfl lay_93 (by omega) (by decide) dX8_takesKey_30 ?_
        rw [hK.2 k (by omega)]
        refine A_isub dX8_takesKey_31 ?_
        rw [(kya_n k hkn).1]
        refine A_istore_n (by decide) rfl dX8_takesKey_32 ?_
        refine A_iload_n rfl dX8_takesKey_33 ?_
        refine A_aload_n rfl dX8_takesKey_34 ?_
        refine A_getI fr_X8_203.g rfl lay_86 dX8_takesKey_35 ?_
        rw [hT.1]
        refine A_aload_n rfl dX8_takesKey_38 ?_
        refine A_getI fr_X8_206.g rfl lay_86 dX8_takesKey_39 ?_
        rw [hT.2.1]
        refine A_isub dX8_takesKey_42 ?_
        rw [sub_nI hft]
        refine A_icmp_ne 50 rfl dX8_takesKey_43 (fun cq43 => ?_) (fun cq43 => ?_)
        · skip
          refine A_iconst ic_0 dX8_takesKey_50 ?_
          refine A_istore_n (by decide) rfl dX8_takesKey_51 ?_
          refine A_iconst ic_0 dX8_takesKey_52 ?_
          refine A_istore (by decide) rfl dX8_takesKey_53 ?_
          first
            | (have h7 : nI (js_ln.getD k 0) = nI (τ.2.1 - τ.1) := cq43; have h5 := js_le k (by omega); exact inner _ 0 true o4 rfl hkn (by omega) ⟨fun _ => ⟨((nI_eq (by omega) (by omega)).mp h7).symm, fun j hj => by omega⟩, fun _ => rfl⟩)
            | (have h7 : ¬ nI (js_ln.getD k 0) = nI (τ.2.1 - τ.1) := cq43; exact inner _ 0 false o4 rfl hkn (by omega) ⟨fun q => (by cases q), fun q => absurd (by rw [q.1]) h7⟩)
        · skip
          refine A_iconst ic_1 dX8_takesKey_46 ?_
          refine A_goto 51 rfl dX8_takesKey_47 ?_
          refine A_istore_n (by decide) rfl dX8_takesKey_51 ?_
          refine A_iconst ic_0 dX8_takesKey_52 ?_
          refine A_istore (by decide) rfl dX8_takesKey_53 ?_
          first
            | (have h7 : nI (js_ln.getD k 0) = nI (τ.2.1 - τ.1) := cq43; have h5 := js_le k (by omega); exact inner _ 0 true o4 rfl hkn (by omega) ⟨fun _ => ⟨((nI_eq (by omega) (by omega)).mp h7).symm, fun j hj => by omega⟩, fun _ => rfl⟩)
            | (have h7 : ¬ nI (js_ln.getD k 0) = nI (τ.2.1 - τ.1) := cq43; exact inner _ 0 false o4 rfl hkn (by omega) ⟨fun q => (by cases q), fun q => absurd (by rw [q.1]) h7⟩)
  refine Meth.of (by decide +kernel) (by simp [Value.category]) (Nat.le_of_ble_eq_true rfl) ?_
  refine A_aload_n rfl dX8_takesKey_0 ?_
  refine A_getI fr_X8_212.g rfl lay_86 dX8_takesKey_1 ?_
  rw [hT.2.2.1]
  refine A_iconst ic_1 dX8_takesKey_4 ?_
  refine A_icmp_eq 10 rfl dX8_takesKey_5 (fun cq5 => ?_) (fun cq5 => ?_)
  · skip
    refine A_iconst ic_0 dX8_takesKey_10 ?_
    refine A_istore_n (by decide) rfl dX8_takesKey_11 ?_
    exact loop 3 0 _ _ _ rfl (by decide) (fun j hj => by omega) ((tok1 hk3).mp ((nI_eq (b := 1) (by omega) (by decide)).mp cq5)).1
  · skip
    refine A_iconst ic_0 dX8_takesKey_8 ?_
    refine A_iret rfl rfl rfl rfl dX8_takesKey_9 ?_
    exact ⟨false, rfl, rfl, fun q => (by cases q), fun _ => ⟨fun j hj q => cq5 (by rw [(tok1 hk3).mpr ⟨wd_k hI (by omega) q, hst0⟩]; rfl), rfl⟩⟩
