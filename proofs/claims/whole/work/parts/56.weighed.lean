theorem ap_congr {N : Nrow} {n : Nat} {C E : Nat → Int32} : ∀ m, (∀ k, k < m → C k = E k) → q_ap N n C m = q_ap N n E m
  | 0, _ => rfl
  | m + 1, h => by rw [q_ap, q_ap, ap_congr m (fun k hk => h k (by omega)), h m (by omega)]
theorem up_w {x : Int32} (h : -50 ≤ x ∧ x ≤ 50) : (if x + 20 < -50 then (-50 : Int32) else if 50 < x + 20 then 50 else x + 20) = q_up x := by
  unfold q_up
  rw [if_neg]
  intro q
  have e : (x + 20).toInt = x.toInt + 20 := by
    rw [Int32.le_iff_toInt_le, Int32.le_iff_toInt_le, show (-50 : Int32).toInt = -50 from rfl, show (50 : Int32).toInt = 50 from rfl] at h
    rw [Int32.toInt_add, show (20 : Int32).toInt = 20 from rfl]
    exact Int.bmod_eq_of_le (by omega) (by omega)
  rw [Int32.lt_iff_toInt_lt, e, show (-50 : Int32).toInt = -50 from rfl] at q
  rw [Int32.le_iff_toInt_le, Int32.le_iff_toInt_le, show (-50 : Int32).toInt = -50 from rfl, show (50 : Int32).toInt = 50 from rfl] at h
  omega
theorem abs_l {b : Nat} {c : Int32} (hb : b ≤ 100) (hc : -99999 ≤ c ∧ c ≤ 99999) : (c.toInt64 - (nI b).toInt64 < 0 → -(c.toInt64 - (nI b).toInt64) = lN ((b : Int) - c.toInt).natAbs) ∧ (¬ c.toInt64 - (nI b).toInt64 < 0 → c.toInt64 - (nI b).toInt64 = lN ((b : Int) - c.toInt).natAbs) := by
  rw [Int32.le_iff_toInt_le, Int32.le_iff_toInt_le, show (-99999 : Int32).toInt = -99999 from rfl, show (99999 : Int32).toInt = 99999 from rfl] at hc
  have e1 : (c.toInt64 - (nI b).toInt64).toInt = c.toInt - (b : Int) := by
    rw [Int64.toInt_sub, Int32.toInt_toInt64, Int32.toInt_toInt64, nI_toInt (by omega)]
    exact Int.bmod_eq_of_le (by omega) (by omega)
  constructor
  · intro h
    rw [Int64.lt_iff_toInt_lt, e1, show (0 : Int64).toInt = 0 from rfl] at h
    apply Int64.toInt_inj.mp
    rw [Int64.toInt_neg, e1, lN_toInt (by omega)]
    rw [Int.bmod_eq_of_le (by omega) (by omega)]
    omega
  · intro h
    rw [Int64.lt_iff_toInt_lt, e1, show (0 : Int64).toInt = 0 from rfl] at h
    apply Int64.toInt_inj.mp
    rw [e1, lN_toInt (by omega)]
    omega
theorem wz_le {A : Nat → Nat} {b : Nat} (h : ∀ f, f < 8 → A f ≤ b) : ∀ f, f < 8 → (q_wz A f).2 ≤ b ∧ (q_wz A f).1 ≤ f
  | 0, _ => ⟨h 0 (by omega), Nat.le_refl _⟩
  | f + 1, hf => by
    have q := wz_le h f (by omega)
    rw [q_wz]
    split
    · exact ⟨h (f + 1) hf, Nat.le_refl _⟩
    · exact ⟨q.1, by omega⟩
theorem wA_le {N : Nrow} {n m : Nat} {C : Nat → Int32} (hDo : DoJ N) (hn : n ≤ 10) (hm : m ≤ 24) (hC : ∀ k, k < 24 → C k = -1000000005 ∨ (-99999 ≤ C k ∧ C k ≤ 99999)) : ∀ f, f < 8 → q_wA N n C m f ≤ 2402376 := fun f hf => by
  have q := ap_le (hDo.wf hf) hn hC m hm
  unfold q_wA
  omega
set_option maxHeartbeats 1000000 in
set_option maxRecDepth 100000 in
theorem c_weighed (l : Launch) (G : Gm) (I : Hp) (N : Nrow) (n : Nat) (hn : n ≤ 10) (hN : N 1 = nI n) (hR : RepJ I 36 N) (T : Nat) (hK : KnJ N) (hTx : TxJ N T) (hLw : LwR I N T) (hDo : DoJ N) (S Z : Nrow) (C : Fn2) (hS : ShC I S Z C) (hW : ShW S Z C) (s w : Int32) : Meth l G yX7_weighed cX7_weighed 7 (some (FieldType.int)) 7 0 0 [.ref 0, .int s, .int w] LAY I (fun r lay1 I1 => r = some (.int (f_weighed S Z C N n s w)) ∧ lay1 = LAY ∧ Tho I I1) := by
  have loop : ∀ (lpn : Nat) (i m f : Nat) (b z : Int32) (o6 : Option Value) (K : Hp), 8 - f = lpn → (s = nI i) → (i < 4) → (m ≤ 24) → (Z i = nI m) → (f ≤ 8) → ((f = 0 ∧ b = 0 ∧ z = -1) ∨ ∃ g, f = g + 1 ∧ b = nI (q_wz (q_wA N n (C i) m) g).1 ∧ z = nI (q_wz (q_wA N n (C i) m) g).2) → (f_weighed S Z C N n s w = if w = 0 then nI (q_wz (q_wA N n (C i) m) 7).1 else nI (q_wz (q_wA N n (C i) m) 7).2) → (Tho I K) → (RepJ K 52 N) → AW l G yX7_weighed cX7_weighed 7 (some (FieldType.int)) 7 0 0 (fun r lay1 I1 => r = some (.int (f_weighed S Z C N n s w)) ∧ lay1 = LAY ∧ Tho I I1) 0 0 54 [some (.ref 0), some (.int (nI i)), some (.int w), some (.int b), some (.int z), some (.int (nI f)), o6] [] LAY K := by
    intro lpn
    induction lpn using Nat.strongRecOn with
    | _ lpn ih =>
      intro i m f b z o6 K hms hsi hi hm hz hf hbz heg hTh hRk
      subst hsi
      have hR36 : RepJ K 36 N := hTh.rep hR
      have hLwK : LwR K N T := hTh.lw hTx.1 hLw
      have hAl := wA_le hDo hn hm (hW i hi).2.2
      have hwl := wz_le hAl
      refine A_iload rfl dX7_weighed_54 ?_
      refine A_bipush bp_8 dX7_weighed_56 ?_
      refine A_icmp_ge 149 rfl dX7_weighed_58 (fun cq58 => ?_) (fun cq58 => ?_)
      · skip
        have hf8 : f = 8 := by
          have hq1 := (le_nI (show (8 : Int32) = nI 8 from rfl) (rfl : nI f = nI f) (by omega) (by omega)).mp cq58
          omega
        have hbz7 : b = nI (q_wz (q_wA N n (C i) m) 7).1 ∧ z = nI (q_wz (q_wA N n (C i) m) 7).2 := by
          rcases hbz with ⟨h1, -⟩ | ⟨g, h1, h2, h3⟩
          · omega
          · have hg7 : g = 7 := by omega
            subst hg7; exact ⟨h2, h3⟩
        refine A_iload_n rfl dX7_weighed_149 ?_
        refine A_if_ne 157 rfl dX7_weighed_150 (fun cq150 => ?_) (fun cq150 => ?_)
        · skip
          refine A_iload rfl dX7_weighed_157 ?_
          refine A_iret rfl rfl rfl rfl dX7_weighed_159 ?_
          rw [heg]
          first
            | (have h7 : w = 0 := cq150; rw [if_pos h7, ← hbz7.1]; exact ⟨rfl, rfl, hTh⟩)
            | (have h7 : ¬ w = 0 := cq150; rw [if_neg h7, ← hbz7.2]; exact ⟨rfl, rfl, hTh⟩)
        · skip
          refine A_iload_n rfl dX7_weighed_153 ?_
          refine A_goto 159 rfl dX7_weighed_154 ?_
          refine A_iret rfl rfl rfl rfl dX7_weighed_159 ?_
          rw [heg]
          first
            | (have h7 : w = 0 := cq150; rw [if_pos h7, ← hbz7.1]; exact ⟨rfl, rfl, hTh⟩)
            | (have h7 : ¬ w = 0 := cq150; rw [if_neg h7, ← hbz7.2]; exact ⟨rfl, rfl, hTh⟩)
      · skip
        have hf8 : f < 8 := by
          have hq1 := mt (le_nI (show (8 : Int32) = nI 8 from rfl) (rfl : nI f = nI f) (by omega) (by omega)).mpr cq58
          omega
        have hw6 : K (36 + 6) f = N (8 + f) := hR36.2.2.2.2.2.2.1 f hf8
        refine A_aload_n rfl dX7_weighed_61 ?_
        refine A_getR fr_X7_35.g rfl lay_0 rfl dX7_weighed_62 ?_
        refine A_getR fr_X7_127 rfl (lj j52) rfl dX7_weighed_65 ?_
        refine A_iload rfl dX7_weighed_68 ?_
        refine A_aload_n rfl dX7_weighed_70 ?_
        refine A_getR fr_X7_28.g rfl lay_0 rfl dX7_weighed_71 ?_
        refine A_getR fr_X7_127 rfl (lj j36) rfl dX7_weighed_74 ?_
        refine A_iload rfl dX7_weighed_77 ?_
        refine A_iald f rfl (lj6 j36) (by omega) (by decide) dX7_weighed_79 ?_
        rw [hw6]
        refine A_bipush bp_20 dX7_weighed_80 ?_
        refine A_iadd dX7_weighed_82 ?_
        refine A_bipush bp_50 dX7_weighed_83 ?_
        refine A_callS (s_min l G _ _ _ _) m_J9_min_7cf53 ml_X7_139 rfl rfl rfl (Nat.le_of_ble_eq_true rfl) (by decide) (by decide) (by decide) dX7_weighed_85 (fun _ _ _ h => congrArg List.length h.2.1) ?_
        rintro _ _ _ ⟨rfl, rfl, e9⟩
        refine AW_I e9 ?_
        clear e9
        rw [show (if (50 : Int32) < N (8 + f) + 20 then (50 : Int32) else N (8 + f) + 20) = q_up (N (8 + f)) from rfl]
        have hR1 : RepJ (up2 K (52 + 6) f (q_up (N (8 + f)))) 52 (q_wf N f) := hRk.weight hf8
        have hLw1 : LwR (up2 K (52 + 6) f (q_up (N (8 + f)))) (q_wf N f) T := (hLwK.wf hf8).fr hTx.1 (fun q a c => up2_ne (by omega))
        have hsh : ∀ q, 60 ≤ q → (up2 K (52 + 6) f (q_up (N (8 + f)))) q = I q := fun q hq => by rw [up2_ne (by omega)]; exact hTh q (Or.inr hq) (by omega)
        have hz1 : (up2 K (52 + 6) f (q_up (N (8 + f)))) (61 + 2 * i) 1 = nI m := by rw [hsh _ (by omega), (hS i hi).2.1, hz]
        have hcl : ∀ k, k < 24 → (up2 K (52 + 6) f (q_up (N (8 + f)))) (61 + 2 * i + 1) k = C i k := fun k hk => by rw [hsh _ (by omega)]; exact (hS i hi).2.2 k hk
        have hC1 : ∀ k, k < 24 → (up2 K (52 + 6) f (q_up (N (8 + f)))) (61 + 2 * i + 1) k = -1000000005 ∨ (-99999 ≤ (up2 K (52 + 6) f (q_up (N (8 + f)))) (61 + 2 * i + 1) k ∧ (up2 K (52 + 6) f (q_up (N (8 + f)))) (61 + 2 * i + 1) k ≤ 99999) := fun k hk => by rw [hcl k hk]; exact (hW i hi).2.2 k hk
        refine A_iast f rfl (lj6 j52) (by omega) (by decide) dX7_weighed_88 ?_
        refine A_aload_n rfl dX7_weighed_89 ?_
        refine A_getR fr_X7_35.g rfl lay_0 rfl dX7_weighed_90 ?_
        refine A_aload_n rfl dX7_weighed_93 ?_
        refine A_getR fr_X7_40.g rfl lay_0 rfl dX7_weighed_94 ?_
        refine A_iload_n rfl dX7_weighed_97 ?_
        refine A_aald i rfl lay_60 (Or.inr (Or.inl rfl)) (by omega) (by decide) (sh_at i hi) dX7_weighed_98 ?_
        refine A_callS (s_apart l G (up2 K (52 + 6) f (q_up (N (8 + f)))) (q_wf N f) n T hn (wf_1 hN hf8) hR1 (hK.wf hf8) (hTx.wf hf8) hLw1 (hDo.wf hf8) (61 + 2 * i) m (isR_s hi) hm hz1 hC1) m_X7_apart ml_X7_193 rfl rfl rfl (Nat.le_of_ble_eq_true rfl) (by decide) (by decide) (by decide) dX7_weighed_99 (fun _ _ _ h => congrArg List.length h.2.1) ?_
        rintro _ _ K2 ⟨rfl, rfl, hf2⟩
        have hap : q_ap (q_wf N f) n (fun zz => (up2 K (52 + 6) f (q_up (N (8 + f)))) (61 + 2 * i + 1) zz) m = (q_wA N n (C i) m) f := ap_congr m (fun k hk => hcl k (by omega))
        rw [hap]
        refine A_istore (by decide) rfl dX7_weighed_102 ?_
        refine A_aload_n rfl dX7_weighed_104 ?_
        refine A_getR fr_X7_35.g rfl lay_0 rfl dX7_weighed_105 ?_
        refine A_getR fr_X7_127 rfl (lj j52) rfl dX7_weighed_108 ?_
        refine A_iload rfl dX7_weighed_111 ?_
        refine A_aload_n rfl dX7_weighed_113 ?_
        refine A_getR fr_X7_28.g rfl lay_0 rfl dX7_weighed_114 ?_
        refine A_getR fr_X7_127 rfl (lj j36) rfl dX7_weighed_117 ?_
        refine A_iload rfl dX7_weighed_120 ?_
        refine A_iald f rfl (lj6 j36) (by omega) (by decide) dX7_weighed_122 ?_
        rw [show K2 (36 + 6) f = N (8 + f) by rw [hf2 (36 + 6) (by decide), up2_ne (by decide)]; exact hw6]
        have hTh2 : Tho I (up2 K2 (52 + 6) f (N (8 + f))) := fun q a c => by
          rw [up2_ne (by omega), hf2 q c, up2_ne (by omega)]; exact hTh q a c
        have hRk2 : RepJ (up2 K2 (52 + 6) f (N (8 + f))) 52 N := by
          have h9 := (hR1.other (I1 := K2) (fun q a c => hf2 q (by omega))).weight (q := f) (x := N (8 + f)) hf8
          rw [wf_back] at h9; exact h9
        refine A_iast f rfl (lj6 j52) (by omega) (by decide) dX7_weighed_123 ?_
        refine A_iload rfl dX7_weighed_124 ?_
        refine A_if_lt 136 rfl dX7_weighed_126 (fun cq126 => ?_) (fun cq126 => ?_)
        · skip
          refine A_iload rfl dX7_weighed_136 ?_
          refine A_istore (by decide) rfl dX7_weighed_138 ?_
          refine A_iload rfl dX7_weighed_140 ?_
          refine A_istore_n (by decide) rfl dX7_weighed_142 ?_
          refine A_iinc ic_1 rfl (by decide) rfl dX7_weighed_143 ?_
          refine A_goto 54 rfl dX7_weighed_146 ?_
          refine AW_L (by rw [nI_1 f]) ?_
          have hAf := hAl f hf8
          first
            | (have h6 : z < 0 := cq126
               refine ih (8 - (f + 1)) (by omega) i m (f + 1) (nI f) (nI ((q_wA N n (C i) m) f)) _ _ rfl rfl hi hm hz (by omega) (Or.inr ⟨f, rfl, ?_⟩) heg hTh2 hRk2
               rcases hbz with ⟨h1, h2, h3⟩ | ⟨g, h1, h2, h3⟩
               · subst h1
                 exact ⟨rfl, rfl⟩
               · have hwg := (hwl g (by omega)).1
                 rw [h3] at h6
                 exact absurd h6 (Int32.not_lt.mpr (nI_pos' (by omega))))
            | (have h6 : ¬ z < 0 := cq126
               have h7 : z ≤ nI ((q_wA N n (C i) m) f) := cq133
               refine ih (8 - (f + 1)) (by omega) i m (f + 1) b z _ _ rfl rfl hi hm hz (by omega) (Or.inr ⟨f, rfl, ?_⟩) heg hTh2 hRk2
               rcases hbz with ⟨h1, h2, h3⟩ | ⟨g, h1, h2, h3⟩
               · exact absurd (h3 ▸ (by decide : (-1 : Int32) < 0)) h6
               · have hwg := (hwl g (by omega)).1
                 rw [h3] at h7
                 have h8 := (nI_leI (by omega) (by omega)).mp h7
                 subst h1
                 rw [q_wz, if_neg (by omega)]
                 exact ⟨h2, h3⟩)
            | (have h6 : ¬ z < 0 := cq126
               have h7 : ¬ z ≤ nI ((q_wA N n (C i) m) f) := cq133
               refine ih (8 - (f + 1)) (by omega) i m (f + 1) (nI f) (nI ((q_wA N n (C i) m) f)) _ _ rfl rfl hi hm hz (by omega) (Or.inr ⟨f, rfl, ?_⟩) heg hTh2 hRk2
               rcases hbz with ⟨h1, h2, h3⟩ | ⟨g, h1, h2, h3⟩
               · exact absurd (h3 ▸ (by decide : (-1 : Int32) < 0)) h6
               · have hwg := (hwl g (by omega)).1
                 rw [h3] at h7
                 have h8 := mt (nI_leI (by omega) (by omega)).mpr h7
                 subst h1
                 rw [q_wz, if_pos (by omega)]
                 exact ⟨rfl, rfl⟩)
        · skip
          refine A_iload rfl dX7_weighed_129 ?_
          refine A_iload rfl dX7_weighed_131 ?_
          refine A_icmp_ge 143 rfl dX7_weighed_133 (fun cq133 => ?_) (fun cq133 => ?_)
          · skip
            refine A_iinc ic_1 rfl (by decide) rfl dX7_weighed_143 ?_
            refine A_goto 54 rfl dX7_weighed_146 ?_
            refine AW_L (by rw [nI_1 f]) ?_
            have hAf := hAl f hf8
            first
              | (have h6 : z < 0 := cq126
                 refine ih (8 - (f + 1)) (by omega) i m (f + 1) (nI f) (nI ((q_wA N n (C i) m) f)) _ _ rfl rfl hi hm hz (by omega) (Or.inr ⟨f, rfl, ?_⟩) heg hTh2 hRk2
                 rcases hbz with ⟨h1, h2, h3⟩ | ⟨g, h1, h2, h3⟩
                 · subst h1
                   exact ⟨rfl, rfl⟩
                 · have hwg := (hwl g (by omega)).1
                   rw [h3] at h6
                   exact absurd h6 (Int32.not_lt.mpr (nI_pos' (by omega))))
              | (have h6 : ¬ z < 0 := cq126
                 have h7 : z ≤ nI ((q_wA N n (C i) m) f) := cq133
                 refine ih (8 - (f + 1)) (by omega) i m (f + 1) b z _ _ rfl rfl hi hm hz (by omega) (Or.inr ⟨f, rfl, ?_⟩) heg hTh2 hRk2
                 rcases hbz with ⟨h1, h2, h3⟩ | ⟨g, h1, h2, h3⟩
                 · exact absurd (h3 ▸ (by decide : (-1 : Int32) < 0)) h6
                 · have hwg := (hwl g (by omega)).1
                   rw [h3] at h7
                   have h8 := (nI_leI (by omega) (by omega)).mp h7
                   subst h1
                   rw [q_wz, if_neg (by omega)]
                   exact ⟨h2, h3⟩)
              | (have h6 : ¬ z < 0 := cq126
                 have h7 : ¬ z ≤ nI ((q_wA N n (C i) m) f) := cq133
                 refine ih (8 - (f + 1)) (by omega) i m (f + 1) (nI f) (nI ((q_wA N n (C i) m) f)) _ _ rfl rfl hi hm hz (by omega) (Or.inr ⟨f, rfl, ?_⟩) heg hTh2 hRk2
                 rcases hbz with ⟨h1, h2, h3⟩ | ⟨g, h1, h2, h3⟩
                 · exact absurd (h3 ▸ (by decide : (-1 : Int32) < 0)) h6
                 · have hwg := (hwl g (by omega)).1
                   rw [h3] at h7
                   have h8 := mt (nI_leI (by omega) (by omega)).mpr h7
                   subst h1
                   rw [q_wz, if_pos (by omega)]
                   exact ⟨rfl, rfl⟩)
          · skip
            refine A_iload rfl dX7_weighed_136 ?_
            refine A_istore (by decide) rfl dX7_weighed_138 ?_
            refine A_iload rfl dX7_weighed_140 ?_
            refine A_istore_n (by decide) rfl dX7_weighed_142 ?_
            refine A_iinc ic_1 rfl (by decide) rfl dX7_weighed_143 ?_
            refine A_goto 54 rfl dX7_weighed_146 ?_
            refine AW_L (by rw [nI_1 f]) ?_
            have hAf := hAl f hf8
            first
              | (have h6 : z < 0 := cq126
                 refine ih (8 - (f + 1)) (by omega) i m (f + 1) (nI f) (nI ((q_wA N n (C i) m) f)) _ _ rfl rfl hi hm hz (by omega) (Or.inr ⟨f, rfl, ?_⟩) heg hTh2 hRk2
                 rcases hbz with ⟨h1, h2, h3⟩ | ⟨g, h1, h2, h3⟩
                 · subst h1
                   exact ⟨rfl, rfl⟩
                 · have hwg := (hwl g (by omega)).1
                   rw [h3] at h6
                   exact absurd h6 (Int32.not_lt.mpr (nI_pos' (by omega))))
              | (have h6 : ¬ z < 0 := cq126
                 have h7 : z ≤ nI ((q_wA N n (C i) m) f) := cq133
                 refine ih (8 - (f + 1)) (by omega) i m (f + 1) b z _ _ rfl rfl hi hm hz (by omega) (Or.inr ⟨f, rfl, ?_⟩) heg hTh2 hRk2
                 rcases hbz with ⟨h1, h2, h3⟩ | ⟨g, h1, h2, h3⟩
                 · exact absurd (h3 ▸ (by decide : (-1 : Int32) < 0)) h6
                 · have hwg := (hwl g (by omega)).1
                   rw [h3] at h7
                   have h8 := (nI_leI (by omega) (by omega)).mp h7
                   subst h1
                   rw [q_wz, if_neg (by omega)]
                   exact ⟨h2, h3⟩)
              | (have h6 : ¬ z < 0 := cq126
                 have h7 : ¬ z ≤ nI ((q_wA N n (C i) m) f) := cq133
                 refine ih (8 - (f + 1)) (by omega) i m (f + 1) (nI f) (nI ((q_wA N n (C i) m) f)) _ _ rfl rfl hi hm hz (by omega) (Or.inr ⟨f, rfl, ?_⟩) heg hTh2 hRk2
                 rcases hbz with ⟨h1, h2, h3⟩ | ⟨g, h1, h2, h3⟩
                 · exact absurd (h3 ▸ (by decide : (-1 : Int32) < 0)) h6
                 · have hwg := (hwl g (by omega)).1
                   rw [h3] at h7
                   have h8 := mt (nI_leI (by omega) (by omega)).mpr h7
                   subst h1
                   rw [q_wz, if_pos (by omega)]
                   exact ⟨rfl, rfl⟩)
  refine Meth.of (by decide +kernel) (by simp [Value.category]) (Nat.le_of_ble_eq_true rfl) ?_
  refine A_iload_n rfl dX7_weighed_0 ?_
  refine A_callS (s_isSheet l G _ _ _) m_X7_isSheet ml_X7_186 rfl rfl rfl (Nat.le_of_ble_eq_true rfl) (by decide) (by decide) (by decide) dX7_weighed_1 (fun _ _ _ h => congrArg List.length h.2.1) ?_
  rintro _ _ _ ⟨rfl, rfl, e9⟩
  refine AW_I e9 ?_
  clear e9
  refine A_if_eq 16 rfl dX7_weighed_4 (fun cq4 => ?_) (fun cq4 => ?_)
  · skip
    refine A_ldc kc_X7_60 rfl dX7_weighed_16 ?_
    refine A_iret rfl rfl rfl rfl dX7_weighed_18 ?_
    first
      | (have h7 := b2i_q.mp cq4; rw [f_weighed, if_neg (fun q => h7 q.1)]; exact ⟨rfl, rfl, Tho.rf I⟩)
      | (have h7 := b2i_q.mp cq13; rw [f_weighed, if_neg (fun q => h7 q.2)]; exact ⟨rfl, rfl, Tho.rf I⟩)
  · skip
    refine A_iload_n rfl dX7_weighed_7 ?_
    refine A_iconst ic_0 dX7_weighed_8 ?_
    refine A_iconst ic_1 dX7_weighed_9 ?_
    refine A_callS (s_within l G _ _ _ _ _) m_X7_within ml_X7_56 rfl rfl rfl (Nat.le_of_ble_eq_true rfl) (by decide) (by decide) (by decide) dX7_weighed_10 (fun _ _ _ h => congrArg List.length h.2.1) ?_
    rintro _ _ _ ⟨rfl, rfl, e9⟩
    refine AW_I e9 ?_
    clear e9
    refine A_if_ne 19 rfl dX7_weighed_13 (fun cq13 => ?_) (fun cq13 => ?_)
    · skip
      have hs0 := b2i_p.mp cq4
      obtain ⟨i, hi, rfl⟩ := in_get (a := 3) rfl hs0
      replace hi : i < 4 := by omega
      obtain ⟨m, hm, hz⟩ := (hW i hi).2.1
      have hw0 := b2i_p.mp cq13
      have eS : I (61 + 2 * i) 0 = S i := (hS i hi).1
      refine A_aload_n rfl dX7_weighed_19 ?_
      refine A_getR fr_X7_40.g rfl lay_0 rfl dX7_weighed_20 ?_
      refine A_iload_n rfl dX7_weighed_23 ?_
      refine A_aald i rfl lay_60 (Or.inr (Or.inl rfl)) (by omega) (by decide) (sh_at i hi) dX7_weighed_24 ?_
      refine A_getI fr_X7_189.g rfl (lr (isR_s hi)) dX7_weighed_25 ?_
      rw [eS]
      refine A_iconst ic_m1 dX7_weighed_28 ?_
      refine A_icmp_ne 35 rfl dX7_weighed_29 (fun cq29 => ?_) (fun cq29 => ?_)
      · skip
        refine A_aload_n rfl dX7_weighed_35 ?_
        refine A_getR fr_X7_35.g rfl lay_0 rfl dX7_weighed_36 ?_
        refine A_aload_n rfl dX7_weighed_39 ?_
        refine A_getR fr_X7_28.g rfl lay_0 rfl dX7_weighed_40 ?_
        refine A_callV (s_become l G 36 52 j36 j52 (by decide) I) m_X0_become ml_X7_179 rfl (lj j52) rfl (by decide) rfl rfl (Nat.le_of_ble_eq_true rfl) (by decide) (by decide) (by decide) dX7_weighed_43 (fun _ _ _ h => congrArg List.length h.2.1) ?_
        rintro _ _ _ ⟨rfl, rfl, e9⟩
        refine AW_I e9 ?_
        clear e9
        refine A_iconst ic_0 dX7_weighed_46 ?_
        refine A_istore_n (by decide) rfl dX7_weighed_47 ?_
        refine A_iconst ic_m1 dX7_weighed_48 ?_
        refine A_istore (by decide) rfl dX7_weighed_49 ?_
        refine A_iconst ic_0 dX7_weighed_51 ?_
        refine A_istore (by decide) rfl dX7_weighed_52 ?_
        exact loop _ i m 0 0 (-1) _ _ rfl rfl hi hm hz (by omega) (Or.inl ⟨rfl, rfl, rfl⟩) (by rw [f_weighed, if_pos ⟨hs0, hw0⟩, nI_clamp (by omega), if_neg cq29, hz, nI_clamp (by omega)]) (Tho.rf I).be (hR.be (by decide))
      · skip
        refine A_ldc kc_X7_192 rfl dX7_weighed_32 ?_
        refine A_iret rfl rfl rfl rfl dX7_weighed_34 ?_
        rw [f_weighed, if_pos ⟨hs0, hw0⟩, nI_clamp (by omega), if_pos cq29]
        exact ⟨rfl, rfl, Tho.rf I⟩
    · skip
      refine A_ldc kc_X7_60 rfl dX7_weighed_16 ?_
      refine A_iret rfl rfl rfl rfl dX7_weighed_18 ?_
      first
        | (have h7 := b2i_q.mp cq4; rw [f_weighed, if_neg (fun q => h7 q.1)]; exact ⟨rfl, rfl, Tho.rf I⟩)
        | (have h7 := b2i_q.mp cq13; rw [f_weighed, if_neg (fun q => h7 q.2)]; exact ⟨rfl, rfl, Tho.rf I⟩)
