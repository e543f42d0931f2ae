/-- where ! may wait -/
def nG : Bool → List Int32 → Prop
  | _, [] => True
  | b, x :: σ => if x = -11 then nG true σ else if x = -10 then (b = true ∧ nG true σ) else nG false σ
theorem nG_up : ∀ {σ : List Int32}, nG false σ → nG true σ
  | [], _ => trivial
  | x :: σ, h => by
    rw [nG] at h ⊢
    by_cases h1 : x = -11
    · rw [if_pos h1] at h ⊢; exact h
    · rw [if_neg h1] at h ⊢
      by_cases h2 : x = -10
      · rw [if_pos h2] at h; cases h.1
      · rw [if_neg h2] at h ⊢; exact h
theorem nG_6 : ∀ (σ c : List Int32), nG true σ → nG false (m_stl 6 σ c).1
  | [], _, _ => trivial
  | x :: σ, c, h => by
    rw [m_stl]
    rw [nG] at h
    by_cases h1 : x = -11
    · rw [if_neg (fun q => q.1 h1), nG, if_pos h1]
      rw [if_pos h1] at h; exact h
    · rw [if_neg h1] at h
      by_cases h2 : x = -10
      · rw [if_pos h2] at h
        rw [if_pos ⟨h1, by rw [h2]; decide⟩]
        exact nG_6 σ (x :: c) h.2
      · rw [if_neg h2] at h
        split
        · exact nG_6 σ (x :: c) (nG_up h)
        · rw [nG, if_neg h1, if_neg h2]; exact h
theorem nG_r (r : Nat) : ∀ (σ c : List Int32), nG false σ → nG false (m_stl r σ c).1 ∧ m_nts (m_stl r σ c).1 = m_nts σ
  | [], _, _ => ⟨trivial, rfl⟩
  | x :: σ, c, h => by
    rw [m_stl]
    split
    · next hq =>
      have h9 := h
      rw [nG, if_neg hq.1] at h
      by_cases h2 : x = -10
      · rw [if_pos h2] at h; cases h.1
      · rw [if_neg h2] at h
        have q := nG_r r σ (x :: c) h
        exact ⟨q.1, by rw [q.2, m_nts, if_neg h2, Nat.add_zero]⟩
    · exact ⟨h, rfl⟩
theorem nG_cl : ∀ (σ c : List Int32) {x : Int32} {σ1 : List Int32}, nG false σ → (m_stl 0 σ c).1 = x :: σ1 → nG true σ1
  | [], _, _, _, _, e => by cases e
  | y :: σ, c, x, σ1, h, e => by
    rw [m_stl] at e
    by_cases h1 : y = -11
    · rw [if_neg (fun q => q.1 h1)] at e
      cases e
      rw [nG, if_pos h1] at h; exact h
    · rw [if_pos ⟨h1, Nat.zero_le _⟩] at e
      rw [nG, if_neg h1] at h
      by_cases h2 : y = -10
      · rw [if_pos h2] at h; cases h.1
      · rw [if_neg h2] at h
        exact nG_cl σ (y :: c) h e
theorem nG_not {σ : List Int32} (h : nG true σ) : nG true (-10 :: σ) := by rw [nG, if_neg (by decide), if_pos rfl]; exact ⟨rfl, h⟩
theorem nG_open {σ : List Int32} (h : nG true σ) : nG true (-11 :: σ) := by rw [nG, if_pos rfl]; exact h
theorem nG_sg {σ : List Int32} {x : Int32} (h : nG false σ) (h1 : x ≠ -11) (h2 : x ≠ -10) : nG true (x :: σ) := by rw [nG, if_neg h1, if_neg h2]; exact h
theorem run_0 {B : Nat → Int32} {L key : Nat} {τ : Tok} {w : Bool} {σ c : List Int32} {p : Nat} {ts : Nat → Bool} : m_run B L key 0 τ w σ c p ts = none := by cases w <;> rfl
theorem nar_b (b : Bool) : vp_nar .boolean (b2i b) = b2i b := by cases b <;> rfl
abbrev QE (I0 : Hp) (r0 : Bool × Nat × List Int32) : Pst := fun r lay1 I1 => ∃ b : Bool, r = some (.int (b2i b)) ∧ lay1 = LAY ∧ b = r0.1 ∧ I1 86 9 = nI r0.2.1 ∧ (b = true → I1 86 17 = nI r0.2.2.length ∧ I1 86 18 = nI (m_at r0.2.2) ∧ RepL (I1 94) r0.2.2) ∧ (∀ j, j ≠ 8 → j ≠ 9 → j ≠ 10 → j ≠ 11 → j ≠ 12 → j ≠ 17 → j ≠ 18 → j ≠ 20 → I1 86 j = I0 86 j) ∧ ∀ q, q ≠ 86 → q ≠ 94 → q ≠ 95 → q ≠ 96 → I1 q = I0 q
theorem sg_neg {B : Nat → Int32} {τ : Tok} (h : ¬ lx_sg B τ = 0) : ¬ 0 ≤ lx_sg B τ := by
  obtain ⟨s, hs1, hs2, es⟩ := (sg_in B τ).resolve_left h
  rw [es]
  exact (neg_s s (by omega) hs1).2.1
theorem nt_1 {k : Nat} {t : Bool} (h : nI k = 3) (hk : k < 10) : (1 : Int32) = b2i (decide (k = 3) || (decide (3 < k) && t)) := by
  have : k = 3 := (nI_eq (b := 3) (by omega) (by decide)).mp h
  subst this; rfl
theorem nt_0 {k : Nat} {t : Bool} (h : ¬ nI k = 3) (hk : k < 10) (h2 : nI k ≤ 3) : (0 : Int32) = b2i (decide (k = 3) || (decide (3 < k) && t)) := by
  have h3 : ¬ k = 3 := fun q => h (by rw [q]; rfl)
  have h4 := (le_nI (rfl : nI k = nI k) (show (3 : Int32) = nI 3 from rfl) (by omega) (by omega)).mp h2
  have h5 : ¬ 3 < k := by omega
  simp [h3, h5, b2i]
theorem nt_t {k : Nat} {t : Bool} (h : ¬ nI k = 3) (hk : k < 10) (h2 : ¬ nI k ≤ 3) : b2i t = b2i (decide (k = 3) || (decide (3 < k) && t)) := by
  have h3 : ¬ k = 3 := fun q => h (by rw [q]; rfl)
  have h4 := mt (le_nI (rfl : nI k = nI k) (show (3 : Int32) = nI 3 from rfl) (by omega) (by omega)).mpr h2
  have h5 : 3 < k := by omega
  simp [h3, h5]
theorem MS2.nil {J0 : Hp} {B : Nat → Int32} {L key : Nat} {τ : Tok} (hB : TpM B L J0) (hT : TkM B J0 τ) (hI : lx_I B L τ) (h13 : J0 86 13 = nI key) : MS2 J0 (up2 (up2 (up2 (up2 J0 86 17 0) 86 18 0) 86 20 0) 96 0 0) B L key τ [] [] :=
  ⟨hB.fr (by rw [up2_ne (by decide), up2_ni (by decide), up2_ni (by decide), up2_ni (by decide)]) (by rw [up2_ne (by decide), up2_ne (by decide), up2_ne (by decide), up2_ne (by decide)]), hT.fr (fun j a b => by rw [up2_ne (by decide), up2_ni (by omega), up2_ni (by omega), up2_ni (by omega)]), hI, ⟨by rw [up2_ne (by decide), up2_ni (by decide), up2_ni (by decide), up2_ni (by decide)]; exact h13, by rw [up2_ne (by decide), up2_ni (by decide), up2_ni (by decide), up2_same]; rfl, by rw [up2_ne (by decide), up2_ni (by decide), up2_same]; rfl, by rw [up2_ne (by decide), up2_same]; rfl⟩, trivial, trivial, fun x hx => (by cases hx), fun j a b d e f g i k => by rw [up2_ne (by decide), up2_ni k, up2_ni i, up2_ni g], fun q a b d e => by rw [up2_ne e, up2_ne a, up2_ne a, up2_ne a]⟩
set_option maxHeartbeats 1000000 in
set_option maxRecDepth 100000 in
theorem t_E (l : Launch) (G : Gm) (J0 : Hp) (B : Nat → Int32) (L key : Nat) (hkey : key ≤ 2) (τ0 : Tok) (hB0 : TpM B L J0) (hT0 : TkM B J0 τ0) (hI0 : lx_I B L τ0) (h13 : J0 86 13 = nI key) (n0 : Nat) (r0 : Bool × Nat × List Int32) (hrun0 : m_run B L key n0 τ0 true [] [] 0 (fun _ => false) = some r0) : Meth l G yX8_takesE cX8_takesE 5 (some (FieldType.boolean)) 4 0 0 [.ref 86] LAY J0 (QE J0 r0) := by
  have loop : ∀ (lpn : Nat) (n : Nat) (τ : Tok) (w : Bool) (σ c : List Int32) (p : Nat) (ts : Nat → Bool) (K : Hp) (o4 : Option Value), n = lpn → (m_run B L key n τ w σ c p ts = some r0) → (MS2 J0 K B L key τ σ c) → (∀ j, j ≤ p → K 96 j = b2i (ts j)) → (p ≤ 8) → (c.length + σ.length ≤ τ.1) → (nG w σ) → AW l G yX8_takesE cX8_takesE 5 (some (FieldType.boolean)) 4 0 0 (QE J0 r0) 0 0 28 [some (.ref 86), some (.int (nI p)), some (.int (nI (m_nts σ))), some (.int (b2i w)), o4] [] LAY K := by
    intro lpn
    induction lpn using Nat.strongRecOn with
    | _ lpn ih =>
      intro n τ w σ c p ts K o4 hms hrun hM hts hp hl hg
      obtain ⟨n2, rfl⟩ : ∃ n2, n = n2 + 1 := by
        cases n with
        | zero => rw [run_0] at hrun; cases hrun
        | succ m => exact ⟨m, rfl⟩
      have hL := hM.1.2.2.1
      have htL := hM.2.2.1.2.2.1
      have hft := hM.2.2.1.2.1
      have hfL := hM.2.2.1.1
      have hk3 := hM.2.2.1.2.2.2.1
      have ht4 := tok_4 τ
      have hkL := hM.2.2.1.2.2.2.2.1
      have hnt := nts_le (K 95) σ.length
      rw [nts_rep hM.2.2.2.2.2.1] at hnt
      have j172 : ∀ (τ2 : Tok) (w2 : Bool) (σ2 c2 : List Int32) (p2 : Nat) (ts2 : Nat → Bool) (K2 : Hp) (x2 : Int32) (o5 : Option Value), (m_run B L key n2 τ2 w2 σ2 c2 p2 ts2 = some r0) → (MS2 J0 K2 B L key τ2 σ2 c2) → (∀ j, j ≤ p2 → K2 96 j = b2i (ts2 j)) → (p2 ≤ 8) → (c2.length + σ2.length ≤ τ2.1) → (nG w2 σ2) → AW l G yX8_takesE cX8_takesE 5 (some (FieldType.boolean)) 4 0 0 (QE J0 r0) 0 0 172 [some (.ref 86), some (.int (nI p2)), some (.int x2), some (.int (b2i w2)), o5] [] LAY K2 := by
        intro τ2 w2 σ2 c2 p2 ts2 K2 x2 o5 hrun2 hM2 hts2 hp2 hl2 hg2
        refine A_aload_n rfl dX8_takesE_172 ?_
        refine A_callV (t_nots l G K2 σ2 (by have := hM2.2.2.1.1; have := hM2.1.2.2.1; omega) hM2.2.2.2.1.2.2.2 hM2.2.2.2.2.2.1) m_X8_notsOpen ml_X8_253 rfl lay_86 rfl (by decide) rfl rfl (Nat.le_of_ble_eq_true rfl) (by decide) (by decide) (by decide) dX8_takesE_173 (fun _ _ _ h => congrArg List.length h.2.1) ?_
        rintro _ _ _ ⟨rfl, rfl, e9⟩
        refine AW_I e9 ?_
        clear e9
        refine A_istore_n (by decide) rfl dX8_takesE_176 ?_
        refine A_goto 28 rfl dX8_takesE_177 ?_
        exact ih n2 (by omega) n2 τ2 w2 σ2 c2 p2 ts2 K2 o5 rfl hrun2 hM2 hts2 hp2 hl2 hg2
      have j158 : ∀ (hw : w = true), (¬ (τ.2.2.1 = 3 ∧ B τ.1 = 33 ∧ m_nts σ < 8)) → (¬ (τ.2.2.1 = 3 ∧ B τ.1 = 40 ∧ p < 8)) → AW l G yX8_takesE cX8_takesE 5 (some (FieldType.boolean)) 4 0 0 (QE J0 r0) 0 0 158 [some (.ref 86), some (.int (nI p)), some (.int (nI (m_nts σ))), some (.int (b2i w)), o4] [] LAY K := by
        intro hw hno1 hno2
        subst hw
        refine A_aload_n rfl dX8_takesE_158 ?_
        refine A_callV (t_part l G J0 K B L key hkey τ σ c hM hl) m_X8_takesPart ml_X8_249 rfl lay_86 rfl (by decide) rfl rfl (Nat.le_of_ble_eq_true rfl) (by decide) (by decide) (by decide) dX8_takesE_159 (fun _ _ _ ⟨_, _, hqq, _⟩ => congrArg List.length hqq) ?_
        rintro _ _ K2 ⟨b1, rfl, rfl, hy1, hn1⟩
        refine A_if_eq 170 rfl dX8_takesE_162 (fun cq162 => ?_) (fun cq162 => ?_)
        · skip
          refine A_iconst ic_0 dX8_takesE_170 ?_
          refine A_iret rfl rfl rfl rfl dX8_takesE_171 ?_
          obtain ⟨hat, hKe⟩ := hn1 (b2i_0.mp cq162)
          have hr0 : (false, τ.1, ([] : List Int32)) = r0 := Option.some.inj (by rw [← hrun, m_run, if_neg hno1, if_neg hno2, hat])
          subst hr0
          subst hKe
          exact ⟨false, rfl, rfl, rfl, hM.2.1.2.1, fun q => (by cases q), hM.2.2.2.2.2.2.2.1, hM.2.2.2.2.2.2.2.2⟩
        · skip
          obtain ⟨v, hat, hM2, h96⟩ := hy1 (b2i_1.mp cq162)
          refine A_iconst ic_0 dX8_takesE_165 ?_
          refine A_istore_n (by decide) rfl dX8_takesE_166 ?_
          refine A_goto 172 rfl dX8_takesE_167 ?_
          have hk0 : τ.2.2.1 ≠ 0 := by
            intro q
            rw [at_no (by omega) (by omega)] at hat
            cases hat
          have hnf := lx_nx_f hM.2.2.1 hk0
          have hsl := stl_len 6 σ (v :: c)
          have hlc : (v :: c).length = c.length + 1 := rfl
          refine j172 _ false _ _ p ts K2 _ o4 (by rw [← hrun, m_run, if_neg hno1, if_neg hno2, hat]) hM2 (fun j hj => by rw [h96]; exact hts j hj) hp (by omega) (nG_6 _ _ hg)
      have j97 : ∀ (hw : w = true), (¬ (τ.2.2.1 = 3 ∧ B τ.1 = 33 ∧ m_nts σ < 8)) → AW l G yX8_takesE cX8_takesE 5 (some (FieldType.boolean)) 4 0 0 (QE J0 r0) 0 0 97 [some (.ref 86), some (.int (nI p)), some (.int (nI (m_nts σ))), some (.int (b2i w)), o4] [] LAY K := by
        intro hw hno1
        refine A_aload_n rfl dX8_takesE_97 ?_
        refine A_getI fr_X8_212.g rfl lay_86 dX8_takesE_98 ?_
        rw [hM.2.1.2.2.1]
        refine A_iconst ic_3 dX8_takesE_101 ?_
        refine A_icmp_ne 158 rfl dX8_takesE_102 (fun cq102 => ?_) (fun cq102 => ?_)
        · skip
          have hno2 : ¬ (τ.2.2.1 = 3 ∧ B τ.1 = 40 ∧ p < 8) := by
            rintro ⟨z1, z2, z3⟩
            first
              | (have h7 : ¬ nI (tokN τ) = 3 := cq102; exact h7 (by rw [(tok3 hk3).mpr z1]; rfl))
              | (have h7 : ¬ B τ.1 = 40 := cq111; exact h7 z2)
              | (have h7 : (8 : Int32) ≤ nI p := cq117; have h8 := (le_nI (show (8 : Int32) = nI 8 from rfl) (rfl : nI p = nI p) (by omega) (by omega)).mp h7; omega)
          exact j158 hw hno1 hno2
        · skip
          have hk9 : τ.2.2.1 = 3 := (tok3 hk3).mp ((nI_eq (b := 3) (by omega) (by decide)).mp cq102)
          refine A_aload_n rfl dX8_takesE_105 ?_
          refine A_getI fr_X8_218.g rfl lay_86 dX8_takesE_106 ?_
          rw [hM.2.1.2.2.2.1 (Or.inr hk9)]
          refine A_bipush bp_40 dX8_takesE_109 ?_
          refine A_icmp_ne 158 rfl dX8_takesE_111 (fun cq111 => ?_) (fun cq111 => ?_)
          · skip
            have hno2 : ¬ (τ.2.2.1 = 3 ∧ B τ.1 = 40 ∧ p < 8) := by
              rintro ⟨z1, z2, z3⟩
              first
                | (have h7 : ¬ nI (tokN τ) = 3 := cq102; exact h7 (by rw [(tok3 hk3).mpr z1]; rfl))
                | (have h7 : ¬ B τ.1 = 40 := cq111; exact h7 z2)
                | (have h7 : (8 : Int32) ≤ nI p := cq117; have h8 := (le_nI (show (8 : Int32) = nI 8 from rfl) (rfl : nI p = nI p) (by omega) (by omega)).mp h7; omega)
            exact j158 hw hno1 hno2
          · skip
            refine A_iload_n rfl dX8_takesE_114 ?_
            refine A_bipush bp_8 dX8_takesE_115 ?_
            refine A_icmp_ge 158 rfl dX8_takesE_117 (fun cq117 => ?_) (fun cq117 => ?_)
            · skip
              have hno2 : ¬ (τ.2.2.1 = 3 ∧ B τ.1 = 40 ∧ p < 8) := by
                rintro ⟨z1, z2, z3⟩
                first
                  | (have h7 : ¬ nI (tokN τ) = 3 := cq102; exact h7 (by rw [(tok3 hk3).mpr z1]; rfl))
                  | (have h7 : ¬ B τ.1 = 40 := cq111; exact h7 z2)
                  | (have h7 : (8 : Int32) ≤ nI p := cq117; have h8 := (le_nI (show (8 : Int32) = nI 8 from rfl) (rfl : nI p = nI p) (by omega) (by omega)).mp h7; omega)
              exact j158 hw hno1 hno2
            · skip
              have hp8 : p < 8 := by
                have hq1 := mt (le_nI (show (8 : Int32) = nI 8 from rfl) (rfl : nI p = nI p) (by omega) (by omega)).mpr cq117
                omega
              have hnf := lx_nx_f hM.2.2.1 (show τ.2.2.1 ≠ 0 by omega)
              have hP := MS2.ts (j0 := p + 1) (x := 0) (MS2.push (x := -11) hM (by decide))
              refine A_aload_n rfl dX8_takesE_120 ?_
              refine A_getR fr_X8_39.g rfl lay_86 rfl dX8_takesE_121 ?_
              refine A_aload_n rfl dX8_takesE_124 ?_
              refine A_getI fr_X8_230.g rfl lay_86 dX8_takesE_125 ?_
              rw [hM.2.2.2.1.2.2.2]
              refine A_bipush bp_m11 dX8_takesE_128 ?_
              refine A_iast σ.length rfl lay_95 (by omega) (by decide) dX8_takesE_130 ?_
              refine A_aload_n rfl dX8_takesE_131 ?_
              refine A_dup rfl dX8_takesE_132 ?_
              refine A_getI fr_X8_230.g rfl lay_86 dX8_takesE_133 ?_
              rw [up2_ne (show (86 : Nat) ≠ 95 by decide), hM.2.2.2.1.2.2.2]
              refine A_iconst ic_1 dX8_takesE_136 ?_
              refine A_iadd dX8_takesE_137 ?_
              rw [nI_1]
              refine A_putI fr_X8_230 rfl lay_86 rfl rfl dX8_takesE_138 ?_
              refine A_iinc ic_1 rfl (by decide) rfl dX8_takesE_141 ?_
              refine A_aload_n rfl dX8_takesE_144 ?_
              refine A_getR fr_X8_42.g rfl lay_86 rfl dX8_takesE_145 ?_
              refine A_iload_n rfl dX8_takesE_148 ?_
              refine A_iconst ic_0 dX8_takesE_149 ?_
              refine A_zast (p + 1) (nI_1 p) lay_96 (by omega) (by decide) rfl dX8_takesE_150 ?_
              refine A_aload_n rfl dX8_takesE_151 ?_
              refine A_callV (t_gow l G (up2 (up2 (up2 K 95 σ.length (-11)) 86 20 (nI (σ.length + 1))) 96 (p + 1) 0) B L hP.1 τ.2.1 (lx_w τ.2.2.1) htL hP.2.1.1 (hP.2.1.2.2.2.2.2 (by omega))) m_X8_go ml_X8_227 rfl lay_86 rfl (by decide) rfl rfl (Nat.le_of_ble_eq_true rfl) (by decide) (by decide) (by decide) dX8_takesE_152 (fun _ _ _ hqq => congrArg List.length hqq.2.1) ?_
              rintro _ _ K3 ⟨rfl, rfl, g1, g2, g3⟩
              have hM3 := MS2.go hP g1 g2 g3
              refine A_goto 172 rfl dX8_takesE_155 ?_
              subst hw
              refine AW_L (by rw [nI_1]) ?_
              have hlc : (-11 :: σ : List Int32).length = σ.length + 1 := rfl
              refine j172 _ true (-11 :: σ) c (p + 1) (fun j => if j = p + 1 then false else ts j) K3 _ o4 (by rw [← hrun, m_run, if_neg hno1, if_pos ⟨hk9, cq111, hp8⟩]) hM3 (fun j hj => ?_) (by omega) (by omega) (nG_open hg)
              rw [g3 96 (by decide)]
              by_cases e : j = p + 1
              · rw [e, up2_same, if_pos rfl]; rfl
              · rw [up2_ni e, up2_ne (by decide), up2_ne (by decide), if_neg e]; exact hts j (by omega)
      have j305 : ∀ (hw : w = false) (x : Int32), (τ.2.2.1 ≠ 0) → (¬ (τ.2.2.1 = 3 ∧ B τ.1 = 41 ∧ 0 < p)) → (¬ (lx_sg B τ) = 0) → (¬ ((m_rk (lx_sg B τ)) = 3 ∧ ts p = true)) → (x = b2i (decide ((m_rk (lx_sg B τ)) = 3) || (decide (3 < (m_rk (lx_sg B τ))) && ts p))) → AW l G yX8_takesE cX8_takesE 5 (some (FieldType.boolean)) 4 0 0 (QE J0 r0) 0 0 305 [some (.ref 86), some (.int (nI p)), some (.int (nI (m_nts σ))), some (.int (b2i w)), (some (.int (lx_sg B τ)))] [.int x, .int (nI p), .ref 96] LAY K := by
        intro hw x hk0 hno4 hsg hnt hx
        subst hw
        have hP := MS2.ts (j0 := p) (x := x) hM
        have hrk := sg_rk hsg
        have hsl := stl_len (m_rk (lx_sg B τ)) σ c
        have hnf := lx_nx_f hM.2.2.1 (show τ.2.2.1 ≠ 0 by omega)
        have hnr := nG_r (m_rk (lx_sg B τ)) σ c hg
        refine A_zast p rfl lay_96 (by omega) (by decide) (by rw [hx]; exact nar_b _) dX8_takesE_305 ?_
        refine A_aload_n rfl dX8_takesE_306 ?_
        refine A_iload rfl dX8_takesE_307 ?_
        refine A_callS (t_rk l G _ _ _) m_X8_rank ml_X8_233 rfl rfl rfl (Nat.le_of_ble_eq_true rfl) (by decide) (by decide) (by decide) dX8_takesE_309 (fun _ _ _ h => congrArg List.length h.2.1) ?_
        rintro _ _ _ ⟨rfl, rfl, e9⟩
        refine AW_I e9 ?_
        clear e9
        refine A_callV (t_stl l G (up2 K 96 p x) (m_rk (lx_sg B τ)) (by omega) σ c (by omega) hP.2.2.2.1.2.2.2 hP.2.2.2.1.2.1 hP.2.2.2.2.1 hP.2.2.2.2.2.1) m_X8_settle ml_X8_245 rfl lay_86 rfl (by decide) rfl rfl (Nat.le_of_ble_eq_true rfl) (by decide) (by decide) (by decide) dX8_takesE_312 (fun _ _ _ hqq => congrArg List.length hqq.2.1) ?_
        rintro _ _ K2 ⟨rfl, rfl, h1, h2, h3, h4, h5, h6⟩
        have hM2 := MS2.stl hP h1 h2 h3 h4 h5 h6
        have hP2 := MS2.push (x := (lx_sg B τ)) hM2 (sg_neg hsg)
        refine A_aload_n rfl dX8_takesE_315 ?_
        refine A_getR fr_X8_39.g rfl lay_86 rfl dX8_takesE_316 ?_
        refine A_aload_n rfl dX8_takesE_319 ?_
        refine A_getI fr_X8_230.g rfl lay_86 dX8_takesE_320 ?_
        rw [h1]
        refine A_iload rfl dX8_takesE_323 ?_
        refine A_iast (m_stl (m_rk (lx_sg B τ)) σ c).1.length rfl lay_95 (by omega) (by decide) dX8_takesE_325 ?_
        refine A_aload_n rfl dX8_takesE_326 ?_
        refine A_dup rfl dX8_takesE_327 ?_
        refine A_getI fr_X8_230.g rfl lay_86 dX8_takesE_328 ?_
        rw [up2_ne (show (86 : Nat) ≠ 95 by decide), h1]
        refine A_iconst ic_1 dX8_takesE_331 ?_
        refine A_iadd dX8_takesE_332 ?_
        rw [nI_1]
        refine A_putI fr_X8_230 rfl lay_86 rfl rfl dX8_takesE_333 ?_
        refine A_iconst ic_1 dX8_takesE_336 ?_
        refine A_istore_n (by decide) rfl dX8_takesE_337 ?_
        refine A_aload_n rfl dX8_takesE_338 ?_
        refine A_callV (t_gow l G (up2 (up2 K2 95 (m_stl (m_rk (lx_sg B τ)) σ c).1.length (lx_sg B τ)) 86 20 (nI ((m_stl (m_rk (lx_sg B τ)) σ c).1.length + 1))) B L hP2.1 τ.2.1 (lx_w τ.2.2.1) htL hP2.2.1.1 (hP2.2.1.2.2.2.2.2 hk0)) m_X8_go ml_X8_227 rfl lay_86 rfl (by decide) rfl rfl (Nat.le_of_ble_eq_true rfl) (by decide) (by decide) (by decide) dX8_takesE_339 (fun _ _ _ hqq => congrArg List.length hqq.2.1) ?_
        rintro _ _ K3 ⟨rfl, rfl, g1, g2, g3⟩
        have hM3 := MS2.go hP2 g1 g2 g3
        refine A_goto 28 rfl dX8_takesE_342 ?_
        have hlc : ((lx_sg B τ) :: (m_stl (m_rk (lx_sg B τ)) σ c).1).length = (m_stl (m_rk (lx_sg B τ)) σ c).1.length + 1 := rfl
        refine AW_L (L := [some (.ref 86), some (.int (nI p)), some (.int (nI (m_nts ((lx_sg B τ) :: (m_stl (m_rk (lx_sg B τ)) σ c).1)))), some (.int (b2i true)), some (.int (lx_sg B τ))]) (by rw [m_nts, if_neg hrk.2.2.2, Nat.add_zero, hnr.2]; rfl) ?_
        refine ih n2 (by omega) n2 _ true ((lx_sg B τ) :: (m_stl (m_rk (lx_sg B τ)) σ c).1) (m_stl (m_rk (lx_sg B τ)) σ c).2 p (fun j => if j = p then (decide ((m_rk (lx_sg B τ)) = 3) || (decide (3 < (m_rk (lx_sg B τ))) && ts p)) else ts j) K3 _ rfl (by rw [← hrun, m_run, if_neg hk0, if_neg hno4, if_neg (fun q => q.elim hsg hnt)]) hM3 (fun j hj => ?_) hp (by omega) (nG_sg hnr.1 hrk.2.2.1 hrk.2.2.2)
        rw [g3 96 (by decide), up2_ne (by decide), up2_ne (by decide), h6 96 (by decide) (by decide)]
        by_cases e : j = p
        · rw [e, up2_same, if_pos rfl]; exact hx
        · rw [up2_ni e, if_neg e]; exact hts j hj
      have j268 : ∀ (hw : w = false), (τ.2.2.1 ≠ 0) → (¬ (τ.2.2.1 = 3 ∧ B τ.1 = 41 ∧ 0 < p)) → (¬ (lx_sg B τ) = 0) → (¬ ((m_rk (lx_sg B τ)) = 3 ∧ ts p = true)) → AW l G yX8_takesE cX8_takesE 5 (some (FieldType.boolean)) 4 0 0 (QE J0 r0) 0 0 268 [some (.ref 86), some (.int (nI p)), some (.int (nI (m_nts σ))), some (.int (b2i w)), (some (.int (lx_sg B τ)))] [] LAY K := by
        intro hw hk0 hno4 hsg hnt
        have hrk := sg_rk hsg
        have htp := hts p (Nat.le_refl _)
        refine A_aload_n rfl dX8_takesE_268 ?_
        refine A_getR fr_X8_42.g rfl lay_86 rfl dX8_takesE_269 ?_
        refine A_iload_n rfl dX8_takesE_272 ?_
        refine A_iload rfl dX8_takesE_273 ?_
        refine A_callS (t_rk l G _ _ _) m_X8_rank ml_X8_233 rfl rfl rfl (Nat.le_of_ble_eq_true rfl) (by decide) (by decide) (by decide) dX8_takesE_275 (fun _ _ _ h => congrArg List.length h.2.1) ?_
        rintro _ _ _ ⟨rfl, rfl, e9⟩
        refine AW_I e9 ?_
        clear e9
        refine A_iconst ic_3 dX8_takesE_278 ?_
        refine A_icmp_eq 300 rfl dX8_takesE_279 (fun cq279 => ?_) (fun cq279 => ?_)
        · skip
          refine A_iconst ic_1 dX8_takesE_300 ?_
          refine A_goto 305 rfl dX8_takesE_301 ?_
          first
            | (have h7 : nI (m_rk (lx_sg B τ)) = 3 := cq279; exact j305 hw 1 hk0 hno4 hsg hnt (nt_1 h7 (by omega)))
            | (have h6 : ¬ nI (m_rk (lx_sg B τ)) = 3 := cq279; have h7 : nI (m_rk (lx_sg B τ)) ≤ 3 := cq288; exact j305 hw 0 hk0 hno4 hsg hnt (nt_0 h6 (by omega) h7))
            | (have h6 : ¬ nI (m_rk (lx_sg B τ)) = 3 := cq279; have h7 : ¬ nI (m_rk (lx_sg B τ)) ≤ 3 := cq288; have h8 : b2i (ts p) = 0 := cq297; exact j305 hw 0 hk0 hno4 hsg hnt (h8.symm.trans (nt_t h6 (by omega) h7)))
            | (have h6 : ¬ nI (m_rk (lx_sg B τ)) = 3 := cq279; have h7 : ¬ nI (m_rk (lx_sg B τ)) ≤ 3 := cq288; have h8 : ¬ b2i (ts p) = 0 := cq297; exact j305 hw 1 hk0 hno4 hsg hnt ((show (1 : Int32) = b2i (ts p) by rw [b2i_1.mp h8]; rfl).trans (nt_t h6 (by omega) h7)))
        · skip
          refine A_iload rfl dX8_takesE_282 ?_
          refine A_callS (t_rk l G _ _ _) m_X8_rank ml_X8_233 rfl rfl rfl (Nat.le_of_ble_eq_true rfl) (by decide) (by decide) (by decide) dX8_takesE_284 (fun _ _ _ h => congrArg List.length h.2.1) ?_
          rintro _ _ _ ⟨rfl, rfl, e9⟩
          refine AW_I e9 ?_
          clear e9
          refine A_iconst ic_3 dX8_takesE_287 ?_
          refine A_icmp_le 304 rfl dX8_takesE_288 (fun cq288 => ?_) (fun cq288 => ?_)
          · skip
            refine A_iconst ic_0 dX8_takesE_304 ?_
            first
              | (have h7 : nI (m_rk (lx_sg B τ)) = 3 := cq279; exact j305 hw 1 hk0 hno4 hsg hnt (nt_1 h7 (by omega)))
              | (have h6 : ¬ nI (m_rk (lx_sg B τ)) = 3 := cq279; have h7 : nI (m_rk (lx_sg B τ)) ≤ 3 := cq288; exact j305 hw 0 hk0 hno4 hsg hnt (nt_0 h6 (by omega) h7))
              | (have h6 : ¬ nI (m_rk (lx_sg B τ)) = 3 := cq279; have h7 : ¬ nI (m_rk (lx_sg B τ)) ≤ 3 := cq288; have h8 : b2i (ts p) = 0 := cq297; exact j305 hw 0 hk0 hno4 hsg hnt (h8.symm.trans (nt_t h6 (by omega) h7)))
              | (have h6 : ¬ nI (m_rk (lx_sg B τ)) = 3 := cq279; have h7 : ¬ nI (m_rk (lx_sg B τ)) ≤ 3 := cq288; have h8 : ¬ b2i (ts p) = 0 := cq297; exact j305 hw 1 hk0 hno4 hsg hnt ((show (1 : Int32) = b2i (ts p) by rw [b2i_1.mp h8]; rfl).trans (nt_t h6 (by omega) h7)))
          · skip
            refine A_aload_n rfl dX8_takesE_291 ?_
            refine A_getR fr_X8_42.g rfl lay_86 rfl dX8_takesE_292 ?_
            refine A_iload_n rfl dX8_takesE_295 ?_
            refine A_zald p rfl lay_96 (by omega) (by decide) dX8_takesE_296 ?_
            rw [htp]
            refine A_if_eq 304 rfl dX8_takesE_297 (fun cq297 => ?_) (fun cq297 => ?_)
            · skip
              refine A_iconst ic_0 dX8_takesE_304 ?_
              first
                | (have h7 : nI (m_rk (lx_sg B τ)) = 3 := cq279; exact j305 hw 1 hk0 hno4 hsg hnt (nt_1 h7 (by omega)))
                | (have h6 : ¬ nI (m_rk (lx_sg B τ)) = 3 := cq279; have h7 : nI (m_rk (lx_sg B τ)) ≤ 3 := cq288; exact j305 hw 0 hk0 hno4 hsg hnt (nt_0 h6 (by omega) h7))
                | (have h6 : ¬ nI (m_rk (lx_sg B τ)) = 3 := cq279; have h7 : ¬ nI (m_rk (lx_sg B τ)) ≤ 3 := cq288; have h8 : b2i (ts p) = 0 := cq297; exact j305 hw 0 hk0 hno4 hsg hnt (h8.symm.trans (nt_t h6 (by omega) h7)))
                | (have h6 : ¬ nI (m_rk (lx_sg B τ)) = 3 := cq279; have h7 : ¬ nI (m_rk (lx_sg B τ)) ≤ 3 := cq288; have h8 : ¬ b2i (ts p) = 0 := cq297; exact j305 hw 1 hk0 hno4 hsg hnt ((show (1 : Int32) = b2i (ts p) by rw [b2i_1.mp h8]; rfl).trans (nt_t h6 (by omega) h7)))
            · skip
              refine A_iconst ic_1 dX8_takesE_300 ?_
              refine A_goto 305 rfl dX8_takesE_301 ?_
              first
                | (have h7 : nI (m_rk (lx_sg B τ)) = 3 := cq279; exact j305 hw 1 hk0 hno4 hsg hnt (nt_1 h7 (by omega)))
                | (have h6 : ¬ nI (m_rk (lx_sg B τ)) = 3 := cq279; have h7 : nI (m_rk (lx_sg B τ)) ≤ 3 := cq288; exact j305 hw 0 hk0 hno4 hsg hnt (nt_0 h6 (by omega) h7))
                | (have h6 : ¬ nI (m_rk (lx_sg B τ)) = 3 := cq279; have h7 : ¬ nI (m_rk (lx_sg B τ)) ≤ 3 := cq288; have h8 : b2i (ts p) = 0 := cq297; exact j305 hw 0 hk0 hno4 hsg hnt (h8.symm.trans (nt_t h6 (by omega) h7)))
                | (have h6 : ¬ nI (m_rk (lx_sg B τ)) = 3 := cq279; have h7 : ¬ nI (m_rk (lx_sg B τ)) ≤ 3 := cq288; have h8 : ¬ b2i (ts p) = 0 := cq297; exact j305 hw 1 hk0 hno4 hsg hnt ((show (1 : Int32) = b2i (ts p) by rw [b2i_1.mp h8]; rfl).trans (nt_t h6 (by omega) h7)))
      have j237 : ∀ (hw : w = false), (τ.2.2.1 ≠ 0) → (¬ (τ.2.2.1 = 3 ∧ B τ.1 = 41 ∧ 0 < p)) → AW l G yX8_takesE cX8_takesE 5 (some (FieldType.boolean)) 4 0 0 (QE J0 r0) 0 0 237 [some (.ref 86), some (.int (nI p)), some (.int (nI (m_nts σ))), some (.int (b2i w)), o4] [] LAY K := by
        intro hw hk0 hno4
        have htp := hts p (Nat.le_refl _)
        refine A_aload_n rfl dX8_takesE_237 ?_
        refine A_callV (t_sgn l G K B L τ hM.2.1 hM.2.2.1) m_X8_signHere ml_X8_256 rfl lay_86 rfl (by decide) rfl rfl (Nat.le_of_ble_eq_true rfl) (by decide) (by decide) (by decide) dX8_takesE_238 (fun _ _ _ h => congrArg List.length h.2.1) ?_
        rintro _ _ _ ⟨rfl, rfl, e9⟩
        refine AW_I e9 ?_
        clear e9
        refine A_istore (by decide) rfl dX8_takesE_241 ?_
        refine A_iload rfl dX8_takesE_243 ?_
        refine A_if_eq 266 rfl dX8_takesE_245 (fun cq245 => ?_) (fun cq245 => ?_)
        · skip
          refine A_iconst ic_0 dX8_takesE_266 ?_
          refine A_iret rfl rfl rfl rfl dX8_takesE_267 ?_
          subst hw
          have hor : (lx_sg B τ) = 0 ∨ ((m_rk (lx_sg B τ)) = 3 ∧ ts p = true) := by
            first
              | (have h7 : (lx_sg B τ) = 0 := cq245; exact Or.inl h7)
              | (have h7 : nI (m_rk (lx_sg B τ)) = 3 := cq254; have h8 : ¬ b2i (ts p) = 0 := cq263; exact Or.inr ⟨(nI_eq (b := 3) (by omega) (by decide)).mp h7, b2i_1.mp h8⟩)
          have hr0 : (false, τ.1, ([] : List Int32)) = r0 := Option.some.inj (by rw [← hrun, m_run, if_neg hk0, if_neg hno4, if_pos hor])
          subst hr0
          exact ⟨false, rfl, rfl, rfl, hM.2.1.2.1, fun q => (by cases q), hM.2.2.2.2.2.2.2.1, hM.2.2.2.2.2.2.2.2⟩
        · skip
          have hrk := sg_rk cq245
          refine A_iload rfl dX8_takesE_248 ?_
          refine A_callS (t_rk l G _ _ _) m_X8_rank ml_X8_233 rfl rfl rfl (Nat.le_of_ble_eq_true rfl) (by decide) (by decide) (by decide) dX8_takesE_250 (fun _ _ _ h => congrArg List.length h.2.1) ?_
          rintro _ _ _ ⟨rfl, rfl, e9⟩
          refine AW_I e9 ?_
          clear e9
          refine A_iconst ic_3 dX8_takesE_253 ?_
          refine A_icmp_ne 268 rfl dX8_takesE_254 (fun cq254 => ?_) (fun cq254 => ?_)
          · skip
            first
              | (have h7 : ¬ nI (m_rk (lx_sg B τ)) = 3 := cq254; exact j268 hw hk0 hno4 cq245 (fun q => h7 (by rw [q.1]; rfl)))
              | (have h8 : b2i (ts p) = 0 := cq263; exact j268 hw hk0 hno4 cq245 (fun q => by rw [q.2] at h8; exact absurd h8 (by decide)))
          · skip
            refine A_aload_n rfl dX8_takesE_257 ?_
            refine A_getR fr_X8_42.g rfl lay_86 rfl dX8_takesE_258 ?_
            refine A_iload_n rfl dX8_takesE_261 ?_
            refine A_zald p rfl lay_96 (by omega) (by decide) dX8_takesE_262 ?_
            rw [htp]
            refine A_if_eq 268 rfl dX8_takesE_263 (fun cq263 => ?_) (fun cq263 => ?_)
            · skip
              first
                | (have h7 : ¬ nI (m_rk (lx_sg B τ)) = 3 := cq254; exact j268 hw hk0 hno4 cq245 (fun q => h7 (by rw [q.1]; rfl)))
                | (have h8 : b2i (ts p) = 0 := cq263; exact j268 hw hk0 hno4 cq245 (fun q => by rw [q.2] at h8; exact absurd h8 (by decide)))
            · skip
              refine A_iconst ic_0 dX8_takesE_266 ?_
              refine A_iret rfl rfl rfl rfl dX8_takesE_267 ?_
              subst hw
              have hor : (lx_sg B τ) = 0 ∨ ((m_rk (lx_sg B τ)) = 3 ∧ ts p = true) := by
                first
                  | (have h7 : (lx_sg B τ) = 0 := cq245; exact Or.inl h7)
                  | (have h7 : nI (m_rk (lx_sg B τ)) = 3 := cq254; have h8 : ¬ b2i (ts p) = 0 := cq263; exact Or.inr ⟨(nI_eq (b := 3) (by omega) (by decide)).mp h7, b2i_1.mp h8⟩)
              have hr0 : (false, τ.1, ([] : List Int32)) = r0 := Option.some.inj (by rw [← hrun, m_run, if_neg hk0, if_neg hno4, if_pos hor])
              subst hr0
              exact ⟨false, rfl, rfl, rfl, hM.2.1.2.1, fun q => (by cases q), hM.2.2.2.2.2.2.2.1, hM.2.2.2.2.2.2.2.2⟩
      cases w with
      | true =>
        refine A_iload_n rfl dX8_takesE_28 ?_
        refine A_if_ne 39 rfl dX8_takesE_29 (fun cq29 => ?_) (fun cq29 => absurd cq29 (by decide))
        refine A_iload_n rfl dX8_takesE_39 ?_
        refine A_if_eq 180 rfl dX8_takesE_40 (fun cq40 => absurd cq40 (by decide)) (fun cq40 => ?_)
        refine A_aload_n rfl dX8_takesE_43 ?_
        refine A_getI fr_X8_212.g rfl lay_86 dX8_takesE_44 ?_
        rw [hM.2.1.2.2.1]
        refine A_iconst ic_3 dX8_takesE_47 ?_
        refine A_icmp_ne 97 rfl dX8_takesE_48 (fun cq48 => ?_) (fun cq48 => ?_)
        · skip
          have hno1 : ¬ (τ.2.2.1 = 3 ∧ B τ.1 = 33 ∧ m_nts σ < 8) := by
            rintro ⟨z1, z2, z3⟩
            first
              | (have h7 : ¬ nI (tokN τ) = 3 := cq48; exact h7 (by rw [(tok3 hk3).mpr z1]; rfl))
              | (have h7 : ¬ B τ.1 = 33 := cq57; exact h7 z2)
              | (have h7 : (8 : Int32) ≤ nI (m_nts σ) := cq63; have h8 := (le_nI (show (8 : Int32) = nI 8 from rfl) (rfl : nI (m_nts σ) = nI (m_nts σ)) (by omega) (by omega)).mp h7; omega)
          exact j97 rfl hno1
        · skip
          have hk9 : τ.2.2.1 = 3 := (tok3 hk3).mp ((nI_eq (b := 3) (by omega) (by decide)).mp cq48)
          refine A_aload_n rfl dX8_takesE_51 ?_
          refine A_getI fr_X8_218.g rfl lay_86 dX8_takesE_52 ?_
          rw [hM.2.1.2.2.2.1 (Or.inr hk9)]
          refine A_bipush bp_33 dX8_takesE_55 ?_
          refine A_icmp_ne 97 rfl dX8_takesE_57 (fun cq57 => ?_) (fun cq57 => ?_)
          · skip
            have hno1 : ¬ (τ.2.2.1 = 3 ∧ B τ.1 = 33 ∧ m_nts σ < 8) := by
              rintro ⟨z1, z2, z3⟩
              first
                | (have h7 : ¬ nI (tokN τ) = 3 := cq48; exact h7 (by rw [(tok3 hk3).mpr z1]; rfl))
                | (have h7 : ¬ B τ.1 = 33 := cq57; exact h7 z2)
                | (have h7 : (8 : Int32) ≤ nI (m_nts σ) := cq63; have h8 := (le_nI (show (8 : Int32) = nI 8 from rfl) (rfl : nI (m_nts σ) = nI (m_nts σ)) (by omega) (by omega)).mp h7; omega)
            exact j97 rfl hno1
          · skip
            refine A_iload_n rfl dX8_takesE_60 ?_
            refine A_bipush bp_8 dX8_takesE_61 ?_
            refine A_icmp_ge 97 rfl dX8_takesE_63 (fun cq63 => ?_) (fun cq63 => ?_)
            · skip
              have hno1 : ¬ (τ.2.2.1 = 3 ∧ B τ.1 = 33 ∧ m_nts σ < 8) := by
                rintro ⟨z1, z2, z3⟩
                first
                  | (have h7 : ¬ nI (tokN τ) = 3 := cq48; exact h7 (by rw [(tok3 hk3).mpr z1]; rfl))
                  | (have h7 : ¬ B τ.1 = 33 := cq57; exact h7 z2)
                  | (have h7 : (8 : Int32) ≤ nI (m_nts σ) := cq63; have h8 := (le_nI (show (8 : Int32) = nI 8 from rfl) (rfl : nI (m_nts σ) = nI (m_nts σ)) (by omega) (by omega)).mp h7; omega)
              exact j97 rfl hno1
            · skip
              have hn8 : m_nts σ < 8 := by
                have hq1 := mt (le_nI (show (8 : Int32) = nI 8 from rfl) (rfl : nI (m_nts σ) = nI (m_nts σ)) (by omega) (by omega)).mpr cq63
                omega
              have hnf := lx_nx_f hM.2.2.1 (show τ.2.2.1 ≠ 0 by omega)
              have hP := MS2.push (x := -10) hM (by decide)
              refine A_aload_n rfl dX8_takesE_66 ?_
              refine A_getR fr_X8_39.g rfl lay_86 rfl dX8_takesE_67 ?_
              refine A_aload_n rfl dX8_takesE_70 ?_
              refine A_getI fr_X8_230.g rfl lay_86 dX8_takesE_71 ?_
              rw [hM.2.2.2.1.2.2.2]
              refine A_bipush bp_m10 dX8_takesE_74 ?_
              refine A_iast σ.length rfl lay_95 (by omega) (by decide) dX8_takesE_76 ?_
              refine A_aload_n rfl dX8_takesE_77 ?_
              refine A_dup rfl dX8_takesE_78 ?_
              refine A_getI fr_X8_230.g rfl lay_86 dX8_takesE_79 ?_
              rw [up2_ne (show (86 : Nat) ≠ 95 by decide), hM.2.2.2.1.2.2.2]
              refine A_iconst ic_1 dX8_takesE_82 ?_
              refine A_iadd dX8_takesE_83 ?_
              rw [nI_1]
              refine A_putI fr_X8_230 rfl lay_86 rfl rfl dX8_takesE_84 ?_
              refine A_iinc ic_1 rfl (by decide) rfl dX8_takesE_87 ?_
              refine A_aload_n rfl dX8_takesE_90 ?_
              refine A_callV (t_gow l G (up2 (up2 K 95 σ.length (-10)) 86 20 (nI (σ.length + 1))) B L hP.1 τ.2.1 (lx_w τ.2.2.1) htL hP.2.1.1 (hP.2.1.2.2.2.2.2 (by omega))) m_X8_go ml_X8_227 rfl lay_86 rfl (by decide) rfl rfl (Nat.le_of_ble_eq_true rfl) (by decide) (by decide) (by decide) dX8_takesE_91 (fun _ _ _ hqq => congrArg List.length hqq.2.1) ?_
              rintro _ _ K3 ⟨rfl, rfl, g1, g2, g3⟩
              have hM3 := MS2.go hP g1 g2 g3
              refine A_goto 172 rfl dX8_takesE_94 ?_
              have hlc : (-10 :: σ : List Int32).length = σ.length + 1 := rfl
              exact j172 _ true (-10 :: σ) c p ts K3 _ o4 (by rw [← hrun, m_run, if_pos ⟨hk9, cq57, hn8⟩]) hM3 (fun j hj => by rw [g3 96 (by decide), up2_ne (by decide), up2_ne (by decide)]; exact hts j hj) hp (by omega) (nG_not hg)
      | false =>
        refine A_iload_n rfl dX8_takesE_28 ?_
        refine A_if_ne 39 rfl dX8_takesE_29 (fun cq29 => absurd (rfl) cq29) (fun cq29 => ?_)
        refine A_aload_n rfl dX8_takesE_32 ?_
        refine A_getI fr_X8_212.g rfl lay_86 dX8_takesE_33 ?_
        rw [hM.2.1.2.2.1]
        refine A_if_eq 345 rfl dX8_takesE_36 (fun cq36 => ?_) (fun cq36 => ?_)
        · skip
          refine A_aload_n rfl dX8_takesE_345 ?_
          refine A_iconst ic_0 dX8_takesE_346 ?_
          refine A_callV (t_stl l G K 0 (by decide) σ c (by omega) hM.2.2.2.1.2.2.2 hM.2.2.2.1.2.1 hM.2.2.2.2.1 hM.2.2.2.2.2.1) m_X8_settle ml_X8_245 rfl lay_86 rfl (by decide) rfl rfl (Nat.le_of_ble_eq_true rfl) (by decide) (by decide) (by decide) dX8_takesE_347 (fun _ _ _ hqq => congrArg List.length hqq.2.1) ?_
          rintro _ _ K2 ⟨rfl, rfl, h1, h2, h3, h4, h5, h6⟩
          have hM2 := MS2.stl hM h1 h2 h3 h4 h5 h6
          have hk0 : τ.2.2.1 = 0 := (tok0 hk3).mp ((nI_eq (b := 0) (by omega) (by decide)).mp cq36)
          have hr0 : (decide (p = 0), τ.1, (m_stl 0 σ c).2) = r0 := Option.some.inj (by rw [← hrun, m_run, if_pos hk0])
          subst hr0
          refine A_iload_n rfl dX8_takesE_350 ?_
          refine A_if_ne 358 rfl dX8_takesE_351 (fun cq351 => ?_) (fun cq351 => ?_)
          · skip
            refine A_iconst ic_0 dX8_takesE_358 ?_
            refine A_iret rfl rfl rfl rfl dX8_takesE_359 ?_
            first
              | (have h7 : nI p = 0 := cq351; have h8 : p = 0 := (nI_eq (b := 0) (by omega) (by decide)).mp h7; exact ⟨true, rfl, rfl, (decide_eq_true h8).symm, hM2.2.1.2.1, fun _ => ⟨h2, hM2.2.2.2.1.2.2.1, h3⟩, hM2.2.2.2.2.2.2.2.1, hM2.2.2.2.2.2.2.2.2⟩)
              | (have h7 : ¬ nI p = 0 := cq351; exact ⟨false, rfl, rfl, (decide_eq_false (fun q => h7 (by rw [q]; rfl))).symm, hM2.2.1.2.1, fun q => (by cases q), hM2.2.2.2.2.2.2.2.1, hM2.2.2.2.2.2.2.2.2⟩)
          · skip
            refine A_iconst ic_1 dX8_takesE_354 ?_
            refine A_goto 359 rfl dX8_takesE_355 ?_
            refine A_iret rfl rfl rfl rfl dX8_takesE_359 ?_
            first
              | (have h7 : nI p = 0 := cq351; have h8 : p = 0 := (nI_eq (b := 0) (by omega) (by decide)).mp h7; exact ⟨true, rfl, rfl, (decide_eq_true h8).symm, hM2.2.1.2.1, fun _ => ⟨h2, hM2.2.2.2.1.2.2.1, h3⟩, hM2.2.2.2.2.2.2.2.1, hM2.2.2.2.2.2.2.2.2⟩)
              | (have h7 : ¬ nI p = 0 := cq351; exact ⟨false, rfl, rfl, (decide_eq_false (fun q => h7 (by rw [q]; rfl))).symm, hM2.2.1.2.1, fun q => (by cases q), hM2.2.2.2.2.2.2.2.1, hM2.2.2.2.2.2.2.2.2⟩)
        · skip
          refine A_iload_n rfl dX8_takesE_39 ?_
          refine A_if_eq 180 rfl dX8_takesE_40 (fun cq40 => ?_) (fun cq40 => absurd (rfl) cq40)
          refine A_aload_n rfl dX8_takesE_180 ?_
          refine A_getI fr_X8_212.g rfl lay_86 dX8_takesE_181 ?_
          rw [hM.2.1.2.2.1]
          refine A_iconst ic_3 dX8_takesE_184 ?_
          refine A_icmp_ne 237 rfl dX8_takesE_185 (fun cq185 => ?_) (fun cq185 => ?_)
          · skip
            have hk0 : τ.2.2.1 ≠ 0 := fun q => cq36 (by rw [(tok0 hk3).mpr q]; rfl)
            have hno4 : ¬ (τ.2.2.1 = 3 ∧ B τ.1 = 41 ∧ 0 < p) := by
              rintro ⟨z1, z2, z3⟩
              first
                | (have h7 : ¬ nI (tokN τ) = 3 := cq185; exact h7 (by rw [(tok3 hk3).mpr z1]; rfl))
                | (have h7 : ¬ B τ.1 = 41 := cq194; exact h7 z2)
                | (have h7 : nI p ≤ 0 := cq198; have h8 := (le_nI (rfl : nI p = nI p) (show (0 : Int32) = nI 0 from rfl) (by omega) (by omega)).mp h7; omega)
            exact j237 rfl hk0 hno4
          · skip
            have hk9 : τ.2.2.1 = 3 := (tok3 hk3).mp ((nI_eq (b := 3) (by omega) (by decide)).mp cq185)
            refine A_aload_n rfl dX8_takesE_188 ?_
            refine A_getI fr_X8_218.g rfl lay_86 dX8_takesE_189 ?_
            rw [hM.2.1.2.2.2.1 (Or.inr hk9)]
            refine A_bipush bp_41 dX8_takesE_192 ?_
            refine A_icmp_ne 237 rfl dX8_takesE_194 (fun cq194 => ?_) (fun cq194 => ?_)
            · skip
              have hk0 : τ.2.2.1 ≠ 0 := fun q => cq36 (by rw [(tok0 hk3).mpr q]; rfl)
              have hno4 : ¬ (τ.2.2.1 = 3 ∧ B τ.1 = 41 ∧ 0 < p) := by
                rintro ⟨z1, z2, z3⟩
                first
                  | (have h7 : ¬ nI (tokN τ) = 3 := cq185; exact h7 (by rw [(tok3 hk3).mpr z1]; rfl))
                  | (have h7 : ¬ B τ.1 = 41 := cq194; exact h7 z2)
                  | (have h7 : nI p ≤ 0 := cq198; have h8 := (le_nI (rfl : nI p = nI p) (show (0 : Int32) = nI 0 from rfl) (by omega) (by omega)).mp h7; omega)
              exact j237 rfl hk0 hno4
            · skip
              refine A_iload_n rfl dX8_takesE_197 ?_
              refine A_if_le 237 rfl dX8_takesE_198 (fun cq198 => ?_) (fun cq198 => ?_)
              · skip
                have hk0 : τ.2.2.1 ≠ 0 := fun q => cq36 (by rw [(tok0 hk3).mpr q]; rfl)
                have hno4 : ¬ (τ.2.2.1 = 3 ∧ B τ.1 = 41 ∧ 0 < p) := by
                  rintro ⟨z1, z2, z3⟩
                  first
                    | (have h7 : ¬ nI (tokN τ) = 3 := cq185; exact h7 (by rw [(tok3 hk3).mpr z1]; rfl))
                    | (have h7 : ¬ B τ.1 = 41 := cq194; exact h7 z2)
                    | (have h7 : nI p ≤ 0 := cq198; have h8 := (le_nI (rfl : nI p = nI p) (show (0 : Int32) = nI 0 from rfl) (by omega) (by omega)).mp h7; omega)
                exact j237 rfl hk0 hno4
              · skip
                have hp0 : 0 < p := by
                  have hq1 := mt (le_nI (rfl : nI p = nI p) (show (0 : Int32) = nI 0 from rfl) (by omega) (by omega)).mpr cq198
                  omega
                have hnf := lx_nx_f hM.2.2.1 (show τ.2.2.1 ≠ 0 by omega)
                have hk0 : ¬ τ.2.2.1 = 0 := by omega
                obtain ⟨y, σ1, hs1⟩ : ∃ y σ1, (m_stl 0 σ c).1 = y :: σ1 := by
                  cases hq : (m_stl 0 σ c).1 with
                  | nil => rw [m_run, if_neg hk0, if_pos ⟨hk9, cq194, hp0⟩, hq] at hrun; cases hrun
                  | cons y s => exact ⟨y, s, rfl⟩
                have hrun2 : m_run B L key n2 (lx_nx B L τ) false (m_stl 6 σ1 (m_stl 0 σ c).2).1 (m_stl 6 σ1 (m_stl 0 σ c).2).2 (p - 1) ts = some r0 := by rw [← hrun, m_run, if_neg hk0, if_pos ⟨hk9, cq194, hp0⟩, hs1]
                have hsl := stl_len 0 σ c
                rw [hs1] at hsl
                have hsl2 := stl_len 6 σ1 (m_stl 0 σ c).2
                have hlc : (y :: σ1).length = σ1.length + 1 := rfl
                refine A_aload_n rfl dX8_takesE_201 ?_
                refine A_iconst ic_0 dX8_takesE_202 ?_
                refine A_callV (t_stl l G K 0 (by decide) σ c (by omega) hM.2.2.2.1.2.2.2 hM.2.2.2.1.2.1 hM.2.2.2.2.1 hM.2.2.2.2.2.1) m_X8_settle ml_X8_245 rfl lay_86 rfl (by decide) rfl rfl (Nat.le_of_ble_eq_true rfl) (by decide) (by decide) (by decide) dX8_takesE_203 (fun _ _ _ hqq => congrArg List.length hqq.2.1) ?_
                rintro _ _ K2 ⟨rfl, rfl, h1, h2, h3, h4, h5, h6⟩
                have hM2 := MS2.stl hM h1 h2 h3 h4 h5 h6
                rw [hs1] at hM2
                have hP := MS2.pop hM2
                refine A_aload_n rfl dX8_takesE_206 ?_
                refine A_dup rfl dX8_takesE_207 ?_
                refine A_getI fr_X8_230.g rfl lay_86 dX8_takesE_208 ?_
                rw [hM2.2.2.2.1.2.2.2, hlc]
                refine A_iconst ic_1 dX8_takesE_211 ?_
                refine A_isub dX8_takesE_212 ?_
                rw [nI_pred]
                refine A_putI fr_X8_230 rfl lay_86 rfl rfl dX8_takesE_213 ?_
                refine A_iinc ic_m1 rfl (by decide) rfl dX8_takesE_216 ?_
                refine A_aload_n rfl dX8_takesE_219 ?_
                refine A_bipush bp_6 dX8_takesE_220 ?_
                refine A_callV (t_stl l G (up2 K2 86 20 (nI σ1.length)) 6 (by decide) σ1 (m_stl 0 σ c).2 (by omega) hP.2.2.2.1.2.2.2 hP.2.2.2.1.2.1 hP.2.2.2.2.1 hP.2.2.2.2.2.1) m_X8_settle ml_X8_245 rfl lay_86 rfl (by decide) rfl rfl (Nat.le_of_ble_eq_true rfl) (by decide) (by decide) (by decide) dX8_takesE_222 (fun _ _ _ hqq => congrArg List.length hqq.2.1) ?_
                rintro _ _ K4 ⟨rfl, rfl, k1, k2, k3, k4, k5, k6⟩
                have hM4 := MS2.stl hP k1 k2 k3 k4 k5 k6
                refine A_aload_n rfl dX8_takesE_225 ?_
                refine A_callV (t_nots l G K4 (m_stl 6 σ1 (m_stl 0 σ c).2).1 (by omega) hM4.2.2.2.1.2.2.2 hM4.2.2.2.2.2.1) m_X8_notsOpen ml_X8_253 rfl lay_86 rfl (by decide) rfl rfl (Nat.le_of_ble_eq_true rfl) (by decide) (by decide) (by decide) dX8_takesE_226 (fun _ _ _ h => congrArg List.length h.2.1) ?_
                rintro _ _ _ ⟨rfl, rfl, e9⟩
                refine AW_I e9 ?_
                clear e9
                refine A_istore_n (by decide) rfl dX8_takesE_229 ?_
                refine A_aload_n rfl dX8_takesE_230 ?_
                refine A_callV (t_gow l G K4 B L hM4.1 τ.2.1 (lx_w τ.2.2.1) htL hM4.2.1.1 (hM4.2.1.2.2.2.2.2 (by omega))) m_X8_go ml_X8_227 rfl lay_86 rfl (by decide) rfl rfl (Nat.le_of_ble_eq_true rfl) (by decide) (by decide) (by decide) dX8_takesE_231 (fun _ _ _ hqq => congrArg List.length hqq.2.1) ?_
                rintro _ _ K5 ⟨rfl, rfl, g1, g2, g3⟩
                have hM5 := MS2.go hM4 g1 g2 g3
                refine A_goto 28 rfl dX8_takesE_234 ?_
                refine AW_L (by rw [m1_nI (show 1 ≤ p by omega)]) ?_
                exact ih n2 (by omega) n2 _ false _ _ (p - 1) ts K5 o4 rfl hrun2 hM5 (fun j hj => by rw [g3 96 (by decide), k6 96 (by decide) (by decide), up2_ne (by decide), h6 96 (by decide) (by decide)]; exact hts j (by omega)) (by omega) (by omega) (nG_6 _ _ (nG_cl _ _ hg hs1))
  refine Meth.of (by decide +kernel) (by simp [Value.category]) (Nat.le_of_ble_eq_true rfl) ?_
  refine A_iconst ic_0 dX8_takesE_0 ?_
  refine A_istore_n (by decide) rfl dX8_takesE_1 ?_
  refine A_iconst ic_0 dX8_takesE_2 ?_
  refine A_istore_n (by decide) rfl dX8_takesE_3 ?_
  refine A_iconst ic_1 dX8_takesE_4 ?_
  refine A_istore_n (by decide) rfl dX8_takesE_5 ?_
  refine A_aload_n rfl dX8_takesE_6 ?_
  refine A_iconst ic_0 dX8_takesE_7 ?_
  refine A_putI fr_X8_236 rfl lay_86 rfl rfl dX8_takesE_8 ?_
  refine A_aload_n rfl dX8_takesE_11 ?_
  refine A_iconst ic_0 dX8_takesE_12 ?_
  refine A_putI fr_X8_242 rfl lay_86 rfl rfl dX8_takesE_13 ?_
  refine A_aload_n rfl dX8_takesE_16 ?_
  refine A_iconst ic_0 dX8_takesE_17 ?_
  refine A_putI fr_X8_230 rfl lay_86 rfl rfl dX8_takesE_18 ?_
  refine A_aload_n rfl dX8_takesE_21 ?_
  refine A_getR fr_X8_42.g rfl lay_86 rfl dX8_takesE_22 ?_
  refine A_iconst ic_0 dX8_takesE_25 ?_
  refine A_iconst ic_0 dX8_takesE_26 ?_
  refine A_zast 0 rfl lay_96 (by omega) (by decide) rfl dX8_takesE_27 ?_
  exact loop n0 n0 τ0 true [] [] 0 (fun _ => false) _ _ rfl hrun0 (MS2.nil hB0 hT0 hI0 h13) (fun j hj => by rw [show j = 0 by omega, up2_same]; rfl) (by decide) (Nat.zero_le _) trivial
