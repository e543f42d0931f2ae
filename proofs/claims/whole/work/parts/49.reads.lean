theorem stl_at (r : Nat) : ∀ (σ c : List Int32), (∀ x ∈ σ, ¬ 0 ≤ x) → m_at (m_stl r σ c).2 = m_at c ∧ ∀ x ∈ (m_stl r σ c).1, ¬ 0 ≤ x
  | [], c, _ => ⟨rfl, fun x hx => by cases hx⟩
  | x :: σ, c, h => by
    rw [m_stl]
    split
    · have q := stl_at r σ (x :: c) (fun y hy => h y (List.mem_cons_of_mem _ hy))
      rw [m_at, if_neg (h x List.mem_cons_self), Nat.add_zero] at q
      exact q
    · exact ⟨rfl, h⟩
theorem stl_len (r : Nat) : ∀ (σ c : List Int32), (m_stl r σ c).1.length + (m_stl r σ c).2.length = σ.length + c.length
  | [], c => rfl
  | x :: σ, c => by
    rw [m_stl]
    split
    · rw [stl_len r σ (x :: c)]; simp only [List.length_cons]; omega
    · rfl
def q_nts (row : Nat → Int32) : Nat → Nat
  | 0 => 0
  | k + 1 => q_nts row k + if row k = -10 then 1 else 0
theorem nts_rep {row : Nat → Int32} : ∀ {σ : List Int32}, RepL row σ → q_nts row σ.length = m_nts σ
  | [], _ => rfl
  | x :: σ, h => by rw [List.length_cons, q_nts, nts_rep h.2, m_nts, h.1]
theorem nts_le (row : Nat → Int32) : ∀ k, q_nts row k ≤ k
  | 0 => Nat.le_refl _
  | k + 1 => by have := nts_le row k; rw [q_nts]; split <;> omega
/-- the fields of the reference's reading -/
abbrev MS2 (I0 J : Hp) (B : Nat → Int32) (L key : Nat) (τ : Tok) (σ c : List Int32) : Prop := TpM B L J ∧ TkM B J τ ∧ lx_I B L τ ∧ (J 86 13 = nI key ∧ J 86 17 = nI c.length ∧ J 86 18 = nI (m_at c) ∧ J 86 20 = nI σ.length) ∧ RepL (J 94) c ∧ RepL (J 95) σ ∧ (∀ x ∈ σ, ¬ 0 ≤ x) ∧ (∀ j, j ≠ 8 → j ≠ 9 → j ≠ 10 → j ≠ 11 → j ≠ 12 → j ≠ 17 → j ≠ 18 → j ≠ 20 → J 86 j = I0 86 j) ∧ ∀ q, q ≠ 86 → q ≠ 94 → q ≠ 95 → q ≠ 96 → J q = I0 q
theorem tok3 {τ : Tok} (h : τ.2.2.1 ≤ 3) : tokN τ = 3 ↔ τ.2.2.1 = 3 := by
  unfold tokN
  repeat' split
  all_goals omega
theorem tok0 {τ : Tok} (h : τ.2.2.1 ≤ 3) : tokN τ = 0 ↔ τ.2.2.1 = 0 := by
  unfold tokN
  repeat' split
  all_goals omega
theorem tok1 {τ : Tok} (h : τ.2.2.1 ≤ 3) : tokN τ = 1 ↔ τ.2.2.1 = 1 ∧ τ.2.2.2 = false := by
  unfold tokN
  cases τ.2.2.2 <;> (repeat' split) <;> simp_all
theorem tok2 {τ : Tok} (h : τ.2.2.1 ≤ 3) : tokN τ = 2 ↔ τ.2.2.1 = 2 ∧ τ.2.2.2 = false ∧ τ.2.1 - τ.1 ≤ 4 := by
  unfold tokN
  cases τ.2.2.2 <;> (repeat' split) <;> simp_all <;> omega
theorem tok_4 (τ : Tok) : tokN τ ≤ 4 := by
  unfold tokN
  repeat' split
  all_goals omega
set_option maxHeartbeats 1000000 in
set_option maxRecDepth 100000 in
theorem t_rk (l : Launch) (G : Gm) (lay : Lay) (I : Hp) (x : Int32) : Meth l G yX8_rank cX8_rank 1 (some (FieldType.int)) 1 0 0 [.int x] lay I (fun r lay1 I1 => r = some (.int (nI (m_rk x))) ∧ lay1 = lay ∧ I1 = I) := by
  refine Meth.of (by decide +kernel) (by simp [Value.category]) (Nat.le_of_ble_eq_true rfl) ?_
  refine A_iload_n rfl dX8_rank_0 ?_
  refine A_iconst ic_m1 dX8_rank_1 ?_
  refine A_icmp_ne 9 rfl dX8_rank_2 (fun cq2 => ?_) (fun cq2 => ?_)
  · skip
    refine A_iload_n rfl dX8_rank_9 ?_
    refine A_bipush bp_m2 dX8_rank_10 ?_
    refine A_icmp_ne 19 rfl dX8_rank_12 (fun cq12 => ?_) (fun cq12 => ?_)
    · skip
      refine A_iload_n rfl dX8_rank_19 ?_
      refine A_bipush bp_m5 dX8_rank_20 ?_
      refine A_icmp_lt 29 rfl dX8_rank_22 (fun cq22 => ?_) (fun cq22 => ?_)
      · skip
        refine A_iload_n rfl dX8_rank_29 ?_
        refine A_bipush bp_m7 dX8_rank_30 ?_
        refine A_icmp_lt 39 rfl dX8_rank_32 (fun cq32 => ?_) (fun cq32 => ?_)
        · skip
          refine A_iload_n rfl dX8_rank_39 ?_
          refine A_bipush bp_m9 dX8_rank_40 ?_
          refine A_icmp_lt 49 rfl dX8_rank_42 (fun cq42 => ?_) (fun cq42 => ?_)
          · skip
            refine A_bipush bp_6 dX8_rank_49 ?_
            refine A_iret rfl rfl rfl rfl dX8_rank_51 ?_
            refine ⟨congrArg (fun z => some (Value.int z)) ?_, rfl, rfl⟩
            unfold m_rk
            (repeat' split) <;> first | rfl | (exfalso; simp only [Int32.lt_iff_toInt_lt, Int32.le_iff_toInt_le, ← Int32.toInt_inj, Int32.reduceToInt] at *; omega)
          · skip
            refine A_iconst ic_5 dX8_rank_45 ?_
            refine A_goto 51 rfl dX8_rank_46 ?_
            refine A_iret rfl rfl rfl rfl dX8_rank_51 ?_
            refine ⟨congrArg (fun z => some (Value.int z)) ?_, rfl, rfl⟩
            unfold m_rk
            (repeat' split) <;> first | rfl | (exfalso; simp only [Int32.lt_iff_toInt_lt, Int32.le_iff_toInt_le, ← Int32.toInt_inj, Int32.reduceToInt] at *; omega)
        · skip
          refine A_iconst ic_4 dX8_rank_35 ?_
          refine A_goto 51 rfl dX8_rank_36 ?_
          refine A_iret rfl rfl rfl rfl dX8_rank_51 ?_
          refine ⟨congrArg (fun z => some (Value.int z)) ?_, rfl, rfl⟩
          unfold m_rk
          (repeat' split) <;> first | rfl | (exfalso; simp only [Int32.lt_iff_toInt_lt, Int32.le_iff_toInt_le, ← Int32.toInt_inj, Int32.reduceToInt] at *; omega)
      · skip
        refine A_iconst ic_3 dX8_rank_25 ?_
        refine A_goto 51 rfl dX8_rank_26 ?_
        refine A_iret rfl rfl rfl rfl dX8_rank_51 ?_
        refine ⟨congrArg (fun z => some (Value.int z)) ?_, rfl, rfl⟩
        unfold m_rk
        (repeat' split) <;> first | rfl | (exfalso; simp only [Int32.lt_iff_toInt_lt, Int32.le_iff_toInt_le, ← Int32.toInt_inj, Int32.reduceToInt] at *; omega)
    · skip
      refine A_iconst ic_2 dX8_rank_15 ?_
      refine A_goto 51 rfl dX8_rank_16 ?_
      refine A_iret rfl rfl rfl rfl dX8_rank_51 ?_
      refine ⟨congrArg (fun z => some (Value.int z)) ?_, rfl, rfl⟩
      unfold m_rk
      (repeat' split) <;> first | rfl | (exfalso; simp only [Int32.lt_iff_toInt_lt, Int32.le_iff_toInt_le, ← Int32.toInt_inj, Int32.reduceToInt] at *; omega)
  · skip
    refine A_iconst ic_1 dX8_rank_5 ?_
    refine A_goto 51 rfl dX8_rank_6 ?_
    refine A_iret rfl rfl rfl rfl dX8_rank_51 ?_
    refine ⟨congrArg (fun z => some (Value.int z)) ?_, rfl, rfl⟩
    unfold m_rk
    (repeat' split) <;> first | rfl | (exfalso; simp only [Int32.lt_iff_toInt_lt, Int32.le_iff_toInt_le, ← Int32.toInt_inj, Int32.reduceToInt] at *; omega)
theorem rk_6 (x : Int32) : m_rk x ≤ 6 := by
  unfold m_rk
  repeat' split
  all_goals omega
set_option maxHeartbeats 1000000 in
set_option maxRecDepth 100000 in
theorem t_stl (l : Launch) (G : Gm) (J : Hp) (r : Nat) (hr : r ≤ 6) (σ c : List Int32) (hl0 : c.length + σ.length ≤ 96) (h20i : J 86 20 = nI σ.length) (h17i : J 86 17 = nI c.length) (h94i : RepL (J 94) c) (h95i : RepL (J 95) σ) : Meth l G yX8_settle cX8_settle 2 none 2 0 0 [.ref 86, .int (nI r)] LAY J (fun r1 lay1 I1 => r1 = none ∧ lay1 = LAY ∧ I1 86 20 = nI (m_stl r σ c).1.length ∧ I1 86 17 = nI (m_stl r σ c).2.length ∧ RepL (I1 94) (m_stl r σ c).2 ∧ RepL (I1 95) (m_stl r σ c).1 ∧ (∀ j, j ≠ 17 → j ≠ 20 → I1 86 j = J 86 j) ∧ ∀ q, q ≠ 86 → q ≠ 94 → I1 q = J q) := by
  have loop : ∀ (lpn : Nat) (σ2 c2 : List Int32) (K : Hp), σ2.length = lpn → (m_stl r σ2 c2 = m_stl r σ c) → (c2.length + σ2.length ≤ 96) → (K 86 20 = nI σ2.length) → (K 86 17 = nI c2.length) → (RepL (K 94) c2) → (RepL (K 95) σ2) → ((∀ j, j ≠ 17 → j ≠ 20 → K 86 j = J 86 j) ∧ ∀ q, q ≠ 86 → q ≠ 94 → K q = J q) → AW l G yX8_settle cX8_settle 2 none 2 0 0 (fun r1 lay1 I1 => r1 = none ∧ lay1 = LAY ∧ I1 86 20 = nI (m_stl r σ c).1.length ∧ I1 86 17 = nI (m_stl r σ c).2.length ∧ RepL (I1 94) (m_stl r σ c).2 ∧ RepL (I1 95) (m_stl r σ c).1 ∧ (∀ j, j ≠ 17 → j ≠ 20 → I1 86 j = J 86 j) ∧ ∀ q, q ≠ 86 → q ≠ 94 → I1 q = J q) 0 0 0 [some (.ref 86), some (.int (nI r))] [] LAY K := by
    intro lpn
    induction lpn using Nat.strongRecOn with
    | _ lpn ih =>
      intro σ2 c2 K hms hst hl h20 h17 h94 h95 hfr
      refine A_aload_n rfl dX8_settle_0 ?_
      refine A_getI fr_X8_230.g rfl lay_86 dX8_settle_1 ?_
      rw [h20]
      refine A_if_le 82 rfl dX8_settle_4 (fun cq4 => ?_) (fun cq4 => ?_)
      · skip
        refine A_vret rfl rfl rfl dX8_settle_82 ?_
        first
          | (have h7 : nI σ2.length ≤ 0 := cq4
             have h8 := (le_nI (rfl : nI σ2.length = nI σ2.length) (show (0 : Int32) = nI 0 from rfl) (by omega) (by omega)).mp h7
             obtain rfl : σ2 = [] := List.length_eq_zero_iff.mp (by omega)
             rw [← hst]
             exact ⟨rfl, rfl, h20, h17, h94, h95, hfr.1, hfr.2⟩)
          | (have h7 : x = -11 := cq20
             rw [m_stl, if_neg (fun q => q.1 h7)] at hst
             rw [← hst]
             exact ⟨rfl, rfl, h20, h17, h94, h95, hfr.1, hfr.2⟩)
          | (have h7 : nI (m_rk x) < nI r := cq38
             have h8 := (lt_nI (rfl : nI (m_rk x) = nI (m_rk x)) (rfl : nI r = nI r) (by have := rk_6 x; omega) (by omega)).mp h7
             rw [m_stl, if_neg (fun q => absurd q.2 (by omega))] at hst
             rw [← hst]
             exact ⟨rfl, rfl, h20, h17, h94, h95, hfr.1, hfr.2⟩)
      · skip
        obtain ⟨x, σ3, rfl⟩ : ∃ x σ3, σ2 = x :: σ3 := by
          cases σ2 with
          | nil => exact absurd (Int32.le_refl 0) cq4
          | cons x s => exact ⟨x, s, rfl⟩
        have hlc : (x :: σ3).length = σ3.length + 1 := rfl
        rw [hlc] at hl h20 hms
        have hx : K 95 σ3.length = x := h95.1
        refine A_aload_n rfl dX8_settle_7 ?_
        refine A_getR fr_X8_39.g rfl lay_86 rfl dX8_settle_8 ?_
        refine A_aload_n rfl dX8_settle_11 ?_
        refine A_getI fr_X8_230.g rfl lay_86 dX8_settle_12 ?_
        rw [h20]
        refine A_iconst ic_1 dX8_settle_15 ?_
        refine A_isub dX8_settle_16 ?_
        rw [nI_pred]
        refine A_iald σ3.length rfl lay_95 (by omega) (by decide) dX8_settle_17 ?_
        rw [hx]
        refine A_bipush bp_m11 dX8_settle_18 ?_
        refine A_icmp_eq 82 rfl dX8_settle_20 (fun cq20 => ?_) (fun cq20 => ?_)
        · skip
          refine A_vret rfl rfl rfl dX8_settle_82 ?_
          first
            | (have h7 : nI σ2.length ≤ 0 := cq4
               have h8 := (le_nI (rfl : nI σ2.length = nI σ2.length) (show (0 : Int32) = nI 0 from rfl) (by omega) (by omega)).mp h7
               obtain rfl : σ2 = [] := List.length_eq_zero_iff.mp (by omega)
               rw [← hst]
               exact ⟨rfl, rfl, h20, h17, h94, h95, hfr.1, hfr.2⟩)
            | (have h7 : x = -11 := cq20
               rw [m_stl, if_neg (fun q => q.1 h7)] at hst
               rw [← hst]
               exact ⟨rfl, rfl, h20, h17, h94, h95, hfr.1, hfr.2⟩)
            | (have h7 : nI (m_rk x) < nI r := cq38
               have h8 := (lt_nI (rfl : nI (m_rk x) = nI (m_rk x)) (rfl : nI r = nI r) (by have := rk_6 x; omega) (by omega)).mp h7
               rw [m_stl, if_neg (fun q => absurd q.2 (by omega))] at hst
               rw [← hst]
               exact ⟨rfl, rfl, h20, h17, h94, h95, hfr.1, hfr.2⟩)
        · skip
          refine A_aload_n rfl dX8_settle_23 ?_
          refine A_getR fr_X8_39.g rfl lay_86 rfl dX8_settle_24 ?_
          refine A_aload_n rfl dX8_settle_27 ?_
          refine A_getI fr_X8_230.g rfl lay_86 dX8_settle_28 ?_
          rw [h20]
          refine A_iconst ic_1 dX8_settle_31 ?_
          refine A_isub dX8_settle_32 ?_
          rw [nI_pred]
          refine A_iald σ3.length rfl lay_95 (by omega) (by decide) dX8_settle_33 ?_
          rw [hx]
          refine A_callS (t_rk l G _ _ x) m_X8_rank ml_X8_233 rfl rfl rfl (Nat.le_of_ble_eq_true rfl) (by decide) (by decide) (by decide) dX8_settle_34 (fun _ _ _ h => congrArg List.length h.2.1) ?_
          rintro _ _ _ ⟨rfl, rfl, e9⟩
          refine AW_I e9 ?_
          clear e9
          refine A_iload_n rfl dX8_settle_37 ?_
          refine A_icmp_lt 82 rfl dX8_settle_38 (fun cq38 => ?_) (fun cq38 => ?_)
          · skip
            refine A_vret rfl rfl rfl dX8_settle_82 ?_
            first
              | (have h7 : nI σ2.length ≤ 0 := cq4
                 have h8 := (le_nI (rfl : nI σ2.length = nI σ2.length) (show (0 : Int32) = nI 0 from rfl) (by omega) (by omega)).mp h7
                 obtain rfl : σ2 = [] := List.length_eq_zero_iff.mp (by omega)
                 rw [← hst]
                 exact ⟨rfl, rfl, h20, h17, h94, h95, hfr.1, hfr.2⟩)
              | (have h7 : x = -11 := cq20
                 rw [m_stl, if_neg (fun q => q.1 h7)] at hst
                 rw [← hst]
                 exact ⟨rfl, rfl, h20, h17, h94, h95, hfr.1, hfr.2⟩)
              | (have h7 : nI (m_rk x) < nI r := cq38
                 have h8 := (lt_nI (rfl : nI (m_rk x) = nI (m_rk x)) (rfl : nI r = nI r) (by have := rk_6 x; omega) (by omega)).mp h7
                 rw [m_stl, if_neg (fun q => absurd q.2 (by omega))] at hst
                 rw [← hst]
                 exact ⟨rfl, rfl, h20, h17, h94, h95, hfr.1, hfr.2⟩)
          · skip
            refine A_aload_n rfl dX8_settle_41 ?_
            refine A_dup rfl dX8_settle_42 ?_
            refine A_getI fr_X8_230.g rfl lay_86 dX8_settle_43 ?_
            rw [h20]
            refine A_iconst ic_1 dX8_settle_46 ?_
            refine A_isub dX8_settle_47 ?_
            rw [nI_pred]
            refine A_putI fr_X8_230 rfl lay_86 rfl rfl dX8_settle_48 ?_
            refine A_aload_n rfl dX8_settle_51 ?_
            refine A_getR fr_X8_36.g rfl lay_86 rfl dX8_settle_52 ?_
            refine A_aload_n rfl dX8_settle_55 ?_
            refine A_getI fr_X8_236.g rfl lay_86 dX8_settle_56 ?_
            rw [up2_ni (show (17 : Nat) ≠ 20 by decide), h17]
            refine A_aload_n rfl dX8_settle_59 ?_
            refine A_getR fr_X8_39.g rfl lay_86 rfl dX8_settle_60 ?_
            refine A_aload_n rfl dX8_settle_63 ?_
            refine A_getI fr_X8_230.g rfl lay_86 dX8_settle_64 ?_
            rw [up2_same]
            refine A_iald σ3.length rfl lay_95 (by omega) (by decide) dX8_settle_67 ?_
            rw [up2_ne (show (95 : Nat) ≠ 86 by decide), hx]
            refine A_iast c2.length rfl lay_94 (by omega) (by decide) dX8_settle_68 ?_
            refine A_aload_n rfl dX8_settle_69 ?_
            refine A_dup rfl dX8_settle_70 ?_
            refine A_getI fr_X8_236.g rfl lay_86 dX8_settle_71 ?_
            rw [up2_ne (show (86 : Nat) ≠ 94 by decide), up2_ni (show (17 : Nat) ≠ 20 by decide), h17]
            refine A_iconst ic_1 dX8_settle_74 ?_
            refine A_iadd dX8_settle_75 ?_
            rw [nI_1]
            refine A_putI fr_X8_236 rfl lay_86 rfl rfl dX8_settle_76 ?_
            refine A_goto 0 rfl dX8_settle_79 ?_
            have hrk : r ≤ m_rk x := by
              have hq1 := mt (lt_nI (rfl : nI (m_rk x) = nI (m_rk x)) (rfl : nI r = nI r) (by have := rk_6 x; omega) (by omega)).mpr cq38
              omega
            rw [m_stl, if_pos ⟨cq20, hrk⟩] at hst
            refine ih σ3.length (by omega) σ3 (x :: c2) _ rfl hst (by simp only [List.length_cons]; omega) ?_ ?_ ?_ ?_ ⟨fun j a b => ?_, fun q a b => ?_⟩
            · rw [up2_ni (by decide), up2_ne (by decide), up2_same]
            · rw [up2_same]; rfl
            · rw [up2_ne (by decide), up2_row, up2_ne (by decide)]; exact h94.push
            · rw [up2_ne (by decide), up2_ne (by decide), up2_ne (by decide)]; exact h95.2
            · rw [up2_ni a, up2_ne (by decide), up2_ni b]; exact hfr.1 j a b
            · rw [up2_ne a, up2_ne b, up2_ne a]; exact hfr.2 q a b
  refine Meth.of (by decide +kernel) (by simp [Value.category]) (Nat.le_of_ble_eq_true rfl) ?_
  exact loop _ σ c J rfl rfl hl0 h20i h17i h94i h95i ⟨fun _ _ _ => rfl, fun _ _ _ => rfl⟩
theorem nq {x v : Int32} {n : Int} (h : ¬ n = x.toInt) (hv : v.toInt = n := by rfl) : ¬ x = v := fun q => h (by rw [q]; exact hv.symm)
set_option maxHeartbeats 1000000 in
set_option maxRecDepth 100000 in
theorem t_sgn (l : Launch) (G : Gm) (J : Hp) (B : Nat → Int32) (L : Nat) (τ : Tok) (hT : TkM B J τ) (hI : lx_I B L τ) : Meth l G yX8_signHere cX8_signHere 1 (some (FieldType.int)) 1 0 0 [.ref 86] LAY J (fun r lay1 I1 => r = some (.int (lx_sg B τ)) ∧ lay1 = LAY ∧ I1 = J) := by
  refine Meth.of (by decide +kernel) (by simp [Value.category]) (Nat.le_of_ble_eq_true rfl) ?_
  refine A_aload_n rfl dX8_signHere_0 ?_
  refine A_getI fr_X8_212.g rfl lay_86 dX8_signHere_1 ?_
  rw [hT.2.2.1]
  refine A_iconst ic_3 dX8_signHere_4 ?_
  refine A_icmp_eq 10 rfl dX8_signHere_5 (fun cq5 => ?_) (fun cq5 => ?_)
  · skip
    have hk3 : τ.2.2.1 = 3 := (tok3 hI.2.2.2.1).mp ((nI_eq (b := 3) (by have := tok_4 τ; omega) (by decide)).mp cq5)
    refine A_aload_n rfl dX8_signHere_10 ?_
    refine A_getI fr_X8_218.g rfl lay_86 dX8_signHere_11 ?_
    rw [hT.2.2.2.1 (Or.inr hk3)]
    refine A_lsw dX8_signHere_14 rfl ?_
    simp only [Op.lookupswitch.offset]
    split
    · rename_i cq14
      replace cq14 := i_eq cq14.symm (ic_38)
      refine ⟨98, rfl, ?_⟩
      refine A_bipush bp_m2 dX8_signHere_98 ?_
      refine A_iret rfl rfl rfl rfl dX8_signHere_100 ?_
      exact ⟨by unfold lx_sg; rw [if_pos hk3, cq14]; rfl, rfl, rfl⟩
    · rename_i cq14_38
      split
      · rename_i cq14
        replace cq14 := i_eq cq14.symm (ic_42)
        refine ⟨116, rfl, ?_⟩
        refine A_bipush bp_m8 dX8_signHere_116 ?_
        refine A_iret rfl rfl rfl rfl dX8_signHere_118 ?_
        exact ⟨by unfold lx_sg; rw [if_pos hk3, cq14]; rfl, rfl, rfl⟩
      · rename_i cq14_42
        split
        · rename_i cq14
          replace cq14 := i_eq cq14.symm (ic_43)
          refine ⟨110, rfl, ?_⟩
          refine A_bipush bp_m6 dX8_signHere_110 ?_
          refine A_iret rfl rfl rfl rfl dX8_signHere_112 ?_
          exact ⟨by unfold lx_sg; rw [if_pos hk3, cq14]; rfl, rfl, rfl⟩
        · rename_i cq14_43
          split
          · rename_i cq14
            replace cq14 := i_eq cq14.symm (ic_45)
            refine ⟨113, rfl, ?_⟩
            refine A_bipush bp_m7 dX8_signHere_113 ?_
            refine A_iret rfl rfl rfl rfl dX8_signHere_115 ?_
            exact ⟨by unfold lx_sg; rw [if_pos hk3, cq14]; rfl, rfl, rfl⟩
          · rename_i cq14_45
            split
            · rename_i cq14
              replace cq14 := i_eq cq14.symm (ic_47)
              refine ⟨119, rfl, ?_⟩
              refine A_bipush bp_m9 dX8_signHere_119 ?_
              refine A_iret rfl rfl rfl rfl dX8_signHere_121 ?_
              exact ⟨by unfold lx_sg; rw [if_pos hk3, cq14]; rfl, rfl, rfl⟩
            · rename_i cq14_47
              split
              · rename_i cq14
                replace cq14 := i_eq cq14.symm (ic_60)
                refine ⟨101, rfl, ?_⟩
                refine A_bipush bp_m3 dX8_signHere_101 ?_
                refine A_iret rfl rfl rfl rfl dX8_signHere_103 ?_
                exact ⟨by unfold lx_sg; rw [if_pos hk3, cq14]; rfl, rfl, rfl⟩
              · rename_i cq14_60
                split
                · rename_i cq14
                  replace cq14 := i_eq cq14.symm (ic_61)
                  refine ⟨104, rfl, ?_⟩
                  refine A_bipush bp_m4 dX8_signHere_104 ?_
                  refine A_iret rfl rfl rfl rfl dX8_signHere_106 ?_
                  exact ⟨by unfold lx_sg; rw [if_pos hk3, cq14]; rfl, rfl, rfl⟩
                · rename_i cq14_61
                  split
                  · rename_i cq14
                    replace cq14 := i_eq cq14.symm (ic_62)
                    refine ⟨107, rfl, ?_⟩
                    refine A_bipush bp_m5 dX8_signHere_107 ?_
                    refine A_iret rfl rfl rfl rfl dX8_signHere_109 ?_
                    exact ⟨by unfold lx_sg; rw [if_pos hk3, cq14]; rfl, rfl, rfl⟩
                  · rename_i cq14_62
                    split
                    · rename_i cq14
                      replace cq14 := i_eq cq14.symm (ic_124)
                      refine ⟨96, rfl, ?_⟩
                      refine A_iconst ic_m1 dX8_signHere_96 ?_
                      refine A_iret rfl rfl rfl rfl dX8_signHere_97 ?_
                      exact ⟨by unfold lx_sg; rw [if_pos hk3, cq14]; rfl, rfl, rfl⟩
                    · rename_i cq14_124
                      refine ⟨122, rfl, ?_⟩
                      refine A_iconst ic_0 dX8_signHere_122 ?_
                      refine A_iret rfl rfl rfl rfl dX8_signHere_123 ?_
                      exact ⟨by unfold lx_sg lx_sgb; rw [if_pos hk3, if_neg (nq cq14_124), if_neg (nq cq14_38), if_neg (nq cq14_60), if_neg (nq cq14_61), if_neg (nq cq14_62), if_neg (nq cq14_43), if_neg (nq cq14_45), if_neg (nq cq14_42), if_neg (nq cq14_47)], rfl, rfl⟩
  · skip
    refine A_iconst ic_0 dX8_signHere_8 ?_
    refine A_iret rfl rfl rfl rfl dX8_signHere_9 ?_
    have hn3 : ¬ τ.2.2.1 = 3 := fun q => cq5 (by rw [(tok3 hI.2.2.2.1).mpr q]; rfl)
    exact ⟨by unfold lx_sg; rw [if_neg hn3], rfl, rfl⟩
set_option maxHeartbeats 1000000 in
set_option maxRecDepth 100000 in
theorem t_nm (l : Launch) (G : Gm) (J : Hp) (key : Nat) (hkey : key ≤ 2) (h13 : J 86 13 = nI key) (b : Int32) : Meth l G yX8_nameOf cX8_nameOf 2 (some (FieldType.int)) 1 0 0 [.ref 86, .int b] LAY J (fun r lay1 I1 => r = some (.int (lx_nm key b)) ∧ lay1 = LAY ∧ I1 = J) := by
  refine Meth.of (by decide +kernel) (by simp [Value.category]) (Nat.le_of_ble_eq_true rfl) ?_
  refine A_aload_n rfl dX8_nameOf_0 ?_
  refine A_getI fr_X8_224.g rfl lay_86 dX8_nameOf_1 ?_
  rw [h13]
  refine A_lsw dX8_nameOf_4 rfl ?_
  simp only [Op.lookupswitch.offset]
  split
  · rename_i cq4
    replace cq4 := i_eq cq4.symm (ic_0)
    refine ⟨32, rfl, ?_⟩
    refine A_iload_n rfl dX8_nameOf_32 ?_
    refine A_bipush bp_107 dX8_nameOf_33 ?_
    refine A_icmp_ne 42 rfl dX8_nameOf_35 (fun cq35 => ?_) (fun cq35 => ?_)
    · skip
      refine A_iload_n rfl dX8_nameOf_42 ?_
      refine A_bipush bp_119 dX8_nameOf_43 ?_
      refine A_icmp_ne 52 rfl dX8_nameOf_45 (fun cq45 => ?_) (fun cq45 => ?_)
      · skip
        refine A_iload_n rfl dX8_nameOf_52 ?_
        refine A_bipush bp_100 dX8_nameOf_53 ?_
        refine A_icmp_ne 62 rfl dX8_nameOf_55 (fun cq55 => ?_) (fun cq55 => ?_)
        · skip
          refine A_iconst ic_m1 dX8_nameOf_62 ?_
          refine A_iret rfl rfl rfl rfl dX8_nameOf_63 ?_
          refine ⟨congrArg (fun z => some (Value.int z)) ?_, rfl, rfl⟩
          unfold lx_nm
          have hk : key = 0 := nz_e (by omega) (by decide) cq4 rfl
          subst hk
          rw [if_pos rfl]
          first | (rw [if_neg cq35, if_neg cq45, if_neg cq55]) | (rw [if_neg cq35, if_neg cq45, if_pos cq55]) | (rw [if_neg cq35, if_pos cq45]) | (rw [if_pos cq35])
        · skip
          refine A_iconst ic_2 dX8_nameOf_58 ?_
          refine A_goto 63 rfl dX8_nameOf_59 ?_
          refine A_iret rfl rfl rfl rfl dX8_nameOf_63 ?_
          refine ⟨congrArg (fun z => some (Value.int z)) ?_, rfl, rfl⟩
          unfold lx_nm
          have hk : key = 0 := nz_e (by omega) (by decide) cq4 rfl
          subst hk
          rw [if_pos rfl]
          first | (rw [if_neg cq35, if_neg cq45, if_neg cq55]) | (rw [if_neg cq35, if_neg cq45, if_pos cq55]) | (rw [if_neg cq35, if_pos cq45]) | (rw [if_pos cq35])
      · skip
        refine A_iconst ic_1 dX8_nameOf_48 ?_
        refine A_goto 63 rfl dX8_nameOf_49 ?_
        refine A_iret rfl rfl rfl rfl dX8_nameOf_63 ?_
        refine ⟨congrArg (fun z => some (Value.int z)) ?_, rfl, rfl⟩
        unfold lx_nm
        have hk : key = 0 := nz_e (by omega) (by decide) cq4 rfl
        subst hk
        rw [if_pos rfl]
        first | (rw [if_neg cq35, if_neg cq45, if_neg cq55]) | (rw [if_neg cq35, if_neg cq45, if_pos cq55]) | (rw [if_neg cq35, if_pos cq45]) | (rw [if_pos cq35])
    · skip
      refine A_iconst ic_0 dX8_nameOf_38 ?_
      refine A_goto 63 rfl dX8_nameOf_39 ?_
      refine A_iret rfl rfl rfl rfl dX8_nameOf_63 ?_
      refine ⟨congrArg (fun z => some (Value.int z)) ?_, rfl, rfl⟩
      unfold lx_nm
      have hk : key = 0 := nz_e (by omega) (by decide) cq4 rfl
      subst hk
      rw [if_pos rfl]
      first | (rw [if_neg cq35, if_neg cq45, if_neg cq55]) | (rw [if_neg cq35, if_neg cq45, if_pos cq55]) | (rw [if_neg cq35, if_pos cq45]) | (rw [if_pos cq35])
  · rename_i cq4_0
    split
    · rename_i cq4
      replace cq4 := i_eq cq4.symm (ic_1)
      refine ⟨64, rfl, ?_⟩
      refine A_iload_n rfl dX8_nameOf_64 ?_
      refine A_bipush bp_104 dX8_nameOf_65 ?_
      refine A_icmp_ne 74 rfl dX8_nameOf_67 (fun cq67 => ?_) (fun cq67 => ?_)
      · skip
        refine A_iload_n rfl dX8_nameOf_74 ?_
        refine A_bipush bp_115 dX8_nameOf_75 ?_
        refine A_icmp_ne 84 rfl dX8_nameOf_77 (fun cq77 => ?_) (fun cq77 => ?_)
        · skip
          refine A_iconst ic_m1 dX8_nameOf_84 ?_
          refine A_iret rfl rfl rfl rfl dX8_nameOf_85 ?_
          refine ⟨congrArg (fun z => some (Value.int z)) ?_, rfl, rfl⟩
          unfold lx_nm
          have hk : key = 1 := nz_e (by omega) (by decide) cq4 rfl
          subst hk
          rw [if_neg (by decide), if_pos rfl]
          first | (rw [if_neg cq67, if_neg cq77]) | (rw [if_neg cq67, if_pos cq77]) | (rw [if_pos cq67])
        · skip
          refine A_iconst ic_1 dX8_nameOf_80 ?_
          refine A_goto 85 rfl dX8_nameOf_81 ?_
          refine A_iret rfl rfl rfl rfl dX8_nameOf_85 ?_
          refine ⟨congrArg (fun z => some (Value.int z)) ?_, rfl, rfl⟩
          unfold lx_nm
          have hk : key = 1 := nz_e (by omega) (by decide) cq4 rfl
          subst hk
          rw [if_neg (by decide), if_pos rfl]
          first | (rw [if_neg cq67, if_neg cq77]) | (rw [if_neg cq67, if_pos cq77]) | (rw [if_pos cq67])
      · skip
        refine A_iconst ic_0 dX8_nameOf_70 ?_
        refine A_goto 85 rfl dX8_nameOf_71 ?_
        refine A_iret rfl rfl rfl rfl dX8_nameOf_85 ?_
        refine ⟨congrArg (fun z => some (Value.int z)) ?_, rfl, rfl⟩
        unfold lx_nm
        have hk : key = 1 := nz_e (by omega) (by decide) cq4 rfl
        subst hk
        rw [if_neg (by decide), if_pos rfl]
        first | (rw [if_neg cq67, if_neg cq77]) | (rw [if_neg cq67, if_pos cq77]) | (rw [if_pos cq67])
    · rename_i cq4_1
      refine ⟨86, rfl, ?_⟩
      refine A_iload_n rfl dX8_nameOf_86 ?_
      refine A_bipush bp_112 dX8_nameOf_87 ?_
      refine A_icmp_ne 96 rfl dX8_nameOf_89 (fun cq89 => ?_) (fun cq89 => ?_)
      · skip
        refine A_iload_n rfl dX8_nameOf_96 ?_
        refine A_bipush bp_98 dX8_nameOf_97 ?_
        refine A_icmp_ne 106 rfl dX8_nameOf_99 (fun cq99 => ?_) (fun cq99 => ?_)
        · skip
          refine A_iconst ic_m1 dX8_nameOf_106 ?_
          refine A_iret rfl rfl rfl rfl dX8_nameOf_107 ?_
          refine ⟨congrArg (fun z => some (Value.int z)) ?_, rfl, rfl⟩
          unfold lx_nm
          have hk0 : key ≠ 0 := fun q => cq4_0 (by rw [q]; rfl)
          have hk1 : key ≠ 1 := fun q => cq4_1 (by rw [q]; rfl)
          rw [if_neg hk0, if_neg hk1]
          first | (rw [if_neg cq89, if_neg cq99]) | (rw [if_neg cq89, if_pos cq99]) | (rw [if_pos cq89])
        · skip
          refine A_iconst ic_1 dX8_nameOf_102 ?_
          refine A_goto 107 rfl dX8_nameOf_103 ?_
          refine A_iret rfl rfl rfl rfl dX8_nameOf_107 ?_
          refine ⟨congrArg (fun z => some (Value.int z)) ?_, rfl, rfl⟩
          unfold lx_nm
          have hk0 : key ≠ 0 := fun q => cq4_0 (by rw [q]; rfl)
          have hk1 : key ≠ 1 := fun q => cq4_1 (by rw [q]; rfl)
          rw [if_neg hk0, if_neg hk1]
          first | (rw [if_neg cq89, if_neg cq99]) | (rw [if_neg cq89, if_pos cq99]) | (rw [if_pos cq89])
      · skip
        refine A_iconst ic_0 dX8_nameOf_92 ?_
        refine A_goto 107 rfl dX8_nameOf_93 ?_
        refine A_iret rfl rfl rfl rfl dX8_nameOf_107 ?_
        refine ⟨congrArg (fun z => some (Value.int z)) ?_, rfl, rfl⟩
        unfold lx_nm
        have hk0 : key ≠ 0 := fun q => cq4_0 (by rw [q]; rfl)
        have hk1 : key ≠ 1 := fun q => cq4_1 (by rw [q]; rfl)
        rw [if_neg hk0, if_neg hk1]
        first | (rw [if_neg cq89, if_neg cq99]) | (rw [if_neg cq89, if_pos cq99]) | (rw [if_pos cq89])
set_option maxHeartbeats 1000000 in
set_option maxRecDepth 100000 in
theorem t_nots (l : Launch) (G : Gm) (J : Hp) (σ : List Int32) (hl : σ.length ≤ 96) (h20 : J 86 20 = nI σ.length) (h95 : RepL (J 95) σ) : Meth l G yX8_notsOpen cX8_notsOpen 3 (some (FieldType.int)) 1 0 0 [.ref 86] LAY J (fun r lay1 I1 => r = some (.int (nI (m_nts σ))) ∧ lay1 = LAY ∧ I1 = J) := by
  have loop : ∀ (lpn : Nat) (k : Nat), σ.length - k = lpn → (k ≤ σ.length) → AW l G yX8_notsOpen cX8_notsOpen 3 (some (FieldType.int)) 1 0 0 (fun r lay1 I1 => r = some (.int (nI (m_nts σ))) ∧ lay1 = LAY ∧ I1 = J) 0 0 4 [some (.ref 86), some (.int (nI (q_nts (J 95) k))), some (.int (nI k))] [] LAY J := by
    intro lpn
    induction lpn using Nat.strongRecOn with
    | _ lpn ih =>
      intro k hms hk
      refine A_iload_n rfl dX8_notsOpen_4 ?_
      refine A_aload_n rfl dX8_notsOpen_5 ?_
      refine A_getI fr_X8_230.g rfl lay_86 dX8_notsOpen_6 ?_
      rw [h20]
      refine A_icmp_ge 37 rfl dX8_notsOpen_9 (fun cq9 => ?_) (fun cq9 => ?_)
      · skip
        refine A_iload_n rfl dX8_notsOpen_37 ?_
        refine A_iret rfl rfl rfl rfl dX8_notsOpen_38 ?_
        have hkn : k = σ.length := by
          have hq1 := (le_nI (rfl : nI σ.length = nI σ.length) (rfl : nI k = nI k) (by omega) (by omega)).mp cq9
          omega
        subst hkn
        exact ⟨by rw [nts_rep h95], rfl, rfl⟩
      · skip
        have hkn : k < σ.length := by
          have hq1 := mt (le_nI (rfl : nI σ.length = nI σ.length) (rfl : nI k = nI k) (by omega) (by omega)).mpr cq9
          omega
        refine A_iload_n rfl dX8_notsOpen_12 ?_
        refine A_aload_n rfl dX8_notsOpen_13 ?_
        refine A_getR fr_X8_39.g rfl lay_86 rfl dX8_notsOpen_14 ?_
        refine A_iload_n rfl dX8_notsOpen_17 ?_
        refine A_iald k rfl lay_95 (by omega) (by decide) dX8_notsOpen_18 ?_
        refine A_bipush bp_m10 dX8_notsOpen_19 ?_
        refine A_icmp_ne 28 rfl dX8_notsOpen_21 (fun cq21 => ?_) (fun cq21 => ?_)
        · skip
          refine A_iconst ic_0 dX8_notsOpen_28 ?_
          refine A_iadd dX8_notsOpen_29 ?_
          refine A_istore_n (by decide) rfl dX8_notsOpen_30 ?_
          refine A_iinc ic_1 rfl (by decide) rfl dX8_notsOpen_31 ?_
          refine A_goto 4 rfl dX8_notsOpen_34 ?_
          refine AW_L (L := [some (.ref 86), some (.int (nI (q_nts (J 95) (k + 1)))), some (.int (nI (k + 1)))]) ?_ (ih _ (by omega) (k + 1) rfl (by omega))
          rw [q_nts, ← nI_1 k, ← nI_add]
          first
            | (have h7 : J 95 k = -10 := cq21; rw [if_pos h7]; rfl)
            | (have h7 : ¬ J 95 k = -10 := cq21; rw [if_neg h7]; rfl)
        · skip
          refine A_iconst ic_1 dX8_notsOpen_24 ?_
          refine A_goto 29 rfl dX8_notsOpen_25 ?_
          refine A_iadd dX8_notsOpen_29 ?_
          refine A_istore_n (by decide) rfl dX8_notsOpen_30 ?_
          refine A_iinc ic_1 rfl (by decide) rfl dX8_notsOpen_31 ?_
          refine A_goto 4 rfl dX8_notsOpen_34 ?_
          refine AW_L (L := [some (.ref 86), some (.int (nI (q_nts (J 95) (k + 1)))), some (.int (nI (k + 1)))]) ?_ (ih _ (by omega) (k + 1) rfl (by omega))
          rw [q_nts, ← nI_1 k, ← nI_add]
          first
            | (have h7 : J 95 k = -10 := cq21; rw [if_pos h7]; rfl)
            | (have h7 : ¬ J 95 k = -10 := cq21; rw [if_neg h7]; rfl)
  refine Meth.of (by decide +kernel) (by simp [Value.category]) (Nat.le_of_ble_eq_true rfl) ?_
  refine A_iconst ic_0 dX8_notsOpen_0 ?_
  refine A_istore_n (by decide) rfl dX8_notsOpen_1 ?_
  refine A_iconst ic_0 dX8_notsOpen_2 ?_
  refine A_istore_n (by decide) rfl dX8_notsOpen_3 ?_
  exact loop _ 0 rfl (by omega)
