/-- the tape's bytes -/
def TpI (B : Nat → Int32) (L : Nat) (I : Hp) : Prop := I 32 0 = nI L ∧ (∀ k, k < L → I 33 k = B k) ∧ lx_B B L
/-- the word or sign at hand -/
def TkC (J : Hp) (τ : Tok) : Prop := J 32 3 = nI τ.1 ∧ J 32 4 = nI τ.2.1 ∧ J 32 5 = nI τ.2.2.1 ∧ J 32 6 = b2i τ.2.2.2
theorem TpI.fr {B : Nat → Int32} {L : Nat} {I J : Hp} (h : TpI B L I) (h0 : J 32 0 = I 32 0) (h1 : J 33 = I 33) : TpI B L J := ⟨h0.trans h.1, fun k hk => by rw [h1]; exact h.2.1 k hk, h.2.2⟩
theorem w_1 {x : Int32} {k : Nat} (h : x = nI k) (hk : k ≤ 3) (e : x = 1) : lx_w k = true := by
  have : k = 1 := (eq_nI h (show (1 : Int32) = nI 1 from rfl) (by omega) (by omega)).mp e
  subst this; rfl
theorem w_2 {x : Int32} {k : Nat} (h : x = nI k) (hk : k ≤ 3) (e : x = 2) : lx_w k = true := by
  have : k = 2 := (eq_nI h (show (2 : Int32) = nI 2 from rfl) (by omega) (by omega)).mp e
  subst this; rfl
theorem w_0 {x : Int32} {k : Nat} (h : x = nI k) (hk : k ≤ 3) (e1 : ¬ x = 1) (e2 : ¬ x = 2) : lx_w k = false := by
  have h1 : k ≠ 1 := fun q => e1 (by rw [h, q]; rfl)
  have h2 : k ≠ 2 := fun q => e2 (by rw [h, q]; rfl)
  unfold lx_w; simp [h1, h2]
theorem ls_w {p f k : Nat} {w : Bool} (h : b2i w = 0) : lx_s p f k w = false := by rw [b2i_0.mp h]; rfl
theorem ls_f {p f k : Nat} {w : Bool} (h : ¬ nI f = nI p) : lx_s p f k w = false := by
  have : f ≠ p := fun q => h (by rw [q])
  unfold lx_s; simp [this]
theorem ls_k {p f k : Nat} {w : Bool} (h1 : ¬ nI k = 1) (h2 : ¬ nI k = 2) : lx_s p f k w = false := by
  have a1 : k ≠ 1 := fun q => h1 (by rw [q]; rfl)
  have a2 : k ≠ 2 := fun q => h2 (by rw [q]; rfl)
  unfold lx_s; simp [a1, a2]
theorem ls_t {p f k : Nat} {w : Bool} (h : ¬ b2i w = 0) (hf : nI f = nI p) (h1 : f < 1000) (h2 : p < 1000) (hk : k ≤ 3) (h3 : nI k = 1 ∨ nI k = 2) : lx_s p f k w = true := by
  have e1 : f = p := (nI_eq (by omega) (by omega)).mp hf
  have e2 : k = 1 ∨ k = 2 := h3.imp (fun q => (eq_nI rfl (show (1 : Int32) = nI 1 from rfl) (by omega) (by omega)).mp q) (fun q => (eq_nI rfl (show (2 : Int32) = nI 2 from rfl) (by omega) (by omega)).mp q)
  unfold lx_s; rw [b2i_1.mp h]; simp [e1, e2]
set_option maxHeartbeats 1000000 in
set_option maxRecDepth 100000 in
theorem s_bat (l : Launch) (G : Gm) (I : Hp) (B : Nat → Int32) (L : Nat) (hB : TpI B L I) (p : Nat) (hp : p < 1000) : Meth l G yX6_byteAt cX6_byteAt 2 (some (FieldType.int)) 1 0 0 [.ref 32, .int (nI p)] LAY I (fun r lay1 I1 => r = some (.int (lx_at B L p)) ∧ lay1 = LAY ∧ I1 = I) := by
  refine Meth.of (by decide +kernel) (by simp [Value.category]) (Nat.le_of_ble_eq_true rfl) ?_
  refine A_iload_n rfl dX6_byteAt_0 ?_
  refine A_if_lt 27 rfl dX6_byteAt_1 (fun cq1 => absurd cq1 (nI_pos (by omega))) (fun cq1 => ?_)
  refine A_iload_n rfl dX6_byteAt_4 ?_
  refine A_aload_n rfl dX6_byteAt_5 ?_
  refine A_getI fr_X6_22.g rfl lay_32 dX6_byteAt_6 ?_
  rw [hB.1]
  refine A_icmp_ge 27 rfl dX6_byteAt_9 (fun cq9 => ?_) (fun cq9 => ?_)
  · skip
    have hL := hB.2.2.1
    refine A_iconst ic_m1 dX6_byteAt_27 ?_
    refine A_iret rfl rfl rfl rfl dX6_byteAt_28 ?_
    refine ⟨?_, rfl, rfl⟩
    first
      | (have h7 : nI L ≤ nI p := cq9; have h8 := (le_nI (rfl : nI L = nI L) (rfl : nI p = nI p) (by omega) (by omega)).mp h7; unfold lx_at; rw [if_neg (by omega)])
      | (have h7 : (96 : Int32) ≤ nI p := cq15; exact absurd ((le_nI (show (96 : Int32) = nI 96 from rfl) (rfl : nI p = nI p) (by omega) (by omega)).mp h7) (by omega))
      | (unfold lx_at; rw [if_pos hpL, ← hB.2.1 p hpL])
  · skip
    have hL := hB.2.2.1
    have hpL : p < L := by
      have hq1 := mt (le_nI (rfl : nI L = nI L) (rfl : nI p = nI p) (by omega) (by omega)).mpr cq9
      omega
    refine A_iload_n rfl dX6_byteAt_12 ?_
    refine A_bipush bp_96 dX6_byteAt_13 ?_
    refine A_icmp_ge 27 rfl dX6_byteAt_15 (fun cq15 => ?_) (fun cq15 => ?_)
    · skip
      have hL := hB.2.2.1
      refine A_iconst ic_m1 dX6_byteAt_27 ?_
      refine A_iret rfl rfl rfl rfl dX6_byteAt_28 ?_
      refine ⟨?_, rfl, rfl⟩
      first
        | (have h7 : nI L ≤ nI p := cq9; have h8 := (le_nI (rfl : nI L = nI L) (rfl : nI p = nI p) (by omega) (by omega)).mp h7; unfold lx_at; rw [if_neg (by omega)])
        | (have h7 : (96 : Int32) ≤ nI p := cq15; exact absurd ((le_nI (show (96 : Int32) = nI 96 from rfl) (rfl : nI p = nI p) (by omega) (by omega)).mp h7) (by omega))
        | (unfold lx_at; rw [if_pos hpL, ← hB.2.1 p hpL])
    · skip
      refine A_aload_n rfl dX6_byteAt_18 ?_
      refine A_getR fr_X6_9.g rfl lay_32 rfl dX6_byteAt_19 ?_
      refine A_iload_n rfl dX6_byteAt_22 ?_
      refine A_iald p rfl lay_33 (by omega) (by decide) dX6_byteAt_23 ?_
      refine A_goto 28 rfl dX6_byteAt_24 ?_
      refine A_iret rfl rfl rfl rfl dX6_byteAt_28 ?_
      refine ⟨?_, rfl, rfl⟩
      first
        | (have h7 : nI L ≤ nI p := cq9; have h8 := (le_nI (rfl : nI L = nI L) (rfl : nI p = nI p) (by omega) (by omega)).mp h7; unfold lx_at; rw [if_neg (by omega)])
        | (have h7 : (96 : Int32) ≤ nI p := cq15; exact absurd ((le_nI (show (96 : Int32) = nI 96 from rfl) (rfl : nI p = nI p) (by omega) (by omega)).mp h7) (by omega))
        | (unfold lx_at; rw [if_pos hpL, ← hB.2.1 p hpL])
set_option maxHeartbeats 1000000 in
set_option maxRecDepth 100000 in
theorem s_so (l : Launch) (G : Gm) (lay : Lay) (I : Hp) (b : Int32) : Meth l G yX6_sortOf cX6_sortOf 1 (some (FieldType.int)) 1 0 0 [.int b] lay I (fun r lay1 I1 => r = some (.int (nI (lx_so b))) ∧ lay1 = lay ∧ I1 = I) := by
  refine Meth.of (by decide +kernel) (by simp [Value.category]) (Nat.le_of_ble_eq_true rfl) ?_
  refine A_iload_n rfl dX6_sortOf_0 ?_
  refine A_if_ge 6 rfl dX6_sortOf_1 (fun cq1 => ?_) (fun cq1 => ?_)
  · skip
    refine A_iload_n rfl dX6_sortOf_6 ?_
    refine A_bipush bp_97 dX6_sortOf_7 ?_
    refine A_icmp_lt 20 rfl dX6_sortOf_9 (fun cq9 => ?_) (fun cq9 => ?_)
    · skip
      refine A_iload_n rfl dX6_sortOf_20 ?_
      refine A_bipush bp_48 dX6_sortOf_21 ?_
      refine A_icmp_lt 36 rfl dX6_sortOf_23 (fun cq23 => ?_) (fun cq23 => ?_)
      · skip
        refine A_iconst ic_3 dX6_sortOf_36 ?_
        refine A_iret rfl rfl rfl rfl dX6_sortOf_37 ?_
        refine ⟨congrArg (fun z => some (Value.int z)) ?_, rfl, rfl⟩
        unfold lx_so
        (repeat' split) <;> first | rfl | (exfalso; simp only [Int32.lt_iff_toInt_lt, Int32.le_iff_toInt_le, ← Int32.toInt_inj, Int32.reduceToInt] at *; omega)
      · skip
        refine A_iload_n rfl dX6_sortOf_26 ?_
        refine A_bipush bp_57 dX6_sortOf_27 ?_
        refine A_icmp_gt 36 rfl dX6_sortOf_29 (fun cq29 => ?_) (fun cq29 => ?_)
        · skip
          refine A_iconst ic_3 dX6_sortOf_36 ?_
          refine A_iret rfl rfl rfl rfl dX6_sortOf_37 ?_
          refine ⟨congrArg (fun z => some (Value.int z)) ?_, rfl, rfl⟩
          unfold lx_so
          (repeat' split) <;> first | rfl | (exfalso; simp only [Int32.lt_iff_toInt_lt, Int32.le_iff_toInt_le, ← Int32.toInt_inj, Int32.reduceToInt] at *; omega)
        · skip
          refine A_iconst ic_2 dX6_sortOf_32 ?_
          refine A_goto 37 rfl dX6_sortOf_33 ?_
          refine A_iret rfl rfl rfl rfl dX6_sortOf_37 ?_
          refine ⟨congrArg (fun z => some (Value.int z)) ?_, rfl, rfl⟩
          unfold lx_so
          (repeat' split) <;> first | rfl | (exfalso; simp only [Int32.lt_iff_toInt_lt, Int32.le_iff_toInt_le, ← Int32.toInt_inj, Int32.reduceToInt] at *; omega)
    · skip
      refine A_iload_n rfl dX6_sortOf_12 ?_
      refine A_bipush bp_122 dX6_sortOf_13 ?_
      refine A_icmp_gt 20 rfl dX6_sortOf_15 (fun cq15 => ?_) (fun cq15 => ?_)
      · skip
        refine A_iload_n rfl dX6_sortOf_20 ?_
        refine A_bipush bp_48 dX6_sortOf_21 ?_
        refine A_icmp_lt 36 rfl dX6_sortOf_23 (fun cq23 => ?_) (fun cq23 => ?_)
        · skip
          refine A_iconst ic_3 dX6_sortOf_36 ?_
          refine A_iret rfl rfl rfl rfl dX6_sortOf_37 ?_
          refine ⟨congrArg (fun z => some (Value.int z)) ?_, rfl, rfl⟩
          unfold lx_so
          (repeat' split) <;> first | rfl | (exfalso; simp only [Int32.lt_iff_toInt_lt, Int32.le_iff_toInt_le, ← Int32.toInt_inj, Int32.reduceToInt] at *; omega)
        · skip
          refine A_iload_n rfl dX6_sortOf_26 ?_
          refine A_bipush bp_57 dX6_sortOf_27 ?_
          refine A_icmp_gt 36 rfl dX6_sortOf_29 (fun cq29 => ?_) (fun cq29 => ?_)
          · skip
            refine A_iconst ic_3 dX6_sortOf_36 ?_
            refine A_iret rfl rfl rfl rfl dX6_sortOf_37 ?_
            refine ⟨congrArg (fun z => some (Value.int z)) ?_, rfl, rfl⟩
            unfold lx_so
            (repeat' split) <;> first | rfl | (exfalso; simp only [Int32.lt_iff_toInt_lt, Int32.le_iff_toInt_le, ← Int32.toInt_inj, Int32.reduceToInt] at *; omega)
          · skip
            refine A_iconst ic_2 dX6_sortOf_32 ?_
            refine A_goto 37 rfl dX6_sortOf_33 ?_
            refine A_iret rfl rfl rfl rfl dX6_sortOf_37 ?_
            refine ⟨congrArg (fun z => some (Value.int z)) ?_, rfl, rfl⟩
            unfold lx_so
            (repeat' split) <;> first | rfl | (exfalso; simp only [Int32.lt_iff_toInt_lt, Int32.le_iff_toInt_le, ← Int32.toInt_inj, Int32.reduceToInt] at *; omega)
      · skip
        refine A_iconst ic_1 dX6_sortOf_18 ?_
        refine A_iret rfl rfl rfl rfl dX6_sortOf_19 ?_
        refine ⟨congrArg (fun z => some (Value.int z)) ?_, rfl, rfl⟩
        unfold lx_so
        (repeat' split) <;> first | rfl | (exfalso; simp only [Int32.lt_iff_toInt_lt, Int32.le_iff_toInt_le, ← Int32.toInt_inj, Int32.reduceToInt] at *; omega)
  · skip
    refine A_iconst ic_0 dX6_sortOf_4 ?_
    refine A_iret rfl rfl rfl rfl dX6_sortOf_5 ?_
    refine ⟨congrArg (fun z => some (Value.int z)) ?_, rfl, rfl⟩
    unfold lx_so
    (repeat' split) <;> first | rfl | (exfalso; simp only [Int32.lt_iff_toInt_lt, Int32.le_iff_toInt_le, ← Int32.toInt_inj, Int32.reduceToInt] at *; omega)
set_option maxHeartbeats 1000000 in
set_option maxRecDepth 100000 in
theorem s_step (l : Launch) (G : Gm) (I : Hp) (B : Nat → Int32) (L : Nat) (hB : TpI B L I) (p k0 : Nat) (hp : p ≤ L) (h4i : I 32 4 = nI p) (h5i : I 32 5 = nI k0) (hk0 : k0 ≤ 3) : Meth l G yX6_step cX6_step 3 none 2 0 0 [.ref 32] LAY I (fun r lay1 I1 => r = none ∧ lay1 = LAY ∧ TkC I1 (lx B L p (lx_w k0)) ∧ I1 32 0 = I 32 0 ∧ ∀ q, q ≠ 32 → I1 q = I q) := by
  have loop2 : ∀ (lpn : Nat) (t : Nat) (K : Hp), L - t = lpn → ((lx_k B L (lx_f B L p)) ≠ 0) → ((lx_f B L p) + 1 ≤ t) → (t ≤ L) → (K 32 3 = nI (lx_f B L p)) → (K 32 4 = nI t) → (K 32 5 = nI (lx_k B L (lx_f B L p))) → (K 32 6 = b2i (lx_s p (lx_f B L p) (lx_k B L (lx_f B L p)) (lx_w k0))) → ((lx_k B L (lx_f B L p)) = 3 → t = (lx_f B L p) + 1) → ((lx_k B L (lx_f B L p)) ≠ 3 → lx_run B L (lx_k B L (lx_f B L p)) (L - t) t = lx_run B L (lx_k B L (lx_f B L p)) (L - ((lx_f B L p) + 1)) ((lx_f B L p) + 1)) → ((∀ j, j ≠ 3 → j ≠ 4 → j ≠ 5 → j ≠ 6 → K 32 j = I 32 j) ∧ ∀ q, q ≠ 32 → K q = I q) → AW l G yX6_step cX6_step 3 none 2 0 0 (fun r lay1 I1 => r = none ∧ lay1 = LAY ∧ TkC I1 (lx B L p (lx_w k0)) ∧ I1 32 0 = I 32 0 ∧ ∀ q, q ≠ 32 → I1 q = I q) 0 0 150 [some (.ref 32), some (.int (nI p)), some (.int (b2i (lx_w k0)))] [] LAY K := by
    intro lpn
    induction lpn using Nat.strongRecOn with
    | _ lpn ih =>
      intro t K hms hk0 ht1 ht2 h3 h4 h5 h6 hr hr2 hfr
      have hBK : TpI B L K := hB.fr (hfr.1 0 (by decide) (by decide) (by decide) (by decide)) (hfr.2 33 (by decide))
      have hk3 : (lx_k B L (lx_f B L p)) ≤ 3 := so_3 _
      have hL := hB.2.2.1
      refine A_aload_n rfl dX6_step_150 ?_
      refine A_getI fr_X6_29.g rfl lay_32 dX6_step_151 ?_
      refine A_iconst ic_3 dX6_step_154 ?_
      rw [h5]
      refine A_icmp_eq 200 rfl dX6_step_155 (fun cq155 => ?_) (fun cq155 => ?_)
      · skip
        refine A_vret rfl rfl rfl dX6_step_200 ?_
        have hT : t = (lx_t B L (lx_f B L p) (lx_k B L (lx_f B L p))) := by
          unfold lx_t
          rw [if_neg hk0]
          by_cases q : (lx_k B L (lx_f B L p)) = 3
          · rw [if_pos q]; exact hr q
          · rw [if_neg q, ← hr2 q]
            rw [show lx_run B L (lx_k B L (lx_f B L p)) (L - t) t = t by
              cases hc : L - t with
              | zero => rfl
              | succ m =>
                rw [lx_run, if_neg]
                rintro ⟨z1, z2⟩
                first
                  | (have h7 : nI (lx_k B L (lx_f B L p)) = 3 := cq155; exact q ((nI_eq (b := 3) (by omega) (by omega)).mp h7))
                  | (have h7 : nI L ≤ nI t := cq166; have h8 := (le_nI (rfl : nI L = nI L) (rfl : nI t = nI t) (by omega) (by omega)).mp h7; omega)
                  | (have h7 : ¬ nI (lx_so (lx_at B L t)) = nI (lx_k B L (lx_f B L p)) := cq184; apply h7; unfold lx_at; rw [if_pos z1, z2])]
        refine ⟨rfl, rfl, ⟨h3, ?_, h5, h6⟩, hfr.1 0 (by decide) (by decide) (by decide) (by decide), hfr.2⟩
        rw [h4, hT]
        rfl
      · skip
        refine A_aload_n rfl dX6_step_158 ?_
        refine A_getI fr_X6_26.g rfl lay_32 dX6_step_159 ?_
        refine A_aload_n rfl dX6_step_162 ?_
        refine A_getI fr_X6_22.g rfl lay_32 dX6_step_163 ?_
        rw [h4, hBK.1]
        refine A_icmp_ge 200 rfl dX6_step_166 (fun cq166 => ?_) (fun cq166 => ?_)
        · skip
          refine A_vret rfl rfl rfl dX6_step_200 ?_
          have hT : t = (lx_t B L (lx_f B L p) (lx_k B L (lx_f B L p))) := by
            unfold lx_t
            rw [if_neg hk0]
            by_cases q : (lx_k B L (lx_f B L p)) = 3
            · rw [if_pos q]; exact hr q
            · rw [if_neg q, ← hr2 q]
              rw [show lx_run B L (lx_k B L (lx_f B L p)) (L - t) t = t by
                cases hc : L - t with
                | zero => rfl
                | succ m =>
                  rw [lx_run, if_neg]
                  rintro ⟨z1, z2⟩
                  first
                    | (have h7 : nI (lx_k B L (lx_f B L p)) = 3 := cq155; exact q ((nI_eq (b := 3) (by omega) (by omega)).mp h7))
                    | (have h7 : nI L ≤ nI t := cq166; have h8 := (le_nI (rfl : nI L = nI L) (rfl : nI t = nI t) (by omega) (by omega)).mp h7; omega)
                    | (have h7 : ¬ nI (lx_so (lx_at B L t)) = nI (lx_k B L (lx_f B L p)) := cq184; apply h7; unfold lx_at; rw [if_pos z1, z2])]
          refine ⟨rfl, rfl, ⟨h3, ?_, h5, h6⟩, hfr.1 0 (by decide) (by decide) (by decide) (by decide), hfr.2⟩
          rw [h4, hT]
          rfl
        · skip
          have htL : t < L := by
            have hq1 := mt (le_nI (rfl : nI L = nI L) (rfl : nI t = nI t) (by omega) (by omega)).mpr cq166
            omega
          have hn3 : (lx_k B L (lx_f B L p)) ≠ 3 := fun q => cq155 (by rw [q]; rfl)
          refine A_aload_n rfl dX6_step_169 ?_
          refine A_aload_n rfl dX6_step_170 ?_
          refine A_getI fr_X6_26.g rfl lay_32 dX6_step_171 ?_
          rw [h4]
          refine A_callV (s_bat l G K B L hBK t (by omega)) m_X6_byteAt ml_X6_50 rfl lay_32 rfl (by decide) rfl rfl (Nat.le_of_ble_eq_true rfl) (by decide) (by decide) (by decide) dX6_step_174 (fun _ _ _ h => congrArg List.length h.2.1) ?_
          rintro _ _ _ ⟨rfl, rfl, e9⟩
          refine AW_I e9 ?_
          clear e9
          refine A_callS (s_so l G _ _ _) m_X6_sortOf ml_X6_54 rfl rfl rfl (Nat.le_of_ble_eq_true rfl) (by decide) (by decide) (by decide) dX6_step_177 (fun _ _ _ h => congrArg List.length h.2.1) ?_
          rintro _ _ _ ⟨rfl, rfl, e9⟩
          refine AW_I e9 ?_
          clear e9
          refine A_aload_n rfl dX6_step_180 ?_
          refine A_getI fr_X6_29.g rfl lay_32 dX6_step_181 ?_
          rw [h5]
          refine A_icmp_ne 200 rfl dX6_step_184 (fun cq184 => ?_) (fun cq184 => ?_)
          · skip
            refine A_vret rfl rfl rfl dX6_step_200 ?_
            have hT : t = (lx_t B L (lx_f B L p) (lx_k B L (lx_f B L p))) := by
              unfold lx_t
              rw [if_neg hk0]
              by_cases q : (lx_k B L (lx_f B L p)) = 3
              · rw [if_pos q]; exact hr q
              · rw [if_neg q, ← hr2 q]
                rw [show lx_run B L (lx_k B L (lx_f B L p)) (L - t) t = t by
                  cases hc : L - t with
                  | zero => rfl
                  | succ m =>
                    rw [lx_run, if_neg]
                    rintro ⟨z1, z2⟩
                    first
                      | (have h7 : nI (lx_k B L (lx_f B L p)) = 3 := cq155; exact q ((nI_eq (b := 3) (by omega) (by omega)).mp h7))
                      | (have h7 : nI L ≤ nI t := cq166; have h8 := (le_nI (rfl : nI L = nI L) (rfl : nI t = nI t) (by omega) (by omega)).mp h7; omega)
                      | (have h7 : ¬ nI (lx_so (lx_at B L t)) = nI (lx_k B L (lx_f B L p)) := cq184; apply h7; unfold lx_at; rw [if_pos z1, z2])]
            refine ⟨rfl, rfl, ⟨h3, ?_, h5, h6⟩, hfr.1 0 (by decide) (by decide) (by decide) (by decide), hfr.2⟩
            rw [h4, hT]
            rfl
          · skip
            have hso : lx_so (B t) = (lx_k B L (lx_f B L p)) := by
              have h7 : nI (lx_so (lx_at B L t)) = nI (lx_k B L (lx_f B L p)) := cq184
              have h8 := (nI_eq (by have := so_3 (lx_at B L t); omega) (by omega)).mp h7
              unfold lx_at at h8
              rw [if_pos htL] at h8
              exact h8
            refine A_aload_n rfl dX6_step_187 ?_
            refine A_dup rfl dX6_step_188 ?_
            refine A_getI fr_X6_26.g rfl lay_32 dX6_step_189 ?_
            rw [h4]
            refine A_iconst ic_1 dX6_step_192 ?_
            refine A_iadd dX6_step_193 ?_
            refine A_putI fr_X6_26 rfl lay_32 rfl rfl dX6_step_194 ?_
            refine A_goto 150 rfl dX6_step_197 ?_
            refine ih (L - (t + 1)) (by omega) (t + 1) _ rfl hk0 (by omega) (by omega) ?_ ?_ ?_ ?_ (fun q => absurd q hn3) (fun q => ?_) ⟨fun j a b c e => ?_, fun q hq => ?_⟩
            · rw [up2_ni (by decide)]; exact h3
            · rw [up2_same, nI_1]
            · rw [up2_ni (by decide)]; exact h5
            · rw [up2_ni (by decide)]; exact h6
            · rw [← hr2 q, show L - t = (L - (t + 1)) + 1 by omega, lx_run, if_pos ⟨htL, hso⟩]
            · rw [up2_ni b]; exact hfr.1 j a b c e
            · rw [up2_ne hq]; exact hfr.2 q hq
  have j124 : ∀ (lpn : Nat) (z : Nat) (K : Hp), z = lpn → (K 32 3 = nI (lx_f B L p)) → (K 32 5 = nI (lx_k B L (lx_f B L p))) → (K 32 6 = b2i (lx_s p (lx_f B L p) (lx_k B L (lx_f B L p)) (lx_w k0))) → ((∀ j, j ≠ 3 → j ≠ 4 → j ≠ 5 → j ≠ 6 → K 32 j = I 32 j) ∧ ∀ q, q ≠ 32 → K q = I q) → AW l G yX6_step cX6_step 3 none 2 0 0 (fun r lay1 I1 => r = none ∧ lay1 = LAY ∧ TkC I1 (lx B L p (lx_w k0)) ∧ I1 32 0 = I 32 0 ∧ ∀ q, q ≠ 32 → I1 q = I q) 0 0 124 [some (.ref 32), some (.int (nI p)), some (.int (b2i (lx_w k0)))] [] LAY K := by
    intro lpn
    induction lpn using Nat.strongRecOn with
    | _ lpn ih =>
      intro z K hms h3 h5 h6 hfr
      have hk3 : (lx_k B L (lx_f B L p)) ≤ 3 := so_3 _
      have hL := hB.2.2.1
      have hIx := lx_I.of (w := lx_w k0) hB.2.2 hp
      have hf1 : (lx_f B L p) ≤ L := hIx.1
      refine A_aload_n rfl dX6_step_124 ?_
      refine A_getI fr_X6_29.g rfl lay_32 dX6_step_125 ?_
      rw [h5]
      refine A_if_ne 140 rfl dX6_step_128 (fun cq128 => ?_) (fun cq128 => ?_)
      · skip
        refine A_aload_n rfl dX6_step_140 ?_
        refine A_aload_n rfl dX6_step_141 ?_
        refine A_getI fr_X6_39.g rfl lay_32 dX6_step_142 ?_
        rw [h3]
        refine A_iconst ic_1 dX6_step_145 ?_
        refine A_iadd dX6_step_146 ?_
        rw [nI_1]
        refine A_putI fr_X6_26 rfl lay_32 rfl rfl dX6_step_147 ?_
        have hk0 : (lx_k B L (lx_f B L p)) ≠ 0 := fun q => cq128 (by rw [q]; rfl)
        have hfL : (lx_f B L p) < L := by have h9 := (lx_kB (f := (lx_f B L p)) hB.2.2); omega
        refine loop2 _ ((lx_f B L p) + 1) _ rfl hk0 (Nat.le_refl _) (by omega) ?_ ?_ ?_ ?_ (fun _ => rfl) (fun _ => rfl) ⟨fun j a b c e => ?_, fun q hq => ?_⟩
        · rw [up2_ni (by decide)]; exact h3
        · rw [up2_same]
        · rw [up2_ni (by decide)]; exact h5
        · rw [up2_ni (by decide)]; exact h6
        · rw [up2_ni b]; exact hfr.1 j a b c e
        · rw [up2_ne hq]; exact hfr.2 q hq
      · skip
        refine A_aload_n rfl dX6_step_131 ?_
        refine A_aload_n rfl dX6_step_132 ?_
        refine A_getI fr_X6_39.g rfl lay_32 dX6_step_133 ?_
        rw [h3]
        refine A_putI fr_X6_26 rfl lay_32 rfl rfl dX6_step_136 ?_
        refine A_vret rfl rfl rfl dX6_step_139 ?_
        have h7 : nI (lx_k B L (lx_f B L p)) = 0 := cq128
        have hk0 : (lx_k B L (lx_f B L p)) = 0 := (nI_eq (b := 0) (by omega) (by omega)).mp h7
        refine ⟨rfl, rfl, ⟨by rw [up2_ni (by decide)]; exact h3, ?_, by rw [up2_ni (by decide)]; exact h5, by rw [up2_ni (by decide)]; exact h6⟩, by rw [up2_ni (by decide)]; exact hfr.1 0 (by decide) (by decide) (by decide) (by decide), fun q hq => by rw [up2_ne hq]; exact hfr.2 q hq⟩
        rw [up2_same]
        show nI (lx_f B L p) = nI (lx_t B L (lx_f B L p) (lx_k B L (lx_f B L p)))
        unfold lx_t
        rw [if_pos hk0]
  have j72 : ∀ (lpn : Nat) (z : Nat) (K : Hp), z = lpn → (K 32 3 = nI (lx_f B L p)) → ((∀ j, j ≠ 3 → K 32 j = I 32 j) ∧ ∀ q, q ≠ 32 → K q = I q) → AW l G yX6_step cX6_step 3 none 2 0 0 (fun r lay1 I1 => r = none ∧ lay1 = LAY ∧ TkC I1 (lx B L p (lx_w k0)) ∧ I1 32 0 = I 32 0 ∧ ∀ q, q ≠ 32 → I1 q = I q) 0 0 72 [some (.ref 32), some (.int (nI p)), some (.int (b2i (lx_w k0)))] [] LAY K := by
    intro lpn
    induction lpn using Nat.strongRecOn with
    | _ lpn ih =>
      intro z K hms h3 hfr
      have hBK : TpI B L K := hB.fr (hfr.1 0 (by decide)) (hfr.2 33 (by decide))
      have hk3 : (lx_k B L (lx_f B L p)) ≤ 3 := so_3 _
      have hL := hB.2.2.1
      have hIx := lx_I.of (w := lx_w k0) hB.2.2 hp
      have hf1 : (lx_f B L p) ≤ L := hIx.1
      have he3 : (up2 K 32 5 (nI (lx_so (lx_at B L (lx_f B L p))))) 32 3 = nI (lx_f B L p) := by rw [up2_ni (by decide)]; exact h3
      have he5 : (up2 K 32 5 (nI (lx_so (lx_at B L (lx_f B L p))))) 32 5 = nI (lx_k B L (lx_f B L p)) := up2_same
      refine A_aload_n rfl dX6_step_72 ?_
      refine A_aload_n rfl dX6_step_73 ?_
      refine A_aload_n rfl dX6_step_74 ?_
      refine A_getI fr_X6_39.g rfl lay_32 dX6_step_75 ?_
      rw [h3]
      refine A_callV (s_bat l G K B L hBK (lx_f B L p) (by omega)) m_X6_byteAt ml_X6_50 rfl lay_32 rfl (by decide) rfl rfl (Nat.le_of_ble_eq_true rfl) (by decide) (by decide) (by decide) dX6_step_78 (fun _ _ _ h => congrArg List.length h.2.1) ?_
      rintro _ _ _ ⟨rfl, rfl, e9⟩
      refine AW_I e9 ?_
      clear e9
      refine A_callS (s_so l G _ _ _) m_X6_sortOf ml_X6_54 rfl rfl rfl (Nat.le_of_ble_eq_true rfl) (by decide) (by decide) (by decide) dX6_step_81 (fun _ _ _ h => congrArg List.length h.2.1) ?_
      rintro _ _ _ ⟨rfl, rfl, e9⟩
      refine AW_I e9 ?_
      clear e9
      refine A_putI fr_X6_29 rfl lay_32 rfl rfl dX6_step_84 ?_
      refine A_aload_n rfl dX6_step_87 ?_
      refine A_iload_n rfl dX6_step_88 ?_
      refine A_if_eq 120 rfl dX6_step_89 (fun cq89 => ?_) (fun cq89 => ?_)
      · skip
        have hs : (lx_s p (lx_f B L p) (lx_k B L (lx_f B L p)) (lx_w k0)) = false := by first | exact ls_w cq89 | exact ls_f cq97 | exact ls_k cq105 cq113
        refine A_iconst ic_0 dX6_step_120 ?_
        refine A_putI fr_X6_57 rfl lay_32 rfl rfl dX6_step_121 ?_
        refine j124 _ 0 _ rfl ?_ ?_ ?_ ⟨fun j a b c e => ?_, fun q hq => ?_⟩
        · rw [up2_ni (by decide)]; exact he3
        · rw [up2_ni (by decide)]; exact he5
        · rw [up2_same, hs]; rfl
        · rw [up2_ni e, up2_ni c]; exact hfr.1 j a
        · rw [up2_ne hq, up2_ne hq]; exact hfr.2 q hq
      · skip
        refine A_aload_n rfl dX6_step_92 ?_
        refine A_getI fr_X6_39.g rfl lay_32 dX6_step_93 ?_
        refine A_iload_n rfl dX6_step_96 ?_
        rw [he3]
        refine A_icmp_ne 120 rfl dX6_step_97 (fun cq97 => ?_) (fun cq97 => ?_)
        · skip
          have hs : (lx_s p (lx_f B L p) (lx_k B L (lx_f B L p)) (lx_w k0)) = false := by first | exact ls_w cq89 | exact ls_f cq97 | exact ls_k cq105 cq113
          refine A_iconst ic_0 dX6_step_120 ?_
          refine A_putI fr_X6_57 rfl lay_32 rfl rfl dX6_step_121 ?_
          refine j124 _ 0 _ rfl ?_ ?_ ?_ ⟨fun j a b c e => ?_, fun q hq => ?_⟩
          · rw [up2_ni (by decide)]; exact he3
          · rw [up2_ni (by decide)]; exact he5
          · rw [up2_same, hs]; rfl
          · rw [up2_ni e, up2_ni c]; exact hfr.1 j a
          · rw [up2_ne hq, up2_ne hq]; exact hfr.2 q hq
        · skip
          refine A_aload_n rfl dX6_step_100 ?_
          refine A_getI fr_X6_29.g rfl lay_32 dX6_step_101 ?_
          refine A_iconst ic_1 dX6_step_104 ?_
          rw [he5]
          refine A_icmp_eq 116 rfl dX6_step_105 (fun cq105 => ?_) (fun cq105 => ?_)
          · skip
            have hs : (lx_s p (lx_f B L p) (lx_k B L (lx_f B L p)) (lx_w k0)) = true := by first | exact ls_t cq89 cq97 (by omega) (by omega) hk3 (Or.inl cq105) | exact ls_t cq89 cq97 (by omega) (by omega) hk3 (Or.inr cq113)
            refine A_iconst ic_1 dX6_step_116 ?_
            refine A_goto 121 rfl dX6_step_117 ?_
            refine A_putI fr_X6_57 rfl lay_32 rfl rfl dX6_step_121 ?_
            refine j124 _ 0 _ rfl ?_ ?_ ?_ ⟨fun j a b c e => ?_, fun q hq => ?_⟩
            · rw [up2_ni (by decide)]; exact he3
            · rw [up2_ni (by decide)]; exact he5
            · rw [up2_same, hs]; rfl
            · rw [up2_ni e, up2_ni c]; exact hfr.1 j a
            · rw [up2_ne hq, up2_ne hq]; exact hfr.2 q hq
          · skip
            refine A_aload_n rfl dX6_step_108 ?_
            refine A_getI fr_X6_29.g rfl lay_32 dX6_step_109 ?_
            refine A_iconst ic_2 dX6_step_112 ?_
            rw [he5]
            refine A_icmp_ne 120 rfl dX6_step_113 (fun cq113 => ?_) (fun cq113 => ?_)
            · skip
              have hs : (lx_s p (lx_f B L p) (lx_k B L (lx_f B L p)) (lx_w k0)) = false := by first | exact ls_w cq89 | exact ls_f cq97 | exact ls_k cq105 cq113
              refine A_iconst ic_0 dX6_step_120 ?_
              refine A_putI fr_X6_57 rfl lay_32 rfl rfl dX6_step_121 ?_
              refine j124 _ 0 _ rfl ?_ ?_ ?_ ⟨fun j a b c e => ?_, fun q hq => ?_⟩
              · rw [up2_ni (by decide)]; exact he3
              · rw [up2_ni (by decide)]; exact he5
              · rw [up2_same, hs]; rfl
              · rw [up2_ni e, up2_ni c]; exact hfr.1 j a
              · rw [up2_ne hq, up2_ne hq]; exact hfr.2 q hq
            · skip
              have hs : (lx_s p (lx_f B L p) (lx_k B L (lx_f B L p)) (lx_w k0)) = true := by first | exact ls_t cq89 cq97 (by omega) (by omega) hk3 (Or.inl cq105) | exact ls_t cq89 cq97 (by omega) (by omega) hk3 (Or.inr cq113)
              refine A_iconst ic_1 dX6_step_116 ?_
              refine A_goto 121 rfl dX6_step_117 ?_
              refine A_putI fr_X6_57 rfl lay_32 rfl rfl dX6_step_121 ?_
              refine j124 _ 0 _ rfl ?_ ?_ ?_ ⟨fun j a b c e => ?_, fun q hq => ?_⟩
              · rw [up2_ni (by decide)]; exact he3
              · rw [up2_ni (by decide)]; exact he5
              · rw [up2_same, hs]; rfl
              · rw [up2_ni e, up2_ni c]; exact hfr.1 j a
              · rw [up2_ne hq, up2_ne hq]; exact hfr.2 q hq
  have loop1 : ∀ (lpn : Nat) (f : Nat) (K : Hp), L - f = lpn → (p ≤ f) → (f ≤ L) → (lx_f B L f = lx_f B L p) → (K 32 3 = nI f) → ((∀ j, j ≠ 3 → K 32 j = I 32 j) ∧ ∀ q, q ≠ 32 → K q = I q) → AW l G yX6_step cX6_step 3 none 2 0 0 (fun r lay1 I1 => r = none ∧ lay1 = LAY ∧ TkC I1 (lx B L p (lx_w k0)) ∧ I1 32 0 = I 32 0 ∧ ∀ q, q ≠ 32 → I1 q = I q) 0 0 35 [some (.ref 32), some (.int (nI p)), some (.int (b2i (lx_w k0)))] [] LAY K := by
    intro lpn
    induction lpn using Nat.strongRecOn with
    | _ lpn ih =>
      intro f K hms hf1 hf2 hff h3 hfr
      have hBK : TpI B L K := hB.fr (hfr.1 0 (by decide)) (hfr.2 33 (by decide))
      have hL := hB.2.2.1
      refine A_aload_n rfl dX6_step_35 ?_
      refine A_getI fr_X6_39.g rfl lay_32 dX6_step_36 ?_
      refine A_aload_n rfl dX6_step_39 ?_
      refine A_getI fr_X6_22.g rfl lay_32 dX6_step_40 ?_
      rw [h3, hBK.1]
      refine A_icmp_ge 72 rfl dX6_step_43 (fun cq43 => ?_) (fun cq43 => ?_)
      · skip
        have hno : ¬ (f < L ∧ B f = 32) := by
          rintro ⟨z1, z2⟩
          first
            | (have h7 : nI L ≤ nI f := cq43; have h8 := (le_nI (rfl : nI L = nI L) (rfl : nI f = nI f) (by omega) (by omega)).mp h7; omega)
            | exact cq56 z2
        have hfe : f = lx_f B L p := by rw [← hff, sk_no hno]
        exact j72 _ 0 K rfl (by rw [← hfe]; exact h3) hfr
      · skip
        have hfL : f < L := by
          have hq1 := mt (le_nI (rfl : nI L = nI L) (rfl : nI f = nI f) (by omega) (by omega)).mpr cq43
          omega
        have hat : lx_at B L f = B f := by unfold lx_at; rw [if_pos hfL]
        refine A_aload_n rfl dX6_step_46 ?_
        refine A_aload_n rfl dX6_step_47 ?_
        refine A_getI fr_X6_39.g rfl lay_32 dX6_step_48 ?_
        rw [h3]
        refine A_callV (s_bat l G K B L hBK f (by omega)) m_X6_byteAt ml_X6_50 rfl lay_32 rfl (by decide) rfl rfl (Nat.le_of_ble_eq_true rfl) (by decide) (by decide) (by decide) dX6_step_51 (fun _ _ _ h => congrArg List.length h.2.1) ?_
        rintro _ _ _ ⟨rfl, rfl, e9⟩
        refine AW_I e9 ?_
        clear e9
        rw [hat]
        refine A_bipush bp_32 dX6_step_54 ?_
        refine A_icmp_ne 72 rfl dX6_step_56 (fun cq56 => ?_) (fun cq56 => ?_)
        · skip
          have hno : ¬ (f < L ∧ B f = 32) := by
            rintro ⟨z1, z2⟩
            first
              | (have h7 : nI L ≤ nI f := cq43; have h8 := (le_nI (rfl : nI L = nI L) (rfl : nI f = nI f) (by omega) (by omega)).mp h7; omega)
              | exact cq56 z2
          have hfe : f = lx_f B L p := by rw [← hff, sk_no hno]
          exact j72 _ 0 K rfl (by rw [← hfe]; exact h3) hfr
        · skip
          refine A_aload_n rfl dX6_step_59 ?_
          refine A_dup rfl dX6_step_60 ?_
          refine A_getI fr_X6_39.g rfl lay_32 dX6_step_61 ?_
          rw [h3]
          refine A_iconst ic_1 dX6_step_64 ?_
          refine A_iadd dX6_step_65 ?_
          refine A_putI fr_X6_39 rfl lay_32 rfl rfl dX6_step_66 ?_
          refine A_goto 35 rfl dX6_step_69 ?_
          refine ih (L - (f + 1)) (by omega) (f + 1) _ rfl (by omega) (by omega) (by rw [← sk_st hfL cq56]; exact hff) ?_ ⟨fun j a => ?_, fun q hq => ?_⟩
          · rw [up2_same, nI_1]
          · rw [up2_ni a]; exact hfr.1 j a
          · rw [up2_ne hq]; exact hfr.2 q hq
  refine Meth.of (by decide +kernel) (by simp [Value.category]) (Nat.le_of_ble_eq_true rfl) ?_
  refine A_aload_n rfl dX6_step_0 ?_
  refine A_getI fr_X6_26.g rfl lay_32 dX6_step_1 ?_
  rw [h4i]
  refine A_istore_n (by decide) rfl dX6_step_4 ?_
  refine A_aload_n rfl dX6_step_5 ?_
  refine A_getI fr_X6_29.g rfl lay_32 dX6_step_6 ?_
  refine A_iconst ic_1 dX6_step_9 ?_
  refine A_icmp_eq 21 rfl dX6_step_10 (fun cq10 => ?_) (fun cq10 => ?_)
  · skip
    have hw : lx_w k0 = true := by first | exact w_1 h5i hk0 cq10 | exact w_2 h5i hk0 cq18
    refine A_iconst ic_1 dX6_step_21 ?_
    refine A_goto 26 rfl dX6_step_22 ?_
    refine A_istore_n (by decide) rfl dX6_step_26 ?_
    refine A_aload_n rfl dX6_step_27 ?_
    refine A_aload_n rfl dX6_step_28 ?_
    refine A_getI fr_X6_26.g rfl lay_32 dX6_step_29 ?_
    rw [h4i]
    refine A_putI fr_X6_39 rfl lay_32 rfl rfl dX6_step_32 ?_
    refine AW_L (L := [some (.ref 32), some (.int (nI p)), some (.int (b2i (lx_w k0)))]) (by rw [hw]; rfl) ?_
    refine loop1 _ p _ rfl (Nat.le_refl _) hp rfl ?_ ⟨fun j a => ?_, fun q hq => ?_⟩
    · rw [up2_same]
    · rw [up2_ni a]
    · rw [up2_ne hq]
  · skip
    refine A_aload_n rfl dX6_step_13 ?_
    refine A_getI fr_X6_29.g rfl lay_32 dX6_step_14 ?_
    refine A_iconst ic_2 dX6_step_17 ?_
    refine A_icmp_ne 25 rfl dX6_step_18 (fun cq18 => ?_) (fun cq18 => ?_)
    · skip
      have hw : lx_w k0 = false := w_0 h5i hk0 cq10 cq18
      refine A_iconst ic_0 dX6_step_25 ?_
      refine A_istore_n (by decide) rfl dX6_step_26 ?_
      refine A_aload_n rfl dX6_step_27 ?_
      refine A_aload_n rfl dX6_step_28 ?_
      refine A_getI fr_X6_26.g rfl lay_32 dX6_step_29 ?_
      rw [h4i]
      refine A_putI fr_X6_39 rfl lay_32 rfl rfl dX6_step_32 ?_
      refine AW_L (L := [some (.ref 32), some (.int (nI p)), some (.int (b2i (lx_w k0)))]) (by rw [hw]; rfl) ?_
      refine loop1 _ p _ rfl (Nat.le_refl _) hp rfl ?_ ⟨fun j a => ?_, fun q hq => ?_⟩
      · rw [up2_same]
      · rw [up2_ni a]
      · rw [up2_ne hq]
    · skip
      have hw : lx_w k0 = true := by first | exact w_1 h5i hk0 cq10 | exact w_2 h5i hk0 cq18
      refine A_iconst ic_1 dX6_step_21 ?_
      refine A_goto 26 rfl dX6_step_22 ?_
      refine A_istore_n (by decide) rfl dX6_step_26 ?_
      refine A_aload_n rfl dX6_step_27 ?_
      refine A_aload_n rfl dX6_step_28 ?_
      refine A_getI fr_X6_26.g rfl lay_32 dX6_step_29 ?_
      rw [h4i]
      refine A_putI fr_X6_39 rfl lay_32 rfl rfl dX6_step_32 ?_
      refine AW_L (L := [some (.ref 32), some (.int (nI p)), some (.int (b2i (lx_w k0)))]) (by rw [hw]; rfl) ?_
      refine loop1 _ p _ rfl (Nat.le_refl _) hp rfl ?_ ⟨fun j a => ?_, fun q hq => ?_⟩
      · rw [up2_same]
      · rw [up2_ni a]
      · rw [up2_ne hq]
