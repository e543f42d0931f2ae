def TpM (B : Nat → Int32) (L : Nat) (I : Hp) : Prop := I 86 7 = nI L ∧ (∀ k, k < L → I 91 k = B k) ∧ lx_B B L
def tokN (τ : Tok) : Nat := if τ.2.2.1 = 0 then 0 else if τ.2.2.1 = 1 then (if τ.2.2.2 = true then 4 else 1) else if τ.2.2.1 = 2 then (if τ.2.2.2 = true ∨ 4 < τ.2.1 - τ.1 then 4 else 2) else 3
/-- where the last word ended -/
def EnR (e : Int32) (w : Bool) (p : Nat) : Prop := (w = true → e = nI p) ∧ (w = false → ∀ j, p ≤ j → j < 1000 → ¬ e = nI j)
def TkM (B : Nat → Int32) (J : Hp) (τ : Tok) : Prop := J 86 8 = nI τ.2.1 ∧ J 86 9 = nI τ.1 ∧ J 86 10 = nI (tokN τ) ∧ (τ.2.2.1 = 1 ∨ τ.2.2.1 = 3 → J 86 11 = B τ.1) ∧ (τ.2.2.1 = 2 → τ.2.1 - τ.1 ≤ 4 → J 86 11 = lx_num B τ.1 (τ.2.1 - τ.1)) ∧ (τ.2.2.1 ≠ 0 → EnR (J 86 12) (lx_w τ.2.2.1) τ.2.1)
theorem TpM.fr {B : Nat → Int32} {L : Nat} {I J : Hp} (h : TpM B L I) (h0 : J 86 7 = I 86 7) (h1 : J 91 = I 91) : TpM B L J := ⟨h0.trans h.1, fun k hk => by rw [h1]; exact h.2.1 k hk, h.2.2⟩
theorem so_1 {b : Int32} : lx_so b = 1 ↔ 97 ≤ b ∧ b ≤ 122 := by
  unfold lx_so
  (repeat' split) <;> constructor <;> intro h <;> simp only [Int32.lt_iff_toInt_lt, Int32.le_iff_toInt_le, Int32.reduceToInt] at * <;> omega
theorem so_2 {b : Int32} : lx_so b = 2 ↔ 48 ≤ b ∧ b ≤ 57 := by
  unfold lx_so
  (repeat' split) <;> constructor <;> intro h <;> simp only [Int32.lt_iff_toInt_lt, Int32.le_iff_toInt_le, Int32.reduceToInt] at * <;> omega
theorem lx_k_lt {B : Nat → Int32} {L p : Nat} (h : p < L) : lx_k B L p = lx_so (B p) := by unfold lx_k lx_at; rw [if_pos h]
theorem run_st {B : Nat → Int32} {L k t : Nat} (h : t < L) (hk : lx_so (B t) = k) : lx_run B L k (L - t) t = lx_run B L k (L - (t + 1)) (t + 1) := by
  rw [show L - t = (L - (t + 1)) + 1 by omega, lx_run, if_pos ⟨h, hk⟩]
theorem run_no {B : Nat → Int32} {L k t : Nat} (h : ¬ (t < L ∧ lx_so (B t) = k)) : lx_run B L k (L - t) t = t := by
  cases L - t with
  | zero => rfl
  | succ m => rw [lx_run, if_neg h]
set_option maxHeartbeats 1000000 in
set_option maxRecDepth 100000 in
theorem t_let (l : Launch) (G : Gm) (I : Hp) (B : Nat → Int32) (L : Nat) (hB : TpM B L I) (p : Nat) (hp : p < 1000) : Meth l G yX8_isLetter cX8_isLetter 2 (some (FieldType.boolean)) 1 0 0 [.ref 86, .int (nI p)] LAY I (fun r lay1 I1 => r = some (.int (b2i (decide (lx_k B L p = 1)))) ∧ lay1 = LAY ∧ I1 = I) := by
  refine Meth.of (by decide +kernel) (by simp [Value.category]) (Nat.le_of_ble_eq_true rfl) ?_
  refine A_iload_n rfl dX8_isLetter_0 ?_
  refine A_aload_n rfl dX8_isLetter_1 ?_
  refine A_getI fr_X8_200.g rfl lay_86 dX8_isLetter_2 ?_
  rw [hB.1]
  have hL := hB.2.2.1
  refine A_icmp_ge 34 rfl dX8_isLetter_5 (fun cq5 => ?_) (fun cq5 => ?_)
  · skip
    refine A_iconst ic_0 dX8_isLetter_34 ?_
    refine A_iret rfl rfl rfl rfl dX8_isLetter_35 ?_
    refine ⟨?_, rfl, rfl⟩
    first
      | (have h7 : nI L ≤ nI p := cq5; have h8 := (le_nI (rfl : nI L = nI L) (rfl : nI p = nI p) (by omega) (by omega)).mp h7; rw [b2i_ff (fun q => by rw [(lx_kB hB.2.2).mpr h8] at q; omega)])
      | (have h7 : B p < 97 := cq16; rw [b2i_ff (fun q => absurd (so_1.mp ((lx_k_lt hpL).symm.trans q)).1 (Int32.not_le.mpr h7))])
      | (have h7 : 122 < B p := cq27; rw [b2i_ff (fun q => absurd (so_1.mp ((lx_k_lt hpL).symm.trans q)).2 (Int32.not_le.mpr h7))])
      | (have h7 : ¬ B p < 97 := cq16; have h8 : ¬ 122 < B p := cq27; rw [b2i_tt ((lx_k_lt hpL).trans (so_1.mpr ⟨Int32.not_lt.mp h7, Int32.not_lt.mp h8⟩))])
  · skip
    have hpL : p < L := by
      have hq1 := mt (le_nI (rfl : nI L = nI L) (rfl : nI p = nI p) (by omega) (by omega)).mpr cq5
      omega
    refine A_aload_n rfl dX8_isLetter_8 ?_
    refine A_getR fr_X8_26.g rfl lay_86 rfl dX8_isLetter_9 ?_
    refine A_iload_n rfl dX8_isLetter_12 ?_
    refine A_iald p rfl lay_91 (by omega) (by decide) dX8_isLetter_13 ?_
    rw [hB.2.1 p hpL]
    refine A_bipush bp_97 dX8_isLetter_14 ?_
    refine A_icmp_lt 34 rfl dX8_isLetter_16 (fun cq16 => ?_) (fun cq16 => ?_)
    · skip
      refine A_iconst ic_0 dX8_isLetter_34 ?_
      refine A_iret rfl rfl rfl rfl dX8_isLetter_35 ?_
      refine ⟨?_, rfl, rfl⟩
      first
        | (have h7 : nI L ≤ nI p := cq5; have h8 := (le_nI (rfl : nI L = nI L) (rfl : nI p = nI p) (by omega) (by omega)).mp h7; rw [b2i_ff (fun q => by rw [(lx_kB hB.2.2).mpr h8] at q; omega)])
        | (have h7 : B p < 97 := cq16; rw [b2i_ff (fun q => absurd (so_1.mp ((lx_k_lt hpL).symm.trans q)).1 (Int32.not_le.mpr h7))])
        | (have h7 : 122 < B p := cq27; rw [b2i_ff (fun q => absurd (so_1.mp ((lx_k_lt hpL).symm.trans q)).2 (Int32.not_le.mpr h7))])
        | (have h7 : ¬ B p < 97 := cq16; have h8 : ¬ 122 < B p := cq27; rw [b2i_tt ((lx_k_lt hpL).trans (so_1.mpr ⟨Int32.not_lt.mp h7, Int32.not_lt.mp h8⟩))])
    · skip
      refine A_aload_n rfl dX8_isLetter_19 ?_
      refine A_getR fr_X8_26.g rfl lay_86 rfl dX8_isLetter_20 ?_
      refine A_iload_n rfl dX8_isLetter_23 ?_
      refine A_iald p rfl lay_91 (by omega) (by decide) dX8_isLetter_24 ?_
      rw [hB.2.1 p hpL]
      refine A_bipush bp_122 dX8_isLetter_25 ?_
      refine A_icmp_gt 34 rfl dX8_isLetter_27 (fun cq27 => ?_) (fun cq27 => ?_)
      · skip
        refine A_iconst ic_0 dX8_isLetter_34 ?_
        refine A_iret rfl rfl rfl rfl dX8_isLetter_35 ?_
        refine ⟨?_, rfl, rfl⟩
        first
          | (have h7 : nI L ≤ nI p := cq5; have h8 := (le_nI (rfl : nI L = nI L) (rfl : nI p = nI p) (by omega) (by omega)).mp h7; rw [b2i_ff (fun q => by rw [(lx_kB hB.2.2).mpr h8] at q; omega)])
          | (have h7 : B p < 97 := cq16; rw [b2i_ff (fun q => absurd (so_1.mp ((lx_k_lt hpL).symm.trans q)).1 (Int32.not_le.mpr h7))])
          | (have h7 : 122 < B p := cq27; rw [b2i_ff (fun q => absurd (so_1.mp ((lx_k_lt hpL).symm.trans q)).2 (Int32.not_le.mpr h7))])
          | (have h7 : ¬ B p < 97 := cq16; have h8 : ¬ 122 < B p := cq27; rw [b2i_tt ((lx_k_lt hpL).trans (so_1.mpr ⟨Int32.not_lt.mp h7, Int32.not_lt.mp h8⟩))])
      · skip
        refine A_iconst ic_1 dX8_isLetter_30 ?_
        refine A_goto 35 rfl dX8_isLetter_31 ?_
        refine A_iret rfl rfl rfl rfl dX8_isLetter_35 ?_
        refine ⟨?_, rfl, rfl⟩
        first
          | (have h7 : nI L ≤ nI p := cq5; have h8 := (le_nI (rfl : nI L = nI L) (rfl : nI p = nI p) (by omega) (by omega)).mp h7; rw [b2i_ff (fun q => by rw [(lx_kB hB.2.2).mpr h8] at q; omega)])
          | (have h7 : B p < 97 := cq16; rw [b2i_ff (fun q => absurd (so_1.mp ((lx_k_lt hpL).symm.trans q)).1 (Int32.not_le.mpr h7))])
          | (have h7 : 122 < B p := cq27; rw [b2i_ff (fun q => absurd (so_1.mp ((lx_k_lt hpL).symm.trans q)).2 (Int32.not_le.mpr h7))])
          | (have h7 : ¬ B p < 97 := cq16; have h8 : ¬ 122 < B p := cq27; rw [b2i_tt ((lx_k_lt hpL).trans (so_1.mpr ⟨Int32.not_lt.mp h7, Int32.not_lt.mp h8⟩))])
set_option maxHeartbeats 1000000 in
set_option maxRecDepth 100000 in
theorem t_fig (l : Launch) (G : Gm) (I : Hp) (B : Nat → Int32) (L : Nat) (hB : TpM B L I) (p : Nat) (hp : p < 1000) : Meth l G yX8_isFigure cX8_isFigure 2 (some (FieldType.boolean)) 1 0 0 [.ref 86, .int (nI p)] LAY I (fun r lay1 I1 => r = some (.int (b2i (decide (lx_k B L p = 2)))) ∧ lay1 = LAY ∧ I1 = I) := by
  refine Meth.of (by decide +kernel) (by simp [Value.category]) (Nat.le_of_ble_eq_true rfl) ?_
  refine A_iload_n rfl dX8_isFigure_0 ?_
  refine A_aload_n rfl dX8_isFigure_1 ?_
  refine A_getI fr_X8_200.g rfl lay_86 dX8_isFigure_2 ?_
  rw [hB.1]
  have hL := hB.2.2.1
  refine A_icmp_ge 34 rfl dX8_isFigure_5 (fun cq5 => ?_) (fun cq5 => ?_)
  · skip
    refine A_iconst ic_0 dX8_isFigure_34 ?_
    refine A_iret rfl rfl rfl rfl dX8_isFigure_35 ?_
    refine ⟨?_, rfl, rfl⟩
    first
      | (have h7 : nI L ≤ nI p := cq5; have h8 := (le_nI (rfl : nI L = nI L) (rfl : nI p = nI p) (by omega) (by omega)).mp h7; rw [b2i_ff (fun q => by rw [(lx_kB hB.2.2).mpr h8] at q; omega)])
      | (have h7 : B p < 48 := cq16; rw [b2i_ff (fun q => absurd (so_2.mp ((lx_k_lt hpL).symm.trans q)).1 (Int32.not_le.mpr h7))])
      | (have h7 : 57 < B p := cq27; rw [b2i_ff (fun q => absurd (so_2.mp ((lx_k_lt hpL).symm.trans q)).2 (Int32.not_le.mpr h7))])
      | (have h7 : ¬ B p < 48 := cq16; have h8 : ¬ 57 < B p := cq27; rw [b2i_tt ((lx_k_lt hpL).trans (so_2.mpr ⟨Int32.not_lt.mp h7, Int32.not_lt.mp h8⟩))])
  · skip
    have hpL : p < L := by
      have hq1 := mt (le_nI (rfl : nI L = nI L) (rfl : nI p = nI p) (by omega) (by omega)).mpr cq5
      omega
    refine A_aload_n rfl dX8_isFigure_8 ?_
    refine A_getR fr_X8_26.g rfl lay_86 rfl dX8_isFigure_9 ?_
    refine A_iload_n rfl dX8_isFigure_12 ?_
    refine A_iald p rfl lay_91 (by omega) (by decide) dX8_isFigure_13 ?_
    rw [hB.2.1 p hpL]
    refine A_bipush bp_48 dX8_isFigure_14 ?_
    refine A_icmp_lt 34 rfl dX8_isFigure_16 (fun cq16 => ?_) (fun cq16 => ?_)
    · skip
      refine A_iconst ic_0 dX8_isFigure_34 ?_
      refine A_iret rfl rfl rfl rfl dX8_isFigure_35 ?_
      refine ⟨?_, rfl, rfl⟩
      first
        | (have h7 : nI L ≤ nI p := cq5; have h8 := (le_nI (rfl : nI L = nI L) (rfl : nI p = nI p) (by omega) (by omega)).mp h7; rw [b2i_ff (fun q => by rw [(lx_kB hB.2.2).mpr h8] at q; omega)])
        | (have h7 : B p < 48 := cq16; rw [b2i_ff (fun q => absurd (so_2.mp ((lx_k_lt hpL).symm.trans q)).1 (Int32.not_le.mpr h7))])
        | (have h7 : 57 < B p := cq27; rw [b2i_ff (fun q => absurd (so_2.mp ((lx_k_lt hpL).symm.trans q)).2 (Int32.not_le.mpr h7))])
        | (have h7 : ¬ B p < 48 := cq16; have h8 : ¬ 57 < B p := cq27; rw [b2i_tt ((lx_k_lt hpL).trans (so_2.mpr ⟨Int32.not_lt.mp h7, Int32.not_lt.mp h8⟩))])
    · skip
      refine A_aload_n rfl dX8_isFigure_19 ?_
      refine A_getR fr_X8_26.g rfl lay_86 rfl dX8_isFigure_20 ?_
      refine A_iload_n rfl dX8_isFigure_23 ?_
      refine A_iald p rfl lay_91 (by omega) (by decide) dX8_isFigure_24 ?_
      rw [hB.2.1 p hpL]
      refine A_bipush bp_57 dX8_isFigure_25 ?_
      refine A_icmp_gt 34 rfl dX8_isFigure_27 (fun cq27 => ?_) (fun cq27 => ?_)
      · skip
        refine A_iconst ic_0 dX8_isFigure_34 ?_
        refine A_iret rfl rfl rfl rfl dX8_isFigure_35 ?_
        refine ⟨?_, rfl, rfl⟩
        first
          | (have h7 : nI L ≤ nI p := cq5; have h8 := (le_nI (rfl : nI L = nI L) (rfl : nI p = nI p) (by omega) (by omega)).mp h7; rw [b2i_ff (fun q => by rw [(lx_kB hB.2.2).mpr h8] at q; omega)])
          | (have h7 : B p < 48 := cq16; rw [b2i_ff (fun q => absurd (so_2.mp ((lx_k_lt hpL).symm.trans q)).1 (Int32.not_le.mpr h7))])
          | (have h7 : 57 < B p := cq27; rw [b2i_ff (fun q => absurd (so_2.mp ((lx_k_lt hpL).symm.trans q)).2 (Int32.not_le.mpr h7))])
          | (have h7 : ¬ B p < 48 := cq16; have h8 : ¬ 57 < B p := cq27; rw [b2i_tt ((lx_k_lt hpL).trans (so_2.mpr ⟨Int32.not_lt.mp h7, Int32.not_lt.mp h8⟩))])
      · skip
        refine A_iconst ic_1 dX8_isFigure_30 ?_
        refine A_goto 35 rfl dX8_isFigure_31 ?_
        refine A_iret rfl rfl rfl rfl dX8_isFigure_35 ?_
        refine ⟨?_, rfl, rfl⟩
        first
          | (have h7 : nI L ≤ nI p := cq5; have h8 := (le_nI (rfl : nI L = nI L) (rfl : nI p = nI p) (by omega) (by omega)).mp h7; rw [b2i_ff (fun q => by rw [(lx_kB hB.2.2).mpr h8] at q; omega)])
          | (have h7 : B p < 48 := cq16; rw [b2i_ff (fun q => absurd (so_2.mp ((lx_k_lt hpL).symm.trans q)).1 (Int32.not_le.mpr h7))])
          | (have h7 : 57 < B p := cq27; rw [b2i_ff (fun q => absurd (so_2.mp ((lx_k_lt hpL).symm.trans q)).2 (Int32.not_le.mpr h7))])
          | (have h7 : ¬ B p < 48 := cq16; have h8 : ¬ 57 < B p := cq27; rw [b2i_tt ((lx_k_lt hpL).trans (so_2.mpr ⟨Int32.not_lt.mp h7, Int32.not_lt.mp h8⟩))])
theorem cl_s {p f k : Nat} {w : Bool} (hk : k = 1 ∨ k = 2) : lx_s p f k w = decide (w = true ∧ f = p) := by
  unfold lx_s
  cases w <;> by_cases e : f = p <;> simp [hk, e]
theorem EnR.word {t k : Nat} (hk : k = 1 ∨ k = 2) : EnR (nI t) (lx_w k) t := ⟨fun _ => rfl, fun q => by rcases hk with rfl | rfl <;> cases q⟩
theorem EnR.sign {e : Int32} {w : Bool} {p f : Nat} (h : EnR e w p) (hf : p ≤ f) (hf2 : f < 500) : EnR e (lx_w 3) (f + 1) := by
  refine ⟨fun q => (by cases q), fun _ j hj hj2 e2 => ?_⟩
  cases w with
  | true =>
    rw [h.1 rfl] at e2
    have := (nI_eq (by omega) (by omega)).mp e2
    omega
  | false => exact h.2 rfl j (by omega) hj2 e2
theorem EnR.at {e : Int32} {w : Bool} {p f : Nat} (h : EnR e w p) (hf : p ≤ f) (hf2 : f < 500) : nI f = e ↔ (w = true ∧ f = p) := by
  cases w with
  | true =>
    rw [h.1 rfl]
    exact ⟨fun q => ⟨rfl, (nI_eq (by omega) (by omega)).mp q⟩, fun q => by rw [q.2]⟩
  | false => exact ⟨fun q => absurd q.symm (h.2 rfl f hf (by omega)), fun q => by cases q.1⟩
set_option maxHeartbeats 1000000 in
set_option maxRecDepth 100000 in
theorem t_gow (l : Launch) (G : Gm) (I : Hp) (B : Nat → Int32) (L : Nat) (hB : TpM B L I) (p : Nat) (w : Bool) (hp : p ≤ L) (h8i : I 86 8 = nI p) (hEn : EnR (I 86 12) w p) : Meth l G yX8_go cX8_go 2 none 2 0 0 [.ref 86] LAY I (fun r lay1 I1 => r = none ∧ lay1 = LAY ∧ TkM B I1 (lx B L p w) ∧ (∀ j, j ≠ 8 → j ≠ 9 → j ≠ 10 → j ≠ 11 → j ≠ 12 → I1 86 j = I 86 j) ∧ ∀ q, q ≠ 86 → I1 q = I q) := by
  have loopL : ∀ (lpn : Nat) (t : Nat) (K : Hp), L - t = lpn → ((lx_k B L (lx_f B L p)) = 1) → ((lx_f B L p) ≤ t) → (t ≤ L) → (lx_run B L 1 (L - t) t = lx_run B L 1 (L - (lx_f B L p)) (lx_f B L p)) → (K 86 8 = nI t) → (K 86 9 = nI (lx_f B L p)) → ((∀ j, j ≠ 8 → j ≠ 9 → j ≠ 10 → j ≠ 11 → j ≠ 12 → K 86 j = I 86 j) ∧ ∀ q, q ≠ 86 → K q = I q) → AW l G yX8_go cX8_go 2 none 2 0 0 (fun r lay1 I1 => r = none ∧ lay1 = LAY ∧ TkM B I1 (lx B L p w) ∧ (∀ j, j ≠ 8 → j ≠ 9 → j ≠ 10 → j ≠ 11 → j ≠ 12 → I1 86 j = I 86 j) ∧ ∀ q, q ≠ 86 → I1 q = I q) 0 0 93 [some (.ref 86), some (.int (b2i (decide (w = true ∧ (lx_f B L p) = p))))] [] LAY K := by
    intro lpn
    induction lpn using Nat.strongRecOn with
    | _ lpn ih =>
      intro t K hms hk1 ht1 ht2 hru h8 h9 hfr
      have hL := hB.2.2.1
      have hIx := lx_I.of (w := w) hB.2.2 hp
      have hf1 : (lx_f B L p) ≤ L := hIx.1
      have hpf : p ≤ (lx_f B L p) := (sk_ge B L (L - p) p).1
      have hBK : TpM B L K := hB.fr (hfr.1 7 (by decide) (by decide) (by decide) (by decide) (by decide)) (hfr.2 91 (by decide))
      have hfL : (lx_f B L p) < L := by have h9 := (lx_kB (f := (lx_f B L p)) hB.2.2); omega
      refine A_aload_n rfl dX8_go_93 ?_
      refine A_aload_n rfl dX8_go_94 ?_
      refine A_getI fr_X8_203.g rfl lay_86 dX8_go_95 ?_
      rw [h8]
      refine A_callV (t_let l G K B L hBK t (by omega)) m_X8_isLetter ml_X8_215 rfl lay_86 rfl (by decide) rfl rfl (Nat.le_of_ble_eq_true rfl) (by decide) (by decide) (by decide) dX8_go_98 (fun _ _ _ h => congrArg List.length h.2.1) ?_
      rintro _ _ _ ⟨rfl, rfl, e9⟩
      refine AW_I e9 ?_
      clear e9
      refine A_if_eq 117 rfl dX8_go_101 (fun cq101 => ?_) (fun cq101 => ?_)
      · skip
        have hT : t = (lx_t B L (lx_f B L p) (lx_k B L (lx_f B L p))) := by
          unfold lx_t
          rw [if_neg (by omega), if_neg (by omega), hk1, ← run_st hfL ((lx_k_lt hfL).symm.trans hk1), ← hru, run_no]
          rintro ⟨z1, z2⟩
          exact b2i_q.mp cq101 ((lx_k_lt z1).trans z2)
        refine A_aload_n rfl dX8_go_117 ?_
        refine A_iload_n rfl dX8_go_118 ?_
        refine A_if_eq 126 rfl dX8_go_119 (fun cq119 => ?_) (fun cq119 => ?_)
        · skip
          refine A_iconst ic_1 dX8_go_126 ?_
          refine A_putI fr_X8_212 rfl lay_86 rfl rfl dX8_go_127 ?_
          refine A_aload_n rfl dX8_go_130 ?_
          refine A_aload_n rfl dX8_go_131 ?_
          refine A_getR fr_X8_26.g rfl lay_86 rfl dX8_go_132 ?_
          refine A_aload_n rfl dX8_go_135 ?_
          refine A_getI fr_X8_206.g rfl lay_86 dX8_go_136 ?_
          rw [up2_ni (show (9 : Nat) ≠ 10 by decide), h9]
          refine A_iald (lx_f B L p) rfl lay_91 (by omega) (by decide) dX8_go_139 ?_
          rw [up2_ne (show (91 : Nat) ≠ 86 by decide), hBK.2.1 (lx_f B L p) hfL]
          refine A_putI fr_X8_218 rfl lay_86 rfl rfl dX8_go_140 ?_
          refine A_aload_n rfl dX8_go_143 ?_
          refine A_aload_n rfl dX8_go_144 ?_
          refine A_getI fr_X8_203.g rfl lay_86 dX8_go_145 ?_
          rw [up2_ni (show (8 : Nat) ≠ 11 by decide), up2_ni (show (8 : Nat) ≠ 10 by decide), h8]
          refine A_putI fr_X8_209 rfl lay_86 rfl rfl dX8_go_148 ?_
          refine A_goto 303 rfl dX8_go_151 ?_
          refine A_vret rfl rfl rfl dX8_go_303 ?_
          refine ⟨rfl, rfl, ⟨?_, ?_, ?_, ?_, ?_, ?_⟩, ?_, ?_⟩
          · rw [up2_ni (by decide), up2_ni (by decide), up2_ni (by decide), h8]; show nI t = nI (lx_t B L (lx_f B L p) (lx_k B L (lx_f B L p))); rw [← hT]
          · rw [up2_ni (by decide), up2_ni (by decide), up2_ni (by decide)]; exact h9
          · rw [up2_ni (by decide), up2_ni (by decide), up2_same]
            have e : tokN (lx B L p w) = if (lx_s p (lx_f B L p) (lx_k B L (lx_f B L p)) w) = true then 4 else 1 := by show (if (lx_k B L (lx_f B L p)) = 0 then 0 else if (lx_k B L (lx_f B L p)) = 1 then (if (lx_s p (lx_f B L p) (lx_k B L (lx_f B L p)) w) = true then 4 else 1) else _) = _; rw [if_neg (by omega), if_pos hk1]
            rw [e, cl_s (Or.inl hk1)]
            first
              | (have h7 : b2i (decide (w = true ∧ (lx_f B L p) = p)) = 0 := cq119; rw [b2i_0.mp h7]; rfl)
              | (have h7 : ¬ b2i (decide (w = true ∧ (lx_f B L p) = p)) = 0 := cq119; rw [b2i_1.mp h7]; rfl)
          · intro _; rw [up2_ni (by decide), up2_same]; rfl
          · intro q; exact absurd (hk1.symm.trans q) (by decide)
          · intro _; rw [up2_same]; show EnR (nI t) (lx_w (lx_k B L (lx_f B L p))) (lx_t B L (lx_f B L p) (lx_k B L (lx_f B L p))); rw [← hT]; exact EnR.word (Or.inl hk1)
          · intro j a b c e f; rw [up2_ni f, up2_ni e, up2_ni c]; exact hfr.1 j a b c e f
          · intro q hq; rw [up2_ne hq, up2_ne hq, up2_ne hq]; exact hfr.2 q hq
        · skip
          refine A_iconst ic_4 dX8_go_122 ?_
          refine A_goto 127 rfl dX8_go_123 ?_
          refine A_putI fr_X8_212 rfl lay_86 rfl rfl dX8_go_127 ?_
          refine A_aload_n rfl dX8_go_130 ?_
          refine A_aload_n rfl dX8_go_131 ?_
          refine A_getR fr_X8_26.g rfl lay_86 rfl dX8_go_132 ?_
          refine A_aload_n rfl dX8_go_135 ?_
          refine A_getI fr_X8_206.g rfl lay_86 dX8_go_136 ?_
          rw [up2_ni (show (9 : Nat) ≠ 10 by decide), h9]
          refine A_iald (lx_f B L p) rfl lay_91 (by omega) (by decide) dX8_go_139 ?_
          rw [up2_ne (show (91 : Nat) ≠ 86 by decide), hBK.2.1 (lx_f B L p) hfL]
          refine A_putI fr_X8_218 rfl lay_86 rfl rfl dX8_go_140 ?_
          refine A_aload_n rfl dX8_go_143 ?_
          refine A_aload_n rfl dX8_go_144 ?_
          refine A_getI fr_X8_203.g rfl lay_86 dX8_go_145 ?_
          rw [up2_ni (show (8 : Nat) ≠ 11 by decide), up2_ni (show (8 : Nat) ≠ 10 by decide), h8]
          refine A_putI fr_X8_209 rfl lay_86 rfl rfl dX8_go_148 ?_
          refine A_goto 303 rfl dX8_go_151 ?_
          refine A_vret rfl rfl rfl dX8_go_303 ?_
          refine ⟨rfl, rfl, ⟨?_, ?_, ?_, ?_, ?_, ?_⟩, ?_, ?_⟩
          · rw [up2_ni (by decide), up2_ni (by decide), up2_ni (by decide), h8]; show nI t = nI (lx_t B L (lx_f B L p) (lx_k B L (lx_f B L p))); rw [← hT]
          · rw [up2_ni (by decide), up2_ni (by decide), up2_ni (by decide)]; exact h9
          · rw [up2_ni (by decide), up2_ni (by decide), up2_same]
            have e : tokN (lx B L p w) = if (lx_s p (lx_f B L p) (lx_k B L (lx_f B L p)) w) = true then 4 else 1 := by show (if (lx_k B L (lx_f B L p)) = 0 then 0 else if (lx_k B L (lx_f B L p)) = 1 then (if (lx_s p (lx_f B L p) (lx_k B L (lx_f B L p)) w) = true then 4 else 1) else _) = _; rw [if_neg (by omega), if_pos hk1]
            rw [e, cl_s (Or.inl hk1)]
            first
              | (have h7 : b2i (decide (w = true ∧ (lx_f B L p) = p)) = 0 := cq119; rw [b2i_0.mp h7]; rfl)
              | (have h7 : ¬ b2i (decide (w = true ∧ (lx_f B L p) = p)) = 0 := cq119; rw [b2i_1.mp h7]; rfl)
          · intro _; rw [up2_ni (by decide), up2_same]; rfl
          · intro q; exact absurd (hk1.symm.trans q) (by decide)
          · intro _; rw [up2_same]; show EnR (nI t) (lx_w (lx_k B L (lx_f B L p))) (lx_t B L (lx_f B L p) (lx_k B L (lx_f B L p))); rw [← hT]; exact EnR.word (Or.inl hk1)
          · intro j a b c e f; rw [up2_ni f, up2_ni e, up2_ni c]; exact hfr.1 j a b c e f
          · intro q hq; rw [up2_ne hq, up2_ne hq, up2_ne hq]; exact hfr.2 q hq
      · skip
        have hlt : lx_k B L t = 1 := b2i_p.mp cq101
        have htL : t < L := by have h9 := (lx_kB (f := t) hB.2.2); omega
        have hso : lx_so (B t) = 1 := (lx_k_lt htL).symm.trans hlt
        refine A_aload_n rfl dX8_go_104 ?_
        refine A_dup rfl dX8_go_105 ?_
        refine A_getI fr_X8_203.g rfl lay_86 dX8_go_106 ?_
        rw [h8]
        refine A_iconst ic_1 dX8_go_109 ?_
        refine A_iadd dX8_go_110 ?_
        refine A_putI fr_X8_203 rfl lay_86 rfl rfl dX8_go_111 ?_
        refine A_goto 93 rfl dX8_go_114 ?_
        refine ih (L - (t + 1)) (by omega) (t + 1) _ rfl hk1 (by omega) (by omega) (by rw [← run_st htL hso]; exact hru) ?_ ?_ ⟨fun j a b c e f => ?_, fun q hq => ?_⟩
        · rw [up2_same, nI_1]
        · rw [up2_ni (by decide)]; exact h9
        · rw [up2_ni a]; exact hfr.1 j a b c e f
        · rw [up2_ne hq]; exact hfr.2 q hq
  have loopD : ∀ (lpn : Nat) (t : Nat) (K : Hp), L - t = lpn → ((lx_k B L (lx_f B L p)) = 2) → ((lx_f B L p) ≤ t) → (t ≤ L) → (lx_run B L 2 (L - t) t = lx_run B L 2 (L - (lx_f B L p)) (lx_f B L p)) → (K 86 8 = nI t) → (K 86 9 = nI (lx_f B L p)) → (t - (lx_f B L p) ≤ 4 → K 86 11 = lx_num B (lx_f B L p) (t - (lx_f B L p))) → ((∀ j, j ≠ 8 → j ≠ 9 → j ≠ 10 → j ≠ 11 → j ≠ 12 → K 86 j = I 86 j) ∧ ∀ q, q ≠ 86 → K q = I q) → AW l G yX8_go cX8_go 2 none 2 0 0 (fun r lay1 I1 => r = none ∧ lay1 = LAY ∧ TkM B I1 (lx B L p w) ∧ (∀ j, j ≠ 8 → j ≠ 9 → j ≠ 10 → j ≠ 11 → j ≠ 12 → I1 86 j = I 86 j) ∧ ∀ q, q ≠ 86 → I1 q = I q) 0 0 170 [some (.ref 86), some (.int (b2i (decide (w = true ∧ (lx_f B L p) = p))))] [] LAY K := by
    intro lpn
    induction lpn using Nat.strongRecOn with
    | _ lpn ih =>
      intro t K hms hk1 ht1 ht2 hru h8 h9 h11 hfr
      have hL := hB.2.2.1
      have hIx := lx_I.of (w := w) hB.2.2 hp
      have hf1 : (lx_f B L p) ≤ L := hIx.1
      have hpf : p ≤ (lx_f B L p) := (sk_ge B L (L - p) p).1
      have hBK : TpM B L K := hB.fr (hfr.1 7 (by decide) (by decide) (by decide) (by decide) (by decide)) (hfr.2 91 (by decide))
      have hfL : (lx_f B L p) < L := by have h9 := (lx_kB (f := (lx_f B L p)) hB.2.2); omega
      refine A_aload_n rfl dX8_go_170 ?_
      refine A_aload_n rfl dX8_go_171 ?_
      refine A_getI fr_X8_203.g rfl lay_86 dX8_go_172 ?_
      rw [h8]
      refine A_callV (t_fig l G K B L hBK t (by omega)) m_X8_isFigure ml_X8_221 rfl lay_86 rfl (by decide) rfl rfl (Nat.le_of_ble_eq_true rfl) (by decide) (by decide) (by decide) dX8_go_175 (fun _ _ _ h => congrArg List.length h.2.1) ?_
      rintro _ _ _ ⟨rfl, rfl, e9⟩
      refine AW_I e9 ?_
      clear e9
      refine A_if_eq 238 rfl dX8_go_178 (fun cq178 => ?_) (fun cq178 => ?_)
      · skip
        have hT : t = (lx_t B L (lx_f B L p) (lx_k B L (lx_f B L p))) := by
          unfold lx_t
          rw [if_neg (by omega), if_neg (by omega), hk1, ← run_st hfL ((lx_k_lt hfL).symm.trans hk1), ← hru, run_no]
          rintro ⟨z1, z2⟩
          exact b2i_q.mp cq178 ((lx_k_lt z1).trans z2)
        refine A_aload_n rfl dX8_go_238 ?_
        refine A_iload_n rfl dX8_go_239 ?_
        refine A_if_ne 256 rfl dX8_go_240 (fun cq240 => ?_) (fun cq240 => ?_)
        · skip
          refine A_iconst ic_4 dX8_go_256 ?_
          refine A_goto 261 rfl dX8_go_257 ?_
          refine A_putI fr_X8_212 rfl lay_86 rfl rfl dX8_go_261 ?_
          refine A_aload_n rfl dX8_go_264 ?_
          refine A_aload_n rfl dX8_go_265 ?_
          refine A_getI fr_X8_203.g rfl lay_86 dX8_go_266 ?_
          rw [up2_ni (show (8 : Nat) ≠ 10 by decide), h8]
          refine A_putI fr_X8_209 rfl lay_86 rfl rfl dX8_go_269 ?_
          refine A_goto 303 rfl dX8_go_272 ?_
          refine A_vret rfl rfl rfl dX8_go_303 ?_
          refine ⟨rfl, rfl, ⟨?_, ?_, ?_, ?_, ?_, ?_⟩, ?_, ?_⟩
          · rw [up2_ni (by decide), up2_ni (by decide), h8]; show nI t = nI (lx_t B L (lx_f B L p) (lx_k B L (lx_f B L p))); rw [← hT]
          · rw [up2_ni (by decide), up2_ni (by decide)]; exact h9
          · rw [up2_ni (by decide), up2_same]
            have e : tokN (lx B L p w) = if (lx_s p (lx_f B L p) (lx_k B L (lx_f B L p)) w) = true ∨ 4 < (lx_t B L (lx_f B L p) (lx_k B L (lx_f B L p))) - (lx_f B L p) then 4 else 2 := by show (if (lx_k B L (lx_f B L p)) = 0 then 0 else if (lx_k B L (lx_f B L p)) = 1 then _ else if (lx_k B L (lx_f B L p)) = 2 then (if (lx_s p (lx_f B L p) (lx_k B L (lx_f B L p)) w) = true ∨ 4 < (lx_t B L (lx_f B L p) (lx_k B L (lx_f B L p))) - (lx_f B L p) then 4 else 2) else _) = _; rw [if_neg (by omega), if_neg (by omega), if_pos hk1]
            rw [e, cl_s (Or.inr hk1), ← hT]
            first
              | (have h7 : ¬ b2i (decide (w = true ∧ (lx_f B L p) = p)) = 0 := cq240; rw [if_pos (Or.inl (b2i_1.mp h7))]; rfl)
              | (have h7 : nI (t - (lx_f B L p)) ≤ 4 := cq253; have h6 : b2i (decide (w = true ∧ (lx_f B L p) = p)) = 0 := cq240; have h5 := (le_nI (rfl : nI (t - (lx_f B L p)) = nI (t - (lx_f B L p))) (show (4 : Int32) = nI 4 from rfl) (by omega) (by omega)).mp h7; rw [if_neg (fun q => q.elim (fun q1 => by rw [b2i_0.mp h6] at q1; cases q1) (fun q1 => by omega))]; rfl)
              | (have h7 : ¬ nI (t - (lx_f B L p)) ≤ 4 := cq253; have h5 := mt (le_nI (rfl : nI (t - (lx_f B L p)) = nI (t - (lx_f B L p))) (show (4 : Int32) = nI 4 from rfl) (by omega) (by omega)).mpr h7; rw [if_pos (Or.inr (by omega))]; rfl)
          · intro q; exact absurd hk1 (by have q : (lx_k B L (lx_f B L p)) = 1 ∨ (lx_k B L (lx_f B L p)) = 3 := q; omega)
          · intro _ h4; rw [up2_ni (by decide), up2_ni (by decide)]; have h4 : (lx_t B L (lx_f B L p) (lx_k B L (lx_f B L p))) - (lx_f B L p) ≤ 4 := h4; show _ = lx_num B (lx_f B L p) ((lx_t B L (lx_f B L p) (lx_k B L (lx_f B L p))) - (lx_f B L p)); rw [← hT] at h4 ⊢; exact h11 h4
          · intro _; rw [up2_same]; show EnR (nI t) (lx_w (lx_k B L (lx_f B L p))) (lx_t B L (lx_f B L p) (lx_k B L (lx_f B L p))); rw [← hT]; exact EnR.word (Or.inr hk1)
          · intro j a b c e f; rw [up2_ni f, up2_ni c]; exact hfr.1 j a b c e f
          · intro q hq; rw [up2_ne hq, up2_ne hq]; exact hfr.2 q hq
        · skip
          refine A_aload_n rfl dX8_go_243 ?_
          refine A_getI fr_X8_203.g rfl lay_86 dX8_go_244 ?_
          rw [h8]
          refine A_aload_n rfl dX8_go_247 ?_
          refine A_getI fr_X8_206.g rfl lay_86 dX8_go_248 ?_
          rw [h9]
          refine A_isub dX8_go_251 ?_
          rw [sub_nI ht1]
          refine A_iconst ic_4 dX8_go_252 ?_
          refine A_icmp_le 260 rfl dX8_go_253 (fun cq253 => ?_) (fun cq253 => ?_)
          · skip
            refine A_iconst ic_2 dX8_go_260 ?_
            refine A_putI fr_X8_212 rfl lay_86 rfl rfl dX8_go_261 ?_
            refine A_aload_n rfl dX8_go_264 ?_
            refine A_aload_n rfl dX8_go_265 ?_
            refine A_getI fr_X8_203.g rfl lay_86 dX8_go_266 ?_
            rw [up2_ni (show (8 : Nat) ≠ 10 by decide), h8]
            refine A_putI fr_X8_209 rfl lay_86 rfl rfl dX8_go_269 ?_
            refine A_goto 303 rfl dX8_go_272 ?_
            refine A_vret rfl rfl rfl dX8_go_303 ?_
            refine ⟨rfl, rfl, ⟨?_, ?_, ?_, ?_, ?_, ?_⟩, ?_, ?_⟩
            · rw [up2_ni (by decide), up2_ni (by decide), h8]; show nI t = nI (lx_t B L (lx_f B L p) (lx_k B L (lx_f B L p))); rw [← hT]
            · rw [up2_ni (by decide), up2_ni (by decide)]; exact h9
            · rw [up2_ni (by decide), up2_same]
              have e : tokN (lx B L p w) = if (lx_s p (lx_f B L p) (lx_k B L (lx_f B L p)) w) = true ∨ 4 < (lx_t B L (lx_f B L p) (lx_k B L (lx_f B L p))) - (lx_f B L p) then 4 else 2 := by show (if (lx_k B L (lx_f B L p)) = 0 then 0 else if (lx_k B L (lx_f B L p)) = 1 then _ else if (lx_k B L (lx_f B L p)) = 2 then (if (lx_s p (lx_f B L p) (lx_k B L (lx_f B L p)) w) = true ∨ 4 < (lx_t B L (lx_f B L p) (lx_k B L (lx_f B L p))) - (lx_f B L p) then 4 else 2) else _) = _; rw [if_neg (by omega), if_neg (by omega), if_pos hk1]
              rw [e, cl_s (Or.inr hk1), ← hT]
              first
                | (have h7 : ¬ b2i (decide (w = true ∧ (lx_f B L p) = p)) = 0 := cq240; rw [if_pos (Or.inl (b2i_1.mp h7))]; rfl)
                | (have h7 : nI (t - (lx_f B L p)) ≤ 4 := cq253; have h6 : b2i (decide (w = true ∧ (lx_f B L p) = p)) = 0 := cq240; have h5 := (le_nI (rfl : nI (t - (lx_f B L p)) = nI (t - (lx_f B L p))) (show (4 : Int32) = nI 4 from rfl) (by omega) (by omega)).mp h7; rw [if_neg (fun q => q.elim (fun q1 => by rw [b2i_0.mp h6] at q1; cases q1) (fun q1 => by omega))]; rfl)
                | (have h7 : ¬ nI (t - (lx_f B L p)) ≤ 4 := cq253; have h5 := mt (le_nI (rfl : nI (t - (lx_f B L p)) = nI (t - (lx_f B L p))) (show (4 : Int32) = nI 4 from rfl) (by omega) (by omega)).mpr h7; rw [if_pos (Or.inr (by omega))]; rfl)
            · intro q; exact absurd hk1 (by have q : (lx_k B L (lx_f B L p)) = 1 ∨ (lx_k B L (lx_f B L p)) = 3 := q; omega)
            · intro _ h4; rw [up2_ni (by decide), up2_ni (by decide)]; have h4 : (lx_t B L (lx_f B L p) (lx_k B L (lx_f B L p))) - (lx_f B L p) ≤ 4 := h4; show _ = lx_num B (lx_f B L p) ((lx_t B L (lx_f B L p) (lx_k B L (lx_f B L p))) - (lx_f B L p)); rw [← hT] at h4 ⊢; exact h11 h4
            · intro _; rw [up2_same]; show EnR (nI t) (lx_w (lx_k B L (lx_f B L p))) (lx_t B L (lx_f B L p) (lx_k B L (lx_f B L p))); rw [← hT]; exact EnR.word (Or.inr hk1)
            · intro j a b c e f; rw [up2_ni f, up2_ni c]; exact hfr.1 j a b c e f
            · intro q hq; rw [up2_ne hq, up2_ne hq]; exact hfr.2 q hq
          · skip
            refine A_iconst ic_4 dX8_go_256 ?_
            refine A_goto 261 rfl dX8_go_257 ?_
            refine A_putI fr_X8_212 rfl lay_86 rfl rfl dX8_go_261 ?_
            refine A_aload_n rfl dX8_go_264 ?_
            refine A_aload_n rfl dX8_go_265 ?_
            refine A_getI fr_X8_203.g rfl lay_86 dX8_go_266 ?_
            rw [up2_ni (show (8 : Nat) ≠ 10 by decide), h8]
            refine A_putI fr_X8_209 rfl lay_86 rfl rfl dX8_go_269 ?_
            refine A_goto 303 rfl dX8_go_272 ?_
            refine A_vret rfl rfl rfl dX8_go_303 ?_
            refine ⟨rfl, rfl, ⟨?_, ?_, ?_, ?_, ?_, ?_⟩, ?_, ?_⟩
            · rw [up2_ni (by decide), up2_ni (by decide), h8]; show nI t = nI (lx_t B L (lx_f B L p) (lx_k B L (lx_f B L p))); rw [← hT]
            · rw [up2_ni (by decide), up2_ni (by decide)]; exact h9
            · rw [up2_ni (by decide), up2_same]
              have e : tokN (lx B L p w) = if (lx_s p (lx_f B L p) (lx_k B L (lx_f B L p)) w) = true ∨ 4 < (lx_t B L (lx_f B L p) (lx_k B L (lx_f B L p))) - (lx_f B L p) then 4 else 2 := by show (if (lx_k B L (lx_f B L p)) = 0 then 0 else if (lx_k B L (lx_f B L p)) = 1 then _ else if (lx_k B L (lx_f B L p)) = 2 then (if (lx_s p (lx_f B L p) (lx_k B L (lx_f B L p)) w) = true ∨ 4 < (lx_t B L (lx_f B L p) (lx_k B L (lx_f B L p))) - (lx_f B L p) then 4 else 2) else _) = _; rw [if_neg (by omega), if_neg (by omega), if_pos hk1]
              rw [e, cl_s (Or.inr hk1), ← hT]
              first
                | (have h7 : ¬ b2i (decide (w = true ∧ (lx_f B L p) = p)) = 0 := cq240; rw [if_pos (Or.inl (b2i_1.mp h7))]; rfl)
                | (have h7 : nI (t - (lx_f B L p)) ≤ 4 := cq253; have h6 : b2i (decide (w = true ∧ (lx_f B L p) = p)) = 0 := cq240; have h5 := (le_nI (rfl : nI (t - (lx_f B L p)) = nI (t - (lx_f B L p))) (show (4 : Int32) = nI 4 from rfl) (by omega) (by omega)).mp h7; rw [if_neg (fun q => q.elim (fun q1 => by rw [b2i_0.mp h6] at q1; cases q1) (fun q1 => by omega))]; rfl)
                | (have h7 : ¬ nI (t - (lx_f B L p)) ≤ 4 := cq253; have h5 := mt (le_nI (rfl : nI (t - (lx_f B L p)) = nI (t - (lx_f B L p))) (show (4 : Int32) = nI 4 from rfl) (by omega) (by omega)).mpr h7; rw [if_pos (Or.inr (by omega))]; rfl)
            · intro q; exact absurd hk1 (by have q : (lx_k B L (lx_f B L p)) = 1 ∨ (lx_k B L (lx_f B L p)) = 3 := q; omega)
            · intro _ h4; rw [up2_ni (by decide), up2_ni (by decide)]; have h4 : (lx_t B L (lx_f B L p) (lx_k B L (lx_f B L p))) - (lx_f B L p) ≤ 4 := h4; show _ = lx_num B (lx_f B L p) ((lx_t B L (lx_f B L p) (lx_k B L (lx_f B L p))) - (lx_f B L p)); rw [← hT] at h4 ⊢; exact h11 h4
            · intro _; rw [up2_same]; show EnR (nI t) (lx_w (lx_k B L (lx_f B L p))) (lx_t B L (lx_f B L p) (lx_k B L (lx_f B L p))); rw [← hT]; exact EnR.word (Or.inr hk1)
            · intro j a b c e f; rw [up2_ni f, up2_ni c]; exact hfr.1 j a b c e f
            · intro q hq; rw [up2_ne hq, up2_ne hq]; exact hfr.2 q hq
      · skip
        have hlt : lx_k B L t = 2 := b2i_p.mp cq178
        have htL : t < L := by have h9 := (lx_kB (f := t) hB.2.2); omega
        have hso : lx_so (B t) = 2 := (lx_k_lt htL).symm.trans hlt
        refine A_aload_n rfl dX8_go_181 ?_
        refine A_aload_n rfl dX8_go_182 ?_
        refine A_getI fr_X8_203.g rfl lay_86 dX8_go_183 ?_
        rw [h8]
        refine A_aload_n rfl dX8_go_186 ?_
        refine A_getI fr_X8_206.g rfl lay_86 dX8_go_187 ?_
        rw [h9]
        refine A_isub dX8_go_190 ?_
        rw [sub_nI ht1]
        refine A_iconst ic_4 dX8_go_191 ?_
        refine A_icmp_ge 218 rfl dX8_go_192 (fun cq192 => ?_) (fun cq192 => ?_)
        · skip
          refine A_aload_n rfl dX8_go_218 ?_
          refine A_getI fr_X8_218.g rfl lay_86 dX8_go_219 ?_
          refine A_putI fr_X8_218 rfl lay_86 rfl rfl dX8_go_222 ?_
          refine A_aload_n rfl dX8_go_225 ?_
          refine A_dup rfl dX8_go_226 ?_
          refine A_getI fr_X8_203.g rfl lay_86 dX8_go_227 ?_
          rw [up2_ni (show (8 : Nat) ≠ 11 by decide), h8]
          refine A_iconst ic_1 dX8_go_230 ?_
          refine A_iadd dX8_go_231 ?_
          refine A_putI fr_X8_203 rfl lay_86 rfl rfl dX8_go_232 ?_
          refine A_goto 170 rfl dX8_go_235 ?_
          refine ih (L - (t + 1)) (by omega) (t + 1) _ rfl hk1 (by omega) (by omega) (by rw [← run_st htL hso]; exact hru) ?_ ?_ ?_ ⟨fun j a b c e f => ?_, fun q hq => ?_⟩
          · rw [up2_same, nI_1]
          · rw [up2_ni (by decide), up2_ni (by decide)]; exact h9
          · intro h5
            rw [up2_ni (by decide), up2_same]
            first
              | (have h7 : (4 : Int32) ≤ nI (t - (lx_f B L p)) := cq192; have h8 := (le_nI (show (4 : Int32) = nI 4 from rfl) (rfl : nI (t - (lx_f B L p)) = nI (t - (lx_f B L p))) (by omega) (by omega)).mp h7; omega)
              | (rw [show t + 1 - (lx_f B L p) = (t - (lx_f B L p)) + 1 by omega, lx_num, show (lx_f B L p) + (t - (lx_f B L p)) = t by omega, Int32.mul_comm])
          · rw [up2_ni a, up2_ni e]; exact hfr.1 j a b c e f
          · rw [up2_ne hq, up2_ne hq]; exact hfr.2 q hq
        · skip
          have h4 : t - (lx_f B L p) < 4 := by
            have hq1 := mt (le_nI (show (4 : Int32) = nI 4 from rfl) (rfl : nI (t - (lx_f B L p)) = nI (t - (lx_f B L p))) (by omega) (by omega)).mpr cq192
            omega
          refine A_bipush bp_10 dX8_go_195 ?_
          refine A_aload_n rfl dX8_go_197 ?_
          refine A_getI fr_X8_218.g rfl lay_86 dX8_go_198 ?_
          rw [h11 (by omega)]
          refine A_imul dX8_go_201 ?_
          refine A_aload_n rfl dX8_go_202 ?_
          refine A_getR fr_X8_26.g rfl lay_86 rfl dX8_go_203 ?_
          refine A_aload_n rfl dX8_go_206 ?_
          refine A_getI fr_X8_203.g rfl lay_86 dX8_go_207 ?_
          rw [h8]
          refine A_iald t rfl lay_91 (by omega) (by decide) dX8_go_210 ?_
          rw [hBK.2.1 t htL]
          refine A_iadd dX8_go_211 ?_
          refine A_bipush bp_48 dX8_go_212 ?_
          refine A_isub dX8_go_214 ?_
          refine A_goto 222 rfl dX8_go_215 ?_
          refine A_putI fr_X8_218 rfl lay_86 rfl rfl dX8_go_222 ?_
          refine A_aload_n rfl dX8_go_225 ?_
          refine A_dup rfl dX8_go_226 ?_
          refine A_getI fr_X8_203.g rfl lay_86 dX8_go_227 ?_
          rw [up2_ni (show (8 : Nat) ≠ 11 by decide), h8]
          refine A_iconst ic_1 dX8_go_230 ?_
          refine A_iadd dX8_go_231 ?_
          refine A_putI fr_X8_203 rfl lay_86 rfl rfl dX8_go_232 ?_
          refine A_goto 170 rfl dX8_go_235 ?_
          refine ih (L - (t + 1)) (by omega) (t + 1) _ rfl hk1 (by omega) (by omega) (by rw [← run_st htL hso]; exact hru) ?_ ?_ ?_ ⟨fun j a b c e f => ?_, fun q hq => ?_⟩
          · rw [up2_same, nI_1]
          · rw [up2_ni (by decide), up2_ni (by decide)]; exact h9
          · intro h5
            rw [up2_ni (by decide), up2_same]
            first
              | (have h7 : (4 : Int32) ≤ nI (t - (lx_f B L p)) := cq192; have h8 := (le_nI (show (4 : Int32) = nI 4 from rfl) (rfl : nI (t - (lx_f B L p)) = nI (t - (lx_f B L p))) (by omega) (by omega)).mp h7; omega)
              | (rw [show t + 1 - (lx_f B L p) = (t - (lx_f B L p)) + 1 by omega, lx_num, show (lx_f B L p) + (t - (lx_f B L p)) = t by omega, Int32.mul_comm])
          · rw [up2_ni a, up2_ni e]; exact hfr.1 j a b c e f
          · rw [up2_ne hq, up2_ne hq]; exact hfr.2 q hq
  have j63 : ∀ (lpn : Nat) (z : Nat) (K : Hp), z = lpn → (K 86 8 = nI (lx_f B L p)) → (K 86 9 = nI (lx_f B L p)) → ((∀ j, j ≠ 8 → j ≠ 9 → K 86 j = I 86 j) ∧ ∀ q, q ≠ 86 → K q = I q) → AW l G yX8_go cX8_go 2 none 2 0 0 (fun r lay1 I1 => r = none ∧ lay1 = LAY ∧ TkM B I1 (lx B L p w) ∧ (∀ j, j ≠ 8 → j ≠ 9 → j ≠ 10 → j ≠ 11 → j ≠ 12 → I1 86 j = I 86 j) ∧ ∀ q, q ≠ 86 → I1 q = I q) 0 0 63 [some (.ref 86), some (.int (b2i (decide (w = true ∧ (lx_f B L p) = p))))] [] LAY K := by
    intro lpn
    induction lpn using Nat.strongRecOn with
    | _ lpn ih =>
      intro z K hms h8 h9 hfr
      have hL := hB.2.2.1
      have hIx := lx_I.of (w := w) hB.2.2 hp
      have hf1 : (lx_f B L p) ≤ L := hIx.1
      have hpf : p ≤ (lx_f B L p) := (sk_ge B L (L - p) p).1
      have hBK : TpM B L K := hB.fr (hfr.1 7 (by decide) (by decide)) (hfr.2 91 (by decide))
      have h12 : K 86 12 = I 86 12 := hfr.1 12 (by decide) (by decide)
      refine A_aload_n rfl dX8_go_63 ?_
      refine A_getI fr_X8_206.g rfl lay_86 dX8_go_64 ?_
      refine A_aload_n rfl dX8_go_67 ?_
      refine A_getI fr_X8_200.g rfl lay_86 dX8_go_68 ?_
      rw [h9, hBK.1]
      refine A_icmp_ne 82 rfl dX8_go_71 (fun cq71 => ?_) (fun cq71 => ?_)
      · skip
        have hfL : (lx_f B L p) < L := by
          have h7 : ¬ (lx_f B L p) = L := fun q => cq71 (by rw [q])
          omega
        have hk0 : (lx_k B L (lx_f B L p)) ≠ 0 := by have h9 := (lx_kB (f := (lx_f B L p)) hB.2.2); omega
        refine A_aload_n rfl dX8_go_82 ?_
        refine A_aload_n rfl dX8_go_83 ?_
        refine A_getI fr_X8_206.g rfl lay_86 dX8_go_84 ?_
        rw [h9]
        refine A_callV (t_let l G K B L hBK (lx_f B L p) (by omega)) m_X8_isLetter ml_X8_215 rfl lay_86 rfl (by decide) rfl rfl (Nat.le_of_ble_eq_true rfl) (by decide) (by decide) (by decide) dX8_go_87 (fun _ _ _ h => congrArg List.length h.2.1) ?_
        rintro _ _ _ ⟨rfl, rfl, e9⟩
        refine AW_I e9 ?_
        clear e9
        refine A_if_eq 154 rfl dX8_go_90 (fun cq90 => ?_) (fun cq90 => ?_)
        · skip
          refine A_aload_n rfl dX8_go_154 ?_
          refine A_aload_n rfl dX8_go_155 ?_
          refine A_getI fr_X8_206.g rfl lay_86 dX8_go_156 ?_
          rw [h9]
          refine A_callV (t_fig l G K B L hBK (lx_f B L p) (by omega)) m_X8_isFigure ml_X8_221 rfl lay_86 rfl (by decide) rfl rfl (Nat.le_of_ble_eq_true rfl) (by decide) (by decide) (by decide) dX8_go_159 (fun _ _ _ h => congrArg List.length h.2.1) ?_
          rintro _ _ _ ⟨rfl, rfl, e9⟩
          refine AW_I e9 ?_
          clear e9
          refine A_if_eq 275 rfl dX8_go_162 (fun cq162 => ?_) (fun cq162 => ?_)
          · skip
            have hk3 : (lx_k B L (lx_f B L p)) = 3 := by
              have q1 : (lx_k B L (lx_f B L p)) ≠ 1 := b2i_q.mp cq90
              have q2 : (lx_k B L (lx_f B L p)) ≠ 2 := b2i_q.mp cq162
              have q3 : (lx_k B L (lx_f B L p)) ≤ 3 := so_3 _
              omega
            refine A_aload_n rfl dX8_go_275 ?_
            refine A_iconst ic_3 dX8_go_276 ?_
            refine A_putI fr_X8_212 rfl lay_86 rfl rfl dX8_go_277 ?_
            refine A_aload_n rfl dX8_go_280 ?_
            refine A_aload_n rfl dX8_go_281 ?_
            refine A_getR fr_X8_26.g rfl lay_86 rfl dX8_go_282 ?_
            refine A_aload_n rfl dX8_go_285 ?_
            refine A_getI fr_X8_206.g rfl lay_86 dX8_go_286 ?_
            rw [up2_ni (show (9 : Nat) ≠ 10 by decide), h9]
            refine A_iald (lx_f B L p) rfl lay_91 (by omega) (by decide) dX8_go_289 ?_
            rw [up2_ne (show (91 : Nat) ≠ 86 by decide), hBK.2.1 (lx_f B L p) hfL]
            refine A_putI fr_X8_218 rfl lay_86 rfl rfl dX8_go_290 ?_
            refine A_aload_n rfl dX8_go_293 ?_
            refine A_dup rfl dX8_go_294 ?_
            refine A_getI fr_X8_203.g rfl lay_86 dX8_go_295 ?_
            rw [up2_ni (show (8 : Nat) ≠ 11 by decide), up2_ni (show (8 : Nat) ≠ 10 by decide), h8]
            refine A_iconst ic_1 dX8_go_298 ?_
            refine A_iadd dX8_go_299 ?_
            rw [nI_1]
            refine A_putI fr_X8_203 rfl lay_86 rfl rfl dX8_go_300 ?_
            refine A_vret rfl rfl rfl dX8_go_303 ?_
            first
              | (have h7 : nI (lx_f B L p) = nI L := cq71
                 have hk0 : (lx_k B L (lx_f B L p)) = 0 := (lx_kB hB.2.2).mpr (Nat.le_of_eq ((nI_eq (by omega) (by omega)).mp h7).symm)
                 refine ⟨rfl, rfl, ⟨?_, ?_, ?_, ?_, ?_, ?_⟩, ?_, ?_⟩
                 · rw [up2_ni (by decide), h8]; show nI (lx_f B L p) = nI (lx_t B L (lx_f B L p) (lx_k B L (lx_f B L p))); unfold lx_t; rw [if_pos hk0]
                 · rw [up2_ni (by decide)]; exact h9
                 · rw [up2_same]; show (0 : Int32) = nI (if (lx_k B L (lx_f B L p)) = 0 then 0 else _); rw [if_pos hk0]; rfl
                 · intro q; exact absurd hk0 (by have q : (lx_k B L (lx_f B L p)) = 1 ∨ (lx_k B L (lx_f B L p)) = 3 := q; omega)
                 · intro q; exact absurd hk0 (by have q : (lx_k B L (lx_f B L p)) = 2 := q; omega)
                 · intro q; exact absurd hk0 q
                 · intro j a b c e f; rw [up2_ni c]; exact hfr.1 j a b
                 · intro q hq; rw [up2_ne hq]; exact hfr.2 q hq)
              | (refine ⟨rfl, rfl, ⟨?_, ?_, ?_, ?_, ?_, ?_⟩, ?_, ?_⟩
                 · rw [up2_same]; show nI ((lx_f B L p) + 1) = nI (lx_t B L (lx_f B L p) (lx_k B L (lx_f B L p))); unfold lx_t; rw [if_neg hk0, if_pos hk3]
                 · rw [up2_ni (by decide), up2_ni (by decide), up2_ni (by decide)]; exact h9
                 · rw [up2_ni (by decide), up2_ni (by decide), up2_same]; show (3 : Int32) = nI (if (lx_k B L (lx_f B L p)) = 0 then 0 else if (lx_k B L (lx_f B L p)) = 1 then _ else if (lx_k B L (lx_f B L p)) = 2 then _ else 3); rw [if_neg hk0, if_neg (by omega), if_neg (by omega)]; rfl
                 · intro _; rw [up2_ni (by decide), up2_same]; rfl
                 · intro q; exact absurd hk3 (by have q : (lx_k B L (lx_f B L p)) = 2 := q; omega)
                 · intro _; rw [up2_ni (by decide), up2_ni (by decide), up2_ni (by decide), h12]; show EnR (I 86 12) (lx_w (lx_k B L (lx_f B L p))) (lx_t B L (lx_f B L p) (lx_k B L (lx_f B L p))); unfold lx_t; rw [if_neg hk0, if_pos hk3, hk3]; exact hEn.sign hpf (by omega)
                 · intro j a b c e f; rw [up2_ni a, up2_ni e, up2_ni c]; exact hfr.1 j a b
                 · intro q hq; rw [up2_ne hq, up2_ne hq, up2_ne hq]; exact hfr.2 q hq)
          · skip
            refine A_aload_n rfl dX8_go_165 ?_
            refine A_iconst ic_0 dX8_go_166 ?_
            refine A_putI fr_X8_218 rfl lay_86 rfl rfl dX8_go_167 ?_
            refine loopD _ (lx_f B L p) _ rfl (b2i_p.mp cq162) (Nat.le_refl _) hf1 rfl ?_ ?_ ?_ ⟨fun j a b c e f => ?_, fun q hq => ?_⟩
            · rw [up2_ni (by decide)]; exact h8
            · rw [up2_ni (by decide)]; exact h9
            · intro _; rw [up2_same, Nat.sub_self]; rfl
            · rw [up2_ni e]; exact hfr.1 j a b
            · rw [up2_ne hq]; exact hfr.2 q hq
        · skip
          exact loopL _ (lx_f B L p) K rfl (b2i_p.mp cq90) (Nat.le_refl _) hf1 rfl h8 h9 ⟨fun j a b _ _ _ => hfr.1 j a b, hfr.2⟩
      · skip
        refine A_aload_n rfl dX8_go_74 ?_
        refine A_iconst ic_0 dX8_go_75 ?_
        refine A_putI fr_X8_212 rfl lay_86 rfl rfl dX8_go_76 ?_
        refine A_goto 303 rfl dX8_go_79 ?_
        refine A_vret rfl rfl rfl dX8_go_303 ?_
        first
          | (have h7 : nI (lx_f B L p) = nI L := cq71
             have hk0 : (lx_k B L (lx_f B L p)) = 0 := (lx_kB hB.2.2).mpr (Nat.le_of_eq ((nI_eq (by omega) (by omega)).mp h7).symm)
             refine ⟨rfl, rfl, ⟨?_, ?_, ?_, ?_, ?_, ?_⟩, ?_, ?_⟩
             · rw [up2_ni (by decide), h8]; show nI (lx_f B L p) = nI (lx_t B L (lx_f B L p) (lx_k B L (lx_f B L p))); unfold lx_t; rw [if_pos hk0]
             · rw [up2_ni (by decide)]; exact h9
             · rw [up2_same]; show (0 : Int32) = nI (if (lx_k B L (lx_f B L p)) = 0 then 0 else _); rw [if_pos hk0]; rfl
             · intro q; exact absurd hk0 (by have q : (lx_k B L (lx_f B L p)) = 1 ∨ (lx_k B L (lx_f B L p)) = 3 := q; omega)
             · intro q; exact absurd hk0 (by have q : (lx_k B L (lx_f B L p)) = 2 := q; omega)
             · intro q; exact absurd hk0 q
             · intro j a b c e f; rw [up2_ni c]; exact hfr.1 j a b
             · intro q hq; rw [up2_ne hq]; exact hfr.2 q hq)
          | (refine ⟨rfl, rfl, ⟨?_, ?_, ?_, ?_, ?_, ?_⟩, ?_, ?_⟩
             · rw [up2_same]; show nI ((lx_f B L p) + 1) = nI (lx_t B L (lx_f B L p) (lx_k B L (lx_f B L p))); unfold lx_t; rw [if_neg hk0, if_pos hk3]
             · rw [up2_ni (by decide), up2_ni (by decide), up2_ni (by decide)]; exact h9
             · rw [up2_ni (by decide), up2_ni (by decide), up2_same]; show (3 : Int32) = nI (if (lx_k B L (lx_f B L p)) = 0 then 0 else if (lx_k B L (lx_f B L p)) = 1 then _ else if (lx_k B L (lx_f B L p)) = 2 then _ else 3); rw [if_neg hk0, if_neg (by omega), if_neg (by omega)]; rfl
             · intro _; rw [up2_ni (by decide), up2_same]; rfl
             · intro q; exact absurd hk3 (by have q : (lx_k B L (lx_f B L p)) = 2 := q; omega)
             · intro _; rw [up2_ni (by decide), up2_ni (by decide), up2_ni (by decide), h12]; show EnR (I 86 12) (lx_w (lx_k B L (lx_f B L p))) (lx_t B L (lx_f B L p) (lx_k B L (lx_f B L p))); unfold lx_t; rw [if_neg hk0, if_pos hk3, hk3]; exact hEn.sign hpf (by omega)
             · intro j a b c e f; rw [up2_ni a, up2_ni e, up2_ni c]; exact hfr.1 j a b
             · intro q hq; rw [up2_ne hq, up2_ne hq, up2_ne hq]; exact hfr.2 q hq)
  have loop0 : ∀ (lpn : Nat) (t : Nat) (K : Hp), L - t = lpn → (p ≤ t) → (t ≤ L) → (lx_f B L t = (lx_f B L p)) → (K 86 8 = nI t) → ((∀ j, j ≠ 8 → K 86 j = I 86 j) ∧ ∀ q, q ≠ 86 → K q = I q) → AW l G yX8_go cX8_go 2 none 2 0 0 (fun r lay1 I1 => r = none ∧ lay1 = LAY ∧ TkM B I1 (lx B L p w) ∧ (∀ j, j ≠ 8 → j ≠ 9 → j ≠ 10 → j ≠ 11 → j ≠ 12 → I1 86 j = I 86 j) ∧ ∀ q, q ≠ 86 → I1 q = I q) 0 0 0 [some (.ref 86), none] [] LAY K := by
    intro lpn
    induction lpn using Nat.strongRecOn with
    | _ lpn ih =>
      intro t K hms ht1 ht2 hff h8 hfr
      have hL := hB.2.2.1
      have hIx := lx_I.of (w := w) hB.2.2 hp
      have hf1 : (lx_f B L p) ≤ L := hIx.1
      have hpf : p ≤ (lx_f B L p) := (sk_ge B L (L - p) p).1
      have hBK : TpM B L K := hB.fr (hfr.1 7 (by decide)) (hfr.2 91 (by decide))
      have h12 : K 86 12 = I 86 12 := hfr.1 12 (by decide)
      refine A_aload_n rfl dX8_go_0 ?_
      refine A_getI fr_X8_203.g rfl lay_86 dX8_go_1 ?_
      refine A_aload_n rfl dX8_go_4 ?_
      refine A_getI fr_X8_200.g rfl lay_86 dX8_go_5 ?_
      rw [h8, hBK.1]
      refine A_icmp_ge 38 rfl dX8_go_8 (fun cq8 => ?_) (fun cq8 => ?_)
      · skip
        have hno : ¬ (t < L ∧ B t = 32) := by
          rintro ⟨z1, z2⟩
          first
            | (have h7 : nI L ≤ nI t := cq8; have h6 := (le_nI (rfl : nI L = nI L) (rfl : nI t = nI t) (by omega) (by omega)).mp h7; omega)
            | exact cq22 z2
        have hte : t = (lx_f B L p) := by rw [← hff, sk_no hno]
        rw [hte] at h8
        refine A_aload_n rfl dX8_go_38 ?_
        refine A_aload_n rfl dX8_go_39 ?_
        refine A_getI fr_X8_203.g rfl lay_86 dX8_go_40 ?_
        rw [h8]
        refine A_putI fr_X8_206 rfl lay_86 rfl rfl dX8_go_43 ?_
        refine A_aload_n rfl dX8_go_46 ?_
        refine A_getI fr_X8_206.g rfl lay_86 dX8_go_47 ?_
        refine A_aload_n rfl dX8_go_50 ?_
        refine A_getI fr_X8_209.g rfl lay_86 dX8_go_51 ?_
        rw [up2_same, up2_ni (show (12 : Nat) ≠ 9 by decide), h12]
        refine A_icmp_ne 61 rfl dX8_go_54 (fun cq54 => ?_) (fun cq54 => ?_)
        · skip
          refine A_iconst ic_0 dX8_go_61 ?_
          refine A_istore_n (by decide) rfl dX8_go_62 ?_
          have hat := hEn.at (f := (lx_f B L p)) hpf (by omega)
          refine AW_L (L := [some (.ref 86), some (.int (b2i (decide (w = true ∧ (lx_f B L p) = p))))]) ?_ ?_
          · first
              | (have h7 : nI (lx_f B L p) = I 86 12 := cq54; rw [b2i_tt (hat.mp h7)]; rfl)
              | (have h7 : ¬ nI (lx_f B L p) = I 86 12 := cq54; rw [b2i_ff (fun q => h7 (hat.mpr q))]; rfl)
          · refine j63 _ 0 _ rfl ?_ ?_ ⟨fun j a b => ?_, fun q hq => ?_⟩
            · rw [up2_ni (by decide)]; exact h8
            · rw [up2_same]
            · rw [up2_ni b]; exact hfr.1 j a
            · rw [up2_ne hq]; exact hfr.2 q hq
        · skip
          refine A_iconst ic_1 dX8_go_57 ?_
          refine A_goto 62 rfl dX8_go_58 ?_
          refine A_istore_n (by decide) rfl dX8_go_62 ?_
          have hat := hEn.at (f := (lx_f B L p)) hpf (by omega)
          refine AW_L (L := [some (.ref 86), some (.int (b2i (decide (w = true ∧ (lx_f B L p) = p))))]) ?_ ?_
          · first
              | (have h7 : nI (lx_f B L p) = I 86 12 := cq54; rw [b2i_tt (hat.mp h7)]; rfl)
              | (have h7 : ¬ nI (lx_f B L p) = I 86 12 := cq54; rw [b2i_ff (fun q => h7 (hat.mpr q))]; rfl)
          · refine j63 _ 0 _ rfl ?_ ?_ ⟨fun j a b => ?_, fun q hq => ?_⟩
            · rw [up2_ni (by decide)]; exact h8
            · rw [up2_same]
            · rw [up2_ni b]; exact hfr.1 j a
            · rw [up2_ne hq]; exact hfr.2 q hq
      · skip
        have htL : t < L := by
          have hq1 := mt (le_nI (rfl : nI L = nI L) (rfl : nI t = nI t) (by omega) (by omega)).mpr cq8
          omega
        refine A_aload_n rfl dX8_go_11 ?_
        refine A_getR fr_X8_26.g rfl lay_86 rfl dX8_go_12 ?_
        refine A_aload_n rfl dX8_go_15 ?_
        refine A_getI fr_X8_203.g rfl lay_86 dX8_go_16 ?_
        rw [h8]
        refine A_iald t rfl lay_91 (by omega) (by decide) dX8_go_19 ?_
        rw [hBK.2.1 t htL]
        refine A_bipush bp_32 dX8_go_20 ?_
        refine A_icmp_ne 38 rfl dX8_go_22 (fun cq22 => ?_) (fun cq22 => ?_)
        · skip
          have hno : ¬ (t < L ∧ B t = 32) := by
            rintro ⟨z1, z2⟩
            first
              | (have h7 : nI L ≤ nI t := cq8; have h6 := (le_nI (rfl : nI L = nI L) (rfl : nI t = nI t) (by omega) (by omega)).mp h7; omega)
              | exact cq22 z2
          have hte : t = (lx_f B L p) := by rw [← hff, sk_no hno]
          rw [hte] at h8
          refine A_aload_n rfl dX8_go_38 ?_
          refine A_aload_n rfl dX8_go_39 ?_
          refine A_getI fr_X8_203.g rfl lay_86 dX8_go_40 ?_
          rw [h8]
          refine A_putI fr_X8_206 rfl lay_86 rfl rfl dX8_go_43 ?_
          refine A_aload_n rfl dX8_go_46 ?_
          refine A_getI fr_X8_206.g rfl lay_86 dX8_go_47 ?_
          refine A_aload_n rfl dX8_go_50 ?_
          refine A_getI fr_X8_209.g rfl lay_86 dX8_go_51 ?_
          rw [up2_same, up2_ni (show (12 : Nat) ≠ 9 by decide), h12]
          refine A_icmp_ne 61 rfl dX8_go_54 (fun cq54 => ?_) (fun cq54 => ?_)
          · skip
            refine A_iconst ic_0 dX8_go_61 ?_
            refine A_istore_n (by decide) rfl dX8_go_62 ?_
            have hat := hEn.at (f := (lx_f B L p)) hpf (by omega)
            refine AW_L (L := [some (.ref 86), some (.int (b2i (decide (w = true ∧ (lx_f B L p) = p))))]) ?_ ?_
            · first
                | (have h7 : nI (lx_f B L p) = I 86 12 := cq54; rw [b2i_tt (hat.mp h7)]; rfl)
                | (have h7 : ¬ nI (lx_f B L p) = I 86 12 := cq54; rw [b2i_ff (fun q => h7 (hat.mpr q))]; rfl)
            · refine j63 _ 0 _ rfl ?_ ?_ ⟨fun j a b => ?_, fun q hq => ?_⟩
              · rw [up2_ni (by decide)]; exact h8
              · rw [up2_same]
              · rw [up2_ni b]; exact hfr.1 j a
              · rw [up2_ne hq]; exact hfr.2 q hq
          · skip
            refine A_iconst ic_1 dX8_go_57 ?_
            refine A_goto 62 rfl dX8_go_58 ?_
            refine A_istore_n (by decide) rfl dX8_go_62 ?_
            have hat := hEn.at (f := (lx_f B L p)) hpf (by omega)
            refine AW_L (L := [some (.ref 86), some (.int (b2i (decide (w = true ∧ (lx_f B L p) = p))))]) ?_ ?_
            · first
                | (have h7 : nI (lx_f B L p) = I 86 12 := cq54; rw [b2i_tt (hat.mp h7)]; rfl)
                | (have h7 : ¬ nI (lx_f B L p) = I 86 12 := cq54; rw [b2i_ff (fun q => h7 (hat.mpr q))]; rfl)
            · refine j63 _ 0 _ rfl ?_ ?_ ⟨fun j a b => ?_, fun q hq => ?_⟩
              · rw [up2_ni (by decide)]; exact h8
              · rw [up2_same]
              · rw [up2_ni b]; exact hfr.1 j a
              · rw [up2_ne hq]; exact hfr.2 q hq
        · skip
          refine A_aload_n rfl dX8_go_25 ?_
          refine A_dup rfl dX8_go_26 ?_
          refine A_getI fr_X8_203.g rfl lay_86 dX8_go_27 ?_
          rw [h8]
          refine A_iconst ic_1 dX8_go_30 ?_
          refine A_iadd dX8_go_31 ?_
          refine A_putI fr_X8_203 rfl lay_86 rfl rfl dX8_go_32 ?_
          refine A_goto 0 rfl dX8_go_35 ?_
          refine ih (L - (t + 1)) (by omega) (t + 1) _ rfl (by omega) (by omega) (by rw [← sk_st htL cq22]; exact hff) ?_ ⟨fun j a => ?_, fun q hq => ?_⟩
          · rw [up2_same, nI_1]
          · rw [up2_ni a]; exact hfr.1 j a
          · rw [up2_ne hq]; exact hfr.2 q hq
  refine Meth.of (by decide +kernel) (by simp [Value.category]) (Nat.le_of_ble_eq_true rfl) ?_
  exact loop0 _ p _ rfl (Nat.le_refl _) hp rfl h8i ⟨fun j _ => rfl, fun q _ => rfl⟩
