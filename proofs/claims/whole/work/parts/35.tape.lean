def q_sv (k : Nat) : Int32 := 24 - 8 * nI k
def q_byte (x : Int32) (k : Nat) : Int32 := (x.toUInt32 >>> ((q_sv k).toUInt32 &&& Int32.toUInt32 31)).toInt32 &&& 255
theorem sv_1 : ∀ k, k < 4 → ¬ q_sv k < 0 ∧ q_sv k + -8 = q_sv (k + 1) := by decide +kernel
theorem sv_4 : q_sv 4 < 0 := by decide +kernel
/-- a word behind the tape -/
def t_word (f : Nat → Int32) (L : Nat) (x : Int32) (k : Nat) : Nat → Int32 := fun j => if L ≤ j ∧ j < L + k then q_byte x (j - L) else f j
theorem t_word0 {f : Nat → Int32} {L : Nat} {x : Int32} : t_word f L x 0 = f := by
  funext j
  unfold t_word
  rw [if_neg (by omega)]
theorem t_wordS {f : Nat → Int32} {L : Nat} {x : Int32} {k : Nat} : upd (t_word f L x k) (L + k) (q_byte x k) = t_word f L x (k + 1) := by
  funext j
  unfold t_word upd
  by_cases e : j = L + k
  · subst e
    rw [if_pos rfl, if_pos (by omega), show L + k - L = k by omega]
  · rw [if_neg e]
    dsimp only
    by_cases h : L ≤ j ∧ j < L + k
    · rw [if_pos h, if_pos (by omega)]
    · rw [if_neg h, if_neg (by omega)]
set_option maxHeartbeats 1000000 in
set_option maxRecDepth 100000 in
theorem s_takes (l : Launch) (G : Gm) (I : Hp) (L : Nat) (hL : L ≤ 92) (h0 : I 32 0 = nI L) (x : Int32) : Meth l G yX6_takes cX6_takes 3 none 1 0 0 [.ref 32, .int x] LAY I (fun r lay1 I1 => r = none ∧ lay1 = LAY ∧ I1 32 0 = nI (L + 4) ∧ I1 33 = t_word (I 33) L x 4 ∧ (∀ j, j ≠ 0 → I1 32 j = I 32 j) ∧ (∀ q, q ≠ 32 → q ≠ 33 → I1 q = I q)) := by
  have loop : ∀ (lpn : Nat) (k : Nat) (K : Hp), 4 - k = lpn → (k ≤ 4) → (K 32 0 = nI (L + k)) → (K 33 = t_word (I 33) L x k) → (∀ j, j ≠ 0 → K 32 j = I 32 j) → (∀ q, q ≠ 32 → q ≠ 33 → K q = I q) → AW l G yX6_takes cX6_takes 3 none 1 0 0 (fun r lay1 I1 => r = none ∧ lay1 = LAY ∧ I1 32 0 = nI (L + 4) ∧ I1 33 = t_word (I 33) L x 4 ∧ (∀ j, j ≠ 0 → I1 32 j = I 32 j) ∧ (∀ q, q ≠ 32 → q ≠ 33 → I1 q = I q)) 0 0 3 [some (.ref 32), some (.int x), some (.int (q_sv k))] [] LAY K := by
    intro lpn
    induction lpn using Nat.strongRecOn with
    | _ lpn ih =>
      intro k K hms hk h0 h33 hn hfr
      refine A_iload_n rfl dX6_takes_3 ?_
      refine A_if_lt 48 rfl dX6_takes_4 (fun cq4 => ?_) (fun cq4 => ?_)
      · skip
        refine A_vret rfl rfl rfl dX6_takes_48 ?_
        have hk4 : k = 4 := by
          rcases (show k < 4 ∨ k = 4 by omega) with h9 | h9
          · exact absurd cq4 (sv_1 k h9).1
          · exact h9
        subst hk4
        exact ⟨rfl, rfl, h0, h33, hn, hfr⟩
      · skip
        have hkn : k < 4 := by
          rcases (show k < 4 ∨ k = 4 by omega) with h9 | h9
          · exact h9
          · subst h9; exact absurd sv_4 cq4
        refine A_aload_n rfl dX6_takes_7 ?_
        refine A_getI fr_X6_22.g rfl lay_32 dX6_takes_8 ?_
        refine A_bipush bp_96 dX6_takes_11 ?_
        rw [h0]
        refine A_icmp_ge 42 rfl dX6_takes_13 (fun cq13 => ?_) (fun cq13 => ?_)
        · skip
          refine A_iinc ic_m8 rfl (by decide) rfl dX6_takes_42 ?_
          refine A_goto 3 rfl dX6_takes_45 ?_
          refine AW_L (by rw [(sv_1 k hkn).2]) ?_
          first
            | (have h7 : (96 : Int32) ≤ nI (L + k) := cq13; exact absurd ((le_nI (show (96 : Int32) = nI 96 from rfl) (rfl : nI (L + k) = nI (L + k)) (by omega) (by omega)).mp h7) (by omega))
            | (refine ih (4 - (k + 1)) (by omega) (k + 1) _ rfl (by omega) ?_ ?_ ?_ ?_
               · rw [up2_same, up2_ne (by decide), h0, nI_1]; rfl
               · rw [up2_ne (by decide), up2_row, h33, ← t_wordS]; rfl
               · intro j hj; rw [up2_ni hj, up2_ne (by decide)]; exact hn j hj
               · intro q h1 h2; rw [up2_ne h1, up2_ne h2]; exact hfr q h1 h2)
        · skip
          have hLk : L + k < 96 := by omega
          refine A_aload_n rfl dX6_takes_16 ?_
          refine A_getR fr_X6_9.g rfl lay_32 rfl dX6_takes_17 ?_
          refine A_aload_n rfl dX6_takes_20 ?_
          refine A_getI fr_X6_22.g rfl lay_32 dX6_takes_21 ?_
          rw [h0]
          refine A_iload_n rfl dX6_takes_24 ?_
          refine A_iload_n rfl dX6_takes_25 ?_
          refine A_iushr dX6_takes_26 ?_
          refine A_sipush sp_255 dX6_takes_27 ?_
          refine A_iand dX6_takes_30 ?_
          refine A_iast (L + k) rfl lay_33 (by omega) (by decide) dX6_takes_31 ?_
          refine A_aload_n rfl dX6_takes_32 ?_
          refine A_dup rfl dX6_takes_33 ?_
          refine A_getI fr_X6_22.g rfl lay_32 dX6_takes_34 ?_
          refine A_iconst ic_1 dX6_takes_37 ?_
          refine A_iadd dX6_takes_38 ?_
          refine A_putI fr_X6_22 rfl lay_32 rfl rfl dX6_takes_39 ?_
          refine A_iinc ic_m8 rfl (by decide) rfl dX6_takes_42 ?_
          refine A_goto 3 rfl dX6_takes_45 ?_
          refine AW_L (by rw [(sv_1 k hkn).2]) ?_
          first
            | (have h7 : (96 : Int32) ≤ nI (L + k) := cq13; exact absurd ((le_nI (show (96 : Int32) = nI 96 from rfl) (rfl : nI (L + k) = nI (L + k)) (by omega) (by omega)).mp h7) (by omega))
            | (refine ih (4 - (k + 1)) (by omega) (k + 1) _ rfl (by omega) ?_ ?_ ?_ ?_
               · rw [up2_same, up2_ne (by decide), h0, nI_1]; rfl
               · rw [up2_ne (by decide), up2_row, h33, ← t_wordS]; rfl
               · intro j hj; rw [up2_ni hj, up2_ne (by decide)]; exact hn j hj
               · intro q h1 h2; rw [up2_ne h1, up2_ne h2]; exact hfr q h1 h2)
  refine Meth.of (by decide +kernel) (by simp [Value.category]) (Nat.le_of_ble_eq_true rfl) ?_
  refine A_bipush bp_24 dX6_takes_0 ?_
  refine A_istore_n (by decide) rfl dX6_takes_2 ?_
  exact loop 4 0 I rfl (by omega) h0 t_word0.symm (fun _ _ => rfl) (fun _ _ _ => rfl)
