def r_row (E : Fn2) (q : Nat) (c : Nat → Int32) : Fn2 := fun z k => if z = q then c k else E z k
def g_lay (S H N : Nrow) (q t x : Int32) : Int32 × Bool := if (0 ≤ q ∧ q ≤ 4) ∧ (0 ≤ t ∧ t ≤ 3) then (if t = 1 then (if 0 ≤ x ∧ x < N 1 then (H q.toNatClampNeg, true) else (-1000000001, false)) else if t = 2 then (if 0 ≤ x ∧ x ≤ 3 then (if S x.toNatClampNeg = -1 then (-1000000011, false) else (H q.toNatClampNeg, true)) else (-1000000001, false)) else (H q.toNatClampNeg, true)) else (-1000000001, false)
def a_lay (Z N : Nrow) (t x : Int32) : Int32 := if t = 1 then N (16 + 5 * x.toNatClampNeg) else if t = 2 then Z x.toNatClampNeg else x
def b_lay (N : Nrow) (t x : Int32) : Int32 := if t = 1 then q_worth (N (16 + 5 * x.toNatClampNeg)) (N (19 + 5 * x.toNatClampNeg)) else 0
def e_lay (C E : Fn2) (q t x : Int32) : Fn2 := if t = 2 then r_row E q.toNatClampNeg (C x.toNatClampNeg) else E
def beR (I : Hp) (r a : Nat) : Hp := cpR (up2 (up2 I r 0 (I a 0)) r 1 (I a 1)) (a + 1) (r + 1) 24
theorem beR_o {I : Hp} {r a q : Nat} (h1 : q ≠ r) (h2 : q ≠ r + 1) : beR I r a q = I q := by
  unfold beR cpR
  rw [if_neg h2, up2_ne h1, up2_ne h1]
theorem beR_1 {I : Hp} {r a : Nat} : beR I r a r 1 = I a 1 := by
  unfold beR cpR
  rw [if_neg (by omega), up2_same]
theorem beR_c {I : Hp} {r a k : Nat} (h : a + 1 ≠ r) (h2 : r ≠ a) (hk : k < 24) : beR I r a (r + 1) k = I (a + 1) k := by
  unfold beR
  rw [cpR_in hk, up2_ne h, up2_ne h]
set_option maxHeartbeats 1000000 in
set_option maxRecDepth 100000 in
theorem s_rbec (l : Launch) (G : Gm) (I : Hp) (r a : Nat) (hr : isR r) (ha : isR a) (hne : a ≠ r) : Meth l G yX4_become cX4_become 2 none 1 0 0 [.ref r, .ref a] LAY I (fun r1 lay1 I1 => r1 = none ∧ lay1 = LAY ∧ I1 = beR I r a) := by
  refine Meth.of (by decide +kernel) (by simp [Value.category]) (Nat.le_of_ble_eq_true rfl) ?_
  refine A_aload_n rfl dX4_become_0 ?_
  refine A_aload_n rfl dX4_become_1 ?_
  refine A_getI fr_X4_9.g rfl (lr ha) dX4_become_2 ?_
  refine A_putI fr_X4_9 rfl (lr hr) rfl rfl dX4_become_5 ?_
  refine A_aload_n rfl dX4_become_8 ?_
  refine A_aload_n rfl dX4_become_9 ?_
  refine A_getI fr_X4_23.g rfl (lr ha) dX4_become_10 ?_
  rw [show (up2 I r 0 (I a 0)) a 1 = I a 1 by rw [up2_ne hne]]
  refine A_putI fr_X4_23 rfl (lr hr) rfl rfl dX4_become_13 ?_
  refine A_aload_n rfl dX4_become_16 ?_
  refine A_getR fr_X4_15.g rfl (lr ha) rfl dX4_become_17 ?_
  refine A_iconst ic_0 dX4_become_20 ?_
  refine A_aload_n rfl dX4_become_21 ?_
  refine A_getR fr_X4_15.g rfl (lr hr) rfl dX4_become_22 ?_
  refine A_iconst ic_0 dX4_become_25 ?_
  refine A_bipush bp_24 dX4_become_26 ?_
  refine A_cpR 24 ml_X4_26 rfl (lr2 ha) (lr2 hr) rfl rfl rfl (by decide) (by decide) (by decide) (by decide) (by decide) (by decide) dX4_become_28 ?_
  refine A_vret rfl rfl rfl dX4_become_31 ?_
  exact ⟨rfl, rfl, rfl⟩
theorem SlC.lay {I J : Hp} {H A B : Nrow} {E : Fn2} {i : Nat} {t a b : Int32} {E2 : Fn2} (h : SlC I H A B E) (hi : i < 5) (hf : ∀ z, z ≠ 70 + 3 * i → z ≠ 70 + 3 * i + 1 → z ≠ 70 + 3 * i + 1 + 1 → J z = I z) (h0 : J (70 + 3 * i) 0 = t) (h1 : t = 1 → J (70 + 3 * i) 1 = a ∧ q_worth a (J (70 + 3 * i) 2) = b) (h2 : t = 2 → J (70 + 3 * i + 1) 1 = a ∧ ∀ k, k < 24 → J (70 + 3 * i + 1 + 1) k = E2 i k) (h3 : t = 3 → J (70 + 3 * i) 3 = a) (hE : ∀ z, z ≠ i → E2 z = E z) : SlC J (upd H i t) (upd A i a) (upd B i b) E2 := by
  intro q hq
  by_cases e : q = i
  · subst e
    rw [upd_s, upd_s, upd_s]
    exact ⟨h0, h1, h2, h3⟩
  · rw [upd_n e, upd_n e, upd_n e, hf _ (by omega) (by omega) (by omega), hf (70 + 3 * q + 1) (by omega) (by omega) (by omega), hf (70 + 3 * q + 1 + 1) (by omega) (by omega) (by omega), hE q e]
    exact h q hq
theorem e_lay_o {C E : Fn2} {i : Nat} {t x : Int32} (hi : i < 5) : ∀ z, z ≠ i → e_lay C E (nI i) t x z = E z := by
  intro z hz
  unfold e_lay
  split
  · funext k
    unfold r_row
    rw [nI_clamp (by omega), if_neg hz]
  · rfl
