/-! what a jury's hours leave alone -/
def kpM (m : Nat) : Prop := m ≠ 0 ∧ m ≠ 2 ∧ m ≠ 5 ∧ m ≠ 6 ∧ ∀ i, i < 10 → m ≠ 18 + 5 * i ∧ m ≠ 20 + 5 * i
def Kp (N M : Nrow) : Prop := ∀ m, kpM m → M m = N m
theorem Kp.rf (N : Nrow) : Kp N N := fun _ _ => rfl
theorem Kp.tr {N M P : Nrow} (h : Kp N M) (k : Kp M P) : Kp N P := fun m hm => (k m hm).trans (h m hm)
theorem Kp.up {N M : Nrow} {a : Nat} {x : Int32} (h : Kp N M) (ha : ∀ m, kpM m → m ≠ a) : Kp N (upd M a x) := fun m hm => by rw [upd_n (ha m hm)]; exact h m hm
theorem Kp.pass {N M : Nrow} {a c : Nat} {t : Int32} (h : Kp N M) (ha : a < 10) (hc : c < 10) : Kp N (q_pass M a c t) := fun m hm => by rw [pass_1 (hm.2.2.2.2 c hc).1 (hm.2.2.2.2 a ha).2]; exact h m hm
theorem pair_kp {N : Nrow} {sil : Int32} {n k : Nat} (hn : n ≤ 10) (hN : N 1 = nI n) (hk : k < n) : Kp N (q_pair sil N k).1 := by
  obtain ⟨c, hc1, hc2⟩ := par_in hN (by omega) hn (nI k)
  unfold q_pair
  split
  · dsimp only
    split
    · dsimp only
      exact ((Kp.rf N).up (fun m hm => hm.1)).up (fun m hm => hm.2.2.2.1)
    · dsimp only
      rw [hc2, nI_clamp (by omega)]
      exact ((((Kp.rf N).up (fun m hm => hm.1))).pass (by omega) (by omega)).pass (by omega) (by omega)
  · exact Kp.rf N
theorem kp_1 : kpM 1 := ⟨by decide, by decide, by decide, by decide, fun i hi => by omega⟩
theorem kp_7 : kpM 7 := ⟨by decide, by decide, by decide, by decide, fun i hi => by omega⟩
theorem kp_66 {m : Nat} (h : 66 ≤ m) (h2 : ∀ i, i < 10 → m ≠ 18 + 5 * i ∧ m ≠ 20 + 5 * i) : kpM m := ⟨by omega, by omega, by omega, by omega, h2⟩
theorem kp_67 {m : Nat} (h : 66 ≤ m) : kpM m := kp_66 h (fun i hi => by omega)
theorem kp_19 {i : Nat} (h : i < 10) : kpM (19 + 5 * i) := ⟨by omega, by omega, by omega, by omega, fun j hj => by omega⟩
theorem hourL_kp {N : Nrow} {sil : Int32} {n : Nat} (hn : n ≤ 10) (hN : N 1 = nI n) : ∀ k, k ≤ n → Kp N (q_hourL sil N k).1
  | 0, _ => Kp.rf N
  | k + 1, h => by
    have h1 := hourL_kp (sil := sil) hn hN k (by omega)
    exact h1.tr (pair_kp hn ((h1 1 kp_1).trans hN) (by omega))
theorem hour_kp {N : Nrow} {sil : Int32} {n : Nat} (hn : n ≤ 10) (hN : N 1 = nI n) : Kp N (q_hour sil N n).1 := by
  unfold q_hour
  exact (hourL_kp hn hN n (Nat.le_refl n)).up (fun m hm => hm.2.1)
theorem go_kp {N : Nrow} {sil : Int32} {n : Nat} (hn : n ≤ 10) (hN : N 1 = nI n) : ∀ k, Kp N (q_go sil n N k).1
  | 0 => Kp.rf N
  | k + 1 => (go_kp hn hN k).tr (hour_kp hn (go_1 hn hN k))
theorem out_kp {N : Nrow} {f : Nat} {way : Int32} {k : Nat} (hk : k ≤ 10) : Kp N (q_outL N f way k).1 := fun m hm => outL_x (fun i hi => (hm.2.2.2.2 i hi).1) k hk
theorem TxJ.kp {N M : Nrow} {T : Nat} (h : TxJ N T) (k : Kp N M) : TxJ M T := by
  refine ⟨h.1, (k 7 kp_7).trans h.2.1, fun t ht => ?_⟩
  obtain ⟨key, len, h1, h2, h3⟩ := h.2.2 t ht
  refine ⟨key, len, h1, (k _ (kp_67 (by omega))).trans h2, ?_⟩
  rw [show (fun q => M (94 + 96 * t + q)) = (fun q => N (94 + 96 * t + q)) from funext fun q => k _ (kp_67 (by omega))]
  exact h3
theorem LwR.kp {I : Hp} {N M : Nrow} {T : Nat} (h : LwR I N T) (k : Kp N M) : LwR I M T := fun t ht => by
  obtain ⟨key, len, h1, h2, h3, h4, h5, h6, h7⟩ := h t ht
  exact ⟨key, len, h1, h2, (k _ (kp_67 (by omega))).trans h3, h4, h5.trans (k _ (kp_67 (by omega))).symm, h6, fun q hq => (h7 q hq).trans (by rw [k _ (kp_67 (by omega))])⟩
theorem LwR.fr {I J : Hp} {N : Nrow} {T : Nat} (h : LwR I N T) (hT : T ≤ 14) (k : ∀ q, 4 ≤ q → q < 32 → J q = I q) : LwR J N T := fun t ht => by
  obtain ⟨key, len, h1, h2, h3, h4, h5, h6, h7⟩ := h t ht
  have e1 := k (4 + 2 * t) (by omega) (by omega)
  have e2 := k (4 + 2 * t + 1) (by omega) (by omega)
  exact ⟨key, len, h1, h2, h3, by rw [e1]; exact h4, by rw [e1]; exact h5, by rw [e1]; exact h6, fun q hq => by rw [e2]; exact h7 q hq⟩
theorem DoJ.kp {N M : Nrow} (h : DoJ N) (k : Kp N M) : DoJ M := fun i hi => by rw [k _ (kp_19 hi)]; exact h i hi
/-- the component's thought: the cells of the thought and the laws' stack may change -/
def Tho (I K : Hp) : Prop := ∀ q, (q < 52 ∨ 60 ≤ q) → q ≠ 2 → K q = I q
theorem Tho.rf (I : Hp) : Tho I I := fun _ _ _ => rfl
theorem Tho.be {I K : Hp} (h : Tho I K) : Tho I (beJ K 36 52) := fun q hq h2 => by rw [beJ_o (by omega)]; exact h q hq h2
theorem Tho.fr {I K J : Hp} (h : Tho I K) (k : ∀ q, (q < 52 ∨ 52 + 8 ≤ q) → J q = K q) : Tho I J := fun q hq h2 => (k q (by omega)).trans (h q hq h2)
theorem Tho.st {I K J : Hp} (h : Tho I K) (k : ∀ q, q ≠ 2 → J q = K q) : Tho I J := fun q hq h2 => (k q h2).trans (h q hq h2)
theorem Tho.up {I K : Hp} {a i : Nat} {x : Int32} (h : Tho I K) (h1 : 52 ≤ a) (h2 : a < 60) : Tho I (up2 K a i x) := fun q hq h3 => by rw [up2_ne (by omega)]; exact h q hq h3
theorem Tho.rep {I K : Hp} {N : Nrow} (h : Tho I K) (hR : RepJ I 36 N) : RepJ K 36 N := hR.other (fun k h1 h2 => h k (by omega) (by omega))
theorem Tho.lw {I K : Hp} {N : Nrow} {T : Nat} (h : Tho I K) (hT : T ≤ 14) (hL : LwR I N T) : LwR K N T := hL.fr hT (fun q h1 h2 => h q (by omega) (by omega))
/-- the reference's thought -/
def Mind (I K : Hp) : Prop := K 90 = cpN (I 87) (I 90) 66 ∧ (∀ m, 66 ≤ m → K 87 m = I 87 m) ∧ (∀ m, m ≠ 4 → K 86 m = I 86 m) ∧ (∀ q, q ≠ 86 → q ≠ 87 → q ≠ 90 → q ≠ 97 → q ≠ 98 → K q = I q)
theorem Mind.st {I : Hp} : Mind I (setR I 90 (cpN (I 87) (I 90) 66)) := ⟨setR_s, fun m _ => by rw [setR_n (by decide)], fun m _ => by rw [setR_n (by decide)], fun q _ _ h _ _ => setR_n h⟩
theorem Mind.setN {I K : Hp} {M : Nrow} (h : Mind I K) (k : ∀ m, 66 ≤ m → M m = I 87 m) : Mind I (setN K M) := ⟨by rw [setN_ne (by decide)]; exact h.1, fun m hm => by rw [setN_87]; exact k m hm, fun m hm => by rw [setN_ne (by decide)]; exact h.2.2.1 m hm, fun q h1 h2 h3 h4 h5 => by rw [setN_ne h2]; exact h.2.2.2 q h1 h2 h3 h4 h5⟩
theorem Mind.sil {I K : Hp} {x : Int32} (h : Mind I K) : Mind I (up2 K 86 4 x) := ⟨by rw [up2_ne (by decide)]; exact h.1, fun m hm => by rw [up2_ne (by decide)]; exact h.2.1 m hm, fun m hm => by rw [up2_ni hm]; exact h.2.2.1 m hm, fun q h1 h2 h3 h4 h5 => by rw [up2_ne h1]; exact h.2.2.2 q h1 h2 h3 h4 h5⟩
theorem Mind.fr {I K J : Hp} (h : Mind I K) (k : ∀ q, q ≠ 97 → q ≠ 98 → J q = K q) : Mind I J := ⟨by rw [k 90 (by decide) (by decide)]; exact h.1, fun m hm => by rw [k 87 (by decide) (by decide)]; exact h.2.1 m hm, fun m hm => by rw [k 86 (by decide) (by decide)]; exact h.2.2.1 m hm, fun q h1 h2 h3 h4 h5 => (k q h4 h5).trans (h.2.2.2 q h1 h2 h3 h4 h5)⟩
theorem Mind.back {I K : Hp} (h : Mind I K) (hs : I 86 4 = -1) : Mind I (up2 (setR K 87 (cpN (K 90) (K 87) 66)) 86 4 (-1)) ∧ (up2 (setR K 87 (cpN (K 90) (K 87) 66)) 86 4 (-1)) 87 = I 87 ∧ (up2 (setR K 87 (cpN (K 90) (K 87) 66)) 86 4 (-1)) 86 = I 86 := by
  have e : cpN (K 90) (K 87) 66 = I 87 := by
    funext m
    unfold cpN
    split
    · rename_i hm
      rw [h.1]
      unfold cpN
      rw [if_pos hm]
    · exact h.2.1 m (by omega)
  rw [e]
  have a1 : (up2 (setR K 87 (I 87)) 86 4 (-1)) 87 = I 87 := by rw [up2_ne (by decide), setR_s]
  refine ⟨⟨by rw [up2_ne (by decide), setR_n (by decide)]; exact h.1, fun m hm => by rw [a1], fun m hm => by rw [up2_ni hm, setR_n (by decide)]; exact h.2.2.1 m hm, fun q h1 h2 h3 h4 h5 => by rw [up2_ne h1, setR_n h2]; exact h.2.2.2 q h1 h2 h3 h4 h5⟩, a1, ?_⟩
  funext m
  by_cases hm : m = 4
  · subst hm
    rw [up2_same, hs]
  · rw [up2_ni hm, setR_n (by decide)]
    exact h.2.2.1 m hm
theorem Mind.end_ {I K : Hp} (h : Mind I K) (h1 : K 87 = I 87) (h2 : K 86 = I 86) : ∀ q, q ≠ 90 → q ≠ 97 → q ≠ 98 → K q = I q := fun q a b c => by
  by_cases e1 : q = 86
  · subst e1; exact h2
  · by_cases e2 : q = 87
    · subst e2; exact h1
    · exact h.2.2.2 q e1 e2 a b c
theorem vo_nI (N : Nrow) : ∀ k, ∃ m, m ≤ k ∧ q_vo N k = nI m
  | 0 => ⟨0, by omega, rfl⟩
  | k + 1 => by
    obtain ⟨m, h1, h2⟩ := vo_nI N k
    rw [q_vo, h2]
    cases q_gui N k
    · exact ⟨m, by omega, by simp [b2i]⟩
    · exact ⟨m + 1, by omega, nI_1 m⟩
theorem bits_nI (x : Int32) : ∀ k, ∃ m, m ≤ k ∧ q_bits x k = nI m
  | 0 => ⟨0, by omega, rfl⟩
  | k + 1 => by
    obtain ⟨m, h1, h2⟩ := bits_nI x k
    rw [q_bits, h2]
    rcases bit_01 x k with h | h <;> rw [h]
    · exact ⟨m, by omega, by simp⟩
    · exact ⟨m + 1, by omega, nI_1 m⟩
theorem kn_nI (N : Nrow) : ∀ k, ∃ m, m ≤ 8 * k ∧ q_kn N k = nI m
  | 0 => ⟨0, by omega, rfl⟩
  | k + 1 => by
    obtain ⟨m, h1, h2⟩ := kn_nI N k
    obtain ⟨q, h3, h4⟩ := bits_nI (N (18 + 5 * k)) 8
    rw [q_kn, h2, h4, nI_add]
    exact ⟨m + q, by omega, rfl⟩
set_option maxHeartbeats 1000000 in
set_option maxRecDepth 100000 in
theorem s_think (l : Launch) (G : Gm) (I : Hp) (N : Nrow) (n : Nat) (hn : n ≤ 10) (hN : N 1 = nI n) (hR : RepJ I 36 N) (hK : KnJ N) (sil : Int32) (h : Nat) (hh : h < 1000) : Meth l G yX7_think cX7_think 3 none 6 0 0 [.ref 0, .int (nI h), .int sil] LAY I (fun r lay1 I1 => r = none ∧ lay1 = LAY ∧ RepJ I1 52 (q_go sil n N h).1 ∧ Tho I I1) := by
  refine Meth.of (by decide +kernel) (by simp [Value.category]) (Nat.le_of_ble_eq_true rfl) ?_
  refine A_aload_n rfl dX7_think_0 ?_
  refine A_getR fr_X7_35.g rfl lay_0 rfl dX7_think_1 ?_
  refine A_aload_n rfl dX7_think_4 ?_
  refine A_getR fr_X7_28.g rfl lay_0 rfl dX7_think_5 ?_
  refine A_callV (s_become l G 36 52 j36 j52 (by decide) I) m_X0_become ml_X7_179 rfl (lj j52) rfl (by decide) rfl rfl (Nat.le_of_ble_eq_true rfl) (by decide) (by decide) (by decide) dX7_think_8 (fun _ _ _ h => congrArg List.length h.2.1) ?_
  rintro _ _ _ ⟨rfl, rfl, e9⟩
  refine AW_I e9 ?_
  clear e9
  refine A_aload_n rfl dX7_think_11 ?_
  refine A_getR fr_X7_35.g rfl lay_0 rfl dX7_think_12 ?_
  refine A_iload_n rfl dX7_think_15 ?_
  refine A_iload_n rfl dX7_think_16 ?_
  refine A_callV (s_go l G 52 j52 _ N n hn hN (hR.be (by decide)) hK sil h hh) m_X0_pass ml_X7_156 rfl (lj j52) rfl (by decide) rfl rfl (Nat.le_of_ble_eq_true rfl) (by decide) (by decide) (by decide) dX7_think_17 (fun _ _ _ hqq => congrArg List.length hqq.2.1) ?_
  rintro _ _ K2 ⟨rfl, rfl, hR2, hf2⟩
  refine A_pop rfl dX7_think_20 ?_
  refine A_vret rfl rfl rfl dX7_think_21 ?_
  exact ⟨rfl, rfl, hR2, (Tho.rf I).be.fr hf2⟩
def f_behind (N : Nrow) (n : Nat) (h w : Int32) : Int32 := if (0 ≤ h ∧ h ≤ 100) ∧ (w = 0 ∨ w = 1 ∨ w = 2 ∨ (0 ≤ w - 3 ∧ w - 3 < N 1 ∧ 3 ≤ w)) then (if w = 0 then q_com (q_go (-1) n N h.toNatClampNeg).1 n else if w = 1 then q_vo (q_go (-1) n N h.toNatClampNeg).1 n else if w = 2 then (q_go (-1) n N h.toNatClampNeg).1 6 else (q_go (-1) n N h.toNatClampNeg).1 (18 + 5 * (w - 3).toNatClampNeg)) else -1000000001
theorem w_lt3 {w : Int32} (h0 : ¬ w < 0) (h : w < 3) : w = 0 ∨ w = 1 ∨ w = 2 := by
  simp only [Int32.lt_iff_toInt_lt, ← Int32.toInt_inj, Int32.reduceToInt] at *
  omega
theorem w_le2 {w : Int32} (h0 : ¬ w < 0) (h : w ≤ 2) : w = 0 ∨ w = 1 ∨ w = 2 := by
  simp only [Int32.le_iff_toInt_le, Int32.lt_iff_toInt_lt, ← Int32.toInt_inj, Int32.reduceToInt] at *
  omega
theorem w_ge3 {w : Int32} (h : ¬ w ≤ 2) : 3 ≤ w := by
  simp only [Int32.le_iff_toInt_le, Int32.reduceToInt] at *
  omega
theorem w3_ne {w : Int32} (h : 3 ≤ w) : w ≠ 0 ∧ w ≠ 1 ∧ w ≠ 2 := by
  simp only [Int32.le_iff_toInt_le, ne_eq, ← Int32.toInt_inj, Int32.reduceToInt] at *
  omega
theorem w3_gt {w : Int32} (h : w < 0) : w ≠ 0 ∧ w ≠ 1 ∧ w ≠ 2 ∧ ¬ 3 ≤ w := by
  simp only [Int32.lt_iff_toInt_lt, Int32.le_iff_toInt_le, ne_eq, ← Int32.toInt_inj, Int32.reduceToInt] at *
  omega
set_option maxHeartbeats 1000000 in
set_option maxRecDepth 100000 in
theorem c_behind (l : Launch) (G : Gm) (I : Hp) (N : Nrow) (n : Nat) (hn : n ≤ 10) (hN : N 1 = nI n) (hR : RepJ I 36 N) (T : Nat) (hK : KnJ N) (hTx : TxJ N T) (hLw : LwR I N T) (hDo : DoJ N) (h w : Int32) : Meth l G yX7_behind cX7_behind 3 (some (FieldType.int)) 7 0 0 [.ref 0, .int h, .int w] LAY I (fun r lay1 I1 => r = some (.int (f_behind N n h w)) ∧ lay1 = LAY ∧ Tho I I1) := by
  refine Meth.of (by decide +kernel) (by simp [Value.category]) (Nat.le_of_ble_eq_true rfl) ?_
  refine A_iload_n rfl dX7_behind_0 ?_
  refine A_iconst ic_0 dX7_behind_1 ?_
  refine A_bipush bp_100 dX7_behind_2 ?_
  refine A_callS (s_within l G _ _ _ _ _) m_X7_within ml_X7_56 rfl rfl rfl (Nat.le_of_ble_eq_true rfl) (by decide) (by decide) (by decide) dX7_behind_4 (fun _ _ _ h => congrArg List.length h.2.1) ?_
  rintro _ _ _ ⟨rfl, rfl, e9⟩
  refine AW_I e9 ?_
  clear e9
  refine A_if_eq 32 rfl dX7_behind_7 (fun cq7 => ?_) (fun cq7 => ?_)
  · skip
    refine A_ldc kc_X7_60 rfl dX7_behind_32 ?_
    refine A_iret rfl rfl rfl rfl dX7_behind_34 ?_
    have hno : ¬ ((0 ≤ h ∧ h ≤ 100) ∧ (w = 0 ∨ w = 1 ∨ w = 2 ∨ (0 ≤ w - 3 ∧ w - 3 < N 1 ∧ 3 ≤ w))) := by
      first
        | (have h7 := b2i_q.mp cq7; exact fun h9 => h7 h9.1)
        | (have h7 : w < 0 := cq11; have h8 := w3_gt h7; rintro ⟨_, h9 | h9 | h9 | h9⟩; exact h8.1 h9; exact h8.2.1 h9; exact h8.2.2.1 h9; exact h8.2.2.2 h9.2.2)
        | (have h7 := b2i_q.mp cq29; have h8 := w3_ne (Int32.not_lt.mp cq16); rintro ⟨_, h9 | h9 | h9 | h9⟩; exact h8.1 h9; exact h8.2.1 h9; exact h8.2.2 h9; exact h7 ⟨h9.1, hR.1.1 ▸ h9.2.1⟩)
    rw [f_behind, if_neg hno]
    exact ⟨rfl, rfl, Tho.rf I⟩
  · skip
    refine A_iload_n rfl dX7_behind_10 ?_
    refine A_if_lt 32 rfl dX7_behind_11 (fun cq11 => ?_) (fun cq11 => ?_)
    · skip
      refine A_ldc kc_X7_60 rfl dX7_behind_32 ?_
      refine A_iret rfl rfl rfl rfl dX7_behind_34 ?_
      have hno : ¬ ((0 ≤ h ∧ h ≤ 100) ∧ (w = 0 ∨ w = 1 ∨ w = 2 ∨ (0 ≤ w - 3 ∧ w - 3 < N 1 ∧ 3 ≤ w))) := by
        first
          | (have h7 := b2i_q.mp cq7; exact fun h9 => h7 h9.1)
          | (have h7 : w < 0 := cq11; have h8 := w3_gt h7; rintro ⟨_, h9 | h9 | h9 | h9⟩; exact h8.1 h9; exact h8.2.1 h9; exact h8.2.2.1 h9; exact h8.2.2.2 h9.2.2)
          | (have h7 := b2i_q.mp cq29; have h8 := w3_ne (Int32.not_lt.mp cq16); rintro ⟨_, h9 | h9 | h9 | h9⟩; exact h8.1 h9; exact h8.2.1 h9; exact h8.2.2 h9; exact h7 ⟨h9.1, hR.1.1 ▸ h9.2.1⟩)
      rw [f_behind, if_neg hno]
      exact ⟨rfl, rfl, Tho.rf I⟩
    · skip
      refine A_iload_n rfl dX7_behind_14 ?_
      refine A_iconst ic_3 dX7_behind_15 ?_
      refine A_icmp_lt 35 rfl dX7_behind_16 (fun cq16 => ?_) (fun cq16 => ?_)
      · skip
        have hok : (0 ≤ h ∧ h ≤ 100) ∧ (w = 0 ∨ w = 1 ∨ w = 2 ∨ (0 ≤ w - 3 ∧ w - 3 < N 1 ∧ 3 ≤ w)) := by
          refine ⟨b2i_p.mp cq7, ?_⟩
          first
            | (have h7 := w_lt3 cq11 cq16 ; exact h7.elim Or.inl (fun h8 => h8.elim (fun q => Or.inr (Or.inl q)) (fun q => Or.inr (Or.inr (Or.inl q)))))
            | (have h7 := b2i_p.mp cq29; exact Or.inr (Or.inr (Or.inr ⟨h7.1, hR.1.1 ▸ h7.2, (Int32.not_lt.mp cq16)⟩)))
        obtain ⟨k, hk, rfl⟩ := in_get (a := 100) rfl hok.1
        refine A_aload_n rfl dX7_behind_35 ?_
        refine A_iload_n rfl dX7_behind_36 ?_
        refine A_iconst ic_m1 dX7_behind_37 ?_
        refine A_callV (s_think l G I N n hn hN hR hK (-1) k (by omega)) m_X7_think ml_X7_175 rfl lay_0 rfl (by decide) rfl rfl (Nat.le_of_ble_eq_true rfl) (by decide) (by decide) (by decide) dX7_behind_38 (fun _ _ _ hqq => congrArg List.length hqq.2.1) ?_
        rintro _ _ K1 ⟨rfl, rfl, hR1, hT1⟩
        have hM1 := go_1 (sil := -1) hn hN k
        have hKp := go_kp (sil := -1) hn hN k
        have hKn := go_kn (sil := -1) hn hN hK k
        refine A_iload_n rfl dX7_behind_41 ?_
        refine A_tsw 92 rfl dX7_behind_42 rfl (fun jsw off hjsw cq42 => ?_) (fun cq42 => ?_)
        · match jsw, hjsw, cq42 with
          | 0, hjsw, cq42 =>
            cases hjsw
            replace cq42 := i_eq cq42 (ic_0)
            refine ⟨68, rfl, ?_⟩
            refine A_aload_n rfl dX7_behind_68 ?_
            refine A_getR fr_X7_35.g rfl lay_0 rfl dX7_behind_69 ?_
            refine A_callV (s_com l G 52 j52 K1 _ n hn hM1 hR1) m_X0_common ml_X7_159 rfl (lj j52) rfl (by decide) rfl rfl (Nat.le_of_ble_eq_true rfl) (by decide) (by decide) (by decide) dX7_behind_72 (fun _ _ _ h => congrArg List.length h.2.1) ?_
            rintro _ _ _ ⟨rfl, rfl, e9⟩
            refine AW_I e9 ?_
            clear e9
            refine A_iret rfl rfl rfl rfl dX7_behind_75 ?_
            subst cq42
            rw [f_behind, if_pos hok, if_pos rfl, nI_clamp (by omega)]
            exact ⟨rfl, rfl, hT1⟩
          | 1, hjsw, cq42 =>
            cases hjsw
            replace cq42 := i_eq cq42 (ic_1)
            refine ⟨76, rfl, ?_⟩
            refine A_aload_n rfl dX7_behind_76 ?_
            refine A_getR fr_X7_35.g rfl lay_0 rfl dX7_behind_77 ?_
            refine A_callV (s_vo l G 52 j52 K1 _ T hR1 hKn (hTx.kp hKp) ((hT1.lw hTx.1 hLw).kp hKp) (hDo.kp hKp) n hn hM1) m_X0_votes ml_X7_163 rfl (lj j52) rfl (by decide) rfl rfl (Nat.le_of_ble_eq_true rfl) (by decide) (by decide) (by decide) dX7_behind_80 (fun _ _ _ h => congrArg List.length h.2.1) ?_
            rintro _ _ K2 ⟨rfl, rfl, hf2⟩
            refine A_iret rfl rfl rfl rfl dX7_behind_83 ?_
            subst cq42
            rw [f_behind, if_pos hok, if_neg (by decide), if_pos rfl, nI_clamp (by omega)]
            exact ⟨rfl, rfl, hT1.st hf2⟩
          | 2, hjsw, cq42 =>
            cases hjsw
            replace cq42 := i_eq cq42 (ic_2)
            refine ⟨84, rfl, ?_⟩
            refine A_aload_n rfl dX7_behind_84 ?_
            refine A_getR fr_X7_35.g rfl lay_0 rfl dX7_behind_85 ?_
            refine A_getI fr_X7_166.g rfl (lj j52) dX7_behind_88 ?_
            refine A_iret rfl rfl rfl rfl dX7_behind_91 ?_
            subst cq42
            rw [f_behind, if_pos hok, if_neg (by decide), if_neg (by decide), if_pos rfl, nI_clamp (by omega)]
            exact ⟨by rw [hR1.1.2.2.2.2.1], rfl, hT1⟩
          | jsw + 3, hjsw, _ => exact absurd hjsw (by simp)
        · skip
          have hw3 : 3 ≤ w := by
            simp only [Int32.le_iff_toInt_le, Int32.reduceToInt]
            rcases cq42 with h9 | h9
            · exfalso
              have h8 : w < 0 := by simp only [Int32.lt_iff_toInt_lt, Int32.reduceToInt]; omega
              have h7 := w3_gt h8
              rcases hok.2 with h6 | h6 | h6 | h6
              · exact h7.1 h6
              · exact h7.2.1 h6
              · exact h7.2.2.1 h6
              · exact h7.2.2.2 h6.2.2
            · omega
          have hne := w3_ne hw3
          obtain ⟨i, hi, hwi⟩ : ∃ i, i < n ∧ w - 3 = nI i := by
            rcases hok.2 with h6 | h6 | h6 | h6
            · exact absurd h6 hne.1
            · exact absurd h6 hne.2.1
            · exact absurd h6 hne.2.2
            · exact jur_get hn hN ⟨h6.1, h6.2.1⟩
          refine A_aload_n rfl dX7_behind_92 ?_
          refine A_getR fr_X7_35.g rfl lay_0 rfl dX7_behind_93 ?_
          refine A_getR fr_X7_80 rfl (lj j52) rfl dX7_behind_96 ?_
          refine A_iload_n rfl dX7_behind_99 ?_
          refine A_iconst ic_3 dX7_behind_100 ?_
          refine A_isub dX7_behind_101 ?_
          rw [hwi]
          refine A_iald i rfl (lj3 j52) (by omega) (by decide) dX7_behind_102 ?_
          refine A_iret rfl rfl rfl rfl dX7_behind_103 ?_
          rw [f_behind, if_pos hok, if_neg hne.1, if_neg hne.2.1, if_neg hne.2.2, nI_clamp (by omega), hwi, nI_clamp (by omega)]
          exact ⟨by rw [hR1.2.2.2.1 i (by omega)], rfl, hT1⟩
      · skip
        refine A_aload_n rfl dX7_behind_19 ?_
        refine A_getR fr_X7_28.g rfl lay_0 rfl dX7_behind_20 ?_
        refine A_iload_n rfl dX7_behind_23 ?_
        refine A_iconst ic_3 dX7_behind_24 ?_
        refine A_isub dX7_behind_25 ?_
        refine A_callV (s_has l G 36 j36 I _) m_X0_has ml_X7_70 rfl (lj j36) rfl (by decide) rfl rfl (Nat.le_of_ble_eq_true rfl) (by decide) (by decide) (by decide) dX7_behind_26 (fun _ _ _ h => congrArg List.length h.2.1) ?_
        rintro _ _ _ ⟨rfl, rfl, e9⟩
        refine AW_I e9 ?_
        clear e9
        refine A_if_ne 35 rfl dX7_behind_29 (fun cq29 => ?_) (fun cq29 => ?_)
        · skip
          have hok : (0 ≤ h ∧ h ≤ 100) ∧ (w = 0 ∨ w = 1 ∨ w = 2 ∨ (0 ≤ w - 3 ∧ w - 3 < N 1 ∧ 3 ≤ w)) := by
            refine ⟨b2i_p.mp cq7, ?_⟩
            first
              | (have h7 := w_lt3 cq11 cq16 ; exact h7.elim Or.inl (fun h8 => h8.elim (fun q => Or.inr (Or.inl q)) (fun q => Or.inr (Or.inr (Or.inl q)))))
              | (have h7 := b2i_p.mp cq29; exact Or.inr (Or.inr (Or.inr ⟨h7.1, hR.1.1 ▸ h7.2, (Int32.not_lt.mp cq16)⟩)))
          obtain ⟨k, hk, rfl⟩ := in_get (a := 100) rfl hok.1
          refine A_aload_n rfl dX7_behind_35 ?_
          refine A_iload_n rfl dX7_behind_36 ?_
          refine A_iconst ic_m1 dX7_behind_37 ?_
          refine A_callV (s_think l G I N n hn hN hR hK (-1) k (by omega)) m_X7_think ml_X7_175 rfl lay_0 rfl (by decide) rfl rfl (Nat.le_of_ble_eq_true rfl) (by decide) (by decide) (by decide) dX7_behind_38 (fun _ _ _ hqq => congrArg List.length hqq.2.1) ?_
          rintro _ _ K1 ⟨rfl, rfl, hR1, hT1⟩
          have hM1 := go_1 (sil := -1) hn hN k
          have hKp := go_kp (sil := -1) hn hN k
          have hKn := go_kn (sil := -1) hn hN hK k
          refine A_iload_n rfl dX7_behind_41 ?_
          refine A_tsw 92 rfl dX7_behind_42 rfl (fun jsw off hjsw cq42 => ?_) (fun cq42 => ?_)
          · match jsw, hjsw, cq42 with
            | 0, hjsw, cq42 =>
              cases hjsw
              replace cq42 := i_eq cq42 (ic_0)
              refine ⟨68, rfl, ?_⟩
              refine A_aload_n rfl dX7_behind_68 ?_
              refine A_getR fr_X7_35.g rfl lay_0 rfl dX7_behind_69 ?_
              refine A_callV (s_com l G 52 j52 K1 _ n hn hM1 hR1) m_X0_common ml_X7_159 rfl (lj j52) rfl (by decide) rfl rfl (Nat.le_of_ble_eq_true rfl) (by decide) (by decide) (by decide) dX7_behind_72 (fun _ _ _ h => congrArg List.length h.2.1) ?_
              rintro _ _ _ ⟨rfl, rfl, e9⟩
              refine AW_I e9 ?_
              clear e9
              refine A_iret rfl rfl rfl rfl dX7_behind_75 ?_
              subst cq42
              rw [f_behind, if_pos hok, if_pos rfl, nI_clamp (by omega)]
              exact ⟨rfl, rfl, hT1⟩
            | 1, hjsw, cq42 =>
              cases hjsw
              replace cq42 := i_eq cq42 (ic_1)
              refine ⟨76, rfl, ?_⟩
              refine A_aload_n rfl dX7_behind_76 ?_
              refine A_getR fr_X7_35.g rfl lay_0 rfl dX7_behind_77 ?_
              refine A_callV (s_vo l G 52 j52 K1 _ T hR1 hKn (hTx.kp hKp) ((hT1.lw hTx.1 hLw).kp hKp) (hDo.kp hKp) n hn hM1) m_X0_votes ml_X7_163 rfl (lj j52) rfl (by decide) rfl rfl (Nat.le_of_ble_eq_true rfl) (by decide) (by decide) (by decide) dX7_behind_80 (fun _ _ _ h => congrArg List.length h.2.1) ?_
              rintro _ _ K2 ⟨rfl, rfl, hf2⟩
              refine A_iret rfl rfl rfl rfl dX7_behind_83 ?_
              subst cq42
              rw [f_behind, if_pos hok, if_neg (by decide), if_pos rfl, nI_clamp (by omega)]
              exact ⟨rfl, rfl, hT1.st hf2⟩
            | 2, hjsw, cq42 =>
              cases hjsw
              replace cq42 := i_eq cq42 (ic_2)
              refine ⟨84, rfl, ?_⟩
              refine A_aload_n rfl dX7_behind_84 ?_
              refine A_getR fr_X7_35.g rfl lay_0 rfl dX7_behind_85 ?_
              refine A_getI fr_X7_166.g rfl (lj j52) dX7_behind_88 ?_
              refine A_iret rfl rfl rfl rfl dX7_behind_91 ?_
              subst cq42
              rw [f_behind, if_pos hok, if_neg (by decide), if_neg (by decide), if_pos rfl, nI_clamp (by omega)]
              exact ⟨by rw [hR1.1.2.2.2.2.1], rfl, hT1⟩
            | jsw + 3, hjsw, _ => exact absurd hjsw (by simp)
          · skip
            have hw3 : 3 ≤ w := by
              simp only [Int32.le_iff_toInt_le, Int32.reduceToInt]
              rcases cq42 with h9 | h9
              · exfalso
                have h8 : w < 0 := by simp only [Int32.lt_iff_toInt_lt, Int32.reduceToInt]; omega
                have h7 := w3_gt h8
                rcases hok.2 with h6 | h6 | h6 | h6
                · exact h7.1 h6
                · exact h7.2.1 h6
                · exact h7.2.2.1 h6
                · exact h7.2.2.2 h6.2.2
              · omega
            have hne := w3_ne hw3
            obtain ⟨i, hi, hwi⟩ : ∃ i, i < n ∧ w - 3 = nI i := by
              rcases hok.2 with h6 | h6 | h6 | h6
              · exact absurd h6 hne.1
              · exact absurd h6 hne.2.1
              · exact absurd h6 hne.2.2
              · exact jur_get hn hN ⟨h6.1, h6.2.1⟩
            refine A_aload_n rfl dX7_behind_92 ?_
            refine A_getR fr_X7_35.g rfl lay_0 rfl dX7_behind_93 ?_
            refine A_getR fr_X7_80 rfl (lj j52) rfl dX7_behind_96 ?_
            refine A_iload_n rfl dX7_behind_99 ?_
            refine A_iconst ic_3 dX7_behind_100 ?_
            refine A_isub dX7_behind_101 ?_
            rw [hwi]
            refine A_iald i rfl (lj3 j52) (by omega) (by decide) dX7_behind_102 ?_
            refine A_iret rfl rfl rfl rfl dX7_behind_103 ?_
            rw [f_behind, if_pos hok, if_neg hne.1, if_neg hne.2.1, if_neg hne.2.2, nI_clamp (by omega), hwi, nI_clamp (by omega)]
            exact ⟨by rw [hR1.2.2.2.1 i (by omega)], rfl, hT1⟩
        · skip
          refine A_ldc kc_X7_60 rfl dX7_behind_32 ?_
          refine A_iret rfl rfl rfl rfl dX7_behind_34 ?_
          have hno : ¬ ((0 ≤ h ∧ h ≤ 100) ∧ (w = 0 ∨ w = 1 ∨ w = 2 ∨ (0 ≤ w - 3 ∧ w - 3 < N 1 ∧ 3 ≤ w))) := by
            first
              | (have h7 := b2i_q.mp cq7; exact fun h9 => h7 h9.1)
              | (have h7 : w < 0 := cq11; have h8 := w3_gt h7; rintro ⟨_, h9 | h9 | h9 | h9⟩; exact h8.1 h9; exact h8.2.1 h9; exact h8.2.2.1 h9; exact h8.2.2.2 h9.2.2)
              | (have h7 := b2i_q.mp cq29; have h8 := w3_ne (Int32.not_lt.mp cq16); rintro ⟨_, h9 | h9 | h9 | h9⟩; exact h8.1 h9; exact h8.2.1 h9; exact h8.2.2 h9; exact h7 ⟨h9.1, hR.1.1 ▸ h9.2.1⟩)
          rw [f_behind, if_neg hno]
          exact ⟨rfl, rfl, Tho.rf I⟩
theorem jury_lo {N : Nrow} {n : Nat} {w : Int32} (h : w = 0 ∨ w = 1 ∨ w = 2) : f_jury N n w = if w = 0 then q_com N n else if w = 1 then q_vo N n else N 6 := by
  unfold f_jury
  rcases h with rfl | rfl | rfl <;> rfl
set_option maxHeartbeats 1000000 in
set_option maxRecDepth 100000 in
theorem m_behind (l : Launch) (G : Gm) (I : Hp) (N : Nrow) (h87 : I 87 = N) (n : Nat) (hn : n ≤ 10) (hN : N 1 = nI n) (T : Nat) (hTx : TxJ N T) (hsil : I 86 4 = -1) (h w : Int32) : Meth l G yX8_behind cX8_behind 5 (some (FieldType.int)) 7 0 0 [.ref 86, .int h, .int w] LAY I (fun r lay1 I1 => r = some (.int (f_behind N n h w)) ∧ lay1 = LAY ∧ ∀ q, q ≠ 90 → q ≠ 97 → q ≠ 98 → I1 q = I q) := by
  subst h87
  refine Meth.of (by decide +kernel) (by simp [Value.category]) (Nat.le_of_ble_eq_true rfl) ?_
  refine A_iload_n rfl dX8_behind_0 ?_
  refine A_iconst ic_0 dX8_behind_1 ?_
  refine A_bipush bp_100 dX8_behind_2 ?_
  refine A_callS (s_in l G _ _ _ _ _) m_X8_in ml_X8_80 rfl rfl rfl (Nat.le_of_ble_eq_true rfl) (by decide) (by decide) (by decide) dX8_behind_4 (fun _ _ _ h => congrArg List.length h.2.1) ?_
  rintro _ _ _ ⟨rfl, rfl, e9⟩
  refine AW_I e9 ?_
  clear e9
  refine A_if_eq 29 rfl dX8_behind_7 (fun cq7 => ?_) (fun cq7 => ?_)
  · skip
    refine A_ldc kc_X8_88 rfl dX8_behind_29 ?_
    refine A_iret rfl rfl rfl rfl dX8_behind_31 ?_
    have hno : ¬ ((0 ≤ h ∧ h ≤ 100) ∧ (w = 0 ∨ w = 1 ∨ w = 2 ∨ (0 ≤ w - 3 ∧ w - 3 < I 87 1 ∧ 3 ≤ w))) := by
      first
        | (have h7 := b2i_q.mp cq7; exact fun h9 => h7 h9.1)
        | (have h7 : w < 0 := cq11; have h8 := w3_gt h7; rintro ⟨_, h9 | h9 | h9 | h9⟩; exact h8.1 h9; exact h8.2.1 h9; exact h8.2.2.1 h9; exact h8.2.2.2 h9.2.2)
        | (have h7 := b2i_q.mp cq26; have h8 := w3_ne (w_ge3 cq16); rintro ⟨_, h9 | h9 | h9 | h9⟩; exact h8.1 h9; exact h8.2.1 h9; exact h8.2.2 h9; exact h7 ⟨h9.1, h9.2.1⟩)
    rw [f_behind, if_neg hno]
    exact ⟨rfl, rfl, fun _ _ _ _ => rfl⟩
  · skip
    refine A_iload_n rfl dX8_behind_10 ?_
    refine A_if_lt 29 rfl dX8_behind_11 (fun cq11 => ?_) (fun cq11 => ?_)
    · skip
      refine A_ldc kc_X8_88 rfl dX8_behind_29 ?_
      refine A_iret rfl rfl rfl rfl dX8_behind_31 ?_
      have hno : ¬ ((0 ≤ h ∧ h ≤ 100) ∧ (w = 0 ∨ w = 1 ∨ w = 2 ∨ (0 ≤ w - 3 ∧ w - 3 < I 87 1 ∧ 3 ≤ w))) := by
        first
          | (have h7 := b2i_q.mp cq7; exact fun h9 => h7 h9.1)
          | (have h7 : w < 0 := cq11; have h8 := w3_gt h7; rintro ⟨_, h9 | h9 | h9 | h9⟩; exact h8.1 h9; exact h8.2.1 h9; exact h8.2.2.1 h9; exact h8.2.2.2 h9.2.2)
          | (have h7 := b2i_q.mp cq26; have h8 := w3_ne (w_ge3 cq16); rintro ⟨_, h9 | h9 | h9 | h9⟩; exact h8.1 h9; exact h8.2.1 h9; exact h8.2.2 h9; exact h7 ⟨h9.1, h9.2.1⟩)
      rw [f_behind, if_neg hno]
      exact ⟨rfl, rfl, fun _ _ _ _ => rfl⟩
    · skip
      refine A_iload_n rfl dX8_behind_14 ?_
      refine A_iconst ic_2 dX8_behind_15 ?_
      refine A_icmp_le 32 rfl dX8_behind_16 (fun cq16 => ?_) (fun cq16 => ?_)
      · skip
        have hok : (0 ≤ h ∧ h ≤ 100) ∧ (w = 0 ∨ w = 1 ∨ w = 2 ∨ (0 ≤ w - 3 ∧ w - 3 < I 87 1 ∧ 3 ≤ w)) := by
          refine ⟨b2i_p.mp cq7, ?_⟩
          first
            | (have h7 := w_le2 cq11 cq16 ; exact h7.elim Or.inl (fun h8 => h8.elim (fun q => Or.inr (Or.inl q)) (fun q => Or.inr (Or.inr (Or.inl q)))))
            | (have h7 := b2i_p.mp cq26; exact Or.inr (Or.inr (Or.inr ⟨h7.1, h7.2, (w_ge3 cq16)⟩)))
        obtain ⟨k, hk, rfl⟩ := in_get (a := 100) rfl hok.1
        refine A_aload_n rfl dX8_behind_32 ?_
        have setR87 : (setR I 90 (cpN (I 87) (I 90) 66)) 87 = I 87 := setR_n (by decide)
        refine A_callV (t_thinks l G I) m_X8_thinks ml_X8_177 rfl lay_86 rfl (by decide) rfl rfl (Nat.le_of_ble_eq_true rfl) (by decide) (by decide) (by decide) dX8_behind_33 (fun _ _ _ h => congrArg List.length h.2.1) ?_
        rintro _ _ _ ⟨rfl, rfl, e9⟩
        refine AW_I e9 ?_
        clear e9
        refine A_aload_n rfl dX8_behind_36 ?_
        refine A_iload_n rfl dX8_behind_37 ?_
        refine A_callV (t_go l G _ _ setR87 (-1) (by rw [setR_n (by decide)]; exact hsil) n hn hN k (by omega)) m_X8_goesOn ml_X8_162 rfl lay_86 rfl (by decide) rfl rfl (Nat.le_of_ble_eq_true rfl) (by decide) (by decide) (by decide) dX8_behind_38 (fun _ _ _ h => congrArg List.length h.2.1) ?_
        rintro _ _ _ ⟨rfl, rfl, e9⟩
        refine AW_I e9 ?_
        clear e9
        refine A_istore_n (by decide) rfl dX8_behind_41 ?_
        refine A_iload_n rfl dX8_behind_42 ?_
        refine A_iconst ic_2 dX8_behind_43 ?_
        refine A_icmp_le 58 rfl dX8_behind_44 (fun cq44 => ?_) (fun cq44 => ?_)
        · skip
          refine A_aload_n rfl dX8_behind_58 ?_
          refine A_iload_n rfl dX8_behind_59 ?_
          refine A_callV (m_jury l G _ _ setN_87 n hn (go_1 hn hN k) T (hTx.kp (go_kp hn hN k)) w) m_X8_jury ml_X8_180 rfl lay_86 rfl (by decide) rfl rfl (Nat.le_of_ble_eq_true rfl) (by decide) (by decide) (by decide) dX8_behind_60 (fun _ _ _ h => congrArg List.length h.2.1) ?_
          rintro _ _ K2 ⟨rfl, rfl, hf2⟩
          refine A_istore (by decide) rfl dX8_behind_63 ?_
          refine A_aload_n rfl dX8_behind_65 ?_
          refine A_callV (t_putsBack l G _) m_X8_putsBack ml_X8_183 rfl lay_86 rfl (by decide) rfl rfl (Nat.le_of_ble_eq_true rfl) (by decide) (by decide) (by decide) dX8_behind_66 (fun _ _ _ h => congrArg List.length h.2.1) ?_
          rintro _ _ _ ⟨rfl, rfl, e9⟩
          refine AW_I e9 ?_
          clear e9
          refine A_iload rfl dX8_behind_69 ?_
          refine A_iret rfl rfl rfl rfl dX8_behind_71 ?_
          first
            | (have h7 := hwi
               have hM := ((Mind.st (I := I)).setN (M := (q_go (-1) n (I 87) k).1) (fun m hm => go_kp hn hN k m (kp_67 hm))).back hsil
               refine ⟨?_, rfl, hM.1.end_ hM.2.1 hM.2.2⟩
               rw [f_behind, if_pos hok, if_neg hne.1, if_neg hne.2.1, if_neg hne.2.2, nI_clamp (by omega), h7, nI_clamp (by omega)])
            | (have hM := (((Mind.st (I := I)).setN (M := (q_go (-1) n (I 87) k).1) (fun m hm => go_kp hn hN k m (kp_67 hm))).fr hf2).back hsil
               refine ⟨?_, rfl, hM.1.end_ hM.2.1 hM.2.2⟩
               rw [f_behind, if_pos hok, nI_clamp (by omega)]
               rcases w_le2 cq11 cq44 with rfl | rfl | rfl <;> rfl)
        · skip
          have hne := w3_ne (w_ge3 cq44)
          obtain ⟨i, hi, hwi⟩ : ∃ i, i < n ∧ w - 3 = nI i := by
            rcases hok.2 with h6 | h6 | h6 | h6
            · exact absurd h6 hne.1
            · exact absurd h6 hne.2.1
            · exact absurd h6 hne.2.2
            · exact jur_get hn hN ⟨h6.1, h6.2.1⟩
          refine A_aload_n rfl dX8_behind_47 ?_
          refine A_iload_n rfl dX8_behind_48 ?_
          refine A_iconst ic_3 dX8_behind_49 ?_
          refine A_isub dX8_behind_50 ?_
          rw [hwi]
          refine A_iconst ic_2 dX8_behind_51 ?_
          refine A_callV (t_of l G _ _ setN_87 i 2 (by omega)) m_X8_of ml_X8_94 rfl lay_86 rfl (by decide) rfl rfl (Nat.le_of_ble_eq_true rfl) (by decide) (by decide) (by decide) dX8_behind_52 (fun _ _ _ h => congrArg List.length h.2.1) ?_
          rintro _ _ _ ⟨rfl, rfl, e9⟩
          refine AW_I e9 ?_
          clear e9
          refine A_goto 63 rfl dX8_behind_55 ?_
          refine A_istore (by decide) rfl dX8_behind_63 ?_
          refine A_aload_n rfl dX8_behind_65 ?_
          refine A_callV (t_putsBack l G _) m_X8_putsBack ml_X8_183 rfl lay_86 rfl (by decide) rfl rfl (Nat.le_of_ble_eq_true rfl) (by decide) (by decide) (by decide) dX8_behind_66 (fun _ _ _ h => congrArg List.length h.2.1) ?_
          rintro _ _ _ ⟨rfl, rfl, e9⟩
          refine AW_I e9 ?_
          clear e9
          refine A_iload rfl dX8_behind_69 ?_
          refine A_iret rfl rfl rfl rfl dX8_behind_71 ?_
          first
            | (have h7 := hwi
               have hM := ((Mind.st (I := I)).setN (M := (q_go (-1) n (I 87) k).1) (fun m hm => go_kp hn hN k m (kp_67 hm))).back hsil
               refine ⟨?_, rfl, hM.1.end_ hM.2.1 hM.2.2⟩
               rw [f_behind, if_pos hok, if_neg hne.1, if_neg hne.2.1, if_neg hne.2.2, nI_clamp (by omega), h7, nI_clamp (by omega)])
            | (have hM := (((Mind.st (I := I)).setN (M := (q_go (-1) n (I 87) k).1) (fun m hm => go_kp hn hN k m (kp_67 hm))).fr hf2).back hsil
               refine ⟨?_, rfl, hM.1.end_ hM.2.1 hM.2.2⟩
               rw [f_behind, if_pos hok, nI_clamp (by omega)]
               rcases w_le2 cq11 cq44 with rfl | rfl | rfl <;> rfl)
      · skip
        refine A_aload_n rfl dX8_behind_19 ?_
        refine A_iload_n rfl dX8_behind_20 ?_
        refine A_iconst ic_3 dX8_behind_21 ?_
        refine A_isub dX8_behind_22 ?_
        refine A_callV (t_isJuror l G I _ rfl _ n hn hN) m_X8_isJuror ml_X8_118 rfl lay_86 rfl (by decide) rfl rfl (Nat.le_of_ble_eq_true rfl) (by decide) (by decide) (by decide) dX8_behind_23 (fun _ _ _ h => congrArg List.length h.2.1) ?_
        rintro _ _ _ ⟨rfl, rfl, e9⟩
        refine AW_I e9 ?_
        clear e9
        refine A_if_ne 32 rfl dX8_behind_26 (fun cq26 => ?_) (fun cq26 => ?_)
        · skip
          have hok : (0 ≤ h ∧ h ≤ 100) ∧ (w = 0 ∨ w = 1 ∨ w = 2 ∨ (0 ≤ w - 3 ∧ w - 3 < I 87 1 ∧ 3 ≤ w)) := by
            refine ⟨b2i_p.mp cq7, ?_⟩
            first
              | (have h7 := w_le2 cq11 cq16 ; exact h7.elim Or.inl (fun h8 => h8.elim (fun q => Or.inr (Or.inl q)) (fun q => Or.inr (Or.inr (Or.inl q)))))
              | (have h7 := b2i_p.mp cq26; exact Or.inr (Or.inr (Or.inr ⟨h7.1, h7.2, (w_ge3 cq16)⟩)))
          obtain ⟨k, hk, rfl⟩ := in_get (a := 100) rfl hok.1
          refine A_aload_n rfl dX8_behind_32 ?_
          have setR87 : (setR I 90 (cpN (I 87) (I 90) 66)) 87 = I 87 := setR_n (by decide)
          refine A_callV (t_thinks l G I) m_X8_thinks ml_X8_177 rfl lay_86 rfl (by decide) rfl rfl (Nat.le_of_ble_eq_true rfl) (by decide) (by decide) (by decide) dX8_behind_33 (fun _ _ _ h => congrArg List.length h.2.1) ?_
          rintro _ _ _ ⟨rfl, rfl, e9⟩
          refine AW_I e9 ?_
          clear e9
          refine A_aload_n rfl dX8_behind_36 ?_
          refine A_iload_n rfl dX8_behind_37 ?_
          refine A_callV (t_go l G _ _ setR87 (-1) (by rw [setR_n (by decide)]; exact hsil) n hn hN k (by omega)) m_X8_goesOn ml_X8_162 rfl lay_86 rfl (by decide) rfl rfl (Nat.le_of_ble_eq_true rfl) (by decide) (by decide) (by decide) dX8_behind_38 (fun _ _ _ h => congrArg List.length h.2.1) ?_
          rintro _ _ _ ⟨rfl, rfl, e9⟩
          refine AW_I e9 ?_
          clear e9
          refine A_istore_n (by decide) rfl dX8_behind_41 ?_
          refine A_iload_n rfl dX8_behind_42 ?_
          refine A_iconst ic_2 dX8_behind_43 ?_
          refine A_icmp_le 58 rfl dX8_behind_44 (fun cq44 => ?_) (fun cq44 => ?_)
          · skip
            refine A_aload_n rfl dX8_behind_58 ?_
            refine A_iload_n rfl dX8_behind_59 ?_
            refine A_callV (m_jury l G _ _ setN_87 n hn (go_1 hn hN k) T (hTx.kp (go_kp hn hN k)) w) m_X8_jury ml_X8_180 rfl lay_86 rfl (by decide) rfl rfl (Nat.le_of_ble_eq_true rfl) (by decide) (by decide) (by decide) dX8_behind_60 (fun _ _ _ h => congrArg List.length h.2.1) ?_
            rintro _ _ K2 ⟨rfl, rfl, hf2⟩
            refine A_istore (by decide) rfl dX8_behind_63 ?_
            refine A_aload_n rfl dX8_behind_65 ?_
            refine A_callV (t_putsBack l G _) m_X8_putsBack ml_X8_183 rfl lay_86 rfl (by decide) rfl rfl (Nat.le_of_ble_eq_true rfl) (by decide) (by decide) (by decide) dX8_behind_66 (fun _ _ _ h => congrArg List.length h.2.1) ?_
            rintro _ _ _ ⟨rfl, rfl, e9⟩
            refine AW_I e9 ?_
            clear e9
            refine A_iload rfl dX8_behind_69 ?_
            refine A_iret rfl rfl rfl rfl dX8_behind_71 ?_
            first
              | (have h7 := hwi
                 have hM := ((Mind.st (I := I)).setN (M := (q_go (-1) n (I 87) k).1) (fun m hm => go_kp hn hN k m (kp_67 hm))).back hsil
                 refine ⟨?_, rfl, hM.1.end_ hM.2.1 hM.2.2⟩
                 rw [f_behind, if_pos hok, if_neg hne.1, if_neg hne.2.1, if_neg hne.2.2, nI_clamp (by omega), h7, nI_clamp (by omega)])
              | (have hM := (((Mind.st (I := I)).setN (M := (q_go (-1) n (I 87) k).1) (fun m hm => go_kp hn hN k m (kp_67 hm))).fr hf2).back hsil
                 refine ⟨?_, rfl, hM.1.end_ hM.2.1 hM.2.2⟩
                 rw [f_behind, if_pos hok, nI_clamp (by omega)]
                 rcases w_le2 cq11 cq44 with rfl | rfl | rfl <;> rfl)
          · skip
            have hne := w3_ne (w_ge3 cq44)
            obtain ⟨i, hi, hwi⟩ : ∃ i, i < n ∧ w - 3 = nI i := by
              rcases hok.2 with h6 | h6 | h6 | h6
              · exact absurd h6 hne.1
              · exact absurd h6 hne.2.1
              · exact absurd h6 hne.2.2
              · exact jur_get hn hN ⟨h6.1, h6.2.1⟩
            refine A_aload_n rfl dX8_behind_47 ?_
            refine A_iload_n rfl dX8_behind_48 ?_
            refine A_iconst ic_3 dX8_behind_49 ?_
            refine A_isub dX8_behind_50 ?_
            rw [hwi]
            refine A_iconst ic_2 dX8_behind_51 ?_
            refine A_callV (t_of l G _ _ setN_87 i 2 (by omega)) m_X8_of ml_X8_94 rfl lay_86 rfl (by decide) rfl rfl (Nat.le_of_ble_eq_true rfl) (by decide) (by decide) (by decide) dX8_behind_52 (fun _ _ _ h => congrArg List.length h.2.1) ?_
            rintro _ _ _ ⟨rfl, rfl, e9⟩
            refine AW_I e9 ?_
            clear e9
            refine A_goto 63 rfl dX8_behind_55 ?_
            refine A_istore (by decide) rfl dX8_behind_63 ?_
            refine A_aload_n rfl dX8_behind_65 ?_
            refine A_callV (t_putsBack l G _) m_X8_putsBack ml_X8_183 rfl lay_86 rfl (by decide) rfl rfl (Nat.le_of_ble_eq_true rfl) (by decide) (by decide) (by decide) dX8_behind_66 (fun _ _ _ h => congrArg List.length h.2.1) ?_
            rintro _ _ _ ⟨rfl, rfl, e9⟩
            refine AW_I e9 ?_
            clear e9
            refine A_iload rfl dX8_behind_69 ?_
            refine A_iret rfl rfl rfl rfl dX8_behind_71 ?_
            first
              | (have h7 := hwi
                 have hM := ((Mind.st (I := I)).setN (M := (q_go (-1) n (I 87) k).1) (fun m hm => go_kp hn hN k m (kp_67 hm))).back hsil
                 refine ⟨?_, rfl, hM.1.end_ hM.2.1 hM.2.2⟩
                 rw [f_behind, if_pos hok, if_neg hne.1, if_neg hne.2.1, if_neg hne.2.2, nI_clamp (by omega), h7, nI_clamp (by omega)])
              | (have hM := (((Mind.st (I := I)).setN (M := (q_go (-1) n (I 87) k).1) (fun m hm => go_kp hn hN k m (kp_67 hm))).fr hf2).back hsil
                 refine ⟨?_, rfl, hM.1.end_ hM.2.1 hM.2.2⟩
                 rw [f_behind, if_pos hok, nI_clamp (by omega)]
                 rcases w_le2 cq11 cq44 with rfl | rfl | rfl <;> rfl)
        · skip
          refine A_ldc kc_X8_88 rfl dX8_behind_29 ?_
          refine A_iret rfl rfl rfl rfl dX8_behind_31 ?_
          have hno : ¬ ((0 ≤ h ∧ h ≤ 100) ∧ (w = 0 ∨ w = 1 ∨ w = 2 ∨ (0 ≤ w - 3 ∧ w - 3 < I 87 1 ∧ 3 ≤ w))) := by
            first
              | (have h7 := b2i_q.mp cq7; exact fun h9 => h7 h9.1)
              | (have h7 : w < 0 := cq11; have h8 := w3_gt h7; rintro ⟨_, h9 | h9 | h9 | h9⟩; exact h8.1 h9; exact h8.2.1 h9; exact h8.2.2.1 h9; exact h8.2.2.2 h9.2.2)
              | (have h7 := b2i_q.mp cq26; have h8 := w3_ne (w_ge3 cq16); rintro ⟨_, h9 | h9 | h9 | h9⟩; exact h8.1 h9; exact h8.2.1 h9; exact h8.2.2 h9; exact h7 ⟨h9.1, h9.2.1⟩)
          rw [f_behind, if_neg hno]
          exact ⟨rfl, rfl, fun _ _ _ _ => rfl⟩
