/-! BETWEEN TWO CALLS -/
def JW (N : Nrow) (n hh T : Nat) : Prop := n ≤ 10 ∧ N 1 = nI n ∧ hh ≤ 9999 ∧ N 2 = nI hh ∧ KnJ N ∧ DoJ N ∧ WtJ N ∧ TxJ N T ∧ ∀ i, 1438 ≤ i → N i = 0
def B1 (I : Hp) (N : Nrow) (n hh T : Nat) : Prop := I 87 = N ∧ JW N n hh T ∧ RepJ I 36 N ∧ LwR I N T
def B2 (I : Hp) (T : Nat) : Prop := I 0 9 = I 86 3 ∧ (∀ i, 1438 ≤ i → I 88 i = 0) ∧ (¬ I 86 3 = 0 → ∃ n1 hh1 T1, T1 ≤ T ∧ JW (I 88) n1 hh1 T1 ∧ RepJ I 44 (I 88) ∧ LwR I (I 88) T1)
def B3 (I : Hp) (S Z : Nrow) (C : Fn2) : Prop := ShC I S Z C ∧ ShM I S Z C ∧ ShW S Z C
def B4 (I : Hp) (H A B : Nrow) (E : Fn2) : Prop := SlC I H A B E ∧ SlM I H A B E ∧ SlW H A
def B5 (I : Hp) (wt : Nat) : Prop := wt ≤ 60 ∧ I 0 8 = nI wt ∧ I 86 33 = nI wt ∧ I 85 = I 107
def B6 (I : Hp) (L : Nat) : Prop := I 32 0 = nI L ∧ I 86 7 = nI L ∧ I 33 = I 91 ∧ lx_B (I 33) L
def B7 (I : Hp) : Prop := I 86 4 = -1 ∧ KyM I
abbrev IV (I : Hp) (N : Nrow) (n hh T : Nat) (S Z : Nrow) (C : Fn2) (H A B : Nrow) (E : Fn2) (wt L : Nat) : Prop := B1 I N n hh T ∧ B2 I T ∧ B3 I S Z C ∧ B4 I H A B E ∧ B5 I wt ∧ B6 I L ∧ B7 I
def INV (I : Hp) : Prop := ∃ N n hh T S Z C H A B E wt L, IV I N n hh T S Z C H A B E wt L
section FRM
variable {I J : Hp} {N : Nrow} {n hh T : Nat} {S Z : Nrow} {C : Fn2} {H A B : Nrow} {E : Fn2} {wt L : Nat}
theorem B1.fr (h : B1 I N n hh T) (h87 : J 87 = I 87) (h36 : ∀ q, 36 ≤ q → q < 44 → J q = I q) (h4 : ∀ q, 4 ≤ q → q < 32 → J q = I q) : B1 J N n hh T := ⟨h87.trans h.1, h.2.1, h.2.2.1.other (fun q a b => h36 q a (by omega)), h.2.2.2.fr h.2.1.2.2.2.2.2.2.2.1.1 h4⟩
theorem B2.fr (h : B2 I T) (h0 : J 0 9 = I 0 9) (h3 : J 86 3 = I 86 3) (h88 : J 88 = I 88) (h44 : ∀ q, 44 ≤ q → q < 52 → J q = I q) (h4 : ∀ q, 4 ≤ q → q < 32 → J q = I q) : B2 J T := by
  refine ⟨by rw [h0, h3]; exact h.1, fun i hi => by rw [h88]; exact h.2.1 i hi, fun hq => ?_⟩
  rw [h3] at hq
  obtain ⟨n1, hh1, T1, a, b, c, d⟩ := h.2.2 hq
  exact ⟨n1, hh1, T1, a, by rw [h88]; exact b, by rw [h88]; exact c.other (fun q a b => h44 q a (by omega)), by rw [h88]; exact d.fr b.2.2.2.2.2.2.2.1.1 h4⟩
theorem B3.fr (h : B3 I S Z C) (h1 : ∀ q, 61 ≤ q → q < 69 → J q = I q) (h2 : J 99 = I 99) (h3 : J 100 = I 100) (h4 : J 101 = I 101) : B3 J S Z C := by
  refine ⟨fun s hs => ?_, ?_, h.2.2⟩
  · rw [h1 (61 + 2 * s) (by omega) (by omega), h1 (61 + 2 * s + 1) (by omega) (by omega)]; exact h.1 s hs
  · unfold ShM; rw [h2, h3, h4]; exact h.2.1
theorem B4.fr (h : B4 I H A B E) (h1 : ∀ q, 70 ≤ q → q < 85 → J q = I q) (h2 : ∀ q, 102 ≤ q → q < 106 → J q = I q) : B4 J H A B E := by
  refine ⟨fun s hs => ?_, ?_, h.2.2⟩
  · rw [h1 (70 + 3 * s) (by omega) (by omega), h1 (70 + 3 * s + 1) (by omega) (by omega), h1 (70 + 3 * s + 1 + 1) (by omega) (by omega)]; exact h.1 s hs
  · unfold SlM; rw [h2 102 (by decide) (by decide), h2 103 (by decide) (by decide), h2 104 (by decide) (by decide), h2 105 (by decide) (by decide)]; exact h.2.1
theorem B5.fr (h : B5 I wt) (h1 : J 0 8 = I 0 8) (h2 : J 86 33 = I 86 33) (h3 : J 85 = I 85) (h4 : J 107 = I 107) : B5 J wt := ⟨h.1, h1.trans h.2.1, h2.trans h.2.2.1, by rw [h3, h4]; exact h.2.2.2⟩
theorem B6.fr (h : B6 I L) (h1 : J 32 0 = I 32 0) (h2 : J 86 7 = I 86 7) (h3 : J 33 = I 33) (h4 : J 91 = I 91) : B6 J L := ⟨h1.trans h.1, h2.trans h.2.1, by rw [h3, h4]; exact h.2.2.1, by rw [h3]; exact h.2.2.2⟩
theorem B7.fr (h : B7 I) (h1 : J 86 4 = I 86 4) (h2 : J 92 = I 92) (h3 : J 93 = I 93) : B7 J := ⟨h1.trans h.1, by unfold KyM; rw [h2, h3]; exact h.2⟩
/-- what only thoughts change -/
theorem IV.fr (h : IV I N n hh T S Z C H A B E wt L) (hf : ∀ q, q ≠ 2 → (q < 52 ∨ 60 ≤ q) → q ≠ 34 → q ≠ 35 → q ≠ 89 → q ≠ 90 → q ≠ 94 → q ≠ 95 → q ≠ 96 → q ≠ 97 → q ≠ 98 → J q = I q) : IV J N n hh T S Z C H A B E wt L :=
  have e : ∀ q, q ≠ 2 → (q < 34 ∨ (36 ≤ q ∧ q < 52) ∨ (60 ≤ q ∧ q < 89) ∨ (91 ≤ q ∧ q < 94) ∨ 99 ≤ q) → J q = I q := fun q a b => hf q a (by omega) (by omega) (by omega) (by omega) (by omega) (by omega) (by omega) (by omega) (by omega) (by omega)
  ⟨h.1.fr (e 87 (by decide) (by decide)) (fun q a b => e q (by omega) (by omega)) (fun q a b => e q (by omega) (by omega)), h.2.1.fr (by rw [e 0 (by decide) (by decide)]) (by rw [e 86 (by decide) (by decide)]) (e 88 (by decide) (by decide)) (fun q a b => e q (by omega) (by omega)) (fun q a b => e q (by omega) (by omega)), h.2.2.1.fr (fun q a b => e q (by omega) (by omega)) (e 99 (by decide) (by decide)) (e 100 (by decide) (by decide)) (e 101 (by decide) (by decide)), h.2.2.2.1.fr (fun q a b => e q (by omega) (by omega)) (fun q a b => e q (by omega) (by omega)), h.2.2.2.2.1.fr (by rw [e 0 (by decide) (by decide)]) (by rw [e 86 (by decide) (by decide)]) (e 85 (by decide) (by decide)) (e 107 (by decide) (by decide)), h.2.2.2.2.2.1.fr (by rw [e 32 (by decide) (by decide)]) (by rw [e 86 (by decide) (by decide)]) (e 33 (by decide) (by decide)) (e 91 (by decide) (by decide)), h.2.2.2.2.2.2.fr (by rw [e 86 (by decide) (by decide)]) (e 92 (by decide) (by decide)) (e 93 (by decide) (by decide))⟩
theorem IV.tho (h : IV I N n hh T S Z C H A B E wt L) (hf : Tho I J) : IV J N n hh T S Z C H A B E wt L := h.fr (fun q a b _ _ _ _ _ _ _ _ _ => hf q b a)
theorem IV.st (h : IV I N n hh T S Z C H A B E wt L) (hf : ∀ q, q ≠ 2 → J q = I q) : IV J N n hh T S Z C H A B E wt L := h.fr (fun q a _ _ _ _ _ _ _ _ _ _ => hf q a)
theorem IV.m1 (h : IV I N n hh T S Z C H A B E wt L) (hf : ∀ q, q ≠ 97 → q ≠ 98 → J q = I q) : IV J N n hh T S Z C H A B E wt L := h.fr (fun q _ _ _ _ _ _ _ _ _ a b => hf q a b)
theorem IV.m2 (h : IV I N n hh T S Z C H A B E wt L) (hf : ∀ q, q ≠ 90 → q ≠ 97 → q ≠ 98 → J q = I q) : IV J N n hh T S Z C H A B E wt L := h.fr (fun q _ _ _ _ _ c _ _ _ a b => hf q c a b)
/-- the jury that is now becomes another -/
theorem IV.row {I1 : Hp} {N1 : Nrow} {n1 hh1 : Nat} (h : IV I N n hh T S Z C H A B E wt L) (hn : NowC I I1 N1) (hj : JW N1 n1 hh1 T) (hk : ∀ m, 66 ≤ m → N1 m = N m) : IV (setN I1 N1) N1 n1 hh1 T S Z C H A B E wt L := by
  have e : ∀ q, (q < 36 ∨ 44 ≤ q) → q ≠ 87 → (setN I1 N1) q = I q := fun q a b => by rw [setN_ne b]; exact hn.2 q a
  refine ⟨⟨setN_87, hj, hn.1.other (fun q a b => setN_ne (by omega)), ?_⟩, h.2.1.fr (by rw [e 0 (by decide) (by decide)]) (by rw [e 86 (by decide) (by decide)]) (e 88 (by decide) (by decide)) (fun q a b => e q (by omega) (by omega)) (fun q a b => e q (by omega) (by omega)), h.2.2.1.fr (fun q a b => e q (by omega) (by omega)) (e 99 (by decide) (by decide)) (e 100 (by decide) (by decide)) (e 101 (by decide) (by decide)), h.2.2.2.1.fr (fun q a b => e q (by omega) (by omega)) (fun q a b => e q (by omega) (by omega)), h.2.2.2.2.1.fr (by rw [e 0 (by decide) (by decide)]) (by rw [e 86 (by decide) (by decide)]) (e 85 (by decide) (by decide)) (e 107 (by decide) (by decide)), h.2.2.2.2.2.1.fr (by rw [e 32 (by decide) (by decide)]) (by rw [e 86 (by decide) (by decide)]) (e 33 (by decide) (by decide)) (e 91 (by decide) (by decide)), h.2.2.2.2.2.2.fr (by rw [e 86 (by decide) (by decide)]) (e 92 (by decide) (by decide)) (e 93 (by decide) (by decide))⟩
  have hl : LwR I N1 T := fun t ht => by
    obtain ⟨key, len, a1, a2, a3, a4, a5, a6, a7⟩ := h.1.2.2.2 t ht
    exact ⟨key, len, a1, a2, by rw [hk _ (by omega)]; exact a3, a4, by rw [hk _ (by omega)]; exact a5, a6, fun k q => by rw [hk _ (by omega)]; exact a7 k q⟩
  exact hl.fr hj.2.2.2.2.2.2.2.1.1 (fun q a b => e q (by omega) (by omega))
end FRM
/-! rows: what stays right -/
section JWR
variable {N : Nrow} {n hh T : Nat}
theorem JW.of {M : Nrow} {n1 hh1 : Nat} (h : JW N n hh T) (h0 : n1 ≤ 10) (h1 : M 1 = nI n1) (h2 : hh1 ≤ 9999) (h3 : M 2 = nI hh1) (h4 : KnJ M) (h5 : DoJ M) (h6 : WtJ M) (h7 : M 7 = N 7) (h8 : ∀ m, 66 ≤ m → M m = N m) : JW M n1 hh1 T := by
  refine ⟨h0, h1, h2, h3, h4, h5, h6, ⟨h.2.2.2.2.2.2.2.1.1, h7.trans h.2.2.2.2.2.2.2.1.2.1, fun t ht => ?_⟩, fun i hi => by rw [h8 i (by omega)]; exact h.2.2.2.2.2.2.2.2 i hi⟩
  obtain ⟨key, len, a1, a2, a3⟩ := h.2.2.2.2.2.2.2.1.2.2 t ht
  refine ⟨key, len, a1, by rw [h8 _ (by omega)]; exact a2, ?_⟩
  have e2 : (fun k => M (94 + 96 * t + k)) = fun k => N (94 + 96 * t + k) := by funext k; exact h8 _ (by omega)
  rw [e2]; exact a3
theorem JW.up {m : Nat} {x : Int32} (h : JW N n hh T) (hm : m < 66) (h1 : m ≠ 1) (h2 : m ≠ 2) (h7 : m ≠ 7) (hk : ∀ i, i < 10 → m = 18 + 5 * i → ∃ v, v < 256 ∧ x = nI v) (hd : ∀ i, i < 10 → m = 19 + 5 * i → ∃ v, v ≤ 40 ∧ x = nI v) (hw : ∀ f, f < 8 → m = 8 + f → -50 ≤ x ∧ x ≤ 50) : JW (upd N m x) n hh T := by
  refine h.of h.1 (by rw [upd_n (Ne.symm h1)]; exact h.2.1) h.2.2.1 (by rw [upd_n (Ne.symm h2)]; exact h.2.2.2.1) (fun i hi => ?_) (fun i hi => ?_) (fun f hf => ?_) (upd_n (Ne.symm h7)) (fun q hq => upd_n (by omega))
  · by_cases e : m = 18 + 5 * i
    · rw [← e, upd_s]; exact hk i hi e
    · rw [upd_n (Ne.symm e)]; exact h.2.2.2.2.1 i hi
  · by_cases e : m = 19 + 5 * i
    · rw [← e, upd_s]; exact hd i hi e
    · rw [upd_n (Ne.symm e)]; exact h.2.2.2.2.2.1 i hi
  · by_cases e : m = 8 + f
    · rw [← e, upd_s]; exact hw f hf e
    · rw [upd_n (Ne.symm e)]; exact h.2.2.2.2.2.2.1 f hf
theorem JW.sz {x : Int32} {n1 : Nat} (h : JW N n hh T) (hn : n1 ≤ 10) (hx : x = nI n1) : JW (upd N 1 x) n1 hh T :=
  h.of hn (by rw [upd_s]; exact hx) h.2.2.1 (by rw [upd_n (by decide)]; exact h.2.2.2.1) (fun i hi => by rw [upd_n (by omega)]; exact h.2.2.2.2.1 i hi) (fun i hi => by rw [upd_n (by omega)]; exact h.2.2.2.2.2.1 i hi) (fun f hf => by rw [upd_n (by omega)]; exact h.2.2.2.2.2.2.1 f hf) (upd_n (by decide)) (fun q hq => upd_n (by omega))
theorem JW.seed {v : Int32} (h : JW N n hh T) : JW (upd N 0 v) n hh T := h.up (by decide) (by decide) (by decide) (by decide) (fun i _ e => by omega) (fun i _ e => by omega) (fun f _ e => by omega)
theorem JW.add {k s w d : Int32} {wv dv : Nat} (h : JW N n hh T) (hn : n < 10) (hw : w = nI wv) (hw2 : wv < 256) (hd : d = nI dv) (hd2 : dv ≤ 40) : JW (q_add N n k s w d) (n + 1) hh T := by
  unfold q_add
  refine JW.sz (n := n) ?_ (by omega) (by rw [h.2.1, nI_1])
  refine JW.up ?_ (by omega) (by omega) (by omega) (by omega) (fun i _ e => by omega) (fun i _ e => by omega) (fun f _ e => by omega)
  refine JW.up ?_ (by omega) (by omega) (by omega) (by omega) (fun i _ e => by omega) (fun i _ e => ⟨dv, hd2, hd⟩) (fun f _ e => by omega)
  refine JW.up ?_ (by omega) (by omega) (by omega) (by omega) (fun i _ e => ⟨wv, hw2, hw⟩) (fun i _ e => by omega) (fun f _ e => by omega)
  refine JW.up ?_ (by omega) (by omega) (by omega) (by omega) (fun i _ e => by omega) (fun i _ e => by omega) (fun f _ e => by omega)
  exact h.up (by omega) (by omega) (by omega) (by omega) (fun i _ e => by omega) (fun i _ e => by omega) (fun f _ e => by omega)
theorem r_nI (z : Int32) : ∃ m, m < 2 ^ 24 ∧ q_r z = nI m := by
  refine ⟨(q_r z).toBitVec.toNat, ?_, (nI_back _).symm⟩
  have e : ((8 : Int32).toUInt32 &&& Int32.toUInt32 31) = (8 : UInt32) := by decide
  unfold q_r
  rw [e]
  show (z.toUInt32 >>> (8 : UInt32)).toNat < 2 ^ 24
  rw [UInt32.toNat_shiftRight]
  have h1 := z.toUInt32.toNat_lt
  rw [show ((8 : UInt32).toNat % 32) = 8 from rfl, Nat.shiftRight_eq_div_pow]
  omega
theorem irem_nI {m d : Nat} (hm : m < 2 ^ 31) (hd : 0 < d) (hd2 : d < 2 ^ 31) : irem (nI m) (nI d) = nI (m % d) := by
  unfold irem
  have h1 : m / d * d ≤ m := Nat.div_mul_le_self m d
  rw [pk_div hm hd hd2, pk_mul, sub_nI h1, Nat.mod_eq_sub_mul_div, Nat.mul_comm]
theorem JW.lot (h : JW N n hh T) (hn : n < 10) : JW (q_lot N n) (n + 1) hh T := by
  unfold q_lot
  try dsimp only
  obtain ⟨m3, h3, e3⟩ := r_nI (q_z (q_z (q_z (N 0))))
  obtain ⟨m4, h4, e4⟩ := r_nI (q_z (q_z (q_z (q_z (N 0)))))
  refine JW.add (wv := m3 % 256) (dv := m4 % 30) (JW.seed (JW.seed (JW.seed (JW.seed h)))) hn ?_ (by omega) ?_ (by omega)
  · rw [e3, show (256 : Int32) = nI 256 from rfl, irem_nI (by omega) (by decide) (by decide)]
  · rw [e4, show (30 : Int32) = nI 30 from rfl, irem_nI (by omega) (by decide) (by decide)]
theorem JW.lots (h : JW N n hh T) : ∀ k, n + k ≤ 10 → JW (q_lots N n k) (n + k) hh T
  | 0, _ => h
  | k + 1, hk => by rw [q_lots]; exact (JW.lots h k (by omega)).lot (by omega)
theorem add_66 {k s w d : Int32} {m : Nat} (hn : n < 10) (hm : 66 ≤ m) : q_add N n k s w d m = N m := by
  unfold q_add
  rw [upd_n (by omega), upd_n (by omega), upd_n (by omega), upd_n (by omega), upd_n (by omega), upd_n (by omega)]
theorem lots_66 {m : Nat} (hm : 66 ≤ m) : ∀ k, n + k ≤ 10 → q_lots N n k m = N m
  | 0, _ => rfl
  | k + 1, hk => by
    rw [q_lots]
    unfold q_lot
    try dsimp only
    rw [add_66 (by omega) hm, upd_n (by omega), upd_n (by omega), upd_n (by omega), upd_n (by omega)]
    exact lots_66 hm k (by omega)
theorem pair_2 {sil : Int32} {k : Nat} (hn : n ≤ 10) (hN : N 1 = nI n) (hk : k < n) : (q_pair sil N k).1 2 = N 2 := by
  obtain ⟨c, hc1, hc2⟩ := par_in hN (by omega) hn (nI k)
  unfold q_pair
  split
  · try dsimp only
    split
    · try dsimp only
      rw [upd_n (by decide), upd_n (by decide)]
    · try dsimp only
      rw [hc2, nI_clamp (by omega), pass_1 (by omega) (by omega), pass_1 (by omega) (by omega), upd_n (by decide)]
  · rfl
theorem hourL_2 {sil : Int32} (hn : n ≤ 10) (hN : N 1 = nI n) : ∀ k, k ≤ n → (q_hourL sil N k).1 2 = N 2
  | 0, _ => rfl
  | k + 1, h => by
    have h1 := hourL_kp (sil := sil) hn hN k (by omega)
    exact (pair_2 hn ((h1 1 kp_1).trans hN) (by omega)).trans (hourL_2 hn hN k (by omega))
theorem go_2 {sil : Int32} (hn : n ≤ 10) (hN : N 1 = nI n) (h2 : N 2 = nI hh) : ∀ k, (q_go sil n N k).1 2 = nI (hh + k)
  | 0 => h2
  | k + 1 => by
    show (q_hour sil (q_go sil n N k).1 n).1 2 = _
    unfold q_hour
    try dsimp only
    rw [upd_s, hourL_2 hn (go_1 hn hN k) n (Nat.le_refl n), go_2 hn hN h2 k, nI_1]
    rfl
theorem kp_8 {f : Nat} (h : f < 8) : kpM (8 + f) := ⟨by omega, by omega, by omega, by omega, fun j hj => by omega⟩
theorem JW.kp {M : Nrow} {hh1 : Nat} (h : JW N n hh T) (k : Kp N M) (hk : KnJ M) (h2 : hh1 ≤ 9999) (h3 : M 2 = nI hh1) : JW M n hh1 T :=
  h.of h.1 ((k 1 kp_1).trans h.2.1) h2 h3 hk (h.2.2.2.2.2.1.kp k) (fun f hf => by rw [k _ (kp_8 hf)]; exact h.2.2.2.2.2.2.1 f hf) (k 7 kp_7) (fun m hm => k m (kp_67 hm))
end JWR
