section STQ
variable {I I1 I2 : Hp} {N : Nrow} {n hh T : Nat} {S Z : Nrow} {C : Fn2} {H A B : Nrow} {E : Fn2} {wt L : Nat}
theorem IV.sl {H1 A1 B9 : Nrow} {E1 : Fn2} (h : IV I N n hh T S Z C H A B E wt L) (h1 : ∀ q, (q < 70 ∨ 85 ≤ q) → I1 q = I q) (h2 : SlC I1 H1 A1 B9 E1) (h3 : ∀ q, (q ≠ 102 ∧ q ≠ 103 ∧ q ≠ 104 ∧ q ≠ 105) → I2 q = I1 q) (h4 : SlM I2 H1 A1 B9 E1) (h5 : SlW H1 A1) : INV I2 := by
  have e : ∀ q, (q < 70 ∨ 85 ≤ q) → (q < 102 ∨ 106 ≤ q) → I2 q = I q := fun q a b => (h3 q (by omega)).trans (h1 q a)
  refine ⟨N, n, hh, T, S, Z, C, H1, A1, B9, E1, wt, L, h.1.fr (e 87 (by decide) (by decide)) (fun q a b => e q (by omega) (by omega)) (fun q a b => e q (by omega) (by omega)), h.2.1.fr (by rw [e 0 (by decide) (by decide)]) (by rw [e 86 (by decide) (by decide)]) (e 88 (by decide) (by decide)) (fun q a b => e q (by omega) (by omega)) (fun q a b => e q (by omega) (by omega)), h.2.2.1.fr (fun q a b => e q (by omega) (by omega)) (e 99 (by decide) (by decide)) (e 100 (by decide) (by decide)) (e 101 (by decide) (by decide)), ⟨fun s hs => ?_, h4, h5⟩, h.2.2.2.2.1.fr (by rw [e 0 (by decide) (by decide)]) (by rw [e 86 (by decide) (by decide)]) (e 85 (by decide) (by decide)) (e 107 (by decide) (by decide)), h.2.2.2.2.2.1.fr (by rw [e 32 (by decide) (by decide)]) (by rw [e 86 (by decide) (by decide)]) (e 33 (by decide) (by decide)) (e 91 (by decide) (by decide)), h.2.2.2.2.2.2.fr (by rw [e 86 (by decide) (by decide)]) (e 92 (by decide) (by decide)) (e 93 (by decide) (by decide))⟩
  rw [h3 (70 + 3 * s) (by omega), h3 (70 + 3 * s + 1) (by omega), h3 (70 + 3 * s + 1 + 1) (by omega)]
  exact h2 s hs
theorem slw_lay (hW : SlW H A) (hSW : ShW S Z C) (q t x : Int32) : SlW (if (g_lay S H N q t x).2 then upd H q.toNatClampNeg t else H) (if (g_lay S H N q t x).2 then upd A q.toNatClampNeg (a_lay Z N t x) else A) := by
  by_cases hg : (g_lay S H N q t x).2 = true
  · rw [if_pos hg, if_pos hg]
    unfold g_lay at hg
    by_cases h1 : (0 ≤ q ∧ q ≤ 4) ∧ (0 ≤ t ∧ t ≤ 3)
    · rw [if_pos h1] at hg
      have ht : t = 0 ∨ t = 1 ∨ t = 2 ∨ t = 3 := by
        obtain ⟨z, hz, rfl⟩ := in_get (a := 3) rfl h1.2
        rcases (show z = 0 ∨ z = 1 ∨ z = 2 ∨ z = 3 by omega) with rfl | rfl | rfl | rfl
        · exact Or.inl rfl
        · exact Or.inr (Or.inl rfl)
        · exact Or.inr (Or.inr (Or.inl rfl))
        · exact Or.inr (Or.inr (Or.inr rfl))
      intro s hs
      by_cases e : s = q.toNatClampNeg
      · subst e
        rw [upd_s, upd_s]
        refine ⟨ht, fun h2 => ?_⟩
        subst h2
        rw [if_neg (by decide), if_pos rfl] at hg
        by_cases h3 : 0 ≤ x ∧ x ≤ 3
        · obtain ⟨u, hu, rfl⟩ := in_get (a := 3) rfl h3
          unfold a_lay
          rw [if_neg (by decide), if_pos rfl, nI_clamp (by omega)]
          exact (hSW u (by omega)).2.1
        · rw [if_neg h3] at hg; cases hg
      · rw [upd_n e, upd_n e]; exact hW s hs
    · rw [if_neg h1] at hg; cases hg
  · rw [if_neg hg, if_neg hg]; exact hW
/-! few cells -/
theorem IV.few {L1 wt1 : Nat} (h : IV I N n hh T S Z C H A B E wt L) (hq : ∀ q, q ≠ 0 → q ≠ 2 → (q < 52 ∨ 60 ≤ q) → q ≠ 32 → q ≠ 33 → q ≠ 34 → q ≠ 35 → q ≠ 85 → q ≠ 86 → q ≠ 89 → q ≠ 91 → q ≠ 94 → q ≠ 95 → q ≠ 96 → q ≠ 97 → q ≠ 98 → q ≠ 107 → I2 q = I q) (h9 : I2 0 9 = I 0 9) (h3 : I2 86 3 = I 86 3) (h4 : I2 86 4 = I 86 4) (h5 : B5 I2 wt1) (h6 : B6 I2 L1) : INV I2 := by
  have e : ∀ q, q ≠ 2 → ((1 ≤ q ∧ q < 32) ∨ (36 ≤ q ∧ q < 52) ∨ (60 ≤ q ∧ q < 85) ∨ (87 ≤ q ∧ q < 89) ∨ (92 ≤ q ∧ q < 94) ∨ (99 ≤ q ∧ q < 107)) → I2 q = I q := fun q a b => hq q (by omega) a (by omega) (by omega) (by omega) (by omega) (by omega) (by omega) (by omega) (by omega) (by omega) (by omega) (by omega) (by omega) (by omega) (by omega) (by omega)
  exact ⟨N, n, hh, T, S, Z, C, H, A, B, E, wt1, L1, h.1.fr (e 87 (by decide) (by decide)) (fun q a b => e q (by omega) (by omega)) (fun q a b => if q2 : q = 2 then by omega else e q q2 (by omega)), h.2.1.fr h9 h3 (e 88 (by decide) (by decide)) (fun q a b => e q (by omega) (by omega)) (fun q a b => e q (by omega) (by omega)), h.2.2.1.fr (fun q a b => e q (by omega) (by omega)) (e 99 (by decide) (by decide)) (e 100 (by decide) (by decide)) (e 101 (by decide) (by decide)), h.2.2.2.1.fr (fun q a b => e q (by omega) (by omega)) (fun q a b => e q (by omega) (by omega)), h5, h6, h.2.2.2.2.2.2.fr h4 (e 92 (by decide) (by decide)) (e 93 (by decide) (by decide))⟩
theorem IV.tell {x : Int32} (h : IV I N n hh T S Z C H A B E wt L) (h1 : I1 = if wt = 60 then I else up2 (up2 I 85 wt x) 0 8 (nI (wt + 1))) (h2 : I2 = if wt = 60 then I1 else up2 (up2 I1 107 wt x) 86 33 (nI (wt + 1))) : INV I2 := by
  by_cases hw : wt = 60
  · rw [if_pos hw] at h1 h2
    subst h1; subst h2
    exact ⟨_, _, _, _, _, _, _, _, _, _, _, _, _, h⟩
  · rw [if_neg hw] at h1 h2
    subst h1; subst h2
    have h5 := h.2.2.2.2.1
    refine h.few (L1 := L) (wt1 := wt + 1) (fun q a b c d e f g i j k l m o p r s t => ?_) ?_ ?_ ?_ ⟨by have := h5.1; omega, ?_, up2_same, ?_⟩ (h.2.2.2.2.2.1.fr ?_ ?_ ?_ ?_)
    · rw [up2_ne j, up2_ne t, up2_ne a, up2_ne i]
    · rw [up2_ne (by decide), up2_ne (by decide), up2_ni (by decide), up2_ne (by decide)]
    · rw [up2_ni (by decide), up2_ne (by decide), up2_ne (by decide), up2_ne (by decide)]
    · rw [up2_ni (by decide), up2_ne (by decide), up2_ne (by decide), up2_ne (by decide)]
    · rw [up2_ne (by decide), up2_ne (by decide), up2_same]
    · rw [up2_ne (by decide), up2_ne (by decide), up2_ne (by decide), up2_row, up2_ne (by decide), up2_row, up2_ne (by decide), up2_ne (by decide), h5.2.2.2]
    · rw [up2_ne (by decide), up2_ne (by decide), up2_ne (by decide), up2_ne (by decide)]
    · rw [up2_ni (by decide), up2_ne (by decide), up2_ne (by decide), up2_ne (by decide)]
    · rw [up2_ne (by decide), up2_ne (by decide), up2_ne (by decide), up2_ne (by decide)]
    · rw [up2_ne (by decide), up2_ne (by decide), up2_ne (by decide), up2_ne (by decide)]
theorem IV.check (h : IV I N n hh T S Z C H A B E wt L) (h1 : CkC I I1) (h2 : I2 86 33 = 0) (h3 : ∀ j, j ≠ 33 → I2 86 j = I1 86 j) (h4 : ∀ q, q ≠ 86 → q ≠ 89 → q ≠ 97 → q ≠ 98 → I2 q = I1 q) : INV I2 := by
  have h5 := h.2.2.2.2.1
  have e86 : I1 86 = I 86 := h1.2.2 86 (by decide) (by decide) (by decide)
  have e0 : I2 0 = I1 0 := h4 0 (by decide) (by decide) (by decide) (by decide)
  refine h.few (L1 := L) (wt1 := 0) (fun q a b c d e f g i j k l m o p r s t => ?_) ?_ ?_ ?_ ⟨by decide, ?_, h2, ?_⟩ (h.2.2.2.2.2.1.fr ?_ ?_ ?_ ?_)
  · rw [h4 q (by assumption) (by assumption) (by assumption) (by assumption)]; exact h1.2.2 q a c b
  · rw [e0]; exact h1.2.1 9 (by decide)
  · rw [h3 3 (by decide), e86]
  · rw [h3 4 (by decide), e86]
  · rw [e0]; exact h1.1
  · rw [h4 85 (by decide) (by decide) (by decide) (by decide), h4 107 (by decide) (by decide) (by decide) (by decide), h1.2.2 85 (by decide) (by decide) (by decide), h1.2.2 107 (by decide) (by decide) (by decide)]; exact h5.2.2.2
  · rw [h4 32 (by decide) (by decide) (by decide) (by decide), h1.2.2 32 (by decide) (by decide) (by decide)]
  · rw [h3 7 (by decide), e86]
  · rw [h4 33 (by decide) (by decide) (by decide) (by decide), h1.2.2 33 (by decide) (by decide) (by decide)]
  · rw [h4 91 (by decide) (by decide) (by decide) (by decide), h1.2.2 91 (by decide) (by decide) (by decide)]
theorem byte_in (x : Int32) (k : Nat) : ∃ v, v < 256 ∧ q_byte x k = nI v := by
  unfold q_byte
  rw [Int32.and_comm]
  exact and_lt (show (255 : Int32) = nI 255 from rfl) (by decide)
theorem word_in {f : Nat → Int32} {L : Nat} {x : Int32} (h : ∀ k, k < L → ∃ v, v < 256 ∧ f k = nI v) : ∀ k, k < L + 4 → ∃ v, v < 256 ∧ t_word f L x 4 k = nI v := by
  intro k hk
  unfold t_word
  split
  · exact byte_in _ _
  · exact h k (by omega)
theorem feed_in {f : Nat → Int32} {L : Nat} {a b c : Int32} (h : lx_B f L) (hL : L + 12 ≤ 96) : lx_B (t_feed f L a b c) (L + 12) := ⟨hL, fun k hk => word_in (L := L + 4 + 4) (word_in (L := L + 4) (word_in h.2)) k (by omega)⟩
theorem IV.feed {a b c : Int32} (h : IV I N n hh T S Z C H A B E wt L) (hl : ¬ 84 < L) (h1 : I1 32 0 = nI (L + 12)) (h2 : I1 33 = t_feed (I 33) L a b c) (h4 : ∀ q, q ≠ 32 → q ≠ 33 → I1 q = I q) (k1 : I2 86 7 = nI (L + 12)) (k2 : I2 91 = t_feed (I1 91) L a b c) (k3 : ∀ j, j ≠ 7 → I2 86 j = I1 86 j) (k4 : ∀ q, q ≠ 86 → q ≠ 91 → I2 q = I1 q) : INV I2 := by
  have h6 := h.2.2.2.2.2.1
  have e86 : I1 86 = I 86 := h4 86 (by decide) (by decide)
  refine h.few (L1 := L + 12) (wt1 := wt) (fun q a b c d e f g i j k l m o p r s t => ?_) ?_ ?_ ?_ (h.2.2.2.2.1.fr ?_ ?_ ?_ ?_) ⟨?_, k1, ?_, ?_⟩
  · rw [k4 q (by assumption) (by assumption)]; exact h4 q (by assumption) (by assumption)
  · rw [k4 0 (by decide) (by decide), h4 0 (by decide) (by decide)]
  · rw [k3 3 (by decide), e86]
  · rw [k3 4 (by decide), e86]
  · rw [k4 0 (by decide) (by decide), h4 0 (by decide) (by decide)]
  · rw [k3 33 (by decide), e86]
  · rw [k4 85 (by decide) (by decide), h4 85 (by decide) (by decide)]
  · rw [k4 107 (by decide) (by decide), h4 107 (by decide) (by decide)]
  · rw [k4 32 (by decide) (by decide)]; exact h1
  · rw [k4 33 (by decide) (by decide), h2, k2, h4 91 (by decide) (by decide), h6.2.2.1]
  · rw [k4 33 (by decide) (by decide), h2]; exact feed_in h6.2.2.2 (by omega)
theorem trim_in {L : Nat} (hL : L ≤ 96) (x : Int32) : ∃ L1, L1 ≤ L ∧ t_trim (nI L) x = nI L1 := by
  unfold t_trim
  split
  · next hx =>
    obtain ⟨z, hz, rfl⟩ := nI_of (Int32.not_lt.mpr hx.1)
    exact ⟨z, (nI_leI hz (by omega)).mp hx.2, rfl⟩
  · exact ⟨L, Nat.le_refl _, rfl⟩
theorem IV.trim {x : Int32} (h : IV I N n hh T S Z C H A B E wt L) (h1 : I1 = up2 I 32 0 (t_trim (I 32 0) x)) (h2 : I2 = up2 I1 86 7 (t_trim (I1 86 7) x)) : INV I2 := by
  subst h1; subst h2
  have h6 := h.2.2.2.2.2.1
  obtain ⟨L1, hl, el⟩ := trim_in h6.2.2.2.1 x
  refine h.few (L1 := L1) (wt1 := wt) (fun q a b c d e f g i j k l m o p r s t => ?_) ?_ ?_ ?_ (h.2.2.2.2.1.fr ?_ ?_ ?_ ?_) ⟨?_, ?_, ?_, ?_⟩
  · rw [up2_ne (by assumption), up2_ne (by assumption)]
  · rw [up2_ne (by decide), up2_ne (by decide)]
  · rw [up2_ni (by decide), up2_ne (by decide)]
  · rw [up2_ni (by decide), up2_ne (by decide)]
  · rw [up2_ne (by decide), up2_ne (by decide)]
  · rw [up2_ni (by decide), up2_ne (by decide)]
  · rw [up2_ne (by decide), up2_ne (by decide)]
  · rw [up2_ne (by decide), up2_ne (by decide)]
  · rw [up2_ne (by decide), up2_same, h6.1]; exact el
  · rw [up2_same, up2_ne (by decide), h6.2.1]; exact el
  · rw [up2_ne (by decide), up2_ne (by decide), up2_ne (by decide), up2_ne (by decide)]; exact h6.2.2.1
  · rw [up2_ne (by decide), up2_ne (by decide)]; exact ⟨by have := h6.2.2.2.1; omega, fun k hk => h6.2.2.2.2 k (by omega)⟩
theorem cp_eq {f g : Nrow} (hf : ∀ i, 1438 ≤ i → f i = 0) (hg : ∀ i, 1438 ≤ i → g i = 0) : cpN f g 1438 = f := by
  funext i
  unfold cpN
  split
  · rfl
  · rw [hf i (by omega), hg i (by omega)]
theorem IV.keep (h : IV I N n hh T S Z C H A B E wt L) (h1 : I1 = up2 (beJ I 36 44) 0 9 1) (h2 : I2 = up2 (setR I1 88 (cpN (I1 87) (I1 88) 1438)) 86 3 1) : INV I2 := by
  have e1 : ∀ q, q ≠ 0 → (q < 44 ∨ 52 ≤ q) → I1 q = I q := fun q a b => by rw [h1, up2_ne a, beJ_o (by omega)]
  have er : cpN (I1 87) (I1 88) 1438 = N := by
    rw [e1 87 (by decide) (by decide), e1 88 (by decide) (by decide), h.1.1]
    exact cp_eq h.1.2.1.2.2.2.2.2.2.2.2 h.2.1.2.1
  rw [er] at h2
  have e2 : ∀ q, q ≠ 0 → q ≠ 86 → q ≠ 88 → (q < 44 ∨ 52 ≤ q) → I2 q = I q := fun q a b c d => by rw [h2, up2_ne b, setR_n c]; exact e1 q a d
  have e3 : ∀ j, j ≠ 3 → I2 86 j = I 86 j := fun j hj => by rw [h2, up2_ni hj, setR_n (by decide), e1 86 (by decide) (by decide)]
  have e4 : ∀ j, j ≠ 9 → I2 0 j = I 0 j := fun j hj => by rw [h2, up2_ne (by decide), setR_n (by decide), h1, up2_ni hj, beJ_o (by decide)]
  have e5 : I2 88 = N := by rw [h2, up2_ne (by decide), setR_s]
  have e6 : I2 86 3 = 1 := by rw [h2, up2_same]
  have e7 : I2 0 9 = 1 := by rw [h2, up2_ne (by decide), setR_n (by decide), h1, up2_same]
  refine ⟨N, n, hh, T, S, Z, C, H, A, B, E, wt, L, h.1.fr (e2 87 (by decide) (by decide) (by decide) (by decide)) (fun q a b => e2 q (by omega) (by omega) (by omega) (by omega)) (fun q a b => e2 q (by omega) (by omega) (by omega) (by omega)), ⟨by rw [e6, e7], fun i hi => by rw [e5]; exact h.1.2.1.2.2.2.2.2.2.2.2 i hi, fun _ => ⟨n, hh, T, Nat.le_refl _, by rw [e5]; exact h.1.2.1, ?_, ?_⟩⟩, h.2.2.1.fr (fun q a b => e2 q (by omega) (by omega) (by omega) (by omega)) (e2 99 (by decide) (by decide) (by decide) (by decide)) (e2 100 (by decide) (by decide) (by decide) (by decide)) (e2 101 (by decide) (by decide) (by decide) (by decide)), h.2.2.2.1.fr (fun q a b => e2 q (by omega) (by omega) (by omega) (by omega)) (fun q a b => e2 q (by omega) (by omega) (by omega) (by omega)), h.2.2.2.2.1.fr (e4 8 (by decide)) (e3 33 (by decide)) (e2 85 (by decide) (by decide) (by decide) (by decide)) (e2 107 (by decide) (by decide) (by decide) (by decide)), h.2.2.2.2.2.1.fr (by rw [e2 32 (by decide) (by decide) (by decide) (by decide)]) (e3 7 (by decide)) (e2 33 (by decide) (by decide) (by decide) (by decide)) (e2 91 (by decide) (by decide) (by decide) (by decide)), h.2.2.2.2.2.2.fr (e3 4 (by decide)) (e2 92 (by decide) (by decide) (by decide) (by decide)) (e2 93 (by decide) (by decide) (by decide) (by decide))⟩
  · rw [e5]
    have hb : RepJ (beJ I 36 44) 44 N := h.1.2.2.1.be (by decide)
    exact hb.other (fun q a b => by rw [h2, up2_ne (by omega), setR_n (by omega), h1, up2_ne (by omega)])
  · rw [e5]
    exact h.1.2.2.2.fr h.1.2.1.2.2.2.2.2.2.2.1.1 (fun q a b => e2 q (by omega) (by omega) (by omega) (by omega))
theorem IV.back (h : IV I N n hh T S Z C H A B E wt L) (h1 : I1 = if I 0 9 = 0 then I else beJ I 44 36) (h2 : I2 = if I1 86 3 = 0 then I1 else setR I1 87 (cpN (I1 88) (I1 87) 1438)) : INV I2 ∧ (if I 0 9 = 0 then (-1000000002 : Int32) else I 44 8) = if I1 86 3 = 0 then -1000000002 else I1 88 1 := by
  by_cases h0 : I 0 9 = 0
  · rw [if_pos h0] at h1
    subst h1
    have h3 : I1 86 3 = 0 := by rw [← h.2.1.1]; exact h0
    rw [if_pos h3] at h2
    subst h2
    exact ⟨⟨_, _, _, _, _, _, _, _, _, _, _, _, _, h⟩, by rw [if_pos h0, if_pos h3]⟩
  · rw [if_neg h0] at h1
    have e1 : ∀ q, (q < 36 ∨ 44 ≤ q) → I1 q = I q := fun q a => by rw [h1, beJ_o (by omega)]
    have h3 : ¬ I 86 3 = 0 := by rw [← h.2.1.1]; exact h0
    have h4 : ¬ I1 86 3 = 0 := by rw [e1 86 (by decide)]; exact h3
    obtain ⟨n1, hh1, T1, ht, hj, hr, hl⟩ := h.2.1.2.2 h3
    have er : cpN (I1 88) (I1 87) 1438 = I 88 := by
      rw [e1 87 (by decide), e1 88 (by decide), h.1.1]
      exact cp_eq h.2.1.2.1 h.1.2.1.2.2.2.2.2.2.2.2
    rw [if_neg h4, er] at h2
    have e2 : ∀ q, q ≠ 87 → (q < 36 ∨ 44 ≤ q) → I2 q = I q := fun q a b => by rw [h2, setR_n a]; exact e1 q b
    have hl2 : LwR I2 (I 88) T1 := hl.fr hj.2.2.2.2.2.2.2.1.1 (fun q a b => e2 q (by omega) (by omega))
    refine ⟨⟨I 88, n1, hh1, T1, S, Z, C, H, A, B, E, wt, L, ⟨by rw [h2, setR_s], hj, ?_, hl2⟩, ⟨by rw [e2 0 (by decide) (by decide), e2 86 (by decide) (by decide)]; exact h.2.1.1, fun i hi => by rw [e2 88 (by decide) (by decide)]; exact h.2.1.2.1 i hi, fun _ => ⟨n1, hh1, T1, Nat.le_refl _, by rw [e2 88 (by decide) (by decide)]; exact hj, by rw [e2 88 (by decide) (by decide)]; exact hr.other (fun q a b => e2 q (by omega) (by omega)), by rw [e2 88 (by decide) (by decide)]; exact hl2⟩⟩, h.2.2.1.fr (fun q a b => e2 q (by omega) (by omega)) (e2 99 (by decide) (by decide)) (e2 100 (by decide) (by decide)) (e2 101 (by decide) (by decide)), h.2.2.2.1.fr (fun q a b => e2 q (by omega) (by omega)) (fun q a b => e2 q (by omega) (by omega)), h.2.2.2.2.1.fr (by rw [e2 0 (by decide) (by decide)]) (by rw [e2 86 (by decide) (by decide)]) (e2 85 (by decide) (by decide)) (e2 107 (by decide) (by decide)), h.2.2.2.2.2.1.fr (by rw [e2 32 (by decide) (by decide)]) (by rw [e2 86 (by decide) (by decide)]) (e2 33 (by decide) (by decide)) (e2 91 (by decide) (by decide)), h.2.2.2.2.2.2.fr (by rw [e2 86 (by decide) (by decide)]) (e2 92 (by decide) (by decide)) (e2 93 (by decide) (by decide))⟩, ?_⟩
    · have hb : RepJ (beJ I 44 36) 36 (I 88) := hr.be (by decide)
      exact hb.other (fun q a b => by rw [h2, setR_n (by omega), h1])
    · rw [if_neg h0, if_neg h4, e1 88 (by decide)]
      exact hr.1.1
end STQ
