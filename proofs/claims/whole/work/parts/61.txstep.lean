theorem run_up {B : Nat → Int32} {L key : Nat} : ∀ (n : Nat) (τ : Tok) (w : Bool) (σ c : List Int32) (p : Nat) (ts : Nat → Bool) (r : Bool × Nat × List Int32), m_run B L key n τ w σ c p ts = some r → m_run B L key (n + 1) τ w σ c p ts = some r
  | 0, τ, w, σ, c, p, ts, r => fun h => by rw [run_0] at h; cases h
  | n + 1, τ, true, σ, c, p, ts, r => fun h => by
    rw [m_run] at h
    rw [m_run]
    by_cases h1 : τ.2.2.1 = 3 ∧ B τ.1 = 33 ∧ m_nts σ < 8
    · rw [if_pos h1] at h ⊢
      exact run_up n _ _ _ _ _ _ r h
    · rw [if_neg h1] at h ⊢
      by_cases h2 : τ.2.2.1 = 3 ∧ B τ.1 = 40 ∧ p < 8
      · rw [if_pos h2] at h ⊢
        exact run_up n _ _ _ _ _ _ r h
      · rw [if_neg h2] at h ⊢
        cases hat : lx_atom B key τ with
        | none => rw [hat] at h; exact h
        | some v =>
          rw [hat] at h
          exact run_up n _ _ _ _ _ _ r h
  | n + 1, τ, false, σ, c, p, ts, r => fun h => by
    rw [m_run] at h
    rw [m_run]
    by_cases h1 : τ.2.2.1 = 0
    · rw [if_pos h1] at h ⊢; exact h
    · rw [if_neg h1] at h ⊢
      by_cases h2 : τ.2.2.1 = 3 ∧ B τ.1 = 41 ∧ 0 < p
      · rw [if_pos h2] at h ⊢
        cases hs : (m_stl 0 σ c).1 with
        | nil => rw [hs] at h; cases h
        | cons y s =>
          rw [hs] at h
          exact run_up n _ _ _ _ _ _ r h
      · rw [if_neg h2] at h ⊢
        by_cases h3 : lx_sg B τ = 0 ∨ (m_rk (lx_sg B τ) = 3 ∧ ts p = true)
        · rw [if_pos h3] at h ⊢; exact h
        · rw [if_neg h3] at h ⊢
          exact run_up n _ _ _ _ _ _ r h
theorem run_le {B : Nat → Int32} {L key : Nat} {n : Nat} {τ : Tok} {w : Bool} {σ c : List Int32} {p : Nat} {ts : Nat → Bool} {r : Bool × Nat × List Int32} (h : m_run B L key n τ w σ c p ts = some r) : ∀ k, m_run B L key (n + k) τ w σ c p ts = some r
  | 0 => h
  | k + 1 => run_up (n + k) _ _ _ _ _ _ _ (run_le h k)
theorem run_det {B : Nat → Int32} {L key : Nat} {n m : Nat} {τ : Tok} {w : Bool} {σ c : List Int32} {p : Nat} {ts : Nat → Bool} {r r2 : Bool × Nat × List Int32} (h : m_run B L key n τ w σ c p ts = some r) (h2 : m_run B L key m τ w σ c p ts = some r2) : r = r2 := by
  have a := run_le h m
  have b := run_le h2 n
  rw [Nat.add_comm m n, a] at b
  exact Option.some.inj b
theorem dp_congr {cd ce : Nat → Int32} : ∀ k, (∀ i, i < k → ce i = cd i) → q_dp ce k = q_dp cd k
  | 0, _ => rfl
  | k + 1, h => by rw [q_dp, q_dp, h k (by omega), dp_congr k (fun i hi => h i (by omega))]
theorem WfT.congr {cd ce : Nat → Int32} {len nn : Nat} (h : WfT cd len nn) (he : ∀ i, i < len → ce i = cd i) : WfT ce len nn := by
  refine ⟨h.1, by rw [dp_congr len he]; exact h.2.1, fun k hk => ?_⟩
  rw [he k hk, dp_congr k (fun i hi => he i (by omega))]
  exact h.2.2 k hk
section TXS
variable {I I1 I2 : Hp} {N : Nrow} {n hh T : Nat} {S Z : Nrow} {C : Fn2} {H A B : Nrow} {E : Fn2} {wt L : Nat}
theorem JW.tx {key : Nat} {D : List Int32} (h : JW N n hh T) (hT : T < 14) (hkey : key ≤ 2) (hw : m_wf (nnk key) D) (hd : m_dp D = 1) (hD : D.length ≤ 96) : JW (txN N T key D) n hh (T + 1) := by
  refine ⟨h.1, by rw [tx_lo (by decide) (by decide)]; exact h.2.1, h.2.2.1, by rw [tx_lo (by decide) (by decide)]; exact h.2.2.2.1, fun i hi => by rw [tx_lo (by omega) (by omega)]; exact h.2.2.2.2.1 i hi, fun i hi => by rw [tx_lo (by omega) (by omega)]; exact h.2.2.2.2.2.1 i hi, fun f hf => by rw [tx_lo (by omega) (by omega)]; exact h.2.2.2.2.2.2.1 f hf, ⟨by omega, tx_7, fun t ht => ?_⟩, fun i hi => ?_⟩
  · by_cases e : t = T
    · subst e
      refine ⟨key, D.length, hkey, tx_T, ?_⟩
      have hr : RepL (fun k => txN N t key D (94 + 96 * t + k)) D := (cdL_rep D).congr (fun k hk => tx_c hT hk)
      exact rep_WfT hr hw hd hD
    · obtain ⟨ky, len, a1, a2, a3⟩ := h.2.2.2.2.2.2.2.1.2.2 t (by omega)
      exact ⟨ky, len, a1, by rw [(tx_66 (by omega) hT).1]; exact a2, a3.congr (fun k hk => tx_94 (by omega) hT (by have := a3.1; omega))⟩
  · unfold txN
    rw [if_neg (by omega), if_neg (by omega), if_neg (by omega), if_neg (by omega)]
    exact h.2.2.2.2.2.2.2.2 i hi
theorem LwR.fr2 {J : Hp} (h : LwR I N T) (k : ∀ t, t < T → J (4 + 2 * t) = I (4 + 2 * t) ∧ J (4 + 2 * t + 1) = I (4 + 2 * t + 1)) : LwR J N T := fun t ht => by
  rw [(k t ht).1, (k t ht).2]
  exact h t ht
/-- a text that failed, or found no room -/
theorem IV.text0 (h : IV I N n hh T S Z C H A B E wt L) (h0 : I1 32 0 = 0) (h1 : ∀ q, q ≠ 32 → q ≠ 34 → q ≠ 35 → I1 q = I q) (k0 : I2 86 7 = 0) (k1 : ∀ j, j ≠ 7 → j ≠ 8 → j ≠ 9 → j ≠ 10 → j ≠ 11 → j ≠ 12 → j ≠ 13 → j ≠ 17 → j ≠ 18 → j ≠ 20 → I2 86 j = I1 86 j) (k2 : ∀ q, q ≠ 86 → q ≠ 94 → q ≠ 95 → q ≠ 96 → I2 q = I1 q) : INV I2 := by
  have e86 : I1 86 = I 86 := h1 86 (by decide) (by decide) (by decide)
  have e : ∀ q, q ≠ 32 → q ≠ 34 → q ≠ 35 → q ≠ 86 → q ≠ 94 → q ≠ 95 → q ≠ 96 → I2 q = I q := fun q a b c d e f g => (k2 q d e f g).trans (h1 q a b c)
  have h6 := h.2.2.2.2.2.1
  refine h.few (L1 := 0) (wt1 := wt) (fun q _ _ _ _ _ _ _ _ _ _ _ _ _ _ _ _ _ => e q (by assumption) (by assumption) (by assumption) (by assumption) (by assumption) (by assumption) (by assumption)) ?_ ?_ ?_ (h.2.2.2.2.1.fr ?_ ?_ ?_ ?_) ⟨?_, k0, ?_, ⟨by decide, fun k hk => by omega⟩⟩
  · rw [e 0 (by decide) (by decide) (by decide) (by decide) (by decide) (by decide) (by decide)]
  · rw [k1 3 (by decide) (by decide) (by decide) (by decide) (by decide) (by decide) (by decide) (by decide) (by decide) (by decide), e86]
  · rw [k1 4 (by decide) (by decide) (by decide) (by decide) (by decide) (by decide) (by decide) (by decide) (by decide) (by decide), e86]
  · rw [e 0 (by decide) (by decide) (by decide) (by decide) (by decide) (by decide) (by decide)]
  · rw [k1 33 (by decide) (by decide) (by decide) (by decide) (by decide) (by decide) (by decide) (by decide) (by decide) (by decide), e86]
  · exact e 85 (by decide) (by decide) (by decide) (by decide) (by decide) (by decide) (by decide)
  · exact e 107 (by decide) (by decide) (by decide) (by decide) (by decide) (by decide) (by decide)
  · rw [k2 32 (by decide) (by decide) (by decide) (by decide)]; exact h0
  · rw [e 33 (by decide) (by decide) (by decide) (by decide) (by decide) (by decide) (by decide), e 91 (by decide) (by decide) (by decide) (by decide) (by decide) (by decide) (by decide)]; exact h6.2.2.1
/-- one more text -/
theorem IV.text1 {key : Nat} {D : List Int32} (h : IV I N n hh T S Z C H A B E wt L) (hT : T < 14) (hkey : key ≤ 2) (hw : m_wf (nnk key) D) (hd : m_dp D = 1) (hD : D.length ≤ 96) (h0 : I1 32 0 = 0) (hr : RepJ I1 36 (txN N T key D)) (hl : LawOf I1 T key D) (h1 : ∀ q, q ≠ 32 → q ≠ 34 → q ≠ 35 → q ≠ 36 → q ≠ 43 → q ≠ 4 + 2 * T → q ≠ 5 + 2 * T → I1 q = I q) (k0 : I2 86 7 = 0) (k1 : ∀ j, j ≠ 7 → j ≠ 8 → j ≠ 9 → j ≠ 10 → j ≠ 11 → j ≠ 12 → j ≠ 13 → j ≠ 17 → j ≠ 18 → j ≠ 20 → I2 86 j = I1 86 j) (k3 : I2 87 = txN N T key D) (k2 : ∀ q, q ≠ 86 → q ≠ 87 → q ≠ 94 → q ≠ 95 → q ≠ 96 → I2 q = I1 q) : INV I2 := by
  have e86 : I1 86 = I 86 := h1 86 (by decide) (by decide) (by decide) (by decide) (by decide) (by omega) (by omega)
  have e : ∀ q, (q < 4 ∨ 44 ≤ q) → q ≠ 86 → q ≠ 87 → q ≠ 94 → q ≠ 95 → q ≠ 96 → I2 q = I q := fun q a b c d f g => (k2 q b c d f g).trans (h1 q (by omega) (by omega) (by omega) (by omega) (by omega) (by omega) (by omega))
  have hJ := h.1.2.1.tx hT hkey hw hd hD
  have h6 := h.2.2.2.2.2.1
  have hlw : ∀ (M : Nrow) (T1 : Nat), T1 ≤ T → LwR I M T1 → LwR I2 M T1 := fun M T1 ht hh => hh.fr2 (fun t htt => ⟨by rw [k2 _ (by omega) (by omega) (by omega) (by omega) (by omega), h1 _ (by omega) (by omega) (by omega) (by omega) (by omega) (by omega) (by omega)], by rw [k2 _ (by omega) (by omega) (by omega) (by omega) (by omega), h1 _ (by omega) (by omega) (by omega) (by omega) (by omega) (by omega) (by omega)]⟩)
  have f86 : ∀ j, j = 3 ∨ j = 4 ∨ j = 33 → I2 86 j = I 86 j := fun j hj => by rw [k1 j (by omega) (by omega) (by omega) (by omega) (by omega) (by omega) (by omega) (by omega) (by omega) (by omega), e86]
  refine ⟨txN N T key D, n, hh, T + 1, S, Z, C, H, A, B, E, wt, 0, ⟨k3, hJ, hr.other (fun q a b => k2 q (by omega) (by omega) (by omega) (by omega) (by omega)), ?_⟩, ⟨?_, ?_, ?_⟩, h.2.2.1.fr (fun q a b => e q (by omega) (by omega) (by omega) (by omega) (by omega) (by omega)) (e 99 (by decide) (by decide) (by decide) (by decide) (by decide) (by decide)) (e 100 (by decide) (by decide) (by decide) (by decide) (by decide) (by decide)) (e 101 (by decide) (by decide) (by decide) (by decide) (by decide) (by decide)), h.2.2.2.1.fr (fun q a b => e q (by omega) (by omega) (by omega) (by omega) (by omega) (by omega)) (fun q a b => e q (by omega) (by omega) (by omega) (by omega) (by omega) (by omega)), h.2.2.2.2.1.fr (by rw [e 0 (by decide) (by decide) (by decide) (by decide) (by decide) (by decide)]) (f86 33 (by decide)) (e 85 (by decide) (by decide) (by decide) (by decide) (by decide) (by decide)) (e 107 (by decide) (by decide) (by decide) (by decide) (by decide) (by decide)), ⟨?_, k0, ?_, ⟨by decide, fun k hk => by omega⟩⟩, h.2.2.2.2.2.2.fr (f86 4 (by decide)) (e 92 (by decide) (by decide) (by decide) (by decide) (by decide) (by decide)) (e 93 (by decide) (by decide) (by decide) (by decide) (by decide) (by decide))⟩
  · intro t ht
    by_cases et : t = T
    · subst et
      refine ⟨key, D.length, hkey, hD, tx_T, ?_, ?_, ?_, fun k hk => ?_⟩
      · rw [k2 _ (by omega) (by omega) (by omega) (by omega) (by omega)]; exact hl.1
      · rw [k2 _ (by omega) (by omega) (by omega) (by omega) (by omega), tx_T1]; exact hl.2.1
      · rw [k2 _ (by omega) (by omega) (by omega) (by omega) (by omega)]; exact hl.2.2.1
      · rw [k2 _ (by omega) (by omega) (by omega) (by omega) (by omega), tx_c hT hk]; exact hl.2.2.2 k hk
    · obtain ⟨ky, len, a1, a2, a3, a4, a5, a6, a7⟩ := hlw N T (Nat.le_refl _) h.1.2.2.2 t (by omega)
      exact ⟨ky, len, a1, a2, by rw [(tx_66 (by omega) hT).1]; exact a3, a4, by rw [(tx_66 (by omega) hT).2]; exact a5, a6, fun k hk => by rw [tx_94 (by omega) hT (by omega)]; exact a7 k hk⟩
  · rw [e 0 (by decide) (by decide) (by decide) (by decide) (by decide) (by decide), f86 3 (by decide)]; exact h.2.1.1
  · intro i hi; rw [e 88 (by decide) (by decide) (by decide) (by decide) (by decide) (by decide)]; exact h.2.1.2.1 i hi
  · intro hq
    rw [f86 3 (by decide)] at hq
    obtain ⟨n1, hh1, T1, a, b, c, d⟩ := h.2.1.2.2 hq
    rw [e 88 (by decide) (by decide) (by decide) (by decide) (by decide) (by decide)]
    exact ⟨n1, hh1, T1, by omega, b, c.other (fun q a b => e q (by omega) (by omega) (by omega) (by omega) (by omega) (by omega)), hlw _ T1 a d⟩
  · rw [k2 32 (by decide) (by decide) (by decide) (by decide) (by decide)]; exact h0
  · rw [k2 33 (by decide) (by decide) (by decide) (by decide) (by decide), h1 33 (by decide) (by decide) (by decide) (by decide) (by decide) (by omega) (by omega), e 91 (by decide) (by decide) (by decide) (by decide) (by decide) (by decide)]; exact h6.2.2.1
end TXS
