/-! THE TEXTS: words and signs of a tape (B, of length L), and the reference's reading of them as a pure machine -/
abbrev Tok : Type := Nat × Nat × Nat × Bool
def lx_so (b : Int32) : Nat := if b < 0 then 0 else if 97 ≤ b ∧ b ≤ 122 then 1 else if 48 ≤ b ∧ b ≤ 57 then 2 else 3
def lx_at (B : Nat → Int32) (L p : Nat) : Int32 := if p < L then B p else -1
def lx_sk (B : Nat → Int32) (L : Nat) : Nat → Nat → Nat
  | 0, p => p
  | n + 1, p => if p < L ∧ B p = 32 then lx_sk B L n (p + 1) else p
def lx_run (B : Nat → Int32) (L k : Nat) : Nat → Nat → Nat
  | 0, p => p
  | n + 1, p => if p < L ∧ lx_so (B p) = k then lx_run B L k n (p + 1) else p
def lx_f (B : Nat → Int32) (L p : Nat) : Nat := lx_sk B L (L - p) p
def lx_k (B : Nat → Int32) (L f : Nat) : Nat := lx_so (lx_at B L f)
def lx_t (B : Nat → Int32) (L f k : Nat) : Nat := if k = 0 then f else if k = 3 then f + 1 else lx_run B L k (L - (f + 1)) (f + 1)
def lx_s (p f k : Nat) (w : Bool) : Bool := w && decide (f = p) && (decide (k = 1) || decide (k = 2))
def lx (B : Nat → Int32) (L p : Nat) (w : Bool) : Tok := (lx_f B L p, lx_t B L (lx_f B L p) (lx_k B L (lx_f B L p)), lx_k B L (lx_f B L p), lx_s p (lx_f B L p) (lx_k B L (lx_f B L p)) w)
def lx_w (k : Nat) : Bool := decide (k = 1) || decide (k = 2)
def lx_nx (B : Nat → Int32) (L : Nat) (τ : Tok) : Tok := lx B L τ.2.1 (lx_w τ.2.2.1)
/-- bytes -/
def lx_B (B : Nat → Int32) (L : Nat) : Prop := L ≤ 96 ∧ ∀ k, k < L → ∃ v, v < 256 ∧ B k = nI v
theorem sk_ge (B : Nat → Int32) (L : Nat) : ∀ n p, p ≤ lx_sk B L n p ∧ lx_sk B L n p ≤ p + n
  | 0, p => ⟨Nat.le_refl _, Nat.le_refl _⟩
  | n + 1, p => by
    rw [lx_sk]
    split
    · have h := sk_ge B L n (p + 1); omega
    · omega
theorem run_ge (B : Nat → Int32) (L k : Nat) : ∀ n p, p ≤ lx_run B L k n p ∧ lx_run B L k n p ≤ p + n
  | 0, p => ⟨Nat.le_refl _, Nat.le_refl _⟩
  | n + 1, p => by
    rw [lx_run]
    split
    · have h := run_ge B L k n (p + 1); omega
    · omega
theorem run_all (B : Nat → Int32) (L k : Nat) : ∀ n p i, p ≤ i → i < lx_run B L k n p → lx_so (B i) = k
  | 0, p, i => fun h1 h2 => by rw [lx_run] at h2; omega
  | n + 1, p, i => fun h1 h2 => by
    rw [lx_run] at h2
    split at h2
    · next h =>
      by_cases e : i = p
      · subst e; exact h.2
      · exact run_all B L k n (p + 1) i (by omega) h2
    · omega
theorem sk_st {B : Nat → Int32} {L p : Nat} (h1 : p < L) (h2 : B p = 32) : lx_f B L p = lx_f B L (p + 1) := by
  unfold lx_f
  rw [show L - p = (L - (p + 1)) + 1 by omega, lx_sk, if_pos ⟨h1, h2⟩]
theorem sk_no {B : Nat → Int32} {L p : Nat} (h : ¬ (p < L ∧ B p = 32)) : lx_f B L p = p := by
  unfold lx_f
  cases L - p with
  | zero => rfl
  | succ n => rw [lx_sk, if_neg h]
theorem so_0 {b : Int32} (h : ¬ b < 0) : ¬ lx_so b = 0 := by
  unfold lx_so
  rw [if_neg h]
  repeat' split
  all_goals decide
theorem so_3 (b : Int32) : lx_so b ≤ 3 := by
  unfold lx_so
  repeat' split
  all_goals decide
theorem lx_kB {B : Nat → Int32} {L f : Nat} (hB : lx_B B L) : lx_k B L f = 0 ↔ L ≤ f := by
  unfold lx_k lx_at
  by_cases h : f < L
  · rw [if_pos h]
    obtain ⟨v, hv, e⟩ := hB.2 f h
    rw [e]
    exact ⟨fun q => absurd q (so_0 (nI_pos (by omega))), fun q => by omega⟩
  · rw [if_neg h]
    exact ⟨fun _ => by omega, fun _ => rfl⟩
/-- what holds of a word or sign at hand -/
def lx_I (B : Nat → Int32) (L : Nat) (τ : Tok) : Prop := τ.1 ≤ L ∧ τ.1 ≤ τ.2.1 ∧ τ.2.1 ≤ L ∧ τ.2.2.1 ≤ 3 ∧ (τ.2.2.1 = 0 ↔ τ.1 = L) ∧ (τ.2.2.1 ≠ 0 → τ.1 + 1 ≤ τ.2.1) ∧ (τ.2.2.1 = 0 → τ.2.1 = τ.1) ∧ (τ.2.2.1 = 3 → τ.2.1 = τ.1 + 1) ∧ τ.2.2.1 = lx_k B L τ.1 ∧ (∀ i, τ.1 ≤ i → i < τ.2.1 → τ.2.2.1 = 1 ∨ τ.2.2.1 = 2 → lx_so (B i) = τ.2.2.1) ∧ (τ.2.2.2 = true → τ.2.2.1 = 1 ∨ τ.2.2.1 = 2)
theorem lx_I.of {B : Nat → Int32} {L p : Nat} {w : Bool} (hB : lx_B B L) (hp : p ≤ L) : lx_I B L (lx B L p w) := by
  have h1 := sk_ge B L (L - p) p
  have hf : lx_f B L p ≤ L := by unfold lx_f; omega
  have hk := lx_kB (f := lx_f B L p) hB
  have hr := run_ge B L (lx_k B L (lx_f B L p)) (L - (lx_f B L p + 1)) (lx_f B L p + 1)
  refine ⟨hf, ?_, ?_, so_3 _, ?_, ?_, ?_, ?_, rfl, ?_, ?_⟩
  · show lx_f B L p ≤ lx_t B L (lx_f B L p) (lx_k B L (lx_f B L p))
    unfold lx_t; repeat' split
    all_goals omega
  · show lx_t B L (lx_f B L p) (lx_k B L (lx_f B L p)) ≤ L
    unfold lx_t; repeat' split
    all_goals omega
  · show lx_k B L (lx_f B L p) = 0 ↔ lx_f B L p = L
    omega
  · intro h
    show lx_f B L p + 1 ≤ lx_t B L (lx_f B L p) (lx_k B L (lx_f B L p))
    have h : lx_k B L (lx_f B L p) ≠ 0 := h
    unfold lx_t; rw [if_neg h]; split <;> omega
  · intro h
    have h : lx_k B L (lx_f B L p) = 0 := h
    show lx_t B L (lx_f B L p) (lx_k B L (lx_f B L p)) = lx_f B L p
    unfold lx_t; rw [if_pos h]
  · intro h
    have h : lx_k B L (lx_f B L p) = 3 := h
    show lx_t B L (lx_f B L p) (lx_k B L (lx_f B L p)) = lx_f B L p + 1
    unfold lx_t; rw [if_neg (by omega), if_pos h]
  · intro i h1 h2 h3
    have h1 : lx_f B L p ≤ i := h1
    have h3 : lx_k B L (lx_f B L p) = 1 ∨ lx_k B L (lx_f B L p) = 2 := h3
    have h2 : i < lx_t B L (lx_f B L p) (lx_k B L (lx_f B L p)) := h2
    show lx_so (B i) = lx_k B L (lx_f B L p)
    unfold lx_t at h2
    rw [if_neg (by omega), if_neg (by omega)] at h2
    by_cases e : i = lx_f B L p
    · subst e
      have : lx_f B L p < L := by omega
      unfold lx_k lx_at; rw [if_pos this]
    · exact run_all B L _ _ _ i (by omega) h2
  · intro h
    have h : lx_s p (lx_f B L p) (lx_k B L (lx_f B L p)) w = true := h
    show lx_k B L (lx_f B L p) = 1 ∨ lx_k B L (lx_f B L p) = 2
    unfold lx_s at h
    simp only [Bool.and_eq_true, Bool.or_eq_true, decide_eq_true_eq] at h
    exact h.2
theorem lx_I.nx {B : Nat → Int32} {L : Nat} {τ : Tok} (hB : lx_B B L) (h : lx_I B L τ) : lx_I B L (lx_nx B L τ) := lx_I.of hB h.2.2.1
theorem lx_nx_f {B : Nat → Int32} {L : Nat} {τ : Tok} (h : lx_I B L τ) (hk : τ.2.2.1 ≠ 0) : τ.1 + 1 ≤ (lx_nx B L τ).1 := by
  have h1 := sk_ge B L (L - τ.2.1) τ.2.1
  have h2 := h.2.2.2.2.2.1 hk
  show τ.1 + 1 ≤ lx_f B L τ.2.1
  unfold lx_f; omega
theorem lx_at_f {B : Nat → Int32} {L : Nat} {τ : Tok} (h : lx_I B L τ) (hk : τ.2.2.1 ≠ 0) : τ.1 < L ∧ lx_at B L τ.1 = B τ.1 ∧ lx_so (B τ.1) = τ.2.2.1 := by
  have h1 : τ.1 < L := by have := h.2.2.2.2.1; have := h.1; omega
  have h2 := h.2.2.2.2.2.2.2.2.1
  refine ⟨h1, by unfold lx_at; rw [if_pos h1], ?_⟩
  rw [h2]; unfold lx_k lx_at; rw [if_pos h1]
/-- numbers, names, signs -/
def lx_num (B : Nat → Int32) (f : Nat) : Nat → Int32
  | 0 => 0
  | n + 1 => lx_num B f n * 10 + B (f + n) - 48
def lx_nm (key : Nat) (b : Int32) : Int32 := if key = 0 then (if b = 107 then 0 else if b = 119 then 1 else if b = 100 then 2 else -1) else if key = 1 then (if b = 104 then 0 else if b = 115 then 1 else -1) else (if b = 112 then 0 else if b = 98 then 1 else -1)
def lx_atom (B : Nat → Int32) (key : Nat) (τ : Tok) : Option Int32 :=
  if τ.2.2.2 = true then none else if τ.2.2.1 = 2 then (if τ.2.1 - τ.1 ≤ 4 then some (lx_num B τ.1 (τ.2.1 - τ.1)) else none) else if τ.2.2.1 = 1 then (if τ.2.1 - τ.1 = 1 ∧ 0 ≤ lx_nm key (B τ.1) then some (10000 + lx_nm key (B τ.1)) else none) else none
def lx_sgb (b : Int32) : Int32 := if b = 124 then -1 else if b = 38 then -2 else if b = 60 then -3 else if b = 61 then -4 else if b = 62 then -5 else if b = 43 then -6 else if b = 45 then -7 else if b = 42 then -8 else if b = 47 then -9 else 0
def lx_sg (B : Nat → Int32) (τ : Tok) : Int32 := if τ.2.2.1 = 3 then lx_sgb (B τ.1) else 0
def m_rk (x : Int32) : Nat := if x = -1 then 1 else if x = -2 then 2 else if -5 ≤ x then 3 else if -7 ≤ x then 4 else if -9 ≤ x then 5 else 6
def m_stl (r : Nat) : List Int32 → List Int32 → List Int32 × List Int32
  | [], c => ([], c)
  | x :: σ, c => if x ≠ -11 ∧ r ≤ m_rk x then m_stl r σ (x :: c) else (x :: σ, c)
def m_nts : List Int32 → Nat
  | [] => 0
  | x :: σ => m_nts σ + if x = -10 then 1 else 0
/-- the reference's reading: what is at hand, whether a piece is wanted, the signs that wait (the last first), the code (the last first), how many ( are open, tested -/
def m_run (B : Nat → Int32) (L key : Nat) : Nat → Tok → Bool → List Int32 → List Int32 → Nat → (Nat → Bool) → Option (Bool × Nat × List Int32)
  | 0, _, _, _, _, _, _ => none
  | n + 1, τ, true, σ, c, p, ts =>
    if τ.2.2.1 = 3 ∧ B τ.1 = 33 ∧ m_nts σ < 8 then m_run B L key n (lx_nx B L τ) true (-10 :: σ) c p ts
    else if τ.2.2.1 = 3 ∧ B τ.1 = 40 ∧ p < 8 then m_run B L key n (lx_nx B L τ) true (-11 :: σ) c (p + 1) (fun j => if j = p + 1 then false else ts j)
    else match lx_atom B key τ with
      | some v => m_run B L key n (lx_nx B L τ) false (m_stl 6 σ (v :: c)).1 (m_stl 6 σ (v :: c)).2 p ts
      | none => some (false, τ.1, [])
  | n + 1, τ, false, σ, c, p, ts =>
    if τ.2.2.1 = 0 then some (decide (p = 0), τ.1, (m_stl 0 σ c).2)
    else if τ.2.2.1 = 3 ∧ B τ.1 = 41 ∧ 0 < p then
      match (m_stl 0 σ c).1 with
      | [] => none
      | _ :: σ1 => m_run B L key n (lx_nx B L τ) false (m_stl 6 σ1 (m_stl 0 σ c).2).1 (m_stl 6 σ1 (m_stl 0 σ c).2).2 (p - 1) ts
    else if lx_sg B τ = 0 ∨ (m_rk (lx_sg B τ) = 3 ∧ ts p = true) then some (false, τ.1, [])
    else m_run B L key n (lx_nx B L τ) true (lx_sg B τ :: (m_stl (m_rk (lx_sg B τ)) σ c).1) (m_stl (m_rk (lx_sg B τ)) σ c).2 p (fun j => if j = p then (decide (m_rk (lx_sg B τ) = 3) || (decide (3 < m_rk (lx_sg B τ)) && ts p)) else ts j)
def m_E (B : Nat → Int32) (L key : Nat) (τ : Tok) (w : Bool) (σ c : List Int32) (p : Nat) (ts : Nat → Bool) (r : Bool × Nat × List Int32) : Prop := ∃ n, m_run B L key n τ w σ c p ts = some r
section LXS
variable {B : Nat → Int32} {L key : Nat} {τ τ1 τ2 : Tok} {σ c : List Int32} {p : Nat} {ts : Nat → Bool} {r : Bool × Nat × List Int32}
theorem E_not (h1 : τ.2.2.1 = 3) (h2 : B τ.1 = 33) (h3 : m_nts σ < 8) (h : m_E B L key (lx_nx B L τ) true (-10 :: σ) c p ts r) : m_E B L key τ true σ c p ts r := by
  obtain ⟨n, e⟩ := h
  exact ⟨n + 1, by rw [m_run, if_pos ⟨h1, h2, h3⟩]; exact e⟩
theorem E_open (h1 : τ.2.2.1 = 3) (h2 : B τ.1 = 40) (h3 : p < 8) (h : m_E B L key (lx_nx B L τ) true (-11 :: σ) c (p + 1) (fun j => if j = p + 1 then false else ts j) r) : m_E B L key τ true σ c p ts r := by
  obtain ⟨n, e⟩ := h
  exact ⟨n + 1, by rw [m_run, if_neg (fun q => absurd (h2.symm.trans q.2.1) (by decide)), if_pos ⟨h1, h2, h3⟩]; exact e⟩
theorem atom_k {v : Int32} (h : lx_atom B key τ = some v) : ¬ τ.2.2.1 = 3 := by
  intro q
  unfold lx_atom at h
  rw [q] at h
  split at h
  · cases h
  · simp at h
theorem E_atom {v : Int32} (h1 : lx_atom B key τ = some v) (h : m_E B L key (lx_nx B L τ) false (m_stl 6 σ (v :: c)).1 (m_stl 6 σ (v :: c)).2 p ts r) : m_E B L key τ true σ c p ts r := by
  obtain ⟨n, e⟩ := h
  have h3 := atom_k h1
  exact ⟨n + 1, by rw [m_run, if_neg (fun q => h3 q.1), if_neg (fun q => h3 q.1), h1]; exact e⟩
theorem E_bad (h1 : ¬ (τ.2.2.1 = 3 ∧ B τ.1 = 33 ∧ m_nts σ < 8)) (h2 : ¬ (τ.2.2.1 = 3 ∧ B τ.1 = 40 ∧ p < 8)) (h3 : lx_atom B key τ = none) : m_E B L key τ true σ c p ts (false, τ.1, []) :=
  ⟨1, by rw [m_run, if_neg h1, if_neg h2, h3]⟩
theorem E_end (h : τ.2.2.1 = 0) : m_E B L key τ false σ c p ts (decide (p = 0), τ.1, (m_stl 0 σ c).2) := ⟨1, by rw [m_run, if_pos h]⟩
theorem E_close {x : Int32} {σ1 : List Int32} (h1 : τ.2.2.1 = 3) (h2 : B τ.1 = 41) (h3 : 0 < p) (h4 : (m_stl 0 σ c).1 = x :: σ1) (h : m_E B L key (lx_nx B L τ) false (m_stl 6 σ1 (m_stl 0 σ c).2).1 (m_stl 6 σ1 (m_stl 0 σ c).2).2 (p - 1) ts r) : m_E B L key τ false σ c p ts r := by
  obtain ⟨n, e⟩ := h
  exact ⟨n + 1, by rw [m_run, if_neg (by omega), if_pos ⟨h1, h2, h3⟩, h4]; exact e⟩
theorem sg_k (h : ¬ lx_sg B τ = 0) : τ.2.2.1 = 3 := by
  unfold lx_sg at h
  split at h
  · assumption
  · exact absurd rfl h
theorem sg_41 (h : ¬ lx_sg B τ = 0) : ¬ B τ.1 = 41 := by
  intro q
  apply h
  unfold lx_sg
  rw [q]
  split
  · decide
  · rfl
theorem E_sign (h1 : ¬ lx_sg B τ = 0) (h2 : ¬ (m_rk (lx_sg B τ) = 3 ∧ ts p = true)) (h : m_E B L key (lx_nx B L τ) true (lx_sg B τ :: (m_stl (m_rk (lx_sg B τ)) σ c).1) (m_stl (m_rk (lx_sg B τ)) σ c).2 p (fun j => if j = p then (decide (m_rk (lx_sg B τ) = 3) || (decide (3 < m_rk (lx_sg B τ)) && ts p)) else ts j) r) : m_E B L key τ false σ c p ts r := by
  obtain ⟨n, e⟩ := h
  have h3 := sg_k h1
  exact ⟨n + 1, by rw [m_run, if_neg (by omega), if_neg (fun q => sg_41 h1 q.2.1), if_neg (fun q => q.elim h1 h2)]; exact e⟩
theorem E_sbad (h0 : ¬ τ.2.2.1 = 0) (h1 : ¬ (τ.2.2.1 = 3 ∧ B τ.1 = 41 ∧ 0 < p)) (h2 : lx_sg B τ = 0 ∨ (m_rk (lx_sg B τ) = 3 ∧ ts p = true)) : m_E B L key τ false σ c p ts (false, τ.1, []) :=
  ⟨1, by rw [m_run, if_neg h0, if_neg h1, if_pos h2]⟩
end LXS
theorem sgb_in (b : Int32) : lx_sgb b = 0 ∨ ∃ s, 1 ≤ s ∧ s ≤ 9 ∧ lx_sgb b = -(nI s) := by
  unfold lx_sgb
  split
  · exact Or.inr ⟨1, by decide, by decide, rfl⟩
  split
  · exact Or.inr ⟨2, by decide, by decide, rfl⟩
  split
  · exact Or.inr ⟨3, by decide, by decide, rfl⟩
  split
  · exact Or.inr ⟨4, by decide, by decide, rfl⟩
  split
  · exact Or.inr ⟨5, by decide, by decide, rfl⟩
  split
  · exact Or.inr ⟨6, by decide, by decide, rfl⟩
  split
  · exact Or.inr ⟨7, by decide, by decide, rfl⟩
  split
  · exact Or.inr ⟨8, by decide, by decide, rfl⟩
  split
  · exact Or.inr ⟨9, by decide, by decide, rfl⟩
  · exact Or.inl rfl
theorem sg_in (B : Nat → Int32) (τ : Tok) : lx_sg B τ = 0 ∨ ∃ s, 1 ≤ s ∧ s ≤ 9 ∧ lx_sg B τ = -(nI s) := by
  unfold lx_sg
  split
  · exact sgb_in _
  · exact Or.inl rfl
theorem rk_s : ∀ s, s < 10 → 1 ≤ s → 1 ≤ m_rk (-(nI s)) ∧ m_rk (-(nI s)) ≤ 5 ∧ -(nI s) ≠ -11 ∧ -(nI s) ≠ -10 ∧ -(nI s) ≠ 0 := by decide +kernel
theorem sg_rk {B : Nat → Int32} {τ : Tok} (h : ¬ lx_sg B τ = 0) : 1 ≤ m_rk (lx_sg B τ) ∧ m_rk (lx_sg B τ) ≤ 5 ∧ lx_sg B τ ≠ -11 ∧ lx_sg B τ ≠ -10 := by
  rcases sg_in B τ with q | ⟨s, h1, h2, e⟩
  · exact absurd q h
  · rw [e]
    have := rk_s s (by omega) h1
    exact ⟨this.1, this.2.1, this.2.2.1, this.2.2.2.1⟩
