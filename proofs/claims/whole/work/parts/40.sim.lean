/-! what the component's reading of a piece, of a level, means for the reference's -/
def m_top (lev : Nat) : List Int32 → Prop
  | [] => True
  | x :: _ => x = -11 ∨ m_rk x ≤ lev
theorem m_top.up {lev lv2 : Nat} {σ : List Int32} (h : m_top lev σ) (hl : lev ≤ lv2) : m_top lv2 σ := by
  cases σ with
  | nil => trivial
  | cons x σ => exact h.imp id (fun q => Nat.le_trans q hl)
theorem stl_top {r lev : Nat} {σ c : List Int32} (h : m_top lev σ) (hr : lev < r) : m_stl r σ c = (σ, c) := by
  cases σ with
  | nil => rfl
  | cons x σ =>
    rw [m_stl, if_neg]
    rintro ⟨h1, h2⟩
    rcases h with h | h
    · exact h1 h
    · omega
theorem stl_pi {r : Nat} {σ : List Int32} : ∀ (π c : List Int32), (∀ x ∈ π, x ≠ -11 ∧ r ≤ m_rk x) → m_stl r (π ++ σ) c = m_stl r σ (π.reverse ++ c)
  | [], c, _ => rfl
  | x :: π, c, h => by
    rw [List.cons_append, m_stl, if_pos (h x List.mem_cons_self), stl_pi π (x :: c) (fun y hy => h y (List.mem_cons_of_mem _ hy)), List.reverse_cons, List.append_assoc]
    rfl
def P_ok (B : Nat → Int32) (L key o n : Nat) (τ τ' : Tok) (D1 : List Int32) : Prop := ∀ (σ c : List Int32) (ts : Nat → Bool), m_nts σ = n → ∃ ts' : Nat → Bool, (∀ j, j ≤ o → ts' j = ts j) ∧ ∀ r, m_E B L key τ' false (m_stl 6 σ (D1 ++ c)).1 (m_stl 6 σ (D1 ++ c)).2 o ts' r → m_E B L key τ true σ c o ts r
def P_no (B : Nat → Int32) (L key o n : Nat) (τ : Tok) (f : Nat) : Prop := ∀ (σ c : List Int32) (ts : Nat → Bool), m_nts σ = n → ∃ c', m_E B L key τ true σ c o ts (false, f, c')
def V_cx (lev o n : Nat) (σ : List Int32) (ts : Nat → Bool) : Prop := m_nts σ = n ∧ m_top lev σ ∧ (lev ≤ 2 → ts o = false)
def V_ok (B : Nat → Int32) (L key lev o n : Nat) (τ τ' : Tok) (D1 : List Int32) : Prop := ∀ (σ c : List Int32) (ts : Nat → Bool), V_cx lev o n σ ts → ∃ (π E : List Int32) (ts' : Nat → Bool), D1 = π.reverse ++ E ∧ (∀ x ∈ π, x ≠ -11 ∧ lev + 1 ≤ m_rk x) ∧ (∀ j, j < o → ts' j = ts j) ∧ (3 ≤ lev → ts' o = ts o) ∧ (lx_sg B τ' = 0 ∨ m_rk (lx_sg B τ') ≤ lev ∨ (m_rk (lx_sg B τ') = 3 ∧ ts' o = true)) ∧ ∀ r, m_E B L key τ' false (π ++ σ) (E ++ c) o ts' r → m_E B L key τ true σ c o ts r
def V_mi (B : Nat → Int32) (L key lev o n : Nat) (τ τ' : Tok) (D1 : List Int32) : Prop := ∀ (σ c : List Int32) (ts : Nat → Bool), V_cx lev o n σ ts → ∃ (π E : List Int32) (ts' : Nat → Bool), D1 = π.reverse ++ E ∧ (∀ x ∈ π, x ≠ -11 ∧ lev + 1 ≤ m_rk x) ∧ (∀ j, j < o → ts' j = ts j) ∧ (3 ≤ lev → ts' o = ts o) ∧ (lx_sg B τ' = 0 ∨ m_rk (lx_sg B τ') ≤ lev + 1 ∨ (m_rk (lx_sg B τ') = 3 ∧ ts' o = true)) ∧ (lev = 2 → ts' o = false) ∧ ∀ r, m_E B L key τ' false (π ++ σ) (E ++ c) o ts' r → m_E B L key τ true σ c o ts r
def V_no (B : Nat → Int32) (L key lev o n : Nat) (τ : Tok) (f : Nat) : Prop := ∀ (σ c : List Int32) (ts : Nat → Bool), V_cx lev o n σ ts → ∃ c', m_E B L key τ true σ c o ts (false, f, c')
section SIM
variable {B : Nat → Int32} {L key lev o n f : Nat} {τ τ1 τ2 : Tok} {D1 D2 : List Int32}
theorem V_cx.up {σ : List Int32} {ts : Nat → Bool} (h : V_cx lev o n σ ts) : V_cx (lev + 1) o n σ ts := ⟨h.1, h.2.1.up (Nat.le_succ _), fun q => h.2.2 (by omega)⟩
theorem P_ok.lv (h : P_ok B L key o n τ τ1 D1) : V_ok B L key 5 o n τ τ1 D1 := by
  intro σ c ts hc
  obtain ⟨ts', h1, h2⟩ := h σ c ts hc.1
  have e := stl_top (c := D1 ++ c) hc.2.1 (show 5 < 6 by decide)
  rw [e] at h2
  refine ⟨[], D1, ts', rfl, (by intro x hx; cases hx), fun j hj => h1 j (by omega), fun _ => h1 o (Nat.le_refl _), ?_, h2⟩
  by_cases q : lx_sg B τ1 = 0
  · exact Or.inl q
  · exact Or.inr (Or.inl (sg_rk q).2.1)
theorem P_no.lv (h : P_no B L key o n τ f) : V_no B L key 5 o n τ f := fun σ c ts hc => h σ c ts hc.1
theorem V_ok.sub (h : V_ok B L key (lev + 1) o n τ τ1 D1) : V_mi B L key lev o n τ τ1 D1 := by
  intro σ c ts hc
  obtain ⟨π, E, ts', h1, h2, h3, h4, h5, h6⟩ := h σ c ts hc.up
  exact ⟨π, E, ts', h1, fun x hx => ⟨(h2 x hx).1, by have := (h2 x hx).2; omega⟩, h3, fun q => h4 (by omega), h5, fun q => by subst q; rw [h4 (by omega)]; exact hc.2.2 (by omega), h6⟩
theorem V_no.sub (h : V_no B L key (lev + 1) o n τ f) : V_no B L key lev o n τ f := fun σ c ts hc => h σ c ts hc.up
theorem V_mi.exit (h : V_mi B L key lev o n τ τ1 D1) (hs : ¬ (¬ lx_sg B τ1 = 0 ∧ m_rk (lx_sg B τ1) = lev + 1)) : V_ok B L key lev o n τ τ1 D1 := by
  intro σ c ts hc
  obtain ⟨π, E, ts', h1, h2, h3, h4, h5, h6, h7⟩ := h σ c ts hc
  refine ⟨π, E, ts', h1, h2, h3, h4, ?_, h7⟩
  by_cases q : lx_sg B τ1 = 0
  · exact Or.inl q
  · rcases h5 with h5 | h5 | h5
    · exact Or.inl h5
    · exact Or.inr (Or.inl (by have q3 : ¬ m_rk (lx_sg B τ1) = lev + 1 := fun q2 => hs ⟨q, q2⟩; omega))
    · exact Or.inr (Or.inr h5)
theorem V_go {σ c π E : List Int32} {ts : Nat → Bool} (hc : V_cx lev o n σ ts) (h1 : D1 = π.reverse ++ E) (h2 : ∀ x ∈ π, x ≠ -11 ∧ lev + 1 ≤ m_rk x) : m_stl (lev + 1) (π ++ σ) (E ++ c) = (σ, D1 ++ c) := by
  rw [stl_pi π (E ++ c) h2, stl_top hc.2.1 (Nat.lt_succ_self _), h1, List.append_assoc]
theorem V_mi.iter (h : V_mi B L key lev o n τ τ1 D1) (hl : lev ≠ 2) (hs : ¬ lx_sg B τ1 = 0) (hr : m_rk (lx_sg B τ1) = lev + 1) (k : V_ok B L key (lev + 1) o n (lx_nx B L τ1) τ2 D2) : V_mi B L key lev o n τ τ2 (lx_sg B τ1 :: (D2 ++ D1)) := by
  intro σ c ts hc
  obtain ⟨π, E, ts', h1, h2, h3, h4, h5, h6, h7⟩ := h σ c ts hc
  have hg := V_go (c := c) hc h1 h2
  obtain ⟨r1, r2, r3, r4⟩ := sg_rk hs
  obtain ⟨π2, E2, ts3, g1, g2, g3, g4, g5, g6⟩ := k (lx_sg B τ1 :: σ) (D1 ++ c) (fun j => if j = o then (decide (m_rk (lx_sg B τ1) = 3) || (decide (3 < m_rk (lx_sg B τ1)) && ts' o)) else ts' j) ⟨by rw [m_nts, if_neg r4]; exact hc.1, Or.inr (by omega), fun q => by
    have a1 : ¬ m_rk (lx_sg B τ1) = 3 := by omega
    have a2 : ¬ 3 < m_rk (lx_sg B τ1) := by omega
    simp [a1, a2]⟩
  refine ⟨π2 ++ [lx_sg B τ1], E2 ++ D1, ts3, ?_, ?_, ?_, ?_, g5, fun q => absurd q hl, ?_⟩
  · rw [g1]; simp [List.append_assoc]
  · intro x hx
    rcases List.mem_append.mp hx with q | q
    · exact ⟨(g2 x q).1, by have := (g2 x q).2; omega⟩
    · rw [List.mem_singleton.mp q]
      exact ⟨r3, by omega⟩
  · intro j hj
    rw [g3 j hj]
    try dsimp only
    rw [if_neg (by omega)]
    exact h3 j hj
  · intro q
    rw [g4 (by omega)]
    try dsimp only
    rw [if_pos rfl]
    have a1 : ¬ m_rk (lx_sg B τ1) = 3 := by omega
    have a2 : 3 < m_rk (lx_sg B τ1) := by omega
    simp [a1, a2, h4 q]
  · intro r hr2
    refine h7 r (E_sign hs (by omega) ?_)
    rw [show m_stl (m_rk (lx_sg B τ1)) (π ++ σ) (E ++ c) = (σ, D1 ++ c) by rw [hr]; exact hg]
    refine g6 r ?_
    simpa [List.append_assoc] using hr2
theorem V_mi.test (h : V_mi B L key 2 o n τ τ1 D1) (hs : ¬ lx_sg B τ1 = 0) (hr : m_rk (lx_sg B τ1) = 3) (k : V_ok B L key 3 o n (lx_nx B L τ1) τ2 D2) : V_ok B L key 2 o n τ τ2 (lx_sg B τ1 :: (D2 ++ D1)) := by
  intro σ c ts hc
  obtain ⟨π, E, ts', h1, h2, h3, h4, h5, h6, h7⟩ := h σ c ts hc
  have hg := V_go (c := c) hc h1 h2
  obtain ⟨r1, r2, r3, r4⟩ := sg_rk hs
  obtain ⟨π2, E2, ts3, g1, g2, g3, g4, g5, g6⟩ := k (lx_sg B τ1 :: σ) (D1 ++ c) (fun j => if j = o then (decide (m_rk (lx_sg B τ1) = 3) || (decide (3 < m_rk (lx_sg B τ1)) && ts' o)) else ts' j) ⟨by rw [m_nts, if_neg r4]; exact hc.1, Or.inr (by omega), fun q => by omega⟩
  have ho : ts3 o = true := by
    rw [g4 (by omega)]
    simp [hr]
  refine ⟨π2 ++ [lx_sg B τ1], E2 ++ D1, ts3, ?_, ?_, ?_, fun q => by omega, ?_, ?_⟩
  · rw [g1]; simp [List.append_assoc]
  · intro x hx
    rcases List.mem_append.mp hx with q | q
    · exact ⟨(g2 x q).1, by have := (g2 x q).2; omega⟩
    · rw [List.mem_singleton.mp q]
      exact ⟨r3, by omega⟩
  · intro j hj
    rw [g3 j hj]
    try dsimp only
    rw [if_neg (by omega)]
    exact h3 j hj
  · rcases g5 with g5 | g5 | g5
    · exact Or.inl g5
    · by_cases q : m_rk (lx_sg B τ2) = 3
      · exact Or.inr (Or.inr ⟨q, ho⟩)
      · exact Or.inr (Or.inl (by omega))
    · exact Or.inr (Or.inr g5)
  · intro r hr2
    refine h7 r (E_sign hs (by rw [h6 rfl]; exact fun q => absurd q.2 (by decide)) ?_)
    rw [show m_stl (m_rk (lx_sg B τ1)) (π ++ σ) (E ++ c) = (σ, D1 ++ c) by rw [hr]; exact hg]
    refine g6 r ?_
    simpa [List.append_assoc] using hr2
theorem V_mi.no (h : V_mi B L key lev o n τ τ1 D1) (hs : ¬ lx_sg B τ1 = 0) (hr : m_rk (lx_sg B τ1) = lev + 1) (k : V_no B L key (lev + 1) o n (lx_nx B L τ1) f) : V_no B L key lev o n τ f := by
  intro σ c ts hc
  obtain ⟨π, E, ts', h1, h2, h3, h4, h5, h6, h7⟩ := h σ c ts hc
  have hg := V_go (c := c) hc h1 h2
  obtain ⟨r1, r2, r3, r4⟩ := sg_rk hs
  obtain ⟨c', g⟩ := k (lx_sg B τ1 :: σ) (D1 ++ c) (fun j => if j = o then (decide (m_rk (lx_sg B τ1) = 3) || (decide (3 < m_rk (lx_sg B τ1)) && ts' o)) else ts' j) ⟨by rw [m_nts, if_neg r4]; exact hc.1, Or.inr (by omega), fun q => by
    have a1 : ¬ m_rk (lx_sg B τ1) = 3 := by omega
    have a2 : ¬ 3 < m_rk (lx_sg B τ1) := by omega
    simp [a1, a2]⟩
  refine ⟨c', h7 _ (E_sign hs (fun q => ?_) ?_)⟩
  · have hl : lev = 2 := by omega
    rw [h6 hl] at q
    exact absurd q.2 (by decide)
  · rw [show m_stl (m_rk (lx_sg B τ1)) (π ++ σ) (E ++ c) = (σ, D1 ++ c) by rw [hr]; exact hg]
    exact g
theorem P_ok.atom {v : Int32} (h : lx_atom B key τ = some v) : P_ok B L key o n τ (lx_nx B L τ) [v] := fun σ c ts _ => ⟨ts, fun _ _ => rfl, fun r hr => E_atom h hr⟩
theorem P_no.bad (h1 : ¬ (τ.2.2.1 = 3 ∧ B τ.1 = 33 ∧ n < 8)) (h2 : ¬ (τ.2.2.1 = 3 ∧ B τ.1 = 40 ∧ o < 8)) (h3 : lx_atom B key τ = none) : P_no B L key o n τ τ.1 := fun σ c ts hn => ⟨[], E_bad (by rw [hn]; exact h1) h2 h3⟩
theorem P_ok.not (h1 : τ.2.2.1 = 3) (h2 : B τ.1 = 33) (h3 : n < 8) (k : P_ok B L key o (n + 1) (lx_nx B L τ) τ1 D1) : P_ok B L key o n τ τ1 (-10 :: D1) := by
  intro σ c ts hn
  obtain ⟨ts', g1, g2⟩ := k (-10 :: σ) c ts (by rw [m_nts, hn]; rfl)
  refine ⟨ts', g1, fun r hr => E_not h1 h2 (by omega) (g2 r ?_)⟩
  rw [m_stl, if_pos (by decide)]
  exact hr
theorem P_no.not (h1 : τ.2.2.1 = 3) (h2 : B τ.1 = 33) (h3 : n < 8) (k : P_no B L key o (n + 1) (lx_nx B L τ) f) : P_no B L key o n τ f := by
  intro σ c ts hn
  obtain ⟨c', g⟩ := k (-10 :: σ) c ts (by rw [m_nts, hn]; rfl)
  exact ⟨c', E_not h1 h2 (by omega) g⟩
theorem P_cx {σ : List Int32} {ts : Nat → Bool} (hn : m_nts σ = n) : V_cx 0 (o + 1) n (-11 :: σ) (fun j => if j = o + 1 then false else ts j) := ⟨by rw [m_nts, if_neg (by decide)]; exact hn, Or.inl rfl, fun _ => by simp⟩
theorem P_ok.par (h1 : τ.2.2.1 = 3) (h2 : B τ.1 = 40) (h3 : o < 8) (k : V_ok B L key 0 (o + 1) n (lx_nx B L τ) τ1 D1) (h4 : τ1.2.2.1 = 3) (h5 : B τ1.1 = 41) : P_ok B L key o n τ (lx_nx B L τ1) D1 := by
  intro σ c ts hn
  obtain ⟨π, E, ts', g1, g2, g3, g4, g5, g6⟩ := k (-11 :: σ) c (fun j => if j = o + 1 then false else ts j) (P_cx hn)
  refine ⟨ts', fun j hj => ?_, fun r hr => E_open h1 h2 h3 (g6 r ?_)⟩
  · rw [g3 j (by omega)]
    try dsimp only
    rw [if_neg (by omega)]
  · have e : m_stl 0 (π ++ -11 :: σ) (E ++ c) = (-11 :: σ, D1 ++ c) := by
      rw [stl_pi π (E ++ c) (fun x hx => ⟨(g2 x hx).1, Nat.zero_le _⟩), m_stl, if_neg (fun q => q.1 rfl), g1, List.append_assoc]
    refine E_close (x := -11) (σ1 := σ) h4 h5 (Nat.succ_pos o) (by rw [e]) ?_
    rw [e]
    exact hr
theorem P_no.par (h1 : τ.2.2.1 = 3) (h2 : B τ.1 = 40) (h3 : o < 8) (k : V_no B L key 0 (o + 1) n (lx_nx B L τ) f) : P_no B L key o n τ f := by
  intro σ c ts hn
  obtain ⟨c', g⟩ := k (-11 :: σ) c (fun j => if j = o + 1 then false else ts j) (P_cx hn)
  exact ⟨c', E_open h1 h2 h3 g⟩
theorem P_no.shut (h1 : τ.2.2.1 = 3) (h2 : B τ.1 = 40) (h3 : o < 8) (k : V_ok B L key 0 (o + 1) n (lx_nx B L τ) τ1 D1) (h4 : ¬ (τ1.2.2.1 = 3 ∧ B τ1.1 = 41)) : P_no B L key o n τ τ1.1 := by
  intro σ c ts hn
  obtain ⟨π, E, ts', g1, g2, g3, g4, g5, g6⟩ := k (-11 :: σ) c (fun j => if j = o + 1 then false else ts j) (P_cx hn)
  by_cases hk : τ1.2.2.1 = 0
  · refine ⟨(m_stl 0 (π ++ -11 :: σ) (E ++ c)).2, E_open h1 h2 h3 (g6 _ ?_)⟩
    · have := E_end (B := B) (L := L) (key := key) (σ := π ++ -11 :: σ) (c := E ++ c) (p := o + 1) (ts := ts') hk
      rw [decide_eq_false (by omega)] at this
      exact this
  · refine ⟨[], E_open h1 h2 h3 (g6 _ (E_sbad hk (fun q => h4 ⟨q.1, q.2.1⟩) ?_))⟩
    rcases g5 with g5 | g5 | g5
    · exact Or.inl g5
    · by_cases q : lx_sg B τ1 = 0
      · exact Or.inl q
      · exact absurd (sg_rk q).1 (by omega)
    · exact Or.inr g5
/-- the whole -/
theorem V_cx.top : V_cx 0 0 0 [] (fun _ => false) := ⟨rfl, trivial, fun _ => rfl⟩
theorem V_ok.whole (k : V_ok B L key 0 0 0 τ τ1 D1) (h : τ1.2.2.1 = 0) : m_E B L key τ true [] [] 0 (fun _ => false) (true, τ1.1, D1) := by
  obtain ⟨π, E, ts', g1, g2, g3, g4, g5, g6⟩ := k [] [] _ V_cx.top
  refine g6 _ ?_
  have e : m_stl 0 (π ++ []) (E ++ []) = ([], D1) := by
    rw [stl_pi π (E ++ []) (fun x hx => ⟨(g2 x hx).1, Nat.zero_le _⟩), m_stl, g1, List.append_nil]
  have := E_end (B := B) (L := L) (key := key) (σ := π ++ []) (c := E ++ []) (p := 0) (ts := ts') h
  rw [e] at this
  exact this
theorem V_ok.not_whole (k : V_ok B L key 0 0 0 τ τ1 D1) (h : ¬ τ1.2.2.1 = 0) : ∃ c', m_E B L key τ true [] [] 0 (fun _ => false) (false, τ1.1, c') := by
  obtain ⟨π, E, ts', g1, g2, g3, g4, g5, g6⟩ := k [] [] _ V_cx.top
  refine ⟨[], g6 _ (E_sbad h (fun q => by omega) ?_)⟩
  rcases g5 with g5 | g5 | g5
  · exact Or.inl g5
  · by_cases q : lx_sg B τ1 = 0
    · exact Or.inl q
    · exact absurd (sg_rk q).1 (by omega)
  · exact Or.inr g5
theorem V_no.whole (k : V_no B L key 0 0 0 τ f) : ∃ c', m_E B L key τ true [] [] 0 (fun _ => false) (false, f, c') := k [] [] _ V_cx.top
end SIM
/-! well-formed code, the last first -/
def m_dp : List Int32 → Nat
  | [] => 0
  | x :: c => if 0 ≤ x then m_dp c + 1 else if x = -10 then m_dp c else m_dp c - 1
def m_wf (nn : Nat) : List Int32 → Prop
  | [] => True
  | x :: c => m_wf nn c ∧ ((∃ v, v < 10000 ∧ x = nI v) ∨ (∃ i, i < nn ∧ x = nI (10000 + i)) ∨ (x = -10 ∧ 1 ≤ m_dp c) ∨ (∃ s, 1 ≤ s ∧ s ≤ 9 ∧ x = -(nI s) ∧ 2 ≤ m_dp c))
def m_at : List Int32 → Nat
  | [] => 0
  | x :: c => m_at c + if 0 ≤ x then 1 else 0
def Gd (nn : Nat) (D1 : List Int32) : Prop := ∀ D, m_wf nn D → m_wf nn (D1 ++ D) ∧ m_dp (D1 ++ D) = m_dp D + 1
theorem Gd.num {nn v : Nat} (h : v < 10000) : Gd nn [nI v] := fun D hD => ⟨⟨hD, Or.inl ⟨v, h, rfl⟩⟩, by show m_dp (nI v :: D) = _; rw [m_dp, if_pos (nI_pos' (by omega))]⟩
theorem Gd.nam {nn i : Nat} (h : i < nn) (h3 : nn ≤ 3) : Gd nn [nI (10000 + i)] := fun D hD => ⟨⟨hD, Or.inr (Or.inl ⟨i, h, rfl⟩)⟩, by show m_dp (nI (10000 + i) :: D) = _; rw [m_dp, if_pos (nI_pos' (by omega))]⟩
theorem Gd.not {nn : Nat} {D1 : List Int32} (h : Gd nn D1) : Gd nn (-10 :: D1) := fun D hD => by
  obtain ⟨g1, g2⟩ := h D hD
  exact ⟨⟨g1, Or.inr (Or.inr (Or.inl ⟨rfl, (show 1 ≤ m_dp (D1 ++ D) by omega)⟩))⟩, by show m_dp (-10 :: (D1 ++ D)) = _; rw [m_dp, if_neg (by decide), if_pos rfl, g2]⟩
theorem Gd.two {nn s : Nat} {D1 D2 : List Int32} (h1 : Gd nn D1) (h2 : Gd nn D2) (hs : 1 ≤ s) (hs2 : s ≤ 9) : Gd nn (-(nI s) :: (D2 ++ D1)) := fun D hD => by
  obtain ⟨g1, g2⟩ := h1 D hD
  obtain ⟨g3, g4⟩ := h2 (D1 ++ D) g1
  have q := neg_s s (by omega) hs
  rw [List.cons_append, List.append_assoc]
  exact ⟨⟨g3, Or.inr (Or.inr (Or.inr ⟨s, hs, hs2, rfl, by omega⟩))⟩, by rw [m_dp, if_neg q.2.1, if_neg q.2.2, g4, g2]; omega⟩
/-- a row holds a list, the last first -/
def RepL (row : Nat → Int32) : List Int32 → Prop
  | [] => True
  | x :: c => row c.length = x ∧ RepL row c
def RepE (row : Nat → Int32) : List Int32 → Prop
  | [] => True
  | x :: c => row c.length = q_enc x ∧ RepE row c
theorem RepL.up {row : Nat → Int32} {k : Nat} {v : Int32} : ∀ {c : List Int32}, RepL row c → c.length ≤ k → RepL (upd row k v) c
  | [], _, _ => trivial
  | x :: c, h, hk => ⟨by rw [upd_n (by simp at hk; omega)]; exact h.1, RepL.up h.2 (by simp at hk; omega)⟩
theorem RepE.up {row : Nat → Int32} {k : Nat} {v : Int32} : ∀ {c : List Int32}, RepE row c → c.length ≤ k → RepE (upd row k v) c
  | [], _, _ => trivial
  | x :: c, h, hk => ⟨by rw [upd_n (by simp at hk; omega)]; exact h.1, RepE.up h.2 (by simp at hk; omega)⟩
theorem RepL.push {row : Nat → Int32} {c : List Int32} {v : Int32} (h : RepL row c) : RepL (upd row c.length v) (v :: c) := ⟨upd_s, h.up (Nat.le_refl _)⟩
theorem RepE.push {row : Nat → Int32} {c : List Int32} {v w : Int32} (h : RepE row c) (hv : w = q_enc v) : RepE (upd row c.length w) (v :: c) := ⟨by rw [upd_s]; exact hv, h.up (Nat.le_refl _)⟩
/-- both rows of one list -/
theorem rep_at {row row2 : Nat → Int32} : ∀ {c : List Int32}, RepL row c → RepE row2 c → ∀ k, k < c.length → row2 k = q_enc (row k)
  | [], _, _, k, hk => by simp at hk
  | x :: c, h, h2, k, hk => by
    by_cases e : k = c.length
    · subst e; rw [h.1, h2.1]
    · exact rep_at h.2 h2.2 k (by simp at hk; omega)
theorem rep_dp {row : Nat → Int32} : ∀ {c : List Int32}, RepL row c → q_dp row c.length = m_dp c
  | [], _ => rfl
  | x :: c, h => by rw [List.length_cons, q_dp, h.1, rep_dp h.2, m_dp]
theorem rep_wf {row : Nat → Int32} {nn : Nat} : ∀ {c : List Int32}, RepL row c → m_wf nn c → ∀ k, k < c.length → (∃ v, v < 10000 ∧ row k = nI v) ∨ (∃ i, i < nn ∧ row k = nI (10000 + i)) ∨ (row k = -10 ∧ 1 ≤ q_dp row k) ∨ (∃ s, 1 ≤ s ∧ s ≤ 9 ∧ row k = -(nI s) ∧ 2 ≤ q_dp row k)
  | [], _, _, k, hk => by simp at hk
  | x :: c, h, w, k, hk => by
    by_cases e : k = c.length
    · subst e
      rw [h.1, rep_dp h.2]
      exact w.2
    · exact rep_wf h.2 w.1 k (by simp at hk; omega)
theorem rep_WfT {row : Nat → Int32} {nn : Nat} {c : List Int32} (h : RepL row c) (hw : m_wf nn c) (hd : m_dp c = 1) (hl : c.length ≤ 96) : WfT row c.length nn := ⟨hl, by rw [rep_dp h]; omega, rep_wf h hw⟩
