/-! what each call leaves -/
section STP
variable {I I1 I2 : Hp} {N : Nrow} {n hh T : Nat} {S Z : Nrow} {C : Fn2} {H A B : Nrow} {E : Fn2} {wt L : Nat}
theorem jw_seed (h : JW N n hh T) (v : Int32) : ∃ n1 hh1, JW (upd N 0 v) n1 hh1 T ∧ ∀ m, 66 ≤ m → upd N 0 v m = N m := ⟨n, hh, h.seed, fun m hm => upd_n (by omega)⟩
theorem jw_rule (h : JW N n hh T) (w x : Int32) : ∃ n1 hh1, JW (g_rule N w x).2 n1 hh1 T ∧ ∀ m, 66 ≤ m → (g_rule N w x).2 m = N m := by
  refine ⟨n, hh, ?_⟩
  unfold g_rule
  repeat' split
  all_goals first
    | exact ⟨h, fun m hm => rfl⟩
    | exact ⟨h.up (by decide) (by decide) (by decide) (by decide) (fun i _ e => by omega) (fun i _ e => by omega) (fun f _ e => by omega), fun m hm => upd_n (by omega)⟩
theorem jw_turns (h : JW N n hh T) (v k : Int32) : ∃ n1 hh1, JW (n_turns N v k) n1 hh1 T ∧ ∀ m, 66 ≤ m → n_turns N v k m = N m := by
  refine ⟨n, hh, ?_⟩
  unfold n_turns
  split
  · next hq =>
    obtain ⟨i, hi, rfl⟩ := jur_get h.1 h.2.1 hq.1
    have := h.1
    rw [nI_clamp (by omega)]
    exact ⟨h.up (by omega) (by omega) (by omega) (by omega) (fun j _ e => by omega) (fun j _ e => by omega) (fun f _ e => by omega), fun m hm => upd_n (by omega)⟩
  · exact ⟨h, fun m hm => rfl⟩
theorem jw_set (h : JW N n hh T) (v w x : Int32) : ∃ n1 hh1, JW (g_set N v w x).2 n1 hh1 T ∧ ∀ m, 66 ≤ m → (g_set N v w x).2 m = N m := by
  refine ⟨n, hh, ?_⟩
  unfold g_set
  split
  · next hq =>
    obtain ⟨i, hi, rfl⟩ := jur_get h.1 h.2.1 hq
    have := h.1
    rw [nI_clamp (by omega)]
    split
    · split
      · exact ⟨h.up (by omega) (by omega) (by omega) (by omega) (fun j _ e => by omega) (fun j _ e => by omega) (fun f _ e => by omega), fun m hm => upd_n (by omega)⟩
      · exact ⟨h, fun m hm => rfl⟩
    split
    · split
      · next hx =>
        obtain ⟨z, hz, hze⟩ := in_get (a := 255) rfl hx
        exact ⟨h.up (by omega) (by omega) (by omega) (by omega) (fun j _ e => ⟨z, by omega, hze⟩) (fun j _ e => by omega) (fun f _ e => by omega), fun m hm => upd_n (by omega)⟩
      · exact ⟨h, fun m hm => rfl⟩
    split
    · split
      · next hx =>
        obtain ⟨z, hz, hze⟩ := in_get (a := 40) rfl hx
        exact ⟨h.up (by omega) (by omega) (by omega) (by omega) (fun j _ e => by omega) (fun j _ e => ⟨z, hz, hze⟩) (fun f _ e => by omega), fun m hm => upd_n (by omega)⟩
      · exact ⟨h, fun m hm => rfl⟩
    · exact ⟨h, fun m hm => rfl⟩
  · exact ⟨h, fun m hm => rfl⟩
theorem jw_weigh (h : JW N n hh T) (f v : Int32) : ∃ n1 hh1, JW (n_weigh N f v) n1 hh1 T ∧ ∀ m, 66 ≤ m → n_weigh N f v m = N m := by
  refine ⟨n, hh, ?_⟩
  unfold n_weigh
  split
  · next hq =>
    obtain ⟨i, hi, rfl⟩ := in_get (a := 7) rfl hq.1
    rw [nI_clamp (by omega)]
    exact ⟨h.up (by omega) (by omega) (by omega) (by omega) (fun j _ e => by omega) (fun j _ e => by omega) (fun f _ e => hq.2), fun m hm => upd_n (by omega)⟩
  · exact ⟨h, fun m hm => rfl⟩
theorem jw_juror (h : JW N n hh T) (a b c : Int32) : ∃ n1 hh1, JW (n_juror N n a b c) n1 hh1 T ∧ ∀ m, 66 ≤ m → n_juror N n a b c m = N m := by
  unfold n_juror
  split
  · next hq =>
    split
    · exact ⟨n, hh, h, fun m hm => rfl⟩
    · next hn =>
      have := h.1
      obtain ⟨z, hz, hze⟩ := in_get (a := 40) rfl hq.2.2
      exact ⟨n + 1, hh, h.add (by omega) (show (0 : Int32) = nI 0 from rfl) (by decide) hze hz, fun m hm => add_66 (by omega) hm⟩
  · exact ⟨n, hh, h, fun m hm => rfl⟩
theorem jw_deal (h : JW N n hh T) (x : Int32) : ∃ n1 hh1, JW (g_deal N n x).2 n1 hh1 T ∧ ∀ m, 66 ≤ m → (g_deal N n x).2 m = N m := by
  unfold g_deal
  split
  · have := h.1
    have hb : n + (if x.toNatClampNeg < 10 - n then x.toNatClampNeg else 10 - n) ≤ 10 := by split <;> omega
    exact ⟨_, hh, h.lots _ hb, fun m hm => lots_66 hm _ hb⟩
  · exact ⟨n, hh, h, fun m hm => rfl⟩
theorem jw_out (h : JW N n hh T) (f w : Int32) : ∃ n1 hh1, JW (n_out N n f w) n1 hh1 T ∧ ∀ m, 66 ≤ m → n_out N n f w m = N m := by
  refine ⟨n, hh, ?_⟩
  unfold n_out
  split
  · next hq =>
    obtain ⟨i, hi, rfl⟩ := in_get (a := 7) rfl hq.1
    rw [nI_clamp (by omega)]
    have hk := out_kp (N := N) (f := i) (way := w) h.1
    exact ⟨h.kp hk (out_keep (by omega) h.2.2.2.2.1 n h.1) h.2.2.1 (by rw [outL_x (fun j hj => by omega) n h.1]; exact h.2.2.2.1), fun m hm => hk m (kp_67 hm)⟩
  · exact ⟨h, fun m hm => rfl⟩
theorem jw_hours (h : JW N n hh T) (x : Int32) : ∃ n1 hh1, JW (g_hours N n hh x).2 n1 hh1 T ∧ ∀ m, 66 ≤ m → (g_hours N n hh x).2 m = N m := by
  unfold g_hours
  split
  · have := h.2.2.1
    have hb : hh + (if x.toNatClampNeg < 9999 - hh then x.toNatClampNeg else 9999 - hh) ≤ 9999 := by split <;> omega
    have hk := go_kp (sil := -1) h.1 h.2.1 (if x.toNatClampNeg < 9999 - hh then x.toNatClampNeg else 9999 - hh)
    exact ⟨n, _, h.kp hk (go_kn h.1 h.2.1 h.2.2.2.2.1 _) hb (go_2 h.1 h.2.1 h.2.2.2.1 _), fun m hm => hk m (kp_67 hm)⟩
  · exact ⟨n, hh, h, fun m hm => rfl⟩
theorem held50_in (v : Int32) : -50 ≤ heldF v (-50) 50 ∧ heldF v (-50) 50 ≤ 50 := by
  unfold heldF
  (repeat' split) <;> (simp only [Int32.lt_iff_toInt_lt, Int32.le_iff_toInt_le, Int32.reduceToInt] at *; omega)
theorem jw_pourL {m : Nat} {c : Nat → Int32} (h : JW N n hh T) : ∀ k, k ≤ 8 → JW (q_pour m c N k).1 n hh T
  | 0, _ => h
  | k + 1, hk => by
    rw [q_pour]
    have q := jw_pourL h (m := m) (c := c) k (by omega)
    split
    · exact q.up (by omega) (by omega) (by omega) (by omega) (fun j _ e => by omega) (fun j _ e => by omega) (fun f _ e => held50_in _)
    · exact q
theorem jw_pour (h : JW N n hh T) (s : Int32) : ∃ n1 hh1, JW (g_pour S Z C N s).2 n1 hh1 T ∧ ∀ m, 66 ≤ m → (g_pour S Z C N s).2 m = N m := by
  refine ⟨n, hh, ?_⟩
  unfold g_pour
  split
  · split
    · exact ⟨h, fun m hm => rfl⟩
    · exact ⟨jw_pourL h 8 (Nat.le_refl _), fun m hm => pour_x (fun k hk => by omega) 8 (Nat.le_refl _)⟩
  · exact ⟨h, fun m hm => rfl⟩
theorem IV.rowI {N1 : Nrow} (h : IV I N n hh T S Z C H A B E wt L) (hn : NowC I I1 N1) (hj : ∃ n1 hh1, JW N1 n1 hh1 T ∧ ∀ m, 66 ≤ m → N1 m = N m) : INV (setN I1 N1) := by
  obtain ⟨n1, hh1, h1, h2⟩ := hj
  exact ⟨_, _, _, _, _, _, _, _, _, _, _, _, _, h.row hn h1 h2⟩
/-! sheets -/
theorem IV.sh {S1 Z1 : Nrow} {C1 : Fn2} (h : IV I N n hh T S Z C H A B E wt L) (h1 : ∀ q, (q < 61 ∨ 69 ≤ q) → I1 q = I q) (h2 : ShC I1 S1 Z1 C1) (h3 : ∀ q, (q ≠ 99 ∧ q ≠ 100 ∧ q ≠ 101 ∧ q ≠ 106) → I2 q = I1 q) (h4 : ShM I2 S1 Z1 C1) (h5 : ShW S1 Z1 C1) : INV I2 := by
  have e : ∀ q, (q < 61 ∨ 69 ≤ q) → q ≠ 99 → q ≠ 100 → q ≠ 101 → q ≠ 106 → I2 q = I q := fun q a b c d f => (h3 q ⟨b, c, d, f⟩).trans (h1 q a)
  refine ⟨N, n, hh, T, S1, Z1, C1, H, A, B, E, wt, L, h.1.fr (e 87 (by decide) (by decide) (by decide) (by decide) (by decide)) (fun q a b => e q (by omega) (by omega) (by omega) (by omega) (by omega)) (fun q a b => e q (by omega) (by omega) (by omega) (by omega) (by omega)), h.2.1.fr (by rw [e 0 (by decide) (by decide) (by decide) (by decide) (by decide)]) (by rw [e 86 (by decide) (by decide) (by decide) (by decide) (by decide)]) (e 88 (by decide) (by decide) (by decide) (by decide) (by decide)) (fun q a b => e q (by omega) (by omega) (by omega) (by omega) (by omega)) (fun q a b => e q (by omega) (by omega) (by omega) (by omega) (by omega)), ⟨fun s hs => ?_, h4, h5⟩, h.2.2.2.1.fr (fun q a b => e q (by omega) (by omega) (by omega) (by omega) (by omega)) (fun q a b => e q (by omega) (by omega) (by omega) (by omega) (by omega)), h.2.2.2.2.1.fr (by rw [e 0 (by decide) (by decide) (by decide) (by decide) (by decide)]) (by rw [e 86 (by decide) (by decide) (by decide) (by decide) (by decide)]) (e 85 (by decide) (by decide) (by decide) (by decide) (by decide)) (e 107 (by decide) (by decide) (by decide) (by decide) (by decide)), h.2.2.2.2.2.1.fr (by rw [e 32 (by decide) (by decide) (by decide) (by decide) (by decide)]) (by rw [e 86 (by decide) (by decide) (by decide) (by decide) (by decide)]) (e 33 (by decide) (by decide) (by decide) (by decide) (by decide)) (e 91 (by decide) (by decide) (by decide) (by decide) (by decide)), h.2.2.2.2.2.2.fr (by rw [e 86 (by decide) (by decide) (by decide) (by decide) (by decide)]) (e 92 (by decide) (by decide) (by decide) (by decide) (by decide)) (e 93 (by decide) (by decide) (by decide) (by decide) (by decide))⟩
  rw [h3 (61 + 2 * s) (by omega), h3 (61 + 2 * s + 1) (by omega)]
  exact h2 s hs
theorem shw_sheet (hW : ShW S Z C) (s w x : Int32) : ShW (if (g_sheet s w x).2 then upd S s.toNatClampNeg w else S) (if (g_sheet s w x).2 then upd Z s.toNatClampNeg (z_sheet w x) else Z) (if (g_sheet s w x).2 then r_fill C s.toNatClampNeg 0 else C) := by
  by_cases hg : (g_sheet s w x).2 = true
  · rw [if_pos hg, if_pos hg, if_pos hg]
    unfold g_sheet at hg
    by_cases h1 : 0 ≤ s ∧ s ≤ 3
    · rw [if_pos h1] at hg
      by_cases h2 : -1 ≤ w ∧ w ≤ 1
      · rw [if_pos h2] at hg
        have hw : w = -1 ∨ w = 0 ∨ w = 1 := by
          simp only [Int32.le_iff_toInt_le, ← Int32.toInt_inj, Int32.reduceToInt] at *
          omega
        have hz : ∃ m, m ≤ 24 ∧ z_sheet w x = nI m := by
          unfold z_sheet
          by_cases h3 : w = -1
          · rw [if_pos h3]; exact ⟨0, by omega, rfl⟩
          · rw [if_neg h3] at hg ⊢
            by_cases h4 : 24 < x
            · rw [if_pos h4] at hg; cases hg
            · rw [if_neg h4] at hg
              by_cases h5 : x < 0
              · rw [if_pos h5] at hg; cases hg
              · exact in_get (a := 24) rfl ⟨Int32.not_lt.mp h5, Int32.not_lt.mp h4⟩
        intro q hq
        by_cases e : q = s.toNatClampNeg
        · subst e
          rw [upd_s, upd_s]
          exact ⟨hw, hz, fun k hk => by unfold r_fill; rw [if_pos rfl]; exact Or.inr ⟨by decide, by decide⟩⟩
        · rw [upd_n e, upd_n e]
          exact ⟨(hW q hq).1, (hW q hq).2.1, fun k hk => by unfold r_fill; rw [if_neg e]; exact (hW q hq).2.2 k hk⟩
      · rw [if_neg h2] at hg; cases hg
    · rw [if_neg h1] at hg; cases hg
  · rw [if_neg hg, if_neg hg, if_neg hg]; exact hW
theorem i16_in (x : Int32) : -99999 ≤ x.toInt16.toInt32 ∧ x.toInt16.toInt32 ≤ 99999 := by
  rw [Int32.le_iff_toInt_le, Int32.le_iff_toInt_le, Int16.toInt_toInt32, show (-99999 : Int32).toInt = -99999 from rfl, show (99999 : Int32).toInt = 99999 from rfl]
  have h1 := x.toInt16.le_toInt
  have h2 := x.toInt16.toInt_lt
  omega
theorem shw_mark (hW : ShW S Z C) (s k x : Int32) : ShW S Z (if (g_mark S Z s k x).2 then r_put C s.toNatClampNeg k.toNatClampNeg (v_mark S s x) else C) := by
  by_cases hg : (g_mark S Z s k x).2 = true
  · rw [if_pos hg]
    have hv : v_mark S s x = -1000000005 ∨ (-99999 ≤ v_mark S s x ∧ v_mark S s x ≤ 99999) := by
      unfold v_mark
      by_cases h0 : S s.toNatClampNeg = 0
      · rw [if_pos h0]; exact Or.inr (i16_in x)
      · rw [if_neg h0]
        unfold g_mark at hg
        split at hg
        · split at hg
          · cases hg
          · split at hg
            · split at hg
              · next hx => exact Or.inl hx
              · split at hg
                · next hx => exact Or.inr hx
                · cases hg
            · cases hg
        · cases hg
    intro q hq
    refine ⟨(hW q hq).1, (hW q hq).2.1, fun j hj => ?_⟩
    unfold r_put
    split
    · exact hv
    · exact (hW q hq).2.2 j hj
  · rw [if_neg hg]; exact hW
theorem st_le {z i m : Int32} (hz : ∃ k, k ≤ 24 ∧ z = nI k) (h : q_st z i m = true) : i.toNatClampNeg + m.toNatClampNeg ≤ 24 := by
  obtain ⟨k, hk, rfl⟩ := hz
  unfold q_st at h
  obtain ⟨h1, h2, h3, h4⟩ := of_decide_eq_true h
  obtain ⟨a, ha, rfl⟩ := nI_of (Int32.not_lt.mpr h1)
  obtain ⟨b, hb, rfl⟩ := nI_of (Int32.not_lt.mpr h2)
  have h5 := (nI_leI hb (by omega)).mp h3
  rw [sub_nI h5] at h4
  have h6 := (nI_leI ha (by omega)).mp h4
  rw [nI_clamp ha, nI_clamp hb]
  omega
theorem shw_copy (hW : ShW S Z C) (a i b j m : Int32) : ShW S Z (if (g_copy S Z a i b j m).2 then r_copy C a.toNatClampNeg i.toNatClampNeg b.toNatClampNeg j.toNatClampNeg m.toNatClampNeg else C) := by
  by_cases hg : (g_copy S Z a i b j m).2 = true
  · rw [if_pos hg]
    unfold g_copy at hg
    by_cases h1 : (0 ≤ a ∧ a ≤ 3) ∧ (0 ≤ b ∧ b ≤ 3)
    · rw [if_pos h1] at hg
      obtain ⟨p, hp, rfl⟩ := in_get (a := 3) rfl h1.1
      rw [nI_clamp (by omega)] at hg ⊢
      by_cases h2 : S p = -1 ∨ S b.toNatClampNeg = -1
      · rw [if_pos h2] at hg; cases hg
      · rw [if_neg h2] at hg
        by_cases h3 : S p = S b.toNatClampNeg
        · rw [if_pos h3] at hg
          by_cases h4 : q_st (Z p) i m = true ∧ q_st (Z b.toNatClampNeg) j m = true
          · have hst : i.toNatClampNeg + m.toNatClampNeg ≤ 24 := st_le (hW p (by omega)).2.1 h4.1
            intro q hq
            refine ⟨(hW q hq).1, (hW q hq).2.1, fun z hz => ?_⟩
            unfold r_copy
            split
            · next hc => exact (hW p (by omega)).2.2 _ (by omega)
            · exact (hW q hq).2.2 z hz
          · rw [if_neg h4] at hg; cases hg
        · rw [if_neg h3] at hg; cases hg
    · rw [if_neg h1] at hg; cases hg
  · rw [if_neg hg]; exact hW
end STP
