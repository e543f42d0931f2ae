section TXF
variable {I I1 I2 : Hp} {N : Nrow} {n hh T : Nat} {S Z : Nrow} {C : Fn2} {H A B : Nrow} {E : Fn2} {wt L : Nat}
theorem IV.text {x y : Int32} (h : IV I N n hh T S Z C H A B E wt L) (h0 : I1 32 0 = 0)
    (hres : (∃ f, FaT (I 33) L f ∧ x = -100 - nI f ∧ (∀ q, q ≠ 32 → q ≠ 34 → q ≠ 35 → I1 q = I q)) ∨ ∃ key D, OkT (I 33) L key D ∧ ((T = 14 ∧ x = -1000000003 ∧ (∀ q, q ≠ 32 → q ≠ 34 → q ≠ 35 → I1 q = I q)) ∨ (T < 14 ∧ x = nI T ∧ RepJ I1 36 (txN N T key D) ∧ LawOf I1 T key D ∧ (∀ q, q ≠ 32 → q ≠ 34 → q ≠ 35 → q ≠ 36 → q ≠ 43 → q ≠ 4 + 2 * T → q ≠ 5 + 2 * T → I1 q = I q))))
    (k0 : I2 86 7 = 0) (k1 : ∀ j, j ≠ 7 → j ≠ 8 → j ≠ 9 → j ≠ 10 → j ≠ 11 → j ≠ 12 → j ≠ 13 → j ≠ 17 → j ≠ 18 → j ≠ 20 → I2 86 j = I1 86 j)
    (hmr : ((∀ j, j ≤ 2 → ¬ lx_wd (I 33) (tk0 (I 33) L) j) ∧ y = -100 - nI (tk0 (I 33) L).1 ∧ (∀ q, q ≠ 86 → q ≠ 94 → q ≠ 95 → q ≠ 96 → I2 q = I1 q)) ∨ ∃ key n0 r0, KyW (I 33) L key ∧ m_run (I 33) L key n0 (lx_nx (I 33) L (tk0 (I 33) L)) true [] [] 0 (fun _ => false) = some r0 ∧ ((r0.1 = false ∧ y = -100 - nI r0.2.1 ∧ (∀ q, q ≠ 86 → q ≠ 94 → q ≠ 95 → q ≠ 96 → I2 q = I1 q)) ∨ (r0.1 = true ∧ ((T = 14 ∧ y = -1000000003 ∧ (∀ q, q ≠ 86 → q ≠ 94 → q ≠ 95 → q ≠ 96 → I2 q = I1 q)) ∨ (T < 14 ∧ y = nI T ∧ I2 87 = txN (I1 87) T key r0.2.2 ∧ (∀ q, q ≠ 86 → q ≠ 87 → q ≠ 94 → q ≠ 95 → q ≠ 96 → I2 q = I1 q)))))) : x = y ∧ INV I2 := by
  rcases hres with ⟨f, hfa, hx, hfr⟩ | ⟨key, D, hok, hc⟩
  · rcases hfa.2 with ⟨hf, hno⟩ | ⟨key, c, hky, ⟨n0, hrun⟩⟩
    · rcases hmr with ⟨hno2, hy, k2⟩ | ⟨key2, n2, r2, hky2, hrun2, hc2⟩
      · exact ⟨by rw [hx, hy, hf], h.text0 h0 hfr k0 k1 k2⟩
      · exact absurd hky2.2.1 (hno key2 hky2.1)
    · rcases hmr with ⟨hno2, hy, k2⟩ | ⟨key2, n2, r2, hky2, hrun2, hc2⟩
      · exact absurd hky.2.1 (hno2 key hky.1)
      · obtain rfl := ky_eq hky.2.1 hky.2.2 hky2.2.1 hky2.2.2
        have hr := run_det hrun hrun2
        subst hr
        rcases hc2 with ⟨hb, hy, k2⟩ | ⟨hb, -⟩
        · exact ⟨by rw [hx, hy], h.text0 h0 hfr k0 k1 k2⟩
        · cases hb
  · obtain ⟨hky, ⟨f, ⟨n0, hrun⟩⟩, hw, hd, hD⟩ := hok
    rcases hmr with ⟨hno2, hy, k2⟩ | ⟨key2, n2, r2, hky2, hrun2, hc2⟩
    · exact absurd hky.2.1 (hno2 key hky.1)
    · obtain rfl := ky_eq hky.2.1 hky.2.2 hky2.2.1 hky2.2.2
      have hr := run_det hrun hrun2
      subst hr
      rcases hc2 with ⟨hb, -⟩ | ⟨-, hc2⟩
      · cases hb
      · rcases hc with ⟨hT, hx, hfr⟩ | ⟨hT, hx, hr, hl, hfr⟩
        · rcases hc2 with ⟨hT2, hy, k2⟩ | ⟨hT2, -⟩
          · exact ⟨by rw [hx, hy], h.text0 h0 hfr k0 k1 k2⟩
          · omega
        · rcases hc2 with ⟨hT2, -⟩ | ⟨hT2, hy, k3, k2⟩
          · omega
          · have e87 : I1 87 = N := (hfr 87 (by decide) (by decide) (by decide) (by decide) (by decide) (by omega) (by omega)).trans h.1.1
            rw [e87] at k3
            exact ⟨by rw [hx, hy], h.text1 hT hky.1 hw hd hD h0 hr hl hfr k0 k1 k3 k2⟩
end TXF
theorem ixc (i c : Nat) : nI i + nI c = nI (i + c) := nI_add i c
