section MSR
variable {I0 J J1 : Hp} {B : Nat → Int32} {L key : Nat} {τ : Tok} {σ c : List Int32}
theorem TkM.fr (h : TkM B J τ) (h8 : ∀ j, 8 ≤ j → j ≤ 12 → J1 86 j = J 86 j) : TkM B J1 τ := by
  unfold TkM
  rw [h8 8 (by decide) (by decide), h8 9 (by decide) (by decide), h8 10 (by decide) (by decide), h8 11 (by decide) (by decide), h8 12 (by decide) (by decide)]
  exact h
theorem MS2.go (h : MS2 I0 J B L key τ σ c) (h1 : TkM B J1 (lx_nx B L τ)) (h2 : ∀ j, j ≠ 8 → j ≠ 9 → j ≠ 10 → j ≠ 11 → j ≠ 12 → J1 86 j = J 86 j) (h3 : ∀ q, q ≠ 86 → J1 q = J q) : MS2 I0 J1 B L key (lx_nx B L τ) σ c :=
  ⟨h.1.fr (h2 7 (by decide) (by decide) (by decide) (by decide) (by decide)) (h3 91 (by decide)), h1, h.2.2.1.nx h.1.2.2, ⟨(h2 13 (by decide) (by decide) (by decide) (by decide) (by decide)).trans h.2.2.2.1.1, (h2 17 (by decide) (by decide) (by decide) (by decide) (by decide)).trans h.2.2.2.1.2.1, (h2 18 (by decide) (by decide) (by decide) (by decide) (by decide)).trans h.2.2.2.1.2.2.1, (h2 20 (by decide) (by decide) (by decide) (by decide) (by decide)).trans h.2.2.2.1.2.2.2⟩, by rw [h3 94 (by decide)]; exact h.2.2.2.2.1, by rw [h3 95 (by decide)]; exact h.2.2.2.2.2.1, h.2.2.2.2.2.2.1, fun j a b d e f g i k => (h2 j a b d e f).trans (h.2.2.2.2.2.2.2.1 j a b d e f g i k), fun q a b d e => (h3 q a).trans (h.2.2.2.2.2.2.2.2 q a b d e)⟩
theorem MS2.stl {r : Nat} (h : MS2 I0 J B L key τ σ c) (h20 : J1 86 20 = nI (m_stl r σ c).1.length) (h17 : J1 86 17 = nI (m_stl r σ c).2.length) (h94 : RepL (J1 94) (m_stl r σ c).2) (h95 : RepL (J1 95) (m_stl r σ c).1) (h2 : ∀ j, j ≠ 17 → j ≠ 20 → J1 86 j = J 86 j) (h3 : ∀ q, q ≠ 86 → q ≠ 94 → J1 q = J q) : MS2 I0 J1 B L key τ (m_stl r σ c).1 (m_stl r σ c).2 :=
  ⟨h.1.fr (h2 7 (by decide) (by decide)) (h3 91 (by decide) (by decide)), h.2.1.fr (fun j a b => h2 j (by omega) (by omega)), h.2.2.1, ⟨(h2 13 (by decide) (by decide)).trans h.2.2.2.1.1, h17, by rw [h2 18 (by decide) (by decide), (stl_at r σ c h.2.2.2.2.2.2.1).1]; exact h.2.2.2.1.2.2.1, h20⟩, h94, h95, (stl_at r σ c h.2.2.2.2.2.2.1).2, fun j a b d e f g i k => (h2 j g k).trans (h.2.2.2.2.2.2.2.1 j a b d e f g i k), fun q a b d e => (h3 q a b).trans (h.2.2.2.2.2.2.2.2 q a b d e)⟩
theorem MS2.push {x : Int32} (h : MS2 I0 J B L key τ σ c) (hx : ¬ 0 ≤ x) : MS2 I0 (up2 (up2 J 95 σ.length x) 86 20 (nI (σ.length + 1))) B L key τ (x :: σ) c :=
  ⟨h.1.fr (by rw [up2_ni (by decide), up2_ne (by decide)]) (by rw [up2_ne (by decide), up2_ne (by decide)]), h.2.1.fr (fun j a b => by rw [up2_ni (by omega), up2_ne (by decide)]), h.2.2.1, ⟨by rw [up2_ni (by decide), up2_ne (by decide)]; exact h.2.2.2.1.1, by rw [up2_ni (by decide), up2_ne (by decide)]; exact h.2.2.2.1.2.1, by rw [up2_ni (by decide), up2_ne (by decide)]; exact h.2.2.2.1.2.2.1, by rw [up2_same]; rfl⟩, by rw [up2_ne (by decide), up2_ne (by decide)]; exact h.2.2.2.2.1, by rw [up2_ne (by decide), up2_row]; exact h.2.2.2.2.2.1.push, fun y hy => (List.mem_cons.mp hy).elim (fun q => by rw [q]; exact hx) (h.2.2.2.2.2.2.1 y), fun j a b d e f g i k => by rw [up2_ni k, up2_ne (by decide)]; exact h.2.2.2.2.2.2.2.1 j a b d e f g i k, fun q a b d e => by rw [up2_ne a, up2_ne d]; exact h.2.2.2.2.2.2.2.2 q a b d e⟩
theorem MS2.pop {x : Int32} (h : MS2 I0 J B L key τ (x :: σ) c) : MS2 I0 (up2 J 86 20 (nI σ.length)) B L key τ σ c :=
  ⟨h.1.fr (by rw [up2_ni (by decide)]) (by rw [up2_ne (by decide)]), h.2.1.fr (fun j a b => by rw [up2_ni (by omega)]), h.2.2.1, ⟨by rw [up2_ni (by decide)]; exact h.2.2.2.1.1, by rw [up2_ni (by decide)]; exact h.2.2.2.1.2.1, by rw [up2_ni (by decide)]; exact h.2.2.2.1.2.2.1, up2_same⟩, by rw [up2_ne (by decide)]; exact h.2.2.2.2.1, by rw [up2_ne (by decide)]; exact h.2.2.2.2.2.1.2, fun y hy => h.2.2.2.2.2.2.1 y (List.mem_cons_of_mem _ hy), fun j a b d e f g i k => by rw [up2_ni k]; exact h.2.2.2.2.2.2.2.1 j a b d e f g i k, fun q a b d e => by rw [up2_ne a]; exact h.2.2.2.2.2.2.2.2 q a b d e⟩
theorem MS2.atom {v : Int32} (h : MS2 I0 J B L key τ σ c) (hv : 0 ≤ v) : MS2 I0 (up2 (up2 (up2 J 94 c.length v) 86 17 (nI (c.length + 1))) 86 18 (nI (m_at c + 1))) B L key τ σ (v :: c) :=
  ⟨h.1.fr (by rw [up2_ni (by decide), up2_ni (by decide), up2_ne (by decide)]) (by rw [up2_ne (by decide), up2_ne (by decide), up2_ne (by decide)]), h.2.1.fr (fun j a b => by rw [up2_ni (by omega), up2_ni (by omega), up2_ne (by decide)]), h.2.2.1, ⟨by rw [up2_ni (by decide), up2_ni (by decide), up2_ne (by decide)]; exact h.2.2.2.1.1, by rw [up2_ni (by decide), up2_same]; rfl, by rw [up2_same, m_at, if_pos hv], by rw [up2_ni (by decide), up2_ni (by decide), up2_ne (by decide)]; exact h.2.2.2.1.2.2.2⟩, by rw [up2_ne (by decide), up2_ne (by decide), up2_row]; exact h.2.2.2.2.1.push, by rw [up2_ne (by decide), up2_ne (by decide), up2_ne (by decide)]; exact h.2.2.2.2.2.1, h.2.2.2.2.2.2.1, fun j a b d e f g i k => by rw [up2_ni i, up2_ni g, up2_ne (by decide)]; exact h.2.2.2.2.2.2.2.1 j a b d e f g i k, fun q a b d e => by rw [up2_ne a, up2_ne a, up2_ne b]; exact h.2.2.2.2.2.2.2.2 q a b d e⟩
theorem MS2.ts {j0 : Nat} {x : Int32} (h : MS2 I0 J B L key τ σ c) : MS2 I0 (up2 J 96 j0 x) B L key τ σ c :=
  ⟨h.1.fr (by rw [up2_ne (by decide)]) (by rw [up2_ne (by decide)]), h.2.1.fr (fun j a b => by rw [up2_ne (by decide)]), h.2.2.1, by rw [up2_ne (by decide)]; exact h.2.2.2.1, by rw [up2_ne (by decide)]; exact h.2.2.2.2.1, by rw [up2_ne (by decide)]; exact h.2.2.2.2.2.1, h.2.2.2.2.2.2.1, fun j a b d e f g i k => by rw [up2_ne (by decide)]; exact h.2.2.2.2.2.2.2.1 j a b d e f g i k, fun q a b d e => by rw [up2_ne e]; exact h.2.2.2.2.2.2.2.2 q a b d e⟩
end MSR
def isN (B : Nat → Int32) (key : Nat) (τ : Tok) : Prop := (τ.2.2.1 = 1 ∧ τ.2.2.2 = false) ∧ τ.2.1 - τ.1 = 1 ∧ 0 ≤ lx_nm key (B τ.1)
theorem at_none {B : Nat → Int32} {key : Nat} {τ : Tok} (h3 : τ.2.2.1 ≤ 3) (h1 : ¬ tokN τ = 2) (h2 : ¬ isN B key τ) : lx_atom B key τ = none := by
  unfold lx_atom
  by_cases hs : τ.2.2.2 = true
  · rw [if_pos hs]
  · rw [if_neg hs]
    have hs : τ.2.2.2 = false := by cases hq : τ.2.2.2 <;> simp_all
    by_cases hk : τ.2.2.1 = 2
    · rw [if_pos hk, if_neg (fun q => h1 ((tok2 h3).mpr ⟨hk, hs, q⟩))]
    · rw [if_neg hk]
      by_cases hk1 : τ.2.2.1 = 1
      · rw [if_pos hk1, if_neg (fun q => h2 ⟨⟨hk1, hs⟩, q⟩)]
      · rw [if_neg hk1]
set_option maxHeartbeats 1000000 in
set_option maxRecDepth 100000 in
theorem t_part (l : Launch) (G : Gm) (I0 J : Hp) (B : Nat → Int32) (L key : Nat) (hkey : key ≤ 2) (τ : Tok) (σ c : List Int32) (hM : MS2 I0 J B L key τ σ c) (hl : c.length + σ.length ≤ τ.1)  : Meth l G yX8_takesPart cX8_takesPart 2 (some (FieldType.boolean)) 3 0 0 [.ref 86] LAY J (fun r lay1 I1 => ∃ b : Bool, r = some (.int (b2i b)) ∧ lay1 = LAY ∧ (b = true → ∃ v, lx_atom B key τ = some v ∧ MS2 I0 I1 B L key (lx_nx B L τ) (m_stl 6 σ (v :: c)).1 (m_stl 6 σ (v :: c)).2 ∧ I1 96 = J 96) ∧ (b = false → lx_atom B key τ = none ∧ I1 = J)) := by
  have j87 : ∀ (lpn : Nat) (z : Nat) (v : Int32) (o1 : Option Value), z = lpn → (lx_atom B key τ = some v) → (0 ≤ v) → (τ.2.2.1 ≠ 0) → AW l G yX8_takesPart cX8_takesPart 2 (some (FieldType.boolean)) 3 0 0 (fun r lay1 I1 => ∃ b : Bool, r = some (.int (b2i b)) ∧ lay1 = LAY ∧ (b = true → ∃ v, lx_atom B key τ = some v ∧ MS2 I0 I1 B L key (lx_nx B L τ) (m_stl 6 σ (v :: c)).1 (m_stl 6 σ (v :: c)).2 ∧ I1 96 = J 96) ∧ (b = false → lx_atom B key τ = none ∧ I1 = J)) 0 0 87 [some (.ref 86), o1] [.int v, .int (nI c.length), .ref 94] LAY J := by
    intro lpn
    induction lpn using Nat.strongRecOn with
    | _ lpn ih =>
      intro z v o1 hms hat hv hk0
      have hL := hM.1.2.2.1
      have htL := hM.2.2.1.2.2.1
      have hft := hM.2.2.1.2.1
      have hfL := hM.2.2.1.1
      have hk3 := hM.2.2.1.2.2.2.1
      have ht4 := tok_4 τ
      have hf2 : τ.1 < L := by have := hM.2.2.1.2.2.2.2.1; omega
      have hA := MS2.atom hM hv
      refine A_iast c.length rfl lay_94 (by omega) (by decide) dX8_takesPart_87 ?_
      refine A_aload_n rfl dX8_takesPart_88 ?_
      refine A_dup rfl dX8_takesPart_89 ?_
      refine A_getI fr_X8_236.g rfl lay_86 dX8_takesPart_90 ?_
      rw [up2_ne (show (86 : Nat) ≠ 94 by decide), hM.2.2.2.1.2.1]
      refine A_iconst ic_1 dX8_takesPart_93 ?_
      refine A_iadd dX8_takesPart_94 ?_
      rw [nI_1]
      refine A_putI fr_X8_236 rfl lay_86 rfl rfl dX8_takesPart_95 ?_
      refine A_aload_n rfl dX8_takesPart_98 ?_
      refine A_dup rfl dX8_takesPart_99 ?_
      refine A_getI fr_X8_242.g rfl lay_86 dX8_takesPart_100 ?_
      rw [up2_ni (show (18 : Nat) ≠ 17 by decide), up2_ne (show (86 : Nat) ≠ 94 by decide), hM.2.2.2.1.2.2.1]
      refine A_iconst ic_1 dX8_takesPart_103 ?_
      refine A_iadd dX8_takesPart_104 ?_
      rw [nI_1]
      refine A_putI fr_X8_242 rfl lay_86 rfl rfl dX8_takesPart_105 ?_
      refine A_aload_n rfl dX8_takesPart_108 ?_
      refine A_bipush bp_6 dX8_takesPart_109 ?_
      refine A_callV (t_stl l G (up2 (up2 (up2 J 94 c.length v) 86 17 (nI (c.length + 1))) 86 18 (nI (m_at c + 1))) 6 (by decide) σ (v :: c) (by simp only [List.length_cons]; omega) hA.2.2.2.1.2.2.2 hA.2.2.2.1.2.1 hA.2.2.2.2.1 hA.2.2.2.2.2.1) m_X8_settle ml_X8_245 rfl lay_86 rfl (by decide) rfl rfl (Nat.le_of_ble_eq_true rfl) (by decide) (by decide) (by decide) dX8_takesPart_111 (fun _ _ _ hqq => congrArg List.length hqq.2.1) ?_
      rintro _ _ K4 ⟨rfl, rfl, h1, h2, h3, h4, h5, h6⟩
      have hM4 := MS2.stl hA h1 h2 h3 h4 h5 h6
      refine A_aload_n rfl dX8_takesPart_114 ?_
      refine A_callV (t_gow l G K4 B L hM4.1 τ.2.1 (lx_w τ.2.2.1) htL hM4.2.1.1 (hM4.2.1.2.2.2.2.2 hk0)) m_X8_go ml_X8_227 rfl lay_86 rfl (by decide) rfl rfl (Nat.le_of_ble_eq_true rfl) (by decide) (by decide) (by decide) dX8_takesPart_115 (fun _ _ _ hqq => congrArg List.length hqq.2.1) ?_
      rintro _ _ K5 ⟨rfl, rfl, g1, g2, g3⟩
      have hM5 := MS2.go hM4 g1 g2 g3
      refine A_iconst ic_1 dX8_takesPart_118 ?_
      refine A_iret rfl rfl rfl rfl dX8_takesPart_119 ?_
      exact ⟨true, rfl, rfl, fun _ => ⟨v, hat, hM5, by rw [g3 96 (by decide), h6 96 (by decide) (by decide), up2_ne (by decide), up2_ne (by decide), up2_ne (by decide)]⟩, fun q => (by cases q)⟩
  have j52a : ∀ (lpn : Nat) (z : Nat) (o1 : Option Value), z = lpn → (tokN τ = 2) → AW l G yX8_takesPart cX8_takesPart 2 (some (FieldType.boolean)) 3 0 0 (fun r lay1 I1 => ∃ b : Bool, r = some (.int (b2i b)) ∧ lay1 = LAY ∧ (b = true → ∃ v, lx_atom B key τ = some v ∧ MS2 I0 I1 B L key (lx_nx B L τ) (m_stl 6 σ (v :: c)).1 (m_stl 6 σ (v :: c)).2 ∧ I1 96 = J 96) ∧ (b = false → lx_atom B key τ = none ∧ I1 = J)) 0 0 52 [some (.ref 86), o1] [] LAY J := by
    intro lpn
    induction lpn using Nat.strongRecOn with
    | _ lpn ih =>
      intro z o1 hms ht
      have hL := hM.1.2.2.1
      have htL := hM.2.2.1.2.2.1
      have hft := hM.2.2.1.2.1
      have hfL := hM.2.2.1.1
      have hk3 := hM.2.2.1.2.2.2.1
      have ht4 := tok_4 τ
      refine A_aload_n rfl dX8_takesPart_52 ?_
      refine A_getR fr_X8_36.g rfl lay_86 rfl dX8_takesPart_53 ?_
      refine A_aload_n rfl dX8_takesPart_56 ?_
      refine A_getI fr_X8_236.g rfl lay_86 dX8_takesPart_57 ?_
      rw [hM.2.2.2.1.2.1]
      refine A_aload_n rfl dX8_takesPart_60 ?_
      refine A_getI fr_X8_212.g rfl lay_86 dX8_takesPart_61 ?_
      rw [hM.2.1.2.2.1]
      refine A_iconst ic_2 dX8_takesPart_64 ?_
      refine A_icmp_ne 75 rfl dX8_takesPart_65 (fun cq65 => absurd (by rw [ht]; rfl) cq65) (fun cq65 => ?_)
      obtain ⟨z1, z2, z3⟩ := (tok2 hk3).mp ht
      refine A_aload_n rfl dX8_takesPart_68 ?_
      refine A_getI fr_X8_218.g rfl lay_86 dX8_takesPart_69 ?_
      rw [hM.2.1.2.2.2.2.1 z1 z3]
      refine A_goto 87 rfl dX8_takesPart_72 ?_
      obtain ⟨m, hm, em⟩ := num_nI (B := B) (f := τ.1) (τ.2.1 - τ.1) z3 (fun i h1 h2 => by
        obtain ⟨v, hv1, hv2⟩ := hM.1.2.2.2 i (by omega)
        have h8 := hM.2.2.1.2.2.2.2.2.2.2.2.2.1 i h1 (by omega) (Or.inr z1)
        rw [hv2, z1] at h8
        exact ⟨v, (so_dig v hv1 h8).1, (so_dig v hv1 h8).2, hv2⟩)
      have hm4 : m < 10000 := Nat.lt_of_lt_of_le hm (Nat.pow_le_pow_right (by decide) z3)
      exact j87 _ 0 _ _ rfl (at_num z2 z1 z3) (by rw [em]; exact nI_pos' (by omega)) (by omega)
  have j52b : ∀ (lpn : Nat) (z : Nat) (o1 : Option Value), z = lpn → (¬ tokN τ = 2) → (isN B key τ) → AW l G yX8_takesPart cX8_takesPart 2 (some (FieldType.boolean)) 3 0 0 (fun r lay1 I1 => ∃ b : Bool, r = some (.int (b2i b)) ∧ lay1 = LAY ∧ (b = true → ∃ v, lx_atom B key τ = some v ∧ MS2 I0 I1 B L key (lx_nx B L τ) (m_stl 6 σ (v :: c)).1 (m_stl 6 σ (v :: c)).2 ∧ I1 96 = J 96) ∧ (b = false → lx_atom B key τ = none ∧ I1 = J)) 0 0 52 [some (.ref 86), o1] [] LAY J := by
    intro lpn
    induction lpn using Nat.strongRecOn with
    | _ lpn ih =>
      intro z o1 hms ht hn
      have hL := hM.1.2.2.1
      have htL := hM.2.2.1.2.2.1
      have hft := hM.2.2.1.2.1
      have hfL := hM.2.2.1.1
      have hk3 := hM.2.2.1.2.2.2.1
      have ht4 := tok_4 τ
      refine A_aload_n rfl dX8_takesPart_52 ?_
      refine A_getR fr_X8_36.g rfl lay_86 rfl dX8_takesPart_53 ?_
      refine A_aload_n rfl dX8_takesPart_56 ?_
      refine A_getI fr_X8_236.g rfl lay_86 dX8_takesPart_57 ?_
      rw [hM.2.2.2.1.2.1]
      refine A_aload_n rfl dX8_takesPart_60 ?_
      refine A_getI fr_X8_212.g rfl lay_86 dX8_takesPart_61 ?_
      rw [hM.2.1.2.2.1]
      refine A_iconst ic_2 dX8_takesPart_64 ?_
      refine A_icmp_ne 75 rfl dX8_takesPart_65 (fun cq65 => ?_) (fun cq65 => absurd cq65 (fun q => ht ((nI_eq (b := 2) (by omega) (by decide)).mp q)))
      refine A_sipush sp_10000 dX8_takesPart_75 ?_
      refine A_aload_n rfl dX8_takesPart_78 ?_
      refine A_aload_n rfl dX8_takesPart_79 ?_
      refine A_getI fr_X8_218.g rfl lay_86 dX8_takesPart_80 ?_
      rw [hM.2.1.2.2.2.1 (Or.inl hn.1.1)]
      refine A_callV (t_nm l G J key hkey hM.2.2.2.1.1 _) m_X8_nameOf ml_X8_239 rfl lay_86 rfl (by decide) rfl rfl (Nat.le_of_ble_eq_true rfl) (by decide) (by decide) (by decide) dX8_takesPart_83 (fun _ _ _ h => congrArg List.length h.2.1) ?_
      rintro _ _ _ ⟨rfl, rfl, e9⟩
      refine AW_I e9 ?_
      clear e9
      refine A_iadd dX8_takesPart_86 ?_
      obtain ⟨i, hi1, ei⟩ := (nm_in key (B τ.1)).resolve_left (fun q => by have h9 := hn.2.2; rw [q] at h9; exact absurd h9 (by decide))
      exact j87 _ 0 _ _ rfl (at_nam hn.1.2 hn.1.1 hn.2) (by rw [ei, show (10000 : Int32) = nI 10000 from rfl, nI_add]; exact nI_pos' (by have := nnk_3 key; omega)) (by have := hn.1.1; omega)
  have j38 : ∀ (lpn : Nat) (z : Nat) (x : Int32), z = lpn → (¬ x = 0 ↔ isN B key τ) → AW l G yX8_takesPart cX8_takesPart 2 (some (FieldType.boolean)) 3 0 0 (fun r lay1 I1 => ∃ b : Bool, r = some (.int (b2i b)) ∧ lay1 = LAY ∧ (b = true → ∃ v, lx_atom B key τ = some v ∧ MS2 I0 I1 B L key (lx_nx B L τ) (m_stl 6 σ (v :: c)).1 (m_stl 6 σ (v :: c)).2 ∧ I1 96 = J 96) ∧ (b = false → lx_atom B key τ = none ∧ I1 = J)) 0 0 38 [some (.ref 86), some (.int x)] [] LAY J := by
    intro lpn
    induction lpn using Nat.strongRecOn with
    | _ lpn ih =>
      intro z x hms hx
      have hL := hM.1.2.2.1
      have htL := hM.2.2.1.2.2.1
      have hft := hM.2.2.1.2.1
      have hfL := hM.2.2.1.1
      have hk3 := hM.2.2.1.2.2.2.1
      have ht4 := tok_4 τ
      refine A_aload_n rfl dX8_takesPart_38 ?_
      refine A_getI fr_X8_212.g rfl lay_86 dX8_takesPart_39 ?_
      rw [hM.2.1.2.2.1]
      refine A_iconst ic_2 dX8_takesPart_42 ?_
      refine A_icmp_eq 52 rfl dX8_takesPart_43 (fun cq43 => ?_) (fun cq43 => ?_)
      · skip
        first
          | (have h7 : nI (tokN τ) = 2 := cq43; exact j52a _ 0 _ rfl ((nI_eq (b := 2) (by omega) (by decide)).mp h7))
          | (have h7 : ¬ nI (tokN τ) = 2 := cq43; exact j52b _ 0 _ rfl (fun q => h7 (by rw [q]; rfl)) (hx.mp cq47))
      · skip
        refine A_iload_n rfl dX8_takesPart_46 ?_
        refine A_if_ne 52 rfl dX8_takesPart_47 (fun cq47 => ?_) (fun cq47 => ?_)
        · skip
          first
            | (have h7 : nI (tokN τ) = 2 := cq43; exact j52a _ 0 _ rfl ((nI_eq (b := 2) (by omega) (by decide)).mp h7))
            | (have h7 : ¬ nI (tokN τ) = 2 := cq43; exact j52b _ 0 _ rfl (fun q => h7 (by rw [q]; rfl)) (hx.mp cq47))
        · skip
          refine A_iconst ic_0 dX8_takesPart_50 ?_
          refine A_iret rfl rfl rfl rfl dX8_takesPart_51 ?_
          exact ⟨false, rfl, rfl, fun q => (by cases q), fun _ => ⟨at_none hk3 (fun q => cq43 (by rw [q]; rfl)) (fun q => hx.mpr q cq47), rfl⟩⟩
  refine Meth.of (by decide +kernel) (by simp [Value.category]) (Nat.le_of_ble_eq_true rfl) ?_
  have hL := hM.1.2.2.1
  have htL := hM.2.2.1.2.2.1
  have hft := hM.2.2.1.2.1
  have hfL := hM.2.2.1.1
  have hk3 := hM.2.2.1.2.2.2.1
  have ht4 := tok_4 τ
  refine A_aload_n rfl dX8_takesPart_0 ?_
  refine A_getI fr_X8_212.g rfl lay_86 dX8_takesPart_1 ?_
  rw [hM.2.1.2.2.1]
  refine A_iconst ic_1 dX8_takesPart_4 ?_
  refine A_icmp_ne 36 rfl dX8_takesPart_5 (fun cq5 => ?_) (fun cq5 => ?_)
  · skip
    refine A_iconst ic_0 dX8_takesPart_36 ?_
    refine A_istore_n (by decide) rfl dX8_takesPart_37 ?_
    first
      | (have h7 : ¬ nI (tokN τ) = 1 := cq5; exact j38 _ 0 0 rfl ⟨fun q => absurd rfl q, fun q => absurd (by rw [(tok1 hk3).mpr q.1]; rfl) h7⟩)
      | (have h7 : ¬ nI (τ.2.1 - τ.1) = 1 := cq18; exact j38 _ 0 0 rfl ⟨fun q => absurd rfl q, fun q => absurd (by rw [q.2.1]; rfl) h7⟩)
      | (have h7 : lx_nm key (B τ.1) < 0 := cq29; exact j38 _ 0 0 rfl ⟨fun q => absurd rfl q, fun q => absurd q.2.2 (Int32.not_le.mpr h7)⟩)
      | (have h7 : ¬ lx_nm key (B τ.1) < 0 := cq29; exact j38 _ 0 1 rfl ⟨fun _ => ⟨htk, (nI_eq (b := 1) (by omega) (by decide)).mp cq18, Int32.not_lt.mp h7⟩, fun _ => by decide⟩)
  · skip
    have htk := (tok1 hk3).mp ((nI_eq (b := 1) (by omega) (by decide)).mp cq5)
    refine A_aload_n rfl dX8_takesPart_8 ?_
    refine A_getI fr_X8_203.g rfl lay_86 dX8_takesPart_9 ?_
    rw [hM.2.1.1]
    refine A_aload_n rfl dX8_takesPart_12 ?_
    refine A_getI fr_X8_206.g rfl lay_86 dX8_takesPart_13 ?_
    rw [hM.2.1.2.1]
    refine A_isub dX8_takesPart_16 ?_
    rw [sub_nI hft]
    refine A_iconst ic_1 dX8_takesPart_17 ?_
    refine A_icmp_ne 36 rfl dX8_takesPart_18 (fun cq18 => ?_) (fun cq18 => ?_)
    · skip
      refine A_iconst ic_0 dX8_takesPart_36 ?_
      refine A_istore_n (by decide) rfl dX8_takesPart_37 ?_
      first
        | (have h7 : ¬ nI (tokN τ) = 1 := cq5; exact j38 _ 0 0 rfl ⟨fun q => absurd rfl q, fun q => absurd (by rw [(tok1 hk3).mpr q.1]; rfl) h7⟩)
        | (have h7 : ¬ nI (τ.2.1 - τ.1) = 1 := cq18; exact j38 _ 0 0 rfl ⟨fun q => absurd rfl q, fun q => absurd (by rw [q.2.1]; rfl) h7⟩)
        | (have h7 : lx_nm key (B τ.1) < 0 := cq29; exact j38 _ 0 0 rfl ⟨fun q => absurd rfl q, fun q => absurd q.2.2 (Int32.not_le.mpr h7)⟩)
        | (have h7 : ¬ lx_nm key (B τ.1) < 0 := cq29; exact j38 _ 0 1 rfl ⟨fun _ => ⟨htk, (nI_eq (b := 1) (by omega) (by decide)).mp cq18, Int32.not_lt.mp h7⟩, fun _ => by decide⟩)
    · skip
      refine A_aload_n rfl dX8_takesPart_21 ?_
      refine A_aload_n rfl dX8_takesPart_22 ?_
      refine A_getI fr_X8_218.g rfl lay_86 dX8_takesPart_23 ?_
      rw [hM.2.1.2.2.2.1 (Or.inl htk.1)]
      refine A_callV (t_nm l G J key hkey hM.2.2.2.1.1 _) m_X8_nameOf ml_X8_239 rfl lay_86 rfl (by decide) rfl rfl (Nat.le_of_ble_eq_true rfl) (by decide) (by decide) (by decide) dX8_takesPart_26 (fun _ _ _ h => congrArg List.length h.2.1) ?_
      rintro _ _ _ ⟨rfl, rfl, e9⟩
      refine AW_I e9 ?_
      clear e9
      refine A_if_lt 36 rfl dX8_takesPart_29 (fun cq29 => ?_) (fun cq29 => ?_)
      · skip
        refine A_iconst ic_0 dX8_takesPart_36 ?_
        refine A_istore_n (by decide) rfl dX8_takesPart_37 ?_
        first
          | (have h7 : ¬ nI (tokN τ) = 1 := cq5; exact j38 _ 0 0 rfl ⟨fun q => absurd rfl q, fun q => absurd (by rw [(tok1 hk3).mpr q.1]; rfl) h7⟩)
          | (have h7 : ¬ nI (τ.2.1 - τ.1) = 1 := cq18; exact j38 _ 0 0 rfl ⟨fun q => absurd rfl q, fun q => absurd (by rw [q.2.1]; rfl) h7⟩)
          | (have h7 : lx_nm key (B τ.1) < 0 := cq29; exact j38 _ 0 0 rfl ⟨fun q => absurd rfl q, fun q => absurd q.2.2 (Int32.not_le.mpr h7)⟩)
          | (have h7 : ¬ lx_nm key (B τ.1) < 0 := cq29; exact j38 _ 0 1 rfl ⟨fun _ => ⟨htk, (nI_eq (b := 1) (by omega) (by decide)).mp cq18, Int32.not_lt.mp h7⟩, fun _ => by decide⟩)
      · skip
        refine A_iconst ic_1 dX8_takesPart_32 ?_
        refine A_goto 37 rfl dX8_takesPart_33 ?_
        refine A_istore_n (by decide) rfl dX8_takesPart_37 ?_
        first
          | (have h7 : ¬ nI (tokN τ) = 1 := cq5; exact j38 _ 0 0 rfl ⟨fun q => absurd rfl q, fun q => absurd (by rw [(tok1 hk3).mpr q.1]; rfl) h7⟩)
          | (have h7 : ¬ nI (τ.2.1 - τ.1) = 1 := cq18; exact j38 _ 0 0 rfl ⟨fun q => absurd rfl q, fun q => absurd (by rw [q.2.1]; rfl) h7⟩)
          | (have h7 : lx_nm key (B τ.1) < 0 := cq29; exact j38 _ 0 0 rfl ⟨fun q => absurd rfl q, fun q => absurd q.2.2 (Int32.not_le.mpr h7)⟩)
          | (have h7 : ¬ lx_nm key (B τ.1) < 0 := cq29; exact j38 _ 0 1 rfl ⟨fun _ => ⟨htk, (nI_eq (b := 1) (by omega) (by decide)).mp cq18, Int32.not_lt.mp h7⟩, fun _ => by decide⟩)
