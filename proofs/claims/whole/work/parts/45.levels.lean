theorem sg_33 : ∀ v, v < 256 → (0 ≤ st_ix 6 (nI v) 6 0 ↔ nI v = 33) := by decide +kernel
theorem sg_40 : ∀ v, v < 256 → (0 ≤ st_ix 7 (nI v) 6 0 ↔ nI v = 40) := by decide +kernel
theorem sg_41' : ∀ v, v < 256 → (0 ≤ st_ix 8 (nI v) 6 0 ↔ nI v = 41) := by decide +kernel
theorem sg_lv : ∀ lev, lev < 5 → ∀ v, v < 256 → (0 ≤ st_ix (9 + lev) (nI v) 6 0 ↔ (¬ lx_sgb (nI v) = 0 ∧ m_rk (lx_sgb (nI v)) = lev + 1)) := by decide +kernel
theorem sg_enc : ∀ v, v < 256 → ¬ lx_sgb (nI v) = 0 → -(nI v) = q_enc (lx_sgb (nI v)) ∧ ¬ 0 ≤ lx_sgb (nI v) := by decide +kernel
theorem isS {B : Nat → Int32} {L : Nat} {τ : Tok} (hB : lx_B B L) (hI : lx_I B L τ) {i : Nat} {x : Int32} (h : ∀ v, v < 256 → (0 ≤ st_ix i (nI v) 6 0 ↔ nI v = x)) : (τ.2.2.1 = 3 ∧ 0 ≤ st_ix i (B τ.1) 6 0) ↔ (τ.2.2.1 = 3 ∧ B τ.1 = x) := by
  constructor
  · rintro ⟨h1, h2⟩
    obtain ⟨v, hv, e⟩ := hB.2 τ.1 (lx_at_f hI (by omega)).1
    rw [e] at h2 ⊢
    exact ⟨h1, (h v hv).mp h2⟩
  · rintro ⟨h1, h2⟩
    obtain ⟨v, hv, e⟩ := hB.2 τ.1 (lx_at_f hI (by omega)).1
    rw [e] at h2 ⊢
    exact ⟨h1, (h v hv).mpr h2⟩
theorem isL {B : Nat → Int32} {L : Nat} {τ : Tok} (hB : lx_B B L) (hI : lx_I B L τ) {lev : Nat} (hl : lev < 5) : (τ.2.2.1 = 3 ∧ 0 ≤ st_ix (9 + lev) (B τ.1) 6 0) ↔ (¬ lx_sg B τ = 0 ∧ m_rk (lx_sg B τ) = lev + 1) := by
  constructor
  · rintro ⟨h1, h2⟩
    obtain ⟨v, hv, e⟩ := hB.2 τ.1 (lx_at_f hI (by omega)).1
    unfold lx_sg
    rw [if_pos h1]
    rw [e] at h2 ⊢
    exact (sg_lv lev hl v hv).mp h2
  · rintro ⟨h1, h2⟩
    have h3 := sg_k h1
    obtain ⟨v, hv, e⟩ := hB.2 τ.1 (lx_at_f hI (by omega)).1
    unfold lx_sg at h1 h2
    rw [if_pos h3] at h1 h2
    rw [e] at h1 h2 ⊢
    exact ⟨h3, (sg_lv lev hl v hv).mpr ⟨h1, h2⟩⟩
theorem at_num {B : Nat → Int32} {key : Nat} {τ : Tok} (hs : τ.2.2.2 = false) (hk : τ.2.2.1 = 2) (h : τ.2.1 - τ.1 ≤ 4) : lx_atom B key τ = some (lx_num B τ.1 (τ.2.1 - τ.1)) := by
  unfold lx_atom; rw [hs, if_neg (by decide), if_pos hk, if_pos h]
theorem at_nnum {B : Nat → Int32} {key : Nat} {τ : Tok} (hk : τ.2.2.1 = 2) (h : ¬ τ.2.1 - τ.1 ≤ 4) : lx_atom B key τ = none := by
  unfold lx_atom; rw [if_pos hk, if_neg h, ite_self]
theorem at_nam {B : Nat → Int32} {key : Nat} {τ : Tok} (hs : τ.2.2.2 = false) (hk : τ.2.2.1 = 1) (h : τ.2.1 - τ.1 = 1 ∧ 0 ≤ lx_nm key (B τ.1)) : lx_atom B key τ = some (10000 + lx_nm key (B τ.1)) := by
  unfold lx_atom; rw [hs, if_neg (by decide), if_neg (by omega), if_pos hk, if_pos h]
theorem at_nnam {B : Nat → Int32} {key : Nat} {τ : Tok} (hk : τ.2.2.1 = 1) (h : ¬ (τ.2.1 - τ.1 = 1 ∧ 0 ≤ lx_nm key (B τ.1))) : lx_atom B key τ = none := by
  unfold lx_atom; rw [if_neg (by omega : ¬ τ.2.2.1 = 2), if_pos hk, if_neg h, ite_self]
theorem at_st {B : Nat → Int32} {key : Nat} {τ : Tok} (hs : τ.2.2.2 = true) : lx_atom B key τ = none := by
  unfold lx_atom; rw [if_pos hs]
theorem at_no {B : Nat → Int32} {key : Nat} {τ : Tok} (h1 : ¬ τ.2.2.1 = 1) (h2 : ¬ τ.2.2.1 = 2) : lx_atom B key τ = none := by
  unfold lx_atom; rw [if_neg h2, if_neg h1, ite_self]
abbrev QP (I0 : Hp) (B : Nat → Int32) (L key o n : Nat) (τ : Tok) (D : List Int32) : Pst := fun r lay1 I1 => ∃ b : Bool, r = some (.int (b2i b)) ∧ lay1 = LAY ∧ (b = true → ∃ (τ1 : Tok) (D1 : List Int32), PS I0 I1 B L key τ1 (D1 ++ D) ∧ P_ok B L key o n τ τ1 D1 ∧ Gd (nnk key) D1 ∧ D1.length + τ.1 ≤ τ1.1) ∧ (b = false → ∃ f, FS I0 I1 L f ∧ P_no B L key o n τ f)
abbrev QV (I0 : Hp) (B : Nat → Int32) (L key lev o n : Nat) (τ : Tok) (D : List Int32) : Pst := fun r lay1 I1 => ∃ b : Bool, r = some (.int (b2i b)) ∧ lay1 = LAY ∧ (b = true → ∃ (τ1 : Tok) (D1 : List Int32), PS I0 I1 B L key τ1 (D1 ++ D) ∧ V_ok B L key lev o n τ τ1 D1 ∧ Gd (nnk key) D1 ∧ D1.length + τ.1 ≤ τ1.1) ∧ (b = false → ∃ f, FS I0 I1 L f ∧ V_no B L key lev o n τ f)
set_option maxHeartbeats 1000000 in
set_option maxRecDepth 100000 in
theorem s_pc (l : Launch) (G : Gm) (I0 J : Hp) (B : Nat → Int32) (L key : Nat) (hkey : key ≤ 2) (τ : Tok) (D : List Int32) (hP : PS I0 J B L key τ D) (hDl : D.length ≤ τ.1) (o n : Nat) (ho : o ≤ 8) (hn : n ≤ 8) (hyP : n < 8 → ∀ (J : Hp) (τ : Tok) (D : List Int32), PS I0 J B L key τ D → D.length ≤ τ.1 → Meth l G yX6_piece cX6_piece 3 (some (FieldType.boolean)) (7 * (16 - o - (n + 1)) + 10) 0 0 [.ref 32, .int (nI o), .int (nI (n + 1))] LAY J (QP I0 B L key o (n + 1) τ D)) (hyV : o < 8 → ∀ (J : Hp) (τ : Tok) (D : List Int32), PS I0 J B L key τ D → D.length ≤ τ.1 → Meth l G yX6_level cX6_level 6 (some (FieldType.boolean)) (7 * (16 - (o + 1) - n) + (16 - 0)) 0 0 [.ref 32, .int (nI 0), .int (nI (o + 1)), .int (nI n)] LAY J (QV I0 B L key 0 (o + 1) n τ D)) : Meth l G yX6_piece cX6_piece 3 (some (FieldType.boolean)) (7 * (16 - o - n) + 10) 0 0 [.ref 32, .int (nI o), .int (nI n)] LAY J (QP I0 B L key o n τ D) := by
  refine Meth.of (by decide +kernel) (by simp [Value.category]) (Nat.le_of_ble_eq_true rfl) ?_
  have hL := hP.1.2.2.1
  have htL := hP.2.2.1.2.2.1
  have hft := hP.2.2.1.2.1
  have hfL := hP.2.2.1.1
  have hk3 := hP.2.2.1.2.2.2.1
  refine A_aload_n rfl dX6_piece_0 ?_
  refine A_getI fr_X6_57.g rfl lay_32 dX6_piece_1 ?_
  rw [hP.2.1.2.2.2]
  refine A_if_eq 9 rfl dX6_piece_4 (fun cq4 => ?_) (fun cq4 => ?_)
  · skip
    refine A_aload_n rfl dX6_piece_9 ?_
    refine A_getI fr_X6_29.g rfl lay_32 dX6_piece_10 ?_
    refine A_iconst ic_2 dX6_piece_13 ?_
    rw [hP.2.1.2.2.1]
    have hst : τ.2.2.2 = false := b2i_0.mp cq4
    refine A_icmp_ne 22 rfl dX6_piece_14 (fun cq14 => ?_) (fun cq14 => ?_)
    · skip
      refine A_aload_n rfl dX6_piece_22 ?_
      refine A_getI fr_X6_29.g rfl lay_32 dX6_piece_23 ?_
      refine A_iconst ic_1 dX6_piece_26 ?_
      rw [hP.2.1.2.2.1]
      refine A_icmp_ne 35 rfl dX6_piece_27 (fun cq27 => ?_) (fun cq27 => ?_)
      · skip
        refine A_iload_n rfl dX6_piece_35 ?_
        refine A_bipush bp_8 dX6_piece_36 ?_
        refine A_icmp_ge 78 rfl dX6_piece_38 (fun cq38 => ?_) (fun cq38 => ?_)
        · skip
          refine A_iload_n rfl dX6_piece_78 ?_
          refine A_bipush bp_8 dX6_piece_79 ?_
          refine A_icmp_ge 126 rfl dX6_piece_81 (fun cq81 => ?_) (fun cq81 => ?_)
          · skip
            refine A_iconst ic_0 dX6_piece_126 ?_
            refine A_iret rfl rfl rfl rfl dX6_piece_127 ?_
            have hk1 : ¬ τ.2.2.1 = 1 := fun q => cq27 (by rw [q]; rfl)
            have hk2 : ¬ τ.2.2.1 = 2 := fun q => cq14 (by rw [q]; rfl)
            have b33 : ¬ (τ.2.2.1 = 3 ∧ B τ.1 = 33 ∧ n < 8) := by
              rintro ⟨z1, z2, z3⟩
              first
                | (have h8 := (le_nI (show (8 : Int32) = nI 8 from rfl) (rfl : nI n = nI n) (by omega) (by omega)).mp cq38; omega)
                | exact b2i_q.mp cq47 ((isS hP.1.2.2 hP.2.2.1 sg_33).mpr ⟨z1, z2⟩)
            have b40 : ¬ (τ.2.2.1 = 3 ∧ B τ.1 = 40 ∧ o < 8) := by
              rintro ⟨z1, z2, z3⟩
              first
                | (have h8 := (le_nI (show (8 : Int32) = nI 8 from rfl) (rfl : nI o = nI o) (by omega) (by omega)).mp cq81; omega)
                | exact b2i_q.mp cq90 ((isS hP.1.2.2 hP.2.2.1 sg_40).mpr ⟨z1, z2⟩)
            exact ⟨false, rfl, rfl, fun q => (by cases q), fun _ => ⟨τ.1, PS.fs hP, P_no.bad b33 b40 (at_no hk1 hk2)⟩⟩
          · skip
            refine A_aload_n rfl dX6_piece_84 ?_
            refine A_ldcS 7 (by decide) rfl rfl dX6_piece_85 ?_
            refine A_callV (s_sig l G J B L hP.1 τ hP.2.1 hP.2.2.1 7 (by decide)) m_X6_isSignOf ml_X6_109 rfl lay_32 rfl (by decide) rfl rfl (Nat.le_of_ble_eq_true rfl) (by omega) (by decide) (by decide) dX6_piece_87 (fun _ _ _ h => congrArg List.length h.2.1) ?_
            rintro _ _ _ ⟨rfl, rfl, e9⟩
            refine AW_I e9 ?_
            clear e9
            refine A_if_eq 126 rfl dX6_piece_90 (fun cq90 => ?_) (fun cq90 => ?_)
            · skip
              refine A_iconst ic_0 dX6_piece_126 ?_
              refine A_iret rfl rfl rfl rfl dX6_piece_127 ?_
              have hk1 : ¬ τ.2.2.1 = 1 := fun q => cq27 (by rw [q]; rfl)
              have hk2 : ¬ τ.2.2.1 = 2 := fun q => cq14 (by rw [q]; rfl)
              have b33 : ¬ (τ.2.2.1 = 3 ∧ B τ.1 = 33 ∧ n < 8) := by
                rintro ⟨z1, z2, z3⟩
                first
                  | (have h8 := (le_nI (show (8 : Int32) = nI 8 from rfl) (rfl : nI n = nI n) (by omega) (by omega)).mp cq38; omega)
                  | exact b2i_q.mp cq47 ((isS hP.1.2.2 hP.2.2.1 sg_33).mpr ⟨z1, z2⟩)
              have b40 : ¬ (τ.2.2.1 = 3 ∧ B τ.1 = 40 ∧ o < 8) := by
                rintro ⟨z1, z2, z3⟩
                first
                  | (have h8 := (le_nI (show (8 : Int32) = nI 8 from rfl) (rfl : nI o = nI o) (by omega) (by omega)).mp cq81; omega)
                  | exact b2i_q.mp cq90 ((isS hP.1.2.2 hP.2.2.1 sg_40).mpr ⟨z1, z2⟩)
              exact ⟨false, rfl, rfl, fun q => (by cases q), fun _ => ⟨τ.1, PS.fs hP, P_no.bad b33 b40 (at_no hk1 hk2)⟩⟩
            · skip
              have h40 : τ.2.2.1 = 3 ∧ B τ.1 = 40 := (isS hP.1.2.2 hP.2.2.1 sg_40).mp (b2i_p.mp cq90)
              have ho8 : o < 8 := by
                have hq1 := mt (le_nI (show (8 : Int32) = nI 8 from rfl) (rfl : nI o = nI o) (by omega) (by omega)).mpr cq81
                omega
              have hnf := lx_nx_f hP.2.2.1 (show τ.2.2.1 ≠ 0 by omega)
              refine A_aload_n rfl dX6_piece_93 ?_
              refine A_callV (s_step l G J B L hP.1 τ.2.1 τ.2.2.1 hP.2.2.1.2.2.1 hP.2.1.2.1 hP.2.1.2.2.1 hP.2.2.1.2.2.2.1) m_X6_step ml_X6_32 rfl lay_32 rfl (by decide) rfl rfl (Nat.le_of_ble_eq_true rfl) (by omega) (by decide) (by decide) dX6_piece_94 (fun _ _ _ hqq => congrArg List.length hqq.2.1) ?_
              rintro _ _ K ⟨rfl, rfl, hk1, hk2, hk9⟩
              have hP2 := hP.step hk1 hk2 hk9
              clear hk1 hk2 hk9
              refine A_aload_n rfl dX6_piece_97 ?_
              refine A_iconst ic_0 dX6_piece_98 ?_
              refine A_iload_n rfl dX6_piece_99 ?_
              refine A_iconst ic_1 dX6_piece_100 ?_
              refine A_iadd dX6_piece_101 ?_
              rw [nI_1]
              refine A_iload_n rfl dX6_piece_102 ?_
              refine A_callV (hyV (by omega) K _ D hP2 (by omega)) m_X6_level ml_X6_46 rfl lay_32 rfl (by decide) rfl rfl (Nat.le_of_ble_eq_true rfl) (by omega) (by decide) (by decide) dX6_piece_103 (fun _ _ _ ⟨_, _, hqq, _⟩ => congrArg List.length hqq) ?_
              rintro _ _ K2 ⟨b1, rfl, rfl, hy1, hn1⟩
              refine A_if_eq 118 rfl dX6_piece_106 (fun cq106 => ?_) (fun cq106 => ?_)
              · skip
                refine A_iconst ic_0 dX6_piece_118 ?_
                refine A_iret rfl rfl rfl rfl dX6_piece_119 ?_
                refine ⟨false, rfl, rfl, fun q => (by cases q), fun _ => ?_⟩
                first
                  | (have h7 : b2i b1 = 0 := cq106
                     obtain ⟨f, hf1, hf2⟩ := hn1 (b2i_0.mp h7)
                     exact ⟨f, hf1, P_no.par h40.1 h40.2 ho8 hf2⟩)
                  | (exact ⟨τ1.1, PS.fs hP3, P_no.shut h40.1 h40.2 ho8 hok (fun q => b2i_q.mp cq115 ((isS hP3.1.2.2 hP3.2.2.1 sg_41').mpr q))⟩)
              · skip
                obtain ⟨τ1, D1, hP3, hok, hgd, hln⟩ := hy1 (b2i_1.mp cq106)
                refine A_aload_n rfl dX6_piece_109 ?_
                refine A_ldcS 8 (by decide) rfl rfl dX6_piece_110 ?_
                refine A_callV (s_sig l G K2 B L hP3.1 τ1 hP3.2.1 hP3.2.2.1 8 (by decide)) m_X6_isSignOf ml_X6_109 rfl lay_32 rfl (by decide) rfl rfl (Nat.le_of_ble_eq_true rfl) (by omega) (by decide) (by decide) dX6_piece_112 (fun _ _ _ h => congrArg List.length h.2.1) ?_
                rintro _ _ _ ⟨rfl, rfl, e9⟩
                refine AW_I e9 ?_
                clear e9
                refine A_if_ne 120 rfl dX6_piece_115 (fun cq115 => ?_) (fun cq115 => ?_)
                · skip
                  have h41 : τ1.2.2.1 = 3 ∧ B τ1.1 = 41 := (isS hP3.1.2.2 hP3.2.2.1 sg_41').mp (b2i_p.mp cq115)
                  have hnf2 := lx_nx_f hP3.2.2.1 (show τ1.2.2.1 ≠ 0 by omega)
                  refine A_aload_n rfl dX6_piece_120 ?_
                  refine A_callV (s_step l G K2 B L hP3.1 τ1.2.1 τ1.2.2.1 hP3.2.2.1.2.2.1 hP3.2.1.2.1 hP3.2.1.2.2.1 hP3.2.2.1.2.2.2.1) m_X6_step ml_X6_32 rfl lay_32 rfl (by decide) rfl rfl (Nat.le_of_ble_eq_true rfl) (by omega) (by decide) (by decide) dX6_piece_121 (fun _ _ _ hqq => congrArg List.length hqq.2.1) ?_
                  rintro _ _ K3 ⟨rfl, rfl, hk1, hk2, hk9⟩
                  have hP4 := hP3.step hk1 hk2 hk9
                  clear hk1 hk2 hk9
                  refine A_iconst ic_1 dX6_piece_124 ?_
                  refine A_iret rfl rfl rfl rfl dX6_piece_125 ?_
                  exact ⟨true, rfl, rfl, fun _ => ⟨_, D1, hP4, P_ok.par h40.1 h40.2 ho8 hok h41.1 h41.2, hgd, by omega⟩, fun q => (by cases q)⟩
                · skip
                  refine A_iconst ic_0 dX6_piece_118 ?_
                  refine A_iret rfl rfl rfl rfl dX6_piece_119 ?_
                  refine ⟨false, rfl, rfl, fun q => (by cases q), fun _ => ?_⟩
                  first
                    | (have h7 : b2i b1 = 0 := cq106
                       obtain ⟨f, hf1, hf2⟩ := hn1 (b2i_0.mp h7)
                       exact ⟨f, hf1, P_no.par h40.1 h40.2 ho8 hf2⟩)
                    | (exact ⟨τ1.1, PS.fs hP3, P_no.shut h40.1 h40.2 ho8 hok (fun q => b2i_q.mp cq115 ((isS hP3.1.2.2 hP3.2.2.1 sg_41').mpr q))⟩)
        · skip
          refine A_aload_n rfl dX6_piece_41 ?_
          refine A_ldcS 6 (by decide) rfl rfl dX6_piece_42 ?_
          refine A_callV (s_sig l G J B L hP.1 τ hP.2.1 hP.2.2.1 6 (by decide)) m_X6_isSignOf ml_X6_109 rfl lay_32 rfl (by decide) rfl rfl (Nat.le_of_ble_eq_true rfl) (by omega) (by decide) (by decide) dX6_piece_44 (fun _ _ _ h => congrArg List.length h.2.1) ?_
          rintro _ _ _ ⟨rfl, rfl, e9⟩
          refine AW_I e9 ?_
          clear e9
          refine A_if_eq 78 rfl dX6_piece_47 (fun cq47 => ?_) (fun cq47 => ?_)
          · skip
            refine A_iload_n rfl dX6_piece_78 ?_
            refine A_bipush bp_8 dX6_piece_79 ?_
            refine A_icmp_ge 126 rfl dX6_piece_81 (fun cq81 => ?_) (fun cq81 => ?_)
            · skip
              refine A_iconst ic_0 dX6_piece_126 ?_
              refine A_iret rfl rfl rfl rfl dX6_piece_127 ?_
              have hk1 : ¬ τ.2.2.1 = 1 := fun q => cq27 (by rw [q]; rfl)
              have hk2 : ¬ τ.2.2.1 = 2 := fun q => cq14 (by rw [q]; rfl)
              have b33 : ¬ (τ.2.2.1 = 3 ∧ B τ.1 = 33 ∧ n < 8) := by
                rintro ⟨z1, z2, z3⟩
                first
                  | (have h8 := (le_nI (show (8 : Int32) = nI 8 from rfl) (rfl : nI n = nI n) (by omega) (by omega)).mp cq38; omega)
                  | exact b2i_q.mp cq47 ((isS hP.1.2.2 hP.2.2.1 sg_33).mpr ⟨z1, z2⟩)
              have b40 : ¬ (τ.2.2.1 = 3 ∧ B τ.1 = 40 ∧ o < 8) := by
                rintro ⟨z1, z2, z3⟩
                first
                  | (have h8 := (le_nI (show (8 : Int32) = nI 8 from rfl) (rfl : nI o = nI o) (by omega) (by omega)).mp cq81; omega)
                  | exact b2i_q.mp cq90 ((isS hP.1.2.2 hP.2.2.1 sg_40).mpr ⟨z1, z2⟩)
              exact ⟨false, rfl, rfl, fun q => (by cases q), fun _ => ⟨τ.1, PS.fs hP, P_no.bad b33 b40 (at_no hk1 hk2)⟩⟩
            · skip
              refine A_aload_n rfl dX6_piece_84 ?_
              refine A_ldcS 7 (by decide) rfl rfl dX6_piece_85 ?_
              refine A_callV (s_sig l G J B L hP.1 τ hP.2.1 hP.2.2.1 7 (by decide)) m_X6_isSignOf ml_X6_109 rfl lay_32 rfl (by decide) rfl rfl (Nat.le_of_ble_eq_true rfl) (by omega) (by decide) (by decide) dX6_piece_87 (fun _ _ _ h => congrArg List.length h.2.1) ?_
              rintro _ _ _ ⟨rfl, rfl, e9⟩
              refine AW_I e9 ?_
              clear e9
              refine A_if_eq 126 rfl dX6_piece_90 (fun cq90 => ?_) (fun cq90 => ?_)
              · skip
                refine A_iconst ic_0 dX6_piece_126 ?_
                refine A_iret rfl rfl rfl rfl dX6_piece_127 ?_
                have hk1 : ¬ τ.2.2.1 = 1 := fun q => cq27 (by rw [q]; rfl)
                have hk2 : ¬ τ.2.2.1 = 2 := fun q => cq14 (by rw [q]; rfl)
                have b33 : ¬ (τ.2.2.1 = 3 ∧ B τ.1 = 33 ∧ n < 8) := by
                  rintro ⟨z1, z2, z3⟩
                  first
                    | (have h8 := (le_nI (show (8 : Int32) = nI 8 from rfl) (rfl : nI n = nI n) (by omega) (by omega)).mp cq38; omega)
                    | exact b2i_q.mp cq47 ((isS hP.1.2.2 hP.2.2.1 sg_33).mpr ⟨z1, z2⟩)
                have b40 : ¬ (τ.2.2.1 = 3 ∧ B τ.1 = 40 ∧ o < 8) := by
                  rintro ⟨z1, z2, z3⟩
                  first
                    | (have h8 := (le_nI (show (8 : Int32) = nI 8 from rfl) (rfl : nI o = nI o) (by omega) (by omega)).mp cq81; omega)
                    | exact b2i_q.mp cq90 ((isS hP.1.2.2 hP.2.2.1 sg_40).mpr ⟨z1, z2⟩)
                exact ⟨false, rfl, rfl, fun q => (by cases q), fun _ => ⟨τ.1, PS.fs hP, P_no.bad b33 b40 (at_no hk1 hk2)⟩⟩
              · skip
                have h40 : τ.2.2.1 = 3 ∧ B τ.1 = 40 := (isS hP.1.2.2 hP.2.2.1 sg_40).mp (b2i_p.mp cq90)
                have ho8 : o < 8 := by
                  have hq1 := mt (le_nI (show (8 : Int32) = nI 8 from rfl) (rfl : nI o = nI o) (by omega) (by omega)).mpr cq81
                  omega
                have hnf := lx_nx_f hP.2.2.1 (show τ.2.2.1 ≠ 0 by omega)
                refine A_aload_n rfl dX6_piece_93 ?_
                refine A_callV (s_step l G J B L hP.1 τ.2.1 τ.2.2.1 hP.2.2.1.2.2.1 hP.2.1.2.1 hP.2.1.2.2.1 hP.2.2.1.2.2.2.1) m_X6_step ml_X6_32 rfl lay_32 rfl (by decide) rfl rfl (Nat.le_of_ble_eq_true rfl) (by omega) (by decide) (by decide) dX6_piece_94 (fun _ _ _ hqq => congrArg List.length hqq.2.1) ?_
                rintro _ _ K ⟨rfl, rfl, hk1, hk2, hk9⟩
                have hP2 := hP.step hk1 hk2 hk9
                clear hk1 hk2 hk9
                refine A_aload_n rfl dX6_piece_97 ?_
                refine A_iconst ic_0 dX6_piece_98 ?_
                refine A_iload_n rfl dX6_piece_99 ?_
                refine A_iconst ic_1 dX6_piece_100 ?_
                refine A_iadd dX6_piece_101 ?_
                rw [nI_1]
                refine A_iload_n rfl dX6_piece_102 ?_
                refine A_callV (hyV (by omega) K _ D hP2 (by omega)) m_X6_level ml_X6_46 rfl lay_32 rfl (by decide) rfl rfl (Nat.le_of_ble_eq_true rfl) (by omega) (by decide) (by decide) dX6_piece_103 (fun _ _ _ ⟨_, _, hqq, _⟩ => congrArg List.length hqq) ?_
                rintro _ _ K2 ⟨b1, rfl, rfl, hy1, hn1⟩
                refine A_if_eq 118 rfl dX6_piece_106 (fun cq106 => ?_) (fun cq106 => ?_)
                · skip
                  refine A_iconst ic_0 dX6_piece_118 ?_
                  refine A_iret rfl rfl rfl rfl dX6_piece_119 ?_
                  refine ⟨false, rfl, rfl, fun q => (by cases q), fun _ => ?_⟩
                  first
                    | (have h7 : b2i b1 = 0 := cq106
                       obtain ⟨f, hf1, hf2⟩ := hn1 (b2i_0.mp h7)
                       exact ⟨f, hf1, P_no.par h40.1 h40.2 ho8 hf2⟩)
                    | (exact ⟨τ1.1, PS.fs hP3, P_no.shut h40.1 h40.2 ho8 hok (fun q => b2i_q.mp cq115 ((isS hP3.1.2.2 hP3.2.2.1 sg_41').mpr q))⟩)
                · skip
                  obtain ⟨τ1, D1, hP3, hok, hgd, hln⟩ := hy1 (b2i_1.mp cq106)
                  refine A_aload_n rfl dX6_piece_109 ?_
                  refine A_ldcS 8 (by decide) rfl rfl dX6_piece_110 ?_
                  refine A_callV (s_sig l G K2 B L hP3.1 τ1 hP3.2.1 hP3.2.2.1 8 (by decide)) m_X6_isSignOf ml_X6_109 rfl lay_32 rfl (by decide) rfl rfl (Nat.le_of_ble_eq_true rfl) (by omega) (by decide) (by decide) dX6_piece_112 (fun _ _ _ h => congrArg List.length h.2.1) ?_
                  rintro _ _ _ ⟨rfl, rfl, e9⟩
                  refine AW_I e9 ?_
                  clear e9
                  refine A_if_ne 120 rfl dX6_piece_115 (fun cq115 => ?_) (fun cq115 => ?_)
                  · skip
                    have h41 : τ1.2.2.1 = 3 ∧ B τ1.1 = 41 := (isS hP3.1.2.2 hP3.2.2.1 sg_41').mp (b2i_p.mp cq115)
                    have hnf2 := lx_nx_f hP3.2.2.1 (show τ1.2.2.1 ≠ 0 by omega)
                    refine A_aload_n rfl dX6_piece_120 ?_
                    refine A_callV (s_step l G K2 B L hP3.1 τ1.2.1 τ1.2.2.1 hP3.2.2.1.2.2.1 hP3.2.1.2.1 hP3.2.1.2.2.1 hP3.2.2.1.2.2.2.1) m_X6_step ml_X6_32 rfl lay_32 rfl (by decide) rfl rfl (Nat.le_of_ble_eq_true rfl) (by omega) (by decide) (by decide) dX6_piece_121 (fun _ _ _ hqq => congrArg List.length hqq.2.1) ?_
                    rintro _ _ K3 ⟨rfl, rfl, hk1, hk2, hk9⟩
                    have hP4 := hP3.step hk1 hk2 hk9
                    clear hk1 hk2 hk9
                    refine A_iconst ic_1 dX6_piece_124 ?_
                    refine A_iret rfl rfl rfl rfl dX6_piece_125 ?_
                    exact ⟨true, rfl, rfl, fun _ => ⟨_, D1, hP4, P_ok.par h40.1 h40.2 ho8 hok h41.1 h41.2, hgd, by omega⟩, fun q => (by cases q)⟩
                  · skip
                    refine A_iconst ic_0 dX6_piece_118 ?_
                    refine A_iret rfl rfl rfl rfl dX6_piece_119 ?_
                    refine ⟨false, rfl, rfl, fun q => (by cases q), fun _ => ?_⟩
                    first
                      | (have h7 : b2i b1 = 0 := cq106
                         obtain ⟨f, hf1, hf2⟩ := hn1 (b2i_0.mp h7)
                         exact ⟨f, hf1, P_no.par h40.1 h40.2 ho8 hf2⟩)
                      | (exact ⟨τ1.1, PS.fs hP3, P_no.shut h40.1 h40.2 ho8 hok (fun q => b2i_q.mp cq115 ((isS hP3.1.2.2 hP3.2.2.1 sg_41').mpr q))⟩)
          · skip
            have h33 : τ.2.2.1 = 3 ∧ B τ.1 = 33 := (isS hP.1.2.2 hP.2.2.1 sg_33).mp (b2i_p.mp cq47)
            have hn8 : n < 8 := by
              have hq1 := mt (le_nI (show (8 : Int32) = nI 8 from rfl) (rfl : nI n = nI n) (by omega) (by omega)).mpr cq38
              omega
            have hnf := lx_nx_f hP.2.2.1 (show τ.2.2.1 ≠ 0 by omega)
            refine A_aload_n rfl dX6_piece_50 ?_
            refine A_callV (s_step l G J B L hP.1 τ.2.1 τ.2.2.1 hP.2.2.1.2.2.1 hP.2.1.2.1 hP.2.1.2.2.1 hP.2.2.1.2.2.2.1) m_X6_step ml_X6_32 rfl lay_32 rfl (by decide) rfl rfl (Nat.le_of_ble_eq_true rfl) (by omega) (by decide) (by decide) dX6_piece_51 (fun _ _ _ hqq => congrArg List.length hqq.2.1) ?_
            rintro _ _ K ⟨rfl, rfl, hk1, hk2, hk9⟩
            have hP2 := hP.step hk1 hk2 hk9
            clear hk1 hk2 hk9
            refine A_aload_n rfl dX6_piece_54 ?_
            refine A_iload_n rfl dX6_piece_55 ?_
            refine A_iload_n rfl dX6_piece_56 ?_
            refine A_iconst ic_1 dX6_piece_57 ?_
            refine A_iadd dX6_piece_58 ?_
            rw [nI_1]
            refine A_callV (hyP (by omega) K _ D hP2 (by omega)) m_X6_piece ml_X6_102 rfl lay_32 rfl (by decide) rfl rfl (Nat.le_of_ble_eq_true rfl) (by omega) (by decide) (by decide) dX6_piece_59 (fun _ _ _ ⟨_, _, hqq, _⟩ => congrArg List.length hqq) ?_
            rintro _ _ K2 ⟨b1, rfl, rfl, hy1, hn1⟩
            refine A_if_ne 67 rfl dX6_piece_62 (fun cq62 => ?_) (fun cq62 => ?_)
            · skip
              obtain ⟨τ1, D1, hP3, hok, hgd, hln⟩ := hy1 (b2i_1.mp cq62)
              have hf3 := hP3.2.2.1.1
              refine A_aload_n rfl dX6_piece_67 ?_
              refine A_getR fr_X6_18.g rfl lay_32 rfl dX6_piece_68 ?_
              refine A_bipush bp_33 dX6_piece_71 ?_
              refine A_callV (s_addS l G K2 key (D1 ++ D) hP3.2.2.2.1 (by rw [List.length_append]; omega) 33 (-10) (by decide) (by decide)) m_X2_addSign ml_X6_112 rfl (ll q34) rfl (by decide) rfl rfl (Nat.le_of_ble_eq_true rfl) (by omega) (by decide) (by decide) dX6_piece_73 (fun _ _ _ hqq => congrArg List.length hqq.2.1) ?_
              rintro _ _ K3 ⟨rfl, rfl, hK1, hK2⟩
              have hP4 := hP3.law hK1 hK2
              refine A_iconst ic_1 dX6_piece_76 ?_
              refine A_iret rfl rfl rfl rfl dX6_piece_77 ?_
              exact ⟨true, rfl, rfl, fun _ => ⟨τ1, -10 :: D1, hP4, P_ok.not h33.1 h33.2 hn8 hok, hgd.not, by simp only [List.length_cons]; omega⟩, fun q => (by cases q)⟩
            · skip
              refine A_iconst ic_0 dX6_piece_65 ?_
              refine A_iret rfl rfl rfl rfl dX6_piece_66 ?_
              obtain ⟨f, hf1, hf2⟩ := hn1 (b2i_0.mp cq62)
              exact ⟨false, rfl, rfl, fun q => (by cases q), fun _ => ⟨f, hf1, P_no.not h33.1 h33.2 hn8 hf2⟩⟩
      · skip
        have hk1 : τ.2.2.1 = 1 := (nI_eq (b := 1) (by omega) (by omega)).mp cq27
        refine A_aload_n rfl dX6_piece_30 ?_
        refine A_callV (s_nam l G I0 J B L key hkey τ D hP hDl hk1) m_X6_name ml_X6_119 rfl lay_32 rfl (by decide) rfl rfl (Nat.le_of_ble_eq_true rfl) (by omega) (by decide) (by decide) dX6_piece_31 (fun _ _ _ ⟨_, _, hqq, _⟩ => congrArg List.length hqq) ?_
        rintro _ _ K ⟨b1, rfl, rfl, hy1, hn1⟩
        refine A_iret rfl (b2i_n _) rfl rfl dX6_piece_34 ?_
        refine ⟨b1, rfl, rfl, fun q => ?_, fun q => ?_⟩
        · obtain ⟨h4, h5, i, hi, ei, hP3⟩ := hy1 q
          have hnf := lx_nx_f hP.2.2.1 (show τ.2.2.1 ≠ 0 by omega)
          exact ⟨_, [10000 + lx_nm key (B τ.1)], hP3, P_ok.atom (at_nam hst hk1 ⟨h4, h5⟩), by rw [ei]; exact Gd.nam hi (nnk_3 key), by simp only [List.length_cons, List.length_nil]; omega⟩
        · obtain ⟨h4, rfl⟩ := hn1 q
          exact ⟨τ.1, PS.fs hP, P_no.bad (by omega) (by omega) (at_nnam hk1 h4)⟩
    · skip
      have hk2 : τ.2.2.1 = 2 := (nI_eq (b := 2) (by omega) (by omega)).mp cq14
      refine A_aload_n rfl dX6_piece_17 ?_
      refine A_callV (s_num l G I0 J B L key hkey τ D hP hDl hk2) m_X6_number ml_X6_115 rfl lay_32 rfl (by decide) rfl rfl (Nat.le_of_ble_eq_true rfl) (by omega) (by decide) (by decide) dX6_piece_18 (fun _ _ _ ⟨_, _, hqq, _⟩ => congrArg List.length hqq) ?_
      rintro _ _ K ⟨b1, rfl, rfl, hy1, hn1⟩
      refine A_iret rfl (b2i_n _) rfl rfl dX6_piece_21 ?_
      refine ⟨b1, rfl, rfl, fun q => ?_, fun q => ?_⟩
      · obtain ⟨h4, m, hm, em, hP3⟩ := hy1 q
        have hnf := lx_nx_f hP.2.2.1 (show τ.2.2.1 ≠ 0 by omega)
        exact ⟨_, [lx_num B τ.1 (τ.2.1 - τ.1)], hP3, P_ok.atom (at_num hst hk2 h4), by rw [em]; exact Gd.num hm, by simp only [List.length_cons, List.length_nil]; omega⟩
      · obtain ⟨h4, rfl⟩ := hn1 q
        exact ⟨τ.1, PS.fs hP, P_no.bad (by omega) (by omega) (at_nnum hk2 h4)⟩
  · skip
    refine A_iconst ic_0 dX6_piece_7 ?_
    refine A_iret rfl rfl rfl rfl dX6_piece_8 ?_
    have hst : τ.2.2.2 = true := b2i_1.mp cq4
    have hkk := hP.2.2.1.2.2.2.2.2.2.2.2.2.2 hst
    exact ⟨false, rfl, rfl, fun q => (by cases q), fun _ => ⟨τ.1, PS.fs hP, P_no.bad (by omega) (by omega) (at_st hst)⟩⟩
set_option maxHeartbeats 1000000 in
set_option maxRecDepth 100000 in
theorem s_lv (l : Launch) (G : Gm) (I0 J : Hp) (B : Nat → Int32) (L key : Nat) (hkey : key ≤ 2) (τ : Tok) (D : List Int32) (hP : PS I0 J B L key τ D) (hDl : D.length ≤ τ.1) (lev o n : Nat) (hlev : lev ≤ 5) (ho : o ≤ 8) (hn : n ≤ 8) (hyP : lev = 5 → ∀ (J : Hp) (τ : Tok) (D : List Int32), PS I0 J B L key τ D → D.length ≤ τ.1 → Meth l G yX6_piece cX6_piece 3 (some (FieldType.boolean)) (7 * (16 - o - n) + 10) 0 0 [.ref 32, .int (nI o), .int (nI n)] LAY J (QP I0 B L key o n τ D)) (hyV : lev < 5 → ∀ (J : Hp) (τ : Tok) (D : List Int32), PS I0 J B L key τ D → D.length ≤ τ.1 → Meth l G yX6_level cX6_level 6 (some (FieldType.boolean)) (7 * (16 - o - n) + (16 - (lev + 1))) 0 0 [.ref 32, .int (nI (lev + 1)), .int (nI o), .int (nI n)] LAY J (QV I0 B L key (lev + 1) o n τ D)) : Meth l G yX6_level cX6_level 6 (some (FieldType.boolean)) (7 * (16 - o - n) + (16 - lev)) 0 0 [.ref 32, .int (nI lev), .int (nI o), .int (nI n)] LAY J (QV I0 B L key lev o n τ D) := by
  have loop : ∀ (lpn : Nat) (i : Nat) (τ1 : Tok) (D1 : List Int32) (K : Hp) (o5 : Option Value), L - τ1.1 = lpn → (lev < 5) → (PS I0 K B L key τ1 (D1 ++ D)) → (V_mi B L key lev o n τ τ1 D1) → (Gd (nnk key) D1) → (D1.length + τ.1 ≤ τ1.1) → (i + τ.1 ≤ τ1.1) → AW l G yX6_level cX6_level 6 (some (FieldType.boolean)) (7 * (16 - o - n) + (16 - lev)) 0 0 (QV I0 B L key lev o n τ D) 0 0 29 [some (.ref 32), some (.int (nI lev)), some (.int (nI o)), some (.int (nI n)), some (.int (nI i)), o5] [] LAY K := by
    intro lpn
    induction lpn using Nat.strongRecOn with
    | _ lpn ih =>
      intro i τ1 D1 K o5 hms hl5 hP1 hmi hgd hln hi
      have hL := hP.1.2.2.1
      have htL := hP.2.2.1.2.2.1
      have hft := hP.2.2.1.2.1
      have hfL := hP.2.2.1.1
      have hk3 := hP.2.2.1.2.2.2.1
      have hf1 := hP1.2.2.1.1
      refine A_iload rfl dX6_level_29 ?_
      refine A_bipush bp_96 dX6_level_31 ?_
      refine A_icmp_ge 97 rfl dX6_level_33 (fun cq33 => ?_) (fun cq33 => ?_)
      · skip
        refine A_iconst ic_1 dX6_level_97 ?_
        refine A_iret rfl rfl rfl rfl dX6_level_98 ?_
        have hns : ¬ (¬ lx_sg B τ1 = 0 ∧ m_rk (lx_sg B τ1) = lev + 1) := by
          first
            | exact fun q => b2i_q.mp cq44 ((isL hP1.1.2.2 hP1.2.2.1 hl5).mpr q)
            | (intro q
               have h8 := (le_nI (show (96 : Int32) = nI 96 from rfl) (rfl : nI i = nI i) (by omega) (by omega)).mp cq33
               have h9 := sg_k q.1
               have h10 := hP1.2.2.1.2.2.2.2.1
               omega)
        exact ⟨true, rfl, rfl, fun _ => ⟨τ1, D1, hP1, hmi.exit hns, hgd, hln⟩, fun q => (by cases q)⟩
      · skip
        refine A_aload_n rfl dX6_level_36 ?_
        refine A_iload_n rfl dX6_level_37 ?_
        refine A_callS (s_signs l G _ _ lev (by omega)) m_X6_signsOf ml_X6_106 rfl rfl rfl (Nat.le_of_ble_eq_true rfl) (by omega) (by decide) (by decide) dX6_level_38 (fun _ _ _ h => congrArg List.length h.2.1) ?_
        rintro _ _ _ ⟨rfl, rfl, e9⟩
        refine AW_I e9 ?_
        clear e9
        refine A_callV (s_sig l G K B L hP1.1 τ1 hP1.2.1 hP1.2.2.1 (9 + lev) (by omega)) m_X6_isSignOf ml_X6_109 rfl lay_32 rfl (by decide) rfl rfl (Nat.le_of_ble_eq_true rfl) (by omega) (by decide) (by decide) dX6_level_41 (fun _ _ _ h => congrArg List.length h.2.1) ?_
        rintro _ _ _ ⟨rfl, rfl, e9⟩
        refine AW_I e9 ?_
        clear e9
        refine A_if_eq 97 rfl dX6_level_44 (fun cq44 => ?_) (fun cq44 => ?_)
        · skip
          refine A_iconst ic_1 dX6_level_97 ?_
          refine A_iret rfl rfl rfl rfl dX6_level_98 ?_
          have hns : ¬ (¬ lx_sg B τ1 = 0 ∧ m_rk (lx_sg B τ1) = lev + 1) := by
            first
              | exact fun q => b2i_q.mp cq44 ((isL hP1.1.2.2 hP1.2.2.1 hl5).mpr q)
              | (intro q
                 have h8 := (le_nI (show (96 : Int32) = nI 96 from rfl) (rfl : nI i = nI i) (by omega) (by omega)).mp cq33
                 have h9 := sg_k q.1
                 have h10 := hP1.2.2.1.2.2.2.2.1
                 omega)
          exact ⟨true, rfl, rfl, fun _ => ⟨τ1, D1, hP1, hmi.exit hns, hgd, hln⟩, fun q => (by cases q)⟩
        · skip
          have hsg := (isL hP1.1.2.2 hP1.2.2.1 hl5).mp (b2i_p.mp cq44)
          have hk3 := sg_k hsg.1
          obtain ⟨hlt, hat, -⟩ := lx_at_f hP1.2.2.1 (show τ1.2.2.1 ≠ 0 by omega)
          obtain ⟨v, hv1, hv2⟩ := hP1.1.2.2.2 τ1.1 hlt
          have hnf := lx_nx_f hP1.2.2.1 (show τ1.2.2.1 ≠ 0 by omega)
          have esg : lx_sg B τ1 = lx_sgb (nI v) := by unfold lx_sg; rw [if_pos hk3, hv2]
          have henc : -(B τ1.1) = q_enc (lx_sg B τ1) ∧ ¬ 0 ≤ lx_sg B τ1 := by
            have h8 := hsg.1
            rw [esg] at h8
            rw [esg, hv2]
            exact sg_enc v hv1 h8
          refine A_aload_n rfl dX6_level_47 ?_
          refine A_aload_n rfl dX6_level_48 ?_
          refine A_getI fr_X6_39.g rfl lay_32 dX6_level_49 ?_
          rw [hP1.2.1.1]
          refine A_callV (s_bat l G K B L hP1.1 τ1.1 (by omega)) m_X6_byteAt ml_X6_50 rfl lay_32 rfl (by decide) rfl rfl (Nat.le_of_ble_eq_true rfl) (by omega) (by decide) (by decide) dX6_level_52 (fun _ _ _ h => congrArg List.length h.2.1) ?_
          rintro _ _ _ ⟨rfl, rfl, e9⟩
          refine AW_I e9 ?_
          clear e9
          rw [hat]
          refine A_istore (by decide) rfl dX6_level_55 ?_
          refine A_aload_n rfl dX6_level_57 ?_
          refine A_callV (s_step l G K B L hP1.1 τ1.2.1 τ1.2.2.1 hP1.2.2.1.2.2.1 hP1.2.1.2.1 hP1.2.1.2.2.1 hP1.2.2.1.2.2.2.1) m_X6_step ml_X6_32 rfl lay_32 rfl (by decide) rfl rfl (Nat.le_of_ble_eq_true rfl) (by omega) (by decide) (by decide) dX6_level_58 (fun _ _ _ hqq => congrArg List.length hqq.2.1) ?_
          rintro _ _ K2 ⟨rfl, rfl, hk1, hk2, hk9⟩
          have hP2 := hP1.step hk1 hk2 hk9
          clear hk1 hk2 hk9
          refine A_aload_n rfl dX6_level_61 ?_
          refine A_iload_n rfl dX6_level_62 ?_
          refine A_iconst ic_1 dX6_level_63 ?_
          refine A_iadd dX6_level_64 ?_
          rw [nI_1]
          refine A_iload_n rfl dX6_level_65 ?_
          refine A_iload_n rfl dX6_level_66 ?_
          refine A_callV (hyV hl5 K2 _ (D1 ++ D) hP2 (by rw [List.length_append]; omega)) m_X6_level ml_X6_46 rfl lay_32 rfl (by decide) rfl rfl (Nat.le_of_ble_eq_true rfl) (by omega) (by decide) (by decide) dX6_level_67 (fun _ _ _ ⟨_, _, hqq, _⟩ => congrArg List.length hqq) ?_
          rintro _ _ K3 ⟨b1, rfl, rfl, hy1, hn1⟩
          refine A_if_ne 75 rfl dX6_level_70 (fun cq70 => ?_) (fun cq70 => ?_)
          · skip
            obtain ⟨τ2, D2, hP3, hok, hgd2, hln2⟩ := hy1 (b2i_1.mp cq70)
            have hf3 := hP3.2.2.1.1
            obtain ⟨s, hs1, hs2, es⟩ := (sg_in B τ1).resolve_left hsg.1
            have hgd3 : Gd (nnk key) (lx_sg B τ1 :: (D2 ++ D1)) := by rw [es]; exact hgd.two hgd2 hs1 hs2
            have hln3 : (lx_sg B τ1 :: (D2 ++ D1)).length + τ.1 ≤ τ2.1 := by rw [List.length_cons, List.length_append]; omega
            refine A_aload_n rfl dX6_level_75 ?_
            refine A_getR fr_X6_18.g rfl lay_32 rfl dX6_level_76 ?_
            refine A_iload rfl dX6_level_79 ?_
            refine A_callV (s_addS l G K3 key (D2 ++ (D1 ++ D)) hP3.2.2.2.1 (by rw [List.length_append, List.length_append]; omega) (B τ1.1) (lx_sg B τ1) henc.1 henc.2) m_X2_addSign ml_X6_112 rfl (ll q34) rfl (by decide) rfl rfl (Nat.le_of_ble_eq_true rfl) (by omega) (by decide) (by decide) dX6_level_81 (fun _ _ _ hqq => congrArg List.length hqq.2.1) ?_
            rintro _ _ K4 ⟨rfl, rfl, hK1, hK2⟩
            have hP4 : PS I0 K4 B L key τ2 ((lx_sg B τ1 :: (D2 ++ D1)) ++ D) := by rw [List.cons_append, List.append_assoc]; exact hP3.law hK1 hK2
            refine A_iload_n rfl dX6_level_84 ?_
            refine A_iconst ic_2 dX6_level_85 ?_
            refine A_icmp_ne 91 rfl dX6_level_86 (fun cq86 => ?_) (fun cq86 => ?_)
            · skip
              refine A_iinc ic_1 rfl (by decide) rfl dX6_level_91 ?_
              refine A_goto 29 rfl dX6_level_94 ?_
              have hl2 : lev ≠ 2 := fun q => cq86 (by rw [q]; rfl)
              refine AW_L (by rw [nI_1]) ?_
              exact ih (L - τ2.1) (by omega) (i + 1) τ2 _ K4 _ rfl hl5 hP4 (hmi.iter hl2 hsg.1 hsg.2 hok) hgd3 hln3 (by omega)
            · skip
              refine A_iconst ic_1 dX6_level_89 ?_
              refine A_iret rfl rfl rfl rfl dX6_level_90 ?_
              have hl2 : lev = 2 := (nI_eq (b := 2) (by omega) (by omega)).mp cq86
              subst hl2
              exact ⟨true, rfl, rfl, fun _ => ⟨τ2, _, hP4, hmi.test hsg.1 hsg.2 hok, hgd3, hln3⟩, fun q => (by cases q)⟩
          · skip
            refine A_iconst ic_0 dX6_level_73 ?_
            refine A_iret rfl rfl rfl rfl dX6_level_74 ?_
            obtain ⟨f, hf1, hf2⟩ := hn1 (b2i_0.mp cq70)
            exact ⟨false, rfl, rfl, fun q => (by cases q), fun _ => ⟨f, hf1, hmi.no hsg.1 hsg.2 hf2⟩⟩
  refine Meth.of (by decide +kernel) (by simp [Value.category]) (Nat.le_of_ble_eq_true rfl) ?_
  have hL := hP.1.2.2.1
  have htL := hP.2.2.1.2.2.1
  have hft := hP.2.2.1.2.1
  have hfL := hP.2.2.1.1
  have hk3 := hP.2.2.1.2.2.2.1
  refine A_iload_n rfl dX6_level_0 ?_
  refine A_iconst ic_5 dX6_level_1 ?_
  refine A_icmp_lt 12 rfl dX6_level_2 (fun cq2 => ?_) (fun cq2 => ?_)
  · skip
    have hl5 : lev < 5 := (lt_nI (rfl : nI lev = nI lev) (show (5 : Int32) = nI 5 from rfl) (by omega) (by omega)).mp cq2
    refine A_aload_n rfl dX6_level_12 ?_
    refine A_iload_n rfl dX6_level_13 ?_
    refine A_iconst ic_1 dX6_level_14 ?_
    refine A_iadd dX6_level_15 ?_
    rw [nI_1]
    refine A_iload_n rfl dX6_level_16 ?_
    refine A_iload_n rfl dX6_level_17 ?_
    refine A_callV (hyV hl5 J τ D hP hDl) m_X6_level ml_X6_46 rfl lay_32 rfl (by decide) rfl rfl (Nat.le_of_ble_eq_true rfl) (by omega) (by decide) (by decide) dX6_level_18 (fun _ _ _ ⟨_, _, hqq, _⟩ => congrArg List.length hqq) ?_
    rintro _ _ K ⟨b1, rfl, rfl, hy1, hn1⟩
    refine A_if_ne 26 rfl dX6_level_21 (fun cq21 => ?_) (fun cq21 => ?_)
    · skip
      refine A_iconst ic_0 dX6_level_26 ?_
      refine A_istore (by decide) rfl dX6_level_27 ?_
      obtain ⟨τ1, D1, hP1, hok, hgd, hln⟩ := hy1 (b2i_1.mp cq21)
      exact loop _ 0 τ1 D1 K _ rfl hl5 hP1 hok.sub hgd hln (by omega)
    · skip
      refine A_iconst ic_0 dX6_level_24 ?_
      refine A_iret rfl rfl rfl rfl dX6_level_25 ?_
      obtain ⟨f, hf1, hf2⟩ := hn1 (b2i_0.mp cq21)
      exact ⟨false, rfl, rfl, fun q => (by cases q), fun _ => ⟨f, hf1, hf2.sub⟩⟩
  · skip
    have hl5 : lev = 5 := by
      have hq1 := mt (lt_nI (rfl : nI lev = nI lev) (show (5 : Int32) = nI 5 from rfl) (by omega) (by omega)).mpr cq2
      omega
    subst hl5
    refine A_aload_n rfl dX6_level_5 ?_
    refine A_iload_n rfl dX6_level_6 ?_
    refine A_iload_n rfl dX6_level_7 ?_
    refine A_callV (hyP rfl J τ D hP hDl) m_X6_piece ml_X6_102 rfl lay_32 rfl (by decide) rfl rfl (Nat.le_of_ble_eq_true rfl) (by omega) (by decide) (by decide) dX6_level_8 (fun _ _ _ ⟨_, _, hqq, _⟩ => congrArg List.length hqq) ?_
    rintro _ _ K ⟨b1, rfl, rfl, hy1, hn1⟩
    refine A_iret rfl (b2i_n _) rfl rfl dX6_level_11 ?_
    refine ⟨b1, rfl, rfl, fun q => ?_, fun q => ?_⟩
    · obtain ⟨τ1, D1, hP1, hok, hgd, hln⟩ := hy1 q
      exact ⟨τ1, D1, hP1, hok.lv, hgd, hln⟩
    · obtain ⟨f, hf1, hf2⟩ := hn1 q
      exact ⟨f, hf1, hf2.lv⟩
theorem s_lp (l : Launch) (G : Gm) (I0 : Hp) (B : Nat → Int32) (L key : Nat) (hkey : key ≤ 2) : ∀ (mu : Nat), (∀ o n, o ≤ 8 → n ≤ 8 → 7 * (16 - o - n) = mu → ∀ (J : Hp) (τ : Tok) (D : List Int32), PS I0 J B L key τ D → D.length ≤ τ.1 → Meth l G yX6_piece cX6_piece 3 (some (FieldType.boolean)) (7 * (16 - o - n) + 10) 0 0 [.ref 32, .int (nI o), .int (nI n)] LAY J (QP I0 B L key o n τ D)) ∧ (∀ lev o n, lev ≤ 5 → o ≤ 8 → n ≤ 8 → 7 * (16 - o - n) + (6 - lev) = mu → ∀ (J : Hp) (τ : Tok) (D : List Int32), PS I0 J B L key τ D → D.length ≤ τ.1 → Meth l G yX6_level cX6_level 6 (some (FieldType.boolean)) (7 * (16 - o - n) + (16 - lev)) 0 0 [.ref 32, .int (nI lev), .int (nI o), .int (nI n)] LAY J (QV I0 B L key lev o n τ D)) := by
  intro mu
  induction mu using Nat.strongRecOn with
  | _ mu ih =>
    refine ⟨fun o n ho hn hm J τ D hP hDl => ?_, fun lev o n hlev ho hn hm J τ D hP hDl => ?_⟩
    · exact s_pc l G I0 J B L key hkey τ D hP hDl o n ho hn (fun h8 => (ih (7 * (16 - o - (n + 1))) (by omega)).1 o (n + 1) ho (by omega) rfl) (fun h8 => (ih (7 * (16 - (o + 1) - n) + (6 - 0)) (by omega)).2 0 (o + 1) n (by omega) (by omega) hn rfl)
    · exact s_lv l G I0 J B L key hkey τ D hP hDl lev o n hlev ho hn (fun h5 => (ih (7 * (16 - o - n)) (by omega)).1 o n ho hn rfl) (fun h5 => (ih (7 * (16 - o - n) + (6 - (lev + 1))) (by omega)).2 (lev + 1) o n (by omega) ho hn rfl)
