/-! THE WORLD AT THE LAW'S ENTRY -/
def js_ps : List Nat := [613, 614, 615, 699, 700, 701, 761, 770, 771, 775, 776, 777, 778, 779]
def ws_tm (i : Nat) : Term := Term.string RX6 (js_ix.getD i 0)
def ws_fl : List Cond := flatC (Jvm.Cond.and given_1 narrow_1)
theorem ws_sr : ∀ i, i < 14 → lw_tbl[js_ps.getD i 0]? = some (Cond.stringRef RX6 (js_ix.getD i 0) (js_tx.getD i "")) := by decide +kernel
def js_bs : List Nat := [33, 42, 50, 60, 70, 80, 91, 102, 114, 127, 141, 156, 174, 192]
theorem ws_ex' : ∀ i, i < 14 → ws_fl[js_bs.getD i 0]? = some (Cond.exactly (ws_tm i) "java/lang/String") := by decide +kernel
theorem ws_co' : ∀ i, i < 14 → ws_fl[js_bs.getD i 0 + 1]? = some (Cond.eq (.field (ws_tm i) "java/lang/String" "coder" "B") (.int 0)) := by decide +kernel
theorem ws_ar' : ∀ i, i < 14 → ws_fl[js_bs.getD i 0 + 2]? = some (Cond.arrayOf (.field (ws_tm i) "java/lang/String" "value" "[B") .byte) := by decide +kernel
def js_l3 : List Int32 := [5, 3, 4, 3, 2, 2, 1, 1, 1, 1, 1, 3, 2, 2]
theorem ws_le0 : ∀ i, i < 14 → Int32.ofNat (js_ln.getD i 0) = js_l3.getD i 0 := by decide +kernel
theorem ws_le1 : ∀ i, i < 14 → ws_fl[js_bs.getD i 0 + 3]? = some (Cond.eq (.length (.field (ws_tm i) "java/lang/String" "value" "[B")) (.int (js_l3.getD i 0))) := by decide +kernel
theorem ws_el' : ∀ i, i < 14 → ∀ j, j < js_ln.getD i 0 → ws_fl[js_bs.getD i 0 + 4 + j]? = some (Cond.eq (.elem (.field (ws_tm i) "java/lang/String" "value" "[B") (.int (Int32.ofNat j))) (.int ((js_by.getD i []).getD j 0))) := by decide +kernel
theorem ws_ne' : ∀ j, j < 14 → ∀ i, i < j → ws_fl[js_bs.getD j 0 + 4 + js_ln.getD j 0 + i]? = some (Cond.not (Cond.eq (ws_tm i) (ws_tm j))) := by decide +kernel
theorem ws_ex (i : Nat) (hi : i < 14) : Cond.exactly (ws_tm i) "java/lang/String" ∈ ws_fl := List.mem_of_getElem? (ws_ex' i hi)
theorem ws_co (i : Nat) (hi : i < 14) : Cond.eq (.field (ws_tm i) "java/lang/String" "coder" "B") (.int 0) ∈ ws_fl := List.mem_of_getElem? (ws_co' i hi)
theorem ws_ar (i : Nat) (hi : i < 14) : Cond.arrayOf (.field (ws_tm i) "java/lang/String" "value" "[B") .byte ∈ ws_fl := List.mem_of_getElem? (ws_ar' i hi)
theorem ws_le (i : Nat) (hi : i < 14) : Cond.eq (.length (.field (ws_tm i) "java/lang/String" "value" "[B")) (.int (Int32.ofNat (js_ln.getD i 0))) ∈ ws_fl := by
  rw [ws_le0 i hi]
  exact List.mem_of_getElem? (ws_le1 i hi)
theorem ws_el (i : Nat) (hi : i < 14) (j : Nat) (hj : j < js_ln.getD i 0) : Cond.eq (.elem (.field (ws_tm i) "java/lang/String" "value" "[B") (.int (Int32.ofNat j))) (.int ((js_by.getD i []).getD j 0)) ∈ ws_fl := List.mem_of_getElem? (ws_el' i hi j hj)
theorem ws_ne (i : Nat) (hi : i < 14) (j : Nat) (hj : j < 14) (hij : i ≠ j) : Cond.not (Cond.eq (ws_tm i) (ws_tm j)) ∈ ws_fl ∨ Cond.not (Cond.eq (ws_tm j) (ws_tm i)) ∈ ws_fl := by
  rcases Nat.lt_or_gt_of_ne hij with h | h
  · exact Or.inl (List.mem_of_getElem? (ws_ne' j hj i h))
  · exact Or.inr (List.mem_of_getElem? (ws_ne' i hi j h))
theorem ws_cs : Cond.eq (.static "java/lang/String" "COMPACT_STRINGS" "Z") (.int 1) ∈ ws_fl := List.mem_of_getElem? (i := 4) (by decide +kernel)
theorem ws_sf : Cond.isRef (.static "jdk/internal/util/Preconditions" "SIOOBE_FORMATTER" "Ljava/util/function/BiFunction;") ∈ ws_fl := List.mem_of_getElem? (i := 5) (by decide +kernel)
theorem ws_ln : ∀ i, i < 14 → js_ln.getD i 0 < 2 ^ 31 := by decide +kernel
theorem ws_arr {args : Array Value} {s : State} {ty : FieldType} (h : (Cond.arrayClass ty).before args s = true) : ∃ cA : ClassId, ArrOfT s cA ty ∧ s.vm.findClass ("[" ++ ty.toString) = some cA := by
  obtain ⟨c, k, comp, h1, h2, h3⟩ := Cond.arrayClass_spec h
  exact ⟨c, fun n z => ⟨fun k h => (by cases h), k, h2, comp, h3⟩, h1⟩
theorem ws_obj {args : Array Value} {s : State} {C : String} (h : (Cond.arrayOver (.object C)).before args s = true) : ∃ cA : ClassId, ArrOfT s cA (.object C) ∧ va_RA s cA (.object C) := by
  obtain ⟨comp, c, k, f1, -, f3, f4, f5⟩ := Cond.arrayOver_spec h
  exact ⟨c, fun n z => ⟨fun k h => (by cases h), k, f3, comp, f4⟩, k, comp, f3, f4, f1, f5⟩
theorem ws_a2 : Cond.arrayOver (.object RX2) ∈ lw_tbl := List.mem_of_getElem? (i := 85) (by decide +kernel)
theorem ws_a4 : Cond.arrayOver (.object RX4) ∈ lw_tbl := List.mem_of_getElem? (i := 220) (by decide +kernel)
theorem ws_a5 : Cond.arrayOver (.object RX5) ∈ lw_tbl := List.mem_of_getElem? (i := 240) (by decide +kernel)
theorem ws_n0 : Cond.methodLinkNest RX0 117 y_held "PalmJury" ∈ lw_tbl := List.mem_of_getElem? (i := 350) (by decide +kernel)
theorem ws_n1 : Cond.methodLinkNest RX1 33 y_held "PalmJury" ∈ lw_tbl := List.mem_of_getElem? (i := 369) (by decide +kernel)
theorem ws_n4 : Cond.methodLinkNest RX4 19 y_held "PalmJury" ∈ lw_tbl := List.mem_of_getElem? (i := 805) (by decide +kernel)
theorem ws_l1 : Cond.laysStatic "java/lang/String" "COMPACT_STRINGS" "Z" ∈ lw_tbl := List.mem_of_getElem? (i := 629) (by decide +kernel)
theorem ws_l2 : Cond.laysStatic "jdk/internal/util/Preconditions" "SIOOBE_FORMATTER" "Ljava/util/function/BiFunction;" ∈ lw_tbl := List.mem_of_getElem? (i := 645) (by decide +kernel)
theorem ws_i1 : Cond.initialized "java/lang/String" ∈ lw_tbl := List.mem_of_getElem? (i := 65) (by decide +kernel)
theorem ws_i2 : Cond.initialized "jdk/internal/util/Preconditions" ∈ lw_tbl := List.mem_of_getElem? (i := 67) (by decide +kernel)
set_option maxHeartbeats 4000000 in
set_option maxRecDepth 100000 in
theorem ws_K {args : Array Value} {s : State} (hts : ∀ w ∈ lw_tbl, w.before args s = true) : ∃ (dC : Nat → ClassId) (dI : Nat → Nat → Nat), ∀ (k : Nat) (q : vw_C), vwCl[k]? = some q → u_Kn s q.1 q.2.1 q.2.2 (dC k) (dI k) := by
  obtain ⟨c0, i0, h0⟩ := u_known (C := RX0) (T := TX0) (N := 16) (n := 16) hts (fun w hw => tb_in (cf_0.2.1 w hw)) (hts _ (tb_in cf_0.2.2.2.2.2.1))
  obtain ⟨c1, i1, h1⟩ := u_known (C := RX2) (T := TX2) (N := 4) (n := 4) hts (fun w hw => tb_in (cf_1.2.1 w hw)) (hts _ (tb_in cf_1.2.2.2.2.2.1))
  obtain ⟨c2, i2, h2⟩ := u_known (C := RX3) (T := TX3) (N := 2) (n := 2) hts (fun w hw => tb_in (cf_2.2.1 w hw)) (hts _ (tb_in cf_2.2.2.2.2.2.1))
  obtain ⟨c3, i3, h3⟩ := u_known (C := RX4) (T := TX4) (N := 3) (n := 3) hts (fun w hw => tb_in (cf_3.2.1 w hw)) (hts _ (tb_in cf_3.2.2.2.2.2.1))
  obtain ⟨c4, i4, h4⟩ := u_known (C := RX5) (T := TX5) (N := 5) (n := 5) hts (fun w hw => tb_in (cf_4.2.1 w hw)) (hts _ (tb_in cf_4.2.2.2.2.2.1))
  obtain ⟨c5, i5, h5⟩ := u_known (C := RX6) (T := TX6) (N := 7) (n := 7) hts (fun w hw => tb_in (cf_5.2.1 w hw)) (hts _ (tb_in cf_5.2.2.2.2.2.1))
  obtain ⟨c6, i6, h6⟩ := u_known (C := RX7) (T := TX7) (N := 10) (n := 10) hts (fun w hw => tb_in (cf_6.2.1 w hw)) (hts _ (tb_in cf_6.2.2.2.2.2.1))
  obtain ⟨c7, i7, h7⟩ := u_known (C := RX8) (T := TX8) (N := 34) (n := 34) hts (fun w hw => tb_in (cf_7.2.1 w hw)) (hts _ (tb_in cf_7.2.2.2.2.2.1))
  refine ⟨fun k => [c0, c1, c2, c3, c4, c5, c6, c7].getD k c0, fun k => [i0, i1, i2, i3, i4, i5, i6, i7].getD k i0, ?_⟩
  intro k q hq
  match k, hq with
    | 0, hq => cases hq; exact h0
    | 1, hq => cases hq; exact h1
    | 2, hq => cases hq; exact h2
    | 3, hq => cases hq; exact h3
    | 4, hq => cases hq; exact h4
    | 5, hq => cases hq; exact h5
    | 6, hq => cases hq; exact h6
    | 7, hq => cases hq; exact h7
    | k + 8, hq => simp at hq
set_option maxHeartbeats 4000000 in
set_option maxRecDepth 100000 in
theorem ws_A {args : Array Value} {s : State} (hts : ∀ w ∈ lw_tbl, w.before args s = true) : ∃ cA : Nat → ClassId, ∀ (k : Nat) (q : ClassId × FieldType), ([(cA 8, .char), (cA 9, .int), (cA 10, .boolean), (cA 11, .object RX2), (cA 12, .object RX4), (cA 13, .object RX5)] : List (ClassId × FieldType))[k]? = some q → ArrOfT s q.1 q.2 ∧ va_RA s q.1 q.2 := by
  obtain ⟨a8, p8, q8⟩ := ws_arr (hts _ (tb_in ka_char))
  obtain ⟨a9, p9, q9⟩ := ws_arr (hts _ (tb_in ka_int))
  obtain ⟨a10, p10, q10⟩ := ws_arr (hts _ (tb_in ka_boolean))
  obtain ⟨a11, p11, q11⟩ := ws_obj (hts _ ws_a2)
  obtain ⟨a12, p12, q12⟩ := ws_obj (hts _ ws_a4)
  obtain ⟨a13, p13, q13⟩ := ws_obj (hts _ ws_a5)
  refine ⟨fun k => [a8, a9, a10, a11, a12, a13].getD (k - 8) a8, ?_⟩
  intro k q hq
  match k, hq with
    | 0, hq => cases hq; exact ⟨p8, q8⟩
    | 1, hq => cases hq; exact ⟨p9, q9⟩
    | 2, hq => cases hq; exact ⟨p10, q10⟩
    | 3, hq => cases hq; exact ⟨p11, q11⟩
    | 4, hq => cases hq; exact ⟨p12, q12⟩
    | 5, hq => cases hq; exact ⟨p13, q13⟩
    | k + 6, hq => simp at hq
set_option maxHeartbeats 4000000 in
set_option maxRecDepth 100000 in
theorem ws_E {s : State} {b L : Nat} {xs : Nat → Int32} (hts : ∀ w ∈ lw_tbl, w.before #[Value.ref b] s = true) (hX : va_X b L xs s s.heap) (hbl : b < s.heap.size) (hgv : (Jvm.Cond.and given_1 narrow_1).before #[Value.ref b] s = true) : ∃ G : Gm, g_b G = s.heap.size ∧ g_sc G = b ∧ g_sl G = L ∧ g_E G s s.heap := by
  have hfl : ∀ w ∈ ws_fl, w.before #[Value.ref b] s = true := flat_of_before _ hgv
  have hA : ∀ a : Nat, a < s.heap.size → ¬ (fun q : Nat => s.heap.size ≤ q) a := fun a h => Nat.not_le.mpr h
  obtain ⟨dC, dI, hC⟩ := ws_K hts
  obtain ⟨cA, hcA⟩ := ws_A hts
  obtain ⟨adK, adV, hVS, hVe⟩ := vk_Sof (A := fun q : Nat => s.heap.size ≤ q) (tm := ws_tm) (byt := js_by) ws_ln (fun i hi => hfl _ (ws_ex i hi)) (fun i hi => hfl _ (ws_co i hi)) (fun i hi => hfl _ (ws_ar i hi)) (fun i hi => hfl _ (ws_le i hi)) (fun i hi j hj => hfl _ (ws_el i hi j hj)) (fun i j hi hj hij => (ws_ne i hi j hj hij).imp (hfl _) (hfl _)) hA
  have hZ := va_Zof (hts _ ws_l1) (hts _ ws_i1) (va_eqt (hfl _ ws_cs)) hA
  have hT : va_T .int b L (fun j => .int (xs j)) (fun q : Nat => s.heap.size ≤ q) s s.heap := by
    obtain ⟨scr, e1, e2, e3, e4, e5⟩ := hX
    exact ⟨scr, e1, e2, e3, by omega, by rw [e4], e5, hA b hbl⟩
  obtain ⟨fm, hfm⟩ : ∃ fm : Nat, va_Z "jdk/internal/util/Preconditions" "SIOOBE_FORMATTER" "Ljava/util/function/BiFunction;" .null (fun q : Nat => s.heap.size ≤ q) s s.heap ∨ va_Z "jdk/internal/util/Preconditions" "SIOOBE_FORMATTER" "Ljava/util/function/BiFunction;" (.ref fm) (fun q : Nat => s.heap.size ≤ q) s s.heap := by
    rcases va_Zqof (hts _ ws_l2) (hts _ ws_i2) (hfl _ ws_sf) hA with h | ⟨t, h⟩
    · exact ⟨0, Or.inl h⟩
    · exact ⟨t, Or.inr h⟩
  exact ⟨(dC, dI, cA, s.heap.size, adK, adV, b, fm, L, xs), rfl, rfl, rfl, ⟨hC, hcA⟩, ⟨va_AO.of (hts _ ws_a2), va_AO.of (hts _ ws_a4), va_AO.of (hts _ ws_a5)⟩, ⟨va_Nw.of rfl (hts _ ws_n0), va_Nw.of rfl (hts _ ws_n1), va_Nw.of rfl (hts _ ws_n4)⟩, hVS, fun i hi => vk_R.of (hts _ (List.mem_of_getElem? (ws_sr i hi))) (hVe i hi), hZ, hT, hfm⟩
theorem fe_end {s t : State} {o : Outcome} {L : List Loc} {k n k' n' : Nat} (h : FrameEnd s o t L k n) (hL : ∀ q ∈ L, s.heap.size ≤ q.base) (hk : k ≤ k') (hn : n ≤ n') : Framed s o t [] k' n' := by
  obtain ⟨h1, h2, g1, g2, g3, g4, g5, g6⟩ := h
  refine ⟨h1, h2, g1, g2, Nat.le_trans g3 (Nat.add_le_add_left hk _), g4, Nat.le_trans g5 hn, fun a c hc => ?_⟩
  obtain ⟨c', e1, e2, e3, e4⟩ := g6 a c hc
  exact ⟨c', e1, e2, e3, fun i _ => e4 i (fun hm => absurd (hL _ hm) (Nat.not_le.mpr (Array.getElem?_eq_some_iff.mp hc).1))⟩
/-! THE CLAIM OUT OF ONE WALK OF THE LAW'S BODY. Your part is whole_start (and what it stands on); all else here is the same for every law, but numbers. -/
def R_law : String := "PalmJuryLaw"
def lw_P (b : Addr) (xs : List Int32) (args : Array Value) (s : State) : Prop := args = #[.ref b] ∧ s.IntsAt b xs ∧ xs.length ≤ 3072 ∧ (Jvm.Cond.and given_1 narrow_1).before args s = true
def lw_Q (_ : Array Value) (s : State) (o : Outcome) (t : State) : Prop := o = .returned (some (.int 1)) ∧ Framed s o t [] 600000 7302250
def lw_Z (below : List Frame) (a : Array Value) (s : State) : State → Prop := fun t => ∃ o, t.status = .running ∧ Ended t below o ∧ lw_Q a s o t
/-- the law's own end, with 1 on the stack, nothing written that was there before, its room as the claim has it -/
theorem lw_ret {p : Program} {l : Launch} {e : Env} {s : State} {m : MethodId} {below : List Frame} {meth : Method} {c : Code} {b : Nat} (hx : p.tables.exec = Jvm.exec) (hb : c.code = code) (hr : meth.sig.returnType = ret) (hlocks : meth.locks = false) {pc : Nat} {H : Heap} {ls : Array Slot} (hdg : decode code pc = .ok (.ireturn, 1)) : W p l e room_1 s m #[Value.ref b] below meth c H [] 600000 7302250 (lw_Z below #[Value.ref b] s) (F0 m pc ls [.int 1]) := by
  intro T hT X
  obtain ⟨fs, hret, hrun, hended, hW, hframe⟩ := X.leave (v := some (.int 1)) (hlocks := hlocks) (fun h => by rw [hr] at h; cases h)
  have hmeth' : T.vm.method? m = some meth := X.method'
  refine ⟨T.setFrames fs, ?_, .returned (some (.int 1)), hrun, hended, rfl, ⟨_, rfl⟩, hW, hframe⟩
  jvm_step X.here [X.here.top, hx, hb, hdg, hmeth', hr, ret, narrow_b1]
  (try refine ⟨rfl, ?_⟩); (try refine ⟨rfl, ?_⟩)
  first | (intro acts; rw [hret _ acts rfl rfl rfl]) | rw [hret _ _ rfl rfl rfl]
  exact Steps.refl _
/-- what holds at the law's entry: the machine, the code, the tables' words (any of lw_tbl by 'hts w (by decide +kernel)'), the script of L ints xs at the cell b, what the Statement gives of the start (any of its parts by flat_of_before) -/
def lw_At (p : Program) (s : State) (m : MethodId) (meth : Method) (c : Code) (b L : Nat) (xs : Nat → Int32) : Prop :=
  p.tables.exec = Jvm.exec ∧ c.code = code ∧ meth.sig.returnType = ret ∧ c.maxLocals = 4 ∧ s.vm.findClass R_law = some m.cls ∧ (∀ w ∈ lw_tbl, w.before #[Value.ref b] s = true) ∧ va_X b L xs s s.heap ∧ b < s.heap.size ∧ meth.locks = false ∧ (Jvm.Cond.and given_1 narrow_1).before #[Value.ref b] s = true
-- ===== YOUR PART BEGINS =====
/-- from the entry, for every script of at most 3072 ints, the law comes to its end with true ('hflags': the launch's flags, for a law that throws: no stack traces) -/
theorem whole_start {p : Program} {e : Env} {s : State} {m : MethodId} {below : List Frame} {meth : Method} {c : Code} (l : Launch) (hflags : l.flags = flags0) {b L : Nat} {xs : Nat → Int32} (hL : L ≤ 3072) (C0 : lw_At p s m meth c b L xs) : W p l e room_1 s m #[Value.ref b] below meth c s.heap [] 0 0 (lw_Z below #[Value.ref b] s) (entryFrame m ([Value.ref b] : List Value).toArray 4) := by
  obtain ⟨hx, hb, hr, hml, hown, hts, hX, hbl, hlocks, hgv⟩ := C0
  obtain ⟨G, e1, e2, e3, hE⟩ := ws_E hts hX hbl hgv
  have hl := lv_entry ([.ref b]) (n := 4) (Nat.le_of_ble_eq_true rfl)
  rw [lg_entry_eq]
  have hLs : g_L G 4 [some (.ref 200000), none, none, none] ((lg_sl ([.ref b]) ++ List.replicate (4 - (lg_sl ([.ref b])).length) Slot.unset).toArray) := by
    refine ⟨hl.1, hl.2.1, fun i v hi => ?_⟩
    match i, hi with
    | 0, hi =>
      cases hi
      show _ = some (Slot.val (.ref (g_sc G)))
      rw [e2]
      rfl
    | 1, hi => cases hi
    | 2, hi => cases hi
    | 3, hi => cases hi
    | i + 4, hi => simp at hi
  intro T hT X
  obtain ⟨t, a1, o, b1, b2, ⟨⟨v, lay, I, q1, q2, -⟩, -⟩, L9, b3, b4⟩ := lw_all l G meth.name (by rw [e3]; exact hL) p e room_1 s m #[Value.ref b] below meth c _ s.heap [] ⟨hx, hb, hr, hml, hown, fun w hw => hts w (tb_in hw), hlocks, rfl, hE⟩ ⟨Nat.le_of_ble_eq_true rfl, Nat.le_of_ble_eq_true rfl, Nat.le_of_ble_eq_true rfl, Nat.le_of_ble_eq_true rfl⟩ hLs ⟨fun k q h => by simp [g_ws] at h, by rw [e1]; exact Nat.le_refl _, by decide⟩ va_S.rf ⟨by rw [e1]; rfl, by rw [e1]; exact Nat.le_refl _⟩ T hT X
  subst q2
  exact ⟨t, a1, o, b1, b2, q1, fe_end b3 (fun q hq => e1 ▸ b4 q hq) (by decide) (by decide)⟩
-- ===== YOUR PART ENDS =====
set_option maxHeartbeats 4000000 in
theorem lw_walk (l : Launch) (hflags : l.flags = flags0) (b : Addr) (xs : List Int32) : MetFree l x (headSpec (Jvm.Cond.code x code maxLocals ret :: tables_1) room_1) (lw_P b xs) (fun _ _ _ _ _ => True) lw_Q := by
  refine MetFree.of_bodyS (code := code) (maxLocals := maxLocals) (ret := ret) (by decide) ?_ ?_
  · intro args s m h hn
    obtain ⟨meth, c, h1, h2, h3, h4, h5, h6, -, -⟩ := Cond.code_spec hn (atoms_spec (ws := Jvm.Cond.code x code maxLocals ret :: tables_1) h _ List.mem_cons_self)
    exact ⟨meth, c, h1, h2, h3, h4, h5, h6⟩
  · intro p e s m args below meth c s₁ B hml0 hP _
    obtain ⟨rfl, hx, hbd, hgv⟩ := hP
    obtain ⟨scr, harrAt, hlist, hof, hsmall⟩ := hx
    obtain ⟨hcb, hkn, -, -⟩ := State.arrayAt?_spec harrAt
    have hown : s.vm.findClass R_law = some m.cls := findClass_of_methodNamed B.named
    have hts0 : ∀ c ∈ (Jvm.Cond.code x code maxLocals ret :: tables_1), c.before #[Value.ref b] s = true := atoms_spec (ws := Jvm.Cond.code x code maxLocals ret :: tables_1) B.pre
    have hts : ∀ w ∈ lw_tbl, w.before #[Value.ref b] s = true := k2_hts_sels lw_privs (fun w hw => hts0 w (List.mem_cons_of_mem _ hw)) lw_privs_ok
    have hml : c.maxLocals = 4 := B.maxLocals_eq (hts0 _ List.mem_cons_self)
    have X₀ : Stand p l e room_1 s m #[Value.ref b] below meth c s₁ [] 0 0 := Stand.of_body B
    have hh0 : s₁.heap = s.heap := by rw [B.state]; rfl
    have hsz : scr.slots.size = xs.length := by rw [← Array.length_toList, hlist, List.length_map]
    have hval : ∀ j : Nat, j < xs.length → scr.slots[j]? = some (.int (xs.getD j 0)) := fun j hj => by
      rw [← Array.getElem?_toList, hlist]
      simp [hj]
    have hbl : b < s.heap.size := (Array.getElem?_eq_some_iff.mp hcb).1
    have hX : va_X b xs.length (fun j => xs.getD j 0) s s.heap := ⟨scr, hcb, hof, hkn, hsz, hval⟩
    have K : W p l e room_1 s m #[Value.ref b] below meth c s₁.heap [] 0 0 (lw_Z below #[Value.ref b] s) (entryFrame m ([Value.ref b] : List Value).toArray 4) := by
      rw [hh0]
      exact whole_start l hflags hbd ⟨B.exec, B.bytes, B.returns, hml, hown, hts, hX, hbl, B.notSynchronized, hgv⟩
    obtain ⟨t, a1, o, b1, b2, b3⟩ := K s₁ rfl X₀
    exact ⟨t, o, a1, b1, b2, b3⟩
theorem lw_pre_spec {args : Array Value} {s : State} (h : (Jvm.Cond.and given_1 narrow_1).before args s = true) (hr : rest_1_c.before args s = true) : ∃ (b : Addr) (xs : List Int32), lw_P b xs args s := by
  have hs := flat_of_before _ h
  have hq := flat_of_before _ hr
  have hc : (Cond.count 1).before args s = true := hs _ (by decide +kernel)
  have harr : (Cond.arrayOf (.arg 0) .int).before args s = true := hs _ (by decide +kernel)
  have hle : (Cond.le (.length (.arg 0)) (.int 3072)).before args s = true := hs _ (by decide +kernel)
  have hlen : (Cond.isInt (.length (.arg 0))).before args s = true := hq _ (by decide +kernel)
  have hall : (Cond.all (.arg 0) (.isInt (.elem (.arg 0) (.index 0)))).before args s = true := hq _ (by decide +kernel)
  obtain ⟨b, xs, hb, hx⟩ := State.ints_of_pre rfl harr hlen hall
  have hsm : xs.length < 2 ^ 31 := hx.choose_spec.2.2.2
  have hev : (Term.length (.arg 0)).eval args s none [] s = some (.int xs.length.toInt32) := hx.length_eval hb
  have hv := Cond.le_ints hev (show (Term.int 3072).eval args s none [] s = some (.int 3072) from rfl)
  have hd : xs.length.toInt32 ≤ 3072 := by
    simpa [Cond.before, Cond.holds, hv] using hle
  have hN : xs.length ≤ 3072 := (Int32.ofNat_le_ofNat hsm (by decide)).mp (show Int32.ofNat xs.length ≤ Int32.ofNat 3072 from hd)
  exact ⟨b, xs, Cond.one_arg hc (show args[0]? = some (.ref b) from hb), hx, hN, h⟩
theorem lw_comes (l : Launch) (hflags : l.flags = flags0) : Comes l x (Jvm.Cond.code x code maxLocals ret :: tables_1) room_1 (fun tb e args s => Calls_1 tb e args s ∧ rest_1 tb e args s ∧ Pre_1 tb e args s)
    (fun _ _ args s o t => lw_Q args s o t) := by
  intro p e ha hc hk s m args below hf hfit hheap happ hpre
  obtain ⟨b, xs, hP⟩ := lw_pre_spec hpre.2.2 hpre.2.1
  obtain ⟨k, o, h1, h2, h3, hQ⟩ := lw_walk l hflags b xs p e ha hc hk s m args below hf ((Spec.applies_iff_loose hf).mp happ).1 hP trivial
  exact ⟨k, o, h1, h2, h3, hQ⟩
theorem lw_frame {s t : State} {o : Outcome} {args : Array Value} (h : Framed s o t [] 600000 7302250) :
    Framed s o t (fieldLocs frame_1_writes args s ++ arrayLocs frame_1_arrays args s ++ staticLocs frame_1_statics s) 600000 7302250 := h
theorem lw_limb (L : Cond) (hL : ∀ (args : Array Value) (s t : State), L.after args s (.returned (some (.int 1))) t = true) :
    ArmFor flags0 classFile x code maxLocals ret World_1 tables_1 room_1 Calls_1 rest_1 Pre_1
      (fun tb e a s o t => postC L tb e a s o t ∧ Framed s o t (fieldLocs frame_1_writes a s ++ arrayLocs frame_1_arrays a s ++ staticLocs frame_1_statics s) 600000 7302250) := by
  intro l hflags _ _ p e ha hc hk s m args below hf hfit hheap happ hpre
  obtain ⟨k, o, h1, h2, h3, rfl, hF⟩ := lw_comes l hflags p e ha hc hk s m args below hf hfit hheap happ hpre
  exact ⟨k, _, h1, h2, h3, hL args s _, lw_frame hF⟩
theorem i_vc : Claimed_1_1 ∧ Claimed_1_2 := ⟨lw_limb limb_1_1 (fun args s t => by simp [limb_1_1, Cond.after, Cond.holds, Cond.value]), lw_limb limb_1_2 (fun args s t => Cond.after_iff.mpr (by
  first | (rw [show limb_1_2 = Cond.eq .result (.int 1) from rfl, Cond.eq_ints (x := 1) (y := 1) rfl rfl]; simp; done) | (simp [limb_1_2, Cond.value, Term.eval]; done)))⟩
