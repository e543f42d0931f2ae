/-! THE ABSTRACT MACHINE: cells by their order of making (address base + k); a layout (what each cell is, its references), and the ints of all cells as one function; one rule an instruction over the kit's rows -/
abbrev Lay : Type := List (Nat × Nat × List (Option Nat))
abbrev Hp : Type := Nat → Nat → Int32
/-- classes, slots, array classes (by kind 8 ..), the first own address, the string constants (objects, byte rows), the script, the formatter, the script's length and numbers -/
abbrev Gm : Type := (Nat → ClassId) × (Nat → Nat → Nat) × (Nat → ClassId) × Nat × (Nat → Nat) × (Nat → Nat) × Nat × Nat × Nat × (Nat → Int32)
abbrev g_D (G : Gm) : va_G := (G.1, G.2.1)
abbrev g_cA (G : Gm) : Nat → ClassId := G.2.2.1
abbrev g_b (G : Gm) : Nat := G.2.2.2.1
abbrev g_sK (G : Gm) : Nat → Nat := G.2.2.2.2.1
abbrev g_sV (G : Gm) : Nat → Nat := G.2.2.2.2.2.1
abbrev g_sc (G : Gm) : Nat := G.2.2.2.2.2.2.1
abbrev g_fm (G : Gm) : Nat := G.2.2.2.2.2.2.2.1
abbrev g_sl (G : Gm) : Nat := G.2.2.2.2.2.2.2.2.1
abbrev g_sx (G : Gm) : Nat → Int32 := G.2.2.2.2.2.2.2.2.2
/-- the address of a name: own cells below 100000; string constants, their byte rows, the script -/
def g_ad (G : Gm) (k : Nat) : Nat := if k < 100000 then g_b G + k else if k < 150000 then g_sK G (k - 100000) else if k < 200000 then g_sV G (k - 150000) else if k = 200000 then g_sc G else g_fm G
def g_v (G : Gm) : Value → Value
  | .ref k => .ref (g_ad G k)
  | v => v
def g_A (G : Gm) : Nat → Prop := fun q => g_b G ≤ q
/-- an object's fields -/
def g_fl (G : Gm) (b : List Bool) (rs : List (Option Nat)) (f : Nat → Int32) : List Value := (List.range b.length).map (fun i => if b.getD i false then va_rf ((rs.getD i none).map (g_ad G)) else .int (f i))
/-- a cell: kinds below 8 are classes; 8 char, 9 int, 10 boolean rows; 11 .. rows of references -/
def g_cell (G : Gm) (d : Nat × Nat × List (Option Nat)) (f : Nat → Int32) : va_E :=
  if d.1 < 8 then .inr (d.1, g_fl G (g_tab.getD d.1 []) d.2.2 f) else if d.1 < 11 then .inl (g_cA G d.1, d.2.1, .inl f) else .inl (g_cA G d.1, d.2.1, .inr (.inr (.inr (.inr (fun i => (d.2.2.getD i none).map (g_ad G))))))
def g_ws (G : Gm) (lay : Lay) (I : Hp) : va_W := (List.range lay.length).map (fun k => (g_b G + k, g_cell G (lay.getD k (0, 0, [])) (I k)))
def g_R (G : Gm) (lay : Lay) (I : Hp) (H : Heap) : Prop := va_P (g_D G) vwCl (g_ws G lay I) H ∧ g_b G + lay.length ≤ H.size ∧ lay.length < 100000
abbrev g_tys (G : Gm) : List (ClassId × FieldType) := [(g_cA G 8, .char), (g_cA G 9, .int), (g_cA G 10, .boolean), (g_cA G 11, .object RX2), (g_cA G 12, .object RX4), (g_cA G 13, .object RX5)]
def js_ix : List Nat := [77, 79, 81, 83, 85, 87, 122, 124, 126, 89, 91, 93, 95, 97]
def js_tx : List String := ["trust", "fee", "fine", "kwd", "hs", "pb", "!", "(", ")", "|", "&", "<=>", "+-", "*/"]
def js_by : List (List Int32) := [[116, 114, 117, 115, 116], [102, 101, 101], [102, 105, 110, 101], [107, 119, 100], [104, 115], [112, 98], [33], [40], [41], [124], [38], [60, 61, 62], [43, 45], [42, 47]]
def js_ln : List Nat := [5, 3, 4, 3, 2, 2, 1, 1, 1, 1, 1, 3, 2, 2]
abbrev y_held : MethodName := yX7_held
/-- what holds of the world outside: classes, array classes, nest links, string constants -/
def g_E (G : Gm) (U : State) (H : Heap) : Prop :=
  va_K (g_D G) vwCl (g_tys G) U ∧ (va_AO RX2 U ∧ va_AO RX4 U ∧ va_AO RX5 U) ∧ (va_Nw (.methodLinkNest RX0 117 y_held "PalmJury") U ∧ va_Nw (.methodLinkNest RX1 33 y_held "PalmJury") U ∧ va_Nw (.methodLinkNest RX4 19 y_held "PalmJury") U) ∧ vk_S 14 js_ln js_by (g_sK G) (g_sV G) (g_A G) U H ∧ (∀ i : Nat, i < 14 → vk_R RX6 (js_ix.getD i 0) (js_tx.getD i "") (g_sK G i) U) ∧ va_Z "java/lang/String" "COMPACT_STRINGS" "Z" (.int 1) (g_A G) U H ∧ va_T .int (g_sc G) (g_sl G) (fun j => .int (g_sx G j)) (g_A G) U H ∧ (va_Z "jdk/internal/util/Preconditions" "SIOOBE_FORMATTER" "Ljava/util/function/BiFunction;" .null (g_A G) U H ∨ va_Z "jdk/internal/util/Preconditions" "SIOOBE_FORMATTER" "Ljava/util/function/BiFunction;" (.ref (g_fm G)) (g_A G) U H)
theorem g_E.same {G : Gm} {u U : State} {H : Heap} (hv : u.vm = U.vm) (h : g_E G u H) : g_E G U H := by
  have ha : u.vm.Alike U.vm := hv ▸ Vm.Alike.refl u.vm
  obtain ⟨h1, ⟨h2, h3, h4⟩, ⟨h5, h6, h7⟩, h8, h9, h10, h11, h12⟩ := h
  exact ⟨va_K.moved ha h1, ⟨h2.moved ha, h3.moved ha, h4.moved ha⟩, ⟨va_Nw.same rfl hv h5, va_Nw.same rfl hv h6, va_Nw.same rfl hv h7⟩, h8.moved ha, fun i hi => vk_R.same hv.symm (h9 i hi), va_Z.moved ha h10, va_T.moved ha h11, h12.imp (va_Z.moved ha) (va_Z.moved ha)⟩
theorem g_E.warm {G : Gm} {s U : State} {H0 H : Heap} (hW : s.WarmedH U.vm) (hq : ∀ a : Nat, a < H0.size → ¬ g_A G a → H[a]? = H0[a]?) (h : g_E G s H0) : g_E G U H := by
  have ha := hW.alike
  obtain ⟨h1, ⟨h2, h3, h4⟩, ⟨h5, h6, h7⟩, h8, h9, h10, h11, h12⟩ := h
  exact ⟨va_K.moved ha h1, ⟨h2.moved ha, h3.moved ha, h4.moved ha⟩, ⟨va_Nw.warmM hW h5, va_Nw.warmM hW h6, va_Nw.warmM hW h7⟩, (h8.moved ha).kept hq, fun i hi => vk_R.warm hW (h9 i hi), (va_Z.moved ha h10).kept hq, (va_T.moved ha h11).kept hq, h12.imp (fun h => (va_Z.moved ha h).kept hq) (fun h => (va_Z.moved ha h).kept hq)⟩
/-- the locals -/
def g_L (G : Gm) (nL : Nat) (L : List (Option Value)) (ls : Array Slot) : Prop := ls.size = nL ∧ lv_wf ls ∧ ∀ (i : Nat) (v : Value), L[i]? = some (some v) → ls[i]? = some (.val (g_v G v))
/-- no long is cut by a store at i -/
def g_ok (L : List (Option Value)) : Nat → Bool
  | 0 => true
  | j + 1 => match L[j]? with
    | some (some (.long _)) => false
    | some (some (.double _)) => false
    | _ => true
def g_rm (d mc ms : Nat) : Room := { frames := d, cells := mc, slots := ms, locals := 60 * d }
def g_Cx (G : Gm) (y : MethodName) (cc : ByteArray) (nL : Nat) (rt : Option FieldType) (p : Program) (s : State) (m : MethodId) (args : Array Value) (meth : Method) (c : Code) : Prop :=
  p.tables.exec = Jvm.exec ∧ c.code = cc ∧ meth.sig.returnType = rt ∧ c.maxLocals = nL ∧ s.vm.findClass y.cls = some m.cls ∧ (∀ w ∈ tb, w.before args s = true) ∧ meth.locks = false ∧ meth.name = y.name ∧ g_E G s s.heap
abbrev Pst : Type := Option Value → Lay → Hp → Prop
def g_Q (G : Gm) (Q : Pst) : Array Value → State → Outcome → State → Prop := fun _ st oc t => (∃ (v : Option Value) (lay : Lay) (I : Hp), oc = .returned (v.map (g_v G)) ∧ Q v lay I ∧ g_R G lay I t.heap) ∧ va_F (g_A G) st t
/-- from this point of a method on: it returns, and Q holds of answer, layout and ints -/
def AW (l : Launch) (G : Gm) (y : MethodName) (cc : ByteArray) (nL : Nat) (rt : Option FieldType) (d mc ms : Nat) (Q : Pst) (cells slots pc : Nat) (L : List (Option Value)) (st : List Value) (lay : Lay) (I : Hp) : Prop :=
  ∀ (p : Program) (e : Env) (R : Room) (s : State) (m : MethodId) (args : Array Value) (below : List Frame) (meth : Method) (c : Code) (ls : Array Slot) (H : Heap) (locs : List Loc),
    g_Cx G y cc nL rt p s m args meth c → (d ≤ R.frames ∧ 60 * d ≤ R.locals ∧ mc ≤ R.cells ∧ ms ≤ R.slots) → g_L G nL L ls → g_R G lay I H → va_S (g_A G) s.heap H locs → (s.heap.size + cells = g_b G + lay.length ∧ g_b G ≤ s.heap.size) →
    W p l e R s m args below meth c H locs cells slots (MQ below (g_Q G Q) args s mc ms (g_A G)) (F0 m pc ls (st.map (g_v G)))
/-- a method's contract -/
def Meth (l : Launch) (G : Gm) (y : MethodName) (cc : ByteArray) (nL : Nat) (rt : Option FieldType) (d mc ms : Nat) (As : List Value) (lay : Lay) (I : Hp) (Q : Pst) : Prop :=
  Met l y (.code y cc nL rt :: tb) (g_rm d mc ms) (va_Pc (As.map (g_v G)) (fun U => g_R G lay I U.heap ∧ U.heap.size = g_b G + lay.length ∧ g_E G U U.heap)) (g_Q G Q) mc ms (g_A G)
def up2 (I : Hp) (k i : Nat) (x : Int32) : Hp := fun k' => if k' = k then upd (I k) i x else I k'
theorem up2_same {I : Hp} {k i : Nat} {x : Int32} : up2 I k i x k i = x := by simp [up2, upd]
theorem up2_row {I : Hp} {k i : Nat} {x : Int32} : up2 I k i x k = upd (I k) i x := by simp [up2]
theorem up2_ne {I : Hp} {k i k' : Nat} {x : Int32} (h : k' ≠ k) : up2 I k i x k' = I k' := by simp [up2, h]
theorem up2_ni {I : Hp} {k i i' : Nat} {x : Int32} (h : i' ≠ i) : up2 I k i x k i' = I k i' := by simp [up2, upd, h]
theorem g_v_cat (G : Gm) (v : Value) : (g_v G v).category = v.category := by cases v <;> rfl
theorem g_ws_at {G : Gm} {lay : Lay} {I : Hp} {k : Nat} {dd : Nat × Nat × List (Option Nat)} (h : lay[k]? = some dd) : (g_ws G lay I)[k]? = some (g_b G + k, g_cell G dd (I k)) := by
  have hk := (List.getElem?_eq_some_iff.mp h).1
  unfold g_ws
  rw [List.getElem?_map, List.getElem?_range hk]
  simp [List.getD_eq_getElem?_getD, h]
theorem g_ws_len {G : Gm} {lay : Lay} {I : Hp} : (g_ws G lay I).length = lay.length := by simp [g_ws]
theorem g_ad_own {G : Gm} {k : Nat} (h : k < 100000) : g_ad G k = g_b G + k := by simp [g_ad, h]
theorem g_ws_D (G : Gm) (lay : Lay) (I : Hp) : va_D (g_A G) (g_ws G lay I) := by
  have key : ∀ (k : Nat) (q : Nat × va_E), (g_ws G lay I)[k]? = some q → q.1 = g_b G + k := by
    intro k q h
    have hk := (List.getElem?_eq_some_iff.mp h).1
    rw [g_ws_len] at hk
    rw [g_ws_at (List.getElem?_eq_getElem hk)] at h
    cases h
    rfl
  refine ⟨fun i j p q h1 h2 h3 => ?_, fun k q h => ?_⟩
  · rw [key i p h1, key j q h2] at h3
    omega
  · show g_b G ≤ q.1
    rw [key k q h]
    omega
theorem g_ws_set {G : Gm} {lay : Lay} {I I' : Hp} {k : Nat} {dd : Nat × Nat × List (Option Nat)} (h : lay[k]? = some dd) (ho : ∀ j, j ≠ k → I' j = I j) : (g_ws G lay I).set k (g_b G + k, g_cell G dd (I' k)) = g_ws G lay I' := by
  refine List.ext_getElem? fun j => ?_
  have hk := (List.getElem?_eq_some_iff.mp h).1
  by_cases hj : j = k
  · subst hj
    rw [List.getElem?_set_self (by rw [g_ws_len]; exact hk), g_ws_at h]
  · rw [List.getElem?_set_ne (Ne.symm hj)]
    by_cases hl : j < lay.length
    · rw [g_ws_at (List.getElem?_eq_getElem hl), g_ws_at (List.getElem?_eq_getElem hl), ho j hj]
    · rw [List.getElem?_eq_none (by rw [g_ws_len]; omega), List.getElem?_eq_none (by rw [g_ws_len]; omega)]
theorem g_ws_setL {G : Gm} {lay : Lay} {I : Hp} {k : Nat} {dd dd' : Nat × Nat × List (Option Nat)} (h : lay[k]? = some dd) : (g_ws G lay I).set k (g_b G + k, g_cell G dd' (I k)) = g_ws G (lay.set k dd') I := by
  have hk := (List.getElem?_eq_some_iff.mp h).1
  refine List.ext_getElem? fun j => ?_
  by_cases hj : j = k
  · subst hj
    rw [List.getElem?_set_self (by rw [g_ws_len]; exact hk), g_ws_at (lay := lay.set j dd') (dd := dd') (by rw [List.getElem?_set_self hk])]
  · rw [List.getElem?_set_ne (Ne.symm hj)]
    by_cases hl : j < lay.length
    · rw [g_ws_at (List.getElem?_eq_getElem hl), g_ws_at (lay := lay.set k dd') (dd := lay[j]) (by rw [List.getElem?_set_ne (Ne.symm hj)]; exact List.getElem?_eq_getElem hl)]
    · rw [List.getElem?_eq_none (by rw [g_ws_len]; omega), List.getElem?_eq_none (by rw [g_ws_len, List.length_set]; omega)]
def zr (I : Hp) (k : Nat) : Hp := fun j => if j = k then (fun _ => 0) else I j
theorem g_ws_push {G : Gm} {lay : Lay} {I : Hp} {dd : Nat × Nat × List (Option Nat)} : g_ws G lay I ++ [(g_b G + lay.length, g_cell G dd (fun _ => 0))] = g_ws G (lay ++ [dd]) (zr I lay.length) := by
  refine List.ext_getElem? fun j => ?_
  by_cases hl : j < lay.length
  · rw [List.getElem?_append_left (by rw [g_ws_len]; exact hl), g_ws_at (List.getElem?_eq_getElem hl), g_ws_at (lay := lay ++ [dd]) (dd := lay[j]) (by rw [List.getElem?_append_left hl]; exact List.getElem?_eq_getElem hl)]
    simp [zr, Nat.ne_of_lt hl]
  · rw [List.getElem?_append_right (by rw [g_ws_len]; omega), g_ws_len]
    by_cases he : j = lay.length
    · subst he
      rw [g_ws_at (lay := lay ++ [dd]) (dd := dd) (by simp)]
      simp [zr]
    · rw [List.getElem?_eq_none (by simp; omega), List.getElem?_eq_none (by rw [g_ws_len]; simp; omega)]
theorem g_fl_at {G : Gm} {b : List Bool} {rs : List (Option Nat)} {f : Nat → Int32} {i : Nat} (h : i < b.length) : (g_fl G b rs f)[i]? = some (if b.getD i false then va_rf ((rs.getD i none).map (g_ad G)) else .int (f i)) := by
  unfold g_fl
  rw [List.getElem?_map, List.getElem?_range h]
  rfl
theorem g_fl_len {G : Gm} {b : List Bool} {rs : List (Option Nat)} {f : Nat → Int32} : (g_fl G b rs f).length = b.length := by simp [g_fl]
theorem g_fl_setI {G : Gm} {b : List Bool} {rs : List (Option Nat)} {f : Nat → Int32} {i : Nat} {x : Int32} (h : i < b.length) (hb : b.getD i false = false) : (g_fl G b rs f).set i (.int x) = g_fl G b rs (upd f i x) := by
  refine List.ext_getElem? fun j => ?_
  by_cases hj : j = i
  · subst hj
    rw [List.getElem?_set_self (by rw [g_fl_len]; exact h), g_fl_at h, hb]
    simp [upd]
  · rw [List.getElem?_set_ne (Ne.symm hj)]
    by_cases hl : j < b.length
    · rw [g_fl_at hl, g_fl_at hl]
      simp [upd, hj]
    · rw [List.getElem?_eq_none (by rw [g_fl_len]; omega), List.getElem?_eq_none (by rw [g_fl_len]; omega)]
theorem g_fl_setR {G : Gm} {b : List Bool} {rs : List (Option Nat)} {f : Nat → Int32} {i r : Nat} (h : i < b.length) (hi : i < rs.length) (hb : b.getD i false = true) : (g_fl G b rs f).set i (.ref (g_ad G r)) = g_fl G b (rs.set i (some r)) f := by
  refine List.ext_getElem? fun j => ?_
  by_cases hj : j = i
  · subst hj
    rw [List.getElem?_set_self (by rw [g_fl_len]; exact h), g_fl_at h, hb]
    simp [List.getD_eq_getElem?_getD, hi, va_rf]
  · rw [List.getElem?_set_ne (Ne.symm hj)]
    by_cases hl : j < b.length
    · rw [g_fl_at hl, g_fl_at hl]
      simp [List.getD_eq_getElem?_getD, List.getElem?_set_ne (Ne.symm hj)]
    · rw [List.getElem?_eq_none (by rw [g_fl_len]; omega), List.getElem?_eq_none (by rw [g_fl_len]; omega)]
/-- the kit's list of locals out of ours -/
def g_lv (G : Gm) (L : List (Option Value)) : List (Nat × Value) := (List.range L.length).filterMap (fun i => (L[i]?.bind id).map (fun v => (i, g_v G v)))
theorem g_lv_mem {G : Gm} {L : List (Option Value)} {q : Nat × Value} : q ∈ g_lv G L ↔ ∃ v, L[q.1]? = some (some v) ∧ q.2 = g_v G v := by
  unfold g_lv
  rw [List.mem_filterMap]
  constructor
  · rintro ⟨i, hi, h⟩
    cases hL : L[i]? with
    | none => simp [hL] at h
    | some o =>
      cases o with
      | none => simp [hL] at h
      | some v =>
        simp [hL] at h
        subst h
        exact ⟨v, hL, rfl⟩
  · rintro ⟨v, h1, h2⟩
    refine ⟨q.1, List.mem_range.mpr (List.getElem?_eq_some_iff.mp h1).1, ?_⟩
    rw [h1]
    simp [← h2]
theorem g_L.has {G : Gm} {nL : Nat} {L : List (Option Value)} {ls : Array Slot} (h : g_L G nL L ls) : lv_has ls nL (g_lv G L) := by
  refine ⟨h.1, h.2.1, fun q hq => ?_⟩
  obtain ⟨v, h1, h2⟩ := g_lv_mem.mp hq
  rw [h2]
  exact h.2.2 _ _ h1
theorem g_L.set1 {G : Gm} {nL i : Nat} {L : List (Option Value)} {v : Value} {ls' : Array Slot} (hok : g_ok L i = true) (h : lv_has ls' nL ((i, g_v G v) :: (g_lv G L).filter (fun q => !(q.1 == i) && !(q.1 + 1 == i && q.2.category == 2)))) : g_L G nL (L.set i (some v)) ls' := by
  refine ⟨h.1, h.2.1, fun j w hj => ?_⟩
  by_cases hji : j = i
  · subst hji
    by_cases hl : j < L.length
    · rw [List.getElem?_set_self hl] at hj
      cases hj
      exact h.2.2 (j, g_v G v) List.mem_cons_self
    · rw [List.getElem?_eq_none (by rw [List.length_set]; omega)] at hj
      cases hj
  · rw [List.getElem?_set_ne (Ne.symm hji)] at hj
    refine h.2.2 (j, g_v G w) (List.mem_cons_of_mem _ (List.mem_filter.mpr ⟨g_lv_mem.mpr ⟨w, hj, rfl⟩, ?_⟩))
    simp only [Bool.and_eq_true, Bool.not_eq_true', beq_eq_false_iff_ne, Bool.and_eq_false_iff]
    refine ⟨hji, ?_⟩
    by_cases hc : j + 1 = i
    · right
      subst hc
      rw [g_v_cat]
      simp only [g_ok, hj] at hok
      cases w <;> simp_all [Value.category]
    · left
      exact hc
theorem g_L.set2 {G : Gm} {nL i : Nat} {L : List (Option Value)} {v : Value} {ls' : Array Slot} (hok : g_ok L i = true) (h : lv_has ls' nL ((i, g_v G v) :: (g_lv G L).filter (fun q => !(q.1 == i) && (!(q.1 == i + 1) && !(q.1 + 1 == i && q.2.category == 2))))) : g_L G nL ((L.set i (some v)).set (i + 1) none) ls' := by
  refine ⟨h.1, h.2.1, fun j w hj => ?_⟩
  by_cases hj1 : j = i + 1
  · subst hj1
    rw [List.getElem?_set] at hj
    split at hj
    · split at hj <;> cases hj
    · exact absurd rfl (by assumption)
  · rw [List.getElem?_set_ne (Ne.symm hj1)] at hj
    by_cases hji : j = i
    · subst hji
      by_cases hl : j < L.length
      · rw [List.getElem?_set_self hl] at hj
        cases hj
        exact h.2.2 (j, g_v G v) List.mem_cons_self
      · rw [List.getElem?_eq_none (by rw [List.length_set]; omega)] at hj
        cases hj
    · rw [List.getElem?_set_ne (Ne.symm hji)] at hj
      refine h.2.2 (j, g_v G w) (List.mem_cons_of_mem _ (List.mem_filter.mpr ⟨g_lv_mem.mpr ⟨w, hj, rfl⟩, ?_⟩))
      simp only [Bool.and_eq_true, Bool.not_eq_true', beq_eq_false_iff_ne, Bool.and_eq_false_iff]
      refine ⟨hji, hj1, ?_⟩
      by_cases hc : j + 1 = i
      · right
        subst hc
        rw [g_v_cat]
        simp only [g_ok, hj] at hok
        cases w <;> simp_all [Value.category]
      · left
        exact hc
theorem g_low {G : Gm} {lay : Lay} {I : Hp} {H : Heap} {k : Nat} {dd : Nat × Nat × List (Option Nat)} (h : va_P (g_D G) vwCl (g_ws G lay I) H) (hk : lay[k]? = some dd) : g_b G + lay.length ≤ H.size := by
  have hl := (List.getElem?_eq_some_iff.mp hk).1
  have h1 := (h (lay.length - 1) _ (g_ws_at (G := G) (I := I) (List.getElem?_eq_getElem (show lay.length - 1 < lay.length by omega)))).lt
  have h2 : g_b G + (lay.length - 1) < H.size := h1
  omega
section AWR
variable {l : Launch} {G : Gm} {y : MethodName} {cc : ByteArray} {nL : Nat} {rt : Option FieldType} {d mc ms : Nat} {Q : Pst} {cells slots pc : Nat} {L : List (Option Value)} {st : List Value} {lay : Lay} {I : Hp}
theorem AW_pc {pc0 : Nat} (pc : Nat) (h : pc0 = pc) (k : AW l G y cc nL rt d mc ms Q cells slots pc L st lay I) : AW l G y cc nL rt d mc ms Q cells slots pc0 L st lay I := h ▸ k
theorem AW_st {st0 : List Value} {st : List Value} (h : st0 = st) (k : AW l G y cc nL rt d mc ms Q cells slots pc L st lay I) : AW l G y cc nL rt d mc ms Q cells slots pc L st0 lay I := h ▸ k
theorem AW_L {L0 : List (Option Value)} {L : List (Option Value)} (h : L0 = L) (k : AW l G y cc nL rt d mc ms Q cells slots pc L st lay I) : AW l G y cc nL rt d mc ms Q cells slots pc L0 st lay I := h ▸ k
theorem AW_I {I0 : Hp} {I : Hp} (h : I0 = I) (k : AW l G y cc nL rt d mc ms Q cells slots pc L st lay I) : AW l G y cc nL rt d mc ms Q cells slots pc L st lay I0 := h ▸ k
theorem AW_lay {l0 : Lay} {lay : Lay} (h : l0 = lay) (k : AW l G y cc nL rt d mc ms Q cells slots pc L st lay I) : AW l G y cc nL rt d mc ms Q cells slots pc L st l0 I := h ▸ k
theorem A_iadd {x z : Int32} (hd : decode cc pc = .ok (.iadd, 1))  (k : AW l G y cc nL rt d mc ms Q cells slots (pc + 1) L (.int (x + z) :: st) lay I) : AW l G y cc nL rt d mc ms Q cells slots pc L (.int z :: .int x :: st) lay I :=
  fun p e R s m args below meth c ls H locs C hR hL hH hS hZ => lv_iadd C.1 C.2.1 hd  (k p e R s m args below meth c ls H locs C hR hL hH hS hZ)
theorem A_isub {x z : Int32} (hd : decode cc pc = .ok (.isub, 1))  (k : AW l G y cc nL rt d mc ms Q cells slots (pc + 1) L (.int (x - z) :: st) lay I) : AW l G y cc nL rt d mc ms Q cells slots pc L (.int z :: .int x :: st) lay I :=
  fun p e R s m args below meth c ls H locs C hR hL hH hS hZ => lv_isub C.1 C.2.1 hd  (k p e R s m args below meth c ls H locs C hR hL hH hS hZ)
theorem A_imul {x z : Int32} (hd : decode cc pc = .ok (.imul, 1))  (k : AW l G y cc nL rt d mc ms Q cells slots (pc + 1) L (.int (x * z) :: st) lay I) : AW l G y cc nL rt d mc ms Q cells slots pc L (.int z :: .int x :: st) lay I :=
  fun p e R s m args below meth c ls H locs C hR hL hH hS hZ => lv_imul C.1 C.2.1 hd  (k p e R s m args below meth c ls H locs C hR hL hH hS hZ)
theorem A_iand {x z : Int32} (hd : decode cc pc = .ok (.iand, 1))  (k : AW l G y cc nL rt d mc ms Q cells slots (pc + 1) L (.int (x &&& z) :: st) lay I) : AW l G y cc nL rt d mc ms Q cells slots pc L (.int z :: .int x :: st) lay I :=
  fun p e R s m args below meth c ls H locs C hR hL hH hS hZ => lv_iand C.1 C.2.1 hd  (k p e R s m args below meth c ls H locs C hR hL hH hS hZ)
theorem A_ior {x z : Int32} (hd : decode cc pc = .ok (.ior, 1))  (k : AW l G y cc nL rt d mc ms Q cells slots (pc + 1) L (.int (x ||| z) :: st) lay I) : AW l G y cc nL rt d mc ms Q cells slots pc L (.int z :: .int x :: st) lay I :=
  fun p e R s m args below meth c ls H locs C hR hL hH hS hZ => lv_ior C.1 C.2.1 hd  (k p e R s m args below meth c ls H locs C hR hL hH hS hZ)
theorem A_ixor {x z : Int32} (hd : decode cc pc = .ok (.ixor, 1))  (k : AW l G y cc nL rt d mc ms Q cells slots (pc + 1) L (.int (x ^^^ z) :: st) lay I) : AW l G y cc nL rt d mc ms Q cells slots pc L (.int z :: .int x :: st) lay I :=
  fun p e R s m args below meth c ls H locs C hR hL hH hS hZ => lv_ixor C.1 C.2.1 hd  (k p e R s m args below meth c ls H locs C hR hL hH hS hZ)
theorem A_ishl {x z : Int32} (hd : decode cc pc = .ok (.ishl, 1))  (k : AW l G y cc nL rt d mc ms Q cells slots (pc + 1) L (.int (x <<< (z &&& 31)) :: st) lay I) : AW l G y cc nL rt d mc ms Q cells slots pc L (.int z :: .int x :: st) lay I :=
  fun p e R s m args below meth c ls H locs C hR hL hH hS hZ => lv_ishl C.1 C.2.1 hd  (k p e R s m args below meth c ls H locs C hR hL hH hS hZ)
theorem A_ishr {x z : Int32} (hd : decode cc pc = .ok (.ishr, 1))  (k : AW l G y cc nL rt d mc ms Q cells slots (pc + 1) L (.int (x >>> (z &&& 31)) :: st) lay I) : AW l G y cc nL rt d mc ms Q cells slots pc L (.int z :: .int x :: st) lay I :=
  fun p e R s m args below meth c ls H locs C hR hL hH hS hZ => lv_ishr C.1 C.2.1 hd  (k p e R s m args below meth c ls H locs C hR hL hH hS hZ)
theorem A_idiv {x z : Int32} (hd : decode cc pc = .ok (.idiv, 1)) (hne : ¬ z = 0) (k : AW l G y cc nL rt d mc ms Q cells slots (pc + 1) L (.int (x / z) :: st) lay I) : AW l G y cc nL rt d mc ms Q cells slots pc L (.int z :: .int x :: st) lay I :=
  fun p e R s m args below meth c ls H locs C hR hL hH hS hZ => lv_idiv C.1 C.2.1 hd hne (k p e R s m args below meth c ls H locs C hR hL hH hS hZ)
theorem A_irem {x z : Int32} (hd : decode cc pc = .ok (.irem, 1)) (hne : ¬ z = 0) (k : AW l G y cc nL rt d mc ms Q cells slots (pc + 1) L (.int (x - x / z * z) :: st) lay I) : AW l G y cc nL rt d mc ms Q cells slots pc L (.int z :: .int x :: st) lay I :=
  fun p e R s m args below meth c ls H locs C hR hL hH hS hZ => lv_irem C.1 C.2.1 hd hne (k p e R s m args below meth c ls H locs C hR hL hH hS hZ)
theorem A_iushr {x z : Int32} (hd : decode cc pc = .ok (.iushr, 1))  (k : AW l G y cc nL rt d mc ms Q cells slots (pc + 1) L (.int ((x.toUInt32 >>> (z.toUInt32 &&& Int32.toUInt32 31)).toInt32) :: st) lay I) : AW l G y cc nL rt d mc ms Q cells slots pc L (.int z :: .int x :: st) lay I :=
  fun p e R s m args below meth c ls H locs C hR hL hH hS hZ => lv_iushr C.1 C.2.1 hd rfl (k p e R s m args below meth c ls H locs C hR hL hH hS hZ)
theorem A_ineg {x : Int32} (hd : decode cc pc = .ok (.ineg, 1))  (k : AW l G y cc nL rt d mc ms Q cells slots (pc + 1) L (.int (-x) :: st) lay I) : AW l G y cc nL rt d mc ms Q cells slots pc L (.int x :: st) lay I :=
  fun p e R s m args below meth c ls H locs C hR hL hH hS hZ => lv_ineg C.1 C.2.1 hd  (k p e R s m args below meth c ls H locs C hR hL hH hS hZ)
theorem A_i2l {x : Int32} (hd : decode cc pc = .ok (.i2l, 1))  (k : AW l G y cc nL rt d mc ms Q cells slots (pc + 1) L (.long x.toInt64 :: st) lay I) : AW l G y cc nL rt d mc ms Q cells slots pc L (.int x :: st) lay I :=
  fun p e R s m args below meth c ls H locs C hR hL hH hS hZ => lv_i2l C.1 C.2.1 hd rfl (k p e R s m args below meth c ls H locs C hR hL hH hS hZ)
theorem A_l2i {x : Int64} (hd : decode cc pc = .ok (.l2i, 1))  (k : AW l G y cc nL rt d mc ms Q cells slots (pc + 1) L (.int x.toInt32 :: st) lay I) : AW l G y cc nL rt d mc ms Q cells slots pc L (.long x :: st) lay I :=
  fun p e R s m args below meth c ls H locs C hR hL hH hS hZ => lv_l2i C.1 C.2.1 hd rfl (k p e R s m args below meth c ls H locs C hR hL hH hS hZ)
theorem A_i2s {x : Int32} (hd : decode cc pc = .ok (.i2s, 1))  (k : AW l G y cc nL rt d mc ms Q cells slots (pc + 1) L (.int x.toInt16.toInt32 :: st) lay I) : AW l G y cc nL rt d mc ms Q cells slots pc L (.int x :: st) lay I :=
  fun p e R s m args below meth c ls H locs C hR hL hH hS hZ => lv_i2s C.1 C.2.1 hd rfl (k p e R s m args below meth c ls H locs C hR hL hH hS hZ)
theorem A_i2c {x : Int32} (hd : decode cc pc = .ok (.i2c, 1))  (k : AW l G y cc nL rt d mc ms Q cells slots (pc + 1) L (.int (x.toUInt32 % 65536).toInt32 :: st) lay I) : AW l G y cc nL rt d mc ms Q cells slots pc L (.int x :: st) lay I :=
  fun p e R s m args below meth c ls H locs C hR hL hH hS hZ => lv_i2c C.1 C.2.1 hd rfl (k p e R s m args below meth c ls H locs C hR hL hH hS hZ)
theorem A_ladd {x z : Int64} (hd : decode cc pc = .ok (.ladd, 1))  (k : AW l G y cc nL rt d mc ms Q cells slots (pc + 1) L (.long (x + z) :: st) lay I) : AW l G y cc nL rt d mc ms Q cells slots pc L (.long z :: .long x :: st) lay I :=
  fun p e R s m args below meth c ls H locs C hR hL hH hS hZ => lv_ladd C.1 C.2.1 hd  (k p e R s m args below meth c ls H locs C hR hL hH hS hZ)
theorem A_lsub {x z : Int64} (hd : decode cc pc = .ok (.lsub, 1))  (k : AW l G y cc nL rt d mc ms Q cells slots (pc + 1) L (.long (x - z) :: st) lay I) : AW l G y cc nL rt d mc ms Q cells slots pc L (.long z :: .long x :: st) lay I :=
  fun p e R s m args below meth c ls H locs C hR hL hH hS hZ => lv_lsub C.1 C.2.1 hd  (k p e R s m args below meth c ls H locs C hR hL hH hS hZ)
theorem A_lneg {x : Int64} (hd : decode cc pc = .ok (.lneg, 1))  (k : AW l G y cc nL rt d mc ms Q cells slots (pc + 1) L (.long (-x) :: st) lay I) : AW l G y cc nL rt d mc ms Q cells slots pc L (.long x :: st) lay I :=
  fun p e R s m args below meth c ls H locs C hR hL hH hS hZ => lv_lneg C.1 C.2.1 hd  (k p e R s m args below meth c ls H locs C hR hL hH hS hZ)
theorem A_lcmp {x z : Int64} (hd : decode cc pc = .ok (.lcmp, 1))  (k : AW l G y cc nL rt d mc ms Q cells slots (pc + 1) L (.int (lg_cmp x z) :: st) lay I) : AW l G y cc nL rt d mc ms Q cells slots pc L (.long z :: .long x :: st) lay I :=
  fun p e R s m args below meth c ls H locs C hR hL hH hS hZ => W.lcmp C.1 C.2.1 hd  (k p e R s m args below meth c ls H locs C hR hL hH hS hZ)
theorem A_iconst {n : Int} {v : Int32} (hv : Int32.ofInt n = v) (hd : decode cc pc = .ok (.iconst n, 1)) (k : AW l G y cc nL rt d mc ms Q cells slots (pc + 1) L (.int v :: st) lay I) : AW l G y cc nL rt d mc ms Q cells slots pc L st lay I :=
  fun p e R s m args below meth c ls H locs C hR hL hH hS hZ => lv_iconst C.1 C.2.1 hd hv (k p e R s m args below meth c ls H locs C hR hL hH hS hZ)
theorem A_bipush {n : Int} {v : Int32} (hv : (Int8.ofInt n).toInt32 = v) (hd : decode cc pc = .ok (.bipush n, 2)) (k : AW l G y cc nL rt d mc ms Q cells slots (pc + 2) L (.int v :: st) lay I) : AW l G y cc nL rt d mc ms Q cells slots pc L st lay I :=
  fun p e R s m args below meth c ls H locs C hR hL hH hS hZ => lv_bipush C.1 C.2.1 hd hv (k p e R s m args below meth c ls H locs C hR hL hH hS hZ)
theorem A_sipush {n : Int} {v : Int32} (hv : (Int16.ofInt n).toInt32 = v) (hd : decode cc pc = .ok (.sipush n, 3)) (k : AW l G y cc nL rt d mc ms Q cells slots (pc + 3) L (.int v :: st) lay I) : AW l G y cc nL rt d mc ms Q cells slots pc L st lay I :=
  fun p e R s m args below meth c ls H locs C hR hL hH hS hZ => lv_sipush C.1 C.2.1 hd hv (k p e R s m args below meth c ls H locs C hR hL hH hS hZ)
theorem A_lconst {n : Fin 2} {v : Int64} (hv : Int64.ofNat (n : Nat) = v) (hd : decode cc pc = .ok (.lconst n, 1)) (k : AW l G y cc nL rt d mc ms Q cells slots (pc + 1) L (.long v :: st) lay I) : AW l G y cc nL rt d mc ms Q cells slots pc L st lay I :=
  fun p e R s m args below meth c ls H locs C hR hL hH hS hZ => lv_lconst C.1 C.2.1 hd hv (k p e R s m args below meth c ls H locs C hR hL hH hS hZ)
theorem A_ldc {own : String} {idx : Nat} {v : Int32} (hc : Cond.constant own idx v ∈ tb) (ho : y.cls = own) (hd : decode cc pc = .ok (.ldc idx, 2)) (k : AW l G y cc nL rt d mc ms Q cells slots (pc + 2) L (.int v :: st) lay I) : AW l G y cc nL rt d mc ms Q cells slots pc L st lay I :=
  fun p e R s m args below meth c ls H locs C hR hL hH hS hZ => lv_ldc C.1 C.2.1 (ho ▸ C.2.2.2.2.1) (C.2.2.2.2.2.1 _ hc) hd (k p e R s m args below meth c ls H locs C hR hL hH hS hZ)
theorem A_ldcw {own : String} {idx : Nat} {v : Int32} (hc : Cond.constant own idx v ∈ tb) (ho : y.cls = own) (hd : decode cc pc = .ok (.ldc_w idx, 3)) (k : AW l G y cc nL rt d mc ms Q cells slots (pc + 3) L (.int v :: st) lay I) : AW l G y cc nL rt d mc ms Q cells slots pc L st lay I :=
  fun p e R s m args below meth c ls H locs C hR hL hH hS hZ => lv_ldcw C.1 C.2.1 (ho ▸ C.2.2.2.2.1) (C.2.2.2.2.2.1 _ hc) hd (k p e R s m args below meth c ls H locs C hR hL hH hS hZ)
theorem A_dup {v : Value} (hv : v.category = 1) (hd : decode cc pc = .ok (.dup, 1)) (k : AW l G y cc nL rt d mc ms Q cells slots (pc + 1) L (v :: v :: st) lay I) : AW l G y cc nL rt d mc ms Q cells slots pc L (v :: st) lay I :=
  fun p e R s m args below meth c ls H locs C hR hL hH hS hZ => lv_dup C.1 C.2.1 hd ((g_v_cat G v).trans hv) (k p e R s m args below meth c ls H locs C hR hL hH hS hZ)
theorem A_dup2 {v w : Value} (hv : v.category = 1) (hw : w.category = 1) (hd : decode cc pc = .ok (.dup2, 1)) (k : AW l G y cc nL rt d mc ms Q cells slots (pc + 1) L (v :: w :: v :: w :: st) lay I) : AW l G y cc nL rt d mc ms Q cells slots pc L (v :: w :: st) lay I :=
  fun p e R s m args below meth c ls H locs C hR hL hH hS hZ => lv_dup2_11 C.1 C.2.1 hd ((g_v_cat G v).trans hv) ((g_v_cat G w).trans hw) (k p e R s m args below meth c ls H locs C hR hL hH hS hZ)
theorem A_pop {v : Value} (hv : v.category = 1) (hd : decode cc pc = .ok (.pop, 1)) (k : AW l G y cc nL rt d mc ms Q cells slots (pc + 1) L st lay I) : AW l G y cc nL rt d mc ms Q cells slots pc L (v :: st) lay I :=
  fun p e R s m args below meth c ls H locs C hR hL hH hS hZ => lv_pop C.1 C.2.1 hd ((g_v_cat G v).trans hv) (k p e R s m args below meth c ls H locs C hR hL hH hS hZ)
theorem A_iload_n {n : Fin 4} {x : Int32} (hl : L[(n : Nat)]? = some (some (.int x))) (hd : decode cc pc = .ok (.iload_n n, 1)) (k : AW l G y cc nL rt d mc ms Q cells slots (pc + 1) L (.int x :: st) lay I) : AW l G y cc nL rt d mc ms Q cells slots pc L st lay I :=
  fun p e R s m args below meth c ls H locs C hR hL hH hS hZ => lv_iload_n C.1 C.2.1 hd rfl (hL.2.2 _ _ hl) (k p e R s m args below meth c ls H locs C hR hL hH hS hZ)
theorem A_iload {n : Nat} {x : Int32} (hl : L[n]? = some (some (.int x))) (hd : decode cc pc = .ok (.iload n, 2)) (k : AW l G y cc nL rt d mc ms Q cells slots (pc + 2) L (.int x :: st) lay I) : AW l G y cc nL rt d mc ms Q cells slots pc L st lay I :=
  fun p e R s m args below meth c ls H locs C hR hL hH hS hZ => lv_iload C.1 C.2.1 hd (hL.2.2 _ _ hl) (k p e R s m args below meth c ls H locs C hR hL hH hS hZ)
theorem A_aload_n {n : Fin 4} {x : Nat} (hl : L[(n : Nat)]? = some (some (.ref x))) (hd : decode cc pc = .ok (.aload_n n, 1)) (k : AW l G y cc nL rt d mc ms Q cells slots (pc + 1) L (.ref x :: st) lay I) : AW l G y cc nL rt d mc ms Q cells slots pc L st lay I :=
  fun p e R s m args below meth c ls H locs C hR hL hH hS hZ => lv_aload_n C.1 C.2.1 hd rfl (hL.2.2 _ _ hl) (k p e R s m args below meth c ls H locs C hR hL hH hS hZ)
theorem A_aload {n : Nat} {x : Nat} (hl : L[n]? = some (some (.ref x))) (hd : decode cc pc = .ok (.aload n, 2)) (k : AW l G y cc nL rt d mc ms Q cells slots (pc + 2) L (.ref x :: st) lay I) : AW l G y cc nL rt d mc ms Q cells slots pc L st lay I :=
  fun p e R s m args below meth c ls H locs C hR hL hH hS hZ => lv_aload C.1 C.2.1 hd (hL.2.2 _ _ hl) (k p e R s m args below meth c ls H locs C hR hL hH hS hZ)
theorem A_lload {n : Nat} {x : Int64} (hl : L[n]? = some (some (.long x))) (hd : decode cc pc = .ok (.lload n, 2)) (k : AW l G y cc nL rt d mc ms Q cells slots (pc + 2) L (.long x :: st) lay I) : AW l G y cc nL rt d mc ms Q cells slots pc L st lay I :=
  fun p e R s m args below meth c ls H locs C hR hL hH hS hZ => lv_lload C.1 C.2.1 hd (hL.2.2 _ _ hl) (k p e R s m args below meth c ls H locs C hR hL hH hS hZ)
theorem A_istore_n {n : Fin 4} {x : Int32} (hn : (n : Nat) < nL) (hok : g_ok L n = true) (hd : decode cc pc = .ok (.istore_n n, 1)) (k : AW l G y cc nL rt d mc ms Q cells slots (pc + 1) (L.set n (some (.int x))) st lay I) : AW l G y cc nL rt d mc ms Q cells slots pc L (.int x :: st) lay I :=
  fun p e R s m args below meth c ls H locs C hR hL hH hS hZ => lv_istore_n C.1 C.2.1 hd rfl hL.has hn rfl (fun ls2 h2 => (k p e R s m args below meth c ls2 H locs C hR (g_L.set1 (v := .int x) hok h2) hH hS hZ))
theorem A_istore {n : Nat} {x : Int32} (hn : n < nL) (hok : g_ok L n = true) (hd : decode cc pc = .ok (.istore n, 2)) (k : AW l G y cc nL rt d mc ms Q cells slots (pc + 2) (L.set n (some (.int x))) st lay I) : AW l G y cc nL rt d mc ms Q cells slots pc L (.int x :: st) lay I :=
  fun p e R s m args below meth c ls H locs C hR hL hH hS hZ => lv_istore C.1 C.2.1 hd hL.has hn rfl (fun ls2 h2 => (k p e R s m args below meth c ls2 H locs C hR (g_L.set1 (v := .int x) hok h2) hH hS hZ))
theorem A_astore_n {n : Fin 4} {x : Nat} (hn : (n : Nat) < nL) (hok : g_ok L n = true) (hd : decode cc pc = .ok (.astore_n n, 1)) (k : AW l G y cc nL rt d mc ms Q cells slots (pc + 1) (L.set n (some (.ref x))) st lay I) : AW l G y cc nL rt d mc ms Q cells slots pc L (.ref x :: st) lay I :=
  fun p e R s m args below meth c ls H locs C hR hL hH hS hZ => lv_astore_n C.1 C.2.1 hd rfl hL.has hn rfl (fun ls2 h2 => (k p e R s m args below meth c ls2 H locs C hR (g_L.set1 (v := .ref x) hok h2) hH hS hZ))
theorem A_astore {n : Nat} {x : Nat} (hn : n < nL) (hok : g_ok L n = true) (hd : decode cc pc = .ok (.astore n, 2)) (k : AW l G y cc nL rt d mc ms Q cells slots (pc + 2) (L.set n (some (.ref x))) st lay I) : AW l G y cc nL rt d mc ms Q cells slots pc L (.ref x :: st) lay I :=
  fun p e R s m args below meth c ls H locs C hR hL hH hS hZ => lv_astore C.1 C.2.1 hd hL.has hn rfl (fun ls2 h2 => (k p e R s m args below meth c ls2 H locs C hR (g_L.set1 (v := .ref x) hok h2) hH hS hZ))
theorem A_lstore {n : Nat} {x : Int64} (hn : n + 1 < nL) (hok : g_ok L n = true) (hd : decode cc pc = .ok (.lstore n, 2)) (k : AW l G y cc nL rt d mc ms Q cells slots (pc + 2) ((L.set n (some (.long x))).set (n + 1) none) st lay I) : AW l G y cc nL rt d mc ms Q cells slots pc L (.long x :: st) lay I :=
  fun p e R s m args below meth c ls H locs C hR hL hH hS hZ => lv_lstore C.1 C.2.1 hd hL.has hn rfl (fun ls2 h2 => (k p e R s m args below meth c ls2 H locs C hR (g_L.set2 (v := .long x) hok h2) hH hS hZ))
theorem A_iinc {n : Nat} {i : Int} {x v : Int32} (hv : Int32.ofInt i = v) (hl : L[n]? = some (some (.int x))) (hn : n < nL) (hok : g_ok L n = true) (hd : decode cc pc = .ok (.iinc n i, 3)) (k : AW l G y cc nL rt d mc ms Q cells slots (pc + 3) (L.set n (some (.int (x + v)))) st lay I) : AW l G y cc nL rt d mc ms Q cells slots pc L st lay I := by
  intro p e R s m args below meth c ls H locs C hR hL hH hS hZ
  subst hv
  obtain ⟨k0, hk0⟩ := List.getElem?_of_mem (g_lv_mem (G := G).mpr ⟨.int x, hl, rfl⟩ : (n, Value.int x) ∈ g_lv G L)
  exact lv_iinc C.1 C.2.1 hd hL.has hk0 rfl hn rfl (fun ls2 h2 => (k p e R s m args below meth c ls2 H locs C hR (g_L.set1 (v := .int (x + Int32.ofInt i)) hok h2) hH hS hZ))
theorem A_if_eq {x : Int32} {off : Int} (tgt : Nat) (ht : (pc : Int) + off = (tgt : Int)) (hd : decode cc pc = .ok (.ifCond .eq off, 3)) (kt : x = 0 → AW l G y cc nL rt d mc ms Q cells slots tgt L st lay I) (kf : ¬ x = 0 → AW l G y cc nL rt d mc ms Q cells slots (pc + 3) L st lay I) : AW l G y cc nL rt d mc ms Q cells slots pc L (.int x :: st) lay I :=
  fun p e R s m args below meth c ls H locs C hR hL hH hS hZ => lv_if_eq C.1 C.2.1 hd ht (fun h => kt h p e R s m args below meth c ls H locs C hR hL hH hS hZ) (fun h => kf h p e R s m args below meth c ls H locs C hR hL hH hS hZ)
theorem A_icmp_eq {x z : Int32} {off : Int} (tgt : Nat) (ht : (pc : Int) + off = (tgt : Int)) (hd : decode cc pc = .ok (.if_icmp .eq off, 3)) (kt : x = z → AW l G y cc nL rt d mc ms Q cells slots tgt L st lay I) (kf : ¬ x = z → AW l G y cc nL rt d mc ms Q cells slots (pc + 3) L st lay I) : AW l G y cc nL rt d mc ms Q cells slots pc L (.int z :: .int x :: st) lay I :=
  fun p e R s m args below meth c ls H locs C hR hL hH hS hZ => lv_icmp_eq C.1 C.2.1 hd ht (fun h => kt h p e R s m args below meth c ls H locs C hR hL hH hS hZ) (fun h => kf h p e R s m args below meth c ls H locs C hR hL hH hS hZ)
theorem A_if_ne {x : Int32} {off : Int} (tgt : Nat) (ht : (pc : Int) + off = (tgt : Int)) (hd : decode cc pc = .ok (.ifCond .ne off, 3)) (kt : ¬ x = 0 → AW l G y cc nL rt d mc ms Q cells slots tgt L st lay I) (kf : x = 0 → AW l G y cc nL rt d mc ms Q cells slots (pc + 3) L st lay I) : AW l G y cc nL rt d mc ms Q cells slots pc L (.int x :: st) lay I :=
  fun p e R s m args below meth c ls H locs C hR hL hH hS hZ => lv_if_ne C.1 C.2.1 hd ht (fun h => kt h p e R s m args below meth c ls H locs C hR hL hH hS hZ) (fun h => kf h p e R s m args below meth c ls H locs C hR hL hH hS hZ)
theorem A_icmp_ne {x z : Int32} {off : Int} (tgt : Nat) (ht : (pc : Int) + off = (tgt : Int)) (hd : decode cc pc = .ok (.if_icmp .ne off, 3)) (kt : ¬ x = z → AW l G y cc nL rt d mc ms Q cells slots tgt L st lay I) (kf : x = z → AW l G y cc nL rt d mc ms Q cells slots (pc + 3) L st lay I) : AW l G y cc nL rt d mc ms Q cells slots pc L (.int z :: .int x :: st) lay I :=
  fun p e R s m args below meth c ls H locs C hR hL hH hS hZ => lv_icmp_ne C.1 C.2.1 hd ht (fun h => kt h p e R s m args below meth c ls H locs C hR hL hH hS hZ) (fun h => kf h p e R s m args below meth c ls H locs C hR hL hH hS hZ)
theorem A_if_lt {x : Int32} {off : Int} (tgt : Nat) (ht : (pc : Int) + off = (tgt : Int)) (hd : decode cc pc = .ok (.ifCond .lt off, 3)) (kt : x < 0 → AW l G y cc nL rt d mc ms Q cells slots tgt L st lay I) (kf : ¬ x < 0 → AW l G y cc nL rt d mc ms Q cells slots (pc + 3) L st lay I) : AW l G y cc nL rt d mc ms Q cells slots pc L (.int x :: st) lay I :=
  fun p e R s m args below meth c ls H locs C hR hL hH hS hZ => lv_if_lt C.1 C.2.1 hd ht (fun h => kt h p e R s m args below meth c ls H locs C hR hL hH hS hZ) (fun h => kf h p e R s m args below meth c ls H locs C hR hL hH hS hZ)
theorem A_icmp_lt {x z : Int32} {off : Int} (tgt : Nat) (ht : (pc : Int) + off = (tgt : Int)) (hd : decode cc pc = .ok (.if_icmp .lt off, 3)) (kt : x < z → AW l G y cc nL rt d mc ms Q cells slots tgt L st lay I) (kf : ¬ x < z → AW l G y cc nL rt d mc ms Q cells slots (pc + 3) L st lay I) : AW l G y cc nL rt d mc ms Q cells slots pc L (.int z :: .int x :: st) lay I :=
  fun p e R s m args below meth c ls H locs C hR hL hH hS hZ => lv_icmp_lt C.1 C.2.1 hd ht (fun h => kt h p e R s m args below meth c ls H locs C hR hL hH hS hZ) (fun h => kf h p e R s m args below meth c ls H locs C hR hL hH hS hZ)
theorem A_if_ge {x : Int32} {off : Int} (tgt : Nat) (ht : (pc : Int) + off = (tgt : Int)) (hd : decode cc pc = .ok (.ifCond .ge off, 3)) (kt : 0 ≤ x → AW l G y cc nL rt d mc ms Q cells slots tgt L st lay I) (kf : ¬ 0 ≤ x → AW l G y cc nL rt d mc ms Q cells slots (pc + 3) L st lay I) : AW l G y cc nL rt d mc ms Q cells slots pc L (.int x :: st) lay I :=
  fun p e R s m args below meth c ls H locs C hR hL hH hS hZ => lv_if_ge C.1 C.2.1 hd ht (fun h => kt h p e R s m args below meth c ls H locs C hR hL hH hS hZ) (fun h => kf h p e R s m args below meth c ls H locs C hR hL hH hS hZ)
theorem A_icmp_ge {x z : Int32} {off : Int} (tgt : Nat) (ht : (pc : Int) + off = (tgt : Int)) (hd : decode cc pc = .ok (.if_icmp .ge off, 3)) (kt : z ≤ x → AW l G y cc nL rt d mc ms Q cells slots tgt L st lay I) (kf : ¬ z ≤ x → AW l G y cc nL rt d mc ms Q cells slots (pc + 3) L st lay I) : AW l G y cc nL rt d mc ms Q cells slots pc L (.int z :: .int x :: st) lay I :=
  fun p e R s m args below meth c ls H locs C hR hL hH hS hZ => lv_icmp_ge C.1 C.2.1 hd ht (fun h => kt h p e R s m args below meth c ls H locs C hR hL hH hS hZ) (fun h => kf h p e R s m args below meth c ls H locs C hR hL hH hS hZ)
theorem A_if_gt {x : Int32} {off : Int} (tgt : Nat) (ht : (pc : Int) + off = (tgt : Int)) (hd : decode cc pc = .ok (.ifCond .gt off, 3)) (kt : 0 < x → AW l G y cc nL rt d mc ms Q cells slots tgt L st lay I) (kf : ¬ 0 < x → AW l G y cc nL rt d mc ms Q cells slots (pc + 3) L st lay I) : AW l G y cc nL rt d mc ms Q cells slots pc L (.int x :: st) lay I :=
  fun p e R s m args below meth c ls H locs C hR hL hH hS hZ => lv_if_gt C.1 C.2.1 hd ht (fun h => kt h p e R s m args below meth c ls H locs C hR hL hH hS hZ) (fun h => kf h p e R s m args below meth c ls H locs C hR hL hH hS hZ)
theorem A_icmp_gt {x z : Int32} {off : Int} (tgt : Nat) (ht : (pc : Int) + off = (tgt : Int)) (hd : decode cc pc = .ok (.if_icmp .gt off, 3)) (kt : z < x → AW l G y cc nL rt d mc ms Q cells slots tgt L st lay I) (kf : ¬ z < x → AW l G y cc nL rt d mc ms Q cells slots (pc + 3) L st lay I) : AW l G y cc nL rt d mc ms Q cells slots pc L (.int z :: .int x :: st) lay I :=
  fun p e R s m args below meth c ls H locs C hR hL hH hS hZ => lv_icmp_gt C.1 C.2.1 hd ht (fun h => kt h p e R s m args below meth c ls H locs C hR hL hH hS hZ) (fun h => kf h p e R s m args below meth c ls H locs C hR hL hH hS hZ)
theorem A_if_le {x : Int32} {off : Int} (tgt : Nat) (ht : (pc : Int) + off = (tgt : Int)) (hd : decode cc pc = .ok (.ifCond .le off, 3)) (kt : x ≤ 0 → AW l G y cc nL rt d mc ms Q cells slots tgt L st lay I) (kf : ¬ x ≤ 0 → AW l G y cc nL rt d mc ms Q cells slots (pc + 3) L st lay I) : AW l G y cc nL rt d mc ms Q cells slots pc L (.int x :: st) lay I :=
  fun p e R s m args below meth c ls H locs C hR hL hH hS hZ => lv_if_le C.1 C.2.1 hd ht (fun h => kt h p e R s m args below meth c ls H locs C hR hL hH hS hZ) (fun h => kf h p e R s m args below meth c ls H locs C hR hL hH hS hZ)
theorem A_icmp_le {x z : Int32} {off : Int} (tgt : Nat) (ht : (pc : Int) + off = (tgt : Int)) (hd : decode cc pc = .ok (.if_icmp .le off, 3)) (kt : x ≤ z → AW l G y cc nL rt d mc ms Q cells slots tgt L st lay I) (kf : ¬ x ≤ z → AW l G y cc nL rt d mc ms Q cells slots (pc + 3) L st lay I) : AW l G y cc nL rt d mc ms Q cells slots pc L (.int z :: .int x :: st) lay I :=
  fun p e R s m args below meth c ls H locs C hR hL hH hS hZ => lv_icmp_le C.1 C.2.1 hd ht (fun h => kt h p e R s m args below meth c ls H locs C hR hL hH hS hZ) (fun h => kf h p e R s m args below meth c ls H locs C hR hL hH hS hZ)
theorem A_goto {off : Int} (tgt : Nat) (ht : (pc : Int) + off = (tgt : Int)) (hd : decode cc pc = .ok (.goto off, 3)) (k : AW l G y cc nL rt d mc ms Q cells slots tgt L st lay I) : AW l G y cc nL rt d mc ms Q cells slots pc L st lay I :=
  fun p e R s m args below meth c ls H locs C hR hL hH hS hZ => lv_goto C.1 C.2.1 hd ht (k p e R s m args below meth c ls H locs C hR hL hH hS hZ)
theorem A_tsw {dflt lo hi : Int} {offs : Array Int} {len : Nat} {x : Int32} (tg : Nat) (ht : (pc : Int) + dflt = (tg : Int)) (hd : decode cc pc = .ok (.tableswitch dflt lo hi offs, len)) (hsz : (offs.size : Int) = hi - lo + 1) (hin : ∀ (j : Nat) (off : Int), offs[j]? = some off → x.toInt = lo + j → ∃ tgt : Nat, (pc : Int) + off = (tgt : Int) ∧ AW l G y cc nL rt d mc ms Q cells slots tgt L st lay I) (hout : x.toInt < lo ∨ hi < x.toInt → AW l G y cc nL rt d mc ms Q cells slots tg L st lay I) : AW l G y cc nL rt d mc ms Q cells slots pc L (.int x :: st) lay I := by
  intro p e R s m args below meth c ls H locs C hR hL hH hS hZ
  by_cases h1 : x.toInt < lo
  · exact lv_tableOut C.1 C.2.1 hd (Or.inl h1) ht (hout (Or.inl h1) p e R s m args below meth c ls H locs C hR hL hH hS hZ)
  · by_cases h2 : hi < x.toInt
    · exact lv_tableOut C.1 C.2.1 hd (Or.inr h2) ht (hout (Or.inr h2) p e R s m args below meth c ls H locs C hR hL hH hS hZ)
    · have hlt : (x.toInt - lo).toNat < offs.size := by omega
      obtain ⟨tgt, h3, h4⟩ := hin (x.toInt - lo).toNat offs[(x.toInt - lo).toNat] (Array.getElem?_eq_getElem hlt) (by omega)
      exact lv_tableIn C.1 C.2.1 hd h1 h2 (Array.getElem?_eq_getElem hlt) h3 (h4 p e R s m args below meth c ls H locs C hR hL hH hS hZ)
theorem A_lsw {dflt : Int} {ps : Array (Int × Int)} {len : Nat} {x : Int32} (hd : decode cc pc = .ok (.lookupswitch dflt ps, len)) (hp : (ps.toList.zip (ps.toList.drop 1)).all (fun (a, next) => a.1 < next.1) = true) (k : ∃ tgt : Nat, (pc : Int) + Op.lookupswitch.offset ps.toList dflt x.toInt = (tgt : Int) ∧ AW l G y cc nL rt d mc ms Q cells slots tgt L st lay I) : AW l G y cc nL rt d mc ms Q cells slots pc L (.int x :: st) lay I := by
  intro p e R s m args below meth c ls H locs C hR hL hH hS hZ
  obtain ⟨tgt, h1, h2⟩ := k
  exact lv_lookup C.1 C.2.1 hd hp rfl h1 (h2 p e R s m args below meth c ls H locs C hR hL hH hS hZ)
theorem A_iret {x : Int32} {ty : FieldType} (hr : rt = some ty) (hn : narrow ty (.int x) = .int x) (hc : cells = mc) (hs : slots = ms) (hd : decode cc pc = .ok (.ireturn, 1)) (hq : Q (some (.int x)) lay I) : AW l G y cc nL rt d mc ms Q cells slots pc L [.int x] lay I := by
  intro p e R s m args below meth c ls H locs C hR hL hH hS hZ
  subst hc; subst hs
  exact W.zret C.1 C.2.1 (C.2.2.1.trans hr) hn (fun t ht hW => ⟨⟨some (.int x), lay, I, rfl, hq, by rw [ht]; exact hH⟩, hS.F ht⟩) hS.2.2 hd C.2.2.2.2.2.2.1
theorem A_lret {x : Int64} (hr : rt = some .long) (hc : cells = mc) (hs : slots = ms) (hd : decode cc pc = .ok (.lreturn, 1)) (hq : Q (some (.long x)) lay I) : AW l G y cc nL rt d mc ms Q cells slots pc L [.long x] lay I := by
  intro p e R s m args below meth c ls H locs C hR hL hH hS hZ
  subst hc; subst hs
  exact W.lret C.1 C.2.1 (C.2.2.1.trans hr) (fun t ht hW => ⟨⟨some (.long x), lay, I, rfl, hq, by rw [ht]; exact hH⟩, hS.F ht⟩) hS.2.2 hd C.2.2.2.2.2.2.1
theorem A_aret {x : Nat} {ty : FieldType} (hr : rt = some ty) (hrt : (∃ n, ty = .object n) ∨ ∃ t, ty = .array t) (hc : cells = mc) (hs : slots = ms) (hd : decode cc pc = .ok (.areturn, 1)) (hq : Q (some (.ref x)) lay I) : AW l G y cc nL rt d mc ms Q cells slots pc L [.ref x] lay I := by
  intro p e R s m args below meth c ls H locs C hR hL hH hS hZ
  subst hc; subst hs
  exact W.aret C.1 C.2.1 (C.2.2.1.trans hr) hrt (Or.inr ⟨_, rfl⟩) (fun t ht hW => ⟨⟨some (.ref x), lay, I, rfl, hq, by rw [ht]; exact hH⟩, hS.F ht⟩) hS.2.2 hd C.2.2.2.2.2.2.1
theorem A_vret (hr : rt = none) (hc : cells = mc) (hs : slots = ms) (hd : decode cc pc = .ok (.return_, 1)) (hq : Q none lay I) : AW l G y cc nL rt d mc ms Q cells slots pc L [] lay I := by
  intro p e R s m args below meth c ls H locs C hR hL hH hS hZ
  subst hc; subst hs
  exact W.vret C.1 C.2.1 (C.2.2.1.trans hr) (fun t ht hW => ⟨⟨none, lay, I, rfl, hq, by rw [ht]; exact hH⟩, hS.F ht⟩) hS.2.2 hd C.2.2.2.2.2.2.1
theorem g_own {G : Gm} {lay : Lay} {I : Hp} {H : Heap} {k : Nat} {dd : Nat × Nat × List (Option Nat)} (hH : g_R G lay I H) (hk : lay[k]? = some dd) : g_ad G k = g_b G + k := g_ad_own (Nat.lt_trans (List.getElem?_eq_some_iff.mp hk).1 hH.2.2)
theorem g_obj {G : Gm} {ci N : Nat} {rs : List (Option Nat)} {f : Nat → Int32} (h : ci < 8) : g_cell G (ci, N, rs) f = .inr (ci, g_fl G (g_tab.getD ci []) rs f) := by simp [g_cell, h]
theorem g_rowI {G : Gm} {kd n : Nat} {rs : List (Option Nat)} {f : Nat → Int32} (h : kd = 8 ∨ kd = 9 ∨ kd = 10) : g_cell G (kd, n, rs) f = .inl (g_cA G kd, n, .inl f) := by rcases h with rfl | rfl | rfl <;> simp [g_cell]
theorem g_rowR {G : Gm} {kd n : Nat} {rs : List (Option Nat)} {f : Nat → Int32} (h : kd = 11 ∨ kd = 12 ∨ kd = 13) : g_cell G (kd, n, rs) f = .inl (g_cA G kd, n, .inr (.inr (.inr (.inr (fun i => (rs.getD i none).map (g_ad G)))))) := by rcases h with rfl | rfl | rfl <;> simp [g_cell]
theorem A_getI {k i ci N idx : Nat} {rs : List (Option Nat)} {fin : Bool} {ft : FieldType} {own : String} (hf : FG own idx ci i false fin ft) (ho : y.cls = own) (hk : lay[k]? = some (ci, N, rs)) (hd : decode cc pc = .ok (.getfield idx, 3)) (kk : AW l G y cc nL rt d mc ms Q cells slots (pc + 3) L (.int (I k i) :: st) lay I) : AW l G y cc nL rt d mc ms Q cells slots pc L (.ref k :: st) lay I := by
  intro p e R s m args below meth c ls H locs C hR hL hH hS hZ
  obtain ⟨C', T, N', ty, hcf, hi, hm, hr, -, -⟩ := hf
  have he := g_ws_at (G := G) (I := I) hk
  rw [g_obj hcf.2.2.2.2.2.2.2.2.2] at he
  show W p l e R s m args below meth c H locs cells slots _ (F0 m pc ls (.ref (g_ad G k) :: st.map (g_v G)))
  rw [g_own hH hk]
  exact va_get C.1 C.2.1 C.2.2.2.2.2.1 hcf.2.1 (ho ▸ C.2.2.2.2.1) C.2.2.2.2.2.2.2.2.1 hH.1 k he hcf.1 i hi (C.2.2.2.2.2.1 _ hm) (fun _ h => h) (v := .int (I k i)) (by rw [g_fl_at (by rw [hcf.2.2.2.2.1]; exact hi), hr]; rfl) hd (kk p e R s m args below meth c ls H locs C hR hL hH hS hZ)
theorem A_getR {k i ci N idx r : Nat} {rs : List (Option Nat)} {fin : Bool} {ft : FieldType} {own : String} (hf : FG own idx ci i true fin ft) (ho : y.cls = own) (hk : lay[k]? = some (ci, N, rs)) (hr0 : rs[i]? = some (some r)) (hd : decode cc pc = .ok (.getfield idx, 3)) (kk : AW l G y cc nL rt d mc ms Q cells slots (pc + 3) L (.ref r :: st) lay I) : AW l G y cc nL rt d mc ms Q cells slots pc L (.ref k :: st) lay I := by
  intro p e R s m args below meth c ls H locs C hR hL hH hS hZ
  obtain ⟨C', T, N', ty, hcf, hi, hm, hr, -, -⟩ := hf
  have he := g_ws_at (G := G) (I := I) hk
  rw [g_obj hcf.2.2.2.2.2.2.2.2.2] at he
  show W p l e R s m args below meth c H locs cells slots _ (F0 m pc ls (.ref (g_ad G k) :: st.map (g_v G)))
  rw [g_own hH hk]
  exact va_get C.1 C.2.1 C.2.2.2.2.2.1 hcf.2.1 (ho ▸ C.2.2.2.2.1) C.2.2.2.2.2.2.2.2.1 hH.1 k he hcf.1 i hi (C.2.2.2.2.2.1 _ hm) (fun _ h => h) (v := .ref (g_ad G r)) (by rw [g_fl_at (by rw [hcf.2.2.2.2.1]; exact hi), hr]; simp [List.getD_eq_getElem?_getD, hr0, va_rf]) hd (kk p e R s m args below meth c ls H locs C hR hL hH hS hZ)
theorem A_putI {k i ci N idx : Nat} {rs : List (Option Nat)} {ft : FieldType} {x : Int32} {own : String} (hf : FR own idx ci i false false ft) (ho : y.cls = own) (hk : lay[k]? = some (ci, N, rs)) (hn : narrow ft (.int x) = .int x) (hfit : fits ft (.int x) = true) (hd : decode cc pc = .ok (.putfield idx, 3)) (kk : AW l G y cc nL rt d mc ms Q cells slots (pc + 3) L st lay (up2 I k i x)) : AW l G y cc nL rt d mc ms Q cells slots pc L (.int x :: .ref k :: st) lay I := by
  intro p e R s m args below meth c ls H locs C hR hL hH hS hZ
  obtain ⟨C', T, N', ty, hcf, hi, hm, hr, hfi, hty, -⟩ := hf
  subst hty
  have he := g_ws_at (G := G) (I := I) hk
  have hb : i < (g_tab.getD ci []).length := by rw [hcf.2.2.2.2.1]; exact hi
  rw [g_obj hcf.2.2.2.2.2.2.2.2.2] at he
  show W p l e R s m args below meth c H locs cells slots _ (F0 m pc ls (.int x :: .ref (g_ad G k) :: st.map (g_v G)))
  rw [g_own hH hk]
  refine va_put C.1 C.2.1 C.2.2.2.2.2.1 hcf.2.1 ty hcf.2.2.1 hcf.2.2.2.1 (ho ▸ C.2.2.2.2.1) C.2.2.2.2.2.2.2.2.1 hH.1 (g_ws_D G lay I) hS k he hcf.1 i hi (C.2.2.2.2.2.1 _ hm) (fun _ h => h) hfi (hcf.2.2.1 i hi) hn hfit (by rw [g_fl_len]; exact hb) hd (fun H1 locs1 h1 h2 h3 => ?_)
  rw [g_fl_setI hb hr] at h1
  have e1 := g_ws_set (G := G) (I := I) (I' := up2 I k i x) hk (fun j hj => up2_ne hj)
  rw [g_obj hcf.2.2.2.2.2.2.2.2.2, up2_row] at e1
  rw [e1] at h1
  exact kk p e R s m args below meth c ls H1 locs1 C hR hL ⟨h1, g_low h1 hk, hH.2.2⟩ h3 hZ
theorem A_putFR {k i ci N idx r : Nat} {rs : List (Option Nat)} {ft : FieldType} {own : String} (hf : FR own idx ci i true true ft) (ho : y.cls = own) (hin2 : y.name = "<init>") (hk : lay[k]? = some (ci, N, rs)) (hi2 : i < rs.length) (hn : narrow ft .null = .null) (hfit : ∀ a : Nat, narrow ft (.ref a) = .ref a ∧ fits ft (.ref a) = true) (hd : decode cc pc = .ok (.putfield idx, 3)) (kk : AW l G y cc nL rt d mc ms Q cells slots (pc + 3) L st (lay.set k (ci, N, rs.set i (some r))) I) : AW l G y cc nL rt d mc ms Q cells slots pc L (.ref r :: .ref k :: st) lay I := by
  intro p e R s m args below meth c ls H locs C hR hL hH hS hZ
  obtain ⟨C', T, N', ty, hcf, hi, hm, hr, hfi, hty, hdecl⟩ := hf
  subst hty
  have he := g_ws_at (G := G) (I := I) hk
  have hb : i < (g_tab.getD ci []).length := by rw [hcf.2.2.2.2.1]; exact hi
  have hl := (List.getElem?_eq_some_iff.mp hk).1
  rw [g_obj hcf.2.2.2.2.2.2.2.2.2] at he
  show W p l e R s m args below meth c H locs cells slots _ (F0 m pc ls (.ref (g_ad G r) :: .ref (g_ad G k) :: st.map (g_v G)))
  rw [g_own hH hk]
  refine va_putF C.1 C.2.1 C.2.2.2.2.2.1 hcf.2.1 ty hcf.2.2.1 hcf.2.2.2.1 (ho ▸ C.2.2.2.2.1) C.2.2.2.2.2.2.2.2.1 hH.1 (g_ws_D G lay I) hS k he hcf.1 i hi (C.2.2.2.2.2.1 _ hm) (fun _ h => h) hfi (C.2.2.2.2.2.2.2.1.trans hin2) (hdecl rfl) (hcf.2.2.1 i hi) (hfit _).1 (hfit _).2 (by rw [g_fl_len]; exact hb) hd (fun H1 locs1 h1 h2 h3 => ?_)
  rw [g_fl_setR hb hi2 hr] at h1
  have e1 := g_ws_setL (G := G) (I := I) (dd' := (ci, N, rs.set i (some r))) hk
  rw [g_obj hcf.2.2.2.2.2.2.2.2.2] at e1
  rw [e1] at h1
  exact kk p e R s m args below meth c ls H1 locs1 C hR hL ⟨h1, g_low (k := k) (dd := (ci, N, rs.set i (some r))) h1 (by rw [List.getElem?_set_self hl]), by rw [List.length_set]; exact hH.2.2⟩ h3 (by rw [List.length_set]; exact hZ)
theorem A_iald {k n : Nat} {rs : List (Option Nat)} {i : Int32} (j : Nat) (hi : i = nI j) (hk : lay[k]? = some (9, n, rs)) (hlt : j < n) (hn : n < 2 ^ 31) (hd : decode cc pc = .ok (.iaload, 1)) (kk : AW l G y cc nL rt d mc ms Q cells slots (pc + 1) L (.int (I k j) :: st) lay I) : AW l G y cc nL rt d mc ms Q cells slots pc L (.int i :: .ref k :: st) lay I := by
  intro p e R s m args below meth c ls H locs C hR hL hH hS hZ
  subst hi
  have he := g_ws_at (G := G) (I := I) hk
  rw [g_rowI (by decide)] at he
  show W p l e R s m args below meth c H locs cells slots _ (F0 m pc ls (.int (nI j) :: .ref (g_ad G k) :: st.map (g_v G)))
  rw [g_own hH hk]
  refine va_iald C.1 C.2.1 C.2.2.2.2.2.2.2.2.1 hH.1 k 1 he rfl (vp_in_nI hlt hn) hd ?_
  rw [nI_clamp (Nat.lt_trans hlt hn)]
  exact kk p e R s m args below meth c ls H locs C hR hL hH hS hZ
theorem A_zald {k n : Nat} {rs : List (Option Nat)} {i : Int32} (j : Nat) (hi : i = nI j) (hk : lay[k]? = some (10, n, rs)) (hlt : j < n) (hn : n < 2 ^ 31) (hd : decode cc pc = .ok (.baload, 1)) (kk : AW l G y cc nL rt d mc ms Q cells slots (pc + 1) L (.int (I k j) :: st) lay I) : AW l G y cc nL rt d mc ms Q cells slots pc L (.int i :: .ref k :: st) lay I := by
  intro p e R s m args below meth c ls H locs C hR hL hH hS hZ
  subst hi
  have he := g_ws_at (G := G) (I := I) hk
  rw [g_rowI (by decide)] at he
  show W p l e R s m args below meth c H locs cells slots _ (F0 m pc ls (.int (nI j) :: .ref (g_ad G k) :: st.map (g_v G)))
  rw [g_own hH hk]
  refine va_zald C.1 C.2.1 C.2.2.2.2.2.2.2.2.1 hH.1 k 2 he rfl (vp_in_nI hlt hn) hd ?_
  rw [nI_clamp (Nat.lt_trans hlt hn)]
  exact kk p e R s m args below meth c ls H locs C hR hL hH hS hZ
theorem A_cald {k n : Nat} {rs : List (Option Nat)} {i : Int32} (j : Nat) (hi : i = nI j) (hk : lay[k]? = some (8, n, rs)) (hlt : j < n) (hn : n < 2 ^ 31) (hd : decode cc pc = .ok (.caload, 1)) (kk : AW l G y cc nL rt d mc ms Q cells slots (pc + 1) L (.int (I k j) :: st) lay I) : AW l G y cc nL rt d mc ms Q cells slots pc L (.int i :: .ref k :: st) lay I := by
  intro p e R s m args below meth c ls H locs C hR hL hH hS hZ
  subst hi
  have he := g_ws_at (G := G) (I := I) hk
  rw [g_rowI (by decide)] at he
  show W p l e R s m args below meth c H locs cells slots _ (F0 m pc ls (.int (nI j) :: .ref (g_ad G k) :: st.map (g_v G)))
  rw [g_own hH hk]
  refine va_cald C.1 C.2.1 C.2.2.2.2.2.2.2.2.1 hH.1 k 0 he rfl (vp_in_nI hlt hn) hd ?_
  rw [nI_clamp (Nat.lt_trans hlt hn)]
  exact kk p e R s m args below meth c ls H locs C hR hL hH hS hZ
theorem A_iast {k n : Nat} {rs : List (Option Nat)} {i x : Int32} (j : Nat) (hi : i = nI j) (hk : lay[k]? = some (9, n, rs)) (hlt : j < n) (hn : n < 2 ^ 31) (hd : decode cc pc = .ok (.iastore, 1)) (kk : AW l G y cc nL rt d mc ms Q cells slots (pc + 1) L st lay (up2 I k j x)) : AW l G y cc nL rt d mc ms Q cells slots pc L (.int x :: .int i :: .ref k :: st) lay I := by
  intro p e R s m args below meth c ls H locs C hR hL hH hS hZ
  subst hi
  have he := g_ws_at (G := G) (I := I) hk
  rw [g_rowI (by decide)] at he
  show W p l e R s m args below meth c H locs cells slots _ (F0 m pc ls (.int x :: .int (nI j) :: .ref (g_ad G k) :: st.map (g_v G)))
  rw [g_own hH hk]
  refine va_iast C.1 C.2.1 C.2.2.2.2.2.2.2.2.1 hH.1 (g_ws_D G lay I) hS k 1 he rfl (vp_in_nI hlt hn) hd (fun H1 locs1 h1 h2 h3 => ?_)
  rw [nI_clamp (Nat.lt_trans hlt hn)] at h1
  have e1 := g_ws_set (G := G) (I := I) (I' := up2 I k j x) hk (fun j hj => up2_ne hj)
  rw [g_rowI (by decide), up2_row] at e1
  rw [e1] at h1
  exact kk p e R s m args below meth c ls H1 locs1 C hR hL ⟨h1, g_low h1 hk, hH.2.2⟩ h3 hZ
theorem A_zast {k n : Nat} {rs : List (Option Nat)} {i x : Int32} (j : Nat) (hi : i = nI j) (hk : lay[k]? = some (10, n, rs)) (hlt : j < n) (hn : n < 2 ^ 31) (hx : vp_nar .boolean x = x) (hd : decode cc pc = .ok (.bastore, 1)) (kk : AW l G y cc nL rt d mc ms Q cells slots (pc + 1) L st lay (up2 I k j x)) : AW l G y cc nL rt d mc ms Q cells slots pc L (.int x :: .int i :: .ref k :: st) lay I := by
  intro p e R s m args below meth c ls H locs C hR hL hH hS hZ
  subst hi
  have he := g_ws_at (G := G) (I := I) hk
  rw [g_rowI (by decide)] at he
  show W p l e R s m args below meth c H locs cells slots _ (F0 m pc ls (.int x :: .int (nI j) :: .ref (g_ad G k) :: st.map (g_v G)))
  rw [g_own hH hk]
  refine va_zast C.1 C.2.1 C.2.2.2.2.2.2.2.2.1 hH.1 (g_ws_D G lay I) hS k 2 he rfl (vp_in_nI hlt hn) hd (fun H1 locs1 h1 h2 h3 => ?_)
  rw [nI_clamp (Nat.lt_trans hlt hn)] at h1
  rw [hx] at h1
  have e1 := g_ws_set (G := G) (I := I) (I' := up2 I k j x) hk (fun j hj => up2_ne hj)
  rw [g_rowI (by decide), up2_row] at e1
  rw [e1] at h1
  exact kk p e R s m args below meth c ls H1 locs1 C hR hL ⟨h1, g_low h1 hk, hH.2.2⟩ h3 hZ
theorem A_cast {k n : Nat} {rs : List (Option Nat)} {i x : Int32} (j : Nat) (hi : i = nI j) (hk : lay[k]? = some (8, n, rs)) (hlt : j < n) (hn : n < 2 ^ 31) (hx : vp_nar .char x = x) (hd : decode cc pc = .ok (.castore, 1)) (kk : AW l G y cc nL rt d mc ms Q cells slots (pc + 1) L st lay (up2 I k j x)) : AW l G y cc nL rt d mc ms Q cells slots pc L (.int x :: .int i :: .ref k :: st) lay I := by
  intro p e R s m args below meth c ls H locs C hR hL hH hS hZ
  subst hi
  have he := g_ws_at (G := G) (I := I) hk
  rw [g_rowI (by decide)] at he
  show W p l e R s m args below meth c H locs cells slots _ (F0 m pc ls (.int x :: .int (nI j) :: .ref (g_ad G k) :: st.map (g_v G)))
  rw [g_own hH hk]
  refine va_cast C.1 C.2.1 C.2.2.2.2.2.2.2.2.1 hH.1 (g_ws_D G lay I) hS k 0 he rfl (vp_in_nI hlt hn) hd (fun H1 locs1 h1 h2 h3 => ?_)
  rw [nI_clamp (Nat.lt_trans hlt hn)] at h1
  rw [hx] at h1
  have e1 := g_ws_set (G := G) (I := I) (I' := up2 I k j x) hk (fun j hj => up2_ne hj)
  rw [g_rowI (by decide), up2_row] at e1
  rw [e1] at h1
  exact kk p e R s m args below meth c ls H1 locs1 C hR hL ⟨h1, g_low h1 hk, hH.2.2⟩ h3 hZ
theorem A_aald {k n kd r : Nat} {rs : List (Option Nat)} {i : Int32} (j : Nat) (hi : i = nI j) (hk : lay[k]? = some (kd, n, rs)) (hkd : kd = 11 ∨ kd = 12 ∨ kd = 13) (hlt : j < n) (hn : n < 2 ^ 31) (hr : rs[j]? = some (some r)) (hd : decode cc pc = .ok (.aaload, 1)) (kk : AW l G y cc nL rt d mc ms Q cells slots (pc + 1) L (.ref r :: st) lay I) : AW l G y cc nL rt d mc ms Q cells slots pc L (.int i :: .ref k :: st) lay I := by
  intro p e R s m args below meth c ls H locs C hR hL hH hS hZ
  subst hi
  have he := g_ws_at (G := G) (I := I) hk
  rw [g_rowR hkd] at he
  show W p l e R s m args below meth c H locs cells slots _ (F0 m pc ls (.int (nI j) :: .ref (g_ad G k) :: st.map (g_v G)))
  rw [g_own hH hk]
  have hgo := kk p e R s m args below meth c ls H locs C hR hL hH hS hZ
  have hv : va_rf ((rs.getD (nI j).toNatClampNeg none).map (g_ad G)) = .ref (g_ad G r) := by
    rw [nI_clamp (Nat.lt_trans hlt hn)]
    simp [List.getD_eq_getElem?_getD, hr, va_rf]
  rcases hkd with rfl | rfl | rfl
  · exact va_aldq C.1 C.2.1 C.2.2.2.2.2.2.2.2.1 hH.1 k 3 he rfl (vp_in_nI hlt hn) hd (by rw [hv]; exact hgo)
  · exact va_aldq C.1 C.2.1 C.2.2.2.2.2.2.2.2.1 hH.1 k 4 he rfl (vp_in_nI hlt hn) hd (by rw [hv]; exact hgo)
  · exact va_aldq C.1 C.2.1 C.2.2.2.2.2.2.2.2.1 hH.1 k 5 he rfl (vp_in_nI hlt hn) hd (by rw [hv]; exact hgo)
theorem g_rowR_set {G : Gm} {rs : List (Option Nat)} {j r : Nat} (h : j < rs.length) : va_up (fun i => (rs.getD i none).map (g_ad G)) j (some (g_ad G r)) = fun i => ((rs.set j (some r)).getD i none).map (g_ad G) := by
  funext i
  by_cases hij : i = j
  · subst hij
    simp [va_up, List.getD_eq_getElem?_getD, h]
  · simp [va_up, hij, List.getD_eq_getElem?_getD, List.getElem?_set_ne (Ne.symm hij)]
theorem A_aast {k n kd r ci N : Nat} {rs rr : List (Option Nat)} {i : Int32} (j : Nat) (hi : i = nI j) (hk : lay[k]? = some (kd, n, rs)) (hr : lay[r]? = some (ci, N, rr)) (hkd : kd = 11 ∧ ci = 1 ∨ kd = 12 ∧ ci = 3 ∨ kd = 13 ∧ ci = 4) (hlt : j < n) (hl2 : j < rs.length) (hn : n < 2 ^ 31) (hd : decode cc pc = .ok (.aastore, 1)) (kk : AW l G y cc nL rt d mc ms Q cells slots (pc + 1) L st (lay.set k (kd, n, rs.set j (some r))) I) : AW l G y cc nL rt d mc ms Q cells slots pc L (.ref r :: .int i :: .ref k :: st) lay I := by
  intro p e R s m args below meth c ls H locs C hR hL hH hS hZ
  subst hi
  have hkd' : kd = 11 ∨ kd = 12 ∨ kd = 13 := by rcases hkd with ⟨h, -⟩ | ⟨h, -⟩ | ⟨h, -⟩ <;> simp [h]
  have hci : ci < 8 := by rcases hkd with ⟨-, h⟩ | ⟨-, h⟩ | ⟨-, h⟩ <;> omega
  have he := g_ws_at (G := G) (I := I) hk
  rw [g_rowR hkd'] at he
  have her := g_ws_at (G := G) (I := I) hr
  rw [g_obj hci] at her
  have hl := (List.getElem?_eq_some_iff.mp hk).1
  show W p l e R s m args below meth c H locs cells slots _ (F0 m pc ls (.ref (g_ad G r) :: .int (nI j) :: .ref (g_ad G k) :: st.map (g_v G)))
  have e1 := g_ws_setL (G := G) (I := I) (dd' := (kd, n, rs.set j (some r))) hk
  rw [g_rowR hkd'] at e1
  have go : ∀ (H1 : Heap) (locs1 : List Loc), va_P (g_D G) vwCl ((g_ws G lay I).set k (g_b G + k, .inl (g_cA G kd, n, .inr (.inr (.inr (.inr (va_up (fun i => (rs.getD i none).map (g_ad G)) (nI j).toNatClampNeg (some (g_b G + r))))))))) H1 → va_S (g_A G) s.heap H1 locs1 → W p l e R s m args below meth c H1 locs1 cells slots (MQ below (g_Q G Q) args s mc ms (g_A G)) (F0 m (pc + 1) ls (st.map (g_v G))) := by
    intro H1 locs1 h1 h3
    rw [nI_clamp (Nat.lt_trans hlt hn), ← g_own hH hr, g_rowR_set hl2, e1] at h1
    exact kk p e R s m args below meth c ls H1 locs1 C hR hL ⟨h1, g_low (k := k) (dd := (kd, n, rs.set j (some r))) h1 (by rw [List.getElem?_set_self hl]), by rw [List.length_set]; exact hH.2.2⟩ h3 (by rw [List.length_set]; exact hZ)
  rw [g_own hH hk, g_own hH hr]
  rcases hkd with ⟨rfl, rfl⟩ | ⟨rfl, rfl⟩ | ⟨rfl, rfl⟩
  · exact va_astq C.1 C.2.1 C.2.2.2.2.2.2.2.2.1 hH.1 (g_ws_D G lay I) hS k 3 r 1 (r := (RX2, TX2, 4)) he rfl her rfl (vp_in_nI hlt hn) hd (fun H1 locs1 h1 h2 h3 => go H1 locs1 h1 h3)
  · exact va_astq C.1 C.2.1 C.2.2.2.2.2.2.2.2.1 hH.1 (g_ws_D G lay I) hS k 4 r 3 (r := (RX4, TX4, 3)) he rfl her rfl (vp_in_nI hlt hn) hd (fun H1 locs1 h1 h2 h3 => go H1 locs1 h1 h3)
  · exact va_astq C.1 C.2.1 C.2.2.2.2.2.2.2.2.1 hH.1 (g_ws_D G lay I) hS k 5 r 4 (r := (RX5, TX5, 5)) he rfl her rfl (vp_in_nI hlt hn) hd (fun H1 locs1 h1 h2 h3 => go H1 locs1 h1 h3)
theorem A_alen {k n : Nat} {rs : List (Option Nat)} (hk : lay[k]? = some (9, n, rs)) (hd : decode cc pc = .ok (.arraylength, 1)) (kk : AW l G y cc nL rt d mc ms Q cells slots (pc + 1) L (.int (nI n) :: st) lay I) : AW l G y cc nL rt d mc ms Q cells slots pc L (.ref k :: st) lay I := by
  intro p e R s m args below meth c ls H locs C hR hL hH hS hZ
  have he := g_ws_at (G := G) (I := I) hk
  rw [g_rowI (by decide)] at he
  show W p l e R s m args below meth c H locs cells slots _ (F0 m pc ls (.ref (g_ad G k) :: st.map (g_v G)))
  rw [g_own hH hk]
  exact va_alen C.1 C.2.1 C.2.2.2.2.2.2.2.2.1 hH.1 k 1 he rfl (v := nI n) rfl hd (kk p e R s m args below meth c ls H locs C hR hL hH hS hZ)
theorem g_fresh {G : Gm} {lay : Lay} {I : Hp} {q : Nat} {x : va_E} {H1 : Heap} {N : Nat} (hP : va_P (g_D G) vwCl (g_ws G lay I ++ [(q, x)]) H1) (hD : va_D (g_A G) (g_ws G lay I ++ [(q, x)])) (hN : H1.size ≤ N + 1) (hZ : N = g_b G + lay.length) : q = g_b G + lay.length := by
  have hlast : (g_ws G lay I ++ [(q, x)])[lay.length]? = some (q, x) := by
    rw [List.getElem?_append_right (by rw [g_ws_len]; exact Nat.le_refl _), g_ws_len, Nat.sub_self]
    rfl
  have h1 : q < H1.size := (hP _ _ hlast).lt
  have h2 : g_b G ≤ q := hD.2 _ _ hlast
  by_cases h3 : q < g_b G + lay.length
  · exfalso
    have hk : q - g_b G < lay.length := by omega
    have h4 : (g_ws G lay I ++ [(q, x)])[q - g_b G]? = some (g_b G + (q - g_b G), g_cell G lay[q - g_b G] (I (q - g_b G))) := by
      rw [List.getElem?_append_left (by rw [g_ws_len]; exact hk)]
      exact g_ws_at (List.getElem?_eq_getElem hk)
    have h5 := hD.1 _ _ _ _ h4 hlast (by show g_b G + (q - g_b G) = q; omega)
    omega
  · omega
theorem W_size {p : Program} {l : Launch} {e : Env} {R : Room} {s : State} {m : MethodId} {args : Array Value} {below : List Frame} {meth : Method} {c : Code} {H : Heap} {locs : List Loc} {cells slots : Nat} {Q : State → Prop} {g : JFrame} (h : H.size ≤ s.heap.size + cells → W p l e R s m args below meth c H locs cells slots Q g) : W p l e R s m args below meth c H locs cells slots Q g := fun T hT X => h (by rw [← hT]; exact X.heapSize) T hT X
theorem A_new {ci N idx : Nat} {C : String} {T : u_T} {ty : Nat → FieldType} {own : String} (hcf : CF ci C T N ty) (hc : Cond.classLink own idx C ∈ tb) (ho : y.cls = own) (h1 : cells + 1 ≤ mc) (h2 : slots + N ≤ ms) (hl : lay.length < 99999) (hd : decode cc pc = .ok (.new idx, 3)) (kk : AW l G y cc nL rt d mc ms Q (cells + 1) (slots + N) (pc + 3) L (.ref lay.length :: st) (lay ++ [(ci, N, List.replicate N none)]) (zr I lay.length)) : AW l G y cc nL rt d mc ms Q cells slots pc L st lay I := by
  intro p e R s m args below meth c ls H locs C hR hL hH hS hZ
  have hci := hcf.2.2.2.2.2.2.2.2.2
  have hlen := hcf.2.2.2.2.1
  have ecell := g_obj (G := G) (N := N) (rs := List.replicate N none) (f := fun _ => 0) hci
  refine va_new C.1 C.2.1 C.2.2.2.2.2.1 hcf.2.1 ty hcf.2.2.1 (ho ▸ C.2.2.2.2.1) (C.2.2.2.2.2.1 _ hc) (C.2.2.2.2.2.1 _ hcf.2.2.2.2.2.1) (C.2.2.2.2.2.1 _ hcf.2.2.2.2.2.2.1) C.2.2.2.2.2.2.2.2.1 hH.1 (g_ws_D G lay I) hS (fun q h => by show g_b G ≤ q; have := hZ.2; omega) hcf.1 (fs := g_fl G (g_tab.getD ci []) (List.replicate N none) (fun _ => 0)) (fun j hj => ?_) (Nat.le_trans h1 hR.2.2.1) (Nat.le_trans h2 hR.2.2.2) hd (fun q H1 g1 g2 g3 => W_size fun g4 => ?_)
  · rw [hcf.2.2.2.2.2.2.2.2.1 j hj]
    have e1 : vp_V (g_fl G (g_tab.getD ci []) (List.replicate N none) (fun _ => 0)) j = if (g_tab.getD ci []).getD j false then va_rf (((List.replicate N none).getD j none).map (g_ad G)) else .int 0 := by
      unfold vp_V
      rw [List.getD_eq_getElem?_getD (l := g_fl G (g_tab.getD ci []) (List.replicate N none) (fun _ => 0)), g_fl_at (by rw [hlen]; exact hj)]
      rfl
    rw [e1]
    cases (g_tab.getD ci []).getD j false <;> simp [List.getD_eq_getElem?_getD, List.getElem?_replicate, hj, va_rf]
  · have hq := g_fresh g1 g2 (by have := hZ.1; omega) hZ.1
    subst hq
    rw [← ecell, g_ws_push] at g1
    have hk : (lay ++ [(ci, N, List.replicate N none)])[lay.length]? = some (ci, N, List.replicate N none) := by simp
    have hgo := kk p e R s m args below meth c ls H1 locs C hR hL ⟨g1, g_low g1 hk, by simp; omega⟩ g3 ⟨by have := hZ.1; simp; omega, hZ.2⟩
    have e : g_v G (.ref lay.length) = .ref (g_b G + lay.length) := by show Value.ref (g_ad G lay.length) = _; rw [g_ad_own (by omega)]
    rw [List.map_cons, e] at hgo
    exact hgo
theorem A_newI {n : Int32} (N : Nat) (hn : n = nI N) (hN : N < 65536) (h1 : cells + 1 ≤ mc) (h2 : slots + N ≤ ms) (hl : lay.length < 99999) (hd : decode cc pc = .ok (.newarray .int, 2)) (kk : AW l G y cc nL rt d mc ms Q (cells + 1) (slots + N) (pc + 2) L (.ref lay.length :: st) (lay ++ [(9, N, [])]) (zr I lay.length)) : AW l G y cc nL rt d mc ms Q cells slots pc L (.int n :: st) lay I := by
  intro p e R s m args below meth c ls H locs C hR hL hH hS hZ
  subst hn
  have ecell := g_rowI (G := G) (kd := 9) (n := N) (rs := []) (f := fun _ => 0) (by decide)
  refine va_newa (atype := .int) (ty := .int) C.1 C.2.1 (C.2.2.2.2.2.1 _ ka_int) rfl C.2.2.2.2.2.2.2.2.1 hH.1 (g_ws_D G lay I) hS (fun q h => by show g_b G ≤ q; have := hZ.2; omega) (a0 := (N, .inl (fun _ => 0))) (N' := N) (fun cA => rfl) (nI_pos (by omega)) (nI_clamp (by omega)) (by show N * _ ≤ _; simp [componentBytes]; omega) (Nat.le_trans h1 hR.2.2.1) (Nat.le_trans h2 hR.2.2.2) hd (fun q cA H1 g0 g1 g2 g3 => W_size fun g4 => ?_)
  have hq := g_fresh g1 g2 (by have := hZ.1; omega) hZ.1
  subst hq
  have hA : cA = g_cA G 9 := by
    have a1 : s.vm.findClass ("[" ++ (.int : FieldType).toString) = some cA := (g0.2 6 (cA, .int) rfl).2
    have a2 : s.vm.findClass ("[" ++ (.int : FieldType).toString) = some (g_cA G 9) := (C.2.2.2.2.2.2.2.2.1.2 1 (g_cA G 9, .int) rfl).2
    exact Option.some.inj (a1.symm.trans a2)
  subst hA
  rw [← ecell, g_ws_push] at g1
  have hk : (lay ++ [(9, N, ([] : List (Option Nat)))])[lay.length]? = some (9, N, []) := by simp
  have hgo := kk p e R s m args below meth c ls H1 locs C hR hL ⟨g1, g_low g1 hk, by simp; omega⟩ g3 ⟨by have := hZ.1; simp; omega, hZ.2⟩
  have e : g_v G (.ref lay.length) = .ref (g_b G + lay.length) := by show Value.ref (g_ad G lay.length) = _; rw [g_ad_own (by omega)]
  rw [List.map_cons, e] at hgo
  exact hgo
theorem A_newC {n : Int32} (N : Nat) (hn : n = nI N) (hN : N < 65536) (h1 : cells + 1 ≤ mc) (h2 : slots + N ≤ ms) (hl : lay.length < 99999) (hd : decode cc pc = .ok (.newarray .char, 2)) (kk : AW l G y cc nL rt d mc ms Q (cells + 1) (slots + N) (pc + 2) L (.ref lay.length :: st) (lay ++ [(8, N, [])]) (zr I lay.length)) : AW l G y cc nL rt d mc ms Q cells slots pc L (.int n :: st) lay I := by
  intro p e R s m args below meth c ls H locs C hR hL hH hS hZ
  subst hn
  have ecell := g_rowI (G := G) (kd := 8) (n := N) (rs := []) (f := fun _ => 0) (by decide)
  refine va_newa (atype := .char) (ty := .char) C.1 C.2.1 (C.2.2.2.2.2.1 _ ka_char) rfl C.2.2.2.2.2.2.2.2.1 hH.1 (g_ws_D G lay I) hS (fun q h => by show g_b G ≤ q; have := hZ.2; omega) (a0 := (N, .inl (fun _ => 0))) (N' := N) (fun cA => rfl) (nI_pos (by omega)) (nI_clamp (by omega)) (by show N * _ ≤ _; simp [componentBytes]; omega) (Nat.le_trans h1 hR.2.2.1) (Nat.le_trans h2 hR.2.2.2) hd (fun q cA H1 g0 g1 g2 g3 => W_size fun g4 => ?_)
  have hq := g_fresh g1 g2 (by have := hZ.1; omega) hZ.1
  subst hq
  have hA : cA = g_cA G 8 := by
    have a1 : s.vm.findClass ("[" ++ (.char : FieldType).toString) = some cA := (g0.2 6 (cA, .char) rfl).2
    have a2 : s.vm.findClass ("[" ++ (.char : FieldType).toString) = some (g_cA G 8) := (C.2.2.2.2.2.2.2.2.1.2 0 (g_cA G 8, .char) rfl).2
    exact Option.some.inj (a1.symm.trans a2)
  subst hA
  rw [← ecell, g_ws_push] at g1
  have hk : (lay ++ [(8, N, ([] : List (Option Nat)))])[lay.length]? = some (8, N, []) := by simp
  have hgo := kk p e R s m args below meth c ls H1 locs C hR hL ⟨g1, g_low g1 hk, by simp; omega⟩ g3 ⟨by have := hZ.1; simp; omega, hZ.2⟩
  have e : g_v G (.ref lay.length) = .ref (g_b G + lay.length) := by show Value.ref (g_ad G lay.length) = _; rw [g_ad_own (by omega)]
  rw [List.map_cons, e] at hgo
  exact hgo
theorem A_newZ {n : Int32} (N : Nat) (hn : n = nI N) (hN : N < 65536) (h1 : cells + 1 ≤ mc) (h2 : slots + N ≤ ms) (hl : lay.length < 99999) (hd : decode cc pc = .ok (.newarray .boolean, 2)) (kk : AW l G y cc nL rt d mc ms Q (cells + 1) (slots + N) (pc + 2) L (.ref lay.length :: st) (lay ++ [(10, N, [])]) (zr I lay.length)) : AW l G y cc nL rt d mc ms Q cells slots pc L (.int n :: st) lay I := by
  intro p e R s m args below meth c ls H locs C hR hL hH hS hZ
  subst hn
  have ecell := g_rowI (G := G) (kd := 10) (n := N) (rs := []) (f := fun _ => 0) (by decide)
  refine va_newa (atype := .boolean) (ty := .boolean) C.1 C.2.1 (C.2.2.2.2.2.1 _ ka_boolean) rfl C.2.2.2.2.2.2.2.2.1 hH.1 (g_ws_D G lay I) hS (fun q h => by show g_b G ≤ q; have := hZ.2; omega) (a0 := (N, .inl (fun _ => 0))) (N' := N) (fun cA => rfl) (nI_pos (by omega)) (nI_clamp (by omega)) (by show N * _ ≤ _; simp [componentBytes]; omega) (Nat.le_trans h1 hR.2.2.1) (Nat.le_trans h2 hR.2.2.2) hd (fun q cA H1 g0 g1 g2 g3 => W_size fun g4 => ?_)
  have hq := g_fresh g1 g2 (by have := hZ.1; omega) hZ.1
  subst hq
  have hA : cA = g_cA G 10 := by
    have a1 : s.vm.findClass ("[" ++ (.boolean : FieldType).toString) = some cA := (g0.2 6 (cA, .boolean) rfl).2
    have a2 : s.vm.findClass ("[" ++ (.boolean : FieldType).toString) = some (g_cA G 10) := (C.2.2.2.2.2.2.2.2.1.2 2 (g_cA G 10, .boolean) rfl).2
    exact Option.some.inj (a1.symm.trans a2)
  subst hA
  rw [← ecell, g_ws_push] at g1
  have hk : (lay ++ [(10, N, ([] : List (Option Nat)))])[lay.length]? = some (10, N, []) := by simp
  have hgo := kk p e R s m args below meth c ls H1 locs C hR hL ⟨g1, g_low g1 hk, by simp; omega⟩ g3 ⟨by have := hZ.1; simp; omega, hZ.2⟩
  have e : g_v G (.ref lay.length) = .ref (g_b G + lay.length) := by show Value.ref (g_ad G lay.length) = _; rw [g_ad_own (by omega)]
  rw [List.map_cons, e] at hgo
  exact hgo
theorem A_newq {n : Int32} (N : Nat) (kd idx : Nat) (Cn own : String) (hkd : kd = 11 ∧ Cn = RX2 ∨ kd = 12 ∧ Cn = RX4 ∨ kd = 13 ∧ Cn = RX5) (hn : n = nI N) (hN : N < 65536) (hc : Cond.classLink own idx Cn ∈ tb) (ho : y.cls = own) (h1 : cells + 1 ≤ mc) (h2 : slots + N ≤ ms) (hl : lay.length < 99999) (hd : decode cc pc = .ok (.anewarray idx, 3)) (kk : AW l G y cc nL rt d mc ms Q (cells + 1) (slots + N) (pc + 3) L (.ref lay.length :: st) (lay ++ [(kd, N, List.replicate N none)]) (zr I lay.length)) : AW l G y cc nL rt d mc ms Q cells slots pc L (.int n :: st) lay I := by
  intro p e R s m args below meth c ls H locs C hR hL hH hS hZ
  subst hn
  have hkd' : kd = 11 ∨ kd = 12 ∨ kd = 13 := by rcases hkd with ⟨h, -⟩ | ⟨h, -⟩ | ⟨h, -⟩ <;> simp [h]
  have ecell := g_rowR (G := G) (kd := kd) (n := N) (rs := List.replicate N none) (f := fun _ => 0) hkd'
  have hfun : (fun i => ((List.replicate N (none : Option Nat)).getD i none).map (g_ad G)) = fun _ => none := by
    funext i
    by_cases hi : i < N <;> simp [List.getD_eq_getElem?_getD, List.getElem?_replicate, hi]
  rw [hfun] at ecell
  have hAO : va_AO Cn s := by 
    rcases hkd with ⟨-, rfl⟩ | ⟨-, rfl⟩ | ⟨-, rfl⟩
    · exact C.2.2.2.2.2.2.2.2.2.1.1
    · exact C.2.2.2.2.2.2.2.2.2.1.2.1
    · exact C.2.2.2.2.2.2.2.2.2.1.2.2
  have hRA : va_RA s (g_cA G kd) (.object Cn) := by 
    rcases hkd with ⟨rfl, rfl⟩ | ⟨rfl, rfl⟩ | ⟨rfl, rfl⟩
    · exact (C.2.2.2.2.2.2.2.2.1.2 3 _ rfl).2
    · exact (C.2.2.2.2.2.2.2.2.1.2 4 _ rfl).2
    · exact (C.2.2.2.2.2.2.2.2.1.2 5 _ rfl).2
  refine va_newq C.1 C.2.1 (ho ▸ C.2.2.2.2.1) (C.2.2.2.2.2.1 _ hc) hAO C.2.2.2.2.2.2.2.2.1 hH.1 (g_ws_D G lay I) hS (fun q h => by show g_b G ≤ q; have := hZ.2; omega) (N' := N) (nI_pos (by omega)) (nI_clamp (by omega)) (by omega) (Nat.le_trans h1 hR.2.2.1) (Nat.le_trans h2 hR.2.2.2) hd (fun q cA H1 g0 g1 g2 g3 => W_size fun g4 => ?_)
  have hq := g_fresh g1 g2 (by have := hZ.1; omega) hZ.1
  subst hq
  have hA : cA = g_cA G kd := by
    obtain ⟨_, _, -, -, -, a1⟩ := (g0.2 6 (cA, .object Cn) rfl).2
    obtain ⟨_, _, -, -, -, a2⟩ := hRA
    exact Option.some.inj (a1.symm.trans a2)
  subst hA
  rw [← ecell, g_ws_push] at g1
  have hk : (lay ++ [(kd, N, List.replicate N (none : Option Nat))])[lay.length]? = some (kd, N, List.replicate N none) := by simp
  have hgo := kk p e R s m args below meth c ls H1 locs C hR hL ⟨g1, g_low g1 hk, by simp; omega⟩ g3 ⟨by have := hZ.1; simp; omega, hZ.2⟩
  have e : g_v G (.ref lay.length) = .ref (g_b G + lay.length) := by show Value.ref (g_ad G lay.length) = _; rw [g_ad_own (by omega)]
  rw [List.map_cons, e] at hgo
  exact hgo
theorem A_objInit {own : String} {idx k : Nat} (hl : Cond.methodLink own idx objectInit ∈ tb) (ho : y.cls = own) (h1 : 1 ≤ d) (hst : (st.map fun v => v.category).sum ≤ 8) (hd : decode cc pc = .ok (.invokespecial idx, 3)) (kk : AW l G y cc nL rt d mc ms Q cells slots (pc + 3) L st lay I) : AW l G y cc nL rt d mc ms Q cells slots pc L (.ref k :: st) lay I := by
  intro p e R s m args below meth c ls H locs C hR hL hH hS hZ
  have hcat : ((st.map (g_v G)).map fun v => v.category).sum ≤ 8 := by
    rw [List.map_map]
    have e : ((fun v : Value => v.category) ∘ g_v G) = fun v => v.category := by funext v; exact g_v_cat G v
    rw [e]
    exact hst
  have hgo := kk p e R s m args below meth c ls H locs C hR hL hH hS hZ
  exact W.objInit C.1 C.2.1 (ho ▸ C.2.2.2.2.1) (C.2.2.2.2.2.1 _ hl) (C.2.2.2.2.2.1 _ ob_i) (C.2.2.2.2.2.1 _ ob_c) rfl (by show ls.size = _; rw [hL.1, C.2.2.2.1]) rfl hd (by omega) (by show 2 * 0 + _ + 12 ≤ _; omega) hgo
theorem g_call {p : Program} {e : Env} {R : Room} {s : State} {m : MethodId} {args : Array Value} {below : List Frame} {meth : Method} {c : Code} {H H0 : Heap} {locs : List Loc} {mc' ms' : Nat} {ls : Array Slot} {rest st0 : List Value} {a : Array Value} {Qk : Pst} {X : State → Prop} (hr : va_Run p l e R s m args below meth c H locs cells slots mc' ms' (F0 m pc ls st0) rest (g_Q G Qk a) (g_A G)) (hS : va_S (g_A G) H0 H locs)
    (kk : ∀ (v : Option Value) (lay' : Lay) (I' : Hp) (H1 : Heap) (locs1 : List Loc), Qk v lay' I' → g_R G lay' I' H1 → va_S (g_A G) H0 H1 locs1 → W p l e R s m args below meth c H1 locs1 (cells + mc') (slots + ms') X (F0 m (pc + 3) ls ((v.map (g_v G)).toList ++ rest))) : W p l e R s m args below meth c H locs cells slots X (F0 m pc ls st0) := by
  intro T hT X0
  obtain ⟨v, st₀, t, T', L', h0, X', hL, e1, e2, ⟨⟨w, lay', I', hv, hq, hg⟩, hz, hk⟩, stp⟩ := hr T hT X0
  cases hv
  rw [h0] at hz hk
  obtain ⟨t2, a1, b1⟩ := kk w lay' I' T'.heap (locs ++ L') hq (by rw [e1]; exact hg)
    ⟨Nat.le_trans hS.1 (by rw [e1]; exact hz), fun q h1 h2 => by rw [e1, hk q (Nat.lt_of_lt_of_le h1 hS.1) h2]; exact hS.2.1 q h1 h2, fun q hq => by
      rcases List.mem_append.mp hq with h | h
      · exact hS.2.2 q h
      · exact hL q h⟩ T' rfl X'
  exact ⟨t2, stp t2 a1, b1⟩
theorem g_pre {s : State} {H : Heap} {locs : List Loc} {As : List Value} (hE : g_E G s s.heap) (hH : g_R G lay I H) (hS : va_S (g_A G) s.heap H locs) (hz : H.size = g_b G + lay.length) : PreS s H (va_Pc (As.map (g_v G)) (fun U => g_R G lay I U.heap ∧ U.heap.size = g_b G + lay.length ∧ g_E G U U.heap)) (As.map (g_v G)) :=
  ⟨fun a U g mk q => ⟨q.1, q.2.1, q.2.2.1, g_E.same (u := U) rfl q.2.2.2⟩, fun U hU hW => ⟨rfl, by rw [hU]; exact hH, by rw [hU]; exact hz, g_E.warm hW (by rw [hU]; exact hS.2.1) hE⟩⟩
theorem g_good {y' : MethodName} {cc' : ByteArray} {nL' : Nat} {rt' : Option FieldType} (h : Cond.code y' cc' nL' rt' ∈ tb) : GoodIn tb (.code y' cc' nL' rt' :: tb) := by
  intro w hw
  have hm : w ∈ tb := by rcases List.mem_cons.mp hw with rfl | h1 <;> assumption
  exact ⟨hm, good_of_word (List.mem_filter.mp hm).2⟩
theorem g_cat {st : List Value} (hst : (st.map fun v => v.category).sum ≤ 8) : ((st.map (g_v G)).map fun v => v.category).sum ≤ 8 := by
  rw [List.map_map]
  have e : ((fun v : Value => v.category) ∘ g_v G) = fun v => v.category := by funext v; exact g_v_cat G v
  rw [e]
  exact hst
theorem A_callV {y' : MethodName} {cc' : ByteArray} {nL' : Nat} {rt' : Option FieldType} {d' mc' ms' n idx : Nat} {own : String} {Qk : Pst} {stk : List Value} {As : List Value} {k : Nat} {ci N : Nat} {rs : List (Option Nat)} (hM : Meth l G y' cc' nL' rt' d' mc' ms' (.ref k :: As) lay I Qk) (hm : MV y' cc' nL' rt' n) (hl : Cond.methodLink own idx y' ∈ tb) (ho : y.cls = own) (hk : lay[k]? = some (ci, N, rs)) (hcl : (vwCl.map (fun q => q.1))[ci]? = some y'.cls) (hci : ci < 8) (hn : As.length = n) (hstk : stk = As.reverse ++ .ref k :: st) (hst : (st.map fun v => v.category).sum ≤ 8) (h1 : d' + 1 ≤ d) (h2 : cells + mc' ≤ mc) (h3 : slots + ms' ≤ ms) (hd : decode cc pc = .ok (.invokevirtual idx, 3)) (hlen : ∀ (v : Option Value) (lay' : Lay) (I' : Hp), Qk v lay' I' → lay'.length = lay.length + mc') (kk : ∀ (v : Option Value) (lay' : Lay) (I' : Hp), Qk v lay' I' → AW l G y cc nL rt d mc ms Q (cells + mc') (slots + ms') (pc + 3) L (v.toList ++ st) lay' I') : AW l G y cc nL rt d mc ms Q cells slots pc L stk lay I := by
  intro p e R s m args below meth c ls H locs C hR hL hH hS hZ
  refine W_size fun hsz => ?_
  have hz : H.size = g_b G + lay.length := by have h1 := hZ.1; have h2 := hH.2.1; omega
  have he := g_ws_at (G := G) (I := I) hk
  rw [g_obj hci] at he
  obtain ⟨m1, m2, m3, m4, m5, m6, m7, m8⟩ := hm
  have hp := g_pre (As := .ref k :: As) C.2.2.2.2.2.2.2.2 hH hS hz
  rw [List.getElem?_map] at hcl
  obtain ⟨q, hq, hq1⟩ := Option.map_eq_some_iff.mp hcl
  have hrec := va_recv C.2.2.2.2.2.2.2.2.1 hH.1 hq he
  rw [hq1, ← g_own hH hk] at hrec
  subst hstk
  refine g_call (va_runV (As := As.map (g_v G)) (rest := st.map (g_v G)) (C := y'.cls) (b := g_ad G k) ⟨C.1, C.2.1, C.2.2.2.1, ho ▸ C.2.2.2.2.1, C.2.2.2.2.2.1⟩ hM ⟨callB_of n C.2.2.2.2.2.1 (g_good m4) rfl rfl rfl (C.2.2.2.2.2.1 _ m3) (C.2.2.2.2.2.1 _ hl) ⟨m5, m6, m7⟩ ⟨by show d' + 1 ≤ _; omega, by show 8 + (nL' + 11) + 60 * d' ≤ _; omega⟩, C.2.2.2.2.2.1 _ m1, C.2.2.2.2.2.1 _ m2⟩ ⟨hp.1, hrec, hp.2⟩ rfl (by rw [List.length_map]; exact hn) hL.1 (by show List.map (g_v G) (As.reverse ++ .ref k :: st) = _; rw [List.map_append, List.map_reverse]; rfl) (lv_room (g_cat hst)) hd ⟨by omega, by omega⟩) hS (fun v lay' I' H1 locs1 q1 q2 q3 => ?_)
  have hgo := kk v lay' I' q1 p e R s m args below meth c ls H1 locs1 C hR hL q2 q3 ⟨by have h1 := hZ.1; have h2 := hlen v lay' I' q1; omega, hZ.2⟩
  rw [List.map_append] at hgo
  cases v <;> exact hgo
theorem A_callS {y' : MethodName} {cc' : ByteArray} {nL' : Nat} {rt' : Option FieldType} {d' mc' ms' n idx : Nat} {own : String} {Qk : Pst} {stk : List Value} {As : List Value} (hM : Meth l G y' cc' nL' rt' d' mc' ms' As lay I Qk) (hm : MS y' cc' nL' rt' n) (hl : Cond.methodLink own idx y' ∈ tb) (ho : y.cls = own) (hn : As.length = n) (hstk : stk = As.reverse ++ st) (hst : (st.map fun v => v.category).sum ≤ 8) (h1 : d' + 1 ≤ d) (h2 : cells + mc' ≤ mc) (h3 : slots + ms' ≤ ms) (hd : decode cc pc = .ok (.invokestatic idx, 3)) (hlen : ∀ (v : Option Value) (lay' : Lay) (I' : Hp), Qk v lay' I' → lay'.length = lay.length + mc') (kk : ∀ (v : Option Value) (lay' : Lay) (I' : Hp), Qk v lay' I' → AW l G y cc nL rt d mc ms Q (cells + mc') (slots + ms') (pc + 3) L (v.toList ++ st) lay' I') : AW l G y cc nL rt d mc ms Q cells slots pc L stk lay I := by
  intro p e R s m args below meth c ls H locs C hR hL hH hS hZ
  refine W_size fun hsz => ?_
  have hz : H.size = g_b G + lay.length := by have h1 := hZ.1; have h2 := hH.2.1; omega
  obtain ⟨m1, m3, m4, m5, m6, m7, m8⟩ := hm
  have hp := g_pre (As := As) C.2.2.2.2.2.2.2.2 hH hS hz
  subst hstk
  refine g_call (va_runS (As := As.map (g_v G)) (rest := st.map (g_v G)) ⟨C.1, C.2.1, C.2.2.2.1, ho ▸ C.2.2.2.2.1, C.2.2.2.2.2.1⟩ hM ⟨callB_of n C.2.2.2.2.2.1 (g_good m4) rfl rfl rfl (C.2.2.2.2.2.1 _ m3) (C.2.2.2.2.2.1 _ hl) ⟨m5, m6, m7⟩ ⟨by show d' + 1 ≤ _; omega, by show 8 + (nL' + 11) + 60 * d' ≤ _; omega⟩, C.2.2.2.2.2.1 _ m1⟩ hp rfl (by rw [List.length_map]; exact hn) hL.1 (by show List.map (g_v G) (As.reverse ++ st) = _; rw [List.map_append, List.map_reverse]) (lv_room (g_cat hst)) hd ⟨by omega, by omega⟩) hS (fun v lay' I' H1 locs1 q1 q2 q3 => ?_)
  have hgo := kk v lay' I' q1 p e R s m args below meth c ls H1 locs1 C hR hL q2 q3 ⟨by have h1 := hZ.1; have h2 := hlen v lay' I' q1; omega, hZ.2⟩
  rw [List.map_append] at hgo
  cases v <;> exact hgo
theorem A_callI {y' : MethodName} {cc' : ByteArray} {nL' : Nat} {d' mc' ms' n idx : Nat} {own : String} {Qk : Pst} {stk : List Value} {As : List Value} {k : Nat} (hM : Meth l G y' cc' nL' none d' mc' ms' (.ref k :: As) lay I Qk) (hm : MI y' cc' nL' n) (hl : Cond.methodLink own idx y' ∈ tb) (ho : y.cls = own) (hn : As.length = n) (hstk : stk = As.reverse ++ .ref k :: st) (hst : (st.map fun v => v.category).sum ≤ 8) (h1 : d' + 1 ≤ d) (h2 : cells + mc' ≤ mc) (h3 : slots + ms' ≤ ms) (hd : decode cc pc = .ok (.invokespecial idx, 3)) (hlen : ∀ (v : Option Value) (lay' : Lay) (I' : Hp), Qk v lay' I' → lay'.length = lay.length + mc') (kk : ∀ (v : Option Value) (lay' : Lay) (I' : Hp), Qk v lay' I' → AW l G y cc nL rt d mc ms Q (cells + mc') (slots + ms') (pc + 3) L (v.toList ++ st) lay' I') : AW l G y cc nL rt d mc ms Q cells slots pc L stk lay I := by
  intro p e R s m args below meth c ls H locs C hR hL hH hS hZ
  refine W_size fun hsz => ?_
  have hz : H.size = g_b G + lay.length := by have h1 := hZ.1; have h2 := hH.2.1; omega
  obtain ⟨m1, m2, m3, m4, m5, m6, m7, m8⟩ := hm
  have hp := g_pre (As := .ref k :: As) C.2.2.2.2.2.2.2.2 hH hS hz
  subst hstk
  refine g_call (va_runI (As := As.map (g_v G)) (rest := st.map (g_v G)) (b := g_ad G k) ⟨C.1, C.2.1, C.2.2.2.1, ho ▸ C.2.2.2.2.1, C.2.2.2.2.2.1⟩ hM ⟨callB_of n C.2.2.2.2.2.1 (g_good m4) rfl rfl rfl (C.2.2.2.2.2.1 _ m3) (C.2.2.2.2.2.1 _ hl) ⟨m5, m6, m7⟩ ⟨by show d' + 1 ≤ _; omega, by show 8 + (nL' + 11) + 60 * d' ≤ _; omega⟩, m2, C.2.2.2.2.2.1 _ m1⟩ hp rfl (by rw [List.length_map]; exact hn) hL.1 (by show List.map (g_v G) (As.reverse ++ .ref k :: st) = _; rw [List.map_append, List.map_reverse]; rfl) (lv_room (g_cat hst)) hd ⟨by omega, by omega⟩) hS (fun v lay' I' H1 locs1 q1 q2 q3 => ?_)
  have hgo := kk v lay' I' q1 p e R s m args below meth c ls H1 locs1 C hR hL q2 q3 ⟨by have h1 := hZ.1; have h2 := hlen v lay' I' q1; omega, hZ.2⟩
  rw [List.map_append] at hgo
  cases v <;> exact hgo
theorem A_callN {cc' : ByteArray} {nL' : Nat} {rt' : Option FieldType} {d' mc' ms' n idx : Nat} {own : String} {Qk : Pst} {stk : List Value} {As : List Value} (hM : Meth l G y_held cc' nL' rt' d' mc' ms' As lay I Qk) (hm : MS y_held cc' nL' rt' n) (ho : y.cls = own) (hl : own = RX0 ∧ idx = 117 ∨ own = RX1 ∧ idx = 33 ∨ own = RX4 ∧ idx = 19) (hn : As.length = n) (hstk : stk = As.reverse ++ st) (hst : (st.map fun v => v.category).sum ≤ 8) (h1 : d' + 1 ≤ d) (h2 : cells + mc' ≤ mc) (h3 : slots + ms' ≤ ms) (hd : decode cc pc = .ok (.invokestatic idx, 3)) (hlen : ∀ (v : Option Value) (lay' : Lay) (I' : Hp), Qk v lay' I' → lay'.length = lay.length + mc') (kk : ∀ (v : Option Value) (lay' : Lay) (I' : Hp), Qk v lay' I' → AW l G y cc nL rt d mc ms Q (cells + mc') (slots + ms') (pc + 3) L (v.toList ++ st) lay' I') : AW l G y cc nL rt d mc ms Q cells slots pc L stk lay I := by
  intro p e R s m args below meth c ls H locs C hR hL hH hS hZ
  refine W_size fun hsz => ?_
  have hz : H.size = g_b G + lay.length := by have h1 := hZ.1; have h2 := hH.2.1; omega
  obtain ⟨m1, m3, m4, m5, m6, m7, m8⟩ := hm
  have hp := g_pre (As := As) C.2.2.2.2.2.2.2.2 hH hS hz
  subst hstk
  have hN : va_Nw (.methodLinkNest own idx y_held "PalmJury") s := by
    rcases hl with ⟨rfl, rfl⟩ | ⟨rfl, rfl⟩ | ⟨rfl, rfl⟩
    · exact C.2.2.2.2.2.2.2.2.2.2.1.1
    · exact C.2.2.2.2.2.2.2.2.2.2.1.2.1
    · exact C.2.2.2.2.2.2.2.2.2.2.1.2.2
  refine g_call (va_runSN (As := As.map (g_v G)) (rest := st.map (g_v G)) ⟨C.1, C.2.1, C.2.2.2.1, ho ▸ C.2.2.2.2.1, C.2.2.2.2.2.1⟩ hM ⟨va_cnB n C.2.2.2.2.2.1 (g_good m4) rfl rfl rfl hN (C.2.2.2.2.2.1 _ m3) ⟨m5, m6, m7⟩ ⟨by show d' + 1 ≤ _; omega, by show 8 + (nL' + 11) + 60 * d' ≤ _; omega⟩, C.2.2.2.2.2.1 _ m1, trivial⟩ hp rfl (by rw [List.length_map]; exact hn) hL.1 (by show List.map (g_v G) (As.reverse ++ st) = _; rw [List.map_append, List.map_reverse]) (lv_room (g_cat hst)) hd ⟨by omega, by omega⟩) hS (fun v lay' I' H1 locs1 q1 q2 q3 => ?_)
  have hgo := kk v lay' I' q1 p e R s m args below meth c ls H1 locs1 C hR hL q2 q3 ⟨by have h1 := hZ.1; have h2 := hlen v lay' I' q1; omega, hZ.2⟩
  rw [List.map_append] at hgo
  cases v <;> exact hgo
theorem A_copy {own : String} {idx k0 k1 n0 n1 : Nat} {r0 r1 : List (Option Nat)} {sp dp n : Int32} (a b q : Nat) (hl : Cond.methodLink own idx arraycopyName ∈ tb) (ho : y.cls = own) (hk0 : lay[k0]? = some (9, n0, r0)) (hk1 : lay[k1]? = some (9, n1, r1)) (ha : sp = nI a) (hb : dp = nI b) (hq : n = nI q) (h0 : a + q ≤ n0) (h1 : b + q ≤ n1) (hb0 : n0 < 2 ^ 31) (hb1 : n1 < 2 ^ 31) (h2 : 1 ≤ d) (hst : (st.map fun v => v.category).sum ≤ 8) (hd : decode cc pc = .ok (.invokestatic idx, 3)) (kk : AW l G y cc nL rt d mc ms Q cells slots (pc + 3) L st lay (fun j => if j = k1 then va_cpy (I k0) (I k1) a b q else I j)) : AW l G y cc nL rt d mc ms Q cells slots pc L (.int n :: .int dp :: .ref k1 :: .int sp :: .ref k0 :: st) lay I := by
  intro p e R s m args below meth c ls H locs C hR hL hH hS hZ
  subst ha; subst hb; subst hq
  have he0 := g_ws_at (G := G) (I := I) hk0
  rw [g_rowI (by decide)] at he0
  have he1 := g_ws_at (G := G) (I := I) hk1
  rw [g_rowI (by decide)] at he1
  show W p l e R s m args below meth c H locs cells slots _ (F0 m pc ls (.int (nI q) :: .int (nI b) :: .ref (g_ad G k1) :: .int (nI a) :: .ref (g_ad G k0) :: st.map (g_v G)))
  rw [g_own hH hk0, g_own hH hk1]
  have hcat := g_cat (G := G) hst
  have hnat : nativeFrameWords "java/lang/System" "arraycopy" 5 + 11 ≤ 50 := by decide +kernel
  have c1 : (nI a).toNatClampNeg = a := nI_clamp (by omega)
  have c2 : (nI b).toNatClampNeg = b := nI_clamp (by omega)
  have c3 : (nI q).toNatClampNeg = q := nI_clamp (by omega)
  refine va_copyi (sp := nI a) (dp := nI b) (n := nI q) C.1 C.2.1 (by rw [C.2.2.2.1, hL.1]) (ho ▸ C.2.2.2.2.1) (C.2.2.2.2.2.1 _ hl) (C.2.2.2.2.2.1 _ ac_n) (C.2.2.2.2.2.1 _ ac_s) (C.2.2.2.2.2.1 _ ac_i) C.2.2.2.2.2.2.2.2.1 hH.1 (g_ws_D G lay I) hS k0 k1 1 1 (ty := .int) he0 he1 rfl rfl rfl (nI_pos (by omega)) (nI_pos (by omega)) (nI_pos (by omega)) (by rw [c1, c3]; exact h0) (by rw [c2, c3]; exact h1) (fun i _ => rfl) (by omega) (by omega) hd (fun H1 locs1 g1 g2 g3 => ?_)
  rw [c1, c2, c3] at g1
  have e1 := g_ws_set (G := G) (I := I) (I' := fun j => if j = k1 then va_cpy (I k0) (I k1) a b q else I j) hk1 (fun j hj => by simp [hj])
  rw [g_rowI (by decide)] at e1
  simp only [if_true] at e1
  rw [e1] at g1
  exact kk p e R s m args below meth c ls H1 locs1 C hR hL ⟨g1, g_low g1 hk1, hH.2.2⟩ g3 hZ
/-- a method's contract out of its body -/
theorem Meth.of {As : List Value} (hy : plainFor y = true) (hcat : ∀ v ∈ As, v.category = 1) (hlen : As.length ≤ nL) (h : AW l G y cc nL rt d mc ms Q 0 0 0 (As.map some ++ List.replicate (nL - As.length) none) [] lay I) : Meth l G y cc nL rt d mc ms As lay I Q := by
  refine va_MetF (cc := cc) (maxL := nL) (ret := rt) hy rfl ?_
  intro p e s m args below meth c s₁ B hml hv
  obtain ⟨rfl, hH, hz, hE⟩ := hv
  have hsl : lg_sl (As.map (g_v G)) = (As.map (g_v G)).map Slot.val := by
    have : ∀ vs : List Value, (∀ v ∈ vs, v.category = 1) → lg_sl (vs.map (g_v G)) = (vs.map (g_v G)).map Slot.val := by
      intro vs
      induction vs with
      | nil => intro _; rfl
      | cons v vs ih =>
        intro hv
        have h1 : (g_v G v).category = 1 := (g_v_cat G v).trans (hv v List.mem_cons_self)
        have h2 := ih (fun w hw => hv w (List.mem_cons_of_mem _ hw))
        simp only [List.map_cons, lg_sl, List.flatMap_cons] at h2 ⊢
        rw [h2]
        simp [h1]
    exact this As hcat
  have hl := lv_entry (As.map (g_v G)) (n := nL) (by rw [hsl]; simpa using hlen)
  rw [lg_entry_eq]
  have hLs : g_L G nL (As.map some ++ List.replicate (nL - As.length) none) ((lg_sl (As.map (g_v G)) ++ List.replicate (nL - (lg_sl (As.map (g_v G))).length) Slot.unset).toArray) := by
    refine ⟨hl.1, hl.2.1, fun i v hi => ?_⟩
    by_cases hi1 : i < As.length
    · rw [List.getElem?_append_left (by simpa using hi1), List.getElem?_map, List.getElem?_eq_getElem hi1] at hi
      simp at hi
      subst hi
      rw [List.getElem?_toArray, List.getElem?_append_left (by rw [hsl]; simpa using hi1), hsl]
      simp [hi1]
    · rw [List.getElem?_append_right (by simp; omega)] at hi
      have := List.mem_of_getElem? hi
      rw [List.mem_replicate] at this
      cases this.2
  exact h p e _ s m _ below meth c _ s.heap [] ⟨B.exec, B.bytes, B.returns, hml, findClass_of_methodNamed B.named, fun w hw => atoms_spec (ws := .code y cc nL rt :: tb) B.pre w (List.mem_cons_of_mem _ hw), B.notSynchronized, (name_of_methodNamed B.named B.method).1, hE⟩ ⟨Nat.le_refl _, Nat.le_refl _, Nat.le_refl _, Nat.le_refl _⟩ hLs hH va_S.rf ⟨hz, by omega⟩
theorem Meth.mono {As : List Value} {Q' : Pst} (hQ : ∀ v lay I, Q v lay I → Q' v lay I) (h : Meth l G y cc nL rt d mc ms As lay I Q) : Meth l G y cc nL rt d mc ms As lay I Q' := by
  intro p e ha hc hk s m args below hf happ hP hK
  obtain ⟨k, oc, h1, h2, h3, ⟨⟨v, l', I', e1, e2, e3⟩, e4⟩, e5⟩ := h p e ha hc hk s m args below hf happ hP hK
  exact ⟨k, oc, h1, h2, h3, ⟨⟨v, l', I', e1, hQ _ _ _ e2, e3⟩, e4⟩, e5⟩
theorem A_ldcS {idx : Nat} (i : Nat) (hi : i < 14) (hix : js_ix.getD i 0 = idx) (ho : y.cls = RX6) (hd : decode cc pc = .ok (.ldc idx, 2)) (k : AW l G y cc nL rt d mc ms Q cells slots (pc + 2) L (.ref (100000 + i) :: st) lay I) : AW l G y cc nL rt d mc ms Q cells slots pc L st lay I := by
  intro p e R s m args below meth c ls H locs C hR hL hH hS hZ
  subst hix
  have hv : g_v G (.ref (100000 + i)) = .ref (g_sK G i) := by
    show Value.ref (g_ad G (100000 + i)) = _
    unfold g_ad
    rw [if_neg (by omega), if_pos (by omega), show 100000 + i - 100000 = i by omega]
  have hgo := k p e R s m args below meth c ls H locs C hR hL hH hS hZ
  rw [List.map_cons, hv] at hgo
  exact va_ldcS C.1 C.2.1 (ho ▸ C.2.2.2.2.1) (C.2.2.2.2.2.2.2.2.2.2.2.2.1 i hi) hd hgo
end AWR
