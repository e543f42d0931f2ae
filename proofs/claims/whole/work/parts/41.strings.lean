/-! TEXT CONSTANTS: the rules of the abstract machine over them, the script, and the JDK's own methods -/
theorem fl_val : Cond.fieldLink RJ0 9 "java/lang/String" "value" "[B" ∈ tb := tb_mem 1348 (by decide +kernel) (by decide +kernel)
theorem fl_cod : Cond.fieldLink RJ0 15 "java/lang/String" "coder" "B" ∈ tb := tb_mem 1349 (by decide +kernel) (by decide +kernel)
theorem fl_cs : Cond.fieldLink RJ0 38 "java/lang/String" "COMPACT_STRINGS" "Z" ∈ tb := tb_mem 628 (by decide +kernel) (by decide +kernel)
theorem fl_fm : Cond.fieldLink RJ0 1053 "jdk/internal/util/Preconditions" "SIOOBE_FORMATTER" "Ljava/util/function/BiFunction;" ∈ tb := tb_mem 644 (by decide +kernel) (by decide +kernel)
theorem g_str {G : Gm} {i : Nat} (hi : i < 14) : g_ad G (100000 + i) = g_sK G i := by
  unfold g_ad
  rw [if_neg (by omega), if_pos (by omega), show 100000 + i - 100000 = i by omega]
theorem g_byt {G : Gm} {i : Nat} (hi : i < 14) : g_ad G (150000 + i) = g_sV G i := by
  unfold g_ad
  rw [if_neg (by omega), if_neg (by omega), if_pos (by omega), show 150000 + i - 150000 = i by omega]
theorem g_scr {G : Gm} : g_ad G 200000 = g_sc G := by
  unfold g_ad
  rw [if_neg (by decide), if_neg (by decide), if_neg (by decide), if_pos rfl]
theorem g_fmt {G : Gm} : g_ad G 200001 = g_fm G := by
  unfold g_ad
  rw [if_neg (by decide), if_neg (by decide), if_neg (by decide), if_neg (by decide)]
section AST
variable {l : Launch} {G : Gm} {y : MethodName} {cc : ByteArray} {nL : Nat} {rt : Option FieldType} {d mc ms : Nat} {Q : Pst} {cells slots pc : Nat} {L : List (Option Value)} {st : List Value} {lay : Lay} {I : Hp}
theorem A_i2b {x : Int32} (hd : decode cc pc = .ok (.i2b, 1)) (k : AW l G y cc nL rt d mc ms Q cells slots (pc + 1) L (.int x.toInt8.toInt32 :: st) lay I) : AW l G y cc nL rt d mc ms Q cells slots pc L (.int x :: st) lay I :=
  fun p e R s m args below meth c ls H locs C hR hL hH hS hZ => lv_i2b C.1 C.2.1 hd rfl (k p e R s m args below meth c ls H locs C hR hL hH hS hZ)
theorem A_sval {i : Nat} (hi : i < 14) (ho : y.cls = RJ0) (hd : decode cc pc = .ok (.getfield 9, 3)) (kk : AW l G y cc nL rt d mc ms Q cells slots (pc + 3) L (.ref (150000 + i) :: st) lay I) : AW l G y cc nL rt d mc ms Q cells slots pc L (.ref (100000 + i) :: st) lay I := by
  intro p e R s m args below meth c ls H locs C hR hL hH hS hZ
  have hgo := kk p e R s m args below meth c ls H locs C hR hL hH hS hZ
  rw [List.map_cons, show g_v G (.ref (150000 + i)) = .ref (g_sV G i) from congrArg Value.ref (g_byt hi)] at hgo
  rw [List.map_cons, show g_v G (.ref (100000 + i)) = .ref (g_sK G i) from congrArg Value.ref (g_str hi)]
  exact vk_getf C.1 C.2.1 (C.2.2.2.2.2.2.2.2.2.2.2.1.1 i hi).2.2.1 hS (ho ▸ C.2.2.2.2.1) (C.2.2.2.2.2.1 _ fl_val) (fun _ h => h) hd hgo
theorem A_scod {i : Nat} (hi : i < 14) (ho : y.cls = RJ0) (hd : decode cc pc = .ok (.getfield 15, 3)) (kk : AW l G y cc nL rt d mc ms Q cells slots (pc + 3) L (.int 0 :: st) lay I) : AW l G y cc nL rt d mc ms Q cells slots pc L (.ref (100000 + i) :: st) lay I := by
  intro p e R s m args below meth c ls H locs C hR hL hH hS hZ
  have hgo := kk p e R s m args below meth c ls H locs C hR hL hH hS hZ
  rw [List.map_cons, show g_v G (.ref (100000 + i)) = .ref (g_sK G i) from congrArg Value.ref (g_str hi)]
  exact vk_getf C.1 C.2.1 (C.2.2.2.2.2.2.2.2.2.2.2.1.1 i hi).2.1 hS (ho ▸ C.2.2.2.2.1) (C.2.2.2.2.2.1 _ fl_cod) (fun _ h => h) hd hgo
theorem A_bald {i : Nat} {x : Int32} (j : Nat) (hi : i < 14) (hx : x = nI j) (hj : j < js_ln.getD i 0) (hd : decode cc pc = .ok (.baload, 1)) (kk : AW l G y cc nL rt d mc ms Q cells slots (pc + 1) L (.int ((js_by.getD i []).getD j 0) :: st) lay I) : AW l G y cc nL rt d mc ms Q cells slots pc L (.int x :: .ref (150000 + i) :: st) lay I := by
  intro p e R s m args below meth c ls H locs C hR hL hH hS hZ
  have hgo := kk p e R s m args below meth c ls H locs C hR hL hH hS hZ
  subst hx
  have hln : js_ln.getD i 0 < 100 := by
    have : ∀ i, i < 14 → js_ln.getD i 0 < 100 := by decide
    exact this i hi
  show W p l e R s m args below meth c H locs cells slots _ (F0 m pc ls (.int (nI j) :: .ref (g_ad G (150000 + i)) :: st.map (g_v G)))
  rw [g_byt hi]
  exact va_tb (v := .int ((js_by.getD i []).getD j 0)) C.1 C.2.1 (C.2.2.2.2.2.2.2.2.2.2.2.1.1 i hi).2.2.2 hS (vp_in_nI hj (by omega)) (by rw [nI_clamp (by omega)]) hd hgo
theorem A_slen {i : Nat} (hi : i < 14) (hd : decode cc pc = .ok (.arraylength, 1)) (kk : AW l G y cc nL rt d mc ms Q cells slots (pc + 1) L (.int (nI (js_ln.getD i 0)) :: st) lay I) : AW l G y cc nL rt d mc ms Q cells slots pc L (.ref (150000 + i) :: st) lay I := by
  intro p e R s m args below meth c ls H locs C hR hL hH hS hZ
  have hgo := kk p e R s m args below meth c ls H locs C hR hL hH hS hZ
  show W p l e R s m args below meth c H locs cells slots _ (F0 m pc ls (.ref (g_ad G (150000 + i)) :: st.map (g_v G)))
  rw [g_byt hi]
  exact va_tlen C.1 C.2.1 (C.2.2.2.2.2.2.2.2.2.2.2.1.1 i hi).2.2.2 hS rfl hd hgo
theorem A_gcs (ho : y.cls = RJ0) (hd : decode cc pc = .ok (.getstatic 38, 3)) (kk : AW l G y cc nL rt d mc ms Q cells slots (pc + 3) L (.int 1 :: st) lay I) : AW l G y cc nL rt d mc ms Q cells slots pc L st lay I := by
  intro p e R s m args below meth c ls H locs C hR hL hH hS hZ
  have hgo := kk p e R s m args below meth c ls H locs C hR hL hH hS hZ
  exact va_gets C.1 C.2.1 C.2.2.2.2.2.2.2.2.2.2.2.2.2.1 hS (ho ▸ C.2.2.2.2.1) (C.2.2.2.2.2.1 _ fl_cs) (fun _ h => h) hd hgo
theorem A_gfm (ho : y.cls = RJ0) (hd : decode cc pc = .ok (.getstatic 1053, 3)) (kk : ∀ v : Value, v = .null ∨ v = .ref 200001 → AW l G y cc nL rt d mc ms Q cells slots (pc + 3) L (v :: st) lay I) : AW l G y cc nL rt d mc ms Q cells slots pc L st lay I := by
  intro p e R s m args below meth c ls H locs C hR hL hH hS hZ
  rcases C.2.2.2.2.2.2.2.2.2.2.2.2.2.2.2 with hz | hz
  · have hgo := kk .null (Or.inl rfl) p e R s m args below meth c ls H locs C hR hL hH hS hZ
    exact va_gets C.1 C.2.1 hz hS (ho ▸ C.2.2.2.2.1) (C.2.2.2.2.2.1 _ fl_fm) (fun _ h => h) hd hgo
  · have hgo := kk (.ref 200001) (Or.inr rfl) p e R s m args below meth c ls H locs C hR hL hH hS hZ
    rw [List.map_cons, show g_v G (.ref 200001) = .ref (g_fm G) from congrArg Value.ref g_fmt] at hgo
    exact va_gets C.1 C.2.1 hz hS (ho ▸ C.2.2.2.2.1) (C.2.2.2.2.2.1 _ fl_fm) (fun _ h => h) hd hgo
theorem A_scld {x : Int32} (j : Nat) (hx : x = nI j) (hj : j < g_sl G) (hb : g_sl G < 2 ^ 31) (hd : decode cc pc = .ok (.iaload, 1)) (kk : AW l G y cc nL rt d mc ms Q cells slots (pc + 1) L (.int (g_sx G j) :: st) lay I) : AW l G y cc nL rt d mc ms Q cells slots pc L (.int x :: .ref 200000 :: st) lay I := by
  intro p e R s m args below meth c ls H locs C hR hL hH hS hZ
  have hgo := kk p e R s m args below meth c ls H locs C hR hL hH hS hZ
  subst hx
  show W p l e R s m args below meth c H locs cells slots _ (F0 m pc ls (.int (nI j) :: .ref (g_ad G 200000) :: st.map (g_v G)))
  rw [g_scr]
  exact va_ti (v := .int (g_sx G j)) C.1 C.2.1 C.2.2.2.2.2.2.2.2.2.2.2.2.2.2.1 hS (vp_in_nI hj hb) (by rw [nI_clamp (by omega)]) hd hgo
theorem A_sclen (hd : decode cc pc = .ok (.arraylength, 1)) (kk : AW l G y cc nL rt d mc ms Q cells slots (pc + 1) L (.int (nI (g_sl G)) :: st) lay I) : AW l G y cc nL rt d mc ms Q cells slots pc L (.ref 200000 :: st) lay I := by
  intro p e R s m args below meth c ls H locs C hR hL hH hS hZ
  have hgo := kk p e R s m args below meth c ls H locs C hR hL hH hS hZ
  show W p l e R s m args below meth c H locs cells slots _ (F0 m pc ls (.ref (g_ad G 200000) :: st.map (g_v G)))
  rw [g_scr]
  exact va_tlen C.1 C.2.1 C.2.2.2.2.2.2.2.2.2.2.2.2.2.2.1 hS rfl hd hgo
theorem A_callVS {y' : MethodName} {cc' : ByteArray} {nL' : Nat} {rt' : Option FieldType} {d' mc' ms' n idx : Nat} {own : String} {Qk : Pst} {stk : List Value} {As : List Value} {i : Nat} (hM : Meth l G y' cc' nL' rt' d' mc' ms' (.ref (100000 + i) :: As) lay I Qk) (hm : MV y' cc' nL' rt' n) (hl : Cond.methodLink own idx y' ∈ tb) (ho : y.cls = own) (hi : i < 14) (hcl : y'.cls = RJ0) (hn : As.length = n) (hstk : stk = As.reverse ++ .ref (100000 + i) :: st) (hst : (st.map fun v => v.category).sum ≤ 8) (h1 : d' + 1 ≤ d) (h2 : cells + mc' ≤ mc) (h3 : slots + ms' ≤ ms) (hd : decode cc pc = .ok (.invokevirtual idx, 3)) (hlen : ∀ (v : Option Value) (lay' : Lay) (I' : Hp), Qk v lay' I' → lay'.length = lay.length + mc') (kk : ∀ (v : Option Value) (lay' : Lay) (I' : Hp), Qk v lay' I' → AW l G y cc nL rt d mc ms Q (cells + mc') (slots + ms') (pc + 3) L (v.toList ++ st) lay' I') : AW l G y cc nL rt d mc ms Q cells slots pc L stk lay I := by
  intro p e R s m args below meth c ls H locs C hR hL hH hS hZ
  refine W_size fun hsz => ?_
  have hz : H.size = g_b G + lay.length := by have h1 := hZ.1; have h2 := hH.2.1; omega
  obtain ⟨m1, m2, m3, m4, m5, m6, m7, m8⟩ := hm
  have hp := g_pre (As := .ref (100000 + i) :: As) C.2.2.2.2.2.2.2.2 hH hS hz
  have hrec := vk_recv C.2.2.2.2.2.2.2.2.2.2.2.1 hi hS
  rw [← g_str hi, show "java/lang/String" = y'.cls from hcl.symm] at hrec
  subst hstk
  refine g_call (va_runV (As := As.map (g_v G)) (rest := st.map (g_v G)) (C := y'.cls) (b := g_ad G (100000 + i)) ⟨C.1, C.2.1, C.2.2.2.1, ho ▸ C.2.2.2.2.1, C.2.2.2.2.2.1⟩ hM ⟨callB_of n C.2.2.2.2.2.1 (g_good m4) rfl rfl rfl (C.2.2.2.2.2.1 _ m3) (C.2.2.2.2.2.1 _ hl) ⟨m5, m6, m7⟩ ⟨by show d' + 1 ≤ _; omega, by show 8 + (nL' + 11) + 60 * d' ≤ _; omega⟩, C.2.2.2.2.2.1 _ m1, C.2.2.2.2.2.1 _ m2⟩ ⟨hp.1, hrec, hp.2⟩ rfl (by rw [List.length_map]; exact hn) hL.1 (by show List.map (g_v G) (As.reverse ++ .ref (100000 + i) :: st) = _; rw [List.map_append, List.map_reverse]; rfl) (lv_room (g_cat hst)) hd ⟨by omega, by omega⟩) hS (fun v lay' I' H1 locs1 q1 q2 q3 => ?_)
  have hgo := kk v lay' I' q1 p e R s m args below meth c ls H1 locs1 C hR hL q2 q3 ⟨by have h1 := hZ.1; have h2 := hlen v lay' I' q1; omega, hZ.2⟩
  rw [List.map_append] at hgo
  cases v <;> exact hgo
end AST
/-- indexOf, from place k on -/
def st_ix (i : Nat) (c : Int32) : Nat → Nat → Int32
  | 0, _ => -1
  | n + 1, k => if k < js_ln.getD i 0 then (if (js_by.getD i []).getD k 0 = c.toInt8.toInt32 then nI k else st_ix i c n (k + 1)) else -1
theorem js_le : ∀ i, i < 14 → js_ln.getD i 0 ≤ 5 ∧ 0 < js_ln.getD i 0 := by decide
theorem js_sh : ∀ i, i < 14 → nI (js_ln.getD i 0) >>> ((0 : Int32) &&& 31) = nI (js_ln.getD i 0) := by decide +kernel
theorem js_ch : ∀ i, i < 14 → ∀ j, j < 6 → (js_by.getD i []).getD j 0 &&& 255 = (js_by.getD i []).getD j 0 := by decide +kernel
set_option maxHeartbeats 1000000 in
set_option maxRecDepth 100000 in
theorem s_isL (l : Launch) (G : Gm) (lay : Lay) (I : Hp) (i : Nat) (hi : i < 14)  : Meth l G yJ0_isLatin1_aae02 cJ0_isLatin1_aae02 1 (some (FieldType.boolean)) 1 0 0 [.ref (100000 + i)] lay I (fun r lay1 I1 => r = some (.int (1)) ∧ lay1 = lay ∧ I1 = I) := by
  refine Meth.of (by decide +kernel) (by simp [Value.category]) (Nat.le_of_ble_eq_true rfl) ?_
  refine A_gcs rfl dJ0_isLatin1_aae02_0 ?_
  refine A_if_eq 17 rfl dJ0_isLatin1_aae02_3 (fun cq3 => absurd cq3 (by decide)) (fun cq3 => ?_)
  refine A_aload_n rfl dJ0_isLatin1_aae02_6 ?_
  refine A_scod hi rfl dJ0_isLatin1_aae02_7 ?_
  refine A_if_ne 17 rfl dJ0_isLatin1_aae02_10 (fun cq10 => absurd (rfl) cq10) (fun cq10 => ?_)
  refine A_iconst ic_1 dJ0_isLatin1_aae02_13 ?_
  refine A_goto 18 rfl dJ0_isLatin1_aae02_14 ?_
  refine A_iret rfl rfl rfl rfl dJ0_isLatin1_aae02_18 ?_
  exact ⟨rfl, rfl, rfl⟩
set_option maxHeartbeats 1000000 in
set_option maxRecDepth 100000 in
theorem s_cod (l : Launch) (G : Gm) (lay : Lay) (I : Hp) (i : Nat) (hi : i < 14)  : Meth l G yJ0_coder_7d493 cJ0_coder_7d493 1 (some (FieldType.byte)) 1 0 0 [.ref (100000 + i)] lay I (fun r lay1 I1 => r = some (.int (0)) ∧ lay1 = lay ∧ I1 = I) := by
  refine Meth.of (by decide +kernel) (by simp [Value.category]) (Nat.le_of_ble_eq_true rfl) ?_
  refine A_gcs rfl dJ0_coder_7d493_0 ?_
  refine A_if_eq 13 rfl dJ0_coder_7d493_3 (fun cq3 => absurd cq3 (by decide)) (fun cq3 => ?_)
  refine A_aload_n rfl dJ0_coder_7d493_6 ?_
  refine A_scod hi rfl dJ0_coder_7d493_7 ?_
  refine A_goto 14 rfl dJ0_coder_7d493_10 ?_
  refine A_iret rfl rfl rfl rfl dJ0_coder_7d493_14 ?_
  exact ⟨rfl, rfl, rfl⟩
set_option maxHeartbeats 1000000 in
set_option maxRecDepth 100000 in
theorem s_len (l : Launch) (G : Gm) (lay : Lay) (I : Hp) (i : Nat) (hi : i < 14)  : Meth l G yJ0_length_8abf5 cJ0_length_8abf5 1 (some (FieldType.int)) 2 0 0 [.ref (100000 + i)] lay I (fun r lay1 I1 => r = some (.int (nI (js_ln.getD i 0))) ∧ lay1 = lay ∧ I1 = I) := by
  refine Meth.of (by decide +kernel) (by simp [Value.category]) (Nat.le_of_ble_eq_true rfl) ?_
  refine A_aload_n rfl dJ0_length_8abf5_0 ?_
  refine A_sval hi rfl dJ0_length_8abf5_1 ?_
  refine A_slen hi dJ0_length_8abf5_4 ?_
  refine A_aload_n rfl dJ0_length_8abf5_5 ?_
  refine A_callVS (s_cod l G _ _ i hi) m_J0_coder_7d493 ml_J0_335 rfl hi rfl rfl rfl (Nat.le_of_ble_eq_true rfl) (by decide) (by decide) (by decide) dJ0_length_8abf5_6 (fun _ _ _ h => congrArg List.length h.2.1) ?_
  rintro _ _ _ ⟨rfl, rfl, e9⟩
  refine AW_I e9 ?_
  clear e9
  refine A_ishr dJ0_length_8abf5_9 ?_
  refine A_iret rfl rfl rfl rfl dJ0_length_8abf5_10 ?_
  exact ⟨by rw [js_sh i hi], rfl, rfl⟩
set_option maxHeartbeats 1000000 in
set_option maxRecDepth 100000 in
theorem s_cka (l : Launch) (G : Gm) (lay : Lay) (I : Hp) (a b : Int32) (v : Value) (hv : v.category = 1) (h0 : ¬ a < 0) (h1 : a < b) : Meth l G yJ3_checkIndex_8e157 cJ3_checkIndex_8e157 3 (some (FieldType.int)) 1 0 0 [.int a, .int b, v] lay I (fun r lay1 I1 => r = some (.int (a)) ∧ lay1 = lay ∧ I1 = I) := by
  refine Meth.of (by decide +kernel) (by intro w hw; simp only [List.mem_cons, List.not_mem_nil, or_false] at hw; rcases hw with rfl | rfl | rfl <;> first | rfl | exact hv) (Nat.le_of_ble_eq_true rfl) ?_
  refine A_iload_n rfl dJ3_checkIndex_8e157_0 ?_
  refine A_if_lt 9 rfl dJ3_checkIndex_8e157_1 (fun cq1 => absurd cq1 (h0)) (fun cq1 => ?_)
  refine A_iload_n rfl dJ3_checkIndex_8e157_4 ?_
  refine A_iload_n rfl dJ3_checkIndex_8e157_5 ?_
  refine A_icmp_lt 16 rfl dJ3_checkIndex_8e157_6 (fun cq6 => ?_) (fun cq6 => absurd (h1) cq6)
  refine A_iload_n rfl dJ3_checkIndex_8e157_16 ?_
  refine A_iret rfl rfl rfl rfl dJ3_checkIndex_8e157_17 ?_
  exact ⟨rfl, rfl, rfl⟩
set_option maxHeartbeats 1000000 in
set_option maxRecDepth 100000 in
theorem s_ck (l : Launch) (G : Gm) (lay : Lay) (I : Hp) (a b : Int32) (h0 : ¬ a < 0) (h1 : a < b) : Meth l G yJ0_checkIndex_df160 cJ0_checkIndex_df160 2 none 2 0 0 [.int a, .int b] lay I (fun r lay1 I1 => r = none ∧ lay1 = lay ∧ I1 = I) := by
  refine Meth.of (by decide +kernel) (by simp [Value.category]) (Nat.le_of_ble_eq_true rfl) ?_
  refine A_iload_n rfl dJ0_checkIndex_df160_0 ?_
  refine A_iload_n rfl dJ0_checkIndex_df160_1 ?_
  refine A_gfm rfl dJ0_checkIndex_df160_2 (fun v hv => ?_)
  have hv1 : v.category = 1 := by rcases hv with rfl | rfl <;> rfl
  refine A_callS (s_cka l G _ _ a b v hv1 h0 h1) m_J3_checkIndex_8e157 ml_J0_1059 rfl rfl rfl (Nat.le_of_ble_eq_true rfl) (by decide) (by decide) (by decide) dJ0_checkIndex_df160_5 (fun _ _ _ h => congrArg List.length h.2.1) ?_
  rintro _ _ _ ⟨rfl, rfl, e9⟩
  refine AW_I e9 ?_
  refine A_pop rfl dJ0_checkIndex_df160_8 ?_
  refine A_vret rfl rfl rfl dJ0_checkIndex_df160_9 ?_
  exact ⟨rfl, rfl, rfl⟩
set_option maxHeartbeats 1000000 in
set_option maxRecDepth 100000 in
theorem s_chL (l : Launch) (G : Gm) (lay : Lay) (I : Hp) (i : Nat) (hi : i < 14) (j : Nat) (hj : j < js_ln.getD i 0) : Meth l G yJ1_charAt_3b067 cJ1_charAt_3b067 2 (some (FieldType.char)) 3 0 0 [.ref (150000 + i), .int (nI j)] lay I (fun r lay1 I1 => r = some (.int ((js_by.getD i []).getD j 0)) ∧ lay1 = lay ∧ I1 = I) := by
  refine Meth.of (by decide +kernel) (by simp [Value.category]) (Nat.le_of_ble_eq_true rfl) ?_
  refine A_iload_n rfl dJ1_charAt_3b067_0 ?_
  refine A_aload_n rfl dJ1_charAt_3b067_1 ?_
  refine A_slen hi dJ1_charAt_3b067_2 ?_
  refine A_callS (s_ck l G _ _ _ _ (nI_pos (by have := js_le i hi; omega)) ((nI_ltI (by have := js_le i hi; omega) (by have := js_le i hi; omega)).mpr hj)) m_J0_checkIndex_df160 ml_J1_9 rfl rfl rfl (Nat.le_of_ble_eq_true rfl) (by decide) (by decide) (by decide) dJ1_charAt_3b067_3 (fun _ _ _ h => congrArg List.length h.2.1) ?_
  rintro _ _ _ ⟨rfl, rfl, e9⟩
  refine AW_I e9 ?_
  clear e9
  refine A_aload_n rfl dJ1_charAt_3b067_6 ?_
  refine A_iload_n rfl dJ1_charAt_3b067_7 ?_
  refine A_bald j hi rfl hj dJ1_charAt_3b067_8 ?_
  refine A_sipush sp_255 dJ1_charAt_3b067_9 ?_
  refine A_iand dJ1_charAt_3b067_12 ?_
  refine A_i2c dJ1_charAt_3b067_13 ?_
  rw [sc_c2, js_ch i hi j (by have := js_le i hi; omega)]
  refine A_iret rfl (by rw [← js_ch i hi j (by have := js_le i hi; omega)]; exact sc_nar _) rfl rfl dJ1_charAt_3b067_14 ?_
  exact ⟨rfl, rfl, rfl⟩
set_option maxHeartbeats 1000000 in
set_option maxRecDepth 100000 in
theorem s_ch (l : Launch) (G : Gm) (lay : Lay) (I : Hp) (i : Nat) (hi : i < 14) (j : Nat) (hj : j < js_ln.getD i 0) : Meth l G yJ0_charAt_5068e cJ0_charAt_5068e 2 (some (FieldType.char)) 4 0 0 [.ref (100000 + i), .int (nI j)] lay I (fun r lay1 I1 => r = some (.int ((js_by.getD i []).getD j 0)) ∧ lay1 = lay ∧ I1 = I) := by
  refine Meth.of (by decide +kernel) (by simp [Value.category]) (Nat.le_of_ble_eq_true rfl) ?_
  refine A_aload_n rfl dJ0_charAt_5068e_0 ?_
  refine A_callVS (s_isL l G _ _ i hi) m_J0_isLatin1_aae02 ml_J0_492 rfl hi rfl rfl rfl (Nat.le_of_ble_eq_true rfl) (by decide) (by decide) (by decide) dJ0_charAt_5068e_1 (fun _ _ _ h => congrArg List.length h.2.1) ?_
  rintro _ _ _ ⟨rfl, rfl, e9⟩
  refine AW_I e9 ?_
  clear e9
  refine A_if_eq 16 rfl dJ0_charAt_5068e_4 (fun cq4 => absurd cq4 (by decide)) (fun cq4 => ?_)
  refine A_aload_n rfl dJ0_charAt_5068e_7 ?_
  refine A_sval hi rfl dJ0_charAt_5068e_8 ?_
  refine A_iload_n rfl dJ0_charAt_5068e_11 ?_
  refine A_callS (s_chL l G _ _ i hi j hj) m_J1_charAt_3b067 ml_J0_495 rfl rfl rfl (Nat.le_of_ble_eq_true rfl) (by decide) (by decide) (by decide) dJ0_charAt_5068e_12 (fun _ _ _ h => congrArg List.length h.2.1) ?_
  rintro _ _ _ ⟨rfl, rfl, e9⟩
  refine AW_I e9 ?_
  clear e9
  refine A_iret rfl (by rw [← js_ch i hi j (by have := js_le i hi; omega)]; exact sc_nar _) rfl rfl dJ0_charAt_5068e_15 ?_
  exact ⟨rfl, rfl, rfl⟩
set_option maxHeartbeats 1000000 in
set_option maxRecDepth 100000 in
theorem s_can (l : Launch) (G : Gm) (lay : Lay) (I : Hp) (x : Int32) (h0 : ¬ x < 0) (h1 : ¬ 255 < x) : Meth l G yJ1_canEncode_9a6ad cJ1_canEncode_9a6ad 1 (some (FieldType.boolean)) 1 0 0 [.int x] lay I (fun r lay1 I1 => r = some (.int (1)) ∧ lay1 = lay ∧ I1 = I) := by
  refine Meth.of (by decide +kernel) (by simp [Value.category]) (Nat.le_of_ble_eq_true rfl) ?_
  refine A_iload_n rfl dJ1_canEncode_9a6ad_0 ?_
  refine A_if_lt 15 rfl dJ1_canEncode_9a6ad_1 (fun cq1 => absurd cq1 (h0)) (fun cq1 => ?_)
  refine A_iload_n rfl dJ1_canEncode_9a6ad_4 ?_
  refine A_sipush sp_255 dJ1_canEncode_9a6ad_5 ?_
  refine A_icmp_gt 15 rfl dJ1_canEncode_9a6ad_8 (fun cq8 => absurd cq8 (h1)) (fun cq8 => ?_)
  refine A_iconst ic_1 dJ1_canEncode_9a6ad_11 ?_
  refine A_goto 16 rfl dJ1_canEncode_9a6ad_12 ?_
  refine A_iret rfl rfl rfl rfl dJ1_canEncode_9a6ad_16 ?_
  exact ⟨rfl, rfl, rfl⟩
set_option maxHeartbeats 1000000 in
set_option maxRecDepth 100000 in
theorem s_ixC (l : Launch) (G : Gm) (lay : Lay) (I : Hp) (i : Nat) (hi : i < 14) (c : Int32) : Meth l G yJ1_indexOfChar_4cfef cJ1_indexOfChar_4cfef 6 (some (FieldType.int)) 1 0 0 [.ref (150000 + i), .int c, .int 0, .int (nI (js_ln.getD i 0))] lay I (fun r lay1 I1 => r = some (.int (st_ix i c 6 0)) ∧ lay1 = lay ∧ I1 = I) := by
  have loop : ∀ (lpn : Nat) (n k : Nat), n = lpn → (k ≤ js_ln.getD i 0) → (js_ln.getD i 0 < n + k) → (st_ix i c n k = st_ix i c 6 0) → AW l G yJ1_indexOfChar_4cfef cJ1_indexOfChar_4cfef 6 (some (FieldType.int)) 1 0 0 (fun r lay1 I1 => r = some (.int (st_ix i c 6 0)) ∧ lay1 = lay ∧ I1 = I) 0 0 7 [some (.ref (150000 + i)), some (.int c), some (.int 0), some (.int (nI (js_ln.getD i 0))), some (.int c.toInt8.toInt32), some (.int (nI k))] [] lay I := by
    intro lpn
    induction lpn using Nat.strongRecOn with
    | _ lpn ih =>
      intro n k hms hk hn hrec
      have hj5 := js_le i hi
      obtain ⟨n2, rfl⟩ : ∃ n2, n = n2 + 1 := ⟨n - 1, by omega⟩
      rw [st_ix] at hrec
      refine A_iload rfl dJ1_indexOfChar_4cfef_7 ?_
      refine A_iload_n rfl dJ1_indexOfChar_4cfef_9 ?_
      refine A_icmp_ge 31 rfl dJ1_indexOfChar_4cfef_10 (fun cq10 => ?_) (fun cq10 => ?_)
      · skip
        refine A_iconst ic_m1 dJ1_indexOfChar_4cfef_31 ?_
        refine A_iret rfl rfl rfl rfl dJ1_indexOfChar_4cfef_32 ?_
        have hkn : ¬ k < js_ln.getD i 0 := by
          have hq1 := (le_nI (rfl : nI (js_ln.getD i 0) = nI (js_ln.getD i 0)) (rfl : nI k = nI k) (by omega) (by omega)).mp cq10
          omega
        rw [if_neg hkn] at hrec
        exact ⟨by rw [← hrec], rfl, rfl⟩
      · skip
        have hkn : k < js_ln.getD i 0 := by
          have hq1 := mt (le_nI (rfl : nI (js_ln.getD i 0) = nI (js_ln.getD i 0)) (rfl : nI k = nI k) (by omega) (by omega)).mpr cq10
          omega
        rw [if_pos hkn] at hrec
        refine A_aload_n rfl dJ1_indexOfChar_4cfef_13 ?_
        refine A_iload rfl dJ1_indexOfChar_4cfef_14 ?_
        refine A_bald k hi rfl hkn dJ1_indexOfChar_4cfef_16 ?_
        refine A_iload rfl dJ1_indexOfChar_4cfef_17 ?_
        refine A_icmp_ne 25 rfl dJ1_indexOfChar_4cfef_19 (fun cq19 => ?_) (fun cq19 => ?_)
        · skip
          refine A_iinc ic_1 rfl (by decide) rfl dJ1_indexOfChar_4cfef_25 ?_
          refine A_goto 7 rfl dJ1_indexOfChar_4cfef_28 ?_
          rw [if_neg cq19] at hrec
          refine AW_L (by rw [nI_1]) ?_
          exact ih n2 (by omega) n2 (k + 1) (by omega) (by omega) (by omega) hrec
        · skip
          refine A_iload rfl dJ1_indexOfChar_4cfef_22 ?_
          refine A_iret rfl rfl rfl rfl dJ1_indexOfChar_4cfef_24 ?_
          rw [if_pos cq19] at hrec
          exact ⟨by rw [← hrec], rfl, rfl⟩
  refine Meth.of (by decide +kernel) (by simp [Value.category]) (Nat.le_of_ble_eq_true rfl) ?_
  refine A_iload_n rfl dJ1_indexOfChar_4cfef_0 ?_
  refine A_i2b dJ1_indexOfChar_4cfef_1 ?_
  refine A_istore (by decide) rfl dJ1_indexOfChar_4cfef_2 ?_
  refine A_iload_n rfl dJ1_indexOfChar_4cfef_4 ?_
  refine A_istore (by decide) rfl dJ1_indexOfChar_4cfef_5 ?_
  exact loop 6 6 0 rfl (by omega) (by have := js_le i hi; omega) rfl
set_option maxHeartbeats 1000000 in
set_option maxRecDepth 100000 in
theorem s_ixL (l : Launch) (G : Gm) (lay : Lay) (I : Hp) (i : Nat) (hi : i < 14) (c : Int32) (h0 : ¬ c < 0) (h1 : ¬ 255 < c) : Meth l G yJ1_indexOf_4cfef cJ1_indexOf_4cfef 4 (some (FieldType.int)) 2 0 0 [.ref (150000 + i), .int c, .int 0, .int (nI (js_ln.getD i 0))] lay I (fun r lay1 I1 => r = some (.int (st_ix i c 6 0)) ∧ lay1 = lay ∧ I1 = I) := by
  refine Meth.of (by decide +kernel) (by simp [Value.category]) (Nat.le_of_ble_eq_true rfl) ?_
  refine A_iload_n rfl dJ1_indexOf_4cfef_0 ?_
  refine A_callS (s_can l G _ _ c h0 h1) m_J1_canEncode_9a6ad ml_J1_88 rfl rfl rfl (Nat.le_of_ble_eq_true rfl) (by decide) (by decide) (by decide) dJ1_indexOf_4cfef_1 (fun _ _ _ h => congrArg List.length h.2.1) ?_
  rintro _ _ _ ⟨rfl, rfl, e9⟩
  refine AW_I e9 ?_
  clear e9
  refine A_if_ne 9 rfl dJ1_indexOf_4cfef_4 (fun cq4 => ?_) (fun cq4 => absurd cq4 (by decide))
  refine A_iload_n rfl dJ1_indexOf_4cfef_9 ?_
  refine A_iconst ic_0 dJ1_indexOf_4cfef_10 ?_
  refine A_callS (s_max l G _ _ _ _) m_J9_max_7cf53 ml_J1_92 rfl rfl rfl (Nat.le_of_ble_eq_true rfl) (by decide) (by decide) (by decide) dJ1_indexOf_4cfef_11 (fun _ _ _ h => congrArg List.length h.2.1) ?_
  rintro _ _ _ ⟨rfl, rfl, e9⟩
  refine AW_I e9 ?_
  clear e9
  rw [ite_self]
  refine A_istore_n (by decide) rfl dJ1_indexOf_4cfef_14 ?_
  refine A_iload_n rfl dJ1_indexOf_4cfef_15 ?_
  refine A_aload_n rfl dJ1_indexOf_4cfef_16 ?_
  refine A_slen hi dJ1_indexOf_4cfef_17 ?_
  refine A_callS (s_min l G _ _ _ _) m_J9_min_7cf53 ml_J1_38 rfl rfl rfl (Nat.le_of_ble_eq_true rfl) (by decide) (by decide) (by decide) dJ1_indexOf_4cfef_18 (fun _ _ _ h => congrArg List.length h.2.1) ?_
  rintro _ _ _ ⟨rfl, rfl, e9⟩
  refine AW_I e9 ?_
  clear e9
  rw [ite_self]
  refine A_istore_n (by decide) rfl dJ1_indexOf_4cfef_21 ?_
  refine A_iload_n rfl dJ1_indexOf_4cfef_22 ?_
  refine A_iload_n rfl dJ1_indexOf_4cfef_23 ?_
  refine A_icmp_lt 29 rfl dJ1_indexOf_4cfef_24 (fun cq24 => ?_) (fun cq24 => absurd ((nI_ltI (a := 0) (by decide) (by have := js_le i hi; omega)).mpr (js_le i hi).2) cq24)
  refine A_aload_n rfl dJ1_indexOf_4cfef_29 ?_
  refine A_iload_n rfl dJ1_indexOf_4cfef_30 ?_
  refine A_iload_n rfl dJ1_indexOf_4cfef_31 ?_
  refine A_iload_n rfl dJ1_indexOf_4cfef_32 ?_
  refine A_callS (s_ixC l G _ _ i hi c) m_J1_indexOfChar_4cfef ml_J1_95 rfl rfl rfl (Nat.le_of_ble_eq_true rfl) (by decide) (by decide) (by decide) dJ1_indexOf_4cfef_33 (fun _ _ _ h => congrArg List.length h.2.1) ?_
  rintro _ _ _ ⟨rfl, rfl, e9⟩
  refine AW_I e9 ?_
  clear e9
  refine A_iret rfl rfl rfl rfl dJ1_indexOf_4cfef_36 ?_
  exact ⟨rfl, rfl, rfl⟩
set_option maxHeartbeats 1000000 in
set_option maxRecDepth 100000 in
theorem s_ix2 (l : Launch) (G : Gm) (lay : Lay) (I : Hp) (i : Nat) (hi : i < 14) (c : Int32) (h0 : ¬ c < 0) (h1 : ¬ 255 < c) : Meth l G yJ0_indexOf_7cf53 cJ0_indexOf_7cf53 3 (some (FieldType.int)) 3 0 0 [.ref (100000 + i), .int c, .int 0] lay I (fun r lay1 I1 => r = some (.int (st_ix i c 6 0)) ∧ lay1 = lay ∧ I1 = I) := by
  refine Meth.of (by decide +kernel) (by simp [Value.category]) (Nat.le_of_ble_eq_true rfl) ?_
  refine A_aload_n rfl dJ0_indexOf_7cf53_0 ?_
  refine A_callVS (s_isL l G _ _ i hi) m_J0_isLatin1_aae02 ml_J0_492 rfl hi rfl rfl rfl (Nat.le_of_ble_eq_true rfl) (by decide) (by decide) (by decide) dJ0_indexOf_7cf53_1 (fun _ _ _ h => congrArg List.length h.2.1) ?_
  rintro _ _ _ ⟨rfl, rfl, e9⟩
  refine AW_I e9 ?_
  clear e9
  refine A_if_eq 23 rfl dJ0_indexOf_7cf53_4 (fun cq4 => absurd cq4 (by decide)) (fun cq4 => ?_)
  refine A_aload_n rfl dJ0_indexOf_7cf53_7 ?_
  refine A_sval hi rfl dJ0_indexOf_7cf53_8 ?_
  refine A_iload_n rfl dJ0_indexOf_7cf53_11 ?_
  refine A_iload_n rfl dJ0_indexOf_7cf53_12 ?_
  refine A_aload_n rfl dJ0_indexOf_7cf53_13 ?_
  refine A_callVS (s_len l G _ _ i hi) m_J0_length_8abf5 ml_J0_505 rfl hi rfl rfl rfl (Nat.le_of_ble_eq_true rfl) (by decide) (by decide) (by decide) dJ0_indexOf_7cf53_14 (fun _ _ _ h => congrArg List.length h.2.1) ?_
  rintro _ _ _ ⟨rfl, rfl, e9⟩
  refine AW_I e9 ?_
  clear e9
  refine A_callS (s_ixL l G _ _ i hi c h0 h1) m_J1_indexOf_4cfef ml_J0_637 rfl rfl rfl (Nat.le_of_ble_eq_true rfl) (by decide) (by decide) (by decide) dJ0_indexOf_7cf53_17 (fun _ _ _ h => congrArg List.length h.2.1) ?_
  rintro _ _ _ ⟨rfl, rfl, e9⟩
  refine AW_I e9 ?_
  clear e9
  refine A_goto 36 rfl dJ0_indexOf_7cf53_20 ?_
  refine A_iret rfl rfl rfl rfl dJ0_indexOf_7cf53_36 ?_
  exact ⟨rfl, rfl, rfl⟩
set_option maxHeartbeats 1000000 in
set_option maxRecDepth 100000 in
theorem s_ix (l : Launch) (G : Gm) (lay : Lay) (I : Hp) (i : Nat) (hi : i < 14) (c : Int32) (h0 : ¬ c < 0) (h1 : ¬ 255 < c) : Meth l G yJ0_indexOf_0f7a4 cJ0_indexOf_0f7a4 2 (some (FieldType.int)) 4 0 0 [.ref (100000 + i), .int c] lay I (fun r lay1 I1 => r = some (.int (st_ix i c 6 0)) ∧ lay1 = lay ∧ I1 = I) := by
  refine Meth.of (by decide +kernel) (by simp [Value.category]) (Nat.le_of_ble_eq_true rfl) ?_
  refine A_aload_n rfl dJ0_indexOf_0f7a4_0 ?_
  refine A_iload_n rfl dJ0_indexOf_0f7a4_1 ?_
  refine A_iconst ic_0 dJ0_indexOf_0f7a4_2 ?_
  refine A_callVS (s_ix2 l G _ _ i hi c h0 h1) m_J0_indexOf_7cf53 ml_J0_633 rfl hi rfl rfl rfl (Nat.le_of_ble_eq_true rfl) (by decide) (by decide) (by decide) dJ0_indexOf_0f7a4_3 (fun _ _ _ h => congrArg List.length h.2.1) ?_
  rintro _ _ _ ⟨rfl, rfl, e9⟩
  refine AW_I e9 ?_
  clear e9
  refine A_iret rfl rfl rfl rfl dJ0_indexOf_0f7a4_6 ?_
  exact ⟨rfl, rfl, rfl⟩
