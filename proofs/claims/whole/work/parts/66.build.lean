/-! MAKING: a layout with one object at hand (at k) and what was made since -/
def LX (lay : Lay) (k : Nat) (x : Nat × Nat × List (Option Nat)) (ys : Lay) : Lay := lay.set k x ++ ys
section LXR
variable {lay ys zs : Lay} {k m j : Nat} {x x' o o' c : Nat × Nat × List (Option Nat)}
theorem LX_nil (h : lay[k]? = some x) : LX lay k x [] = lay := by
  unfold LX
  rw [List.append_nil]
  refine List.ext_getElem? fun j => ?_
  by_cases e : j = k
  · subst e
    rw [List.getElem?_set_self (List.getElem?_eq_some_iff.mp h).1, h]
  · rw [List.getElem?_set_ne (Ne.symm e)]
theorem LX_len : (LX lay k x ys).length = lay.length + ys.length := by simp [LX]
theorem LX_at (hk : k < lay.length) : (LX lay k x ys)[k]? = some x := by
  unfold LX
  rw [List.getElem?_append_left (by simpa using hk), List.getElem?_set_self hk]
theorem LX_app : LX lay k x ys ++ zs = LX lay k x (ys ++ zs) := by unfold LX; rw [List.append_assoc]
theorem LX_set (hk : k < lay.length) : (LX lay k x ys).set k x' = LX lay k x' ys := by
  unfold LX
  rw [List.set_append_left k x' (by simpa using hk), List.set_set]
theorem LX_at2 (hm : lay.length + j = m) : (LX lay k x ys)[m]? = ys[j]? := by
  unfold LX
  rw [List.getElem?_append_right (by simp; omega)]
  congr 1
  simp
  omega
theorem LX_set2 (hm : lay.length + j = m) : (LX lay k x ys).set m c = LX lay k x (ys.set j c) := by
  unfold LX
  rw [List.set_append_right m c (by simp; omega)]
  congr 2
  simp
  omega
theorem LX_nest (hm : lay.length + ys.length = m) : LX (LX lay k x (ys ++ [o])) m o' zs = LX lay k x (ys ++ [o'] ++ zs) := by
  show (LX lay k x (ys ++ [o])).set m o' ++ zs = _
  rw [LX_set2 hm, LX_app]
  congr 2
  rw [List.set_append_right _ _ (Nat.le_refl _), Nat.sub_self]
  rfl
end LXR
theorem zr_id {I : Hp} {k : Nat} (h : I k = fun _ => 0) : zr I k = I := by
  funext j
  unfold zr
  split
  · next e => rw [e, h]
  · rfl
/-- nothing is written yet from n on -/
def Zf (n : Nat) (I : Hp) : Prop := ∀ q, n ≤ q → I q = fun _ => 0
theorem Zf.up {n a i : Nat} {x : Int32} {I : Hp} (h : Zf n I) (ha : a < n) : Zf n (up2 I a i x) := fun q hq => by rw [up2_ne (by omega)]; exact h q hq
theorem Zf.le {n m : Nat} {I : Hp} (h : Zf n I) (hm : n ≤ m) : Zf m I := fun q hq => h q (by omega)
section NWR
variable {l : Launch} {G : Gm} {y : MethodName} {cc : ByteArray} {nL : Nat} {rt : Option FieldType} {d mc ms : Nat} {Q : Pst} {cells slots pc : Nat} {L : List (Option Value)} {st : List Value} {lay ys : Lay} {I : Hp} {k : Nat} {x : Nat × Nat × List (Option Nat)}
theorem N_I {v : Int32} (N m : Nat) (hv : v = nI N) (hN : N < 65536) (h1 : cells + 1 ≤ mc) (h2 : slots + N ≤ ms) (hm : lay.length + ys.length = m) (hb : m < 99999) (hz : Zf m I) (hd : decode cc pc = .ok (.newarray .int, 2)) (kk : AW l G y cc nL rt d mc ms Q (cells + 1) (slots + N) (pc + 2) L (.ref m :: st) (LX lay k x (ys ++ [(9, N, [])])) I) : AW l G y cc nL rt d mc ms Q cells slots pc L (.int v :: st) (LX lay k x ys) I := by
  have e : (LX lay k x ys).length = m := LX_len.trans hm
  refine A_newI N hv hN h1 h2 (by rw [e]; exact hb) hd ?_
  rw [e, zr_id (hz m (Nat.le_refl _)), LX_app]
  exact kk
theorem N_C {v : Int32} (N m : Nat) (hv : v = nI N) (hN : N < 65536) (h1 : cells + 1 ≤ mc) (h2 : slots + N ≤ ms) (hm : lay.length + ys.length = m) (hb : m < 99999) (hz : Zf m I) (hd : decode cc pc = .ok (.newarray .char, 2)) (kk : AW l G y cc nL rt d mc ms Q (cells + 1) (slots + N) (pc + 2) L (.ref m :: st) (LX lay k x (ys ++ [(8, N, [])])) I) : AW l G y cc nL rt d mc ms Q cells slots pc L (.int v :: st) (LX lay k x ys) I := by
  have e : (LX lay k x ys).length = m := LX_len.trans hm
  refine A_newC N hv hN h1 h2 (by rw [e]; exact hb) hd ?_
  rw [e, zr_id (hz m (Nat.le_refl _)), LX_app]
  exact kk
theorem N_Z {v : Int32} (N m : Nat) (hv : v = nI N) (hN : N < 65536) (h1 : cells + 1 ≤ mc) (h2 : slots + N ≤ ms) (hm : lay.length + ys.length = m) (hb : m < 99999) (hz : Zf m I) (hd : decode cc pc = .ok (.newarray .boolean, 2)) (kk : AW l G y cc nL rt d mc ms Q (cells + 1) (slots + N) (pc + 2) L (.ref m :: st) (LX lay k x (ys ++ [(10, N, [])])) I) : AW l G y cc nL rt d mc ms Q cells slots pc L (.int v :: st) (LX lay k x ys) I := by
  have e : (LX lay k x ys).length = m := LX_len.trans hm
  refine A_newZ N hv hN h1 h2 (by rw [e]; exact hb) hd ?_
  rw [e, zr_id (hz m (Nat.le_refl _)), LX_app]
  exact kk
theorem N_q {v : Int32} (N m kd idx : Nat) (Cn own : String) (hkd : kd = 11 ∧ Cn = RX2 ∨ kd = 12 ∧ Cn = RX4 ∨ kd = 13 ∧ Cn = RX5) (hv : v = nI N) (hN : N < 65536) (hc : Cond.classLink own idx Cn ∈ tb) (ho : y.cls = own) (h1 : cells + 1 ≤ mc) (h2 : slots + N ≤ ms) (hm : lay.length + ys.length = m) (hb : m < 99999) (hz : Zf m I) (hd : decode cc pc = .ok (.anewarray idx, 3)) (kk : AW l G y cc nL rt d mc ms Q (cells + 1) (slots + N) (pc + 3) L (.ref m :: st) (LX lay k x (ys ++ [(kd, N, List.replicate N none)])) I) : AW l G y cc nL rt d mc ms Q cells slots pc L (.int v :: st) (LX lay k x ys) I := by
  have e : (LX lay k x ys).length = m := LX_len.trans hm
  refine A_newq N kd idx Cn own hkd hv hN hc ho h1 h2 (by rw [e]; exact hb) hd ?_
  rw [e, zr_id (hz m (Nat.le_refl _)), LX_app]
  exact kk
theorem N_n {ci N idx : Nat} {C : String} {T : u_T} {ty : Nat → FieldType} {own : String} (m : Nat) (hcf : CF ci C T N ty) (hc : Cond.classLink own idx C ∈ tb) (ho : y.cls = own) (h1 : cells + 1 ≤ mc) (h2 : slots + N ≤ ms) (hm : lay.length + ys.length = m) (hb : m < 99999) (hz : Zf m I) (hd : decode cc pc = .ok (.new idx, 3)) (kk : AW l G y cc nL rt d mc ms Q (cells + 1) (slots + N) (pc + 3) L (.ref m :: st) (LX lay k x (ys ++ [(ci, N, List.replicate N none)])) I) : AW l G y cc nL rt d mc ms Q cells slots pc L st (LX lay k x ys) I := by
  have e : (LX lay k x ys).length = m := LX_len.trans hm
  refine A_new hcf hc ho h1 h2 (by rw [e]; exact hb) hd ?_
  rw [e, zr_id (hz m (Nat.le_refl _)), LX_app]
  exact kk
theorem N_p {ci N i idx r : Nat} {rs : List (Option Nat)} {ft : FieldType} {own : String} (hf : FR own idx ci i true true ft) (ho : y.cls = own) (hin2 : y.name = "<init>") (hk : k < lay.length) (hi2 : i < rs.length) (hn : narrow ft .null = .null) (hfit : ∀ a : Nat, narrow ft (.ref a) = .ref a ∧ fits ft (.ref a) = true) (hd : decode cc pc = .ok (.putfield idx, 3)) (kk : AW l G y cc nL rt d mc ms Q cells slots (pc + 3) L st (LX lay k (ci, N, rs.set i (some r)) ys) I) : AW l G y cc nL rt d mc ms Q cells slots pc L (.ref r :: .ref k :: st) (LX lay k (ci, N, rs) ys) I := by
  refine A_putFR hf ho hin2 (LX_at hk) hi2 hn hfit hd ?_
  rw [LX_set hk]
  exact kk
theorem N_a {n kd r ci N m : Nat} {rs rr : List (Option Nat)} {i : Int32} (j p e : Nat) (hi : i = nI j) (hm : lay.length + p = m) (hp : ys[p]? = some (kd, n, rs)) (he : lay.length + e = r) (hr : ys[e]? = some (ci, N, rr)) (hkd : kd = 11 ∧ ci = 1 ∨ kd = 12 ∧ ci = 3 ∨ kd = 13 ∧ ci = 4) (hlt : j < n) (hl2 : j < rs.length) (hn : n < 2 ^ 31) (hd : decode cc pc = .ok (.aastore, 1)) (kk : AW l G y cc nL rt d mc ms Q cells slots (pc + 1) L st (LX lay k x (ys.set p (kd, n, rs.set j (some r)))) I) : AW l G y cc nL rt d mc ms Q cells slots pc L (.ref r :: .int i :: .ref m :: st) (LX lay k x ys) I := by
  refine A_aast j hi ((LX_at2 hm).trans hp) ((LX_at2 he).trans hr) hkd hlt hl2 hn hd ?_
  rw [LX_set2 hm]
  exact kk
theorem N_c {y' : MethodName} {cc' : ByteArray} {nL' : Nat} {d' mc' ms' n idx m : Nat} {own : String} {stk : List Value} {As : List Value} {o o' : Nat × Nat × List (Option Nat)} {zs : Lay} {I2 : Hp} (hm : lay.length + ys.length = m) (hM : Meth l G y' cc' nL' none d' mc' ms' (.ref m :: As) (LX lay k x (ys ++ [o])) I (fun r lay1 I1 => r = none ∧ lay1 = LX (LX lay k x (ys ++ [o])) m o' zs ∧ I1 = I2)) (hmi : MI y' cc' nL' n) (hl : Cond.methodLink own idx y' ∈ tb) (ho : y.cls = own) (hn : As.length = n) (hzs : zs.length = mc') (hstk : stk = As.reverse ++ .ref m :: st) (hst : (st.map fun v => v.category).sum ≤ 8) (h1 : d' + 1 ≤ d) (h2 : cells + mc' ≤ mc) (h3 : slots + ms' ≤ ms) (hd : decode cc pc = .ok (.invokespecial idx, 3)) (kk : AW l G y cc nL rt d mc ms Q (cells + mc') (slots + ms') (pc + 3) L st (LX lay k x (ys ++ [o'] ++ zs)) I2) : AW l G y cc nL rt d mc ms Q cells slots pc L stk (LX lay k x (ys ++ [o])) I := by
  refine A_callI hM hmi hl ho hn hstk hst h1 h2 h3 hd (fun v lay' I' hq => ?_) (fun v lay' I' hq => ?_)
  · rw [hq.2.1, LX_len, hzs]
  · obtain ⟨rfl, rfl, rfl⟩ := hq
    rw [LX_nest hm]
    exact kk
end NWR
set_option maxHeartbeats 4000000 in
set_option maxRecDepth 100000 in
theorem n_law (l : Launch) (G : Gm) (lay : Lay) (I : Hp) (n k : Nat) (hn : lay.length = n) (hb : n < 9000) (hk : lay[k]? = some (1, 4, [none, none, none, none])) (hz : Zf n I) : Meth l G yX2_init cX2_init 1 none 1 1 96 [.ref k] lay I (fun r lay1 I1 => r = none ∧ lay1 = LX lay k (1, 4, [none, none, some n, none]) [(9, 96, [])] ∧ I1 = I) := by
  have hkl : k < lay.length := (List.getElem?_eq_some_iff.mp hk).1
  refine Meth.of (by decide +kernel) (by simp [Value.category]) (Nat.le_of_ble_eq_true rfl) ?_
  refine AW_lay (LX_nil hk).symm ?_
  refine A_aload_n rfl dX2_init_0 ?_
  refine A_objInit ml_X2_3 rfl (by decide) (Nat.le_of_ble_eq_true rfl) dX2_init_1 ?_
  refine A_aload_n rfl dX2_init_4 ?_
  refine A_bipush bp_96 dX2_init_5 ?_
  refine N_I 96 n rfl (by decide) (Nat.le_of_ble_eq_true rfl) (Nat.le_of_ble_eq_true rfl) (congrArg (fun z => z + 0) hn) (by omega) (hz.le (by omega)) dX2_init_7 ?_
  refine AW_lay (lay := LX lay k (1, 4, [none, none, none, none]) [(9, 96, [])]) rfl ?_
  refine N_p fr_X2_9 rfl rfl hkl (Nat.le_of_ble_eq_true rfl) rfl (fun _ => ⟨rfl, rfl⟩) dX2_init_9 ?_
  refine AW_lay (lay := LX lay k (1, 4, [none, none, some n, none]) [(9, 96, [])]) rfl ?_
  refine A_vret rfl rfl rfl dX2_init_12 ?_
  exact ⟨rfl, rfl, rfl⟩
set_option maxHeartbeats 4000000 in
set_option maxRecDepth 100000 in
theorem n_row (l : Launch) (G : Gm) (lay : Lay) (I : Hp) (n k : Nat) (hn : lay.length = n) (hb : n < 9000) (hk : lay[k]? = some (3, 3, [none, none, none])) (hz : Zf n I) : Meth l G yX4_init cX4_init 1 none 1 1 24 [.ref k] lay I (fun r lay1 I1 => r = none ∧ lay1 = LX lay k (3, 3, [none, none, some n]) [(9, 24, [])] ∧ I1 = (up2 I k 0 (-1))) := by
  have hkl : k < lay.length := (List.getElem?_eq_some_iff.mp hk).1
  refine Meth.of (by decide +kernel) (by simp [Value.category]) (Nat.le_of_ble_eq_true rfl) ?_
  refine AW_lay (LX_nil hk).symm ?_
  refine A_aload_n rfl dX4_init_0 ?_
  refine A_objInit ml_X4_3 rfl (by decide) (Nat.le_of_ble_eq_true rfl) dX4_init_1 ?_
  refine A_aload_n rfl dX4_init_4 ?_
  refine A_iconst ic_m1 dX4_init_5 ?_
  refine A_putI fr_X4_9 rfl (LX_at hkl) rfl rfl dX4_init_6 ?_
  refine A_aload_n rfl dX4_init_9 ?_
  refine A_bipush bp_24 dX4_init_10 ?_
  refine N_I 24 n rfl (by decide) (Nat.le_of_ble_eq_true rfl) (Nat.le_of_ble_eq_true rfl) (congrArg (fun z => z + 0) hn) (by omega) (((hz.le (m := n) (by omega)).up (by omega)).le (by omega)) dX4_init_12 ?_
  refine AW_lay (lay := LX lay k (3, 3, [none, none, none]) [(9, 24, [])]) rfl ?_
  refine N_p fr_X4_15 rfl rfl hkl (Nat.le_of_ble_eq_true rfl) rfl (fun _ => ⟨rfl, rfl⟩) dX4_init_14 ?_
  refine AW_lay (lay := LX lay k (3, 3, [none, none, some n]) [(9, 24, [])]) rfl ?_
  refine A_vret rfl rfl rfl dX4_init_17 ?_
  exact ⟨rfl, rfl, rfl⟩
