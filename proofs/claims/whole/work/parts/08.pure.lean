/-! pure rows on sets of facts -/
theorem nI_back (z : Int32) : nI z.toBitVec.toNat = z := by
  apply Int32.toBitVec_inj.mp
  apply BitVec.eq_of_toNat_eq
  rw [pk_tn z.toBitVec.isLt]
theorem and_lt {x y : Int32} {m : Nat} (hx : x = nI m) (hm : m < 256) : ∃ r, r < 256 ∧ x &&& y = nI r := by
  refine ⟨(x &&& y).toBitVec.toNat, ?_, (nI_back _).symm⟩
  rw [Int32.toBitVec_and, BitVec.toNat_and, hx, pk_tn (by omega)]
  exact Nat.lt_of_le_of_lt Nat.and_le_left hm
theorem or_lt {x y : Int32} {m q : Nat} (hx : x = nI m) (hm : m < 256) (hy : y = nI q) (hq : q < 256) : ∃ r, r < 256 ∧ x ||| y = nI r := by
  refine ⟨(x ||| y).toBitVec.toNat, ?_, (nI_back _).symm⟩
  rw [Int32.toBitVec_or, BitVec.toNat_or, hx, hy, pk_tn (by omega), pk_tn (by omega)]
  exact Nat.or_lt_two_pow (n := 8) hm hq
/-- a told fact as a set of one -/
def q_tb (t : Int32) : Int32 := if t < 0 then 0 else 1 <<< (t &&& 31)
theorem best_congr {g : Bool} {p q : Nat → Bool} : ∀ k, (∀ f, f < k → p f = q f) → q_best g p k = q_best g q k
  | 0, _ => rfl
  | k + 1, h => by rw [q_best, q_best, best_congr k (fun f hf => h f (by omega)), h k (by omega)]
theorem best_in {g : Bool} {p : Nat → Bool} : ∀ k, q_best g p k = -1 ∨ ∃ f, f < k ∧ q_best g p k = nI f
  | 0 => Or.inl rfl
  | k + 1 => by
    rw [q_best]
    split
    · exact Or.inr ⟨k, by omega, rfl⟩
    · rcases best_in (g := g) (p := p) k with h | ⟨f, h1, h2⟩
      · exact Or.inl h
      · exact Or.inr ⟨f, by omega, h2⟩
theorem least_ok : ∀ m, m < 256 → nI m &&& -(nI m) = q_tb (q_best false (fun f => decide (q_bit (nI m) f = 1)) 8) := by decide +kernel
theorem great_ok : ∀ m, m < 256 → q_gr (nI m) 8 = q_tb (q_best true (fun f => decide (q_bit (nI m) f = 1)) 8) := by decide +kernel
theorem best_no {g : Bool} {p : Nat → Bool} : ∀ k, (∀ f, f < k → p f = false) → q_best g p k = -1
  | 0, _ => rfl
  | k + 1, h => by rw [q_best, h k (by omega), best_no k (fun f hf => h f (by omega))]; rfl
theorem bit_0 : ∀ f, f < 8 → q_bit 0 f = 0 := by decide +kernel
theorem and1_and (a b : Int32) : (a &&& b) &&& 1 = (a &&& 1) &&& (b &&& 1) := by
  apply Int32.toBitVec_inj.mp
  simp only [Int32.toBitVec_and]
  ext i hi
  simp only [BitVec.getElem_and]
  cases a.toBitVec[i] <;> cases b.toBitVec[i] <;> simp
theorem shr_and (a b s : Int32) : (a &&& b) >>> s = (a >>> s) &&& (b >>> s) := by
  apply Int32.toBitVec_inj.mp
  simp [BitVec.sshiftRight_and_distrib]
theorem bit_and (a b : Int32) (f : Nat) : q_bit (a &&& b) f = q_bit a f &&& q_bit b f := by
  unfold q_bit
  rw [shr_and, and1_and]
theorem bit_01 (a : Int32) (f : Nat) : q_bit a f = 0 ∨ q_bit a f = 1 := by
  unfold q_bit
  obtain ⟨r, h1, h2⟩ := pk_andE (a >>> (nI f &&& 31)) (m := 1) 1 rfl
  rw [h2]
  rcases (show r = 0 ∨ r = 1 by omega) with rfl | rfl
  · exact Or.inl rfl
  · exact Or.inr rfl
def q_swB (b : Nat → Bool) : Nat → Int32
  | 0 => 0
  | f + 1 => if b f then q_swB b f ||| (1 <<< (nI f &&& 31)) else q_swB b f
theorem sway_B (N : Nrow) : ∀ k, q_sway N k = q_swB (fun f => decide (0 < N (8 + f))) k
  | 0 => rfl
  | k + 1 => by
    rw [q_sway, q_swB, sway_B N k]
    by_cases h : N (8 + k) ≤ 0
    · rw [if_pos h, if_neg (by simpa using h)]
    · rw [if_neg h, if_pos (by simpa using Int32.not_le.mp h)]
def q_sw8 (c0 c1 c2 c3 c4 c5 c6 c7 : Bool) : Nat → Bool := fun f => match f with
  | 0 => c0 | 1 => c1 | 2 => c2 | 3 => c3 | 4 => c4 | 5 => c5 | 6 => c6 | _ => c7
theorem sw8_bit : ∀ c0 c1 c2 c3 c4 c5 c6 c7 : Bool, ∀ f, f < 8 → q_bit (q_swB (q_sw8 c0 c1 c2 c3 c4 c5 c6 c7) 8) f = b2i (q_sw8 c0 c1 c2 c3 c4 c5 c6 c7 f) := by decide +kernel
theorem sw8_lt : ∀ c0 c1 c2 c3 c4 c5 c6 c7 : Bool, (q_swB (q_sw8 c0 c1 c2 c3 c4 c5 c6 c7) 8).toBitVec.toNat < 256 := by decide +kernel
theorem swB_congr {b c : Nat → Bool} : ∀ k, (∀ f, f < k → b f = c f) → q_swB b k = q_swB c k
  | 0, _ => rfl
  | k + 1, h => by rw [q_swB, q_swB, swB_congr k (fun f hf => h f (by omega)), h k (by omega)]
theorem sw8_of (b : Nat → Bool) : ∀ f, f < 8 → b f = q_sw8 (b 0) (b 1) (b 2) (b 3) (b 4) (b 5) (b 6) (b 7) f := by
  intro f hf
  rcases (show f = 0 ∨ f = 1 ∨ f = 2 ∨ f = 3 ∨ f = 4 ∨ f = 5 ∨ f = 6 ∨ f = 7 by omega) with rfl | rfl | rfl | rfl | rfl | rfl | rfl | rfl <;> rfl
theorem swB_bit (b : Nat → Bool) (f : Nat) (hf : f < 8) : q_bit (q_swB b 8) f = b2i (b f) := by
  rw [swB_congr 8 (sw8_of b), sw8_bit _ _ _ _ _ _ _ _ f hf, ← sw8_of b f hf]
theorem sway_bit (N : Nrow) (x : Int32) (f : Nat) (hf : f < 8) : decide (q_bit (x &&& q_sway N 8) f = 1) = (decide (q_bit x f = 1) && decide (0 < N (8 + f))) := by
  rw [bit_and, sway_B, swB_bit _ f hf]
  rcases bit_01 x f with h | h <;> rw [h] <;> by_cases hw : 0 < N (8 + f) <;> simp [hw, b2i]
/-- what a kind tells, as a set of one -/
theorem pass_ok {N : Nrow} {a c : Nat} {sil x : Int32} {m : Nat} (hs : ¬ nI a = sil) (hx : x = N (18 + 5 * a) &&& (N (18 + 5 * c) ^^^ -1)) (hm : x = nI m) (hm2 : m < 256) :
    q_tb (q_tell N sil a c) = if N (16 + 5 * a) = 1 ∨ N (16 + 5 * a) = 3 then q_gr x 8 else if N (16 + 5 * a) = 2 ∨ N (16 + 5 * a) = 4 then (x &&& q_sway N 8) &&& -(x &&& q_sway N 8) else if N (16 + 5 * a) = 5 then 0 else x &&& -x := by
  have hne : ∀ u v : Int32, u ≠ v → decide (u = v) = false := fun u v h => by simp [h]
  by_cases h5 : N (16 + 5 * a) = 5
  · have e : q_tell N sil a c = -1 := by
      unfold q_tell
      refine best_no 8 fun f hf => ?_
      rw [if_pos (Or.inl h5)]
      simp [q_may, bit_0 f hf]
    rw [e, if_neg (by rw [h5]; decide), if_neg (by rw [h5]; decide), if_pos h5]
    rfl
  · have et : q_tell N sil a c = q_best (decide (N (16 + 5 * a) = 1) || decide (N (16 + 5 * a) = 3)) (q_may N (N (16 + 5 * a)) x) 8 := by
      unfold q_tell
      rw [if_neg (fun q => q.elim h5 hs), hx]
    rw [et]
    by_cases h13 : N (16 + 5 * a) = 1 ∨ N (16 + 5 * a) = 3
    · rw [if_pos h13, hm, great_ok m hm2, show (decide (N (16 + 5 * a) = 1) || decide (N (16 + 5 * a) = 3)) = true by rcases h13 with h | h <;> simp [h]]
      congr 1
      refine best_congr 8 fun f hf => ?_
      have hk : (!(decide (N (16 + 5 * a) = 2) || decide (N (16 + 5 * a) = 4))) = true := by rcases h13 with h | h <;> rw [h] <;> decide
      rw [q_may, hk]
      simp
    · rw [if_neg h13, show (decide (N (16 + 5 * a) = 1) || decide (N (16 + 5 * a) = 3)) = false by simpa [not_or] using h13]
      by_cases h24 : N (16 + 5 * a) = 2 ∨ N (16 + 5 * a) = 4
      · rw [if_pos h24]
        obtain ⟨r, hr1, hr2⟩ := and_lt (y := q_sway N 8) hm hm2
        rw [hr2, least_ok r hr1, ← hr2]
        congr 1
        refine best_congr 8 fun f hf => ?_
        rw [sway_bit N x f hf, q_may, show (!(decide (N (16 + 5 * a) = 2) || decide (N (16 + 5 * a) = 4))) = false by rcases h24 with h | h <;> simp [h]]
        simp
      · rw [if_neg h24, if_neg h5, hm, least_ok m hm2]
        congr 1
        refine best_congr 8 fun f hf => ?_
        rw [q_may, show (!(decide (N (16 + 5 * a) = 2) || decide (N (16 + 5 * a) = 4))) = true by simpa using h24]
        simp
theorem upd_id {f : Nat → Int32} {k : Nat} : upd f k (f k) = f := by funext j; unfold upd; split <;> simp_all
theorem tb_or {N : Nrow} {a c : Nat} {t : Int32} : q_pass N a c t = upd (upd N (18 + 5 * c) (N (18 + 5 * c) ||| q_tb t)) (20 + 5 * a) (N (20 + 5 * a) + (if t < 0 then 0 else 1)) := by
  unfold q_pass q_tb
  by_cases h : t < 0
  · rw [if_pos h, if_pos h, if_pos h]
    have e1 : N (18 + 5 * c) ||| 0 = N (18 + 5 * c) := by simp
    rw [e1, upd_id, show N (20 + 5 * a) + 0 = N (20 + 5 * a) by simp, upd_id]
  · rw [if_neg h, if_neg h, if_neg h]
theorem upd_comm {f : Nat → Int32} {i k : Nat} {x y : Int32} (h : i ≠ k) : upd (upd f i x) k y = upd (upd f k y) i x := by
  funext j
  unfold upd
  by_cases h1 : j = k
  · subst h1
    simp [Ne.symm h]
  · simp [h1]
/-- the order in which a pair's numbers are written doesn't matter -/
theorem pal_eq {N : Nrow} {a c : Nat} {ta tc : Int32} (hac : a ≠ c) : q_pass (q_pass N a c ta) c a tc = upd (upd (upd (upd N (18 + 5 * c) (N (18 + 5 * c) ||| q_tb ta)) (18 + 5 * a) (N (18 + 5 * a) ||| q_tb tc)) (20 + 5 * a) (N (20 + 5 * a) + (if ta < 0 then 0 else 1))) (20 + 5 * c) (N (20 + 5 * c) + (if tc < 0 then 0 else 1)) := by
  rw [tb_or, tb_or]
  have e1 : upd (upd N (18 + 5 * c) (N (18 + 5 * c) ||| q_tb ta)) (20 + 5 * a) (N (20 + 5 * a) + (if ta < 0 then 0 else 1)) (18 + 5 * a) = N (18 + 5 * a) := by rw [upd_n (by omega), upd_n (by omega)]
  have e2 : upd (upd N (18 + 5 * c) (N (18 + 5 * c) ||| q_tb ta)) (20 + 5 * a) (N (20 + 5 * a) + (if ta < 0 then 0 else 1)) (20 + 5 * c) = N (20 + 5 * c) := by rw [upd_n (by omega), upd_n (by omega)]
  rw [e1, e2, upd_comm (i := 20 + 5 * a) (k := 18 + 5 * a) (by omega)]
