/-! THE MATHEMATICAL WORDS: a jury's state is a row N of numbers, as the reference has it -/
abbrev Nrow : Type := Nat → Int32
def irem (x z : Int32) : Int32 := x - x / z * z
/-- bits of a set -/
def q_bit (x : Int32) (f : Nat) : Int32 := (x >>> (nI f &&& 31)) &&& 1
def q_bits (x : Int32) : Nat → Int32
  | 0 => 0
  | k + 1 => q_bits x k + q_bit x k
def q_wt (N : Nrow) (x : Int32) : Nat → Int32
  | 0 => 0
  | f + 1 => q_wt N x f + q_bit x f * N (8 + f)
/-- the text that counts -/
def q_cntL (N : Nrow) (key : Int32) : Nat → Int32
  | 0 => -1
  | t + 1 => if N (66 + 2 * t) / 1000 = key then nI t else q_cntL N key t
def q_cnt (N : Nrow) (key : Int32) : Int32 := q_cntL N key (N 7).toNatClampNeg
/-- a sign with two sides, by the reference's numbers -/
def q_two (s a b : Int32) : Int32 :=
  if s = -1 then (if a ≠ 0 ∨ b ≠ 0 then 1 else 0) else if s = -2 then (if a ≠ 0 ∧ b ≠ 0 then 1 else 0) else if s = -3 then (if a < b then 1 else 0) else if s = -4 then (if a = b then 1 else 0) else if s = -5 then (if b < a then 1 else 0) else if s = -6 then a + b else if s = -7 then a - b else if s = -8 then a * b else if b = 0 then 0 else a / b
/-- one step of a text's working out: on a row of numbers with its top -/
def q_ev (nm : Nat → Int32) (cd : Nat → Int32) : Nat → (Nat → Int32) × Nat
  | 0 => (fun _ => 0, 0)
  | k + 1 => let q := q_ev nm cd k
    let c := cd k
    if 0 ≤ c then (upd q.1 q.2 (if c < 10000 then c else nm (c - 10000).toNatClampNeg), q.2 + 1)
    else if c = -10 then (upd q.1 (q.2 - 1) (if q.1 (q.2 - 1) = 0 then 1 else 0), q.2)
    else (upd q.1 (q.2 - 2) (q_two c (q.1 (q.2 - 2)) (q.1 (q.2 - 1))), q.2 - 1)
/-- what a text gives -/
def q_text (N : Nrow) (t : Nat) (a b c : Int32) : Int32 := (q_ev (fun i => if i = 0 then a else if i = 1 then b else c) (fun k => N (94 + 96 * t + k)) (irem (N (66 + 2 * t)) 1000).toNatClampNeg).1 0
def q_hold (v : Int32) : Int32 := if v < 0 then 0 else if 100 < v then 100 else v
/-- believed as a JUROR -/
def q_plain (N : Nrow) (j : Nat) : Int32 :=
  q_hold (if q_cnt N 0 < 0 then 50 + q_wt N (N (18 + 5 * j)) 8 else q_text N (q_cnt N 0).toNatClampNeg (q_bits (N (18 + 5 * j)) 8) (q_wt N (N (18 + 5 * j)) 8) (N (19 + 5 * j)))
def q_less (p d : Int32) : Int32 := if p < d then 0 else p - d
def q_more (p : Int32) : Int32 := q_hold (if 50 < p then p + 10 else if p < 50 then p - 10 else p)
def q_bel (N : Nrow) (j : Nat) : Int32 :=
  if N (16 + 5 * j) = 1 then q_less (q_plain N j) (N (19 + 5 * j)) else if N (16 + 5 * j) = 2 then q_more (q_plain N j) else if N (16 + 5 * j) = 3 then (q_less (q_plain N j) (N (19 + 5 * j)) + 50) / 2 else if N (16 + 5 * j) = 4 then 100 - q_more (q_plain N j) else q_plain N j
def q_gui (N : Nrow) (j : Nat) : Bool := decide (N 3 ≤ q_bel N j)
def q_com (N : Nrow) : Nat → Int32
  | 0 => 255
  | j + 1 => q_com N j &&& N (18 + 5 * j)
def q_any (N : Nrow) : Nat → Int32
  | 0 => 0
  | j + 1 => q_any N j ||| N (18 + 5 * j)
def q_kn (N : Nrow) : Nat → Int32
  | 0 => 0
  | j + 1 => q_kn N j + q_bits (N (18 + 5 * j)) 8
def q_vo (N : Nrow) : Nat → Int32
  | 0 => 0
  | j + 1 => q_vo N j + b2i (q_gui N j)
def q_par (N : Nrow) (j : Int32) : Int32 := if irem (N 2 + N 5 - j) (N 1) < 0 then irem (N 2 + N 5 - j) (N 1) + N 1 else irem (N 2 + N 5 - j) (N 1)
/-- which fact one tells -/
def q_best (g : Bool) (may : Nat → Bool) : Nat → Int32
  | 0 => -1
  | f + 1 => if may f && (decide (q_best g may f < 0) || g) then nI f else q_best g may f
def q_may (N : Nrow) (k s : Int32) (f : Nat) : Bool := decide (q_bit s f = 1) && (!(decide (k = 2) || decide (k = 4)) || decide (0 < N (8 + f)))
def q_tell (N : Nrow) (sil : Int32) (one other : Nat) : Int32 :=
  q_best (decide (N (16 + 5 * one) = 1) || decide (N (16 + 5 * one) = 3)) (q_may N (N (16 + 5 * one)) (if N (16 + 5 * one) = 5 ∨ nI one = sil then 0 else N (18 + 5 * one) &&& (N (18 + 5 * other) ^^^ -1))) 8
def q_z (z : Int32) : Int32 := z * 1103515245 + 12345
def q_r (z : Int32) : Int32 := (z.toUInt32 >>> ((8 : Int32).toUInt32 &&& Int32.toUInt32 31)).toInt32
/-- one has told another one a fact -/
def q_pass (N : Nrow) (one other : Nat) (f : Int32) : Nrow := if f < 0 then N else upd (upd N (18 + 5 * other) (N (18 + 5 * other) ||| (1 <<< (f &&& 31)))) (20 + 5 * one) (N (20 + 5 * one) + 1)
/-- the pair of j in an hour -/
def q_pair (sil : Int32) (N : Nrow) (j : Nat) : Nrow × Int32 :=
  if nI j < q_par N (nI j) then
    (let N1 := upd N 0 (q_z (N 0))
     if irem (q_r (N1 0)) 100 < N1 4 then (upd N1 6 (N1 6 + 1), 0)
     else let o := (q_par N (nI j)).toNatClampNeg
      let a := q_tell N1 sil j o
      let b := q_tell N1 sil o j
      (q_pass (q_pass N1 j o a) o j b, (if a < 0 then 0 else 1) + (if b < 0 then 0 else 1)))
  else (N, 0)
def q_hourL (sil : Int32) (N : Nrow) : Nat → Nrow × Int32
  | 0 => (N, 0)
  | j + 1 => ((q_pair sil (q_hourL sil N j).1 j).1, (q_hourL sil N j).2 + (q_pair sil (q_hourL sil N j).1 j).2)
def q_hour (sil : Int32) (N : Nrow) (n : Nat) : Nrow × Int32 := (upd (q_hourL sil N n).1 2 ((q_hourL sil N n).1 2 + 1), (q_hourL sil N n).2)
def q_go (sil : Int32) (n : Nat) (N : Nrow) : Nat → Nrow × Int32
  | 0 => (N, 0)
  | k + 1 => ((q_hour sil (q_go sil n N k).1 n).1, (q_go sil n N k).2 + (q_hour sil (q_go sil n N k).1 n).2)
/-- a fact comes out -/
def q_outL (N : Nrow) (f : Nat) (way : Int32) : Nat → Nrow × Int32
  | 0 => (N, 0)
  | j + 1 => let q := q_outL N f way j
    if q.1 (17 + 5 * j) = way then (upd q.1 (18 + 5 * j) (q.1 (18 + 5 * j) ||| (1 <<< (nI f &&& 31))), q.2 + (q_bit (q.1 (18 + 5 * j)) f ^^^ 1)) else q
/-- one more juror -/
def q_add (N : Nrow) (n : Nat) (k s w d : Int32) : Nrow := upd (upd (upd (upd (upd (upd N (16 + 5 * n) k) (17 + 5 * n) s) (18 + 5 * n) w) (19 + 5 * n) d) (20 + 5 * n) 0) 1 (N 1 + 1)
/-- a jury's object holds the row -/
def RepJ (I : Hp) (j : Nat) (N : Nrow) : Prop :=
  (I j 8 = N 1 ∧ I j 9 = N 3 ∧ I j 10 = N 4 ∧ I j 11 = N 5 ∧ I j 12 = N 6 ∧ I j 13 = N 2 ∧ I j 14 = N 0 ∧ I j 15 = N 7) ∧
  (∀ i, i < 10 → I (j + 1) i = N (16 + 5 * i)) ∧ (∀ i, i < 10 → I (j + 2) i = N (17 + 5 * i)) ∧ (∀ i, i < 10 → I (j + 3) i = N (18 + 5 * i)) ∧ (∀ i, i < 10 → I (j + 4) i = N (19 + 5 * i)) ∧ (∀ i, i < 10 → I (j + 5) i = N (20 + 5 * i)) ∧
  (∀ f, f < 8 → I (j + 6) f = N (8 + f)) ∧ (∀ k, k < 3 → I (j + 7) k = q_cnt N (nI k))
theorem q_cntL_upd {N : Nrow} {m : Nat} {x key : Int32} (hm : m < 66) : ∀ t, q_cntL (upd N m x) key t = q_cntL N key t
  | 0 => rfl
  | t + 1 => by
    have h : upd N m x (66 + 2 * t) = N (66 + 2 * t) := by unfold upd; rw [if_neg (by omega)]
    rw [q_cntL, q_cntL, h, q_cntL_upd hm t]
theorem q_cnt_upd {N : Nrow} {m : Nat} {x key : Int32} (hm : m < 66) (h7 : m ≠ 7) : q_cnt (upd N m x) key = q_cnt N key := by
  unfold q_cnt
  rw [q_cntL_upd hm, show upd N m x 7 = N 7 from by unfold upd; rw [if_neg (by omega)]]
theorem upd_s {f : Nat → Int32} {k : Nat} {x : Int32} : upd f k x k = x := by simp [upd]
theorem upd_n {f : Nat → Int32} {k j : Nat} {x : Int32} (h : j ≠ k) : upd f k x j = f j := by simp [upd, h]
theorem RepJ.size {I : Hp} {j : Nat} {N : Nrow} {x : Int32} (h : RepJ I j N) : RepJ (up2 I j 8 x) j (upd N 1 x) :=
  ⟨⟨by rw [up2_same, upd_s], by rw [up2_ni (by decide), upd_n (by decide)]; exact h.1.2.1, by rw [up2_ni (by decide), upd_n (by decide)]; exact h.1.2.2.1, by rw [up2_ni (by decide), upd_n (by decide)]; exact h.1.2.2.2.1, by rw [up2_ni (by decide), upd_n (by decide)]; exact h.1.2.2.2.2.1, by rw [up2_ni (by decide), upd_n (by decide)]; exact h.1.2.2.2.2.2.1, by rw [up2_ni (by decide), upd_n (by decide)]; exact h.1.2.2.2.2.2.2.1, by rw [up2_ni (by decide), upd_n (by decide)]; exact h.1.2.2.2.2.2.2.2⟩, fun i hi => by rw [up2_ne (by omega), upd_n (by omega)]; exact h.2.1 i hi, fun i hi => by rw [up2_ne (by omega), upd_n (by omega)]; exact h.2.2.1 i hi, fun i hi => by rw [up2_ne (by omega), upd_n (by omega)]; exact h.2.2.2.1 i hi, fun i hi => by rw [up2_ne (by omega), upd_n (by omega)]; exact h.2.2.2.2.1 i hi, fun i hi => by rw [up2_ne (by omega), upd_n (by omega)]; exact h.2.2.2.2.2.1 i hi, fun i hi => by rw [up2_ne (by omega), upd_n (by omega)]; exact h.2.2.2.2.2.2.1 i hi, fun k hk => by rw [up2_ne (by omega), q_cnt_upd (by decide) (by decide)]; exact h.2.2.2.2.2.2.2 k hk⟩
theorem RepJ.bar {I : Hp} {j : Nat} {N : Nrow} {x : Int32} (h : RepJ I j N) : RepJ (up2 I j 9 x) j (upd N 3 x) :=
  ⟨⟨by rw [up2_ni (by decide), upd_n (by decide)]; exact h.1.1, by rw [up2_same, upd_s], by rw [up2_ni (by decide), upd_n (by decide)]; exact h.1.2.2.1, by rw [up2_ni (by decide), upd_n (by decide)]; exact h.1.2.2.2.1, by rw [up2_ni (by decide), upd_n (by decide)]; exact h.1.2.2.2.2.1, by rw [up2_ni (by decide), upd_n (by decide)]; exact h.1.2.2.2.2.2.1, by rw [up2_ni (by decide), upd_n (by decide)]; exact h.1.2.2.2.2.2.2.1, by rw [up2_ni (by decide), upd_n (by decide)]; exact h.1.2.2.2.2.2.2.2⟩, fun i hi => by rw [up2_ne (by omega), upd_n (by omega)]; exact h.2.1 i hi, fun i hi => by rw [up2_ne (by omega), upd_n (by omega)]; exact h.2.2.1 i hi, fun i hi => by rw [up2_ne (by omega), upd_n (by omega)]; exact h.2.2.2.1 i hi, fun i hi => by rw [up2_ne (by omega), upd_n (by omega)]; exact h.2.2.2.2.1 i hi, fun i hi => by rw [up2_ne (by omega), upd_n (by omega)]; exact h.2.2.2.2.2.1 i hi, fun i hi => by rw [up2_ne (by omega), upd_n (by omega)]; exact h.2.2.2.2.2.2.1 i hi, fun k hk => by rw [up2_ne (by omega), q_cnt_upd (by decide) (by decide)]; exact h.2.2.2.2.2.2.2 k hk⟩
theorem RepJ.slip {I : Hp} {j : Nat} {N : Nrow} {x : Int32} (h : RepJ I j N) : RepJ (up2 I j 10 x) j (upd N 4 x) :=
  ⟨⟨by rw [up2_ni (by decide), upd_n (by decide)]; exact h.1.1, by rw [up2_ni (by decide), upd_n (by decide)]; exact h.1.2.1, by rw [up2_same, upd_s], by rw [up2_ni (by decide), upd_n (by decide)]; exact h.1.2.2.2.1, by rw [up2_ni (by decide), upd_n (by decide)]; exact h.1.2.2.2.2.1, by rw [up2_ni (by decide), upd_n (by decide)]; exact h.1.2.2.2.2.2.1, by rw [up2_ni (by decide), upd_n (by decide)]; exact h.1.2.2.2.2.2.2.1, by rw [up2_ni (by decide), upd_n (by decide)]; exact h.1.2.2.2.2.2.2.2⟩, fun i hi => by rw [up2_ne (by omega), upd_n (by omega)]; exact h.2.1 i hi, fun i hi => by rw [up2_ne (by omega), upd_n (by omega)]; exact h.2.2.1 i hi, fun i hi => by rw [up2_ne (by omega), upd_n (by omega)]; exact h.2.2.2.1 i hi, fun i hi => by rw [up2_ne (by omega), upd_n (by omega)]; exact h.2.2.2.2.1 i hi, fun i hi => by rw [up2_ne (by omega), upd_n (by omega)]; exact h.2.2.2.2.2.1 i hi, fun i hi => by rw [up2_ne (by omega), upd_n (by omega)]; exact h.2.2.2.2.2.2.1 i hi, fun k hk => by rw [up2_ne (by omega), q_cnt_upd (by decide) (by decide)]; exact h.2.2.2.2.2.2.2 k hk⟩
theorem RepJ.turn {I : Hp} {j : Nat} {N : Nrow} {x : Int32} (h : RepJ I j N) : RepJ (up2 I j 11 x) j (upd N 5 x) :=
  ⟨⟨by rw [up2_ni (by decide), upd_n (by decide)]; exact h.1.1, by rw [up2_ni (by decide), upd_n (by decide)]; exact h.1.2.1, by rw [up2_ni (by decide), upd_n (by decide)]; exact h.1.2.2.1, by rw [up2_same, upd_s], by rw [up2_ni (by decide), upd_n (by decide)]; exact h.1.2.2.2.2.1, by rw [up2_ni (by decide), upd_n (by decide)]; exact h.1.2.2.2.2.2.1, by rw [up2_ni (by decide), upd_n (by decide)]; exact h.1.2.2.2.2.2.2.1, by rw [up2_ni (by decide), upd_n (by decide)]; exact h.1.2.2.2.2.2.2.2⟩, fun i hi => by rw [up2_ne (by omega), upd_n (by omega)]; exact h.2.1 i hi, fun i hi => by rw [up2_ne (by omega), upd_n (by omega)]; exact h.2.2.1 i hi, fun i hi => by rw [up2_ne (by omega), upd_n (by omega)]; exact h.2.2.2.1 i hi, fun i hi => by rw [up2_ne (by omega), upd_n (by omega)]; exact h.2.2.2.2.1 i hi, fun i hi => by rw [up2_ne (by omega), upd_n (by omega)]; exact h.2.2.2.2.2.1 i hi, fun i hi => by rw [up2_ne (by omega), upd_n (by omega)]; exact h.2.2.2.2.2.2.1 i hi, fun k hk => by rw [up2_ne (by omega), q_cnt_upd (by decide) (by decide)]; exact h.2.2.2.2.2.2.2 k hk⟩
theorem RepJ.slips {I : Hp} {j : Nat} {N : Nrow} {x : Int32} (h : RepJ I j N) : RepJ (up2 I j 12 x) j (upd N 6 x) :=
  ⟨⟨by rw [up2_ni (by decide), upd_n (by decide)]; exact h.1.1, by rw [up2_ni (by decide), upd_n (by decide)]; exact h.1.2.1, by rw [up2_ni (by decide), upd_n (by decide)]; exact h.1.2.2.1, by rw [up2_ni (by decide), upd_n (by decide)]; exact h.1.2.2.2.1, by rw [up2_same, upd_s], by rw [up2_ni (by decide), upd_n (by decide)]; exact h.1.2.2.2.2.2.1, by rw [up2_ni (by decide), upd_n (by decide)]; exact h.1.2.2.2.2.2.2.1, by rw [up2_ni (by decide), upd_n (by decide)]; exact h.1.2.2.2.2.2.2.2⟩, fun i hi => by rw [up2_ne (by omega), upd_n (by omega)]; exact h.2.1 i hi, fun i hi => by rw [up2_ne (by omega), upd_n (by omega)]; exact h.2.2.1 i hi, fun i hi => by rw [up2_ne (by omega), upd_n (by omega)]; exact h.2.2.2.1 i hi, fun i hi => by rw [up2_ne (by omega), upd_n (by omega)]; exact h.2.2.2.2.1 i hi, fun i hi => by rw [up2_ne (by omega), upd_n (by omega)]; exact h.2.2.2.2.2.1 i hi, fun i hi => by rw [up2_ne (by omega), upd_n (by omega)]; exact h.2.2.2.2.2.2.1 i hi, fun k hk => by rw [up2_ne (by omega), q_cnt_upd (by decide) (by decide)]; exact h.2.2.2.2.2.2.2 k hk⟩
theorem RepJ.hour {I : Hp} {j : Nat} {N : Nrow} {x : Int32} (h : RepJ I j N) : RepJ (up2 I j 13 x) j (upd N 2 x) :=
  ⟨⟨by rw [up2_ni (by decide), upd_n (by decide)]; exact h.1.1, by rw [up2_ni (by decide), upd_n (by decide)]; exact h.1.2.1, by rw [up2_ni (by decide), upd_n (by decide)]; exact h.1.2.2.1, by rw [up2_ni (by decide), upd_n (by decide)]; exact h.1.2.2.2.1, by rw [up2_ni (by decide), upd_n (by decide)]; exact h.1.2.2.2.2.1, by rw [up2_same, upd_s], by rw [up2_ni (by decide), upd_n (by decide)]; exact h.1.2.2.2.2.2.2.1, by rw [up2_ni (by decide), upd_n (by decide)]; exact h.1.2.2.2.2.2.2.2⟩, fun i hi => by rw [up2_ne (by omega), upd_n (by omega)]; exact h.2.1 i hi, fun i hi => by rw [up2_ne (by omega), upd_n (by omega)]; exact h.2.2.1 i hi, fun i hi => by rw [up2_ne (by omega), upd_n (by omega)]; exact h.2.2.2.1 i hi, fun i hi => by rw [up2_ne (by omega), upd_n (by omega)]; exact h.2.2.2.2.1 i hi, fun i hi => by rw [up2_ne (by omega), upd_n (by omega)]; exact h.2.2.2.2.2.1 i hi, fun i hi => by rw [up2_ne (by omega), upd_n (by omega)]; exact h.2.2.2.2.2.2.1 i hi, fun k hk => by rw [up2_ne (by omega), q_cnt_upd (by decide) (by decide)]; exact h.2.2.2.2.2.2.2 k hk⟩
theorem RepJ.z {I : Hp} {j : Nat} {N : Nrow} {x : Int32} (h : RepJ I j N) : RepJ (up2 I j 14 x) j (upd N 0 x) :=
  ⟨⟨by rw [up2_ni (by decide), upd_n (by decide)]; exact h.1.1, by rw [up2_ni (by decide), upd_n (by decide)]; exact h.1.2.1, by rw [up2_ni (by decide), upd_n (by decide)]; exact h.1.2.2.1, by rw [up2_ni (by decide), upd_n (by decide)]; exact h.1.2.2.2.1, by rw [up2_ni (by decide), upd_n (by decide)]; exact h.1.2.2.2.2.1, by rw [up2_ni (by decide), upd_n (by decide)]; exact h.1.2.2.2.2.2.1, by rw [up2_same, upd_s], by rw [up2_ni (by decide), upd_n (by decide)]; exact h.1.2.2.2.2.2.2.2⟩, fun i hi => by rw [up2_ne (by omega), upd_n (by omega)]; exact h.2.1 i hi, fun i hi => by rw [up2_ne (by omega), upd_n (by omega)]; exact h.2.2.1 i hi, fun i hi => by rw [up2_ne (by omega), upd_n (by omega)]; exact h.2.2.2.1 i hi, fun i hi => by rw [up2_ne (by omega), upd_n (by omega)]; exact h.2.2.2.2.1 i hi, fun i hi => by rw [up2_ne (by omega), upd_n (by omega)]; exact h.2.2.2.2.2.1 i hi, fun i hi => by rw [up2_ne (by omega), upd_n (by omega)]; exact h.2.2.2.2.2.2.1 i hi, fun k hk => by rw [up2_ne (by omega), q_cnt_upd (by decide) (by decide)]; exact h.2.2.2.2.2.2.2 k hk⟩
theorem RepJ.kind {I : Hp} {j q : Nat} {N : Nrow} {x : Int32} (h : RepJ I j N) (hq : q < 10) : RepJ (up2 I (j + 1) q x) j (upd N (16 + 5 * q) x) :=
  ⟨⟨by rw [up2_ne (by omega), upd_n (by omega)]; exact h.1.1, by rw [up2_ne (by omega), upd_n (by omega)]; exact h.1.2.1, by rw [up2_ne (by omega), upd_n (by omega)]; exact h.1.2.2.1, by rw [up2_ne (by omega), upd_n (by omega)]; exact h.1.2.2.2.1, by rw [up2_ne (by omega), upd_n (by omega)]; exact h.1.2.2.2.2.1, by rw [up2_ne (by omega), upd_n (by omega)]; exact h.1.2.2.2.2.2.1, by rw [up2_ne (by omega), upd_n (by omega)]; exact h.1.2.2.2.2.2.2.1, by rw [up2_ne (by omega), upd_n (by omega)]; exact h.1.2.2.2.2.2.2.2⟩, fun i hi => by
    by_cases e : i = q
    · subst e
      rw [up2_same, upd_s]
    · rw [up2_ni e, upd_n (by omega)]
      exact h.2.1 i hi, fun i hi => by rw [up2_ne (by omega), upd_n (by omega)]; exact h.2.2.1 i hi, fun i hi => by rw [up2_ne (by omega), upd_n (by omega)]; exact h.2.2.2.1 i hi, fun i hi => by rw [up2_ne (by omega), upd_n (by omega)]; exact h.2.2.2.2.1 i hi, fun i hi => by rw [up2_ne (by omega), upd_n (by omega)]; exact h.2.2.2.2.2.1 i hi, fun i hi => by rw [up2_ne (by omega), upd_n (by omega)]; exact h.2.2.2.2.2.2.1 i hi, fun k hk => by rw [up2_ne (by omega), q_cnt_upd (by omega) (by omega)]; exact h.2.2.2.2.2.2.2 k hk⟩
theorem RepJ.side {I : Hp} {j q : Nat} {N : Nrow} {x : Int32} (h : RepJ I j N) (hq : q < 10) : RepJ (up2 I (j + 2) q x) j (upd N (17 + 5 * q) x) :=
  ⟨⟨by rw [up2_ne (by omega), upd_n (by omega)]; exact h.1.1, by rw [up2_ne (by omega), upd_n (by omega)]; exact h.1.2.1, by rw [up2_ne (by omega), upd_n (by omega)]; exact h.1.2.2.1, by rw [up2_ne (by omega), upd_n (by omega)]; exact h.1.2.2.2.1, by rw [up2_ne (by omega), upd_n (by omega)]; exact h.1.2.2.2.2.1, by rw [up2_ne (by omega), upd_n (by omega)]; exact h.1.2.2.2.2.2.1, by rw [up2_ne (by omega), upd_n (by omega)]; exact h.1.2.2.2.2.2.2.1, by rw [up2_ne (by omega), upd_n (by omega)]; exact h.1.2.2.2.2.2.2.2⟩, fun i hi => by rw [up2_ne (by omega), upd_n (by omega)]; exact h.2.1 i hi, fun i hi => by
    by_cases e : i = q
    · subst e
      rw [up2_same, upd_s]
    · rw [up2_ni e, upd_n (by omega)]
      exact h.2.2.1 i hi, fun i hi => by rw [up2_ne (by omega), upd_n (by omega)]; exact h.2.2.2.1 i hi, fun i hi => by rw [up2_ne (by omega), upd_n (by omega)]; exact h.2.2.2.2.1 i hi, fun i hi => by rw [up2_ne (by omega), upd_n (by omega)]; exact h.2.2.2.2.2.1 i hi, fun i hi => by rw [up2_ne (by omega), upd_n (by omega)]; exact h.2.2.2.2.2.2.1 i hi, fun k hk => by rw [up2_ne (by omega), q_cnt_upd (by omega) (by omega)]; exact h.2.2.2.2.2.2.2 k hk⟩
theorem RepJ.knows {I : Hp} {j q : Nat} {N : Nrow} {x : Int32} (h : RepJ I j N) (hq : q < 10) : RepJ (up2 I (j + 3) q x) j (upd N (18 + 5 * q) x) :=
  ⟨⟨by rw [up2_ne (by omega), upd_n (by omega)]; exact h.1.1, by rw [up2_ne (by omega), upd_n (by omega)]; exact h.1.2.1, by rw [up2_ne (by omega), upd_n (by omega)]; exact h.1.2.2.1, by rw [up2_ne (by omega), upd_n (by omega)]; exact h.1.2.2.2.1, by rw [up2_ne (by omega), upd_n (by omega)]; exact h.1.2.2.2.2.1, by rw [up2_ne (by omega), upd_n (by omega)]; exact h.1.2.2.2.2.2.1, by rw [up2_ne (by omega), upd_n (by omega)]; exact h.1.2.2.2.2.2.2.1, by rw [up2_ne (by omega), upd_n (by omega)]; exact h.1.2.2.2.2.2.2.2⟩, fun i hi => by rw [up2_ne (by omega), upd_n (by omega)]; exact h.2.1 i hi, fun i hi => by rw [up2_ne (by omega), upd_n (by omega)]; exact h.2.2.1 i hi, fun i hi => by
    by_cases e : i = q
    · subst e
      rw [up2_same, upd_s]
    · rw [up2_ni e, upd_n (by omega)]
      exact h.2.2.2.1 i hi, fun i hi => by rw [up2_ne (by omega), upd_n (by omega)]; exact h.2.2.2.2.1 i hi, fun i hi => by rw [up2_ne (by omega), upd_n (by omega)]; exact h.2.2.2.2.2.1 i hi, fun i hi => by rw [up2_ne (by omega), upd_n (by omega)]; exact h.2.2.2.2.2.2.1 i hi, fun k hk => by rw [up2_ne (by omega), q_cnt_upd (by omega) (by omega)]; exact h.2.2.2.2.2.2.2 k hk⟩
theorem RepJ.doubt {I : Hp} {j q : Nat} {N : Nrow} {x : Int32} (h : RepJ I j N) (hq : q < 10) : RepJ (up2 I (j + 4) q x) j (upd N (19 + 5 * q) x) :=
  ⟨⟨by rw [up2_ne (by omega), upd_n (by omega)]; exact h.1.1, by rw [up2_ne (by omega), upd_n (by omega)]; exact h.1.2.1, by rw [up2_ne (by omega), upd_n (by omega)]; exact h.1.2.2.1, by rw [up2_ne (by omega), upd_n (by omega)]; exact h.1.2.2.2.1, by rw [up2_ne (by omega), upd_n (by omega)]; exact h.1.2.2.2.2.1, by rw [up2_ne (by omega), upd_n (by omega)]; exact h.1.2.2.2.2.2.1, by rw [up2_ne (by omega), upd_n (by omega)]; exact h.1.2.2.2.2.2.2.1, by rw [up2_ne (by omega), upd_n (by omega)]; exact h.1.2.2.2.2.2.2.2⟩, fun i hi => by rw [up2_ne (by omega), upd_n (by omega)]; exact h.2.1 i hi, fun i hi => by rw [up2_ne (by omega), upd_n (by omega)]; exact h.2.2.1 i hi, fun i hi => by rw [up2_ne (by omega), upd_n (by omega)]; exact h.2.2.2.1 i hi, fun i hi => by
    by_cases e : i = q
    · subst e
      rw [up2_same, upd_s]
    · rw [up2_ni e, upd_n (by omega)]
      exact h.2.2.2.2.1 i hi, fun i hi => by rw [up2_ne (by omega), upd_n (by omega)]; exact h.2.2.2.2.2.1 i hi, fun i hi => by rw [up2_ne (by omega), upd_n (by omega)]; exact h.2.2.2.2.2.2.1 i hi, fun k hk => by rw [up2_ne (by omega), q_cnt_upd (by omega) (by omega)]; exact h.2.2.2.2.2.2.2 k hk⟩
theorem RepJ.passed {I : Hp} {j q : Nat} {N : Nrow} {x : Int32} (h : RepJ I j N) (hq : q < 10) : RepJ (up2 I (j + 5) q x) j (upd N (20 + 5 * q) x) :=
  ⟨⟨by rw [up2_ne (by omega), upd_n (by omega)]; exact h.1.1, by rw [up2_ne (by omega), upd_n (by omega)]; exact h.1.2.1, by rw [up2_ne (by omega), upd_n (by omega)]; exact h.1.2.2.1, by rw [up2_ne (by omega), upd_n (by omega)]; exact h.1.2.2.2.1, by rw [up2_ne (by omega), upd_n (by omega)]; exact h.1.2.2.2.2.1, by rw [up2_ne (by omega), upd_n (by omega)]; exact h.1.2.2.2.2.2.1, by rw [up2_ne (by omega), upd_n (by omega)]; exact h.1.2.2.2.2.2.2.1, by rw [up2_ne (by omega), upd_n (by omega)]; exact h.1.2.2.2.2.2.2.2⟩, fun i hi => by rw [up2_ne (by omega), upd_n (by omega)]; exact h.2.1 i hi, fun i hi => by rw [up2_ne (by omega), upd_n (by omega)]; exact h.2.2.1 i hi, fun i hi => by rw [up2_ne (by omega), upd_n (by omega)]; exact h.2.2.2.1 i hi, fun i hi => by rw [up2_ne (by omega), upd_n (by omega)]; exact h.2.2.2.2.1 i hi, fun i hi => by
    by_cases e : i = q
    · subst e
      rw [up2_same, upd_s]
    · rw [up2_ni e, upd_n (by omega)]
      exact h.2.2.2.2.2.1 i hi, fun i hi => by rw [up2_ne (by omega), upd_n (by omega)]; exact h.2.2.2.2.2.2.1 i hi, fun k hk => by rw [up2_ne (by omega), q_cnt_upd (by omega) (by omega)]; exact h.2.2.2.2.2.2.2 k hk⟩
theorem RepJ.weight {I : Hp} {j q : Nat} {N : Nrow} {x : Int32} (h : RepJ I j N) (hq : q < 8) : RepJ (up2 I (j + 6) q x) j (upd N (8 + q) x) :=
  ⟨⟨by rw [up2_ne (by omega), upd_n (by omega)]; exact h.1.1, by rw [up2_ne (by omega), upd_n (by omega)]; exact h.1.2.1, by rw [up2_ne (by omega), upd_n (by omega)]; exact h.1.2.2.1, by rw [up2_ne (by omega), upd_n (by omega)]; exact h.1.2.2.2.1, by rw [up2_ne (by omega), upd_n (by omega)]; exact h.1.2.2.2.2.1, by rw [up2_ne (by omega), upd_n (by omega)]; exact h.1.2.2.2.2.2.1, by rw [up2_ne (by omega), upd_n (by omega)]; exact h.1.2.2.2.2.2.2.1, by rw [up2_ne (by omega), upd_n (by omega)]; exact h.1.2.2.2.2.2.2.2⟩, fun i hi => by rw [up2_ne (by omega), upd_n (by omega)]; exact h.2.1 i hi, fun i hi => by rw [up2_ne (by omega), upd_n (by omega)]; exact h.2.2.1 i hi, fun i hi => by rw [up2_ne (by omega), upd_n (by omega)]; exact h.2.2.2.1 i hi, fun i hi => by rw [up2_ne (by omega), upd_n (by omega)]; exact h.2.2.2.2.1 i hi, fun i hi => by rw [up2_ne (by omega), upd_n (by omega)]; exact h.2.2.2.2.2.1 i hi, fun i hi => by
    by_cases e : i = q
    · subst e
      rw [up2_same, upd_s]
    · rw [up2_ni e, upd_n (by omega)]
      exact h.2.2.2.2.2.2.1 i hi, fun k hk => by rw [up2_ne (by omega), q_cnt_upd (by omega) (by omega)]; exact h.2.2.2.2.2.2.2 k hk⟩
theorem RepJ.other {I I1 : Hp} {j : Nat} {N : Nrow} (h : RepJ I j N) (hk : ∀ k, j ≤ k → k < j + 8 → I1 k = I k) : RepJ I1 j N := by
  have e0 := hk j (by omega) (by omega)
  have e1 := hk (j + 1) (by omega) (by omega)
  have e2 := hk (j + 2) (by omega) (by omega)
  have e3 := hk (j + 3) (by omega) (by omega)
  have e4 := hk (j + 4) (by omega) (by omega)
  have e5 := hk (j + 5) (by omega) (by omega)
  have e6 := hk (j + 6) (by omega) (by omega)
  have e7 := hk (j + 7) (by omega) (by omega)
  unfold RepJ
  rw [e0, e1, e2, e3, e4, e5, e6, e7]
  exact h
