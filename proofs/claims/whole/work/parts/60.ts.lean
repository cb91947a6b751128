/-! SIMULATION: the numbers of class and reference, key by key (mine) -/
def ta (k j : Nat) : Nat := match k with
  | 0 => 0
  | 3 => match j with
    | 0 => 1
    | 1 => 2
    | 2 => 3
    | 3 => 8
    | 4 => 9
    | 5 => 10
    | 6 => 11
    | 7 => 12
    | 8 => 13
    | 9 => 14
    | 10 => 15
    | 11 => 16
    | 12 => 20
    | _ => 21
  | 4 => 4
  | 5 => 5
  | 6 => 6
  | 7 => 7
  | 8 => match j with
    | 0 => 17
    | _ => 19
  | 9 => 18
  | 10 => match j with
    | 3 => 27
    | _ => 26
  | _ => match j with
    | 0 => 22
    | 1 => 23
    | 2 => 24
    | _ => 25
def tb (k i j : Nat) : Nat := match k with
  | 0 => match j with
    | 0 => 0
    | 1 => 1
    | 3 => 2
    | _ => 3
  | 5 => 16 * i + j
  | 6 => 16 * i + j
  | 7 => 16 * i + j
  | 9 => 2 * i + j
  | 10 => match j with
    | 3 => i
    | _ => 4 * j + i
  | _ => i
def dm (k i j : Nat) : Bool := match k with
  | 0 => decide (i = 0) && (decide (j = 0) || decide (j = 1) || decide (j = 3) || decide (j = 4))
  | 3 => decide (i < 4) && decide (j < 14)
  | 4 => decide (i < 4) && decide (j = 0)
  | 5 => decide (i < 4) && decide (j < 16)
  | 6 => decide (i < 4) && decide (j < 16)
  | 7 => decide (i < 4) && decide (j < 16)
  | 8 => decide (i < 4) && decide (j < 2)
  | 9 => decide (i < 4) && decide (j < 2)
  | 10 => decide (i < 4) && decide (j < 4)
  | 11 => decide (i < 4) && decide (j < 4)
  | _ => false
/-- the way back -/
def tk (a : Nat) : Nat := if a = 0 then 0 else if a = 4 then 4 else if a = 5 then 5 else if a = 6 then 6 else if a = 7 then 7 else if a = 17 ∨ a = 19 then 8 else if a = 18 then 9 else if a = 26 ∨ a = 27 then 10 else if a = 22 ∨ a = 23 ∨ a = 24 ∨ a = 25 then 11 else 3
def ti (a b : Nat) : Nat := if a = 0 then 0 else if a = 5 ∨ a = 6 ∨ a = 7 then b / 16 else if a = 18 then b / 2 else if a = 26 then b % 4 else b
def tj (a b : Nat) : Nat := if a = 0 then (if b = 0 then 0 else if b = 1 then 1 else if b = 2 then 3 else 4) else if a = 4 then 0 else if a = 5 ∨ a = 6 ∨ a = 7 then b % 16 else if a = 17 then 0 else if a = 19 then 1 else if a = 18 then b % 2 else if a = 27 then 3 else if a = 26 then b / 4 else if a = 22 then 0 else if a = 23 then 1 else if a = 24 then 2 else if a = 25 then 3 else
  if a = 1 then 0 else if a = 2 then 1 else if a = 3 then 2 else if a = 20 then 12 else if a = 21 then 13 else a - 5
theorem dm_b {k i j : Nat} (h : dm k i j = true) : k < 12 ∧ i < 4 ∧ j < 16 := by
  unfold dm at h
  split at h <;> first | (simp only [Bool.and_eq_true, Bool.or_eq_true, decide_eq_true_eq] at h; omega) | cases h
def dmT (k i j : Nat) : Bool := !dm k i j || (tk (ta k j) == k && (ti (ta k j) (tb k i j) == i && (tj (ta k j) (tb k i j) == j && (decide (ta k j < 28) && (!(ta k j == 0) || decide (tb k i j < 4))))))
theorem dmT_all : ((List.range 12).all fun k => (List.range 4).all fun i => (List.range 16).all fun j => dmT k i j) = true := by decide +kernel
theorem dm_inv0 (k : Nat) (hk : k < 12) (i : Nat) (hi : i < 4) (j : Nat) (hj : j < 16) (hd : dm k i j = true) : tk (ta k j) = k ∧ ti (ta k j) (tb k i j) = i ∧ tj (ta k j) (tb k i j) = j ∧ ta k j < 28 ∧ (ta k j = 0 → tb k i j < 4) := by
  have h := List.all_eq_true.mp (List.all_eq_true.mp (List.all_eq_true.mp dmT_all k (List.mem_range.mpr hk)) i (List.mem_range.mpr hi)) j (List.mem_range.mpr hj)
  unfold dmT at h
  rw [hd] at h
  simp only [Bool.not_true, Bool.false_or, Bool.and_eq_true, beq_iff_eq, decide_eq_true_eq, Bool.or_eq_true, Bool.not_eq_true', beq_eq_false_iff_ne] at h
  refine ⟨h.1, h.2.1, h.2.2.1, h.2.2.2.1, fun e => ?_⟩
  rcases h.2.2.2.2 with q | q
  · exact absurd e q
  · exact q
theorem dm_inj {k i j k' i' j' : Nat} (h : dm k i j = true) (h' : dm k' i' j' = true) (ea : ta k j = ta k' j') (eb : tb k i j = tb k' i' j') : k = k' ∧ i = i' ∧ j = j' := by
  obtain ⟨a1, a2, a3⟩ := dm_b h
  obtain ⟨b1, b2, b3⟩ := dm_b h'
  obtain ⟨p1, p2, p3, -⟩ := dm_inv0 k a1 i a2 j a3 h
  obtain ⟨q1, q2, q3, -⟩ := dm_inv0 k' b1 i' b2 j' b3 h'
  rw [ea, eb] at p2 p3
  rw [ea] at p1
  exact ⟨p1.symm.trans q1, p2.symm.trans q2, p3.symm.trans q3⟩
def TS (N M : Nat) (g r : SG) : Prop := ∀ k i j, dm k i j = true → (k = 11 → i < N) → (k = 10 → i < M) → g k i j = r (ta k j) 0 (tb k i j)
theorem TS.up {N M : Nat} {g r : SG} {k i j a b : Nat} {v v' : Int32} (hd : dm k i j = true) (ha : a = ta k j) (hb : b = tb k i j) (h : TS N M g r) (hv : v = v') : TS N M (up3 g k i j v) (up3 r a 0 b v') := by
  subst ha; subst hb; subst hv
  intro k' i' j' hd' hN hM
  rw [up3_at, up3_at]
  by_cases q : k' = k ∧ j' = j ∧ i' = i
  · obtain ⟨q1, q2, q3⟩ := q
    subst q1; subst q2; subst q3
    rw [if_pos ⟨rfl, rfl, rfl⟩, if_pos ⟨rfl, rfl, rfl⟩]
  · rw [if_neg q, if_neg (fun e => q (by obtain ⟨e1, e2, e3⟩ := dm_inj hd' hd e.1 e.2.1; exact ⟨e1, e3, e2⟩))]
    exact h k' i' j' hd' hN hM
theorem TS.upC {N M : Nat} {g r : SG} {k i j : Nat} {v : Int32} (hd : dm k i j = false) (h : TS N M g r) : TS N M (up3 g k i j v) r := by
  intro k' i' j' hd' hN hM
  rw [up3_at, if_neg (fun e => by obtain ⟨e1, e2, e3⟩ := e; subst e1; subst e2; subst e3; rw [hd] at hd'; cases hd')]
  exact h k' i' j' hd' hN hM
/-- an order of a tank whose orders stand for nothing yet -/
theorem TS.upM {N M : Nat} {g r : SG} {i j : Nat} {v : Int32} (hM : M ≤ i) (h : TS N M g r) : TS N M (up3 g 10 i j v) r := by
  intro k' i' j' hd' hN' hM'
  rw [up3_at, if_neg (fun e => by obtain ⟨e1, e2, e3⟩ := e; subst e3; have := hM' e1; omega)]
  exact h k' i' j' hd' hN' hM'
theorem TS.upR {N M : Nat} {g r : SG} {a b : Nat} {v : Int32} (ha : 28 ≤ a ∨ (a = 0 ∧ 4 ≤ b)) (h : TS N M g r) : TS N M g (up3 r a 0 b v) := by
  intro k i j hd hN hM
  obtain ⟨a1, a2, a3⟩ := dm_b hd
  obtain ⟨-, -, -, p1, p2⟩ := dm_inv0 k a1 i a2 j a3 hd
  have hne : ¬ (ta k j = a ∧ tb k i j = b ∧ 0 = 0) := by
    intro e
    obtain ⟨e1, e2, -⟩ := e
    rcases ha with h1 | ⟨h1, h2⟩
    · omega
    · have := p2 (by omega)
      omega
  rw [up3_at, if_neg hne]
  exact h k i j hd hN hM
theorem TS.less {N M M' : Nat} {g r : SG} (h : TS N M g r) (hM : M' ≤ M) : TS N M' g r := fun k i j hd hN hM' => h k i j hd hN (fun e => Nat.lt_of_lt_of_le (hM' e) hM)
theorem dm3 {i j : Nat} (hi : i < 4) (hj : j < 14) : dm 3 i j = true := by simp [dm, hi, hj]
theorem dm4 {i : Nat} (hi : i < 4) : dm 4 i 0 = true := by simp [dm, hi]
theorem dm5 {i j : Nat} (hi : i < 4) (hj : j < 16) : dm 5 i j = true := by simp [dm, hi, hj]
theorem dm6 {i j : Nat} (hi : i < 4) (hj : j < 16) : dm 6 i j = true := by simp [dm, hi, hj]
theorem dm7 {i j : Nat} (hi : i < 4) (hj : j < 16) : dm 7 i j = true := by simp [dm, hi, hj]
theorem dm8 {i j : Nat} (hi : i < 4) (hj : j < 2) : dm 8 i j = true := by simp [dm, hi, hj]
theorem dm9 {i j : Nat} (hi : i < 4) (hj : j < 2) : dm 9 i j = true := by simp [dm, hi, hj]
theorem dm10 {i j : Nat} (hi : i < 4) (hj : j < 4) : dm 10 i j = true := by simp [dm, hi, hj]
theorem dm11 {i j : Nat} (hi : i < 4) (hj : j < 4) : dm 11 i j = true := by simp [dm, hi, hj]
theorem TS.n0 {N M : Nat} {g r : SG} (h : TS N M g r) : r 0 0 0 = g 0 0 0 := (h 0 0 0 rfl (fun e => absurd e (by decide)) (fun e => absurd e (by decide))).symm
theorem TS.n1 {N M : Nat} {g r : SG} (h : TS N M g r) : r 0 0 1 = g 0 0 1 := (h 0 0 1 rfl (fun e => absurd e (by decide)) (fun e => absurd e (by decide))).symm
theorem TS.n2 {N M : Nat} {g r : SG} (h : TS N M g r) : r 0 0 2 = g 0 0 3 := (h 0 0 3 rfl (fun e => absurd e (by decide)) (fun e => absurd e (by decide))).symm
theorem TS.n3 {N M : Nat} {g r : SG} (h : TS N M g r) : r 0 0 3 = g 0 0 4 := (h 0 0 4 rfl (fun e => absurd e (by decide)) (fun e => absurd e (by decide))).symm
theorem TS.r1 {N M : Nat} {g r : SG} (h : TS N M g r) {i : Nat} (hi : i < 4) : r 1 0 i = g 3 i 0 := (h 3 i 0 (dm3 hi (by decide)) (fun e => absurd e (by decide)) (fun e => absurd e (by decide))).symm
theorem TS.r2 {N M : Nat} {g r : SG} (h : TS N M g r) {i : Nat} (hi : i < 4) : r 2 0 i = g 3 i 1 := (h 3 i 1 (dm3 hi (by decide)) (fun e => absurd e (by decide)) (fun e => absurd e (by decide))).symm
theorem TS.r3 {N M : Nat} {g r : SG} (h : TS N M g r) {i : Nat} (hi : i < 4) : r 3 0 i = g 3 i 2 := (h 3 i 2 (dm3 hi (by decide)) (fun e => absurd e (by decide)) (fun e => absurd e (by decide))).symm
theorem TS.r8 {N M : Nat} {g r : SG} (h : TS N M g r) {i : Nat} (hi : i < 4) : r 8 0 i = g 3 i 3 := (h 3 i 3 (dm3 hi (by decide)) (fun e => absurd e (by decide)) (fun e => absurd e (by decide))).symm
theorem TS.r9 {N M : Nat} {g r : SG} (h : TS N M g r) {i : Nat} (hi : i < 4) : r 9 0 i = g 3 i 4 := (h 3 i 4 (dm3 hi (by decide)) (fun e => absurd e (by decide)) (fun e => absurd e (by decide))).symm
theorem TS.r10 {N M : Nat} {g r : SG} (h : TS N M g r) {i : Nat} (hi : i < 4) : r 10 0 i = g 3 i 5 := (h 3 i 5 (dm3 hi (by decide)) (fun e => absurd e (by decide)) (fun e => absurd e (by decide))).symm
theorem TS.r11 {N M : Nat} {g r : SG} (h : TS N M g r) {i : Nat} (hi : i < 4) : r 11 0 i = g 3 i 6 := (h 3 i 6 (dm3 hi (by decide)) (fun e => absurd e (by decide)) (fun e => absurd e (by decide))).symm
theorem TS.r12 {N M : Nat} {g r : SG} (h : TS N M g r) {i : Nat} (hi : i < 4) : r 12 0 i = g 3 i 7 := (h 3 i 7 (dm3 hi (by decide)) (fun e => absurd e (by decide)) (fun e => absurd e (by decide))).symm
theorem TS.r13 {N M : Nat} {g r : SG} (h : TS N M g r) {i : Nat} (hi : i < 4) : r 13 0 i = g 3 i 8 := (h 3 i 8 (dm3 hi (by decide)) (fun e => absurd e (by decide)) (fun e => absurd e (by decide))).symm
theorem TS.r14 {N M : Nat} {g r : SG} (h : TS N M g r) {i : Nat} (hi : i < 4) : r 14 0 i = g 3 i 9 := (h 3 i 9 (dm3 hi (by decide)) (fun e => absurd e (by decide)) (fun e => absurd e (by decide))).symm
theorem TS.r15 {N M : Nat} {g r : SG} (h : TS N M g r) {i : Nat} (hi : i < 4) : r 15 0 i = g 3 i 10 := (h 3 i 10 (dm3 hi (by decide)) (fun e => absurd e (by decide)) (fun e => absurd e (by decide))).symm
theorem TS.r16 {N M : Nat} {g r : SG} (h : TS N M g r) {i : Nat} (hi : i < 4) : r 16 0 i = g 3 i 11 := (h 3 i 11 (dm3 hi (by decide)) (fun e => absurd e (by decide)) (fun e => absurd e (by decide))).symm
theorem TS.r20 {N M : Nat} {g r : SG} (h : TS N M g r) {i : Nat} (hi : i < 4) : r 20 0 i = g 3 i 12 := (h 3 i 12 (dm3 hi (by decide)) (fun e => absurd e (by decide)) (fun e => absurd e (by decide))).symm
theorem TS.r21 {N M : Nat} {g r : SG} (h : TS N M g r) {i : Nat} (hi : i < 4) : r 21 0 i = g 3 i 13 := (h 3 i 13 (dm3 hi (by decide)) (fun e => absurd e (by decide)) (fun e => absurd e (by decide))).symm
theorem TS.r4 {N M : Nat} {g r : SG} (h : TS N M g r) {i : Nat} (hi : i < 4) : r 4 0 i = g 4 i 0 := (h 4 i 0 (dm4 hi) (fun e => absurd e (by decide)) (fun e => absurd e (by decide))).symm
theorem TS.r17 {N M : Nat} {g r : SG} (h : TS N M g r) {i : Nat} (hi : i < 4) : r 17 0 i = g 8 i 0 := (h 8 i 0 (dm8 hi (by decide)) (fun e => absurd e (by decide)) (fun e => absurd e (by decide))).symm
theorem TS.r19 {N M : Nat} {g r : SG} (h : TS N M g r) {i : Nat} (hi : i < 4) : r 19 0 i = g 8 i 1 := (h 8 i 1 (dm8 hi (by decide)) (fun e => absurd e (by decide)) (fun e => absurd e (by decide))).symm
theorem TS.r27 {N M : Nat} {g r : SG} (h : TS N M g r) {i : Nat} (hi : i < 4) (hM : i < M) : r 27 0 i = g 10 i 3 := (h 10 i 3 (dm10 hi (by decide)) (fun e => absurd e (by decide)) (fun _ => hM)).symm
theorem TS.r26a {N M : Nat} {g r : SG} (h : TS N M g r) {i : Nat} (hi : i < 4) (hM : i < M) : r 26 0 i = g 10 i 0 := by
  have := (h 10 i 0 (dm10 hi (by decide)) (fun e => absurd e (by decide)) (fun _ => hM)).symm
  rwa [show tb 10 i 0 = i by simp [tb]] at this
theorem TS.r26b {N M : Nat} {g r : SG} (h : TS N M g r) {i : Nat} (hi : i < 4) (hM : i < M) : r 26 0 (4 + i) = g 10 i 1 := (h 10 i 1 (dm10 hi (by decide)) (fun e => absurd e (by decide)) (fun _ => hM)).symm
theorem TS.r26c {N M : Nat} {g r : SG} (h : TS N M g r) {i : Nat} (hi : i < 4) (hM : i < M) : r 26 0 (8 + i) = g 10 i 2 := (h 10 i 2 (dm10 hi (by decide)) (fun e => absurd e (by decide)) (fun _ => hM)).symm
theorem TS.r5 {N M : Nat} {g r : SG} (h : TS N M g r) {i : Nat} (hi : i < 4) {j : Nat} (hj : j < 16) : r 5 0 (16 * i + j) = g 5 i j := (h 5 i j (dm5 hi hj) (fun e => absurd e (by decide)) (fun e => absurd e (by decide))).symm
theorem TS.r6 {N M : Nat} {g r : SG} (h : TS N M g r) {i : Nat} (hi : i < 4) {j : Nat} (hj : j < 16) : r 6 0 (16 * i + j) = g 6 i j := (h 6 i j (dm6 hi hj) (fun e => absurd e (by decide)) (fun e => absurd e (by decide))).symm
theorem TS.r7 {N M : Nat} {g r : SG} (h : TS N M g r) {i : Nat} (hi : i < 4) {j : Nat} (hj : j < 16) : r 7 0 (16 * i + j) = g 7 i j := (h 7 i j (dm7 hi hj) (fun e => absurd e (by decide)) (fun e => absurd e (by decide))).symm
theorem TS.r18 {N M : Nat} {g r : SG} (h : TS N M g r) {i : Nat} (hi : i < 4) {j : Nat} (hj : j < 2) : r 18 0 (2 * i + j) = g 9 i j := (h 9 i j (dm9 hi hj) (fun e => absurd e (by decide)) (fun e => absurd e (by decide))).symm
theorem TS.r22 {N M : Nat} {g r : SG} (h : TS N M g r) {i : Nat} (hi : i < 4) (hN : i < N) : r 22 0 i = g 11 i 0 := (h 11 i 0 (dm11 hi (by decide)) (fun _ => hN) (fun e => absurd e (by decide))).symm
theorem TS.r23 {N M : Nat} {g r : SG} (h : TS N M g r) {i : Nat} (hi : i < 4) (hN : i < N) : r 23 0 i = g 11 i 1 := (h 11 i 1 (dm11 hi (by decide)) (fun _ => hN) (fun e => absurd e (by decide))).symm
theorem TS.r24 {N M : Nat} {g r : SG} (h : TS N M g r) {i : Nat} (hi : i < 4) (hN : i < N) : r 24 0 i = g 11 i 2 := (h 11 i 2 (dm11 hi (by decide)) (fun _ => hN) (fun e => absurd e (by decide))).symm
theorem TS.r25 {N M : Nat} {g r : SG} (h : TS N M g r) {i : Nat} (hi : i < 4) (hN : i < N) : r 25 0 i = g 11 i 3 := (h 11 i 3 (dm11 hi (by decide)) (fun _ => hN) (fun e => absurd e (by decide))).symm
theorem rabs_eq (x : Int32) : f_Rabs x = iabs x := by
  unfold f_Rabs iabs
  rw [Int32.zero_sub]
theorem i32_add {x y : Int32} {a b : Int} (hx : x.toInt = a) (hy : y.toInt = b) (h0 : -2 ^ 31 ≤ a + b) (h1 : a + b < 2 ^ 31) : (x + y).toInt = a + b := by
  rw [Int32.toInt_add, hx, hy, Int.bmod_eq_of_le (by omega) (by omega)]
theorem i32_sub {x y : Int32} {a b : Int} (hx : x.toInt = a) (hy : y.toInt = b) (h0 : -2 ^ 31 ≤ a - b) (h1 : a - b < 2 ^ 31) : (x - y).toInt = a - b := by
  rw [Int32.toInt_sub, hx, hy, Int.bmod_eq_of_le (by omega) (by omega)]
theorem i32_mul {x y : Int32} {a b : Int} (hx : x.toInt = a) (hy : y.toInt = b) (h0 : -2 ^ 31 ≤ a * b) (h1 : a * b < 2 ^ 31) : (x * y).toInt = a * b := by
  rw [Int32.toInt_mul, hx, hy, Int.bmod_eq_of_le (by omega) (by omega)]
theorem i32_b (x : Int32) : -2 ^ 31 ≤ x.toInt ∧ x.toInt < 2 ^ 31 := ⟨Int32.le_toInt x, Int32.toInt_lt x⟩
theorem iabs_neg (x : Int32) : iabs (-x) = iabs x := by
  unfold iabs
  by_cases hm : x.toInt = -2 ^ 31
  · have : x = Int32.minValue := Int32.toInt_inj.mp (by rw [hm]; decide)
    subst this
    decide
  · have hb := i32_b x
    have h1 : (-x).toInt = 0 - x.toInt := by
      rw [← Int32.zero_sub]
      exact i32_sub Int32.toInt_zero rfl (by omega) (by omega)
    simp only [Int32.le_iff_toInt_le, Int32.zero_sub, Int32.neg_neg, Int32.toInt_zero, h1]
    by_cases c : 0 ≤ x.toInt
    · by_cases c2 : 0 ≤ 0 - x.toInt
      · rw [if_pos c2, if_pos c]
        exact Int32.toInt_inj.mp (by rw [h1]; omega)
      · rw [if_neg c2, if_pos c]
    · rw [if_pos (by omega), if_neg c]
theorem iabs_sub (a b : Int32) : iabs (a - b) = iabs (b - a) := by
  rw [← iabs_neg (b - a), Int32.neg_sub]
theorem imax_le (a b c : Int32) : c ≤ imax a b ↔ c ≤ a ∨ c ≤ b := by
  unfold imax
  simp only [Int32.le_iff_toInt_le, Int32.lt_iff_toInt_lt]
  split <;> omega
theorem imax_lt (a b c : Int32) : c < imax a b ↔ c < a ∨ c < b := by
  unfold imax
  simp only [Int32.lt_iff_toInt_lt]
  split <;> omega
theorem walls_eq (v : Int32) : f_Rlimited v = f_walls v := by
  have e1 : (16 : Int32).toInt = 16 := by decide
  have e2 : (496 : Int32).toInt = 496 := by decide
  unfold f_Rlimited f_walls
  have h1 : imin 496 v = if v < 496 then v else 496 := rfl
  by_cases c : v < 496
  · rw [h1, if_pos c]
    unfold imax
    simp only [Int32.le_iff_toInt_le, Int32.lt_iff_toInt_lt, e1, e2] at c ⊢
    split <;> split <;> first | rfl | (exact Int32.toInt_inj.mp (by omega)) | (exfalso; omega) | skip
    all_goals split <;> first | rfl | (exact Int32.toInt_inj.mp (by omega)) | (exfalso; omega)
  · rw [h1, if_neg c, show imax 16 496 = 496 by decide]
    simp only [Int32.le_iff_toInt_le, Int32.lt_iff_toInt_lt, e1, e2] at c ⊢
    rw [if_pos (by omega)]
    split
    · exact Int32.toInt_inj.mp (by omega)
    · rfl
theorem step_x {d : Int32} (h : rng d 8) : f_Racross d = stepX d.toNatClampNeg := by
  obtain ⟨j, hj, rfl⟩ := h
  match j, hj with
  | 0, _ => decide
  | 1, _ => decide
  | 2, _ => decide
  | 3, _ => decide
  | 4, _ => decide
  | 5, _ => decide
  | 6, _ => decide
  | 7, _ => decide
  | j + 8, hj => exact absurd hj (by omega)
theorem step_y {d : Int32} (h : rng d 8) : f_Rup d = stepY d.toNatClampNeg := by
  obtain ⟨j, hj, rfl⟩ := h
  match j, hj with
  | 0, _ => decide
  | 1, _ => decide
  | 2, _ => decide
  | 3, _ => decide
  | 4, _ => decide
  | 5, _ => decide
  | 6, _ => decide
  | 7, _ => decide
  | j + 8, hj => exact absurd hj (by omega)
