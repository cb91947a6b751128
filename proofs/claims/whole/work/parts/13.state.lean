/-! STATE of the class: kinds of cells (0 arena, 1 tanks array, 2 bullets array (its int j: the number of the Bullet at place j), 3 Tank, 4 Program, 5 ops, 6 as, 7 bs, 8 Processor, 9 registers, 10 Orders, 11 Report, 12 Bullet), g k i j: int j of the cell of kind k, number i; ad k i: its address -/
def cellC (cI cT cB : ClassId) (ad : Nat → Nat → Nat) (k i : Nat) (r : Nat → Int32) : va_E := match k with
  | 0 => .inr (CI_arena, [.ref (ad 1 0), .ref (ad 2 0)] ++ kints r 5)
  | 1 => .inl (cT, 4, .inr (.inr (.inr (.inr (fun j => some (ad 3 j))))))
  | 2 => .inl (cB, 16, .inr (.inr (.inr (.inr (fun j => some (ad 12 (r j).toNatClampNeg))))))
  | 3 => .inr (CI_tank, [.ref (ad 4 i), .ref (ad 8 i), .ref (ad 10 i), .ref (ad 11 i)] ++ kints r 14)
  | 4 => .inr (CI_program, [.ref (ad 5 i), .ref (ad 6 i), .ref (ad 7 i)] ++ kints r 1)
  | 5 => .inl (cI, 16, .inl r)
  | 6 => .inl (cI, 16, .inl r)
  | 7 => .inl (cI, 16, .inl r)
  | 8 => .inr (CI_processor, [.ref (ad 9 i)] ++ kints r 2)
  | 9 => .inl (cI, 2, .inl r)
  | 10 => .inr (CI_orders, [] ++ kints r 4)
  | 11 => .inr (CI_report, [] ++ kints r 4)
  | _ => .inr (CI_bullet, [] ++ kints r 5)
def ixC : List (Nat × Nat) := [(0, 0), (1, 0), (2, 0)] ++ ((List.range 4).flatMap fun i => [(3, i), (4, i), (5, i), (6, i), (7, i), (8, i), (9, i), (10, i), (11, i)]) ++ (List.range 16).map fun k => (12, k)
theorem ix0 : (0, 0) ∈ ixC := by decide
theorem ix1 : (1, 0) ∈ ixC := by decide
theorem ix2 : (2, 0) ∈ ixC := by decide
theorem ix3 {i : Nat} (h : i < 4) : (3, i) ∈ ixC := (show ∀ i, i < 4 → (3, i) ∈ ixC by decide) i h
theorem ix4 {i : Nat} (h : i < 4) : (4, i) ∈ ixC := (show ∀ i, i < 4 → (4, i) ∈ ixC by decide) i h
theorem ix5 {i : Nat} (h : i < 4) : (5, i) ∈ ixC := (show ∀ i, i < 4 → (5, i) ∈ ixC by decide) i h
theorem ix6 {i : Nat} (h : i < 4) : (6, i) ∈ ixC := (show ∀ i, i < 4 → (6, i) ∈ ixC by decide) i h
theorem ix7 {i : Nat} (h : i < 4) : (7, i) ∈ ixC := (show ∀ i, i < 4 → (7, i) ∈ ixC by decide) i h
theorem ix8 {i : Nat} (h : i < 4) : (8, i) ∈ ixC := (show ∀ i, i < 4 → (8, i) ∈ ixC by decide) i h
theorem ix9 {i : Nat} (h : i < 4) : (9, i) ∈ ixC := (show ∀ i, i < 4 → (9, i) ∈ ixC by decide) i h
theorem ix10 {i : Nat} (h : i < 4) : (10, i) ∈ ixC := (show ∀ i, i < 4 → (10, i) ∈ ixC by decide) i h
theorem ix11 {i : Nat} (h : i < 4) : (11, i) ∈ ixC := (show ∀ i, i < 4 → (11, i) ∈ ixC by decide) i h
theorem ix12 {i : Nat} (h : i < 16) : (12, i) ∈ ixC := (show ∀ i, i < 16 → (12, i) ∈ ixC by decide) i h
section CELLS
variable {cI cT cB : ClassId} {ad : Nat → Nat → Nat} {i : Nat}
theorem cell0 : ∀ r, cellC cI cT cB ad 0 i r = .inr (CI_arena, [.ref (ad 1 0), .ref (ad 2 0)] ++ kints r 5) := fun _ => rfl
theorem cell1 : ∀ r, cellC cI cT cB ad 1 i r = .inl (cT, 4, .inr (.inr (.inr (.inr (fun j => some (ad 3 j)))))) := fun _ => rfl
theorem cell2 : ∀ r, cellC cI cT cB ad 2 i r = .inl (cB, 16, .inr (.inr (.inr (.inr (fun j => some (ad 12 (r j).toNatClampNeg)))))) := fun _ => rfl
theorem cell3 : ∀ r, cellC cI cT cB ad 3 i r = .inr (CI_tank, [.ref (ad 4 i), .ref (ad 8 i), .ref (ad 10 i), .ref (ad 11 i)] ++ kints r 14) := fun _ => rfl
theorem cell4 : ∀ r, cellC cI cT cB ad 4 i r = .inr (CI_program, [.ref (ad 5 i), .ref (ad 6 i), .ref (ad 7 i)] ++ kints r 1) := fun _ => rfl
theorem cell5 : ∀ r, cellC cI cT cB ad 5 i r = .inl (cI, 16, .inl r) := fun _ => rfl
theorem cell6 : ∀ r, cellC cI cT cB ad 6 i r = .inl (cI, 16, .inl r) := fun _ => rfl
theorem cell7 : ∀ r, cellC cI cT cB ad 7 i r = .inl (cI, 16, .inl r) := fun _ => rfl
theorem cell8 : ∀ r, cellC cI cT cB ad 8 i r = .inr (CI_processor, [.ref (ad 9 i)] ++ kints r 2) := fun _ => rfl
theorem cell9 : ∀ r, cellC cI cT cB ad 9 i r = .inl (cI, 2, .inl r) := fun _ => rfl
theorem cell10 : ∀ r, cellC cI cT cB ad 10 i r = .inr (CI_orders, [] ++ kints r 4) := fun _ => rfl
theorem cell11 : ∀ r, cellC cI cT cB ad 11 i r = .inr (CI_report, [] ++ kints r 4) := fun _ => rfl
theorem cell12 : ∀ r, cellC cI cT cB ad 12 i r = .inr (CI_bullet, [] ++ kints r 5) := fun _ => rfl
end CELLS
def tysC (cI cT cB : ClassId) : List (ClassId × FieldType) := [(cI, .int), (cT, .object "TankArena$Tank"), (cB, .object "TankArena$Bullet")]
def stepX (j : Nat) : Int32 := ([1, 1, 0, -1, -1, -1, 0, 1] : List Int32).getD j 0
def stepY (j : Nat) : Int32 := ([0, 1, 1, 1, 0, -1, -1, -1] : List Int32).getD j 0
def zX (tX : Nat) : Zt := ("TankArena", "STEP_X", "[I", tX, 8, stepX)
def zY (tY : Nat) : Zt := ("TankArena", "STEP_Y", "[I", tY, 8, stepY)
def ZsC (tX tY : Nat) : List Zt := [zX tX, zY tY]
theorem zX_in {tX tY : Nat} : zX tX ∈ ZsC tX tY := List.mem_cons_self
theorem zY_in {tX tY : Nat} : zY tY ∈ ZsC tX tY := List.mem_cons_of_mem _ List.mem_cons_self
abbrev gC (cI cT cB : ClassId) (ad : Nat → Nat → Nat) (g : SG) : va_W := gwd ixC ad (cellC cI cT cB ad) g
abbrev WC (D : va_G) (cI cT cB : ClassId) (ad : Nat → Nat → Nat) (A : Nat → Prop) (H0 : Heap) (g : SG) (H : Heap) (locs : List Loc) : Prop := Wo D clA A H0 (gwd ixC ad (cellC cI cT cB ad) g) H locs
abbrev KI (l : Launch) (y : MethodName) (cc : ByteArray) (nL : Nat) (ret : Option FieldType) (rm : Room) (D : va_G) (cI cT cB : ClassId) (ad : Nat → Nat → Nat) (tX tY : Nat) (as : List Value) (g : SG) (post : Int32 → SG → Prop) : Prop :=
  Mi l y (wsm y cc nL ret) rm D clA (tysC cI cT cB) (ZsC tX tY) as (gwd ixC ad (cellC cI cT cB ad) g) (fun u : SG => gwd ixC ad (cellC cI cT cB ad) u) post 0 0
abbrev KL (l : Launch) (y : MethodName) (cc : ByteArray) (nL : Nat) (ret : Option FieldType) (rm : Room) (D : va_G) (cI cT cB : ClassId) (ad : Nat → Nat → Nat) (tX tY : Nat) (as : List Value) (g : SG) (post : Int64 → SG → Prop) : Prop :=
  Ml l y (wsm y cc nL ret) rm D clA (tysC cI cT cB) (ZsC tX tY) as (gwd ixC ad (cellC cI cT cB ad) g) (fun u : SG => gwd ixC ad (cellC cI cT cB ad) u) post 0 0
abbrev KV (l : Launch) (y : MethodName) (cc : ByteArray) (nL : Nat) (ret : Option FieldType) (rm : Room) (D : va_G) (cI cT cB : ClassId) (ad : Nat → Nat → Nat) (tX tY : Nat) (as : List Value) (g : SG) (post : SG → Prop) : Prop :=
  Mv l y (wsm y cc nL ret) rm D clA (tysC cI cT cB) (ZsC tX tY) as (gwd ixC ad (cellC cI cT cB ad) g) (fun u : SG => gwd ixC ad (cellC cI cT cB ad) u) post 0 0
abbrev QI (D : va_G) (cI cT cB : ClassId) (ad : Nat → Nat → Nat) (below : List Frame) (as : List Value) (s : State) (g : SG) (post : Int32 → SG → Prop) : State → Prop := MQ below (va_Qi post (fun u t => C1 D clA (tysC cI cT cB) (gwd ixC ad (cellC cI cT cB ad) g) s.heap.size (gwd ixC ad (cellC cI cT cB ad) u) t) (va_A (gwd ixC ad (cellC cI cT cB ad) g) s.heap.size)) as.toArray s 0 0 (va_A (gwd ixC ad (cellC cI cT cB ad) g) s.heap.size)
abbrev QV (D : va_G) (cI cT cB : ClassId) (ad : Nat → Nat → Nat) (below : List Frame) (as : List Value) (s : State) (g : SG) (post : SG → Prop) : State → Prop := MQ below (va_Qv post (fun u t => C1 D clA (tysC cI cT cB) (gwd ixC ad (cellC cI cT cB ad) g) s.heap.size (gwd ixC ad (cellC cI cT cB ad) u) t) (va_A (gwd ixC ad (cellC cI cT cB ad) g) s.heap.size)) as.toArray s 0 0 (va_A (gwd ixC ad (cellC cI cT cB ad) g) s.heap.size)
theorem Cx.tt {p : Program} {s : State} {m : MethodId} {args : Array Value} {meth : Method} {c : Code} {cc : ByteArray} {nL : Nat} {ret : Option FieldType} {own : String} {w0 : Cond} {Ts : List Cond} {D : va_G} {cl : List vw_C} {tys : List (ClassId × FieldType)} {A : Nat → Prop} {Zs : List Zt} (X : Cx p s m args meth c cc nL ret own (w0 :: Ts) D cl tys A Zs) : Cx p s m args meth c cc nL ret own Ts D cl tys A Zs :=
  ⟨X.1, X.2.1, X.2.2.1, X.2.2.2.1, fun w h => X.2.2.2.2.1 w (List.mem_cons_of_mem _ h), X.2.2.2.2.2⟩
/-! small numbers -/
theorem nar01 {v : Int32} (h : v = 0 ∨ v = 1) : narrow .boolean (.int v) = .int v := by
  rcases h with h | h <;> subst h <;> rfl
theorem neI {x y : Int32} (k : Int) (hy : y.toInt = k) (h : ¬ x = y) : x.toInt ≠ k := fun q => h (Int32.toInt_inj.mp (by rw [q, hy]))
def rng (v : Int32) (n : Nat) : Prop := ∃ j : Nat, j < n ∧ v = nI j
theorem rng_j {v : Int32} {n : Nat} (h : rng v n) (hn : n ≤ 2 ^ 31) : v = nI v.toNatClampNeg ∧ v.toNatClampNeg < n := by
  obtain ⟨j, h1, h2⟩ := h
  subst h2
  rw [nI_clamp (by omega)]
  exact ⟨rfl, h1⟩
theorem nlt_of {v : Int32} {i N : Nat} (e : v = nI N) (hN : N < 2 ^ 31) (hi : i < 2 ^ 31) (c : ¬ v ≤ nI i) : i < N := by
  rcases Nat.lt_or_ge i N with q | q
  · exact q
  · exact absurd (by rw [e]; exact nI_le q hi) c
theorem rng_lt {v : Int32} {n m : Nat} (h : rng v n) (hn : n ≤ 2 ^ 31) (hm : m < 2 ^ 31) (c : ¬ nI m ≤ v) : rng v m := by
  obtain ⟨j, h1, h2⟩ := h
  subst h2
  refine ⟨j, ?_, rfl⟩
  rcases Nat.lt_or_ge j m with q | q
  · exact q
  · exact absurd (nI_le q (by omega)) c
theorem rng_mono {v : Int32} {n m : Nat} (h : rng v n) (hm : n ≤ m) : rng v m := by
  obtain ⟨j, h1, h2⟩ := h
  exact ⟨j, by omega, h2⟩
/-- what an instruction keeps to: SET's and LOOP's register, a jump's place, FIRE's power -/
def insOk (op a b : Int32) : Prop := (op = 11 → rng a 2) ∧ (op = 12 → rng b 2) ∧ (op = 5 → rng a 4) ∧ ((op = 6 ∨ op = 7 ∨ op = 8 ∨ op = 9 ∨ op = 10 ∨ op = 12) → rng a 16)
/-- the kinds of number that stand in a cell -/
def tyOk (k j : Nat) (v : Int32) : Prop := match k with
  | 0 => match j with
    | 0 => rng v 5
    | 2 => rng v 17
    | _ => True
  | 2 => rng v 16
  | 3 => match j with
    | 2 => rng v 8
    | 5 => rng v 8
    | 6 => rng v 8
    | 13 => v = 0 ∨ v = 1
    | _ => True
  | 4 => rng v 17
  | 8 => match j with
    | 0 => rng v 17
    | _ => True
  | 10 => match j with
    | 3 => rng v 4
    | _ => True
  | 11 => match j with
    | 0 => v = 0 ∨ v = 1
    | 1 => v = 0 ∨ v = 1
    | 2 => rng v 5
    | _ => True
  | 12 => match j with
    | 2 => rng v 4
    | 3 => rng v 8
    | 4 => rng v 4
    | _ => True
  | _ => True
def Ok (g : SG) : Prop := (∀ k i j, tyOk k j (g k i j)) ∧ ∀ i j, insOk (g 5 i j) (g 6 i j) (g 7 i j)
def OkN (N : Nat) (g : SG) : Prop := Ok g ∧ g 0 0 0 = nI N ∧ N < 5
theorem OkN.N {N : Nat} {g : SG} (h : OkN N g) : N < 5 ∧ g 0 0 0 = nI N := ⟨h.2.2, h.2.1⟩
def okKey (k j : Nat) : Bool := k != 5 && (k != 6 && (k != 7 && (k != 0 || j != 0)))
theorem okU {N : Nat} {g : SG} {k i j : Nat} {v : Int32} (h : OkN N g) (hk0 : okKey k j = true) (ht : tyOk k j v) : OkN N (up3 g k i j v) := by
  have hk : (k ≠ 5 ∧ k ≠ 6 ∧ k ≠ 7) ∧ ¬ (k = 0 ∧ j = 0) := by
    simp only [okKey, Bool.and_eq_true, Bool.or_eq_true, bne_iff_ne, ne_eq] at hk0
    omega
  obtain ⟨⟨h1, h2⟩, h3, h4⟩ := h
  refine ⟨⟨fun a b d => ?_, fun a d => ?_⟩, ?_, h4⟩
  · by_cases q : a = k ∧ d = j ∧ b = i
    · obtain ⟨q1, q2, q3⟩ := q
      subst q1; subst q2; subst q3
      rw [show up3 g a b d v a b d = v by simp [up3]]
      exact ht
    · rw [show up3 g k i j v a b d = g a b d by simp only [up3, if_neg q]]
      exact h1 a b d
  · rw [show up3 g k i j v 5 a d = g 5 a d by simp only [up3]; rw [if_neg (fun q => hk.1.1 q.1.symm)], show up3 g k i j v 6 a d = g 6 a d by simp only [up3]; rw [if_neg (fun q => hk.1.2.1 q.1.symm)], show up3 g k i j v 7 a d = g 7 a d by simp only [up3]; rw [if_neg (fun q => hk.1.2.2 q.1.symm)]]
    exact h2 a d
  · rw [show up3 g k i j v 0 0 0 = g 0 0 0 by simp only [up3]; rw [if_neg (fun q => hk.2 ⟨q.1.symm, q.2.1.symm⟩)]]
    exact h3
