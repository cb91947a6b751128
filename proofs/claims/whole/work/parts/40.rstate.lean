/-! STATE of the reference: kind 0 the object (its ints: 0 tanks, 1 turns, 2 shots, 3 hits, 4 fired), kinds 1 .. 33 its arrays: 1 homeX, 2 homeY, 3 home, 4 size, 5 ops, 6 as, 7 bs, 8 x, 9 y, 10 heading, 11 gun, 12 radar, 13 speed, 14 wish, 15 energy, 16 heat, 17 counter, 18 regs, 19 skips, 20 score, 21 alive, 22 bumped, 23 hit, 24 sees, 25 far, 26 turning, 27 power, 28 bx, 29 by, 30 bPower, 31 bWay, 32 bFrom, 33 gone (printed by gen/rstate.py) -/
def rf (ad : Nat → Nat → Nat) (r : Nat → Int32) : List Value := [.ref (ad 1 0), .ref (ad 2 0), .ref (ad 3 0), .ref (ad 4 0), .ref (ad 5 0), .ref (ad 6 0), .ref (ad 7 0), .int (r 0), .int (r 1), .int (r 2), .int (r 3), .ref (ad 8 0), .ref (ad 9 0), .ref (ad 10 0), .ref (ad 11 0), .ref (ad 12 0), .ref (ad 13 0), .ref (ad 14 0), .ref (ad 15 0), .ref (ad 16 0), .ref (ad 17 0), .ref (ad 18 0), .ref (ad 19 0), .ref (ad 20 0), .ref (ad 21 0), .ref (ad 22 0), .ref (ad 23 0), .ref (ad 24 0), .ref (ad 25 0), .ref (ad 26 0), .ref (ad 27 0), .ref (ad 28 0), .ref (ad 29 0), .ref (ad 30 0), .ref (ad 31 0), .ref (ad 32 0), .ref (ad 33 0), .int (r 4)]
def cellR (cI cZ : ClassId) (ad : Nat → Nat → Nat) (k i : Nat) (r : Nat → Int32) : va_E := match k with
  | 0 => .inr (CI_model, rf ad r)
  | 1 => .inl (cI, 4, .inl r)
  | 2 => .inl (cI, 4, .inl r)
  | 3 => .inl (cI, 4, .inl r)
  | 4 => .inl (cI, 4, .inl r)
  | 5 => .inl (cI, 64, .inl r)
  | 6 => .inl (cI, 64, .inl r)
  | 7 => .inl (cI, 64, .inl r)
  | 8 => .inl (cI, 4, .inl r)
  | 9 => .inl (cI, 4, .inl r)
  | 10 => .inl (cI, 4, .inl r)
  | 11 => .inl (cI, 4, .inl r)
  | 12 => .inl (cI, 4, .inl r)
  | 13 => .inl (cI, 4, .inl r)
  | 14 => .inl (cI, 4, .inl r)
  | 15 => .inl (cI, 4, .inl r)
  | 16 => .inl (cI, 4, .inl r)
  | 17 => .inl (cI, 4, .inl r)
  | 18 => .inl (cI, 8, .inl r)
  | 19 => .inl (cI, 4, .inl r)
  | 20 => .inl (cI, 4, .inl r)
  | 21 => .inl (cZ, 4, .inl r)
  | 22 => .inl (cZ, 4, .inl r)
  | 23 => .inl (cZ, 4, .inl r)
  | 24 => .inl (cI, 4, .inl r)
  | 25 => .inl (cI, 4, .inl r)
  | 26 => .inl (cI, 12, .inl r)
  | 27 => .inl (cI, 4, .inl r)
  | 28 => .inl (cI, 600, .inl r)
  | 29 => .inl (cI, 600, .inl r)
  | 30 => .inl (cI, 600, .inl r)
  | 31 => .inl (cI, 600, .inl r)
  | 32 => .inl (cI, 600, .inl r)
  | _ => .inl (cZ, 600, .inl r)
section CELLR
variable {cI cZ : ClassId} {ad : Nat → Nat → Nat} {i : Nat}
theorem rell0 : ∀ r, cellR cI cZ ad 0 i r = .inr (CI_model, rf ad r) := fun _ => rfl
theorem rell1 : ∀ r, cellR cI cZ ad 1 i r = .inl (cI, 4, .inl r) := fun _ => rfl
theorem rell2 : ∀ r, cellR cI cZ ad 2 i r = .inl (cI, 4, .inl r) := fun _ => rfl
theorem rell3 : ∀ r, cellR cI cZ ad 3 i r = .inl (cI, 4, .inl r) := fun _ => rfl
theorem rell4 : ∀ r, cellR cI cZ ad 4 i r = .inl (cI, 4, .inl r) := fun _ => rfl
theorem rell5 : ∀ r, cellR cI cZ ad 5 i r = .inl (cI, 64, .inl r) := fun _ => rfl
theorem rell6 : ∀ r, cellR cI cZ ad 6 i r = .inl (cI, 64, .inl r) := fun _ => rfl
theorem rell7 : ∀ r, cellR cI cZ ad 7 i r = .inl (cI, 64, .inl r) := fun _ => rfl
theorem rell8 : ∀ r, cellR cI cZ ad 8 i r = .inl (cI, 4, .inl r) := fun _ => rfl
theorem rell9 : ∀ r, cellR cI cZ ad 9 i r = .inl (cI, 4, .inl r) := fun _ => rfl
theorem rell10 : ∀ r, cellR cI cZ ad 10 i r = .inl (cI, 4, .inl r) := fun _ => rfl
theorem rell11 : ∀ r, cellR cI cZ ad 11 i r = .inl (cI, 4, .inl r) := fun _ => rfl
theorem rell12 : ∀ r, cellR cI cZ ad 12 i r = .inl (cI, 4, .inl r) := fun _ => rfl
theorem rell13 : ∀ r, cellR cI cZ ad 13 i r = .inl (cI, 4, .inl r) := fun _ => rfl
theorem rell14 : ∀ r, cellR cI cZ ad 14 i r = .inl (cI, 4, .inl r) := fun _ => rfl
theorem rell15 : ∀ r, cellR cI cZ ad 15 i r = .inl (cI, 4, .inl r) := fun _ => rfl
theorem rell16 : ∀ r, cellR cI cZ ad 16 i r = .inl (cI, 4, .inl r) := fun _ => rfl
theorem rell17 : ∀ r, cellR cI cZ ad 17 i r = .inl (cI, 4, .inl r) := fun _ => rfl
theorem rell18 : ∀ r, cellR cI cZ ad 18 i r = .inl (cI, 8, .inl r) := fun _ => rfl
theorem rell19 : ∀ r, cellR cI cZ ad 19 i r = .inl (cI, 4, .inl r) := fun _ => rfl
theorem rell20 : ∀ r, cellR cI cZ ad 20 i r = .inl (cI, 4, .inl r) := fun _ => rfl
theorem rell21 : ∀ r, cellR cI cZ ad 21 i r = .inl (cZ, 4, .inl r) := fun _ => rfl
theorem rell22 : ∀ r, cellR cI cZ ad 22 i r = .inl (cZ, 4, .inl r) := fun _ => rfl
theorem rell23 : ∀ r, cellR cI cZ ad 23 i r = .inl (cZ, 4, .inl r) := fun _ => rfl
theorem rell24 : ∀ r, cellR cI cZ ad 24 i r = .inl (cI, 4, .inl r) := fun _ => rfl
theorem rell25 : ∀ r, cellR cI cZ ad 25 i r = .inl (cI, 4, .inl r) := fun _ => rfl
theorem rell26 : ∀ r, cellR cI cZ ad 26 i r = .inl (cI, 12, .inl r) := fun _ => rfl
theorem rell27 : ∀ r, cellR cI cZ ad 27 i r = .inl (cI, 4, .inl r) := fun _ => rfl
theorem rell28 : ∀ r, cellR cI cZ ad 28 i r = .inl (cI, 600, .inl r) := fun _ => rfl
theorem rell29 : ∀ r, cellR cI cZ ad 29 i r = .inl (cI, 600, .inl r) := fun _ => rfl
theorem rell30 : ∀ r, cellR cI cZ ad 30 i r = .inl (cI, 600, .inl r) := fun _ => rfl
theorem rell31 : ∀ r, cellR cI cZ ad 31 i r = .inl (cI, 600, .inl r) := fun _ => rfl
theorem rell32 : ∀ r, cellR cI cZ ad 32 i r = .inl (cI, 600, .inl r) := fun _ => rfl
theorem rell33 : ∀ r, cellR cI cZ ad 33 i r = .inl (cZ, 600, .inl r) := fun _ => rfl
end CELLR
def ixR : List (Nat × Nat) := (List.range 34).map fun k => (k, 0)
theorem iy (k : Nat) (h : k < 34) : (k, 0) ∈ ixR := List.mem_map.mpr ⟨k, List.mem_range.mpr h, rfl⟩
def tysR (cI cZ : ClassId) : List (ClassId × FieldType) := [(cI, .int), (cZ, .boolean)]
abbrev gR (cI cZ : ClassId) (ad : Nat → Nat → Nat) (g : SG) : va_W := gwd ixR ad (cellR cI cZ ad) g
abbrev WR (D : va_G) (cI cZ : ClassId) (ad : Nat → Nat → Nat) (A : Nat → Prop) (H0 : Heap) (g : SG) (H : Heap) (locs : List Loc) : Prop := Wo D clA A H0 (gwd ixR ad (cellR cI cZ ad) g) H locs
abbrev RI (l : Launch) (y : MethodName) (cc : ByteArray) (nL : Nat) (ret : Option FieldType) (rm : Room) (D : va_G) (cI cZ : ClassId) (ad : Nat → Nat → Nat) (as : List Value) (g : SG) (post : Int32 → SG → Prop) : Prop :=
  Mi l y (wsm y cc nL ret) rm D clA (tysR cI cZ) [] as (gwd ixR ad (cellR cI cZ ad) g) (fun u : SG => gwd ixR ad (cellR cI cZ ad) u) post 0 0
abbrev RL (l : Launch) (y : MethodName) (cc : ByteArray) (nL : Nat) (ret : Option FieldType) (rm : Room) (D : va_G) (cI cZ : ClassId) (ad : Nat → Nat → Nat) (as : List Value) (g : SG) (post : Int64 → SG → Prop) : Prop :=
  Ml l y (wsm y cc nL ret) rm D clA (tysR cI cZ) [] as (gwd ixR ad (cellR cI cZ ad) g) (fun u : SG => gwd ixR ad (cellR cI cZ ad) u) post 0 0
abbrev RV (l : Launch) (y : MethodName) (cc : ByteArray) (nL : Nat) (ret : Option FieldType) (rm : Room) (D : va_G) (cI cZ : ClassId) (ad : Nat → Nat → Nat) (as : List Value) (g : SG) (post : SG → Prop) : Prop :=
  Mv l y (wsm y cc nL ret) rm D clA (tysR cI cZ) [] as (gwd ixR ad (cellR cI cZ ad) g) (fun u : SG => gwd ixR ad (cellR cI cZ ad) u) post 0 0
abbrev YI (D : va_G) (cI cZ : ClassId) (ad : Nat → Nat → Nat) (below : List Frame) (as : List Value) (s : State) (g : SG) (post : Int32 → SG → Prop) : State → Prop := MQ below (va_Qi post (fun u t => C1 D clA (tysR cI cZ) (gwd ixR ad (cellR cI cZ ad) g) s.heap.size (gwd ixR ad (cellR cI cZ ad) u) t) (va_A (gwd ixR ad (cellR cI cZ ad) g) s.heap.size)) as.toArray s 0 0 (va_A (gwd ixR ad (cellR cI cZ ad) g) s.heap.size)
abbrev YV (D : va_G) (cI cZ : ClassId) (ad : Nat → Nat → Nat) (below : List Frame) (as : List Value) (s : State) (g : SG) (post : SG → Prop) : State → Prop := MQ below (va_Qv post (fun u t => C1 D clA (tysR cI cZ) (gwd ixR ad (cellR cI cZ ad) g) s.heap.size (gwd ixR ad (cellR cI cZ ad) u) t) (va_A (gwd ixR ad (cellR cI cZ ad) g) s.heap.size)) as.toArray s 0 0 (va_A (gwd ixR ad (cellR cI cZ ad) g) s.heap.size)
abbrev YL (D : va_G) (cI cZ : ClassId) (ad : Nat → Nat → Nat) (below : List Frame) (as : List Value) (s : State) (g : SG) (post : Int64 → SG → Prop) : State → Prop := MQ below (va_Ql post (fun u t => C1 D clA (tysR cI cZ) (gwd ixR ad (cellR cI cZ ad) g) s.heap.size (gwd ixR ad (cellR cI cZ ad) u) t) (va_A (gwd ixR ad (cellR cI cZ ad) g) s.heap.size)) as.toArray s 0 0 (va_A (gwd ixR ad (cellR cI cZ ad) g) s.heap.size)
def tyR (k j : Nat) (v : Int32) : Prop := match k with
  | 0 => match j with
    | 0 => rng v 5
    | _ => True
  | 4 => rng v 17
  | 17 => rng v 17
  | 21 => v = 0 ∨ v = 1
  | 22 => v = 0 ∨ v = 1
  | 23 => v = 0 ∨ v = 1
  | 24 => rng v 5
  | 27 => rng v 4
  | 30 => rng v 4
  | 32 => rng v 4
  | 33 => v = 0 ∨ v = 1
  | _ => True
def Rok (g : SG) : Prop := (∀ k i j, tyR k j (g k i j)) ∧ ∀ j, insOk (g 5 0 j) (g 6 0 j) (g 7 0 j)
def RokN (N : Nat) (g : SG) : Prop := Rok g ∧ g 0 0 0 = nI N ∧ N < 5
theorem RokN.N {N : Nat} {g : SG} (h : RokN N g) : N < 5 ∧ g 0 0 0 = nI N := ⟨h.2.2, h.2.1⟩
theorem rokU {N : Nat} {g : SG} {k i j : Nat} {v : Int32} (h : RokN N g) (hk0 : okKey k j = true) (ht : tyR k j v) : RokN N (up3 g k i j v) := by
  have hk : (k ≠ 5 ∧ k ≠ 6 ∧ k ≠ 7) ∧ ¬ (k = 0 ∧ j = 0) := by
    simp only [okKey, Bool.and_eq_true, Bool.or_eq_true, bne_iff_ne, ne_eq] at hk0
    omega
  obtain ⟨⟨h1, h2⟩, h3, h4⟩ := h
  refine ⟨⟨fun a b d => ?_, fun d => ?_⟩, ?_, h4⟩
  · by_cases q : a = k ∧ d = j ∧ b = i
    · obtain ⟨q1, q2, q3⟩ := q
      subst q1; subst q2; subst q3
      rw [show up3 g a b d v a b d = v by simp [up3]]
      exact ht
    · rw [show up3 g k i j v a b d = g a b d by simp only [up3, if_neg q]]
      exact h1 a b d
  · rw [show up3 g k i j v 5 0 d = g 5 0 d by simp only [up3]; rw [if_neg (fun q => hk.1.1 q.1.symm)], show up3 g k i j v 6 0 d = g 6 0 d by simp only [up3]; rw [if_neg (fun q => hk.1.2.1 q.1.symm)], show up3 g k i j v 7 0 d = g 7 0 d by simp only [up3]; rw [if_neg (fun q => hk.1.2.2 q.1.symm)]]
    exact h2 d
  · rw [show up3 g k i j v 0 0 0 = g 0 0 0 by simp only [up3]; rw [if_neg (fun q => hk.2 ⟨q.1.symm, q.2.1.symm⟩)]]
    exact h3
theorem nI_lin (a : Nat) {t b : Nat} {x y : Int32} (hx : x = nI t) (hy : y = nI b) : nI a * x + y = nI (a * t + b) := by
  rw [hx, hy, pk_mul, nI_add]
