/-! SIMULATION: lists of bullets (mine) -/
def pl (g : SG) (p : Nat) : Nat := (g 2 0 p).toNatClampNeg
def PI (g : SG) : Prop := ∀ p q, p < 16 → q < 16 → pl g p = pl g q → p = q
def lvf (r : SG) : Nat → Nat → List Nat
  | 0, _ => []
  | n + 1, b => if r 33 0 b = 0 then b :: lvf r n (b + 1) else lvf r n (b + 1)
def BL (g r : SG) : Nat → List Nat → Prop
  | _, [] => True
  | p, b :: t => BR g r (pl g p) b ∧ BL g r (p + 1) t
theorem lvf_mem {r : SG} {c : Nat} : ∀ (n b : Nat), c ∈ lvf r n b ↔ b ≤ c ∧ c < b + n ∧ r 33 0 c = 0 := by
  intro n
  induction n with
  | zero => intro b; simp [lvf]; omega
  | succ n ih =>
    intro b
    simp only [lvf]
    by_cases q : r 33 0 b = 0
    · rw [if_pos q, List.mem_cons, ih]
      constructor
      · rintro (e | ⟨h1, h2, h3⟩)
        · subst e; exact ⟨Nat.le_refl _, by omega, q⟩
        · exact ⟨by omega, by omega, h3⟩
      · rintro ⟨h1, h2, h3⟩
        by_cases e : c = b
        · exact Or.inl e
        · exact Or.inr ⟨by omega, by omega, h3⟩
    · rw [if_neg q, ih]
      constructor
      · rintro ⟨h1, h2, h3⟩; exact ⟨by omega, by omega, h3⟩
      · rintro ⟨h1, h2, h3⟩
        have : c ≠ b := fun e => q (by rw [← e]; exact h3)
        exact ⟨by omega, by omega, h3⟩
theorem lvf_snoc {r : SG} : ∀ (n b : Nat), lvf r (n + 1) b = lvf r n b ++ (if r 33 0 (b + n) = 0 then [b + n] else []) := by
  intro n
  induction n with
  | zero => intro b; simp [lvf]
  | succ n ih =>
    intro b
    rw [lvf, ih (b + 1)]
    conv => rhs; rw [lvf]
    rw [show b + 1 + n = b + (n + 1) by omega]
    by_cases q : r 33 0 b = 0
    · rw [if_pos q, if_pos q]; rfl
    · rw [if_neg q, if_neg q]
theorem lvf_congr {r r' : SG} : ∀ (n b : Nat), (∀ c, b ≤ c → c < b + n → (r' 33 0 c = 0 ↔ r 33 0 c = 0)) → lvf r' n b = lvf r n b := by
  intro n
  induction n with
  | zero => intro b _; rfl
  | succ n ih =>
    intro b h
    simp only [lvf]
    rw [ih (b + 1) (fun c h1 h2 => h c (by omega) (by omega))]
    have hb := h b (Nat.le_refl _) (by omega)
    by_cases q : r 33 0 b = 0
    · rw [if_pos q, if_pos (hb.mpr q)]
    · rw [if_neg q, if_neg (fun x => q (hb.mp x))]
theorem lvf_nodup {r : SG} : ∀ (n b : Nat), (lvf r n b).Nodup := by
  intro n
  induction n with
  | zero => intro b; exact List.nodup_nil
  | succ n ih =>
    intro b
    simp only [lvf]
    split
    · refine List.nodup_cons.mpr ⟨fun h => ?_, ih _⟩
      have := (lvf_mem n (b + 1)).mp h
      omega
    · exact ih _
theorem BL_snoc {g r : SG} {b : Nat} : ∀ (xs : List Nat) (p : Nat), BL g r p (xs ++ [b]) ↔ BL g r p xs ∧ BR g r (pl g (p + xs.length)) b := by
  intro xs
  induction xs with
  | nil => intro p; simp [BL]
  | cons x t ih =>
    intro p
    show BR g r (pl g p) x ∧ BL g r (p + 1) (t ++ [b]) ↔ (BR g r (pl g p) x ∧ BL g r (p + 1) t) ∧ _
    rw [ih, and_assoc, show p + 1 + t.length = p + (x :: t).length by simp; omega]
theorem BL_congr {g r g' r' : SG} : ∀ (xs : List Nat) (p : Nat), (∀ q, p ≤ q → q < p + xs.length → pl g' q = pl g q ∧ ∀ f, g' 12 (pl g q) f = g 12 (pl g q) f) → (∀ b, b ∈ xs → ∀ k, 28 ≤ k → k ≤ 32 → r' k 0 b = r k 0 b) → BL g r p xs → BL g' r' p xs := by
  intro xs
  induction xs with
  | nil => intro p _ _ _; trivial
  | cons x t ih =>
    intro p h1 h2 h
    obtain ⟨ha, hb⟩ := h
    have e1 := h1 p (Nat.le_refl _) (by simp)
    have e2 := h2 x List.mem_cons_self
    refine ⟨?_, ih (p + 1) (fun q a b => h1 q (by omega) (by simp at b ⊢; omega)) (fun b hb => h2 b (List.mem_cons_of_mem _ hb)) hb⟩
    obtain ⟨b0, b1, b2, b3, b4⟩ := ha
    rw [e1.1]
    refine ⟨?_, ?_, ?_, ?_, ?_⟩
    · rw [e1.2, e2 28 (by decide) (by decide)]; exact b0
    · rw [e1.2, e2 29 (by decide) (by decide)]; exact b1
    · rw [e1.2, e2 30 (by decide) (by decide)]; exact b2
    · rw [e1.2, e2 31 (by decide) (by decide)]; exact b3
    · rw [e1.2, e2 32 (by decide) (by decide)]; exact b4
/-- pigeons -/
theorem pigeon : ∀ (n : Nat) (xs : List Nat), xs.Nodup → (∀ x, x ∈ xs → x < n) → xs.length ≤ n := by
  intro n
  induction n with
  | zero =>
    intro xs _ h
    cases xs with
    | nil => exact Nat.le_refl _
    | cons x t => exact absurd (h x List.mem_cons_self) (by omega)
  | succ n ih =>
    intro xs hd h
    have h1 := ih (xs.erase n) (hd.erase n) (fun x hx => by
      have hx' := (List.Nodup.mem_erase_iff hd).mp hx
      have := h x hx'.2
      omega)
    by_cases q : n ∈ xs
    · rw [List.length_erase_of_mem q] at h1
      omega
    · rw [List.erase_of_not_mem q] at h1
      omega
theorem pigeonM {n : Nat} {xs : List Nat} (f : Nat → Nat) (hd : xs.Nodup) (hi : ∀ a, a ∈ xs → ∀ b, b ∈ xs → f a = f b → a = b) (h : ∀ x, x ∈ xs → f x < n) : xs.length ≤ n := by
  have h1 : (xs.map f).Nodup := by
    induction xs with
    | nil => exact List.nodup_nil
    | cons x t ih =>
      rw [List.map_cons]
      have hd' := List.nodup_cons.mp hd
      refine List.nodup_cons.mpr ⟨fun hm => ?_, ih hd'.2 (fun a ha b hb => hi a (List.mem_cons_of_mem _ ha) b (List.mem_cons_of_mem _ hb)) (fun y hy => h y (List.mem_cons_of_mem _ hy))⟩
      obtain ⟨y, hy, e⟩ := List.mem_map.mp hm
      have := hi y (List.mem_cons_of_mem _ hy) x List.mem_cons_self e
      exact hd'.1 (this ▸ hy)
  have := pigeon n (xs.map f) h1 (fun x hx => by obtain ⟨y, hy, e⟩ := List.mem_map.mp hx; exact e ▸ h y hy)
  rwa [List.length_map] at this
/-- BULLETS' INVARIANTS: who fired, when (birth), how far it is; ob, ot: 1 where this turn's flight, this turn's cooling is done -/
def own (r : SG) (b : Nat) : Nat := (r 32 0 b).toNatClampNeg
def BI (N F T : Nat) (birth ob ot : Nat → Nat) (g r : SG) : Prop :=
  (∀ b, b < F → birth b ≤ T ∧ own r b < N) ∧ (∀ b c, b < c → c < F → own r b = own r c → birth b + 5 ≤ birth c) ∧
  (∀ b, b < F → ¬ g 3 (own r b) 13 = 0 → 10 ≤ (g 3 (own r b) 11).toInt + 2 * ((T - birth b + ot (own r b) : Nat) : Int)) ∧
  (∀ b, b < F → r 33 0 b = 0 → 1 ≤ (r 30 0 b).toInt ∧ rng (r 31 0 b) 8 ∧ PC (r 28 0 b) (r 29 0 b) (r 31 0 b) (40 * ((T - birth b + ob b : Nat) : Int)))
theorem BI.sep {N F T : Nat} {birth ob ot : Nat → Nat} {g r : SG} (h : BI N F T birth ob ot g r) {b c : Nat} (hb : b < F) (hc : c < F) (e : own r b = own r c) (hn : birth b < birth c + 5) (hn2 : birth c < birth b + 5) : b = c := by
  rcases Nat.lt_trichotomy b c with q | q | q
  · have := h.2.1 b c q hc e; omega
  · exact q
  · have := h.2.1 c b q hb e.symm; omega
theorem BI.fired {N F T : Nat} {birth ob ot : Nat → Nat} {g r : SG} (h : BI N F T birth ob ot g r) (hN : N < 5) (hT : T ≤ 514) : F ≤ 412 := by
  have := pigeonM (n := 412) (xs := List.range F) (fun b => 103 * own r b + birth b / 5) List.nodup_range (fun a ha b hb e => ?_) (fun x hx => ?_)
  · rwa [List.length_range] at this
  · have ha := List.mem_range.mp ha
    have hb := List.mem_range.mp hb
    have a1 := h.1 a ha
    have b1 := h.1 b hb
    have e1 : 103 * own r a + birth a / 5 = 103 * own r b + birth b / 5 := e
    exact h.sep ha hb (by omega) (by omega) (by omega)
  · have a1 := h.1 x (List.mem_range.mp hx)
    show 103 * own r x + birth x / 5 < 412
    omega
theorem BI.live {N F T : Nat} {birth ob ot : Nat → Nat} {g r : SG} (h : BI N F T birth ob ot g r) (hN : N < 5) : (lvf r F 0).length ≤ 12 := by
  refine pigeonM (n := 12) (xs := lvf r F 0) (fun b => 3 * own r b + (T - birth b) / 5) (lvf_nodup F 0) (fun a ha b hb e => ?_) (fun x hx => ?_)
  · have ha := (lvf_mem F 0).mp ha
    have hb := (lvf_mem F 0).mp hb
    have a1 := h.1 a (by omega)
    have b1 := h.1 b (by omega)
    have a2 := h.2.2.2 a (by omega) ha.2.2
    have b2 := h.2.2.2 b (by omega) hb.2.2
    have a3 := a2.2.2.bound a2.2.1
    have b3 := b2.2.2.bound b2.2.1
    have e1 : 3 * own r a + (T - birth a) / 5 = 3 * own r b + (T - birth b) / 5 := e
    have a4 : T - birth a ≤ 12 := by omega
    have b4 : T - birth b ≤ 12 := by omega
    exact h.sep (by omega) (by omega) (by omega) (by omega) (by omega)
  · have hx := (lvf_mem F 0).mp hx
    have a1 := h.1 x (by omega)
    have a2 := h.2.2.2 x (by omega) hx.2.2
    have a3 := a2.2.2.bound a2.2.1
    show 3 * own r x + (T - birth x) / 5 < 12
    omega
