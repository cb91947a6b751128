/-! SIMULATION: sectors, looking (mine) -/
theorem iabs_int {d : Int32} {a : Int} (h : d.toInt = a) (hb : -100000 ≤ a ∧ a ≤ 100000) : ∃ z : Int, (iabs d).toInt = z ∧ ((0 ≤ a ∧ z = a) ∨ (a < 0 ∧ z = -a)) := by
  unfold iabs
  have e0 : (0 : Int32).toInt = 0 := by decide
  by_cases c : 0 ≤ d
  · rw [if_pos c]
    rw [Int32.le_iff_toInt_le, e0, h] at c
    exact ⟨a, h, Or.inl ⟨c, rfl⟩⟩
  · rw [if_neg c]
    rw [Int32.le_iff_toInt_le, e0, h] at c
    exact ⟨-a, by rw [i32_sub e0 h (by omega) (by omega)]; omega, Or.inr ⟨by omega, rfl⟩⟩
theorem sector_eq {dx dy : Int32} {a b : Int} (hx : dx.toInt = a) (hy : dy.toInt = b) (ha : -100000 ≤ a ∧ a ≤ 100000) (hb : -100000 ≤ b ∧ b ≤ 100000) (hne : ¬ (a = 0 ∧ b = 0)) :
    f_Rsector dx dy = (if (iabs dx) < (2 * (iabs dy)) then if (iabs dy) < (2 * (iabs dx)) then if dx ≤ 0 then if dy ≤ 0 then 5 else 3 else if dy ≤ 0 then 7 else 1 else if dy ≤ 0 then 6 else 2 else if dx ≤ 0 then 4 else 0) := by
  obtain ⟨za, ea, oa⟩ := iabs_int hx ha
  obtain ⟨zb, eb, ob⟩ := iabs_int hy hb
  have e2 : (2 : Int32).toInt = 2 := by decide
  have e0 : (0 : Int32).toInt = 0 := by decide
  have fa : (2 * iabs dx).toInt = 2 * za := i32_mul e2 ea (by omega) (by omega)
  have fb : (2 * iabs dy).toInt = 2 * zb := i32_mul e2 eb (by omega) (by omega)
  unfold f_Rsector
  simp only [rabs_eq, Int32.lt_iff_toInt_lt, Int32.le_iff_toInt_le, ea, eb, fa, fb, hx, hy, e0]
  by_cases c1 : za < 2 * zb
  · rw [if_pos c1, if_pos c1]
    by_cases c2 : zb < 2 * za
    · rw [if_pos c2, if_pos c2]
      by_cases c3 : a ≤ 0
      · simp only [if_pos c3]
      · simp only [if_neg c3]
    · rw [if_neg c2, if_neg c2]
      by_cases c3 : b ≤ 0
      · rw [if_pos c3, if_neg (by omega)]
      · rw [if_neg c3, if_pos (by omega)]
  · rw [if_neg c1, if_neg c1]
    by_cases c3 : a ≤ 0
    · rw [if_pos c3, if_neg (by omega)]
    · rw [if_neg c3, if_pos (by omega)]
/-- a place in the field -/
def inF (v : Int32) : Prop := 16 ≤ v.toInt ∧ v.toInt ≤ 496
theorem sector_sim {N M : Nat} {g r : SG} {i j : Nat} (hi : i < 4) (hj : j < 4) (h : TS N M g r) (f1 : inF (g 3 i 3)) (f2 : inF (g 3 i 4)) (f3 : inF (g 3 j 3)) (f4 : inF (g 3 j 4)) (hne : ¬ (g 3 j 3 = g 3 i 3 ∧ g 3 j 4 = g 3 i 4)) : f_Rsector (r 8 0 j - r 8 0 i) (r 9 0 j - r 9 0 i) = f_sector g i j := by
  rw [h.r8 hi, h.r8 hj, h.r9 hi, h.r9 hj]
  unfold inF at f1 f2 f3 f4
  have hx : (g 3 j 3 - g 3 i 3).toInt = (g 3 j 3).toInt - (g 3 i 3).toInt := i32_sub rfl rfl (by omega) (by omega)
  have hy : (g 3 j 4 - g 3 i 4).toInt = (g 3 j 4).toInt - (g 3 i 4).toInt := i32_sub rfl rfl (by omega) (by omega)
  rw [sector_eq hx hy (by omega) (by omega) (fun q => hne ⟨Int32.toInt_inj.mp (by omega), Int32.toInt_inj.mp (by omega)⟩)]
  rfl
/-- tanks are in the field; alive ones are never at one place; heat is small -/
def TI (N : Nat) (g : SG) : Prop :=
  (∀ i, i < N → inF (g 3 i 3)) ∧ (∀ i, i < N → inF (g 3 i 4)) ∧ (∀ i, i < N → 0 ≤ (g 3 i 11).toInt ∧ (g 3 i 11).toInt ≤ 24) ∧
  ∀ i j, i < N → j < N → i ≠ j → ¬ g 3 i 13 = 0 → ¬ g 3 j 13 = 0 → ¬ (g 3 j 3 = g 3 i 3 ∧ g 3 j 4 = g 3 i 4)
theorem TI.px {N : Nat} {g : SG} (h : TI N g) : ∀ i, i < N → inF (g 3 i 3) := h.1
theorem TI.py {N : Nat} {g : SG} (h : TI N g) : ∀ i, i < N → inF (g 3 i 4) := h.2.1
theorem TI.ht {N : Nat} {g : SG} (h : TI N g) : ∀ i, i < N → 0 ≤ (g 3 i 11).toInt ∧ (g 3 i 11).toInt ≤ 24 := h.2.2.1
theorem TI.np {N : Nat} {g : SG} (h : TI N g) : ∀ i j, i < N → j < N → i ≠ j → ¬ g 3 i 13 = 0 → ¬ g 3 j 13 = 0 → ¬ (g 3 j 3 = g 3 i 3 ∧ g 3 j 4 = g 3 i 4) := h.2.2.2
theorem TI.same {N : Nat} {g g' : SG} (h : TI N g) (hs : ∀ i j, j = 3 ∨ j = 4 ∨ j = 11 ∨ j = 13 → g' 3 i j = g 3 i j) : TI N g' := by
  obtain ⟨h1, h2, h3, h4⟩ := h
  refine ⟨fun i hi => ?_, fun i hi => ?_, fun i hi => ?_, fun i j hi hj hij a b => ?_⟩
  · rw [hs _ _ (by omega)]; exact h1 i hi
  · rw [hs _ _ (by omega)]; exact h2 i hi
  · rw [hs _ _ (by omega)]; exact h3 i hi
  · rw [hs _ _ (by omega)] at a b
    rw [hs _ _ (by omega), hs _ _ (by omega), hs _ _ (by omega), hs _ _ (by omega)]
    exact h4 i j hi hj hij a b
theorem note_k {g : SG} {i : Nat} {t d : Int32} {k a b : Nat} (hk : k ≠ 11) : g_note g i t d k a b = g k a b := by
  unfold g_note
  split
  · simp [up3, hk]
  · split
    · rfl
    · simp [up3, hk]
theorem s_note {N M : Nat} {g r : SG} {i t : Nat} (hi : i < 4) (hiN : i < N) (ht : t < 4) (ok : OkN N g) (h : TS N M g r) (dx dy : Int32) : TS N M (g_note g i (nI t) (imax dx dy)) (if dx ≤ dy then (if 4 ≤ r 24 0 i then up3 (up3 r 24 0 i (nI t)) 25 0 i dy else if dy < r 25 0 i then up3 (up3 r 24 0 i (nI t)) 25 0 i dy else r) else (if 4 ≤ r 24 0 i then up3 (up3 r 24 0 i (nI t)) 25 0 i dx else if dx < r 25 0 i then up3 (up3 r 24 0 i (nI t)) 25 0 i dx else r)) := by
  have key : ∀ d : Int32, TS N M (g_note g i (nI t) d) (if 4 ≤ r 24 0 i then up3 (up3 r 24 0 i (nI t)) 25 0 i d else if d < r 25 0 i then up3 (up3 r 24 0 i (nI t)) 25 0 i d else r) := by
    intro d
    unfold g_note f_sees
    rw [h.r24 hi hiN, h.r25 hi hiN]
    have hu : TS N M (up3 (up3 g 11 i 2 (nI t)) 11 i 3 d) (up3 (up3 r 24 0 i (nI t)) 25 0 i d) := by
      refine TS.up (dm11 hi (by decide)) rfl rfl ?_ rfl
      exact TS.up (dm11 hi (by decide)) rfl rfl h rfl
    by_cases c : g 11 i 2 = 4
    · rw [if_pos c, if_pos rfl, if_pos (by rw [c]; decide)]
      exact hu
    · have h5 : rng (g 11 i 2) 5 := ok.1.1 11 i 2
      have h4 := ne4_j h5 c
      rw [if_neg c, if_neg (by decide), if_neg (show ¬ 4 ≤ g 11 i 2 by rw [h4.1]; exact nI_ge h4.2 (by decide))]
      by_cases c2 : g 11 i 3 ≤ d
      · rw [if_pos c2, if_neg (by rw [Int32.lt_iff_toInt_lt]; rw [Int32.le_iff_toInt_le] at c2; omega)]
        exact h
      · rw [if_neg c2, if_pos (by rw [Int32.lt_iff_toInt_lt]; rw [Int32.le_iff_toInt_le] at c2; omega)]
        exact hu
  by_cases c : dx ≤ dy
  · rw [if_pos c]
    have : imax dx dy = dy := by
      unfold imax
      by_cases c2 : dx < dy
      · rw [if_pos c2]
      · rw [if_neg c2]
        rw [Int32.le_iff_toInt_le] at c
        rw [Int32.lt_iff_toInt_lt] at c2
        exact Int32.toInt_inj.mp (by omega)
    rw [this]
    exact key dy
  · rw [if_neg c]
    have : imax dx dy = dx := by
      unfold imax
      rw [if_neg (by rw [Int32.lt_iff_toInt_lt]; rw [Int32.le_iff_toInt_le] at c; omega)]
    rw [this]
    exact key dx
theorem ite_push {α β : Type} (f : α → β) (c : Prop) [Decidable c] (a b : α) : (if c then f a else f b) = f (if c then a else b) := by
  split <;> rfl
theorem s_look_L {N M j : Nat} (hj : j < 4) (hjN : j < N) : ∀ (n i : Nat) (g r : SG), i + n < 100 → OkN N g → TI N g → ¬ g 3 j 13 = 0 → TS N M g r → TS N M (L_look j n i g) (L_Rlook j n i r) := by
  intro n
  induction n with
  | zero => intro i g r _ _ _ _ h; exact h
  | succ n ih =>
    intro i g r hin ok ti ha h
    simp only [L_look, L_Rlook]
    rw [h.n0]
    by_cases c : g 0 0 0 ≤ nI i
    · rw [if_pos c, if_pos c]; exact h
    · rw [if_neg c, if_neg c]
      obtain ⟨hiN, hi⟩ := nlt4 ok.N.1 ok.N.2 c (by omega)
      by_cases c2 : nI i = nI j
      · rw [if_pos c2, if_pos c2]; exact ih _ _ _ (by omega) ok ti ha h
      · rw [if_neg c2, if_neg c2, h.r21 hi]
        by_cases c3 : g 3 i 13 = 0
        · rw [if_pos c3, if_pos c3]; exact ih _ _ _ (by omega) ok ti ha h
        · rw [if_neg c3, if_neg c3]
          have hij : j ≠ i := fun q => c2 (by rw [q])
          rw [sector_sim hj hi h (ti.px j hjN) (ti.py j hjN) (ti.px i hiN) (ti.py i hiN) (ti.np j i hjN hiN hij ha c3), h.r12 hj]
          by_cases c4 : f_sector g j i = g 3 j 7
          · rw [if_pos c4, if_pos c4]
            have hs := s_note hj hjN hi ok h (iabs (g 3 i 3 - g 3 j 3)) (iabs (g 3 i 4 - g 3 j 4))
            simp only [ite_push (L_Rlook j n (i + 1))]
            rw [h.r8 hi, h.r8 hj, h.r9 hi, h.r9 hj, rabs_eq, rabs_eq]
            refine ih _ _ _ (by omega) (ok_g_note ok j (nI i) _ ⟨i, by omega, rfl⟩) (ti.same (fun a b _ => note_k (by decide))) ?_ hs
            rw [note_k (by decide)]; exact ha
          · rw [if_neg c4, if_neg c4]; exact ih _ _ _ (by omega) ok ti ha h
theorem s_look {N M j : Nat} {g r : SG} (hj : j < 4) (hjN : j < N) (ok : OkN N g) (ti : TI N g) (ha : ¬ g 3 j 13 = 0) (h : TS N M g r) : TS N M (g_look g j) (g_Rlook r j) := s_look_L hj hjN 5 0 g r (by decide) ok ti ha h
