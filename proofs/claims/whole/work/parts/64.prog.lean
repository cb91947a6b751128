/-! SIMULATION: programs (mine) -/
/-- whom a tank sees is in, and not at its place -/
def SI (N : Nat) (g : SG) : Prop := ∀ i, i < N → ¬ g 11 i 2 = 4 → (g 11 i 2).toNatClampNeg < N ∧ ¬ (g 3 (g 11 i 2).toNatClampNeg 3 = g 3 i 3 ∧ g 3 (g 11 i 2).toNatClampNeg 4 = g 3 i 4)
theorem SI.same {N : Nat} {g g' : SG} (h : SI N g) (h1 : ∀ i, g' 11 i 2 = g 11 i 2) (h2 : ∀ i, g' 3 i 3 = g 3 i 3) (h3 : ∀ i, g' 3 i 4 = g 3 i 4) : SI N g' := by
  intro i hi
  rw [h1, h2, h3, h2, h3]
  exact h i hi
theorem s_aimed {N M : Nat} {g r : SG} {i : Nat} (hi : i < 4) (hiN : i < N) (ok : OkN N g) (ti : TI N g) (si : SI N g) (h : TS N M g r) : (if 4 ≤ r 24 0 i then (0 : Int32) else if f_Rsector (r 8 0 (r 24 0 i).toNatClampNeg - r 8 0 i) (r 9 0 (r 24 0 i).toNatClampNeg - r 9 0 i) = r 11 0 i then 1 else 0) = f_isAimed g i := by
  unfold f_isAimed f_sees
  rw [h.r24 hi hiN]
  by_cases c : g 11 i 2 = 4
  · rw [if_pos c, if_pos rfl, if_pos (by rw [c]; decide)]
  · have h4 := ne4_j (ok.1.1 11 i 2) c
    rw [if_neg c, if_neg (show ¬ 4 ≤ g 11 i 2 by rw [h4.1]; exact nI_ge h4.2 (by decide)), if_neg (show ¬ (1 : Int32) = 0 by decide)]
    obtain ⟨s1, s2⟩ := si i hiN c
    rw [sector_sim hi h4.2 h (ti.px i hiN) (ti.py i hiN) (ti.px _ s1) (ti.py _ s1) s2, h.r11 hi]
theorem ite_pair {α β : Type} (c : Prop) [Decidable c] (a b : α) (g : β) : (if c then (a, g) else (b, g)) = ((if c then a else b), g) := by
  split <;> rfl
theorem s_sees {N M : Nat} {g r : SG} {i : Nat} (hi : i < 4) (hiN : i < N) (ok : OkN N g) (h : TS N M g r) : (if 4 ≤ r 24 0 i then (0 : Int32) else 1) = f_sees g i := by
  unfold f_sees
  rw [h.r24 hi hiN]
  by_cases c : g 11 i 2 = 4
  · rw [if_pos c, if_pos (by rw [c]; decide)]
  · have h4 := ne4_j (ok.1.1 11 i 2) c
    rw [if_neg c, if_neg (show ¬ 4 ≤ g 11 i 2 by rw [h4.1]; exact nI_ge h4.2 (by decide))]
/-- one instruction: what the class does of it -/
def g_one (g : SG) (i : Nat) (op a b : Int32) : SG := if f_jumps (g_obey g i op a b) i op b = 0 then up3 (g_obey g i op a b) 8 i 0 (g 8 i 0 + 1) else up3 (g_obey g i op a b) 8 i 0 a
/-- the end of an instruction, where the reference's jump leaves the state alone -/
theorem s_fin {N M : Nat} {g r : SG} {i : Nat} (hi : i < 4) (op a b c : Int32) (n : Int32) (hn : n = g 8 i 0) (hj : x_Rjumps r i op b = (c, r)) (h : TS N M g r) : TS N M (if c = 0 then up3 g 8 i 0 (n + 1) else up3 g 8 i 0 a) (J_Rperf67 i op a b r) := by
  unfold J_Rperf67
  rw [hj]
  dsimp only
  rw [h.r17 hi, hn]
  by_cases q : c = 0
  · rw [if_pos q, if_pos q]
    exact TS.up (dm8 hi (by decide)) rfl rfl h rfl
  · rw [if_neg q, if_neg q]
    exact TS.up (dm8 hi (by decide)) rfl rfl h rfl
theorem s_one {N M : Nat} {g r : SG} {i : Nat} {op a b : Int32} (hi : i < 4) (hiN : i < N) (hM : i < M) (ok : OkN N g) (ti : TI N g) (si : SI N g) (hio : insOk op a b) (h : TS N M g r) : TS N M (g_one g i op a b) (g_Rperform r i op a b) := by
  have hc : ∀ (r' : SG) (op : Int32), ¬ op = 5 → ¬ op = 11 → J_Rperf37 i op a b r' = J_Rperf67 i op a b r' := by
    intro r' op n1 n2
    unfold J_Rperf37 J_Rperf49
    rw [if_neg n1, if_neg n2]
  have h14 : ∀ (op : Int32), (op ≤ 1 ∨ 5 ≤ op) → ∀ r' : SG, J_Rperf14 i op a b r' = J_Rperf37 i op a b r' := by
    intro op ho r'
    unfold J_Rperf14
    rcases ho with ho | ho
    · rw [if_pos ho]
    · by_cases q : op ≤ 1
      · rw [if_pos q]
      · rw [if_neg q, if_pos ho]
  by_cases c1 : op = 1
  · subst c1
    have := s_fin (r := up3 r 14 0 i (4 * a)) (g := up3 g 3 i 9 (a * 4)) hi 1 a b 0 (g 8 i 0) (by simp [up3]) (by simp [x_Rjumps]) (TS.up (dm3 hi (by decide)) rfl rfl h (Int32.mul_comm _ _))
    rw [show g_one g i 1 a b = if (0 : Int32) = 0 then up3 (up3 g 3 i 9 (a * 4)) 8 i 0 (g 8 i 0 + 1) else up3 (up3 g 3 i 9 (a * 4)) 8 i 0 a by simp [g_one, g_obey, f_jumps]]
    rw [show g_Rperform r i 1 a b = J_Rperf67 i 1 a b (up3 r 14 0 i (4 * a)) by rw [g_Rperform, if_pos rfl, h14 1 (Or.inl (by decide)), hc _ 1 (by decide) (by decide)]]
    exact this
  have hp : g_Rperform r i op a b = J_Rperf14 i op a b r := by rw [g_Rperform, if_neg c1]
  rw [hp]
  by_cases c2 : op = 2
  · subst c2
    have := s_fin (r := up3 r 26 0 (4 * (Int32.toNatClampNeg 2 - 2) + i) a) (g := up3 g 10 i 0 a) hi 2 a b 0 (g 8 i 0) (by simp [up3]) (by simp [x_Rjumps]) (TS.up (dm10 hi (by decide)) rfl rfl h rfl)
    rw [show g_one g i 2 a b = if (0 : Int32) = 0 then up3 (up3 g 10 i 0 a) 8 i 0 (g 8 i 0 + 1) else up3 (up3 g 10 i 0 a) 8 i 0 a by simp [g_one, g_obey, f_jumps]]
    rw [show J_Rperf14 i 2 a b r = J_Rperf67 i 2 a b (up3 r 26 0 (4 * (Int32.toNatClampNeg 2 - 2) + i) a) by rw [J_Rperf14, if_neg (by decide), if_neg (by decide), hc _ 2 (by decide) (by decide)]]
    exact this
  by_cases c3 : op = 3
  · subst c3
    have := s_fin (r := up3 r 26 0 (4 * (Int32.toNatClampNeg 3 - 2) + i) a) (g := up3 g 10 i 1 a) hi 3 a b 0 (g 8 i 0) (by simp [up3]) (by simp [x_Rjumps]) (TS.up (dm10 hi (by decide)) rfl rfl h rfl)
    rw [show g_one g i 3 a b = if (0 : Int32) = 0 then up3 (up3 g 10 i 1 a) 8 i 0 (g 8 i 0 + 1) else up3 (up3 g 10 i 1 a) 8 i 0 a by simp [g_one, g_obey, f_jumps]]
    rw [show J_Rperf14 i 3 a b r = J_Rperf67 i 3 a b (up3 r 26 0 (4 * (Int32.toNatClampNeg 3 - 2) + i) a) by rw [J_Rperf14, if_neg (by decide), if_neg (by decide), hc _ 3 (by decide) (by decide)]]
    exact this
  by_cases c4 : op = 4
  · subst c4
    have := s_fin (r := up3 r 26 0 (4 * (Int32.toNatClampNeg 4 - 2) + i) a) (g := up3 g 10 i 2 a) hi 4 a b 0 (g 8 i 0) (by simp [up3]) (by simp [x_Rjumps]) (TS.up (dm10 hi (by decide)) rfl rfl h rfl)
    rw [show g_one g i 4 a b = if (0 : Int32) = 0 then up3 (up3 g 10 i 2 a) 8 i 0 (g 8 i 0 + 1) else up3 (up3 g 10 i 2 a) 8 i 0 a by simp [g_one, g_obey, f_jumps]]
    rw [show J_Rperf14 i 4 a b r = J_Rperf67 i 4 a b (up3 r 26 0 (4 * (Int32.toNatClampNeg 4 - 2) + i) a) by rw [J_Rperf14, if_neg (by decide), if_neg (by decide), hc _ 4 (by decide) (by decide)]]
    exact this
  have hop : op ≤ 1 ∨ 5 ≤ op := by
    have e1 : (1 : Int32).toInt = 1 := by decide
    have e5 : (5 : Int32).toInt = 5 := by decide
    have n2 := neI 2 (by decide) c2
    have n3 := neI 3 (by decide) c3
    have n4 := neI 4 (by decide) c4
    rw [Int32.le_iff_toInt_le, Int32.le_iff_toInt_le, e1, e5]
    omega
  rw [h14 op hop]
  by_cases c5 : op = 5
  · subst c5
    have := s_fin (r := up3 r 27 0 i a) (g := up3 g 10 i 3 a) hi 5 a b 0 (g 8 i 0) (by simp [up3]) (by simp [x_Rjumps]) (TS.up (dm10 hi (by decide)) rfl rfl h rfl)
    rw [show g_one g i 5 a b = if (0 : Int32) = 0 then up3 (up3 g 10 i 3 a) 8 i 0 (g 8 i 0 + 1) else up3 (up3 g 10 i 3 a) 8 i 0 a by simp [g_one, g_obey, f_jumps]]
    rw [show J_Rperf37 i 5 a b r = J_Rperf67 i 5 a b (up3 r 27 0 i a) by rw [J_Rperf37, if_pos rfl, J_Rperf49, if_neg (by decide)]]
    exact this
  by_cases c11 : op = 11
  · subst c11
    have ha := rng_j (hio.1 rfl) (by decide)
    have := s_fin (r := up3 r 18 0 (2 * i + a.toNatClampNeg) b) (g := up3 g 9 i a.toNatClampNeg b) hi 11 a b 0 (g 8 i 0) (by simp [up3]) (by simp [x_Rjumps]) (TS.up (dm9 hi ha.2) rfl rfl h rfl)
    rw [show g_one g i 11 a b = if (0 : Int32) = 0 then up3 (up3 g 9 i a.toNatClampNeg b) 8 i 0 (g 8 i 0 + 1) else up3 (up3 g 9 i a.toNatClampNeg b) 8 i 0 a by simp [g_one, g_obey, f_jumps]]
    rw [show J_Rperf37 i 11 a b r = J_Rperf67 i 11 a b (up3 r 18 0 (2 * i + a.toNatClampNeg) b) by rw [J_Rperf37, if_neg (by decide), J_Rperf49, if_pos rfl]]
    exact this
  rw [hc _ op c5 c11]
  by_cases c6 : op = 6
  · subst c6
    have := s_fin hi 6 a b 1 (g 8 i 0) rfl (by simp [x_Rjumps]) h
    rwa [show g_one g i 6 a b = if (1 : Int32) = 0 then up3 g 8 i 0 (g 8 i 0 + 1) else up3 g 8 i 0 a by simp [g_one, g_obey, f_jumps]]
  by_cases c7 : op = 7
  · subst c7
    have := s_fin hi 7 a b (f_sees g i) (g 8 i 0) rfl (by rw [← s_sees hi hiN ok h]; simp [x_Rjumps, ite_pair]) h
    rwa [show g_one g i 7 a b = if f_sees g i = 0 then up3 g 8 i 0 (g 8 i 0 + 1) else up3 g 8 i 0 a by simp [g_one, g_obey, f_jumps]]
  by_cases c8 : op = 8
  · subst c8
    have := s_fin hi 8 a b (g 11 i 0) (g 8 i 0) rfl (by rw [← h.r22 hi hiN]; simp [x_Rjumps]) h
    rwa [show g_one g i 8 a b = if g 11 i 0 = 0 then up3 g 8 i 0 (g 8 i 0 + 1) else up3 g 8 i 0 a by simp [g_one, g_obey, f_jumps]]
  by_cases c9 : op = 9
  · subst c9
    have := s_fin hi 9 a b (g 11 i 1) (g 8 i 0) rfl (by rw [← h.r23 hi hiN]; simp [x_Rjumps]) h
    rwa [show g_one g i 9 a b = if g 11 i 1 = 0 then up3 g 8 i 0 (g 8 i 0 + 1) else up3 g 8 i 0 a by simp [g_one, g_obey, f_jumps]]
  by_cases c10 : op = 10
  · subst c10
    have := s_fin hi 10 a b (f_isAimed g i) (g 8 i 0) rfl (by rw [← s_aimed hi hiN ok ti si h]; simp [x_Rjumps, ite_pair]) h
    rwa [show g_one g i 10 a b = if f_isAimed g i = 0 then up3 g 8 i 0 (g 8 i 0 + 1) else up3 g 8 i 0 a by simp [g_one, g_obey, f_jumps]]
  by_cases c12 : op = 12
  · subst c12
    have hb := rng_j (hio.2.1 rfl) (by decide)
    have h2 : TS N M (up3 g 9 i b.toNatClampNeg (g 9 i b.toNatClampNeg - 1)) (up3 r 18 0 (2 * i + b.toNatClampNeg) (g 9 i b.toNatClampNeg - 1)) := TS.up (dm9 hi hb.2) rfl rfl h rfl
    rw [show g_one g i 12 a b = if g 9 i b.toNatClampNeg - 1 ≤ 0 then up3 (up3 g 9 i b.toNatClampNeg (g 9 i b.toNatClampNeg - 1)) 8 i 0 (g 8 i 0 + 1) else up3 (up3 g 9 i b.toNatClampNeg (g 9 i b.toNatClampNeg - 1)) 8 i 0 a by
      simp only [g_one, g_obey, f_jumps]
      simp only [show ¬ (12 : Int32) = 1 by decide, show ¬ (12 : Int32) = 2 by decide, show ¬ (12 : Int32) = 3 by decide, show ¬ (12 : Int32) = 4 by decide, show ¬ (12 : Int32) = 5 by decide, show ¬ (12 : Int32) = 6 by decide, show ¬ (12 : Int32) = 7 by decide, show ¬ (12 : Int32) = 8 by decide, show ¬ (12 : Int32) = 9 by decide, show ¬ (12 : Int32) = 10 by decide, show ¬ (12 : Int32) = 11 by decide, if_false, if_true]
      rw [show up3 g 9 i b.toNatClampNeg (g 9 i b.toNatClampNeg - 1) 9 i b.toNatClampNeg = g 9 i b.toNatClampNeg - 1 by simp [up3]]
      by_cases q : g 9 i b.toNatClampNeg - 1 ≤ 0
      · simp [q]
      · simp [q]]
    rw [show J_Rperf67 i 12 a b r = if g 9 i b.toNatClampNeg - 1 ≤ 0 then up3 (up3 r 18 0 (2 * i + b.toNatClampNeg) (g 9 i b.toNatClampNeg - 1)) 17 0 i (g 8 i 0 + 1) else up3 (up3 r 18 0 (2 * i + b.toNatClampNeg) (g 9 i b.toNatClampNeg - 1)) 17 0 i a by
      simp only [J_Rperf67, x_Rjumps]
      simp only [show ¬ (12 : Int32) = 6 by decide, show ¬ (12 : Int32) = 7 by decide, show ¬ (12 : Int32) = 8 by decide, show ¬ (12 : Int32) = 9 by decide, show ¬ (12 : Int32) = 10 by decide, show ¬ (12 : Int32) = 11 by decide, if_false, if_true]
      rw [h.r18 hi hb.2]
      by_cases q : g 9 i b.toNatClampNeg - 1 ≤ 0
      · rw [if_pos q, if_pos q, if_pos rfl]
        dsimp only
        rw [show up3 r 18 0 (2 * i + b.toNatClampNeg) (g 9 i b.toNatClampNeg - 1) 17 0 i = g 8 i 0 by rw [← h.r17 hi]; simp [up3]]
      · rw [if_neg q, if_neg q, if_neg (show ¬ (1 : Int32) = 0 by decide)]]
    by_cases q : g 9 i b.toNatClampNeg - 1 ≤ 0
    · rw [if_pos q, if_pos q]
      exact TS.up (dm8 hi (by decide)) rfl rfl h2 rfl
    · rw [if_neg q, if_neg q]
      exact TS.up (dm8 hi (by decide)) rfl rfl h2 rfl
  · have := s_fin hi op a b 0 (g 8 i 0) rfl (by simp [x_Rjumps, c6, c7, c8, c9, c10, c11, c12]) h
    rwa [show g_one g i op a b = if (0 : Int32) = 0 then up3 g 8 i 0 (g 8 i 0 + 1) else up3 g 8 i 0 a by simp [g_one, g_obey, f_jumps, c1, c2, c3, c4, c5, c6, c7, c8, c9, c10, c11, c12]]
theorem ite_app3 {c : Prop} [Decidable c] {f g : SG} {k x y : Nat} : (if c then f else g) k x y = if c then f k x y else g k x y := by
  split <;> rfl
/-- what an instruction leaves alone -/
theorem obey_k {g : SG} {i : Nat} {op a b : Int32} {k x y : Nat} (hk : k ≠ 10) (hk2 : k ≠ 9) (hk3 : ¬ (k = 3 ∧ y = 9)) : g_obey g i op a b k x y = g k x y := by
  unfold g_obey
  simp only [ite_app3]
  rw [show ∀ v, up3 g 3 i 9 v k x y = g k x y from fun v => by rw [up3_at, if_neg (by omega)], show ∀ j v, up3 g 9 i j v k x y = g k x y from fun j v => by rw [up3_at, if_neg (by omega)], show ∀ j v, up3 g 9 i j v k x y = g k x y from fun j v => by rw [up3_at, if_neg (by omega)]]
  rw [show ∀ j v, up3 g 10 i j v k x y = g k x y from fun j v => by rw [up3_at, if_neg (by omega)], show ∀ j v, up3 g 10 i j v k x y = g k x y from fun j v => by rw [up3_at, if_neg (by omega)], show ∀ j v, up3 g 10 i j v k x y = g k x y from fun j v => by rw [up3_at, if_neg (by omega)], show ∀ j v, up3 g 10 i j v k x y = g k x y from fun j v => by rw [up3_at, if_neg (by omega)]]
  simp only [ite_self]
theorem one_k {g : SG} {i : Nat} {op a b : Int32} {k x y : Nat} (hk : k ≠ 10) (hk2 : k ≠ 9) (hk3 : ¬ (k = 3 ∧ y = 9)) (hk4 : k ≠ 8) : g_one g i op a b k x y = g k x y := by
  unfold g_one
  split <;> rw [up3_at, if_neg (by omega), obey_k hk hk2 hk3]
theorem ok_one {N : Nat} {g : SG} {i : Nat} {op a b : Int32} (ok : OkN N g) (hio : insOk op a b) (hc : rng (g 8 i 0) 16) : OkN N (g_one g i op a b) := by
  unfold g_one
  have h8 := ok_g_obey ok i op a b hio
  have hcj := rng_j hc (by decide)
  split
  · exact okU h8 rfl (next_ty hcj.1 hcj.2)
  · rename_i q
    exact okU h8 rfl (jump_ty hio q)
theorem spends_eq (i n dn : Nat) (gl : SG) : L_spends i (n + 1) dn gl = if 10 ≤ nI dn then (1, gl) else if gl 8 i 0 < gl 4 i 0 then (if gl 5 i (gl 8 i 0).toNatClampNeg = 0 then (0, g_one gl i (gl 5 i (gl 8 i 0).toNatClampNeg) (gl 6 i (gl 8 i 0).toNatClampNeg) (gl 7 i (gl 8 i 0).toNatClampNeg)) else L_spends i n (dn + 1) (g_one gl i (gl 5 i (gl 8 i 0).toNatClampNeg) (gl 6 i (gl 8 i 0).toNatClampNeg) (gl 7 i (gl 8 i 0).toNatClampNeg))) else (0, up3 gl 8 i 0 0) := by
  rw [L_spends]
  unfold g_one
  by_cases c1 : 10 ≤ nI dn
  · rw [if_pos c1, if_pos c1]
  · rw [if_neg c1, if_neg c1]
    by_cases c2 : gl 8 i 0 < gl 4 i 0
    · rw [if_pos c2, if_pos c2]
      generalize hop : gl 5 i (gl 8 i 0).toNatClampNeg = op
      generalize gl 6 i (gl 8 i 0).toNatClampNeg = a
      generalize gl 7 i (gl 8 i 0).toNatClampNeg = b
      by_cases c3 : f_jumps (g_obey gl i op a b) i op b = 0
      · rw [if_pos c3, if_pos c3]
      · rw [if_neg c3, if_neg c3]
    · rw [if_neg c2, if_neg c2]
/-- a program: where the budget holds out both are done; where it doesn't the class still has to take back -/
theorem s_prog_L {N M i : Nat} (hi : i < 4) (hiN : i < N) (hM : i < M) (bf : Int32) : ∀ (n dn : Nat) (g r : SG), dn + n < 100 → 11 ≤ dn + n → dn ≤ 10 → OkN N g → TI N g → SI N g → TS N M g r →
    TS N M (if (L_spends i n dn g).1 = 0 then (L_spends i n dn g).2 else up3 (g_oclear (up3 (L_spends i n dn g).2 8 i 1 ((L_spends i n dn g).2 8 i 1 + 1)) i) 3 i 9 bf) (L_Rprogram i n bf dn r) := by
  intro n
  induction n with
  | zero => intro dn g r h0 h1 h2; exfalso; omega
  | succ n ih =>
    intro dn g r h0 h1 h2 ok ti si h
    rw [spends_eq]
    simp only [L_Rprogram]
    by_cases c1 : 10 ≤ nI dn
    · rw [if_pos c1, if_pos c1]
      dsimp only
      rw [if_neg (by decide)]
      refine TS.up (dm3 hi (by decide)) rfl rfl ?_ rfl
      refine s_oclear hi ?_
      exact TS.up (dm8 hi (by decide)) rfl rfl h (by rw [h.r19 hi])
    · rw [if_neg c1, if_neg c1]
      have hdn : dn < 10 := by
        rcases Nat.lt_or_ge dn 10 with q | q
        · exact q
        · exact absurd (nI_le (a := 10) q (by omega)) c1
      rw [h.r17 hi, h.r4 hi]
      by_cases c2 : g 8 i 0 < g 4 i 0
      · have hc := ctr_j ok c2
        have hcr : rng (g 8 i 0) 16 := ⟨_, hc.2, hc.1⟩
        rw [if_pos c2, if_pos c2]
        rw [h.r5 hi hc.2, h.r6 hi hc.2, h.r7 hi hc.2]
        have hio : insOk (g 5 i (g 8 i 0).toNatClampNeg) (g 6 i (g 8 i 0).toNatClampNeg) (g 7 i (g 8 i 0).toNatClampNeg) := ok.1.2 i _
        have h' := s_one hi hiN hM ok ti si hio h
        have ok' := ok_one ok hio hcr
        have ti' : TI N (g_one g i (g 5 i (g 8 i 0).toNatClampNeg) (g 6 i (g 8 i 0).toNatClampNeg) (g 7 i (g 8 i 0).toNatClampNeg)) := ti.same (fun a b q => one_k (by decide) (by decide) (by omega) (by decide))
        have si' : SI N (g_one g i (g 5 i (g 8 i 0).toNatClampNeg) (g 6 i (g 8 i 0).toNatClampNeg) (g 7 i (g 8 i 0).toNatClampNeg)) := si.same (fun a => one_k (by decide) (by decide) (by decide) (by decide)) (fun a => one_k (by decide) (by decide) (by decide) (by decide)) (fun a => one_k (by decide) (by decide) (by decide) (by decide))
        have e5 : g_Rperform r i (g 5 i (g 8 i 0).toNatClampNeg) (g 6 i (g 8 i 0).toNatClampNeg) (g 7 i (g 8 i 0).toNatClampNeg) 5 0 (16 * i + (g 8 i 0).toNatClampNeg) = g 5 i (g 8 i 0).toNatClampNeg := by
          rw [h'.r5 hi hc.2, one_k (by decide) (by decide) (by omega) (by decide)]
        rw [e5]
        by_cases c3 : g 5 i (g 8 i 0).toNatClampNeg = 0
        · rw [if_pos c3, if_pos c3]
          dsimp only
          rw [if_pos rfl]
          exact h'
        · rw [if_neg c3, if_neg c3]
          exact ih _ _ _ (by omega) (by omega) (by omega) ok' ti' si' h'
      · rw [if_neg c2, if_neg c2]
        dsimp only
        rw [if_pos rfl]
        exact TS.up (dm8 hi (by decide)) rfl rfl h rfl
theorem s_prog {N M i : Nat} {g r : SG} (hi : i < 4) (hiN : i < N) (hM : i < M) (ok : OkN N g) (ti : TI N g) (si : SI N g) (h : TS N M g r) : TS N M (g_runProgram g i) (g_Rprogram r i) := by
  unfold g_runProgram g_Rprogram x_spends
  rw [h.r14 hi]
  exact s_prog_L hi hiN hM (g 3 i 9) 11 0 g r (by decide) (by decide) (by decide) ok ti si h
