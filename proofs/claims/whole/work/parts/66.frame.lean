/-! SIMULATION: what a bullet's flight leaves alone, how far it gets (mine) -/
theorem strike_k {g : SG} {k j a b c : Nat} (h : ¬ (a = 3 ∧ (c = 10 ∨ c = 12 ∨ c = 13)) ∧ ¬ (a = 11 ∧ c = 1) ∧ ¬ (a = 0 ∧ c = 4)) : g_strike g k j a b c = g a b c := by
  unfold g_strike
  rw [ite_app3]
  split <;> (rw [die_k (by omega) (by omega)]; simp only [up3_at]; repeat rw [if_neg (by omega)])
theorem stays_k {k a b c : Nat} (h : ¬ (a = 3 ∧ (c = 10 ∨ c = 12 ∨ c = 13)) ∧ ¬ (a = 11 ∧ c = 1) ∧ ¬ (a = 0 ∧ c = 4) ∧ ¬ (a = 12 ∧ b = k ∧ (c = 0 ∨ c = 1))) : ∀ (n gn : Nat) (g : SG), (L_stays k n gn g).2 a b c = g a b c := by
  have hg : ∀ g : SG, g_bgoOn g k a b c = g a b c := fun g => by
    unfold g_bgoOn
    simp only [up3_at]
    repeat rw [if_neg (by omega)]
  intro n
  induction n with
  | zero => intro gn g; rfl
  | succ n ih =>
    intro gn g
    simp only [L_stays]
    split
    · rfl
    · split
      · exact hg g
      · split
        · rw [ih, hg]
        · show g_strike _ _ _ a b c = _
          rw [strike_k (by omega), hg]
theorem die_aliveL {q : Nat} : ∀ (n i : Nat) (g : SG), L_die n i g 3 q 13 = g 3 q 13 := fun n i g => die_kL (by omega) n i g
theorem die_alive {g : SG} {j q : Nat} (h : ¬ g_die g j 3 q 13 = 0) : ¬ g 3 q 13 = 0 := by
  unfold g_die at h
  split at h
  · rw [die_aliveL, up3_at] at h
    split at h
    · exact absurd rfl h
    · exact h
  · exact h
theorem strike_alive {g : SG} {k j q : Nat} (h : ¬ g_strike g k j 3 q 13 = 0) : ¬ g 3 q 13 = 0 := by
  unfold g_strike at h
  rw [ite_app3] at h
  split at h
  · have := die_alive h
    simpa [up3_at] using this
  · have := die_alive h
    simpa [up3_at] using this
theorem stays_alive {k q : Nat} : ∀ (n gn : Nat) (g : SG), ¬ (L_stays k n gn g).2 3 q 13 = 0 → ¬ g 3 q 13 = 0 := by
  have hg : ∀ g : SG, g_bgoOn g k 3 q 13 = g 3 q 13 := fun g => by simp [g_bgoOn, up3_at]
  intro n
  induction n with
  | zero => intro gn g h; exact h
  | succ n ih =>
    intro gn g
    simp only [L_stays]
    split
    · exact fun h => h
    · split
      · intro h; rw [← hg g]; exact h
      · split
        · intro h; rw [← hg g]; exact ih _ _ h
        · intro h; rw [← hg g]; exact strike_alive h
theorem Rstrike_k {r : SG} {b j a c : Nat} (h : (28 ≤ a ∧ ¬ (a = 33 ∧ c = b)) ∨ (a = 0 ∧ c = 4)) : g_Rstrike r b j a 0 c = r a 0 c := by
  unfold g_Rstrike
  rw [ite_app3]
  split <;> (rw [check_k (by omega) (by omega)]; simp only [up3_at]; repeat rw [if_neg (by omega)])
theorem Rfly_k {b a c : Nat} (h : (28 ≤ a ∧ ¬ ((a = 28 ∨ a = 29 ∨ a = 33) ∧ c = b)) ∨ (a = 0 ∧ c = 4)) : ∀ (n k : Nat) (r : SG), L_Rfly b n k r a 0 c = r a 0 c := by
  have hu : ∀ (r : SG) (v w : Int32), up3 (up3 r 28 0 b v) 29 0 b w a 0 c = r a 0 c := fun r v w => by
    simp only [up3_at]
    repeat rw [if_neg (by omega)]
  have hu3 : ∀ (r : SG) (v w : Int32), up3 (up3 (up3 r 28 0 b v) 29 0 b w) 33 0 b 1 a 0 c = r a 0 c := fun r v w => by
    simp only [up3_at]
    repeat rw [if_neg (by omega)]
  intro n
  induction n with
  | zero => intro k r; rfl
  | succ n ih =>
    intro k r
    simp only [L_Rfly]
    simp only [ite_app3, hu, hu3, ih, Rstrike_k (show (28 ≤ a ∧ ¬ (a = 33 ∧ c = b)) ∨ (a = 0 ∧ c = 4) by omega), ite_self]
/-- how far a bullet has come, along its way, from where a tank may stand -/
def PC (x y d : Int32) (m : Int) : Prop := (0 ≤ x.toInt ∧ x.toInt ≤ 512) ∧ (0 ≤ y.toInt ∧ y.toInt ≤ 512) ∧ (stepX d.toNatClampNeg = 1 → 16 + m ≤ x.toInt) ∧ (stepX d.toNatClampNeg = -1 → x.toInt + m ≤ 496) ∧ (stepY d.toNatClampNeg = 1 → 16 + m ≤ y.toInt) ∧ (stepY d.toNatClampNeg = -1 → y.toInt + m ≤ 496)
theorem PC.less {x y d : Int32} {m m' : Int} (h : PC x y d m) (hm : m' ≤ m) : PC x y d m' := by
  obtain ⟨h1, h2, h3, h4, h5, h6⟩ := h
  exact ⟨h1, h2, fun q => by have := h3 q; omega, fun q => by have := h4 q; omega, fun q => by have := h5 q; omega, fun q => by have := h6 q; omega⟩
theorem PC.bound {x y d : Int32} {m : Int} (h : PC x y d m) (hd : rng d 8) : m ≤ 496 := by
  obtain ⟨h1, h2, h3, h4, h5, h6⟩ := h
  obtain ⟨j, hj, rfl⟩ := hd
  rw [nI_clamp (by omega)] at h3 h4 h5 h6
  match j, hj with
  | 0, _ => have := h3 (by decide); omega
  | 1, _ => have := h3 (by decide); omega
  | 2, _ => have := h5 (by decide); omega
  | 3, _ => have := h4 (by decide); omega
  | 4, _ => have := h4 (by decide); omega
  | 5, _ => have := h4 (by decide); omega
  | 6, _ => have := h6 (by decide); omega
  | 7, _ => have := h3 (by decide); omega
  | j + 8, hj => exact absurd hj (by omega)
theorem step_val (f : Nat → Int32) (hf : f = stepX ∨ f = stepY) {j : Nat} (hj : j < 8) : (f j).toInt = 0 ∧ ¬ f j = 1 ∧ ¬ f j = -1 ∨ f j = 1 ∨ f j = -1 := by
  rcases hf with e | e <;> subst e <;> (match j, hj with
  | 0, _ => decide
  | 1, _ => decide
  | 2, _ => decide
  | 3, _ => decide
  | 4, _ => decide
  | 5, _ => decide
  | 6, _ => decide
  | 7, _ => decide
  | j + 8, hj => exact absurd hj (by omega))
theorem step_to {x st : Int32} {m : Int} (hx : 0 ≤ x.toInt ∧ x.toInt ≤ 512) (hs : st.toInt = 0 ∧ ¬ st = 1 ∧ ¬ st = -1 ∨ st = 1 ∨ st = -1) (h1 : st = 1 → 16 + m ≤ x.toInt) (h2 : st = -1 → x.toInt + m ≤ 496) : (st = 1 → 16 + (m + 8) ≤ (x + st * 8).toInt) ∧ (st = -1 → (x + st * 8).toInt + (m + 8) ≤ 496) := by
  refine ⟨fun e => ?_, fun e => ?_⟩
  · have := h1 e
    rw [e, show (1 : Int32) * 8 = 8 by decide, i32_add rfl (show (8 : Int32).toInt = 8 by decide) (by omega) (by omega)]
    omega
  · have := h2 e
    rw [e, show (-1 : Int32) * 8 = -8 by decide, i32_add rfl (show (-8 : Int32).toInt = -8 by decide) (by omega) (by omega)]
    omega
theorem stays_pc {N k : Nat} {m : Int} : ∀ (n gn : Nat) (g : SG), gn + n < 100 → OkN N g → 1 ≤ (g 12 k 2).toInt → PC (g 12 k 0) (g 12 k 1) (g 12 k 3) (m + 8 * gn) → ¬ (L_stays k n gn g).1 = 0 → PC ((L_stays k n gn g).2 12 k 0) ((L_stays k n gn g).2 12 k 1) (g 12 k 3) (m + 40) := by
  intro n
  induction n with
  | zero => intro gn g _ _ _ _ h; exact absurd rfl h
  | succ n ih =>
    intro gn g hin ok hp1 hpc
    have hp := rng_int (show rng (g 12 k 2) 4 from ok.1.1 12 k 2) (by decide)
    have hd := rng_j (ok_bd ok k) (by decide)
    simp only [L_stays]
    have e8 : (8 - g 12 k 2).toInt = 8 - (g 12 k 2).toInt := i32_sub (by decide) rfl (by omega) (by omega)
    split
    · rename_i c
      intro _
      rw [Int32.le_iff_toInt_le, e8, nI_toInt (by omega)] at c
      refine hpc.less ?_
      omega
    · split
      · intro h; exact absurd rfl h
      · rename_i c2
        split
        · intro h
          have ok1 := ok_g_bgoOn ok k
          have ex : g_bgoOn g k 12 k 0 = g 12 k 0 + stepX (g 12 k 3).toNatClampNeg * 8 := by simp [g_bgoOn, up3]
          have ey : g_bgoOn g k 12 k 1 = g 12 k 1 + stepY (g 12 k 3).toNatClampNeg * 8 := by simp [g_bgoOn, up3]
          have ed : g_bgoOn g k 12 k 3 = g 12 k 3 := by simp [g_bgoOn, up3]
          have ep : g_bgoOn g k 12 k 2 = g 12 k 2 := by simp [g_bgoOn, up3]
          have := ih (gn + 1) (g_bgoOn g k) (by omega) ok1 (by rw [ep]; exact hp1) ?_ h
          · rw [ed] at this; exact this
          · obtain ⟨q1, q2, q3, q4, q5, q6⟩ := hpc
            unfold f_inField at c2
            have w1 : ¬ f_within (g_bgoOn g k 12 k 0) 0 512 = 0 := fun q => c2 (by rw [if_pos q])
            have w2 : ¬ f_within (g_bgoOn g k 12 k 1) 0 512 = 0 := fun q => c2 (by rw [if_neg w1, if_pos q])
            have v1 := within_le w1
            have v2 := within_le w2
            have s1 := step_to q1 (step_val stepX (Or.inl rfl) hd.2) q3 q4
            have s2 := step_to q2 (step_val stepY (Or.inr rfl) hd.2) q5 q6
            rw [ed]
            rw [ex] at v1 ⊢
            rw [ey] at v2 ⊢
            refine ⟨v1, v2, fun q => ?_, fun q => ?_, fun q => ?_, fun q => ?_⟩
            · have := s1.1 q; omega
            · have := s1.2 q; omega
            · have := s2.1 q; omega
            · have := s2.2 q; omega
        · intro h; exact absurd rfl h
