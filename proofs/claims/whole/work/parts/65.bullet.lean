/-! SIMULATION: one bullet (mine) -/
def BR (g r : SG) (k b : Nat) : Prop := g 12 k 0 = r 28 0 b ∧ g 12 k 1 = r 29 0 b ∧ g 12 k 2 = r 30 0 b ∧ g 12 k 3 = r 31 0 b ∧ g 12 k 4 = r 32 0 b
theorem dmg_eq {p : Int32} (h : rng p 4) : (4 * p + 2 * (p - 1)) * 8 = 32 * p + 16 * (p - 1) := by
  obtain ⟨j, hj, rfl⟩ := h
  match j, hj with
  | 0, _ => decide
  | 1, _ => decide
  | 2, _ => decide
  | 3, _ => decide
  | j + 4, hj => exact absurd hj (by omega)
theorem heal_eq {p : Int32} (h : rng p 4) : 3 * p * 8 = 24 * p := by
  obtain ⟨j, hj, rfl⟩ := h
  match j, hj with
  | 0, _ => decide
  | 1, _ => decide
  | 2, _ => decide
  | 3, _ => decide
  | j + 4, hj => exact absurd hj (by omega)
theorem s_struck_L {N M : Nat} {g r : SG} {k b : Nat} (hN : N < 5) (e : g 0 0 0 = nI N) (h : TS N M g r) (hb : BR g r k b) : ∀ n i, i + n < 100 → L_Rstruck r b n i = L_struck g k n i := by
  intro n
  induction n with
  | zero => intro i _; rfl
  | succ n ih =>
    intro i hin
    simp only [L_struck, L_Rstruck]
    rw [h.n0]
    by_cases c : g 0 0 0 ≤ nI i
    · rw [if_pos c, if_pos c]
    · rw [if_neg c, if_neg c]
      obtain ⟨h1, hi⟩ := nlt4 hN e c (by omega)
      rw [h.r21 hi, h.r8 hi, h.r9 hi, ← hb.1, ← hb.2.1, ← hb.2.2.2.2, ih _ (by omega), rabs_eq, rabs_eq]
      unfold f_dist
      rw [iabs_sub (g 12 k 0), iabs_sub (g 12 k 1)]
      by_cases c1 : g 3 i 13 = 0
      · simp only [if_pos c1, ite_self]
      · rw [if_neg c1, if_neg c1]
        by_cases c2 : nI i = g 12 k 4
        · simp only [if_pos c2, ite_self]
        · rw [if_neg c2, if_neg c2]
          by_cases c3 : 16 < iabs (g 3 i 3 - g 12 k 0)
          · rw [if_pos c3, if_pos ((imax_lt _ _ _).mpr (Or.inl c3))]
          · rw [if_neg c3]
            by_cases c4 : 16 < iabs (g 3 i 4 - g 12 k 1)
            · rw [if_pos c4, if_pos ((imax_lt _ _ _).mpr (Or.inr c4))]
            · rw [if_neg c4, if_neg (fun q => by rcases (imax_lt _ _ _).mp q with q | q; exact c3 q; exact c4 q)]
theorem struck_is {N : Nat} {g : SG} {k : Nat} (hN : N < 5) (e : g 0 0 0 = nI N) : ∀ n i, i ≤ N → i + n < 100 → N + 1 ≤ i + n → ¬ L_struck g k n i = 4 → ∃ q, q < N ∧ L_struck g k n i = nI q ∧ ¬ nI q = g 12 k 4 ∧ ¬ g 3 q 13 = 0 := by
  intro n
  induction n with
  | zero => intro i h0 h1 h2 h3; exfalso; omega
  | succ n ih =>
    intro i h0 h1 h2 h3
    simp only [L_struck] at h3 ⊢
    by_cases c : g 0 0 0 ≤ nI i
    · rw [if_pos c] at h3; exact absurd rfl h3
    · rw [if_neg c] at h3 ⊢
      obtain ⟨hN1, hi⟩ := nlt4 hN e c (by omega)
      by_cases c2 : 16 < f_dist g i (g 12 k 0) (g 12 k 1)
      · rw [if_pos c2] at h3 ⊢; exact ih _ (by omega) (by omega) (by omega) h3
      · rw [if_neg c2] at h3 ⊢
        by_cases c3 : nI i = g 12 k 4
        · rw [if_pos c3] at h3 ⊢; exact ih _ (by omega) (by omega) (by omega) h3
        · rw [if_neg c3] at h3 ⊢
          by_cases c4 : g 3 i 13 = 0
          · rw [if_pos c4] at h3 ⊢; exact ih _ (by omega) (by omega) (by omega) h3
          · rw [if_neg c4] at h3 ⊢
            exact ⟨i, hN1, rfl, c3, c4⟩
theorem s_strike {N M : Nat} {g r : SG} {k b j : Nat} (hj : j < 4) (ok : OkN N g) (ha : ¬ g 3 j 13 = 0) (h : TS N M g r) (hb : BR g r k b) : TS N M (g_strike g k j) (g_Rstrike r b j) := by
  have hN := ok.N.1
  have e := ok.N.2
  have hp : rng (g 12 k 2) 4 := ok.1.1 12 k 2
  have ho := rng_j (show rng (g 12 k 4) 4 from ok.1.1 12 k 4) (by decide)
  unfold g_strike g_Rstrike f_damage
  rw [← hb.2.2.2.2, ← hb.2.2.1, dmg_eq hp, heal_eq hp, h.r21 ho.2]
  generalize (g 12 k 4).toNatClampNeg = o at ho ⊢
  generalize 32 * g 12 k 2 + 16 * (g 12 k 2 - 1) = dm
  generalize 24 * g 12 k 2 = he
  have h1 : TS N M (up3 g 3 j 10 (g 3 j 10 - dm)) (up3 r 15 0 j (r 15 0 j - dm)) := TS.up (dm3 hj (by decide)) rfl rfl h (by rw [h.r15 hj])
  have h2 : TS N M (up3 (up3 g 3 j 10 (g 3 j 10 - dm)) 11 j 1 1) (up3 (up3 r 15 0 j (r 15 0 j - dm)) 23 0 j 1) := TS.up (dm11 hj (by decide)) rfl rfl h1 rfl
  have h3 : TS N M (up3 (up3 (up3 g 3 j 10 (g 3 j 10 - dm)) 11 j 1 1) 3 o 12 (g 3 o 12 + dm)) (up3 (up3 (up3 r 15 0 j (r 15 0 j - dm)) 23 0 j 1) 20 0 o (r 20 0 o + dm)) := TS.up (dm3 ho.2 (by decide)) rfl rfl h2 (by rw [h.r20 ho.2])
  have h4 : TS N M (up3 (up3 (up3 (up3 g 3 j 10 (g 3 j 10 - dm)) 11 j 1 1) 3 o 12 (g 3 o 12 + dm)) 0 0 4 (g 0 0 4 + 1)) (up3 (up3 (up3 (up3 r 15 0 j (r 15 0 j - dm)) 23 0 j 1) 20 0 o (r 20 0 o + dm)) 0 0 3 (r 0 0 3 + 1)) := TS.up (k := 0) (i := 0) (j := 4) rfl rfl rfl h3 (by rw [h.n3])
  by_cases c : g 3 o 13 = 0
  · rw [if_pos c, if_pos c]
    rw [up3_ck (k := 0) (k' := 23) (by decide), up3_ck (k := 0) (k' := 15) (by decide), up3_ck (k := 0) (k' := 20) (by decide), up3_ck (k := 23) (k' := 15) (by decide)]
    refine s_die hj hN (by rw [← e]; simp [up3]) (by simpa [up3] using ha) ?_
    exact TS.upR (Or.inl (by decide)) h4
  · rw [if_neg c, if_neg c]
    have h5 : TS N M (up3 (up3 (up3 (up3 (up3 g 3 j 10 (g 3 j 10 - dm)) 11 j 1 1) 3 o 12 (g 3 o 12 + dm)) 0 0 4 (g 0 0 4 + 1)) 3 o 10 (up3 g 3 j 10 (g 3 j 10 - dm) 3 o 10 + he)) (up3 (up3 (up3 (up3 (up3 r 15 0 j (r 15 0 j - dm)) 23 0 j 1) 20 0 o (r 20 0 o + dm)) 0 0 3 (r 0 0 3 + 1)) 15 0 o (up3 r 15 0 j (r 15 0 j - dm) 15 0 o + he)) := TS.up (dm3 ho.2 (by decide)) rfl rfl h4 (by rw [h1.r15 ho.2])
    have ev : ∀ w : Int32, up3 (up3 (up3 r 0 0 3 (r 0 0 3 + 1)) 23 0 j 1) 15 0 j w 15 0 o = up3 r 15 0 j w 15 0 o := fun w => by simp [up3]
    rw [ev]
    rw [up3_ck (k := 0) (k' := 23) (by decide), up3_ck (k := 0) (k' := 15) (by decide), up3_ck (k := 0) (k' := 20) (by decide), up3_ck (k := 23) (k' := 15) (by decide)]
    refine s_die hj hN (by rw [← e]; simp [up3]) (by simpa [up3] using ha) ?_
    exact TS.upR (Or.inl (by decide)) h5
theorem strike_gone {r : SG} {b j : Nat} : g_Rstrike r b j 33 0 b = 1 := by
  unfold g_Rstrike
  rw [ite_app3]
  split <;> (rw [check_k (by decide) (by decide)]; simp [up3])
theorem fly_gone {b : Nat} : ∀ (n k : Nat) (r : SG), ¬ r 33 0 b = 0 → L_Rfly b n k r = r := by
  intro n
  cases n with
  | zero => intro k r _; rfl
  | succ n =>
    intro k r h
    simp only [L_Rfly]
    rw [if_neg h]
    simp only [ite_self]
theorem s_stays_L {N M k b : Nat} : ∀ (n gn : Nat) (g r : SG), gn + n < 100 → 9 ≤ gn + n → gn ≤ 8 → OkN N g → TS N M g r → BR g r k b → r 33 0 b = 0 →
    TS N M (L_stays k n gn g).2 (L_Rfly b n gn r) ∧ ((L_stays k n gn g).1 = 0 → ¬ L_Rfly b n gn r 33 0 b = 0) ∧ (¬ (L_stays k n gn g).1 = 0 → L_Rfly b n gn r 33 0 b = 0 ∧ BR (L_stays k n gn g).2 (L_Rfly b n gn r) k b) := by
  intro n
  induction n with
  | zero => intro gn g r h0 h1 h2; exfalso; omega
  | succ n ih =>
    intro gn g r h0 h1 h2 ok h hb hg
    simp only [L_stays, L_Rfly]
    rw [hg, if_pos rfl, ← hb.1, ← hb.2.1, ← hb.2.2.1, ← hb.2.2.2.1, step_x (ok_bd ok k), step_y (ok_bd ok k), Int32.mul_comm 8 (stepX _), Int32.mul_comm 8 (stepY _)]
    have hp : rng (g 12 k 2) 4 := ok.1.1 12 k 2
    by_cases c1 : 8 - g 12 k 2 ≤ nI gn
    · rw [if_pos c1, if_pos c1]
      exact ⟨h, fun q => absurd (show (1 : Int32) = 0 from q) (by decide), fun _ => ⟨hg, hb⟩⟩
    · rw [if_neg c1, if_neg c1]
      have hgn := pace_lt hp (by omega) c1
      have ok1 := ok_g_bgoOn ok k
      have ex : g_bgoOn g k 12 k 0 = g 12 k 0 + stepX (g 12 k 3).toNatClampNeg * 8 := by simp [g_bgoOn, up3]
      have ey : g_bgoOn g k 12 k 1 = g 12 k 1 + stepY (g 12 k 3).toNatClampNeg * 8 := by simp [g_bgoOn, up3]
      unfold f_inField f_within
      rw [ex, ey]
      have hT : TS N M (g_bgoOn g k) (up3 (up3 r 28 0 b (g 12 k 0 + stepX (g 12 k 3).toNatClampNeg * 8)) 29 0 b (g 12 k 1 + stepY (g 12 k 3).toNatClampNeg * 8)) := by
        unfold g_bgoOn
        refine TS.upC rfl (TS.upC rfl ?_)
        exact TS.upR (Or.inl (by decide)) (TS.upR (Or.inl (by decide)) h)
      have hB : BR (g_bgoOn g k) (up3 (up3 r 28 0 b (g 12 k 0 + stepX (g 12 k 3).toNatClampNeg * 8)) 29 0 b (g 12 k 1 + stepY (g 12 k 3).toNatClampNeg * 8)) k b := by
        refine ⟨by rw [ex]; simp [up3], by rw [ey]; simp [up3], ?_, ?_, ?_⟩
        · rw [show g_bgoOn g k 12 k 2 = g 12 k 2 by simp [g_bgoOn, up3], hb.2.2.1]; simp [up3]
        · rw [show g_bgoOn g k 12 k 3 = g 12 k 3 by simp [g_bgoOn, up3], hb.2.2.2.1]; simp [up3]
        · rw [show g_bgoOn g k 12 k 4 = g 12 k 4 by simp [g_bgoOn, up3], hb.2.2.2.2]; simp [up3]
      have hG : up3 (up3 r 28 0 b (g 12 k 0 + stepX (g 12 k 3).toNatClampNeg * 8)) 29 0 b (g 12 k 1 + stepY (g 12 k 3).toNatClampNeg * 8) 33 0 b = 0 := by rw [← hg]; simp [up3]
      have hO : TS N M (g_bgoOn g k) (up3 (up3 (up3 r 28 0 b (g 12 k 0 + stepX (g 12 k 3).toNatClampNeg * 8)) 29 0 b (g 12 k 1 + stepY (g 12 k 3).toNatClampNeg * 8)) 33 0 b 1) := TS.upR (Or.inl (by decide)) hT
      have hO1 : up3 (up3 (up3 r 28 0 b (g 12 k 0 + stepX (g 12 k 3).toNatClampNeg * 8)) 29 0 b (g 12 k 1 + stepY (g 12 k 3).toNatClampNeg * 8)) 33 0 b 1 33 0 b = 1 := by simp [up3]
      have hS : f_Rstruck (up3 (up3 r 28 0 b (g 12 k 0 + stepX (g 12 k 3).toNatClampNeg * 8)) 29 0 b (g 12 k 1 + stepY (g 12 k 3).toNatClampNeg * 8)) b = f_struck (g_bgoOn g k) k := s_struck_L ok1.N.1 ok1.N.2 hT hB 5 0 (by decide)
      rw [hS]
      generalize g 12 k 0 + stepX (g 12 k 3).toNatClampNeg * 8 = nx at hT hB hG hO hO1 ⊢
      generalize g 12 k 1 + stepY (g 12 k 3).toNatClampNeg * 8 = ny at hT hB hG hO hO1 ⊢
      have out : TS N M (g_bgoOn g k) (up3 (up3 (up3 r 28 0 b nx) 29 0 b ny) 33 0 b 1) ∧ (True → ¬ up3 (up3 (up3 r 28 0 b nx) 29 0 b ny) 33 0 b 1 33 0 b = 0) ∧ (¬ True → up3 (up3 (up3 r 28 0 b nx) 29 0 b ny) 33 0 b 1 33 0 b = 0 ∧ BR (g_bgoOn g k) (up3 (up3 (up3 r 28 0 b nx) 29 0 b ny) 33 0 b 1) k b) :=
        ⟨hO, fun _ => by rw [hO1]; decide, fun q => absurd trivial q⟩
      by_cases x0 : nx < 0
      · simp only [if_pos x0, if_true]
        exact out
      · simp only [if_neg x0]
        by_cases y0 : ny < 0
        · simp only [if_pos y0, if_true, ite_self]
          exact out
        · simp only [if_neg y0]
          by_cases x1 : 512 < nx
          · simp only [if_pos x1, if_true]
            exact out
          · simp only [if_neg x1, show ¬ (1 : Int32) = 0 by decide, if_false]
            by_cases y1 : ny ≤ 512
            · have y2 : ¬ 512 < ny := by rw [Int32.lt_iff_toInt_lt]; rw [Int32.le_iff_toInt_le] at y1; omega
              simp only [if_pos y1, if_neg y2, show ¬ (1 : Int32) = 0 by decide, if_false]
              by_cases c2 : f_struck (g_bgoOn g k) k = 4
              · rw [if_pos c2, if_pos (by rw [c2]; decide)]
                exact ih _ _ _ (by omega) (by omega) (by omega) ok1 hT hB hG
              · obtain ⟨q, hq, eq, hne, hqa⟩ := struck_is (k := k) ok1.N.1 ok1.N.2 5 0 (by omega) (by decide) (by have := ok1.N.1; omega) c2
                have eq : f_struck (g_bgoOn g k) k = nI q := eq
                have hq4 : q < 4 := by have := ok1.N.1; omega
                rw [if_neg c2, eq, nI_clamp (by omega), if_neg (by rw [show (4 : Int32) = nI 4 from rfl]; exact nI_ge hq4 (by decide))]
                rw [fly_gone _ _ _ (by rw [strike_gone]; decide)]
                exact ⟨s_strike hq4 ok1 hqa hT hB, fun _ => by rw [strike_gone]; decide, fun q => absurd rfl q⟩
            · have y2 : 512 < ny := by rw [Int32.lt_iff_toInt_lt]; rw [Int32.le_iff_toInt_le] at y1; omega
              simp only [if_neg y1, if_pos y2, if_true]
              exact out
theorem s_stays {N M k b : Nat} {g r : SG} (ok : OkN N g) (h : TS N M g r) (hb : BR g r k b) (hg : r 33 0 b = 0) :
    TS N M (x_stays g k).2 (g_Rfly r b) ∧ ((x_stays g k).1 = 0 → ¬ g_Rfly r b 33 0 b = 0) ∧ (¬ (x_stays g k).1 = 0 → g_Rfly r b 33 0 b = 0 ∧ BR (x_stays g k).2 (g_Rfly r b) k b) := s_stays_L 9 0 g r (by decide) (by decide) (by decide) ok h hb hg
