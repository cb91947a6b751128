/-! SIMULATION: a tank drives (mine) -/
theorem turned_eq (a b : Int32) : f_turned a b = (a + b) &&& 7 := by
  unfold f_turned
  exact floor8 _
theorem s_turns {N M : Nat} {g r : SG} {j : Nat} (hj : j < 4) (hM : j < M) (h : TS N M g r) : ∃ r1, g_Rdrive r j = J_Rdrive103 j (if f_disabled g j = 0 then g 3 j 9 else 0) r1 ∧ TS N M (g_obeyTurns g j) r1 := by
  have hw : ∀ r' : SG, r' 19 0 j = g 8 j 1 → r' 14 0 j = g 3 j 9 → r' 11 0 j = g 3 j 6 → r' 12 0 j = g 3 j 7 → r' 26 0 (4 + j) = g 10 j 1 → r' 26 0 (8 + j) = g 10 j 2 → J_Rdrive33 j r' = J_Rdrive103 j (if f_disabled g j = 0 then g 3 j 9 else 0) (up3 (up3 r' 11 0 j (f_turned (g 3 j 6) (g 10 j 1))) 12 0 j (f_turned (g 3 j 7) (g 10 j 2))) := by
    intro r' e1 e2 e3 e4 e5 e6
    unfold J_Rdrive33 f_disabled
    rw [e1, e2, e3, e4, e5, e6, turned_eq, turned_eq]
    by_cases c : g 8 j 1 ≤ 2
    · rw [if_pos c, if_pos (show g 8 j 1 < 3 by
        have e1 : (2 : Int32).toInt = 2 := by decide
        have e2 : (3 : Int32).toInt = 3 := by decide
        rw [Int32.le_iff_toInt_le, e1] at c
        rw [Int32.lt_iff_toInt_lt, e2]
        omega), if_pos rfl]
    · rw [if_neg c, if_neg (show ¬ g 8 j 1 < 3 by
        have e1 : (2 : Int32).toInt = 2 := by decide
        have e2 : (3 : Int32).toInt = 3 := by decide
        rw [Int32.le_iff_toInt_le, e1] at c
        rw [Int32.lt_iff_toInt_lt, e2]
        omega), if_neg (by decide)]
  unfold g_Rdrive g_obeyTurns
  rw [h.r13 hj]
  by_cases c : 16 < g 3 j 8
  · rw [if_pos c, if_pos c]
    refine ⟨_, hw r (h.r19 hj) (h.r14 hj) (h.r11 hj) (h.r12 hj) (h.r26b hj hM) (h.r26c hj hM), ?_⟩
    refine TS.up (dm3 hj (by decide)) rfl rfl ?_ rfl
    exact TS.up (dm3 hj (by decide)) rfl rfl h rfl
  · rw [if_neg c, if_neg c]
    refine ⟨_, hw _ (h.r19 hj) (h.r14 hj) (h.r11 hj) (h.r12 hj) (h.r26b hj hM) (h.r26c hj hM), ?_⟩
    refine TS.up (dm3 hj (by decide)) rfl rfl ?_ rfl
    refine TS.up (dm3 hj (by decide)) rfl rfl ?_ rfl
    exact TS.up (dm3 hj (by decide)) rfl rfl h (by rw [h.r10 hj, h.r26a hj hM, turned_eq])
theorem turns_at (g : SG) (j : Nat) : g_obeyTurns g j 3 j 3 = g 3 j 3 ∧ g_obeyTurns g j 3 j 4 = g 3 j 4 ∧ g_obeyTurns g j 3 j 8 = g 3 j 8 ∧ g_obeyTurns g j 3 j 9 = g 3 j 9 ∧ f_disabled (g_obeyTurns g j) j = f_disabled g j := by
  unfold g_obeyTurns f_disabled
  split <;> simp [up3]
theorem imax_w (s w : Int32) : imax (s - 8) w = if w ≤ s - 8 then s - 8 else w := by
  unfold imax
  by_cases c : s - 8 < w
  · rw [if_pos c, if_neg (by rw [Int32.le_iff_toInt_le]; rw [Int32.lt_iff_toInt_lt] at c; omega)]
  · rw [if_neg c, if_pos (by rw [Int32.le_iff_toInt_le]; rw [Int32.lt_iff_toInt_lt] at c; omega)]
theorem s_speed0 {N M : Nat} {g r : SG} {j : Nat} (hj : j < 4) (h : TS N M g r) (w : Int32) : ∃ r1, J_Rdrive103 j w r = J_Rdrive168 j r1 ∧ TS N M (if w ≤ g 3 j 8 then (if g 3 j 8 ≤ w then g else up3 g 3 j 8 (imax (g 3 j 8 - 8) w)) else up3 g 3 j 8 (g 3 j 8 + 4)) r1 := by
  unfold J_Rdrive103
  rw [h.r13 hj]
  by_cases c1 : w ≤ g 3 j 8
  · rw [if_pos c1, if_pos c1]
    by_cases c2 : g 3 j 8 ≤ w
    · rw [if_pos c2, if_pos c2]
      exact ⟨r, rfl, h⟩
    · rw [if_neg c2, if_neg c2, imax_w]
      by_cases c3 : w ≤ g 3 j 8 - 8
      · rw [if_pos c3, if_pos c3]
        exact ⟨_, rfl, TS.up (dm3 hj (by decide)) rfl rfl h rfl⟩
      · rw [if_neg c3, if_neg c3]
        exact ⟨_, rfl, TS.up (dm3 hj (by decide)) rfl rfl h rfl⟩
  · rw [if_neg c1, if_neg c1]
    exact ⟨_, rfl, TS.up (dm3 hj (by decide)) rfl rfl h rfl⟩
theorem s_speed {N M : Nat} {g r : SG} {j : Nat} (hj : j < 4) (h : TS N M g r) : ∃ r1, J_Rdrive103 j (if f_disabled g j = 0 then g 3 j 9 else 0) r = J_Rdrive168 j r1 ∧ TS N M (g_changeSpeed g j) r1 := by
  unfold g_changeSpeed
  by_cases c : f_disabled g j = 0
  · rw [if_pos c, if_pos c]
    exact s_speed0 hj h _
  · rw [if_neg c, if_neg c]
    exact s_speed0 hj h 0
theorem speed_at (g : SG) (j : Nat) : g_changeSpeed g j 3 j 3 = g 3 j 3 ∧ g_changeSpeed g j 3 j 4 = g 3 j 4 := by
  unfold g_changeSpeed
  split
  · split
    · split <;> simp [up3]
    · simp [up3]
  · split
    · split <;> simp [up3]
    · simp [up3]
theorem s_goOn {N M : Nat} {g r : SG} {j : Nat} (hj : j < 4) (hd : rng (g 3 j 5) 8) (h : TS N M g r) : ∃ r1, J_Rdrive168 j r = J_Rdrive292 j (g 3 j 3) (g 3 j 4) r1 ∧ TS N M (g_goOn g j) r1 := by
  unfold J_Rdrive168 g_goOn
  rw [h.r8 hj, h.r9 hj, h.r10 hj, h.r13 hj, h.r15 hj, step_x hd, step_y hd, walls_eq, walls_eq, Int32.mul_comm (g 3 j 8) (stepX _), Int32.mul_comm (g 3 j 8) (stepY _)]
  generalize g 3 j 3 + stepX (g 3 j 5).toNatClampNeg * g 3 j 8 = nx
  generalize g 3 j 4 + stepY (g 3 j 5).toNatClampNeg * g 3 j 8 = ny
  by_cases c1 : f_walls nx = nx
  · rw [if_pos c1, if_pos c1]
    by_cases c2 : f_walls ny = ny
    · rw [if_pos c2, if_pos c2]
      refine ⟨_, rfl, ?_⟩
      refine TS.up (dm3 hj (by decide)) rfl rfl ?_ rfl
      exact TS.up (dm3 hj (by decide)) rfl rfl h rfl
    · rw [if_neg c2, if_neg c2]
      refine ⟨_, rfl, ?_⟩
      refine TS.up (dm3 hj (by decide)) rfl rfl ?_ rfl
      refine TS.up (dm11 hj (by decide)) rfl rfl ?_ rfl
      refine TS.up (dm3 hj (by decide)) rfl rfl ?_ rfl
      exact TS.up (dm3 hj (by decide)) rfl rfl h rfl
  · rw [if_neg c1, if_neg c1]
    refine ⟨_, rfl, ?_⟩
    refine TS.up (dm3 hj (by decide)) rfl rfl ?_ rfl
    refine TS.up (dm11 hj (by decide)) rfl rfl ?_ rfl
    refine TS.up (dm3 hj (by decide)) rfl rfl ?_ rfl
    exact TS.up (dm3 hj (by decide)) rfl rfl h rfl
theorem s_touched_L {N M : Nat} {g r : SG} {j : Nat} (hj : j < 4) (hN : N < 5) (e : g 0 0 0 = nI N) (h : TS N M g r) : ∀ n i, i + n < 100 → L_touched g (nI j) (g 3 j 3) (g 3 j 4) n i = L_Rtouched r j n i := by
  intro n
  induction n with
  | zero => intro i _; rfl
  | succ n ih =>
    intro i hin
    simp only [L_touched, L_Rtouched]
    rw [h.n0]
    by_cases c : g 0 0 0 ≤ nI i
    · rw [if_pos c, if_pos c]
    · rw [if_neg c, if_neg c]
      obtain ⟨h1, hi⟩ := nlt4 hN e c (by omega)
      rw [h.r21 hi]
      by_cases c2 : nI i = nI j
      · rw [if_pos c2, if_pos c2]; exact ih _ (by omega)
      · rw [if_neg c2, if_neg c2]
        by_cases c3 : g 3 i 13 = 0
        · rw [if_pos c3, if_pos c3]; exact ih _ (by omega)
        · rw [if_neg c3, if_neg c3]
          unfold f_dist f_Rtouch
          rw [h.r8 hi, h.r8 hj, h.r9 hi, h.r9 hj, rabs_eq, rabs_eq, iabs_sub (g 3 j 3), iabs_sub (g 3 j 4)]
          by_cases c4 : 32 ≤ iabs (g 3 i 3 - g 3 j 3)
          · rw [if_pos ((imax_le _ _ _).mpr (Or.inl c4)), if_pos c4, if_pos rfl]; exact ih _ (by omega)
          · rw [if_neg c4]
            by_cases c5 : 32 ≤ iabs (g 3 i 4 - g 3 j 4)
            · rw [if_pos ((imax_le _ _ _).mpr (Or.inr c5)), if_pos c5, if_pos rfl]; exact ih _ (by omega)
            · rw [if_neg (fun q => by rcases (imax_le _ _ _).mp q with q | q; exact c4 q; exact c5 q), if_neg c5, if_neg (by decide)]
theorem s_touched {N M : Nat} {g r : SG} {j : Nat} (hj : j < 4) (ok : OkN N g) (h : TS N M g r) : f_Rtouched r j = f_touched g (nI j) (g 3 j 3) (g 3 j 4) := (s_touched_L hj ok.N.1 ok.N.2 h 5 0 (by decide)).symm
/-- whom the touched one is: alive, another, in -/
theorem touched_is {N : Nat} {g : SG} {a x y : Int32} (hN : N < 5) (e : g 0 0 0 = nI N) : ∀ n i, i ≤ N → i + n < 100 → N + 1 ≤ i + n → ¬ L_touched g a x y n i = 4 → ∃ q, q < N ∧ L_touched g a x y n i = nI q ∧ ¬ nI q = a ∧ ¬ g 3 q 13 = 0 := by
  intro n
  induction n with
  | zero => intro i h0 h1 h2 h3; exfalso; omega
  | succ n ih =>
    intro i h0 h1 h2 h3
    simp only [L_touched] at h3 ⊢
    by_cases c : g 0 0 0 ≤ nI i
    · rw [if_pos c] at h3; exact absurd rfl h3
    · rw [if_neg c] at h3 ⊢
      obtain ⟨hN1, hi⟩ := nlt4 hN e c (by omega)
      by_cases c2 : nI i = a
      · rw [if_pos c2] at h3 ⊢; exact ih _ (by omega) (by omega) (by omega) h3
      · rw [if_neg c2] at h3 ⊢
        by_cases c3 : g 3 i 13 = 0
        · rw [if_pos c3] at h3 ⊢; exact ih _ (by omega) (by omega) (by omega) h3
        · rw [if_neg c3] at h3 ⊢
          by_cases c4 : 32 ≤ f_dist g i x y
          · rw [if_pos c4] at h3 ⊢; exact ih _ (by omega) (by omega) (by omega) h3
          · rw [if_neg c4] at h3 ⊢
            exact ⟨i, hN1, rfl, c2, c3⟩
/-- speed and death have nothing to do with each other -/
theorem check_spL {t : Nat} {v : Int32} : ∀ (n i : Nat) (r : SG), up3 (L_Rcheck n i r) 13 0 t v = L_Rcheck n i (up3 r 13 0 t v) := by
  intro n
  induction n with
  | zero => intro i r; rfl
  | succ n ih =>
    intro i r
    simp only [L_Rcheck]
    rw [show up3 r 13 0 t v 0 0 0 = r 0 0 0 by simp [up3], show up3 r 13 0 t v 21 0 i = r 21 0 i by simp [up3], show up3 r 13 0 t v 20 0 i = r 20 0 i by simp [up3]]
    by_cases c : r 0 0 0 ≤ nI i
    · rw [if_pos c, if_pos c]
    · rw [if_neg c, if_neg c]
      by_cases c2 : r 21 0 i = 0
      · rw [if_pos c2, if_pos c2, ih]
      · rw [if_neg c2, if_neg c2, ih, up3_ck (k := 20) (k' := 13) (by decide)]
theorem check_sp {r : SG} {o t : Nat} {v : Int32} : up3 (g_Rcheck r o) 13 0 t v = g_Rcheck (up3 r 13 0 t v) o := by
  unfold g_Rcheck
  rw [show up3 r 13 0 t v 21 0 o = r 21 0 o by simp [up3], show up3 r 13 0 t v 15 0 o = r 15 0 o by simp [up3]]
  by_cases c : r 21 0 o = 0
  · rw [if_pos c, if_pos c]
  · rw [if_neg c, if_neg c]
    by_cases c2 : r 15 0 o ≤ 0
    · rw [if_pos c2, if_pos c2, check_spL, up3_ck (k := 21) (k' := 13) (by decide)]
    · rw [if_neg c2, if_neg c2]
theorem check_kL {k i' j' : Nat} (hk : k ≠ 20) : ∀ (n i : Nat) (r : SG), L_Rcheck n i r k i' j' = r k i' j' := by
  intro n
  induction n with
  | zero => intro i r; rfl
  | succ n ih =>
    intro i r
    simp only [L_Rcheck]
    split
    · rfl
    · split
      · exact ih _ _
      · rw [ih, up3_at, if_neg (fun q => hk q.1)]
theorem check_k {k i' j' o : Nat} {r : SG} (hk : k ≠ 20) (hk2 : k ≠ 21) : g_Rcheck r o k i' j' = r k i' j' := by
  unfold g_Rcheck
  split
  · rfl
  · split
    · rw [check_kL hk, up3_at, if_neg (fun q => hk2 q.1)]
    · rfl
theorem die_kL {k i' j' : Nat} (hk : ¬ (k = 3 ∧ j' = 12)) : ∀ (n i : Nat) (g : SG), L_die n i g k i' j' = g k i' j' := by
  intro n
  induction n with
  | zero => intro i g; rfl
  | succ n ih =>
    intro i g
    simp only [L_die]
    split
    · rfl
    · split
      · exact ih _ _
      · rw [ih, up3_at, if_neg (fun q => hk ⟨q.1, q.2.1⟩)]
theorem die_k {k i' j' o : Nat} {g : SG} (hk : ¬ (k = 3 ∧ j' = 12)) (hk2 : ¬ (k = 3 ∧ j' = 13 ∧ i' = o)) : g_die g o k i' j' = g k i' j' := by
  unfold g_die
  split
  · rw [die_kL hk, up3_at, if_neg hk2]
  · rfl
theorem s_cool {N M : Nat} {g r : SG} {j : Nat} (hj : j < 4) (hh : 0 ≤ (g 3 j 11).toInt) (h : TS N M g r) : TS N M (g_cool g j) (if 2 ≤ r 16 0 j then up3 r 16 0 j (r 16 0 j - 2) else up3 r 16 0 j 0) := by
  unfold g_cool imax
  rw [h.r16 hj]
  have hb := i32_b (g 3 j 11)
  have e2 : (2 : Int32).toInt = 2 := by decide
  have e1 : (g 3 j 11 - 2).toInt = (g 3 j 11).toInt - 2 := i32_sub rfl e2 (by omega) (by omega)
  by_cases c : 2 ≤ g 3 j 11
  · rw [if_pos c, if_neg (by rw [Int32.lt_iff_toInt_lt, e1, Int32.toInt_zero]; rw [Int32.le_iff_toInt_le, e2] at c; omega)]
    exact TS.up (dm3 hj (by decide)) rfl rfl h rfl
  · rw [if_neg c]
    rw [Int32.le_iff_toInt_le, e2] at c
    rw [if_pos (by rw [Int32.lt_iff_toInt_lt, e1, Int32.toInt_zero]; omega)]
    exact TS.up (dm3 hj (by decide)) rfl rfl h rfl
theorem s_end {N M : Nat} {g r : SG} {j : Nat} (hj : j < 4) (hN : N < 5) (e : g 0 0 0 = nI N) (ha : ¬ g 3 j 13 = 0) (hh : 0 ≤ (g 3 j 11).toInt) (h : TS N M g r) : TS N M (g_cool (g_die g j) j) (J_Rdrive370 j r) := by
  unfold J_Rdrive370
  exact s_cool hj (by rw [die_k (by decide) (by omega)]; exact hh) (s_die hj hN e ha h)
theorem s_drive2 {N M : Nat} {g0 g r : SG} {j : Nat} (hj : j < 4) (hjN : j < N) (ok : OkN N g) (ha : ¬ g 3 j 13 = 0) (hh : 0 ≤ (g 3 j 11).toInt) (h : TS N M g r) : TS N M (g_drive2 g0 g j) (J_Rdrive292 j (g0 3 j 3) (g0 3 j 4) r) := by
  have hN := ok.N.1
  have e := ok.N.2
  unfold g_drive2 J_Rdrive292
  rw [s_touched hj ok h]
  by_cases c : f_touched g (nI j) (g 3 j 3) (g 3 j 4) = 4
  · rw [if_pos c, c, if_pos (show (4 : Int32) ≤ 4 by decide)]
    unfold J_Rdrive354
    rw [h.r22 hj hjN]
    by_cases c2 : g 11 j 0 = 0
    · rw [if_pos c2, if_pos c2]
      exact s_end hj hN e ha hh h
    · rw [if_neg c2, if_neg c2]
      refine s_end hj hN (by rw [← e]; rfl) ?_ ?_ (TS.up (dm3 hj (by decide)) rfl rfl h rfl)
      · rw [up3_at, if_neg (by omega)]; exact ha
      · rw [up3_at, if_neg (by omega)]; exact hh
  · rw [if_neg c]
    obtain ⟨q, hq, eq, hne, hqa⟩ := touched_is hN e 5 0 (by omega) (by decide) (by omega) c
    have eq : f_touched g (nI j) (g 3 j 3) (g 3 j 4) = nI q := eq
    have hq4 : q < 4 := by omega
    have hqj : q ≠ j := fun x => hne (by rw [x])
    rw [eq, nI_clamp (by omega)]
    rw [if_neg (by rw [show (4 : Int32) = nI 4 from rfl]; exact nI_ge hq4 (by decide))]
    unfold J_Rdrive354
    rw [check_k (by decide) (by decide)]
    rw [if_neg (by simp [up3])]
    rw [check_sp]
    have h1 : TS N M (up3 (up3 (up3 (up3 (up3 g 3 j 3 (g0 3 j 3)) 3 j 4 (g0 3 j 4)) 11 j 0 1) 3 j 10 (g 3 j 10 - 4)) 3 q 10 (up3 (up3 (up3 (up3 g 3 j 3 (g0 3 j 3)) 3 j 4 (g0 3 j 4)) 11 j 0 1) 3 j 10 (g 3 j 10 - 4) 3 q 10 - 4)) (up3 (up3 (up3 (up3 (up3 r 8 0 j (g0 3 j 3)) 9 0 j (g0 3 j 4)) 22 0 j 1) 15 0 j (r 15 0 j - 4)) 15 0 q (up3 (up3 (up3 (up3 r 8 0 j (g0 3 j 3)) 9 0 j (g0 3 j 4)) 22 0 j 1) 15 0 j (r 15 0 j - 4) 15 0 q - 4)) := by
      have h2 : TS N M (up3 (up3 (up3 (up3 g 3 j 3 (g0 3 j 3)) 3 j 4 (g0 3 j 4)) 11 j 0 1) 3 j 10 (g 3 j 10 - 4)) (up3 (up3 (up3 (up3 r 8 0 j (g0 3 j 3)) 9 0 j (g0 3 j 4)) 22 0 j 1) 15 0 j (r 15 0 j - 4)) := by
        refine TS.up (dm3 hj (by decide)) rfl rfl ?_ (by rw [h.r15 hj])
        refine TS.up (dm11 hj (by decide)) rfl rfl ?_ rfl
        refine TS.up (dm3 hj (by decide)) rfl rfl ?_ rfl
        exact TS.up (dm3 hj (by decide)) rfl rfl h rfl
      exact TS.up (dm3 hq4 (by decide)) rfl rfl h2 (by rw [h2.r15 hq4])
    have p1 : ∀ v : Int32, up3 (up3 (up3 (up3 (up3 g 3 j 3 (g0 3 j 3)) 3 j 4 (g0 3 j 4)) 11 j 0 1) 3 j 10 (g 3 j 10 - 4)) 3 q 10 v 0 0 0 = nI N := fun v => by rw [← e]; simp [up3]
    have p2 : ∀ v : Int32, ¬ up3 (up3 (up3 (up3 (up3 g 3 j 3 (g0 3 j 3)) 3 j 4 (g0 3 j 4)) 11 j 0 1) 3 j 10 (g 3 j 10 - 4)) 3 q 10 v 3 q 13 = 0 := fun v => by simpa [up3] using hqa
    have p3 : ∀ v : Int32, ¬ up3 (up3 (up3 (up3 (up3 g 3 j 3 (g0 3 j 3)) 3 j 4 (g0 3 j 4)) 11 j 0 1) 3 j 10 (g 3 j 10 - 4)) 3 q 10 v 3 j 13 = 0 := fun v => by simpa [up3] using ha
    have p4 : ∀ v : Int32, up3 (up3 (up3 (up3 (up3 g 3 j 3 (g0 3 j 3)) 3 j 4 (g0 3 j 4)) 11 j 0 1) 3 j 10 (g 3 j 10 - 4)) 3 q 10 v 3 j 11 = g 3 j 11 := fun v => by simp [up3]
    have p1 := p1 (up3 (up3 (up3 (up3 g 3 j 3 (g0 3 j 3)) 3 j 4 (g0 3 j 4)) 11 j 0 1) 3 j 10 (g 3 j 10 - 4) 3 q 10 - 4)
    have p2 := p2 (up3 (up3 (up3 (up3 g 3 j 3 (g0 3 j 3)) 3 j 4 (g0 3 j 4)) 11 j 0 1) 3 j 10 (g 3 j 10 - 4) 3 q 10 - 4)
    have p3 := p3 (up3 (up3 (up3 (up3 g 3 j 3 (g0 3 j 3)) 3 j 4 (g0 3 j 4)) 11 j 0 1) 3 j 10 (g 3 j 10 - 4) 3 q 10 - 4)
    have p4 := p4 (up3 (up3 (up3 (up3 g 3 j 3 (g0 3 j 3)) 3 j 4 (g0 3 j 4)) 11 j 0 1) 3 j 10 (g 3 j 10 - 4) 3 q 10 - 4)
    generalize up3 (up3 (up3 (up3 (up3 g 3 j 3 (g0 3 j 3)) 3 j 4 (g0 3 j 4)) 11 j 0 1) 3 j 10 (g 3 j 10 - 4)) 3 q 10 (up3 (up3 (up3 (up3 g 3 j 3 (g0 3 j 3)) 3 j 4 (g0 3 j 4)) 11 j 0 1) 3 j 10 (g 3 j 10 - 4) 3 q 10 - 4) = G at h1 p1 p2 p3 p4 ⊢
    generalize up3 (up3 (up3 (up3 (up3 r 8 0 j (g0 3 j 3)) 9 0 j (g0 3 j 4)) 22 0 j 1) 15 0 j (r 15 0 j - 4)) 15 0 q (up3 (up3 (up3 (up3 r 8 0 j (g0 3 j 3)) 9 0 j (g0 3 j 4)) 22 0 j 1) 15 0 j (r 15 0 j - 4) 15 0 q - 4) = R at h1 ⊢
    have h2 : TS N M (up3 G 3 j 8 0) (up3 R 13 0 j 0) := TS.up (dm3 hj (by decide)) rfl rfl h1 rfl
    have p5 : up3 G 3 j 8 0 0 0 0 = nI N := by rw [← p1]; simp [up3]
    have h3 := s_die hq4 hN p5 (by simpa [up3] using p2) h2
    refine s_end hj hN ?_ ?_ ?_ h3
    · rw [die_k (by decide) (by omega)]; exact p5
    · rw [die_k (by decide) (by omega)]; simpa [up3] using p3
    · rw [die_k (by decide) (by omega)]; simpa [up3, p4] using hh
theorem goOn_k (g : SG) (j : Nat) : g_goOn g j 3 j 13 = g 3 j 13 ∧ g_goOn g j 3 j 11 = g 3 j 11 := by
  unfold g_goOn
  split
  · split <;> simp [up3]
  · simp [up3]
theorem speed_k (g : SG) (j : Nat) : g_changeSpeed g j 3 j 13 = g 3 j 13 ∧ g_changeSpeed g j 3 j 11 = g 3 j 11 := by
  unfold g_changeSpeed
  split
  · split
    · split <;> simp [up3]
    · simp [up3]
  · split
    · split <;> simp [up3]
    · simp [up3]
theorem turns_k (g : SG) (j : Nat) : g_obeyTurns g j 3 j 13 = g 3 j 13 ∧ g_obeyTurns g j 3 j 11 = g 3 j 11 := by
  unfold g_obeyTurns
  split <;> simp [up3]
theorem s_drive {N M : Nat} {g r : SG} {j : Nat} (hj : j < 4) (hjN : j < N) (hjM : j < M) (ok : OkN N g) (ha : ¬ g 3 j 13 = 0) (hh : 0 ≤ (g 3 j 11).toInt) (h : TS N M g r) : TS N M (g_drive g j) (g_Rdrive r j) := by
  obtain ⟨r1, e1, h1⟩ := s_turns hj hjM h
  have t1 := turns_at g j
  have ok1 := ok_g_obeyTurns ok j
  rw [← t1.2.2.2.2, ← t1.2.2.2.1] at e1
  obtain ⟨r2, e2, h2⟩ := s_speed hj h1
  have t2 := speed_at (g_obeyTurns g j) j
  have ok2 := ok_g_changeSpeed ok1 j
  obtain ⟨r3, e3, h3⟩ := s_goOn hj (ok_hd ok2 j) h2
  have ok3 := ok_g_goOn ok2 j
  rw [e1, e2, e3, t2.1, t2.2, t1.1, t1.2.1]
  unfold g_drive
  refine s_drive2 hj hjN ok3 ?_ ?_ h3
  · rw [(goOn_k _ j).1, (speed_k _ j).1, (turns_k _ j).1]; exact ha
  · rw [(goOn_k _ j).2, (speed_k _ j).2, (turns_k _ j).2]; exact hh
