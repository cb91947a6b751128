/-! SIMULATION: the tanks drive, one after another (mine) -/
theorem touched_4 {N : Nat} {g : SG} {a x y : Int32} (hN : N < 5) (e : g 0 0 0 = nI N) : ∀ n i, i + n < 100 → N + 1 ≤ i + n → L_touched g a x y n i = 4 → ∀ q, i ≤ q → q < N → ¬ nI q = a → ¬ g 3 q 13 = 0 → 32 ≤ f_dist g q x y := by
  intro n
  induction n with
  | zero => intro i h1 h2 h3 q; omega
  | succ n ih =>
    intro i h1 h2 h3 q hq1 hq2 hq3 hq4
    simp only [L_touched] at h3
    by_cases c : g 0 0 0 ≤ nI i
    · rw [e] at c
      exact absurd c (nI_ge (by omega) (by omega))
    · rw [if_neg c] at h3
      obtain ⟨hN1, hi⟩ := nlt4 hN e c (by omega)
      by_cases eq : q = i
      · subst eq
        rw [if_neg hq3, if_neg hq4] at h3
        by_cases c4 : 32 ≤ f_dist g q x y
        · exact c4
        · rw [if_neg c4] at h3
          have := (nI_eq (a := q) (b := 4) (by omega) (by omega)).mp h3
          omega
      · have : L_touched g a x y n (i + 1) = 4 := by
          by_cases c2 : nI i = a
          · rw [if_pos c2] at h3; exact h3
          · rw [if_neg c2] at h3
            by_cases c3 : g 3 i 13 = 0
            · rw [if_pos c3] at h3; exact h3
            · rw [if_neg c3] at h3
              by_cases c4 : 32 ≤ f_dist g i x y
              · rw [if_pos c4] at h3; exact h3
              · rw [if_neg c4] at h3
                have := (nI_eq (a := i) (b := 4) (by omega) (by omega)).mp h3
                omega
        exact ih (i + 1) (by omega) (by omega) this q (by omega) hq2 hq3 hq4
theorem cool_f {g : SG} {j a b c : Nat} (h : ¬ (a = 3 ∧ b = j ∧ c = 11)) : g_cool g j a b c = g a b c := by
  unfold g_cool
  rw [up3_at, if_neg (by omega)]
theorem cool_h (g : SG) (j : Nat) : g_cool g j 3 j 11 = imax (g 3 j 11 - 2) 0 := by
  unfold g_cool
  rw [up3_at, if_pos ⟨rfl, rfl, rfl⟩]
/-- all that the proof wants of a drive's second half -/
theorem drive2_f {N : Nat} {g0 g : SG} {j : Nat} (hN : N < 5) (e : g 0 0 0 = nI N) :
    (∀ a b c, ¬ (a = 3 ∧ (c = 10 ∨ c = 12 ∨ c = 13)) → ¬ (a = 3 ∧ b = j ∧ (c = 3 ∨ c = 4 ∨ c = 8 ∨ c = 11)) → ¬ (a = 11 ∧ c = 0) → g_drive2 g0 g j a b c = g a b c) ∧
    (∀ b, ¬ g_drive2 g0 g j 3 b 13 = 0 → ¬ g 3 b 13 = 0) ∧ g_drive2 g0 g j 3 j 11 = imax (g 3 j 11 - 2) 0 ∧
    ((g_drive2 g0 g j 3 j 3 = g0 3 j 3 ∧ g_drive2 g0 g j 3 j 4 = g0 3 j 4) ∨ (g_drive2 g0 g j 3 j 3 = g 3 j 3 ∧ g_drive2 g0 g j 3 j 4 = g 3 j 4 ∧ f_touched g (nI j) (g 3 j 3) (g 3 j 4) = 4)) := by
  unfold g_drive2
  by_cases c : f_touched g (nI j) (g 3 j 3) (g 3 j 4) = 4
  · rw [if_pos c]
    by_cases c2 : g 11 j 0 = 0
    · rw [if_pos c2]
      refine ⟨fun a b d h1 h2 h3 => ?_, fun b hb => ?_, ?_, Or.inr ⟨?_, ?_, c⟩⟩
      · rw [cool_f (by omega), die_k (by omega) (by omega)]
      · rw [cool_f (by omega)] at hb; exact die_alive hb
      · rw [cool_h, die_k (by omega) (by omega)]
      · rw [cool_f (by omega), die_k (by omega) (by omega)]
      · rw [cool_f (by omega), die_k (by omega) (by omega)]
    · rw [if_neg c2]
      refine ⟨fun a b d h1 h2 h3 => ?_, fun b hb => ?_, ?_, Or.inr ⟨?_, ?_, c⟩⟩
      · rw [cool_f (by omega), die_k (by omega) (by omega), up3_at, if_neg (by omega)]
      · rw [cool_f (by omega)] at hb
        have := die_alive hb
        rwa [up3_at, if_neg (by omega)] at this
      · rw [cool_h, die_k (by omega) (by omega), up3_at, if_neg (by omega)]
      · rw [cool_f (by omega), die_k (by omega) (by omega), up3_at, if_neg (by omega)]
      · rw [cool_f (by omega), die_k (by omega) (by omega), up3_at, if_neg (by omega)]
  · rw [if_neg c]
    generalize (f_touched g (nI j) (g 3 j 3) (g 3 j 4)).toNatClampNeg = q
    generalize up3 (up3 (up3 (up3 g 3 j 3 (g0 3 j 3)) 3 j 4 (g0 3 j 4)) 11 j 0 1) 3 j 10 (g 3 j 10 - 4) 3 q 10 - 4 = v
    refine ⟨fun a b d h1 h2 h3 => ?_, fun b hb => ?_, ?_, Or.inl ⟨?_, ?_⟩⟩
    · rw [cool_f (by omega), die_k (by omega) (by omega), die_k (by omega) (by omega)]
      simp only [up3_at]
      repeat rw [if_neg (by omega)]
    · rw [cool_f (by omega)] at hb
      have := die_alive (die_alive hb)
      simp only [up3_at] at this
      repeat rw [if_neg (by omega)] at this
      exact this
    · rw [cool_h, die_k (by omega) (by omega), die_k (by omega) (by omega)]
      simp only [up3_at]
      repeat rw [if_neg (by omega)]
    · rw [cool_f (by omega), die_k (by omega) (by omega), die_k (by omega) (by omega)]
      simp only [up3_at]
      rw [if_neg (by omega), if_neg (by omega), if_neg (by omega), if_neg (by omega), if_neg (by omega), if_pos (by simp)]
    · rw [cool_f (by omega), die_k (by omega) (by omega), die_k (by omega) (by omega)]
      simp only [up3_at]
      rw [if_neg (by omega), if_neg (by omega), if_neg (by omega), if_neg (by omega), if_pos (by simp)]
theorem drive_f {N : Nat} {g : SG} {j : Nat} (ok : OkN N g) (ti : TI N g) (hjN : j < N) (ha : ¬ g 3 j 13 = 0) :
    (∀ a b c, a ≠ 3 → ¬ (a = 11 ∧ c = 0) → g_drive g j a b c = g a b c) ∧ (∀ b, ¬ g_drive g j 3 b 13 = 0 → ¬ g 3 b 13 = 0) ∧ (∀ b, b ≠ j → g_drive g j 3 b 11 = g 3 b 11) ∧ g_drive g j 3 j 11 = imax (g 3 j 11 - 2) 0 ∧ (∀ b c, c < 3 → g_drive g j 3 b c = g 3 b c) ∧ TI N (g_drive g j) := by
  have hN := ok.N.1
  have ok3 := ok_g_goOn (ok_g_changeSpeed (ok_g_obeyTurns ok j) j) j
  have gin := goOn_in (g_changeSpeed (g_obeyTurns g j) j) j
  have f0 : ∀ a b c, ¬ (a = 3 ∧ b = j ∧ (c = 3 ∨ c = 4 ∨ c = 5 ∨ c = 6 ∨ c = 7 ∨ c = 8 ∨ c = 10)) → ¬ (a = 11 ∧ c = 0) → g_goOn (g_changeSpeed (g_obeyTurns g j) j) j a b c = g a b c := fun a b c h1 h2 => by
    rw [goOn_f (by omega), speed_f (by omega), turns_f (by omega)]
  unfold g_drive
  generalize g_goOn (g_changeSpeed (g_obeyTurns g j) j) j = h at ok3 gin f0 ⊢
  obtain ⟨d1, d2, d3, d4⟩ := drive2_f (g0 := g) (g := h) (j := j) ok3.N.1 ok3.N.2
  have dx : ∀ b, b ≠ j → g_drive2 g h j 3 b 3 = g 3 b 3 := fun b hb => by rw [d1 3 b 3 (by omega) (by omega) (by omega), f0 3 b 3 (by omega) (by omega)]
  have dy : ∀ b, b ≠ j → g_drive2 g h j 3 b 4 = g 3 b 4 := fun b hb => by rw [d1 3 b 4 (by omega) (by omega) (by omega), f0 3 b 4 (by omega) (by omega)]
  have dh : ∀ b, b ≠ j → g_drive2 g h j 3 b 11 = g 3 b 11 := fun b hb => by rw [d1 3 b 11 (by omega) (by omega) (by omega), f0 3 b 11 (by omega) (by omega)]
  have da : ∀ b, ¬ g_drive2 g h j 3 b 13 = 0 → ¬ g 3 b 13 = 0 := fun b hb => by rw [← f0 3 b 13 (by omega) (by omega)]; exact d2 b hb
  have hj : g_drive2 g h j 3 j 11 = imax (g 3 j 11 - 2) 0 := by rw [d3, f0 3 j 11 (by omega) (by omega)]
  have key : ∀ q, q < N → q ≠ j → ¬ g 3 q 13 = 0 → ¬ (g_drive2 g h j 3 j 3 = g 3 q 3 ∧ g_drive2 g h j 3 j 4 = g 3 q 4) := by
    intro q hq hqj hqa hx
    rcases d4 with ⟨x1, x2⟩ | ⟨x1, x2, x3⟩
    · rw [x1, x2] at hx
      exact ti.np q j hq hjN hqj hqa ha hx
    · have hd := touched_4 ok3.N.1 ok3.N.2 5 0 (by decide) (by omega) x3 q (by omega) hq (fun x => hqj ((nI_eq (by omega) (by omega)).mp x)) (by rw [f0 3 q 13 (by omega) (by omega)]; exact hqa)
      unfold f_dist at hd
      rw [f0 3 q 3 (by omega) (by omega), f0 3 q 4 (by omega) (by omega), ← x1, ← x2, hx.1, hx.2, Int32.sub_self, Int32.sub_self] at hd
      exact absurd hd (by decide)
  refine ⟨fun a b c h1 h2 => ?_, da, dh, hj, fun b c hc => ?_, ?_⟩
  · rw [d1 a b c (by omega) (by omega) h2, f0 a b c (by omega) h2]
  · rw [d1 3 b c (by omega) (by omega) (by omega), f0 3 b c (by omega) (by omega)]
  · refine ⟨fun i hi => ?_, fun i hi => ?_, fun i hi => ?_, fun a b h1 h2 h3 x1 x2 => ?_⟩
    · by_cases c : i = j
      · subst c
        rcases d4 with ⟨x1, x2⟩ | ⟨x1, x2, x3⟩
        · rw [x1]; exact ti.px i hi
        · rw [x1]; exact gin.1
      · rw [dx i c]; exact ti.px i hi
    · by_cases c : i = j
      · subst c
        rcases d4 with ⟨x1, x2⟩ | ⟨x1, x2, x3⟩
        · rw [x2]; exact ti.py i hi
        · rw [x2]; exact gin.2
      · rw [dy i c]; exact ti.py i hi
    · by_cases c : i = j
      · subst c
        have hh := ti.ht i hi
        have e2 : (2 : Int32).toInt = 2 := by decide
        have e0 : (0 : Int32).toInt = 0 := by decide
        have e1 : (g 3 i 11 - 2).toInt = (g 3 i 11).toInt - 2 := i32_sub rfl e2 (by omega) (by omega)
        rw [hj]
        unfold imax
        split
        · rw [e0]; omega
        · rename_i c
          rw [Int32.lt_iff_toInt_lt, e1, e0] at c
          rw [e1]; omega
      · rw [dh i c]; exact ti.ht i hi
    · by_cases ca : a = j
      · subst ca
        have hb : b ≠ a := fun x => h3 x.symm
        rw [dx b hb, dy b hb]
        exact fun x => key b h2 hb (da b x2) ⟨x.1.symm, x.2.symm⟩
      · rw [dx a ca, dy a ca]
        by_cases cb : b = j
        · subst cb
          exact key a h1 ca (da a x1)
        · rw [dx b cb, dy b cb]
          exact ti.np a b h1 h2 h3 (da a x1) (da b x2)
theorem Rdrive_k {r : SG} {t a c : Nat} (h : 28 ≤ a ∨ (a = 0 ∧ c = 4)) : g_Rdrive r t a 0 c = r a 0 c := by
  have h370 : ∀ r : SG, J_Rdrive370 t r a 0 c = r a 0 c := fun r => by
    unfold J_Rdrive370
    rw [ite_app3]
    split <;> rw [up3_at, if_neg (by omega), check_k (by omega) (by omega)]
  have h354 : ∀ r : SG, J_Rdrive354 t r a 0 c = r a 0 c := fun r => by
    unfold J_Rdrive354
    rw [ite_app3]
    split
    · exact h370 r
    · rw [h370, up3_at, if_neg (by omega)]
  have h292 : ∀ (x y : Int32) (r : SG), J_Rdrive292 t x y r a 0 c = r a 0 c := fun x y r => by
    unfold J_Rdrive292
    rw [ite_app3]
    split
    · exact h354 r
    · rw [h354, check_k (by omega) (by omega)]
      simp only [up3_at]
      repeat rw [if_neg (by omega)]
  have h168 : ∀ r : SG, J_Rdrive168 t r a 0 c = r a 0 c := fun r => by
    unfold J_Rdrive168
    simp only [ite_app3, h292]
    split
    · split <;> (simp only [up3_at]; repeat rw [if_neg (by omega)])
    · simp only [up3_at]; repeat rw [if_neg (by omega)]
  have h103 : ∀ (w : Int32) (r : SG), J_Rdrive103 t w r a 0 c = r a 0 c := fun w r => by
    unfold J_Rdrive103
    have hu : ∀ v, up3 r 13 0 t v a 0 c = r a 0 c := fun v => by rw [up3_at, if_neg (by omega)]
    simp only [ite_app3, h168, hu, ite_self]
  have h33 : ∀ r : SG, J_Rdrive33 t r a 0 c = r a 0 c := fun r => by
    unfold J_Rdrive33
    simp only [ite_app3, h103]
    split <;> (simp only [up3_at]; repeat rw [if_neg (by omega)])
  unfold g_Rdrive
  rw [ite_app3]
  split
  · exact h33 r
  · rw [h33, up3_at, if_neg (by omega)]
