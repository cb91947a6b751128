/-! PURE ROWS of the reference: what an index is, what a call leaves -/
theorem nI_two {t : Nat} {x : Int32} (h : x = nI t) : 2 * x = nI (2 * t) := by
  rw [h]
  exact pk_mul 2 t
theorem ne4_j {v : Int32} (h : rng v 5) (c : ¬ v = 4) : v = nI v.toNatClampNeg ∧ v.toNatClampNeg < 4 := by
  obtain ⟨j, h1, h2⟩ := h
  refine rng_j ⟨j, ?_, h2⟩ (by decide)
  rcases Nat.lt_or_ge j 4 with q | q
  · exact q
  · have : j = 4 := by omega
    subst this
    exact absurd h2 c
theorem ne16_j {v : Int32} (h : rng v 17) (c : ¬ v = 16) : v = nI v.toNatClampNeg ∧ v.toNatClampNeg < 16 := by
  obtain ⟨j, h1, h2⟩ := h
  refine rng_j ⟨j, ?_, h2⟩ (by decide)
  rcases Nat.lt_or_ge j 16 with q | q
  · exact q
  · have : j = 16 := by omega
    subst this
    exact absurd h2 c
theorem lt4_j {v : Int32} (h : rng v 5) (c : ¬ 4 ≤ v) : v = nI v.toNatClampNeg ∧ v.toNatClampNeg < 4 := ne4_j h (fun e => c (by rw [e]; decide))
theorem tank_j {N : Nat} {g : SG} {v : Int32} (ok : RokN N g) (c0 : ¬ v < 0) (c1 : ¬ g 0 0 0 ≤ v) : v = nI v.toNatClampNeg ∧ v.toNatClampNeg < 4 := by
  have hN := ok.N
  rw [hN.2, Int32.le_iff_toInt_le, nI_toInt (by omega)] at c1
  rw [Int32.lt_iff_toInt_lt, Int32.toInt_zero] at c0
  exact rng_j (rng_of (by omega) (by omega) (by decide)) (by decide)
theorem tank_j2 {N : Nat} {g : SG} {v : Int32} (ok : RokN N g) (c0 : ¬ v < 0) (c1 : v < g 0 0 0) : v = nI v.toNatClampNeg ∧ v.toNatClampNeg < 4 := by
  refine tank_j ok c0 (fun h => ?_)
  rw [Int32.le_iff_toInt_le] at h
  rw [Int32.lt_iff_toInt_lt] at c1
  omega
theorem turn_j {op : Int32} {t : Nat} (c0 : ¬ op ≤ 1) (c1 : ¬ 5 ≤ op) (ht : t < 4) : 4 * (op - 2) + nI t = nI (4 * (op.toNatClampNeg - 2) + t) ∧ 4 * (op.toNatClampNeg - 2) + t < 12 := by
  rw [Int32.le_iff_toInt_le] at c0 c1
  have e1 : (1 : Int32).toInt = 1 := rfl
  have e5 : (5 : Int32).toInt = 5 := rfl
  obtain ⟨h1, h2⟩ := rng_j (rng_of (v := op) (m := 5) (by omega) (by omega) (by decide)) (by decide)
  have h3 : 2 ≤ op.toNatClampNeg := by
    rw [h1, nI_toInt (by omega)] at c0
    omega
  generalize op.toNatClampNeg = o at h1 h2 h3
  subst h1
  refine ⟨?_, by omega⟩
  rw [show nI o - 2 = nI (o - 2) from pk_sub (b := 2) h3]
  exact nI_lin 4 rfl rfl
theorem jumpsR_ctr {g : SG} {t : Nat} {op b : Int32} : (x_Rjumps g t op b).2 17 0 t = g 17 0 t := by
  unfold x_Rjumps
  by_cases c6 : op = 6
  · rw [if_pos c6]
  rw [if_neg c6]
  by_cases c7 : op = 7
  · rw [if_pos c7]
    by_cases h : 4 ≤ g 24 0 t
    · rw [if_pos h]
    · rw [if_neg h]
  rw [if_neg c7]
  by_cases c8 : op = 8
  · rw [if_pos c8]
  rw [if_neg c8]
  by_cases c9 : op = 9
  · rw [if_pos c9]
  rw [if_neg c9]
  by_cases c10 : op = 10
  · rw [if_pos c10]
    by_cases h : 4 ≤ g 24 0 t
    · rw [if_pos h]
    rw [if_neg h]
    by_cases h2 : f_Rsector (g 8 0 (g 24 0 t).toNatClampNeg - g 8 0 t) (g 9 0 (g 24 0 t).toNatClampNeg - g 9 0 t) = g 11 0 t
    · rw [if_pos h2]
    · rw [if_neg h2]
  rw [if_neg c10]
  by_cases c11 : op = 11
  · rw [if_pos c11]
  rw [if_neg c11]
  by_cases c12 : op = 12
  · rw [if_pos c12]
    by_cases h : g 18 0 (2 * t + b.toNatClampNeg) - 1 ≤ 0
    · rw [if_pos h]; rfl
    · rw [if_neg h]; rfl
  rw [if_neg c12]
theorem nextR {g : SG} {t : Nat} {op b : Int32} (hc : rng (g 17 0 t) 16) : rng ((x_Rjumps g t op b).2 17 0 t + 1) 17 := by
  rw [jumpsR_ctr]
  exact fly_ty hc
theorem jumpR_ty {g : SG} {t : Nat} {op a b : Int32} (hio : insOk op a b) (h : ¬ (x_Rjumps g t op b).1 = 0) : rng a 17 := by
  refine rng_mono (hio.2.2.2 ?_) (by decide)
  unfold x_Rjumps at h
  by_cases c6 : op = 6
  · exact Or.inl c6
  by_cases c7 : op = 7
  · exact Or.inr (Or.inl c7)
  by_cases c8 : op = 8
  · exact Or.inr (Or.inr (Or.inl c8))
  by_cases c9 : op = 9
  · exact Or.inr (Or.inr (Or.inr (Or.inl c9)))
  by_cases c10 : op = 10
  · exact Or.inr (Or.inr (Or.inr (Or.inr (Or.inl c10))))
  rw [if_neg c6, if_neg c7, if_neg c8, if_neg c9, if_neg c10] at h
  by_cases c11 : op = 11
  · rw [if_pos c11] at h; exact absurd rfl h
  by_cases c12 : op = 12
  · exact Or.inr (Or.inr (Or.inr (Or.inr (Or.inr c12))))
  rw [if_neg c11, if_neg c12] at h
  exact absurd rfl h
theorem ctrR_j {N : Nat} {g : SG} {t : Nat} (ok : RokN N g) (h : g 17 0 t < g 4 0 t) : g 17 0 t = nI (g 17 0 t).toNatClampNeg ∧ (g 17 0 t).toNatClampNeg < 16 := by
  have h1 := rng_int (m := 17) (ok.1.1 17 0 t) (by decide)
  have h2 := rng_int (m := 17) (ok.1.1 4 0 t) (by decide)
  rw [Int32.lt_iff_toInt_lt] at h
  exact rng_j (rng_of h1.1 (by omega) (by decide)) (by decide)
theorem struckR_L {N : Nat} {g : SG} {b : Nat} (ok : RokN N g) : ∀ n i, i + n ≤ 5 → ¬ 4 ≤ L_Rstruck g b n i → rng (L_Rstruck g b n i) 4 := by
  intro n
  induction n with
  | zero => intro i _ h; exact ⟨0, by decide, rfl⟩
  | succ n ih =>
    intro i hi h
    rw [L_Rstruck] at h ⊢
    by_cases c : g 0 0 0 ≤ nI i
    · rw [if_pos c] at h; exact absurd (by decide) h
    rw [if_neg c] at h ⊢
    have hN := ok.N
    have hiN : i < N := nlt_of hN.2 (by omega) (by omega) c
    by_cases c1 : g 21 0 i = 0
    · rw [if_pos c1] at h ⊢; exact ih _ (by omega) h
    rw [if_neg c1] at h ⊢
    by_cases c2 : nI i = g 32 0 b
    · rw [if_pos c2] at h ⊢; exact ih _ (by omega) h
    rw [if_neg c2] at h ⊢
    by_cases c3 : 16 < f_Rabs (g 8 0 i - g 28 0 b)
    · rw [if_pos c3] at h ⊢; exact ih _ (by omega) h
    rw [if_neg c3] at h ⊢
    by_cases c4 : 16 < f_Rabs (g 9 0 i - g 29 0 b)
    · rw [if_pos c4] at h ⊢; exact ih _ (by omega) h
    rw [if_neg c4]
    exact ⟨i, by omega, rfl⟩
theorem struckR_j {N : Nat} {g : SG} {b : Nat} (ok : RokN N g) (h : ¬ 4 ≤ f_Rstruck g b) : f_Rstruck g b = nI (f_Rstruck g b).toNatClampNeg ∧ (f_Rstruck g b).toNatClampNeg < 4 := rng_j (struckR_L ok 5 0 (by decide) h) (by decide)
theorem touchedR_L {N : Nat} {g : SG} {t : Nat} (ok : RokN N g) : ∀ n i, i + n ≤ 5 → ¬ 4 ≤ L_Rtouched g t n i → rng (L_Rtouched g t n i) 4 := by
  intro n
  induction n with
  | zero => intro i _ h; exact ⟨0, by decide, rfl⟩
  | succ n ih =>
    intro i hi h
    rw [L_Rtouched] at h ⊢
    by_cases c : g 0 0 0 ≤ nI i
    · rw [if_pos c] at h; exact absurd (by decide) h
    rw [if_neg c] at h ⊢
    have hN := ok.N
    have hiN : i < N := nlt_of hN.2 (by omega) (by omega) c
    by_cases c1 : nI i = nI t
    · rw [if_pos c1] at h ⊢; exact ih _ (by omega) h
    rw [if_neg c1] at h ⊢
    by_cases c2 : g 21 0 i = 0
    · rw [if_pos c2] at h ⊢; exact ih _ (by omega) h
    rw [if_neg c2] at h ⊢
    by_cases c3 : f_Rtouch g i t = 0
    · rw [if_pos c3] at h ⊢; exact ih _ (by omega) h
    rw [if_neg c3]
    exact ⟨i, by omega, rfl⟩
theorem touchedR_j {N : Nat} {g : SG} {t : Nat} (ok : RokN N g) (h : ¬ 4 ≤ f_Rtouched g t) : f_Rtouched g t = nI (f_Rtouched g t).toNatClampNeg ∧ (f_Rtouched g t).toNatClampNeg < 4 := rng_j (touchedR_L ok 5 0 (by decide) h) (by decide)
theorem regs_j {what x : Int32} {k : Int32} (c : what = k) (es : x = nI x.toNatClampNeg) (hs : x.toNatClampNeg < 4) (hk : k = 6 ∨ k = 7 := by first | exact Or.inl rfl | exact Or.inr rfl) : 2 * x + what - 6 = nI (2 * x.toNatClampNeg + (what.toNatClampNeg - 6)) ∧ 2 * x.toNatClampNeg + (what.toNatClampNeg - 6) < 8 := by
  generalize x.toNatClampNeg = o at es hs
  subst es
  subst c
  rcases hk with h | h
  · subst h
    rw [show (6 : Int32).toNatClampNeg = 6 from rfl]
    refine ⟨?_, by omega⟩
    rw [show (2 : Int32) * nI o + 6 = nI (2 * o + 6) from nI_lin 2 rfl rfl]
    exact pk_sub (a := 2 * o + 6) (b := 6) (by omega)
  · subst h
    rw [show (7 : Int32).toNatClampNeg = 7 from rfl]
    refine ⟨?_, by omega⟩
    rw [show (2 : Int32) * nI o + 7 = nI (2 * o + 7) from nI_lin 2 rfl rfl]
    exact (pk_sub (a := 2 * o + 7) (b := 6) (by omega)).trans (congrArg nI (by omega))
/-! 'fired' stands -/
theorem fr_noAskingL (t : Nat) : ∀ (n k : Nat) (g : SG), L_RnoAsking t n k g 0 0 4 = g 0 0 4 := by
  intro n
  induction n with
  | zero => intro k g; rfl
  | succ n ih =>
    intro k g
    rw [L_RnoAsking]
    by_cases c : 3 ≤ nI k
    · rw [if_pos c]; rfl
    · rw [if_neg c, ih]; rfl
theorem fr_noAsking {g : SG} {t : Nat} : g_RnoAsking g t 0 0 4 = g 0 0 4 := fr_noAskingL t 4 0 g
theorem fr_jumps {g : SG} {t : Nat} {op b : Int32} : (x_Rjumps g t op b).2 0 0 4 = g 0 0 4 := by
  unfold x_Rjumps
  by_cases c6 : op = 6
  · rw [if_pos c6]
  rw [if_neg c6]
  by_cases c7 : op = 7
  · rw [if_pos c7]
    by_cases h : 4 ≤ g 24 0 t
    · rw [if_pos h]
    · rw [if_neg h]
  rw [if_neg c7]
  by_cases c8 : op = 8
  · rw [if_pos c8]
  rw [if_neg c8]
  by_cases c9 : op = 9
  · rw [if_pos c9]
  rw [if_neg c9]
  by_cases c10 : op = 10
  · rw [if_pos c10]
    by_cases h : 4 ≤ g 24 0 t
    · rw [if_pos h]
    rw [if_neg h]
    by_cases h2 : f_Rsector (g 8 0 (g 24 0 t).toNatClampNeg - g 8 0 t) (g 9 0 (g 24 0 t).toNatClampNeg - g 9 0 t) = g 11 0 t
    · rw [if_pos h2]
    · rw [if_neg h2]
  rw [if_neg c10]
  by_cases c11 : op = 11
  · rw [if_pos c11]
  rw [if_neg c11]
  by_cases c12 : op = 12
  · rw [if_pos c12]
    by_cases h : g 18 0 (2 * t + b.toNatClampNeg) - 1 ≤ 0
    · rw [if_pos h]; rfl
    · rw [if_neg h]; rfl
  rw [if_neg c12]
theorem fr_perf67 {g : SG} {t : Nat} {op a b : Int32} : J_Rperf67 t op a b g 0 0 4 = g 0 0 4 := by
  unfold J_Rperf67
  by_cases c : (x_Rjumps g t op b).1 = 0
  · rw [if_pos c]; exact fr_jumps
  · rw [if_neg c]; exact fr_jumps
theorem fr_perf49 {g : SG} {t : Nat} {op a b : Int32} : J_Rperf49 t op a b g 0 0 4 = g 0 0 4 := by
  unfold J_Rperf49
  by_cases c : op = 11
  · rw [if_pos c, fr_perf67]; rfl
  · rw [if_neg c, fr_perf67]
theorem fr_perf37 {g : SG} {t : Nat} {op a b : Int32} : J_Rperf37 t op a b g 0 0 4 = g 0 0 4 := by
  unfold J_Rperf37
  by_cases c : op = 5
  · rw [if_pos c, fr_perf49]; rfl
  · rw [if_neg c, fr_perf49]
theorem fr_perf14 {g : SG} {t : Nat} {op a b : Int32} : J_Rperf14 t op a b g 0 0 4 = g 0 0 4 := by
  unfold J_Rperf14
  by_cases c : op ≤ 1
  · rw [if_pos c, fr_perf37]
  rw [if_neg c]
  by_cases c2 : 5 ≤ op
  · rw [if_pos c2, fr_perf37]
  · rw [if_neg c2, fr_perf37]; rfl
theorem fr_perform {g : SG} {t : Nat} {op a b : Int32} : g_Rperform g t op a b 0 0 4 = g 0 0 4 := by
  unfold g_Rperform
  by_cases c : op = 1
  · rw [if_pos c, fr_perf14]; rfl
  · rw [if_neg c, fr_perf14]
theorem fr_programL (t : Nat) : ∀ (n : Nat) (bf : Int32) (dn : Nat) (g : SG), L_Rprogram t n bf dn g 0 0 4 = g 0 0 4 := by
  intro n
  induction n with
  | zero => intro bf dn g; rfl
  | succ n ih =>
    intro bf dn g
    rw [L_Rprogram]
    by_cases c : 10 ≤ nI dn
    · rw [if_pos c]
      show g_RnoAsking (up3 g 19 0 t (g 19 0 t + 1)) t 0 0 4 = _
      rw [fr_noAsking]; rfl
    rw [if_neg c]
    by_cases c1 : g 17 0 t < g 4 0 t
    · rw [if_pos c1]
      by_cases c2 : (g_Rperform g t (g 5 0 (16 * t + (g 17 0 t).toNatClampNeg)) (g 6 0 (16 * t + (g 17 0 t).toNatClampNeg)) (g 7 0 (16 * t + (g 17 0 t).toNatClampNeg))) 5 0 (16 * t + (g 17 0 t).toNatClampNeg) = 0
      · rw [if_pos c2, fr_perform]
      · rw [if_neg c2, ih, fr_perform]
    · rw [if_neg c1]; rfl
theorem fr_program {g : SG} {t : Nat} : g_Rprogram g t 0 0 4 = g 0 0 4 := fr_programL t 11 _ 0 g
theorem fr_fire {g : SG} {t m : Nat} (h : rng (g 0 0 4) m) : rng (g_Rfire g t 0 0 4) (m + 1) := by
  unfold g_Rfire
  by_cases c1 : g 27 0 t = 0
  · rw [if_pos c1]; exact rng_mono h (by omega)
  rw [if_neg c1]
  by_cases c2 : 0 < g 16 0 t
  · rw [if_pos c2]; exact rng_mono h (by omega)
  rw [if_neg c2]
  by_cases c3 : 8 * g 27 0 t < g 15 0 t
  · rw [if_pos c3]
    obtain ⟨j, h1, h2⟩ := h
    exact ⟨j + 1, by omega, by show g 0 0 4 + 1 = _; rw [h2, nI_1]⟩
  · rw [if_neg c3]; exact rng_mono h (by omega)
theorem fr_checkL : ∀ (n i : Nat) (g : SG), L_Rcheck n i g 0 0 4 = g 0 0 4 := by
  intro n
  induction n with
  | zero => intro i g; rfl
  | succ n ih =>
    intro i g
    rw [L_Rcheck]
    by_cases c : g 0 0 0 ≤ nI i
    · rw [if_pos c]
    rw [if_neg c]
    by_cases c1 : g 21 0 i = 0
    · rw [if_pos c1, ih]
    · rw [if_neg c1, ih]; rfl
theorem fr_check {g : SG} {t : Nat} : g_Rcheck g t 0 0 4 = g 0 0 4 := by
  unfold g_Rcheck
  by_cases c : g 21 0 t = 0
  · rw [if_pos c]
  rw [if_neg c]
  by_cases c1 : g 15 0 t ≤ 0
  · rw [if_pos c1, fr_checkL]; rfl
  · rw [if_neg c1]
theorem fr_strike {g : SG} {b t : Nat} : g_Rstrike g b t 0 0 4 = g 0 0 4 := by
  unfold g_Rstrike
  by_cases c : g 21 0 (g 32 0 b).toNatClampNeg = 0
  · rw [if_pos c, fr_check]; rfl
  · rw [if_neg c, fr_check]; rfl
theorem fr_flyL (b : Nat) : ∀ (n k : Nat) (g : SG), L_Rfly b n k g 0 0 4 = g 0 0 4 := by
  intro n
  induction n with
  | zero => intro k g; rfl
  | succ n ih =>
    intro k g
    rw [L_Rfly]
    by_cases c1 : 8 - g 30 0 b ≤ nI k
    · rw [if_pos c1]
    rw [if_neg c1]
    by_cases c2 : g 33 0 b = 0
    · rw [if_pos c2]
      by_cases c3 : g 28 0 b + 8 * f_Racross (g 31 0 b) < 0
      · rw [if_pos c3]; rfl
      rw [if_neg c3]
      by_cases c4 : g 29 0 b + 8 * f_Rup (g 31 0 b) < 0
      · rw [if_pos c4]; rfl
      rw [if_neg c4]
      by_cases c5 : 512 < g 28 0 b + 8 * f_Racross (g 31 0 b)
      · rw [if_pos c5]; rfl
      rw [if_neg c5]
      by_cases c6 : g 29 0 b + 8 * f_Rup (g 31 0 b) ≤ 512
      · rw [if_pos c6]
        by_cases c7 : 4 ≤ f_Rstruck (up3 (up3 g 28 0 b (g 28 0 b + 8 * f_Racross (g 31 0 b))) 29 0 b (g 29 0 b + 8 * f_Rup (g 31 0 b))) b
        · rw [if_pos c7, ih]; rfl
        · rw [if_neg c7, ih, fr_strike]; rfl
      · rw [if_neg c6]; rfl
    · rw [if_neg c2]
theorem fr_fly {g : SG} {b : Nat} : g_Rfly g b 0 0 4 = g 0 0 4 := fr_flyL b 9 0 g
