/-! SIMULATION: small methods (mine) -/
theorem noAsking_eq (r : SG) (t : Nat) : g_RnoAsking r t = up3 (up3 (up3 (up3 r 26 0 (4 * 0 + t) 0) 26 0 (4 * 1 + t) 0) 26 0 (4 * 2 + t) 0) 27 0 t 0 := by
  unfold g_RnoAsking
  simp only [L_RnoAsking]
  rw [if_neg (by decide), if_neg (by decide), if_neg (by decide), if_pos (by decide)]
theorem TS.growM {N M : Nat} {g r : SG} (h : TS N M g r) (hM : M < 4) (h0 : g 10 M 0 = r 26 0 (4 * 0 + M)) (h1 : g 10 M 1 = r 26 0 (4 * 1 + M)) (h2 : g 10 M 2 = r 26 0 (4 * 2 + M)) (h3 : g 10 M 3 = r 27 0 M) : TS N (M + 1) g r := by
  intro k i j hd hN hM'
  by_cases c : k = 10 ∧ i = M
  · obtain ⟨c1, c2⟩ := c
    subst c1; subst c2
    have hj : j < 4 := by
      simp only [dm, Bool.and_eq_true, decide_eq_true_eq] at hd
      exact hd.2
    match j, hj with
    | 0, _ => exact h0
    | 1, _ => exact h1
    | 2, _ => exact h2
    | 3, _ => exact h3
    | j + 4, hj => exact absurd hj (by omega)
  · exact h k i j hd hN (fun e => by have := hM' e; omega)
theorem s_oclear {N M : Nat} {g r : SG} {i : Nat} (hi : i < 4) (h : TS N M g r) : TS N M (g_oclear g i) (g_RnoAsking r i) := by
  rw [noAsking_eq]
  unfold g_oclear
  refine TS.up (dm10 hi (by decide)) rfl rfl ?_ rfl
  refine TS.up (dm10 hi (by decide)) rfl rfl ?_ rfl
  refine TS.up (dm10 hi (by decide)) rfl rfl ?_ rfl
  exact TS.up (dm10 hi (by decide)) rfl rfl h rfl
theorem s_oclear1 {N M : Nat} {g r : SG} (hM : M < 4) (h : TS N M g r) : TS N (M + 1) (g_oclear g M) (g_RnoAsking r M) := by
  refine TS.growM (s_oclear hM h) hM ?_ ?_ ?_ ?_ <;> (rw [noAsking_eq]; simp [g_oclear, up3])
theorem s_oclear0 {N M : Nat} {g r : SG} {i : Nat} (hM : M ≤ i) (h : TS N M g r) : TS N M (g_oclear g i) r := by
  unfold g_oclear
  exact TS.upM hM (TS.upM hM (TS.upM hM (TS.upM hM h)))
theorem s_rclear {N M : Nat} {g r : SG} {i : Nat} (hi : i < 4) (h : TS N M g r) : TS N M (g_rclear g i) (g_Rforget r i) := by
  unfold g_rclear g_Rforget
  refine TS.up (dm11 hi (by decide)) rfl rfl ?_ rfl
  refine TS.up (dm11 hi (by decide)) rfl rfl ?_ rfl
  refine TS.up (dm11 hi (by decide)) rfl rfl ?_ rfl
  exact TS.up (dm11 hi (by decide)) rfl rfl h rfl
theorem TS.grow {N M : Nat} {g r : SG} (h : TS N M g r) (h0 : g 11 N 0 = r 22 0 N) (h1 : g 11 N 1 = r 23 0 N) (h2 : g 11 N 2 = r 24 0 N) (h3 : g 11 N 3 = r 25 0 N) : TS (N + 1) M g r := by
  intro k i j hd hN
  by_cases c : k = 11 ∧ i = N
  · obtain ⟨c1, c2⟩ := c
    subst c1; subst c2
    obtain ⟨-, -, -⟩ := dm_b hd
    have hj : j < 4 := by
      simp only [dm, Bool.and_eq_true, decide_eq_true_eq] at hd
      exact hd.2
    intro _
    match j, hj with
    | 0, _ => exact h0
    | 1, _ => exact h1
    | 2, _ => exact h2
    | 3, _ => exact h3
    | j + 4, hj => exact absurd hj (by omega)
  · exact h k i j hd (fun e => by have := hN e; omega)
theorem rclear_at (g : SG) (i : Nat) : g_rclear g i 11 i 0 = 0 ∧ g_rclear g i 11 i 1 = 0 ∧ g_rclear g i 11 i 2 = 4 ∧ g_rclear g i 11 i 3 = 0 := by
  simp [g_rclear, up3]
theorem forget_at (g : SG) (i : Nat) : g_Rforget g i 22 0 i = 0 ∧ g_Rforget g i 23 0 i = 0 ∧ g_Rforget g i 24 0 i = 4 ∧ g_Rforget g i 25 0 i = 0 := by
  simp [g_Rforget, up3]
theorem s_pclear {N M : Nat} {g r : SG} {i : Nat} (hi : i < 4) (h : TS N M g r) : TS N M (g_pclear g i) (up3 (up3 (up3 (up3 r 18 0 (2 * i) 0) 18 0 (2 * i + 1) 0) 17 0 i 0) 19 0 i 0) := by
  unfold g_pclear
  refine TS.up (dm8 hi (by decide)) rfl rfl ?_ rfl
  refine TS.up (dm8 hi (by decide)) rfl rfl ?_ rfl
  refine TS.up (dm9 hi (by decide)) rfl rfl ?_ rfl
  exact TS.up (dm9 hi (by decide)) rfl rfl h rfl
theorem s_alive_L {N M : Nat} {g r : SG} (h : TS N M g r) (hN : N < 5) (e : g 0 0 0 = nI N) : ∀ (n : Nat) (al : Int32) (i : Nat), i + n < 100 → L_alive g n al i = L_Rliving r n al i := by
  intro n
  induction n with
  | zero => intro al i _; rfl
  | succ n ih =>
    intro al i hin
    simp only [L_alive, L_Rliving]
    rw [h.n0]
    by_cases c : g 0 0 0 ≤ nI i
    · rw [if_pos c, if_pos c]
    · rw [if_neg c, if_neg c]
      by_cases hi : i < 4
      · rw [h.r21 hi, ih _ _ (by omega), ih _ _ (by omega)]
      · exact absurd (by rw [e]; exact nI_le (by omega) (by omega)) c
theorem s_alive {N M : Nat} {g r : SG} (h : TS N M g r) (ok : OkN N g) : f_alive g = f_Rliving r := s_alive_L h ok.N.1 ok.N.2 5 0 0 (by decide)
theorem up3_ck {g : SG} {k i j k' i' j' : Nat} {v v' : Int32} (h : k ≠ k') : up3 (up3 g k i j v) k' i' j' v' = up3 (up3 g k' i' j' v') k i j v := by
  funext a b d
  simp only [up3]
  by_cases c : a = k' ∧ d = j' ∧ b = i'
  · rw [if_pos c, if_neg (fun q => h (q.1.symm.trans c.1)), if_pos c]
  · rw [if_neg c, if_neg c]
theorem s_anew {N M : Nat} {g r : SG} {i : Nat} (hi : i < 4) (hM : M ≤ i) (h : TS N M g r) : TS N M (g_anew g i) (g_Rreset r i) := by
  unfold g_anew g_Rreset
  refine s_rclear hi ?_
  refine s_oclear0 hM ?_
  unfold g_pclear
  rw [h.r1 hi, h.r2 hi, h.r3 hi]
  rw [up3_ck (k := 19) (k' := 20) (by decide), up3_ck (k := 18) (k' := 20) (by decide), up3_ck (k := 18) (k' := 20) (by decide), up3_ck (k := 17) (k' := 20) (by decide)]
  rw [up3_ck (k := 19) (k' := 21) (by decide), up3_ck (k := 18) (k' := 21) (by decide), up3_ck (k := 18) (k' := 21) (by decide), up3_ck (k := 17) (k' := 21) (by decide)]
  rw [up3_ck (k := 17) (k' := 18) (by decide), up3_ck (k := 17) (k' := 18) (by decide)]
  refine TS.up (dm8 hi (by decide)) rfl rfl ?_ rfl
  refine TS.up (dm8 hi (by decide)) rfl rfl ?_ rfl
  refine TS.up (dm9 hi (by decide)) rfl rfl ?_ rfl
  refine TS.up (dm9 hi (by decide)) rfl rfl ?_ rfl
  refine TS.up (dm3 hi (by decide)) rfl rfl ?_ rfl
  refine TS.up (dm3 hi (by decide)) rfl rfl ?_ rfl
  refine TS.up (dm3 hi (by decide)) rfl rfl ?_ rfl
  refine TS.up (dm3 hi (by decide)) rfl rfl ?_ rfl
  refine TS.up (dm3 hi (by decide)) rfl rfl ?_ rfl
  refine TS.up (dm3 hi (by decide)) rfl rfl ?_ rfl
  refine TS.up (dm3 hi (by decide)) rfl rfl ?_ rfl
  refine TS.up (dm3 hi (by decide)) rfl rfl ?_ rfl
  refine TS.up (dm3 hi (by decide)) rfl rfl ?_ rfl
  refine TS.up (dm3 hi (by decide)) rfl rfl ?_ rfl
  exact TS.up (dm3 hi (by decide)) rfl rfl h rfl
theorem s_anew1 {N M : Nat} {g r : SG} (hN : N < 4) (hM : M ≤ N) (h : TS N M g r) : TS (N + 1) M (g_anew g N) (g_Rreset r N) := by
  refine TS.grow (s_anew hN hM h) ?_ ?_ ?_ ?_ <;> (unfold g_anew g_Rreset)
  · rw [(rclear_at _ N).1, (forget_at _ N).1]
  · rw [(rclear_at _ N).2.1, (forget_at _ N).2.1]
  · rw [(rclear_at _ N).2.2.1, (forget_at _ N).2.2.1]
  · rw [(rclear_at _ N).2.2.2, (forget_at _ N).2.2.2]
theorem nlt4 {N i : Nat} {v : Int32} (hN : N < 5) (e : v = nI N) (c : ¬ v ≤ nI i) (hi : i < 100) : i < N ∧ i < 4 := by
  have := nlt_of e (by omega) (by omega) c
  omega
theorem s_die_L {N M : Nat} : ∀ (n i : Nat) (g r : SG), i + n < 100 → N < 5 → g 0 0 0 = nI N → TS N M g r → TS N M (L_die n i g) (L_Rcheck n i r) := by
  intro n
  induction n with
  | zero => intro i g r _ _ _ h; exact h
  | succ n ih =>
    intro i g r hin hN e h
    simp only [L_die, L_Rcheck]
    rw [h.n0]
    by_cases c : g 0 0 0 ≤ nI i
    · rw [if_pos c, if_pos c]; exact h
    · rw [if_neg c, if_neg c]
      obtain ⟨h1, hi⟩ := nlt4 hN e c (by omega)
      rw [h.r21 hi]
      by_cases c2 : g 3 i 13 = 0
      · rw [if_pos c2, if_pos c2]
        exact ih _ _ _ (by omega) hN e h
      · rw [if_neg c2, if_neg c2]
        refine ih _ _ _ (by omega) hN (by rw [← e]; rfl) ?_
        exact TS.up (dm3 hi (by decide)) rfl rfl h (by rw [h.r20 hi])
/-- a tank that is alive: both look whether it dies -/
theorem s_die {N M : Nat} {g r : SG} {i : Nat} (hi : i < 4) (hN : N < 5) (e : g 0 0 0 = nI N) (ha : ¬ g 3 i 13 = 0) (h : TS N M g r) : TS N M (g_die g i) (g_Rcheck r i) := by
  unfold g_die g_Rcheck
  rw [h.r21 hi, h.r15 hi, if_neg ha]
  by_cases c : g 3 i 10 ≤ 0
  · rw [if_pos c, if_pos c]
    exact s_die_L _ _ _ _ (by decide) hN (by rw [← e]; rfl) (TS.up (dm3 hi (by decide)) rfl rfl h rfl)
  · rw [if_neg c, if_neg c]
    exact h
