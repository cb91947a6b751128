/-! PURE ROWS: numbers stay in their kinds (Ok), what an index is -/
theorem rng_of {v : Int32} {m : Nat} (h0 : 0 ≤ v.toInt) (h1 : v.toInt < (m : Int)) (hm : m ≤ 2 ^ 31) : rng v m := by
  refine ⟨v.toInt.toNat, by omega, ?_⟩
  apply Int32.toInt_inj.mp
  rw [nI_toInt (by omega)]
  omega
theorem rng_int {v : Int32} {m : Nat} (h : rng v m) (hm : m ≤ 2 ^ 31) : 0 ≤ v.toInt ∧ v.toInt < (m : Int) := by
  obtain ⟨j, h1, h2⟩ := h
  subst h2
  rw [nI_toInt (by omega)]
  omega
theorem within_le {v lo hi : Int32} (h : ¬ f_within v lo hi = 0) : lo.toInt ≤ v.toInt ∧ v.toInt ≤ hi.toInt := by
  unfold f_within at h
  by_cases c1 : v < lo
  · rw [if_pos c1] at h; exact absurd rfl h
  · rw [if_neg c1] at h
    by_cases c2 : hi < v
    · rw [if_pos c2] at h; exact absurd rfl h
    · rw [Int32.lt_iff_toInt_lt] at c1 c2
      omega
theorem within_rng {v : Int32} {m : Nat} {w : Int32} (hw : w = nI m) (hm : m < 2 ^ 30) (h : ¬ f_within v 0 (w - 1) = 0) : rng v m := by
  obtain ⟨h1, h2⟩ := within_le h
  subst hw
  have h3 : (nI m - 1).toInt = (m : Int) - 1 := pk_sub_toInt (b := 1) hm (by decide)
  rw [h3] at h2
  rw [Int32.toInt_zero] at h1
  exact rng_of h1 (by omega) (by omega)
theorem isTank_j {N : Nat} {g : SG} {v : Int32} (ok : OkN N g) (h : ¬ f_isTank g v = 0) : v = nI v.toNatClampNeg ∧ v.toNatClampNeg < 4 := by
  have h1 : rng v N := within_rng ok.N.2 (by have := ok.N.1; omega) h
  exact rng_j (rng_mono h1 (by have := ok.N.1; omega)) (by decide)
theorem flying_j {N : Nat} {g : SG} {v : Int32} (ok : OkN N g) (h : ¬ f_within v 0 (g 0 0 2 - 1) = 0) : v = nI v.toNatClampNeg ∧ v.toNatClampNeg < 16 := by
  obtain ⟨K, hK, eK⟩ : rng (g 0 0 2) 17 := ok.1.1 0 0 2
  have h1 : rng v K := within_rng eK (by omega) h
  exact rng_j (rng_mono h1 (by omega)) (by decide)
theorem full_j {N : Nat} {g : SG} {i : Nat} (ok : OkN N g) (h : f_full g i = 0) : rng (g 4 i 0) 16 := by
  unfold f_full at h
  by_cases c : g 4 i 0 < 16
  · refine rng_lt (n := 17) (ok.1.1 4 i 0) (by decide) (by decide) (fun q => ?_)
    rw [Int32.lt_iff_toInt_lt] at c
    rw [Int32.le_iff_toInt_le] at q
    have : (nI 16).toInt = (16 : Int32).toInt := rfl
    omega
  · rw [if_neg c] at h
    exact absurd h (by decide)
theorem sees_j {N : Nat} {g : SG} {i : Nat} (ok : OkN N g) (h : ¬ f_sees g i = 0) : g 11 i 2 = nI (g 11 i 2).toNatClampNeg ∧ (g 11 i 2).toNatClampNeg < 4 := by
  unfold f_sees at h
  by_cases c : g 11 i 2 = 4
  · rw [if_pos c] at h; exact absurd rfl h
  · obtain ⟨j, h1, h2⟩ : rng (g 11 i 2) 5 := ok.1.1 11 i 2
    refine rng_j ⟨j, ?_, h2⟩ (by decide)
    rcases Nat.lt_or_ge j 4 with q | q
    · exact q
    · have : j = 4 := by omega
      subst this
      exact absurd h2 c
theorem ctr_j {N : Nat} {g : SG} {i : Nat} (ok : OkN N g) (h : g 8 i 0 < g 4 i 0) : g 8 i 0 = nI (g 8 i 0).toNatClampNeg ∧ (g 8 i 0).toNatClampNeg < 16 := by
  have h1 := rng_int (m := 17) (ok.1.1 8 i 0) (by decide)
  have h2 := rng_int (m := 17) (ok.1.1 4 i 0) (by decide)
  rw [Int32.lt_iff_toInt_lt] at h
  exact rng_j (rng_of h1.1 (by omega) (by decide)) (by decide)
theorem next_ty {v : Int32} (e : v = nI v.toNatClampNeg) (h : v.toNatClampNeg < 16) : rng (v + 1) 17 := ⟨v.toNatClampNeg + 1, by omega, by rw [← nI_1, ← e]⟩
theorem jump_ty {g : SG} {i : Nat} {op a b : Int32} (hio : insOk op a b) (h : ¬ f_jumps g i op b = 0) : rng a 17 := by
  refine rng_mono (hio.2.2.2 ?_) (by decide)
  unfold f_jumps at h
  by_cases c6 : op = 6
  · exact Or.inl c6
  by_cases c7 : op = 7
  · exact Or.inr (Or.inl c7)
  by_cases c8 : op = 8
  · exact Or.inr (Or.inr (Or.inl c8))
  by_cases c9 : op = 9
  · exact Or.inr (Or.inr (Or.inr (Or.inl c9)))
  by_cases c10 : op = 10
  · exact Or.inr (Or.inr (Or.inr (Or.inr (Or.inl c10))))
  rw [if_neg c6, if_neg c7, if_neg c8, if_neg c9, if_neg c10] at h
  by_cases c11 : op = 11
  · rw [if_pos c11] at h; exact absurd rfl h
  by_cases c12 : op = 12
  · exact Or.inr (Or.inr (Or.inr (Or.inr (Or.inr c12))))
  rw [if_neg c11, if_neg c12] at h
  exact absurd rfl h
theorem fly_ty {v : Int32} (h : rng v 16) : rng (v + 1) 17 := by
  obtain ⟨j, h1, h2⟩ := h
  exact ⟨j + 1, by omega, by rw [h2, nI_1]⟩
theorem pace_lt {v : Int32} {n : Nat} (h : rng v 4) (hn : n < 2 ^ 30) (c : ¬ 8 - v ≤ nI n) : n < 8 := by
  obtain ⟨j, h1, h2⟩ := h
  subst h2
  have h3 : ((8 : Int32) - nI j).toInt = (8 : Int) - j := pk_sub_toInt (a := 8) (by decide) (by omega)
  rw [Int32.le_iff_toInt_le, h3, nI_toInt (by omega)] at c
  omega
theorem struck_L {N : Nat} {g : SG} {k : Nat} (ok : OkN N g) : ∀ n i, i + n ≤ 5 → ¬ L_struck g k n i = 4 → rng (L_struck g k n i) 4 := by
  intro n
  induction n with
  | zero => intro i _ h; exact ⟨0, by decide, rfl⟩
  | succ n ih =>
    intro i hi h
    rw [L_struck] at h ⊢
    by_cases c : g 0 0 0 ≤ nI i
    · rw [if_pos c] at h; exact absurd rfl h
    · rw [if_neg c] at h ⊢
      have hN := ok.N
      have hiN : i < N := nlt_of hN.2 (by omega) (by omega) c
      repeat' split at h
      all_goals (repeat' split)
      all_goals first | exact ih _ (by omega) h | exact ⟨i, by omega, rfl⟩ | (exfalso; contradiction)
theorem struck_j {N : Nat} {g : SG} {k : Nat} (ok : OkN N g) (h : ¬ f_struck g k = 4) : f_struck g k = nI (f_struck g k).toNatClampNeg ∧ (f_struck g k).toNatClampNeg < 4 := rng_j (struck_L ok 5 0 (by decide) h) (by decide)
theorem touched_L {N : Nat} {g : SG} {a b d : Int32} (ok : OkN N g) : ∀ n i, i + n ≤ 5 → ¬ L_touched g a b d n i = 4 → rng (L_touched g a b d n i) 4 := by
  intro n
  induction n with
  | zero => intro i _ h; exact ⟨0, by decide, rfl⟩
  | succ n ih =>
    intro i hi h
    rw [L_touched] at h ⊢
    by_cases c : g 0 0 0 ≤ nI i
    · rw [if_pos c] at h; exact absurd rfl h
    · rw [if_neg c] at h ⊢
      have hN := ok.N
      have hiN : i < N := nlt_of hN.2 (by omega) (by omega) c
      repeat' split at h
      all_goals (repeat' split)
      all_goals first | exact ih _ (by omega) h | exact ⟨i, by omega, rfl⟩ | (exfalso; contradiction)
theorem touched_j {N : Nat} {g : SG} {a b d : Int32} (ok : OkN N g) (h : ¬ f_touched g a b d = 4) : f_touched g a b d = nI (f_touched g a b d).toNatClampNeg ∧ (f_touched g a b d).toNatClampNeg < 4 := rng_j (touched_L ok 5 0 (by decide) h) (by decide)
theorem aast_up {ad : Nat → Nat → Nat} {j q : Nat} (hq : q < 2 ^ 31) : ∀ r : Nat → Int32, (fun a => some (ad 12 (upd r j (nI q) a).toNatClampNeg)) = va_up (fun a => some (ad 12 (r a).toNatClampNeg)) j (some (ad 12 q)) := by
  intro r
  funext a
  by_cases h : a = j
  · subst h
    rw [pk_us, nI_clamp hq, va_up_self]
  · rw [pk_un h, va_up_ne _ _ h]
/-! Ok is kept -/
theorem ok_g_oclear {N : Nat} {g : SG} (h : OkN N g) (i : Nat) : OkN N (g_oclear g i) := okU (okU (okU (okU h rfl trivial) rfl trivial) rfl trivial) rfl ⟨0, by decide, rfl⟩
theorem ok_g_rclear {N : Nat} {g : SG} (h : OkN N g) (i : Nat) : OkN N (g_rclear g i) := okU (okU (okU (okU h rfl (Or.inl rfl)) rfl (Or.inl rfl)) rfl ⟨4, by decide, rfl⟩) rfl trivial
theorem ok_g_note {N : Nat} {g : SG} (h : OkN N g) (i : Nat) (t d : Int32) (ht : rng t 5) : OkN N (g_note g i t d) := by
  unfold g_note
  repeat' split
  all_goals first | exact h | exact okU (okU h rfl ht) rfl trivial
theorem ok_g_pclear {N : Nat} {g : SG} (h : OkN N g) (i : Nat) : OkN N (g_pclear g i) := okU (okU (okU (okU h rfl trivial) rfl trivial) rfl ⟨0, by decide, rfl⟩) rfl trivial
theorem ok_g_obeyTurns {N : Nat} {g : SG} (h : OkN N g) (i : Nat) : OkN N (g_obeyTurns g i) := by
  unfold g_obeyTurns
  split
  · exact okU (okU h rfl (turned_rng _ _)) rfl trivial
  · exact okU (okU (okU h rfl (turned_rng _ _)) rfl (turned_rng _ _)) rfl trivial
theorem ok_g_changeSpeed {N : Nat} {g : SG} (h : OkN N g) (i : Nat) : OkN N (g_changeSpeed g i) := by
  unfold g_changeSpeed
  repeat' split
  all_goals first | exact h | exact okU h rfl trivial
theorem ok_g_goOn {N : Nat} {g : SG} (h : OkN N g) (i : Nat) : OkN N (g_goOn g i) := by
  unfold g_goOn
  repeat' split
  all_goals first | exact okU (okU h rfl trivial) rfl trivial | exact okU (okU (okU (okU h rfl trivial) rfl trivial) rfl (Or.inr rfl)) rfl trivial
theorem ok_g_cool {N : Nat} {g : SG} (h : OkN N g) (i : Nat) : OkN N (g_cool g i) := okU h rfl trivial
theorem ok_g_anew {N : Nat} {g : SG} (h : OkN N g) (i : Nat) : OkN N (g_anew g i) :=
  ok_g_rclear (ok_g_oclear (ok_g_pclear (okU (okU (okU (okU (okU (okU (okU (okU (okU (okU (okU h rfl trivial) rfl trivial) rfl (h.1.1 3 i 2)) rfl (h.1.1 3 i 2)) rfl trivial) rfl trivial) rfl trivial) rfl trivial) rfl trivial) rfl trivial) rfl (Or.inr rfl)) i) i) i
theorem ok_g_stand {N : Nat} {g : SG} (h : OkN N g) (i : Nat) (px py dir : Int32) (hd : rng dir 8) : OkN N (g_stand g i px py dir) := ok_g_anew (okU (okU (okU h rfl trivial) rfl trivial) rfl hd) i
theorem ok_g_leave {N : Nat} {g : SG} (h : OkN N g) (k i : Nat) (num : Int32) (hp : rng (g 10 i 3) 4) (hg : rng (g 3 i 6) 8) (hn : rng num 4) : OkN N (g_leave g k i num) := okU (okU (okU (okU (okU h rfl trivial) rfl trivial) rfl hp) rfl hg) rfl hn
theorem ok_g_bgoOn {N : Nat} {g : SG} (h : OkN N g) (k : Nat) : OkN N (g_bgoOn g k) := okU (okU h rfl trivial) rfl trivial
theorem ok_g_obey {N : Nat} {g : SG} (h : OkN N g) (i : Nat) (op a b : Int32) (hio : insOk op a b) : OkN N (g_obey g i op a b) := by
  unfold g_obey
  repeat' split
  all_goals first | exact h | (rename_i q; exact okU h rfl (hio.2.2.1 q)) | exact okU h rfl trivial | exact okU h rfl trivial
theorem ok_L_spends {N : Nat} (i : Nat) : ∀ (n dn : Nat) (g : SG), OkN N g → OkN N (L_spends i n dn g).2 := by
  intro n
  induction n with
  | zero => intro dn g h; exact h
  | succ n ih =>
    intro dn g h
    rw [L_spends]
    split
    · exact h
    · split
      · rename_i c
        obtain ⟨es, hs⟩ := ctr_j h c
        have hio := h.1.2 i (g 8 i 0).toNatClampNeg
        split
        · split
          · exact okU (ok_g_obey h _ _ _ _ hio) rfl (next_ty es hs)
          · exact ih _ _ (okU (ok_g_obey h _ _ _ _ hio) rfl (next_ty es hs))
        · rename_i cj
          split
          · exact okU (ok_g_obey h _ _ _ _ hio) rfl (jump_ty hio cj)
          · exact ih _ _ (okU (ok_g_obey h _ _ _ _ hio) rfl (jump_ty hio cj))
      · exact okU h rfl ⟨0, by decide, rfl⟩
theorem ok_x_spends {N : Nat} {g : SG} (h : OkN N g) (i : Nat) : OkN N (x_spends g i).2 := ok_L_spends i 11 0 g h
theorem ok_g_runProgram {N : Nat} {g : SG} (h : OkN N g) (i : Nat) : OkN N (g_runProgram g i) := by
  unfold g_runProgram
  split
  · exact ok_x_spends h i
  · exact okU (ok_g_oclear (okU (ok_x_spends h i) rfl trivial) i) rfl trivial
theorem ok_g_runPrograms {N : Nat} {g : SG} (h : OkN N g) : OkN N (g_runPrograms g) := by
  have key : ∀ (n i : Nat) (g : SG), OkN N g → OkN N (L_runPrograms n i g) := by
    intro n
    induction n with
    | zero => intro i g h; exact h
    | succ n ih =>
      intro i g h
      rw [L_runPrograms]
      repeat' split
      all_goals first | exact h | exact ih _ _ (ok_g_oclear h i) | exact ih _ _ (ok_g_runProgram (ok_g_oclear h i) i)
  exact key 5 0 g h
theorem ok_g_forget {N : Nat} {g : SG} (h : OkN N g) : OkN N (g_forget g) := by
  have key : ∀ (n i : Nat) (g : SG), OkN N g → OkN N (L_forget n i g) := by
    intro n
    induction n with
    | zero => intro i g h; exact h
    | succ n ih =>
      intro i g h
      rw [L_forget]
      split
      · exact h
      · exact ih _ _ (ok_g_rclear h i)
  exact key 5 0 g h
theorem leave_fly {g : SG} {k i : Nat} {num : Int32} : g_leave g k i num 0 0 2 = g 0 0 2 := rfl
theorem ok_g_fire {N : Nat} {g : SG} (h : OkN N g) (i : Nat) (hfl : rng (g 0 0 2) 16) (hi : i < 4) : OkN N (g_fire g i) :=
  okU (okU (ok_g_leave (okU (okU h rfl trivial) rfl trivial) _ _ _ (h.1.1 10 i 3) (h.1.1 3 i 6) ⟨i, hi, rfl⟩) rfl (fly_ty hfl)) rfl trivial
theorem ok_g_fireGuns {N : Nat} {g : SG} (h : OkN N g) : OkN N (g_fireGuns g) := by
  have key : ∀ (n i : Nat) (g : SG), i + n ≤ 5 → OkN N g → OkN N (L_fireGuns n i g) := by
    intro n
    induction n with
    | zero => intro i g _ h; exact h
    | succ n ih =>
      intro i g hi h
      rw [L_fireGuns]
      split
      · exact h
      · rename_i c
        have hN := h.N
        have hiN : i < N := nlt_of hN.2 (by omega) (by omega) c
        repeat' split
        · exact ih _ _ (by omega) h
        · exact ih _ _ (by omega) h
        · exact ih _ _ (by omega) h
        · rename_i c2
          exact ih _ _ (by omega) (ok_g_fire h i (rng_lt (m := 16) (h.1.1 0 0 2) (by decide) (by decide) c2) (by omega))
  exact key 5 0 g (by decide) h
theorem ok_g_die {N : Nat} {g : SG} (h : OkN N g) (j : Nat) : OkN N (g_die g j) := by
  have key : ∀ (n i : Nat) (g : SG), OkN N g → OkN N (L_die n i g) := by
    intro n
    induction n with
    | zero => intro i g h; exact h
    | succ n ih =>
      intro i g h
      rw [L_die]
      repeat' split
      all_goals first | exact h | exact ih _ _ h | exact ih _ _ (okU h rfl trivial)
  unfold g_die
  split
  · exact key 5 0 _ (okU h rfl (Or.inl rfl))
  · exact h
theorem ok_g_strike {N : Nat} {g : SG} (h : OkN N g) (k j : Nat) : OkN N (g_strike g k j) := by
  unfold g_strike
  split
  · exact ok_g_die (okU (okU (okU (okU h rfl trivial) rfl (Or.inr rfl)) rfl trivial) rfl trivial) j
  · exact ok_g_die (okU (okU (okU (okU (okU h rfl trivial) rfl (Or.inr rfl)) rfl trivial) rfl trivial) rfl trivial) j
theorem ok_x_stays {N : Nat} {g : SG} (h : OkN N g) (k : Nat) : OkN N (x_stays g k).2 := by
  have key : ∀ (n gn : Nat) (g : SG), OkN N g → OkN N (L_stays k n gn g).2 := by
    intro n
    induction n with
    | zero => intro gn g h; exact h
    | succ n ih =>
      intro gn g h
      rw [L_stays]
      repeat' split
      all_goals first | exact h | exact ok_g_bgoOn h k | exact ih _ _ (ok_g_bgoOn h k) | exact ok_g_strike (ok_g_bgoOn h k) k _
  exact key 9 0 g h
theorem die_fly {g : SG} {j : Nat} : g_die g j 0 0 2 = g 0 0 2 := by
  have key : ∀ (n i : Nat) (g : SG), L_die n i g 0 0 2 = g 0 0 2 := by
    intro n
    induction n with
    | zero => intro i g; rfl
    | succ n ih =>
      intro i g
      rw [L_die]
      repeat' split
      all_goals first | rfl | (rw [ih]; done) | (rw [ih]; rfl)
  unfold g_die
  split
  · rw [key]; rfl
  · rfl
theorem stays_fly {N : Nat} {g : SG} (_ : OkN N g) (k : Nat) : (x_stays g k).2 0 0 2 = g 0 0 2 := by
  have key : ∀ (n gn : Nat) (g : SG), (L_stays k n gn g).2 0 0 2 = g 0 0 2 := by
    intro n
    induction n with
    | zero => intro gn g; rfl
    | succ n ih =>
      intro gn g
      rw [L_stays]
      repeat' split
      all_goals first | rfl | (rw [ih]; rfl) | skip
      show g_strike _ _ _ 0 0 2 = _
      unfold g_strike
      split <;> (rw [die_fly]; rfl)
  exact key 9 0 g
theorem ok_g_fly {N : Nat} {g : SG} (h : OkN N g) : OkN N (g_fly g) := by
  have key : ∀ (n kp i : Nat) (g : SG), kp ≤ i → i + n ≤ 17 → OkN N g → OkN N (L_fly n kp i g) := by
    intro n
    induction n with
    | zero => intro kp i g _ _ h; exact h
    | succ n ih =>
      intro kp i g hk hi h
      rw [L_fly]
      split
      · exact okU h rfl ⟨kp, by omega, rfl⟩
      · split
        · exact ih _ _ _ (by omega) (by omega) (ok_x_stays h _)
        · have h2 := ok_x_stays h (g 2 0 i).toNatClampNeg
          exact ih _ _ _ (by omega) (by omega) (okU (okU h2 rfl ⟨_, (rng_j (h2.1.1 2 0 kp) (by decide)).2, rfl⟩) rfl ⟨_, (rng_j (h.1.1 2 0 i) (by decide)).2, rfl⟩)
  exact key 17 0 0 g (by decide) (by decide) h
theorem ok_g_drive {N : Nat} {g : SG} (h : OkN N g) (j : Nat) : OkN N (g_drive g j) := by
  have h3 : OkN N (g_goOn (g_changeSpeed (g_obeyTurns g j) j) j) := ok_g_goOn (ok_g_changeSpeed (ok_g_obeyTurns h j) j) j
  unfold g_drive
  generalize g_goOn (g_changeSpeed (g_obeyTurns g j) j) j = g3 at h3 ⊢
  repeat' split
  all_goals first | exact ok_g_cool (ok_g_die h3 j) j | exact ok_g_cool (ok_g_die (okU h3 rfl trivial) j) j | skip
  all_goals refine ok_g_cool (ok_g_die (ok_g_die ?_ _) j) j
  all_goals first | exact okU (okU (okU (okU (okU h3 rfl trivial) rfl trivial) rfl (Or.inr rfl)) rfl trivial) rfl trivial | exact okU (okU (okU (okU (okU (okU h3 rfl trivial) rfl trivial) rfl (Or.inr rfl)) rfl trivial) rfl trivial) rfl trivial
theorem ok_g_driveTanks {N : Nat} {g : SG} (h : OkN N g) : OkN N (g_driveTanks g) := by
  have key : ∀ (n i : Nat) (g : SG), OkN N g → OkN N (L_driveTanks n i g) := by
    intro n
    induction n with
    | zero => intro i g h; exact h
    | succ n ih =>
      intro i g h
      rw [L_driveTanks]
      repeat' split
      all_goals first | exact h | exact ih _ _ h | exact ih _ _ (ok_g_drive h i)
  exact key 5 0 g h
theorem ok_g_look {N : Nat} {g : SG} (h : OkN N g) (j : Nat) : OkN N (g_look g j) := by
  have key : ∀ (n i : Nat) (g : SG), i + n ≤ 5 → OkN N g → OkN N (L_look j n i g) := by
    intro n
    induction n with
    | zero => intro i g _ h; exact h
    | succ n ih =>
      intro i g hi h
      rw [L_look]
      repeat' split
      all_goals first | exact h | exact ih _ _ (by omega) h | exact ih _ _ (by omega) (ok_g_note h _ _ _ ⟨i, by omega, rfl⟩)
  exact key 5 0 g (by decide) h
theorem ok_g_sweep {N : Nat} {g : SG} (h : OkN N g) : OkN N (g_sweep g) := by
  have key : ∀ (n i : Nat) (g : SG), OkN N g → OkN N (L_sweep n i g) := by
    intro n
    induction n with
    | zero => intro i g h; exact h
    | succ n ih =>
      intro i g h
      rw [L_sweep]
      repeat' split
      all_goals first | exact h | exact ih _ _ h | exact ih _ _ (ok_g_look h i)
  exact key 5 0 g h
theorem ok_x_turn {N : Nat} {g : SG} (h : OkN N g) : OkN N (x_turn g).2 := by
  unfold x_turn
  split
  · exact ok_g_sweep (ok_g_driveTanks (ok_g_fly (ok_g_fireGuns (ok_g_forget (ok_g_runPrograms (okU h rfl trivial))))))
  · exact h
theorem ok_x_restart {N : Nat} {g : SG} (h : OkN N g) : OkN N (x_restart g).2 := by
  have key : ∀ (n : Nat) (made : Int32) (i : Nat) (g : SG), OkN N g → OkN N (L_restart n made i g).2 := by
    intro n
    induction n with
    | zero => intro made i g h; exact h
    | succ n ih =>
      intro made i g h
      rw [L_restart]
      split
      · exact okU (okU (okU (okU h rfl trivial) rfl ⟨0, by decide, rfl⟩) rfl trivial) rfl trivial
      · exact ih _ _ _ (ok_g_anew h i)
  exact key 5 _ 0 g h
