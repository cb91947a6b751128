/-! PURE ROWS: numbers stay in their kinds (Ok), what an index is -/
theorem rng_of {v : Int32} {m : Nat} (h0 : 0 ≤ v.toInt) (h1 : v.toInt < (m : Int)) (hm : m ≤ 2 ^ 31) : rng v m := by
  refine ⟨v.toInt.toNat, by omega, ?_⟩
  apply Int32.toInt_inj.mp
  rw [nI_toInt (by omega)]
  omega
theorem rng_int {v : Int32} {m : Nat} (h : rng v m) (hm : m ≤ 2 ^ 31) : 0 ≤ v.toInt ∧ v.toInt < (m : Int) := by
  obtain ⟨j, h1, h2⟩ := h
  subst h2
  rw [nI_toInt (by omega)]
  omega
theorem within_le {v lo hi : Int32} (h : ¬ f_within v lo hi = 0) : lo.toInt ≤ v.toInt ∧ v.toInt ≤ hi.toInt := by
  unfold f_within at h
  by_cases c1 : v < lo
  · rw [if_pos c1] at h; exact absurd rfl h
  · rw [if_neg c1] at h
    by_cases c2 : hi < v
    · rw [if_pos c2] at h; exact absurd rfl h
    · rw [Int32.lt_iff_toInt_lt] at c1 c2
      omega
theorem within_rng {v : Int32} {m : Nat} {w : Int32} (hw : w = nI m) (hm : m < 2 ^ 30) (h : ¬ f_within v 0 (w - 1) = 0) : rng v m := by
  obtain ⟨h1, h2⟩ := within_le h
  subst hw
  have h3 : (nI m - 1).toInt = (m : Int) - 1 := pk_sub_toInt (b := 1) hm (by decide)
  rw [h3] at h2
  rw [Int32.toInt_zero] at h1
  exact rng_of h1 (by omega) (by omega)
theorem isTank_j {N : Nat} {g : SG} {v : Int32} (ok : OkN N g) (h : ¬ f_isTank g v = 0) : v = nI v.toNatClampNeg ∧ v.toNatClampNeg < 4 := by
  have h1 : rng v N := within_rng ok.N.2 (by have := ok.N.1; omega) h
  exact rng_j (rng_mono h1 (by have := ok.N.1; omega)) (by decide)
theorem flying_j {N : Nat} {g : SG} {v : Int32} (ok : OkN N g) (h : ¬ f_within v 0 (g 0 0 2 - 1) = 0) : v = nI v.toNatClampNeg ∧ v.toNatClampNeg < 16 := by
  obtain ⟨K, hK, eK⟩ : rng (g 0 0 2) 17 := ok.1.1 0 0 2
  have h1 : rng v K := within_rng eK (by omega) h
  exact rng_j (rng_mono h1 (by omega)) (by decide)
theorem full_j {N : Nat} {g : SG} {i : Nat} (ok : OkN N g) (h : f_full g i = 0) : rng (g 4 i 0) 16 := by
  unfold f_full at h
  by_cases c : g 4 i 0 < 16
  · refine rng_lt (n := 17) (ok.1.1 4 i 0) (by decide) (by decide) (fun q => ?_)
    rw [Int32.lt_iff_toInt_lt] at c
    rw [Int32.le_iff_toInt_le] at q
    have : (nI 16).toInt = (16 : Int32).toInt := rfl
    omega
  · rw [if_neg c] at h
    exact absurd h (by decide)
theorem sees_j {N : Nat} {g : SG} {i : Nat} (ok : OkN N g) (h : ¬ f_sees g i = 0) : g 11 i 2 = nI (g 11 i 2).toNatClampNeg ∧ (g 11 i 2).toNatClampNeg < 4 := by
  unfold f_sees at h
  by_cases c : g 11 i 2 = 4
  · rw [if_pos c] at h; exact absurd rfl h
  · obtain ⟨j, h1, h2⟩ : rng (g 11 i 2) 5 := ok.1.1 11 i 2
    refine rng_j ⟨j, ?_, h2⟩ (by decide)
    rcases Nat.lt_or_ge j 4 with q | q
    · exact q
    · have : j = 4 := by omega
      subst this
      exact absurd h2 c
theorem ctr_j {N : Nat} {g : SG} {i : Nat} (ok : OkN N g) (h : g 8 i 0 < g 4 i 0) : g 8 i 0 = nI (g 8 i 0).toNatClampNeg ∧ (g 8 i 0).toNatClampNeg < 16 := by
  have h1 := rng_int (m := 17) (ok.1.1 8 i 0) (by decide)
  have h2 := rng_int (m := 17) (ok.1.1 4 i 0) (by decide)
  rw [Int32.lt_iff_toInt_lt] at h
  exact rng_j (rng_of h1.1 (by omega) (by decide)) (by decide)
theorem next_ty {v : Int32} (e : v = nI v.toNatClampNeg) (h : v.toNatClampNeg < 16) : rng (v + 1) 17 := ⟨v.toNatClampNeg + 1, by omega, by rw [← nI_1, ← e]⟩
theorem jump_ty {g : SG} {i : Nat} {op a b : Int32} (hio : insOk op a b) (h : ¬ f_jumps g i op b = 0) : rng a 17 := by
  refine rng_mono (hio.2.2.2 ?_) (by decide)
  unfold f_jumps at h
  by_cases c6 : op = 6
  · exact Or.inl c6
  by_cases c7 : op = 7
  · exact Or.inr (Or.inl c7)
  by_cases c8 : op = 8
  · exact Or.inr (Or.inr (Or.inl c8))
  by_cases c9 : op = 9
  · exact Or.inr (Or.inr (Or.inr (Or.inl c9)))
  by_cases c10 : op = 10
  · exact Or.inr (Or.inr (Or.inr (Or.inr (Or.inl c10))))
  rw [if_neg c6, if_neg c7, if_neg c8, if_neg c9, if_neg c10] at h
  by_cases c11 : op = 11
  · rw [if_pos c11] at h; exact absurd rfl h
  by_cases c12 : op = 12
  · exact Or.inr (Or.inr (Or.inr (Or.inr (Or.inr c12))))
  rw [if_neg c11, if_neg c12] at h
  exact absurd rfl h
theorem fly_ty {v : Int32} (h : rng v 16) : rng (v + 1) 17 := by
  obtain ⟨j, h1, h2⟩ := h
  exact ⟨j + 1, by omega, by rw [h2, nI_1]⟩
theorem pace_lt {v : Int32} {n : Nat} (h : rng v 4) (hn : n < 2 ^ 30) (c : ¬ 8 - v ≤ nI n) : n < 8 := by
  obtain ⟨j, h1, h2⟩ := h
  subst h2
  have h3 : ((8 : Int32) - nI j).toInt = (8 : Int) - j := pk_sub_toInt (a := 8) (by decide) (by omega)
  rw [Int32.le_iff_toInt_le, h3, nI_toInt (by omega)] at c
  omega
theorem struck_L {N : Nat} {g : SG} {k : Nat} (ok : OkN N g) : ∀ n i, i + n ≤ 5 → ¬ L_struck g k n i = 4 → rng (L_struck g k n i) 4 := by
  intro n
  induction n with
  | zero => intro i _ h; exact ⟨0, by decide, rfl⟩
  | succ n ih =>
    intro i hi h
    rw [L_struck] at h ⊢
    by_cases c : g 0 0 0 ≤ nI i
    · rw [if_pos c] at h; exact absurd rfl h
    rw [if_neg c] at h ⊢
    have hN := ok.N
    have hiN : i < N := nlt_of hN.2 (by omega) (by omega) c
    by_cases c1 : 16 < f_dist g i (g 12 k 0) (g 12 k 1)
    · rw [if_pos c1] at h ⊢; exact ih _ (by omega) h
    rw [if_neg c1] at h ⊢
    by_cases c2 : nI i = g 12 k 4
    · rw [if_pos c2] at h ⊢; exact ih _ (by omega) h
    rw [if_neg c2] at h ⊢
    by_cases c3 : g 3 i 13 = 0
    · rw [if_pos c3] at h ⊢; exact ih _ (by omega) h
    rw [if_neg c3]
    exact ⟨i, by omega, rfl⟩
theorem struck_j {N : Nat} {g : SG} {k : Nat} (ok : OkN N g) (h : ¬ f_struck g k = 4) : f_struck g k = nI (f_struck g k).toNatClampNeg ∧ (f_struck g k).toNatClampNeg < 4 := rng_j (struck_L ok 5 0 (by decide) h) (by decide)
theorem touched_L {N : Nat} {g : SG} {a b d : Int32} (ok : OkN N g) : ∀ n i, i + n ≤ 5 → ¬ L_touched g a b d n i = 4 → rng (L_touched g a b d n i) 4 := by
  intro n
  induction n with
  | zero => intro i _ h; exact ⟨0, by decide, rfl⟩
  | succ n ih =>
    intro i hi h
    rw [L_touched] at h ⊢
    by_cases c : g 0 0 0 ≤ nI i
    · rw [if_pos c] at h; exact absurd rfl h
    rw [if_neg c] at h ⊢
    have hN := ok.N
    have hiN : i < N := nlt_of hN.2 (by omega) (by omega) c
    by_cases c1 : nI i = a
    · rw [if_pos c1] at h ⊢; exact ih _ (by omega) h
    rw [if_neg c1] at h ⊢
    by_cases c2 : g 3 i 13 = 0
    · rw [if_pos c2] at h ⊢; exact ih _ (by omega) h
    rw [if_neg c2] at h ⊢
    by_cases c3 : 32 ≤ f_dist g i b d
    · rw [if_pos c3] at h ⊢; exact ih _ (by omega) h
    rw [if_neg c3]
    exact ⟨i, by omega, rfl⟩
theorem touched_j {N : Nat} {g : SG} {a b d : Int32} (ok : OkN N g) (h : ¬ f_touched g a b d = 4) : f_touched g a b d = nI (f_touched g a b d).toNatClampNeg ∧ (f_touched g a b d).toNatClampNeg < 4 := rng_j (touched_L ok 5 0 (by decide) h) (by decide)
theorem aast_up {ad : Nat → Nat → Nat} {j q : Nat} (hq : q < 2 ^ 31) : ∀ r : Nat → Int32, (fun a => some (ad 12 (upd r j (nI q) a).toNatClampNeg)) = va_up (fun a => some (ad 12 (r a).toNatClampNeg)) j (some (ad 12 q)) := by
  intro r
  funext a
  by_cases h : a = j
  · subst h
    rw [pk_us, nI_clamp hq, va_up_self]
  · rw [pk_un h, va_up_ne _ _ h]
theorem die_flyL : ∀ (n i : Nat) (g : SG), L_die n i g 0 0 2 = g 0 0 2 := by
  intro n
  induction n with
  | zero => intro i g; rfl
  | succ n ih =>
    intro i g
    rw [L_die]
    by_cases c : g 0 0 0 ≤ nI i
    · rw [if_pos c]
    rw [if_neg c]
    by_cases c1 : g 3 i 13 = 0
    · rw [if_pos c1, ih]
    rw [if_neg c1, ih]
    rfl
theorem die_fly {g : SG} {j : Nat} : g_die g j 0 0 2 = g 0 0 2 := by
  unfold g_die
  by_cases c : g 3 j 10 ≤ 0
  · rw [if_pos c, die_flyL]; rfl
  · rw [if_neg c]
theorem strike_fly {g : SG} {k j : Nat} : g_strike g k j 0 0 2 = g 0 0 2 := by
  unfold g_strike
  by_cases c : g 3 (g 12 k 4).toNatClampNeg 13 = 0
  · rw [if_pos c, die_fly]; rfl
  · rw [if_neg c, die_fly]; rfl
theorem stays_flyL (k : Nat) : ∀ (n gn : Nat) (g : SG), (L_stays k n gn g).2 0 0 2 = g 0 0 2 := by
  intro n
  induction n with
  | zero => intro gn g; rfl
  | succ n ih =>
    intro gn g
    rw [L_stays]
    by_cases c : 8 - g 12 k 2 ≤ nI gn
    · rw [if_pos c]
    rw [if_neg c]
    by_cases c1 : f_inField (g_bgoOn g k) k = 0
    · rw [if_pos c1]; rfl
    rw [if_neg c1]
    by_cases c2 : f_struck (g_bgoOn g k) k = 4
    · rw [if_pos c2, ih]; rfl
    rw [if_neg c2]
    show g_strike _ _ _ 0 0 2 = _
    rw [strike_fly]
    rfl
theorem stays_fly {N : Nat} {g : SG} (_ : OkN N g) (k : Nat) : (x_stays g k).2 0 0 2 = g 0 0 2 := stays_flyL k 9 0 g
theorem td8 (a : Int) : ∃ q r : Int, a.tdiv 8 = q ∧ a.tmod 8 = r ∧ a = 8 * q + r ∧ ((0 ≤ a ∧ 0 ≤ r ∧ r < 8) ∨ (a < 0 ∧ -8 < r ∧ r ≤ 0)) := by
  rcases (show a < 0 ∨ 0 ≤ a by omega) with h | h
  · obtain ⟨b, hb⟩ : ∃ b : Int, a = -b := ⟨-a, by omega⟩
    subst hb
    refine ⟨-(b / 8), -(b % 8), ?_, ?_, by omega, Or.inr ⟨h, by omega, by omega⟩⟩
    · rw [Int.neg_tdiv, Int.tdiv_eq_ediv_of_nonneg (by omega)]
    · rw [Int.neg_tmod, Int.tmod_eq_emod_of_nonneg (by omega)]
  · refine ⟨a / 8, a % 8, ?_, ?_, by omega, Or.inl ⟨h, by omega, by omega⟩⟩
    · rw [Int.tdiv_eq_ediv_of_nonneg h]
    · rw [Int.tmod_eq_emod_of_nonneg h]
theorem rem8 (x : Int32) : ∃ r : Int, (x - x / 8 * 8).toInt = r ∧ (∃ q : Int, x.toInt = 8 * q + r) ∧ ((0 ≤ x.toInt ∧ 0 ≤ r ∧ r < 8) ∨ (x.toInt < 0 ∧ -8 < r ∧ r ≤ 0)) := by
  obtain ⟨q, r, h1, h2, h3, h4⟩ := td8 x.toInt
  have l1 := Int32.toInt_lt x
  have l2 := Int32.le_toInt x
  refine ⟨r, ?_, ⟨q, h3⟩, h4⟩
  rw [Int32.toInt_sub, Int32.toInt_mul, Int32.toInt_div_of_ne_right x 8 (by decide), show (8 : Int32).toInt = 8 from rfl, h1]
  have e1 : (q * 8).bmod (2 ^ 32) = q * 8 := Int.bmod_eq_of_le (by omega) (by omega)
  rw [e1, Int.bmod_eq_of_le (by omega) (by omega)]
  omega
theorem xor8 (x : Int32) : 0 ≤ (x ^^^ 8) ↔ 0 ≤ x.toInt := by
  rw [Int32.le_iff_toInt_le, Int32.toInt_zero]
  have h1 := BitVec.msb_eq_toInt (x := (x ^^^ 8).toBitVec)
  have h2 := BitVec.msb_eq_toInt (x := x.toBitVec)
  rw [Int32.toBitVec_xor, BitVec.msb_xor, show (8 : Int32).toBitVec.msb = false from rfl, Bool.xor_false, h2] at h1
  have h3 : (x ^^^ 8).toInt < 0 ↔ x.toInt < 0 := by
    have h4 := decide_eq_decide.mp h1
    rw [← Int32.toBitVec_xor] at h4
    exact h4.symm
  omega
theorem floor8 (x : Int32) : f_floorMod x 8 = x &&& 7 := by
  rw [pk_and x 3 rfl]
  obtain ⟨r, h1, ⟨q, h2⟩, h3⟩ := rem8 x
  have hu : x.toInt = if x.toBitVec.toNat < 2 ^ 31 then (x.toBitVec.toNat : Int) else (x.toBitVec.toNat : Int) - 2 ^ 32 := by
    have := BitVec.toInt_eq_toNat_cond x.toBitVec
    have e : x.toInt = x.toBitVec.toInt := rfl
    rw [e, this]
    split <;> split <;> omega
  have hn := x.toBitVec.isLt
  generalize x.toBitVec.toNat = u at hu hn ⊢
  apply Int32.toInt_inj.mp
  rw [nI_toInt (by omega)]
  unfold f_floorMod
  by_cases c1 : 0 ≤ x ^^^ 8
  · rw [if_pos c1, h1]
    rw [xor8] at c1
    split at hu <;> omega
  · rw [if_neg c1]
    rw [xor8] at c1
    by_cases c2 : x - x / 8 * 8 = 0
    · rw [if_pos c2, h1]
      rw [c2, Int32.toInt_zero] at h1
      split at hu <;> omega
    · rw [if_neg c2]
      have c3 : r ≠ 0 := fun e => c2 (Int32.toInt_inj.mp (by rw [h1, e]; rfl))
      rw [Int32.toInt_add, h1, show (8 : Int32).toInt = 8 from rfl, Int.bmod_eq_of_le (by omega) (by omega)]
      split at hu <;> omega
theorem turned_rng (d tb : Int32) : rng (f_turned d tb) 8 := by
  unfold f_turned
  rw [floor8, pk_and _ 3 rfl]
  exact ⟨_, Nat.mod_lt _ (by decide), rfl⟩
theorem ok_hd {N : Nat} {g : SG} (h : OkN N g) (i : Nat) : rng (g 3 i 5) 8 := h.1.1 3 i 5
theorem ok_bd {N : Nat} {g : SG} (h : OkN N g) (k : Nat) : rng (g 12 k 3) 8 := h.1.1 12 k 3
