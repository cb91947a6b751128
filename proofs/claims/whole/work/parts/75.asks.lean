/-! SIMULATION: the methods that ask (mine) -/
theorem within_0 {v w : Int32} {m : Nat} (hw : w = nI m) (hm : m < 2 ^ 30) : (f_within v 0 (w - 1) = 0 ∧ (v < 0 ∨ (¬ v < 0 ∧ ¬ v < w))) ∨ (¬ f_within v 0 (w - 1) = 0 ∧ ¬ v < 0 ∧ v < w ∧ v = nI v.toNatClampNeg ∧ v.toNatClampNeg < m) := by
  by_cases c : f_within v 0 (w - 1) = 0
  · refine Or.inl ⟨c, ?_⟩
    by_cases c0 : v < 0
    · exact Or.inl c0
    · refine Or.inr ⟨c0, fun q => ?_⟩
      have h3 : (nI m - 1).toInt = (m : Int) - 1 := pk_sub_toInt (b := 1) hm (by decide)
      have h4 : (nI m).toInt = (m : Int) := nI_toInt (by omega)
      unfold f_within at c
      rw [if_neg c0, if_neg (by rw [hw, Int32.lt_iff_toInt_lt, h3]; rw [hw, Int32.lt_iff_toInt_lt, h4] at q; omega)] at c
      exact absurd c (by decide)
  · obtain ⟨h1, h2⟩ := within_le c
    have h3 : (nI m - 1).toInt = (m : Int) - 1 := pk_sub_toInt (b := 1) hm (by decide)
    have h4 : (nI m).toInt = (m : Int) := nI_toInt (by omega)
    have e0 : (0 : Int32).toInt = 0 := by decide
    have h5 := rng_j (within_rng hw hm c) (by omega)
    rw [hw, h3] at h2
    rw [e0] at h1
    exact Or.inr ⟨c, by rw [Int32.lt_iff_toInt_lt, e0]; omega, by rw [hw, Int32.lt_iff_toInt_lt, h4]; omega, h5.1, h5.2⟩
theorem s_measure {N M : Nat} {g r : SG} (ok : OkN N g) (h : TS N M g r) (tank what : Int32) : f_measure g tank what = f_Rmeasure r tank what := by
  have hN := ok.N.1
  unfold f_measure f_Rmeasure f_isTank
  rw [h.n0]
  rcases within_0 (v := tank) ok.N.2 (by omega) with ⟨c, c0 | ⟨c0, c1⟩⟩ | ⟨c, c0, c1, -, hi⟩
  · rw [if_pos c, if_pos c0]
  · rw [if_pos c, if_neg c0, if_neg c1]
  · rw [if_neg c, if_neg c0, if_pos c1]
    generalize tank.toNatClampNeg = i at hi ⊢
    have h4 : i < 4 := by omega
    rw [h.r8 h4, h.r9 h4, h.r13 h4, h.r15 h4, h.r16 h4, h.r14 h4, h.r20 h4, h.r25 h4 hi, show (-1000000 : Int64) = (-1000000 : Int32).toInt64 by decide]
    simp only [ite_push Int32.toInt64]
    rfl
theorem s_state {N M : Nat} {g r : SG} (ok : OkN N g) (h : TS N M g r) (tank what : Int32) : f_state g tank what = f_Rstate r tank what := by
  have hN := ok.N.1
  unfold f_state f_Rstate f_isTank
  rw [h.n0]
  rcases within_0 (v := tank) ok.N.2 (by omega) with ⟨c, c0 | ⟨c0, c1⟩⟩ | ⟨c, c0, c1, -, hi⟩
  · rw [if_pos c, if_pos c0]
  · rw [if_pos c, if_neg c0, if_neg c1]
  · rw [if_neg c, if_neg c0, if_pos c1]
    generalize tank.toNatClampNeg = i at hi ⊢
    have h4 : i < 4 := by omega
    rw [h.r10 h4, h.r11 h4, h.r12 h4, h.r21 h4, h.r19 h4, h.r17 h4, h.r24 h4 hi, h.r22 h4 hi, h.r23 h4 hi]
    unfold f_told
    by_cases c6 : what = 6
    · subst c6
      rw [show ((6 : Int32).toNatClampNeg - 6) = 0 by decide, h.r18 h4 (j := 0) (by decide)]
      rfl
    · by_cases c7 : what = 7
      · subst c7
        rw [show ((7 : Int32).toNatClampNeg - 6) = 1 by decide, h.r18 h4 (j := 1) (by decide)]
        rfl
      · simp only [if_neg c6, if_neg c7]
theorem there_L {r : SG} {F : Nat} (hF : F < 601) (hf : r 0 0 4 = nI F) : ∀ (n : Nat) (al : Int32) (i : Nat), i ≤ F → F + 1 ≤ i + n → L_Rthere r n al i = al + nI (lvf r (F - i) i).length := by
  intro n
  induction n with
  | zero => intro al i h1 h2; exfalso; omega
  | succ n ih =>
    intro al i h1 h2
    simp only [L_Rthere]
    rw [hf]
    by_cases c : nI F ≤ nI i
    · rw [if_pos c]
      have : F - i = 0 := by
        rcases Nat.lt_or_ge i F with q | q
        · exact absurd c (nI_ge q (by omega))
        · omega
      rw [this]
      show al = al + nI 0
      rw [show nI 0 = 0 from rfl, Int32.add_zero]
    · rw [if_neg c]
      have hi : i < F := by
        rcases Nat.lt_or_ge i F with q | q
        · exact q
        · exact absurd (nI_le q (by omega)) c
      rw [ih _ _ (by omega) (by omega), ih _ _ (by omega) (by omega), lvf_step hi]
      by_cases c2 : r 33 0 i = 0
      · rw [if_pos c2, if_pos c2, List.length_cons, ← nI_1, Int32.add_assoc, Int32.add_comm 1]
      · rw [if_neg c2, if_neg c2]
theorem s_count {N M F T : Nat} {birth ob ot : Nat → Nat} {g r : SG} (hT : T ≤ 514) (q : QR N M F T birth ob ot g r) (what : Int32) : f_count g what = f_Rcount r what := by
  obtain ⟨ok, ts, hf, hfl, pi, ti, bi, bl⟩ := q
  have hF := bi.fired ok.N.1 hT
  unfold f_count f_Rcount f_Rthere
  rw [ts.n0, ts.n1, ts.n2, ts.n3, s_alive ts ok, there_L (by omega) hf 601 0 0 (by omega) (by omega), hfl, Nat.sub_zero, Int32.zero_add]
def bval (r : SG) (what : Int32) (b : Nat) : Int32 := if what = 0 then r 28 0 b else if what = 1 then r 29 0 b else if what = 2 then r 30 0 b else if what = 3 then r 31 0 b else r 32 0 b
theorem bullet_L {r : SG} {F : Nat} {q what : Int32} (hF : F < 601) (hf : r 0 0 4 = nI F) : ∀ (n k i : Nat), k < 2 ^ 31 → i ≤ F → F + 1 ≤ i + n → L_Rbullet r q what n (nI k) i = match (lvf r (F - i) i)[k]? with | none => -1000000 | some b => bval r what b := by
  intro n
  induction n with
  | zero => intro k i _ h1 h2; exfalso; omega
  | succ n ih =>
    intro k i hk h1 h2
    simp only [L_Rbullet]
    rw [hf]
    by_cases c : nI F ≤ nI i
    · rw [if_pos c]
      have : F - i = 0 := by
        rcases Nat.lt_or_ge i F with q | q
        · exact absurd c (nI_ge q (by omega))
        · omega
      rw [this]
      rfl
    · rw [if_neg c]
      have hi : i < F := by
        rcases Nat.lt_or_ge i F with q | q
        · exact q
        · exact absurd (nI_le q (by omega)) c
      rw [lvf_step hi]
      by_cases c2 : r 33 0 i = 0
      · rw [if_pos c2, if_pos c2]
        cases k with
        | zero =>
          rw [if_pos (show nI 0 = 0 from rfl)]
          rfl
        | succ k =>
          rw [if_neg (show ¬ nI (k + 1) = 0 from fun x => by have := (nI_eq (a := k + 1) (b := 0) hk (by decide)).mp x; omega), pk_m1, ih k (i + 1) (by omega) (by omega) (by omega), List.getElem?_cons_succ]
      · rw [if_neg c2, if_neg c2]
        exact ih k (i + 1) hk (by omega) (by omega)
theorem BL_get {g r : SG} {b : Nat} : ∀ (xs : List Nat) (p k : Nat), BL g r p xs → xs[k]? = some b → BR g r (pl g (p + k)) b := by
  intro xs
  induction xs with
  | nil => intro p k _ h; cases h
  | cons x t ih =>
    intro p k hb h
    cases k with
    | zero =>
      have : x = b := by simpa using h
      subst this
      exact hb.1
    | succ k =>
      rw [List.getElem?_cons_succ] at h
      have := ih (p + 1) k hb.2 h
      rwa [show p + 1 + k = p + (k + 1) by omega] at this
theorem s_bullet {N M F T : Nat} {birth ob ot : Nat → Nat} {g r : SG} (hT : T ≤ 514) (q : QR N M F T birth ob ot g r) (no what : Int32) : f_bullet g no what = f_Rbullet r no what := by
  obtain ⟨ok, ts, hf, hfl, pi, ti, bi, bl⟩ := q
  have hF := bi.fired ok.N.1 hT
  have hl := bi.live ok.N.1
  unfold f_bullet f_Rbullet
  rcases within_0 (v := no) hfl (by omega) with ⟨c, c0 | ⟨c0, c1⟩⟩ | ⟨c, c0, c1, en, hi⟩
  · rw [if_pos c, if_pos c0]
  · rw [if_pos c, if_neg c0]
    have hb := i32_b no
    have e0 : (0 : Int32).toInt = 0 := by decide
    have h0 : 0 ≤ no.toInt := by rw [Int32.lt_iff_toInt_lt, e0] at c0; omega
    obtain ⟨k, hk, rfl⟩ := rng_of (m := 2 ^ 31) h0 (by omega) (by omega)
    rw [bullet_L (by omega) hf 601 k 0 hk (by omega) (by omega), Nat.sub_zero]
    have hge : (lvf r F 0).length ≤ k := by
      rcases Nat.lt_or_ge k (lvf r F 0).length with x | x
      · exact absurd (by rw [hfl]; exact nI_lt x (by omega)) c1
      · exact x
    rw [List.getElem?_eq_none hge]
    simp only [ite_self]
  · rw [if_neg c, if_neg c0, en, nI_clamp (by omega)]
    generalize no.toNatClampNeg = k at hi ⊢
    rw [bullet_L (by omega) hf 601 k 0 (by omega) (by omega) (by omega), Nat.sub_zero, List.getElem?_eq_getElem hi]
    have hbr := BL_get _ 0 k bl (List.getElem?_eq_getElem hi)
    rw [Nat.zero_add] at hbr
    generalize (lvf r F 0)[k] = b at hbr ⊢
    obtain ⟨z0, z1, z2, z3, z4⟩ := hbr
    show f_btold g (pl g k) what = if what < 0 then -1000000 else if what ≤ 4 then bval r what b else -1000000
    unfold f_btold bval
    rw [z0, z1, z2, z3, z4]
    have e0 : (0 : Int32).toInt = 0 := by decide
    have e1 : (1 : Int32).toInt = 1 := by decide
    have e2 : (2 : Int32).toInt = 2 := by decide
    have e3 : (3 : Int32).toInt = 3 := by decide
    have e4 : (4 : Int32).toInt = 4 := by decide
    by_cases w0 : what = 0
    · subst w0; rfl
    · by_cases w1 : what = 1
      · subst w1; rfl
      · by_cases w2 : what = 2
        · subst w2; rfl
        · by_cases w3 : what = 3
          · subst w3; rfl
          · by_cases w4 : what = 4
            · subst w4; rfl
            · rw [if_neg w0, if_neg w1, if_neg w2, if_neg w3, if_neg w4, if_neg w0, if_neg w1, if_neg w2, if_neg w3]
              have n0 := neI 0 e0 w0
              have n1 := neI 1 e1 w1
              have n2 := neI 2 e2 w2
              have n3 := neI 3 e3 w3
              have n4 := neI 4 e4 w4
              by_cases a : what < 0
              · rw [if_pos a]
              · rw [if_neg a, if_neg (by rw [Int32.le_iff_toInt_le, e4]; rw [Int32.lt_iff_toInt_lt, e0] at a; omega)]
