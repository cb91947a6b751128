/-! SIMULATION: guns fire (mine) -/
theorem canFire_eq {N M : Nat} {g r : SG} {i : Nat} (hi : i < 4) (hM : i < M) (ok : OkN N g) (hh : 0 ≤ (g 3 i 11).toInt) (h : TS N M g r) : (f_canFire g i = 0 → g_Rfire r i = r) ∧ (¬ f_canFire g i = 0 → 1 ≤ (g 10 i 3).toInt ∧ (g 3 i 11) = 0 ∧ g_Rfire r i = up3 (up3 (up3 (up3 (up3 (up3 (up3 (up3 (up3 (up3 r 15 0 i (g 3 i 10 - g 10 i 3 * 8)) 16 0 i (8 + g 10 i 3 * 2)) 28 0 (r 0 0 4).toNatClampNeg (g 3 i 3)) 29 0 (r 0 0 4).toNatClampNeg (g 3 i 4)) 30 0 (r 0 0 4).toNatClampNeg (g 10 i 3)) 31 0 (r 0 0 4).toNatClampNeg (g 3 i 6)) 32 0 (r 0 0 4).toNatClampNeg (nI i)) 33 0 (r 0 0 4).toNatClampNeg 0) 0 0 4 (r 0 0 4 + 1)) 0 0 2 (g 0 0 3 + 1)) := by
  have hp := rng_int (show rng (g 10 i 3) 4 from ok.1.1 10 i 3) (by decide)
  have e0 : (0 : Int32).toInt = 0 := by decide
  unfold f_canFire g_Rfire
  rw [h.r27 hi hM, h.r16 hi, h.r15 hi, h.r8 hi, h.r9 hi, h.r11 hi, h.n2, Int32.mul_comm 8 (g 10 i 3), Int32.mul_comm 2 (g 10 i 3)]
  by_cases c1 : g 10 i 3 = 0
  · rw [if_pos (by rw [c1]; decide), if_pos c1]
    exact ⟨fun _ => rfl, fun q => absurd rfl q⟩
  · have n1 := neI 0 e0 c1
    rw [if_neg (show ¬ g 10 i 3 ≤ 0 by rw [Int32.le_iff_toInt_le, e0]; omega), if_neg c1]
    by_cases c2 : g 3 i 11 = 0
    · rw [if_pos c2, if_neg (show ¬ 0 < g 3 i 11 by rw [c2]; decide)]
      by_cases c3 : g 3 i 10 ≤ g 10 i 3 * 8
      · rw [if_pos c3, if_neg (show ¬ g 10 i 3 * 8 < g 3 i 10 by rw [Int32.lt_iff_toInt_lt]; rw [Int32.le_iff_toInt_le] at c3; omega)]
        exact ⟨fun _ => rfl, fun q => absurd rfl q⟩
      · rw [if_neg c3, if_pos (show g 10 i 3 * 8 < g 3 i 10 by rw [Int32.lt_iff_toInt_lt]; rw [Int32.le_iff_toInt_le] at c3; omega)]
        exact ⟨fun q => absurd q (by decide), fun _ => ⟨by omega, c2, rfl⟩⟩
    · have n2 := neI 0 e0 c2
      rw [if_neg c2, if_pos (show 0 < g 3 i 11 by rw [Int32.lt_iff_toInt_lt, e0]; omega)]
      exact ⟨fun _ => rfl, fun q => absurd rfl q⟩
theorem fire_g {g : SG} {i k L : Nat} (hk : ((g 2 0 ((g 0 0 2).toNatClampNeg)).toNatClampNeg) = k) (hL : g 0 0 2 = nI L) : g_fire g i = up3 (up3 (up3 (up3 (up3 (up3 (up3 (up3 (up3 g 3 i 10 (g 3 i 10 - g 10 i 3 * 8)) 3 i 11 (8 + g 10 i 3 * 2)) 12 k 0 (g 3 i 3)) 12 k 1 (g 3 i 4)) 12 k 2 (g 10 i 3)) 12 k 3 (g 3 i 6)) 12 k 4 (nI i)) 0 0 2 (nI (L + 1))) 0 0 3 (g 0 0 3 + 1) := by
  unfold g_fire g_leave
  rw [hk]
  have e1 : ∀ v w : Int32, up3 (up3 g 3 i 10 v) 3 i 11 w 3 i 3 = g 3 i 3 := fun v w => by simp [up3]
  have e2 : ∀ v w : Int32, up3 (up3 g 3 i 10 v) 3 i 11 w 3 i 4 = g 3 i 4 := fun v w => by simp [up3]
  have e3 : ∀ v w : Int32, up3 (up3 g 3 i 10 v) 3 i 11 w 10 i 3 = g 10 i 3 := fun v w => by simp [up3]
  have e4 : ∀ v w : Int32, up3 (up3 g 3 i 10 v) 3 i 11 w 3 i 6 = g 3 i 6 := fun v w => by simp [up3]
  simp only [e1, e2, e3, e4]
  have e5 : ∀ a b c d e f h : Int32, up3 (up3 (up3 (up3 (up3 (up3 (up3 g 3 i 10 a) 3 i 11 b) 12 k 0 c) 12 k 1 d) 12 k 2 e) 12 k 3 f) 12 k 4 h 0 0 2 = g 0 0 2 := fun a b c d e f h => by simp [up3]
  have e6 : ∀ a b c d e f h : Int32, up3 (up3 (up3 (up3 (up3 (up3 (up3 g 3 i 10 a) 3 i 11 b) 12 k 0 c) 12 k 1 d) 12 k 2 e) 12 k 3 f) 12 k 4 h 0 0 3 = g 0 0 3 := fun a b c d e f h => by simp [up3]
  rw [e5, e6, hL, nI_1]
theorem s_fire {N M F T : Nat} {birth : Nat → Nat} {g r : SG} {i : Nat} (hi : i < 4) (hiN : i < N) (hM : i < M) (hT : T ≤ 514) (ha : ¬ g 3 i 13 = 0) (q : QR N M F T birth (fun _ => 0) (fun _ => 0) g r) (hc : ¬ f_canFire g i = 0) : ¬ 16 ≤ g 0 0 2 ∧ QR N M (F + 1) T (fun b => if b = F then T else birth b) (fun _ => 0) (fun _ => 0) (g_fire g i) (g_Rfire r i) := by
  obtain ⟨ok, ts, hf, hfl, pi, ti, bi, bl⟩ := q
  have hN := ok.N.1
  have hF := bi.fired hN hT
  have hl := bi.live hN
  obtain ⟨hp1, hh0, er⟩ := (canFire_eq hi hM ok (ti.ht i hiN).1 ts).2 hc
  have hp := rng_int (show rng (g 10 i 3) 4 from ok.1.1 10 i 3) (by decide)
  have hcl : (r 0 0 4).toNatClampNeg = F := by rw [hf, nI_clamp (by omega)]
  rw [er, hcl, hf, nI_1]
  obtain ⟨L, eL⟩ : ∃ L, (lvf r F 0).length = L := ⟨_, rfl⟩
  rw [eL] at hl hfl
  have hk : (g 2 0 (g 0 0 2).toNatClampNeg).toNatClampNeg = pl g L := by rw [hfl, nI_clamp (by omega)]; rfl
  have okf := ok_g_fire ok i ⟨L, by omega, hfl⟩ hi
  rw [fire_g hk hfl] at okf ⊢
  refine ⟨by rw [hfl, show (16 : Int32) = nI 16 from rfl, nI_leI (by omega) (by omega)]; omega, ?_⟩
  have hk16 := pl16 ok L
  -- the class's new state
  have g1 : ∀ a b c, (a ≠ 12 ∨ b ≠ pl g L) → ¬ (a = 3 ∧ b = i ∧ (c = 10 ∨ c = 11)) → ¬ (a = 0 ∧ (c = 2 ∨ c = 3)) → up3 (up3 (up3 (up3 (up3 (up3 (up3 (up3 (up3 g 3 i 10 (g 3 i 10 - g 10 i 3 * 8)) 3 i 11 (8 + g 10 i 3 * 2)) 12 (pl g L) 0 (g 3 i 3)) 12 (pl g L) 1 (g 3 i 4)) 12 (pl g L) 2 (g 10 i 3)) 12 (pl g L) 3 (g 3 i 6)) 12 (pl g L) 4 (nI i)) 0 0 2 (nI (L + 1))) 0 0 3 (g 0 0 3 + 1) a b c = g a b c := fun a b c h1 h2 h3 => by
    simp only [up3_at]
    repeat rw [if_neg (by omega)]
  have gh : up3 (up3 (up3 (up3 (up3 (up3 (up3 (up3 (up3 g 3 i 10 (g 3 i 10 - g 10 i 3 * 8)) 3 i 11 (8 + g 10 i 3 * 2)) 12 (pl g L) 0 (g 3 i 3)) 12 (pl g L) 1 (g 3 i 4)) 12 (pl g L) 2 (g 10 i 3)) 12 (pl g L) 3 (g 3 i 6)) 12 (pl g L) 4 (nI i)) 0 0 2 (nI (L + 1))) 0 0 3 (g 0 0 3 + 1) 3 i 11 = 8 + g 10 i 3 * 2 := by simp [up3]
  have gl : up3 (up3 (up3 (up3 (up3 (up3 (up3 (up3 (up3 g 3 i 10 (g 3 i 10 - g 10 i 3 * 8)) 3 i 11 (8 + g 10 i 3 * 2)) 12 (pl g L) 0 (g 3 i 3)) 12 (pl g L) 1 (g 3 i 4)) 12 (pl g L) 2 (g 10 i 3)) 12 (pl g L) 3 (g 3 i 6)) 12 (pl g L) 4 (nI i)) 0 0 2 (nI (L + 1))) 0 0 3 (g 0 0 3 + 1) 0 0 2 = nI (L + 1) := by simp [up3]
  have gb : up3 (up3 (up3 (up3 (up3 (up3 (up3 (up3 (up3 g 3 i 10 (g 3 i 10 - g 10 i 3 * 8)) 3 i 11 (8 + g 10 i 3 * 2)) 12 (pl g L) 0 (g 3 i 3)) 12 (pl g L) 1 (g 3 i 4)) 12 (pl g L) 2 (g 10 i 3)) 12 (pl g L) 3 (g 3 i 6)) 12 (pl g L) 4 (nI i)) 0 0 2 (nI (L + 1))) 0 0 3 (g 0 0 3 + 1) 12 (pl g L) = fun c => if c = 0 then g 3 i 3 else if c = 1 then g 3 i 4 else if c = 2 then g 10 i 3 else if c = 3 then g 3 i 6 else if c = 4 then nI i else g 12 (pl g L) c := by
    funext c
    simp only [up3_at]
    by_cases c0 : c = 0
    · subst c0; simp
    · by_cases c1 : c = 1
      · subst c1; simp
      · by_cases c2 : c = 2
        · subst c2; simp
        · by_cases c3 : c = 3
          · subst c3; simp
          · by_cases c4 : c = 4
            · subst c4; simp
            · simp [c0, c1, c2, c3, c4]
  have r1 : ∀ a c, 28 ≤ a → c ≠ F → up3 (up3 (up3 (up3 (up3 (up3 (up3 (up3 (up3 (up3 r 15 0 i (g 3 i 10 - g 10 i 3 * 8)) 16 0 i (8 + g 10 i 3 * 2)) 28 0 F (g 3 i 3)) 29 0 F (g 3 i 4)) 30 0 F (g 10 i 3)) 31 0 F (g 3 i 6)) 32 0 F (nI i)) 33 0 F 0) 0 0 4 (nI (F + 1))) 0 0 2 (g 0 0 3 + 1) a 0 c = r a 0 c := fun a c h1 h2 => by
    simp only [up3_at]
    repeat rw [if_neg (by omega)]
  have r28 : up3 (up3 (up3 (up3 (up3 (up3 (up3 (up3 (up3 (up3 r 15 0 i (g 3 i 10 - g 10 i 3 * 8)) 16 0 i (8 + g 10 i 3 * 2)) 28 0 F (g 3 i 3)) 29 0 F (g 3 i 4)) 30 0 F (g 10 i 3)) 31 0 F (g 3 i 6)) 32 0 F (nI i)) 33 0 F 0) 0 0 4 (nI (F + 1))) 0 0 2 (g 0 0 3 + 1) 28 0 F = g 3 i 3 := by simp [up3]
  have r29 : up3 (up3 (up3 (up3 (up3 (up3 (up3 (up3 (up3 (up3 r 15 0 i (g 3 i 10 - g 10 i 3 * 8)) 16 0 i (8 + g 10 i 3 * 2)) 28 0 F (g 3 i 3)) 29 0 F (g 3 i 4)) 30 0 F (g 10 i 3)) 31 0 F (g 3 i 6)) 32 0 F (nI i)) 33 0 F 0) 0 0 4 (nI (F + 1))) 0 0 2 (g 0 0 3 + 1) 29 0 F = g 3 i 4 := by simp [up3]
  have r30 : up3 (up3 (up3 (up3 (up3 (up3 (up3 (up3 (up3 (up3 r 15 0 i (g 3 i 10 - g 10 i 3 * 8)) 16 0 i (8 + g 10 i 3 * 2)) 28 0 F (g 3 i 3)) 29 0 F (g 3 i 4)) 30 0 F (g 10 i 3)) 31 0 F (g 3 i 6)) 32 0 F (nI i)) 33 0 F 0) 0 0 4 (nI (F + 1))) 0 0 2 (g 0 0 3 + 1) 30 0 F = g 10 i 3 := by simp [up3]
  have r31 : up3 (up3 (up3 (up3 (up3 (up3 (up3 (up3 (up3 (up3 r 15 0 i (g 3 i 10 - g 10 i 3 * 8)) 16 0 i (8 + g 10 i 3 * 2)) 28 0 F (g 3 i 3)) 29 0 F (g 3 i 4)) 30 0 F (g 10 i 3)) 31 0 F (g 3 i 6)) 32 0 F (nI i)) 33 0 F 0) 0 0 4 (nI (F + 1))) 0 0 2 (g 0 0 3 + 1) 31 0 F = g 3 i 6 := by simp [up3]
  have r32 : up3 (up3 (up3 (up3 (up3 (up3 (up3 (up3 (up3 (up3 r 15 0 i (g 3 i 10 - g 10 i 3 * 8)) 16 0 i (8 + g 10 i 3 * 2)) 28 0 F (g 3 i 3)) 29 0 F (g 3 i 4)) 30 0 F (g 10 i 3)) 31 0 F (g 3 i 6)) 32 0 F (nI i)) 33 0 F 0) 0 0 4 (nI (F + 1))) 0 0 2 (g 0 0 3 + 1) 32 0 F = nI i := by simp [up3]
  have r33 : up3 (up3 (up3 (up3 (up3 (up3 (up3 (up3 (up3 (up3 r 15 0 i (g 3 i 10 - g 10 i 3 * 8)) 16 0 i (8 + g 10 i 3 * 2)) 28 0 F (g 3 i 3)) 29 0 F (g 3 i 4)) 30 0 F (g 10 i 3)) 31 0 F (g 3 i 6)) 32 0 F (nI i)) 33 0 F 0) 0 0 4 (nI (F + 1))) 0 0 2 (g 0 0 3 + 1) 33 0 F = 0 := by simp [up3]
  have r4 : up3 (up3 (up3 (up3 (up3 (up3 (up3 (up3 (up3 (up3 r 15 0 i (g 3 i 10 - g 10 i 3 * 8)) 16 0 i (8 + g 10 i 3 * 2)) 28 0 F (g 3 i 3)) 29 0 F (g 3 i 4)) 30 0 F (g 10 i 3)) 31 0 F (g 3 i 6)) 32 0 F (nI i)) 33 0 F 0) 0 0 4 (nI (F + 1))) 0 0 2 (g 0 0 3 + 1) 0 0 4 = nI (F + 1) := by simp [up3]
  have ts1 : TS N M (up3 (up3 (up3 (up3 (up3 (up3 (up3 (up3 (up3 g 3 i 10 (g 3 i 10 - g 10 i 3 * 8)) 3 i 11 (8 + g 10 i 3 * 2)) 12 (pl g L) 0 (g 3 i 3)) 12 (pl g L) 1 (g 3 i 4)) 12 (pl g L) 2 (g 10 i 3)) 12 (pl g L) 3 (g 3 i 6)) 12 (pl g L) 4 (nI i)) 0 0 2 (nI (L + 1))) 0 0 3 (g 0 0 3 + 1)) (up3 (up3 (up3 (up3 (up3 (up3 (up3 (up3 (up3 (up3 r 15 0 i (g 3 i 10 - g 10 i 3 * 8)) 16 0 i (8 + g 10 i 3 * 2)) 28 0 F (g 3 i 3)) 29 0 F (g 3 i 4)) 30 0 F (g 10 i 3)) 31 0 F (g 3 i 6)) 32 0 F (nI i)) 33 0 F 0) 0 0 4 (nI (F + 1))) 0 0 2 (g 0 0 3 + 1)) := by
    refine TS.up (k := 0) (i := 0) (j := 3) rfl rfl rfl ?_ rfl
    refine TS.upC rfl (TS.upC rfl (TS.upC rfl (TS.upC rfl (TS.upC rfl (TS.upC rfl ?_)))))
    refine TS.upR (Or.inr ⟨rfl, Nat.le_refl _⟩) (TS.upR (Or.inl (by decide)) (TS.upR (Or.inl (by decide)) (TS.upR (Or.inl (by decide)) (TS.upR (Or.inl (by decide)) (TS.upR (Or.inl (by decide)) (TS.upR (Or.inl (by decide)) ?_))))))
    refine TS.up (dm3 hi (by decide)) rfl rfl ?_ rfl
    exact TS.up (dm3 hi (by decide)) rfl rfl ts rfl
  generalize up3 (up3 (up3 (up3 (up3 (up3 (up3 (up3 (up3 g 3 i 10 (g 3 i 10 - g 10 i 3 * 8)) 3 i 11 (8 + g 10 i 3 * 2)) 12 (pl g L) 0 (g 3 i 3)) 12 (pl g L) 1 (g 3 i 4)) 12 (pl g L) 2 (g 10 i 3)) 12 (pl g L) 3 (g 3 i 6)) 12 (pl g L) 4 (nI i)) 0 0 2 (nI (L + 1))) 0 0 3 (g 0 0 3 + 1) = G at okf g1 gh gl gb ts1 ⊢
  generalize up3 (up3 (up3 (up3 (up3 (up3 (up3 (up3 (up3 (up3 r 15 0 i (g 3 i 10 - g 10 i 3 * 8)) 16 0 i (8 + g 10 i 3 * 2)) 28 0 F (g 3 i 3)) 29 0 F (g 3 i 4)) 30 0 F (g 10 i 3)) 31 0 F (g 3 i 6)) 32 0 F (nI i)) 33 0 F 0) 0 0 4 (nI (F + 1))) 0 0 2 (g 0 0 3 + 1) = R at r1 r28 r29 r30 r31 r32 r33 r4 ts1 ⊢
  have el : lvf R (F + 1) 0 = lvf r F 0 ++ [F] := by
    rw [lvf_snoc, Nat.zero_add, if_pos r33, lvf_congr F 0 (fun c _ hc => by rw [r1 33 c (by decide) (by omega)])]
  have ep : ∀ p, pl G p = pl g p := fun p => by unfold pl; rw [g1 2 0 p (Or.inl (by decide)) (by omega) (by omega)]
  have hv : (8 + g 10 i 3 * 2).toInt = 8 + (g 10 i 3).toInt * 2 := i32_add (by decide) (i32_mul rfl (by decide) (by omega) (by omega)) (by omega) (by omega)
  have oF : own R F = i := by unfold own; rw [r32, nI_clamp (by omega)]
  have oo : ∀ c, c ≠ F → own R c = own r c := fun c hc => by unfold own; rw [r1 32 c (by decide) hc]
  refine ⟨okf, ts1, r4, ?_, fun p q hp hq e => pi p q hp hq (by rw [← ep, ← ep]; exact e), ?_, ?_, ?_⟩
  · rw [gl, el, List.length_append, eL]; rfl
  · refine ⟨fun j hj => ?_, fun j hj => ?_, fun j hj => ?_, fun j k hj hk hjk a b => ?_⟩
    · rw [g1 3 j 3 (Or.inl (by decide)) (by omega) (by omega)]; exact ti.px j hj
    · rw [g1 3 j 4 (Or.inl (by decide)) (by omega) (by omega)]; exact ti.py j hj
    · by_cases e : j = i
      · subst e
        rw [gh, hv]
        omega
      · rw [g1 3 j 11 (Or.inl (by decide)) (by omega) (by omega)]; exact ti.ht j hj
    · rw [g1 3 j 13 (Or.inl (by decide)) (by omega) (by omega)] at a
      rw [g1 3 k 13 (Or.inl (by decide)) (by omega) (by omega)] at b
      rw [g1 3 j 3 (Or.inl (by decide)) (by omega) (by omega), g1 3 k 3 (Or.inl (by decide)) (by omega) (by omega), g1 3 j 4 (Or.inl (by decide)) (by omega) (by omega), g1 3 k 4 (Or.inl (by decide)) (by omega) (by omega)]
      exact ti.np j k hj hk hjk a b
  · obtain ⟨b1, b2, b3, b4⟩ := bi
    refine ⟨fun b hb => ?_, fun b c hbc hc e => ?_, fun b hb hal => ?_, fun b hb hlv => ?_⟩
    · by_cases e : b = F
      · subst e
        dsimp only
        rw [if_pos rfl, oF]
        exact ⟨Nat.le_refl _, hiN⟩
      · dsimp only
        rw [if_neg e, oo b e]
        exact b1 b (by omega)
    · have hbF : b ≠ F := by omega
      dsimp only
      rw [if_neg hbF]
      by_cases e2 : c = F
      · subst e2
        rw [if_pos rfl]
        rw [oo b hbF, oF] at e
        have h3 := b3 b hbc (by rw [e]; exact ha)
        have h1 := b1 b hbc
        rw [e, hh0] at h3
        dsimp only at h3
        rw [show (0 : Int32).toInt = 0 by decide] at h3
        omega
      · rw [if_neg e2]
        rw [oo b hbF, oo c e2] at e
        exact b2 b c hbc (by omega) e
    · by_cases e : b = F
      · subst e
        rw [oF, gh, hv]
        dsimp only
        rw [if_pos rfl]
        omega
      · rw [oo b e] at hal ⊢
        rw [g1 3 _ 13 (Or.inl (by decide)) (by omega) (by omega)] at hal
        have h3 := b3 b (by omega) hal
        dsimp only at h3 ⊢
        rw [if_neg e]
        by_cases e2 : own r b = i
        · rw [e2, gh, hv]
          rw [e2, hh0, show (0 : Int32).toInt = 0 by decide] at h3
          omega
        · rw [g1 3 _ 11 (Or.inl (by decide)) (by omega) (by omega)]
          exact h3
    · by_cases e : b = F
      · subst e
        rw [r30, r31, r28, r29]
        refine ⟨hp1, ok.1.1 3 i 6, ?_⟩
        have f1 := ti.px i hiN
        have f2 := ti.py i hiN
        unfold inF at f1 f2
        dsimp only
        rw [if_pos rfl]
        refine ⟨by omega, by omega, fun _ => by omega, fun _ => by omega, fun _ => by omega, fun _ => by omega⟩
      · rw [r1 33 b (by decide) e] at hlv
        have h4 := b4 b (by omega) hlv
        rw [r1 30 b (by decide) e, r1 31 b (by decide) e, r1 28 b (by decide) e, r1 29 b (by decide) e]
        dsimp only at h4 ⊢
        rw [if_neg e]
        exact h4
  · rw [el]
    refine (BL_snoc _ _).mpr ⟨?_, ?_⟩
    · refine BL_congr _ _ (fun q _ hq => ⟨ep q, fun f => g1 12 _ f (Or.inr (fun x => ?_)) (by omega) (by omega)⟩) (fun b hb k hk1 _ => r1 k b (by omega) ?_) bl
      · have := pi q L (by omega) (by omega) x
        omega
      · have := (lvf_mem F 0).mp hb
        omega
    · rw [Nat.zero_add, eL, ep]
      unfold BR
      rw [gb, r28, r29, r30, r31, r32]
      exact ⟨rfl, rfl, rfl, rfl, rfl⟩
theorem ph3_L {N T : Nat} (hT : T ≤ 514) : ∀ (n i F : Nat) (birth : Nat → Nat) (g r : SG), i ≤ N → i + n < 100 → N + 1 ≤ i + n → QR N N F T birth (fun _ => 0) (fun _ => 0) g r → (∀ j, j < N → g 11 j 2 = 4) → ∃ r' F' birth', L_Rt3 n i r = L_Rt4 601 0 r' ∧ QR N N F' T birth' (fun _ => 0) (fun _ => 0) (L_fireGuns n i g) r' ∧ ∀ j, j < N → L_fireGuns n i g 11 j 2 = 4 := by
  intro n
  induction n with
  | zero => intro i F birth g r h0 h1 h2; exfalso; omega
  | succ n ih =>
    intro i F birth g r h0 h1 h2 q hs
    have ok := q.1
    have ts := q.2.1
    have ti := q.2.2.2.2.2.1
    simp only [L_Rt3, L_fireGuns]
    rw [ts.n0]
    by_cases c : g 0 0 0 ≤ nI i
    · rw [if_pos c, if_pos c]
      exact ⟨r, F, birth, rfl, q, hs⟩
    · rw [if_neg c, if_neg c]
      obtain ⟨hiN, hi⟩ := nlt4 ok.N.1 ok.N.2 c (by omega)
      rw [ts.r21 hi]
      by_cases c2 : g 3 i 13 = 0
      · rw [if_pos c2, if_pos c2]
        exact ih (i + 1) F birth _ _ (by omega) (by omega) (by omega) q hs
      · rw [if_neg c2, if_neg c2]
        by_cases c3 : f_canFire g i = 0
        · rw [if_pos c3, (canFire_eq hi hiN ok (ti.ht i hiN).1 ts).1 c3]
          exact ih (i + 1) F birth _ _ (by omega) (by omega) (by omega) q hs
        · obtain ⟨c4, q'⟩ := s_fire hi hiN hiN hT c2 q c3
          rw [if_neg c3, if_neg c4]
          refine ih (i + 1) _ _ _ _ (by omega) (by omega) (by omega) q' (fun j hj => ?_)
          rw [← hs j hj]
          unfold g_fire g_leave
          simp [up3]
