/-! SIMULATION: restart (mine) -/
def HI (N : Nat) (g : SG) : Prop := (∀ i, i < N → inF (g 3 i 0) ∧ inF (g 3 i 1)) ∧ ∀ i j, i < N → j < N → i ≠ j → ¬ (g 3 j 0 = g 3 i 0 ∧ g 3 j 1 = g 3 i 1)
theorem HI.same {N : Nat} {g g' : SG} (h : HI N g) (hs : ∀ i c, c < 3 → g' 3 i c = g 3 i c) : HI N g' := by
  refine ⟨fun i hi => ?_, fun i j hi hj hij => ?_⟩
  · rw [hs _ _ (by decide), hs _ _ (by decide)]; exact h.1 i hi
  · rw [hs _ _ (by decide), hs _ _ (by decide), hs _ _ (by decide), hs _ _ (by decide)]; exact h.2 i j hi hj hij
theorem anew_Z {g : SG} {i j : Nat} {v : Int32} : g_anew (up3 g 0 0 j v) i = up3 (g_anew g i) 0 0 j v := by
  have e : ∀ x, up3 g 0 0 j v 3 i x = g 3 i x := fun x => by rw [up3_at, if_neg (by omega)]
  funext a b c
  unfold g_anew g_rclear g_oclear g_pclear
  simp only [e]
  by_cases h0 : a = 0 ∧ c = j ∧ b = 0
  · simp only [up3_at]
    obtain ⟨h1, h2, h3⟩ := h0
    subst h1; subst h2; subst h3
    simp
  · simp only [up3_at, if_neg h0]
theorem anew_o {g : SG} {i a b c : Nat} (h : b ≠ i ∨ (a ≠ 3 ∧ a ≠ 8 ∧ a ≠ 9 ∧ a ≠ 10 ∧ a ≠ 11) ∨ (a = 3 ∧ c < 3)) : g_anew g i a b c = g a b c := by
  unfold g_anew g_rclear g_oclear g_pclear
  simp only [up3_at]
  repeat rw [if_neg (by omega)]
/-- a tank that has been set at its home -/
def HP (b : Nat) (g : SG) : Prop := g 3 b 3 = g 3 b 0 ∧ g 3 b 4 = g 3 b 1 ∧ g 3 b 11 = 24 ∧ g 3 b 13 = 1 ∧ g 11 b 2 = 4
theorem HP.same {b : Nat} {g g' : SG} (h : HP b g) (hs : ∀ a c, a = 3 ∨ a = 11 → g' a b c = g a b c) : HP b g' := by
  unfold HP
  rw [hs 3 3 (by omega), hs 3 4 (by omega), hs 3 0 (by omega), hs 3 1 (by omega), hs 3 11 (by omega), hs 3 13 (by omega), hs 11 2 (by omega)]
  exact h
theorem anew_i (g : SG) (i : Nat) : HP i (g_anew g i) := by
  unfold HP
  rw [anew_o (c := 0) (by omega), anew_o (c := 1) (by omega)]
  unfold g_anew g_rclear g_oclear g_pclear
  simp [up3]
def Z4 (g : SG) : SG := up3 (up3 (up3 (up3 g 0 0 1 0) 0 0 2 0) 0 0 3 0) 0 0 4 0
theorem Z4_o {g : SG} {a b c : Nat} (h : a ≠ 0 ∨ c = 0 ∨ 5 ≤ c) : Z4 g a b c = g a b c := by
  unfold Z4
  simp only [up3_at]
  repeat rw [if_neg (by omega)]
theorem Rreset_k {r : SG} {t a c : Nat} (h : a = 0 ∨ 26 ≤ a) : g_Rreset r t a 0 c = r a 0 c := by
  unfold g_Rreset
  rw [Rforget_k (by omega)]
  simp only [up3_at]
  repeat rw [if_neg (by omega)]
theorem restart_L {N : Nat} {made : Int32} : ∀ (n i : Nat) (g r : SG), i ≤ N → i + n < 100 → N + 1 ≤ i + n → OkN N g → TS N 0 (Z4 g) r → (∀ b, b < i → HP b g) →
    (L_restart n made i g).1 = made ∧ (L_Rrestart n made i r).1 = made ∧ TS N 0 (L_restart n made i g).2 (L_Rrestart n made i r).2 ∧ (∀ b, b < N → HP b (L_restart n made i g).2) ∧ (∀ b c, c < 3 → (L_restart n made i g).2 3 b c = g 3 b c) ∧ (∀ a b c, a = 2 ∨ a = 12 → (L_restart n made i g).2 a b c = g a b c) ∧ (L_restart n made i g).2 0 0 1 = 0 ∧ (L_restart n made i g).2 0 0 2 = 0 ∧ ∀ a c, a = 0 ∨ 26 ≤ a → (L_Rrestart n made i r).2 a 0 c = r a 0 c := by
  intro n
  induction n with
  | zero => intro i g r h0 h1 h2; exfalso; omega
  | succ n ih =>
    intro i g r h0 h1 h2 ok ts hp
    have e0 : r 0 0 0 = g 0 0 0 := by rw [ts.n0, Z4_o (by omega)]
    simp only [L_restart, L_Rrestart]
    rw [e0]
    by_cases c : g 0 0 0 ≤ nI i
    · rw [if_pos c, if_pos c]
      have : i = N := by
        rcases Nat.lt_or_ge i N with x | x
        · exact absurd (by rw [ok.N.2] at c; exact c) (nI_ge x (by have := ok.N.1; omega))
        · omega
      subst this
      have hz : ∀ a b c, a ≠ 0 → Z4 g a b c = g a b c := fun a b c h => Z4_o (Or.inl h)
      exact ⟨rfl, rfl, ts, fun b hb => (hp b hb).same (fun a c h => hz a b c (by omega)), fun b c _ => hz 3 b c (by decide), fun a b c h => hz a b c (by omega), rfl, rfl, fun _ _ _ => rfl⟩
    · rw [if_neg c, if_neg c]
      obtain ⟨hiN, hi⟩ := nlt4 ok.N.1 ok.N.2 c (by omega)
      have ts1 : TS N 0 (Z4 (g_anew g i)) (g_Rreset r i) := by
        have e1 : Z4 (g_anew g i) = g_anew (Z4 g) i := by unfold Z4; rw [anew_Z, anew_Z, anew_Z, anew_Z]
        rw [e1]
        exact s_anew hi (Nat.zero_le _) ts
      obtain ⟨a1, a2, a3, a4, a5, a6, a7, a8, a9⟩ := ih (i + 1) (g_anew g i) (g_Rreset r i) (by omega) (by omega) (by omega) (ok_g_anew ok i) ts1 (fun b hb => by
        by_cases e : b = i
        · subst e; exact anew_i g b
        · exact (hp b (by omega)).same (fun a c _ => anew_o (Or.inl e)))
      exact ⟨a1, a2, a3, a4, fun b c h => by rw [a5 b c h, anew_o (by omega)], fun a b c h => by rw [a6 a b c h, anew_o (by omega)], a7, a8, fun a c h => by rw [a9 a c h, Rreset_k h]⟩
theorem s_restart {N F T : Nat} {birth ob ot : Nat → Nat} {g r : SG} (q : QR N 0 F T birth ob ot g r) (hi : HI N g) : (x_restart g).1 = (x_Rrestart r).1 ∧ QR N 0 0 0 birth (fun _ => 1) (fun _ => 1) (x_restart g).2 (x_Rrestart r).2 ∧ SI N (x_restart g).2 ∧ HI N (x_restart g).2 ∧ (x_restart g).2 0 0 1 = nI 0 ∧ ∀ b, b < N → HP b (x_restart g).2 := by
  obtain ⟨ok, ts, hf, hfl, pi, ti, bi, bl⟩ := q
  have hN := ok.N.1
  have ok' := ok_x_restart ok
  unfold x_restart at ok' ⊢
  unfold x_Rrestart
  rw [ts.n1]
  have ts0 : TS N 0 (Z4 g) (up3 (up3 (up3 (up3 r 0 0 1 0) 0 0 2 0) 0 0 3 0) 0 0 4 0) := by
    unfold Z4
    refine TS.upR (Or.inr ⟨rfl, Nat.le_refl _⟩) ?_
    refine TS.up (k := 0) (i := 0) (j := 4) rfl rfl rfl ?_ rfl
    refine TS.up (k := 0) (i := 0) (j := 3) rfl rfl rfl ?_ rfl
    refine TS.upC rfl ?_
    exact TS.up (k := 0) (i := 0) (j := 1) rfl rfl rfl ts rfl
  have hr4 : up3 (up3 (up3 (up3 r 0 0 1 0) 0 0 2 0) 0 0 3 0) 0 0 4 0 0 0 4 = nI 0 := rfl
  generalize up3 (up3 (up3 (up3 r 0 0 1 0) 0 0 2 0) 0 0 3 0) 0 0 4 0 = r0 at ts0 hr4 ⊢
  obtain ⟨a1, a2, a3, a4, a5, a6, a7, a8, a9⟩ := restart_L (N := N) (made := g 0 0 1) 5 0 g r0 (by omega) (by decide) (by omega) ok ts0 (fun b hb => absurd hb (Nat.not_lt_zero b))
  generalize L_restart 5 (g 0 0 1) 0 g = S at ok' a1 a3 a4 a5 a6 a7 a8 ⊢
  generalize L_Rrestart 5 (g 0 0 1) 0 r0 = S' at a2 a3 a9 ⊢
  obtain ⟨v, G⟩ := S
  obtain ⟨v', R⟩ := S'
  dsimp only at ok' a1 a2 a3 a4 a5 a6 a7 a8 a9 ⊢
  have hG : HI N G := hi.same (fun i c h => a5 i c h)
  have ep : ∀ p, pl G p = pl g p := fun p => by unfold pl; rw [a6 2 0 p (Or.inl rfl)]
  refine ⟨by rw [a1, a2], ⟨ok', a3, by rw [a9 0 4 (Or.inl rfl)]; exact hr4, a8, fun p q hp hq e => pi p q hp hq (by rw [← ep, ← ep]; exact e), ?_, ?_, trivial⟩, fun i hi h => absurd (a4 i hi).2.2.2.2 h, hG, a7, a4⟩
  · refine ⟨fun i hi => ?_, fun i hi => ?_, fun i hi => ?_, fun i j hi hj hij _ _ => ?_⟩
    · rw [(a4 i hi).1]; exact (hG.1 i hi).1
    · rw [(a4 i hi).2.1]; exact (hG.1 i hi).2
    · rw [(a4 i hi).2.2.1]; decide
    · rw [(a4 i hi).1, (a4 i hi).2.1, (a4 j hj).1, (a4 j hj).2.1]; exact hG.2 i j hi hj hij
  · exact ⟨fun b hb => absurd hb (Nat.not_lt_zero b), fun b c _ hc => absurd hc (Nat.not_lt_zero c), fun b hb => absurd hb (Nat.not_lt_zero b), fun b hb => absurd hb (Nat.not_lt_zero b)⟩
