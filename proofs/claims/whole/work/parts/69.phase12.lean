/-! SIMULATION: the phases of a turn: programs run, reports are forgotten (mine) -/
theorem QR.same {N M M' F T : Nat} {birth ob ot : Nat → Nat} {g r g' r' : SG} (h : QR N M F T birth ob ot g r) (ok : OkN N g') (ts : TS N M' g' r') (hg : ∀ a b c, (a = 0 ∧ c = 2) ∨ a = 2 ∨ a = 12 ∨ (a = 3 ∧ (c = 3 ∨ c = 4 ∨ c = 11 ∨ c = 13)) → g' a b c = g a b c) (hr : ∀ a c, 28 ≤ a ∨ (a = 0 ∧ c = 4) → r' a 0 c = r a 0 c) : QR N M' F T birth ob ot g' r' := by
  obtain ⟨h1, h2, h3, h4, h5, h6, h7, h8⟩ := h
  have el : lvf r' F 0 = lvf r F 0 := lvf_congr _ _ (fun c _ _ => by rw [hr 33 c (Or.inl (by decide))])
  have ep : ∀ p, pl g' p = pl g p := fun p => by unfold pl; rw [hg 2 0 p (by omega)]
  have eo : ∀ b, own r' b = own r b := fun b => by unfold own; rw [hr 32 b (by omega)]
  refine ⟨ok, ts, by rw [hr 0 4 (by omega)]; exact h3, by rw [hg 0 0 2 (by omega), el]; exact h4, fun p q hp hq e => h5 p q hp hq (by rw [← ep, ← ep]; exact e), h6.same (fun i j hj => hg 3 i j (by omega)), ?_, ?_⟩
  · obtain ⟨b1, b2, b3, b4⟩ := h7
    refine ⟨fun b hb => by rw [eo]; exact b1 b hb, fun b c hbc hc => by rw [eo, eo]; exact b2 b c hbc hc, fun b hb => by rw [eo, hg 3 _ 13 (by omega), hg 3 _ 11 (by omega)]; exact b3 b hb, fun b hb => ?_⟩
    rw [hr 33 b (by omega), hr 30 b (by omega), hr 31 b (by omega), hr 28 b (by omega), hr 29 b (by omega)]
    exact b4 b hb
  · rw [el]
    exact BL_congr _ _ (fun q _ _ => ⟨ep q, fun f => hg 12 _ f (by omega)⟩) (fun b _ k hk1 _ => hr k b (by omega)) h8
theorem oclear_k {g : SG} {i a b c : Nat} (h : a ≠ 10) : g_oclear g i a b c = g a b c := by
  unfold g_oclear
  simp only [up3_at]
  repeat rw [if_neg (by omega)]
theorem noAsking_k {r : SG} {t a c : Nat} (h : a ≠ 26 ∧ a ≠ 27) : g_RnoAsking r t a 0 c = r a 0 c := by
  rw [noAsking_eq]
  simp only [up3_at]
  repeat rw [if_neg (by omega)]
theorem spends_k {i a b c : Nat} (h : a ≠ 10 ∧ a ≠ 9 ∧ ¬ (a = 3 ∧ c = 9) ∧ a ≠ 8) : ∀ (n dn : Nat) (g : SG), (L_spends i n dn g).2 a b c = g a b c := by
  intro n
  induction n with
  | zero => intro dn g; rfl
  | succ n ih =>
    intro dn g
    rw [spends_eq]
    split
    · rfl
    · split
      · split
        · exact one_k h.1 h.2.1 h.2.2.1 h.2.2.2
        · rw [ih, one_k h.1 h.2.1 h.2.2.1 h.2.2.2]
      · show up3 _ _ _ _ _ a b c = _
        rw [up3_at, if_neg (by omega)]
theorem runProgram_k {g : SG} {i a b c : Nat} (h : a ≠ 10 ∧ a ≠ 9 ∧ ¬ (a = 3 ∧ c = 9) ∧ a ≠ 8) : g_runProgram g i a b c = g a b c := by
  unfold g_runProgram x_spends
  rw [ite_app3]
  split
  · exact spends_k h _ _ _
  · rw [up3_at, if_neg (by omega), oclear_k h.1, up3_at, if_neg (by omega), spends_k h]
theorem Rjumps_k {r : SG} {t a c : Nat} {op b : Int32} (h : a ≠ 18) : (x_Rjumps r t op b).2 a 0 c = r a 0 c := by
  unfold x_Rjumps
  repeat' split
  all_goals first | rfl | (show up3 _ _ _ _ _ a 0 c = _; rw [up3_at, if_neg (by omega)])
theorem Rperform_k {r : SG} {t a c : Nat} {op x b : Int32} (h : a ≠ 14 ∧ a ≠ 17 ∧ a ≠ 18 ∧ a ≠ 26 ∧ a ≠ 27) : g_Rperform r t op x b a 0 c = r a 0 c := by
  have h67 : ∀ r : SG, J_Rperf67 t op x b r a 0 c = r a 0 c := fun r => by
    unfold J_Rperf67
    rw [ite_app3]
    split <;> rw [up3_at, if_neg (by omega), Rjumps_k h.2.2.1]
  have h49 : ∀ r : SG, J_Rperf49 t op x b r a 0 c = r a 0 c := fun r => by
    unfold J_Rperf49
    rw [ite_app3]
    split
    · rw [h67, up3_at, if_neg (by omega)]
    · exact h67 r
  have h37 : ∀ r : SG, J_Rperf37 t op x b r a 0 c = r a 0 c := fun r => by
    unfold J_Rperf37
    rw [ite_app3]
    split
    · rw [h49, up3_at, if_neg (by omega)]
    · exact h49 r
  have h14 : ∀ r : SG, J_Rperf14 t op x b r a 0 c = r a 0 c := fun r => by
    unfold J_Rperf14
    rw [ite_app3, ite_app3]
    split
    · exact h37 r
    · split
      · exact h37 r
      · rw [h37, up3_at, if_neg (by omega)]
  unfold g_Rperform
  rw [ite_app3]
  split
  · rw [h14, up3_at, if_neg (by omega)]
  · exact h14 r
theorem Rprogram_k {t a c : Nat} (h : a ≠ 14 ∧ a ≠ 17 ∧ a ≠ 18 ∧ a ≠ 19 ∧ a ≠ 26 ∧ a ≠ 27) : ∀ (n : Nat) (bf : Int32) (dn : Nat) (r : SG), L_Rprogram t n bf dn r a 0 c = r a 0 c := by
  intro n
  induction n with
  | zero => intro bf dn r; rfl
  | succ n ih =>
    intro bf dn r
    simp only [L_Rprogram, ite_app3]
    split
    · rw [up3_at, if_neg (by omega), noAsking_k (by omega), up3_at, if_neg (by omega)]
    · split
      · split
        · exact Rperform_k (by omega)
        · rw [ih, Rperform_k (by omega)]
      · rw [up3_at, if_neg (by omega)]
theorem disabled_eq {g : SG} {i : Nat} : f_disabled g i = 0 ↔ ¬ 3 ≤ g 8 i 1 := by
  unfold f_disabled
  rw [Int32.le_iff_toInt_le]
  by_cases c : g 8 i 1 < 3
  · rw [if_pos c]
    rw [Int32.lt_iff_toInt_lt] at c
    exact ⟨fun _ => by omega, fun _ => rfl⟩
  · rw [if_neg c]
    rw [Int32.lt_iff_toInt_lt] at c
    exact ⟨fun q => absurd q (by decide), fun q => absurd q (by omega)⟩
theorem ph1_L {N F T : Nat} {birth ob ot : Nat → Nat} : ∀ (n i : Nat) (g r : SG), i ≤ N → i + n < 100 → N + 1 ≤ i + n → QR N i F T birth ob ot g r → SI N g → ∃ r', L_Rt1 n i r = L_Rt2 5 0 r' ∧ QR N N F T birth ob ot (L_runPrograms n i g) r' := by
  intro n
  induction n with
  | zero => intro i g r h0 h1 h2; exfalso; omega
  | succ n ih =>
    intro i g r h0 h1 h2 q si
    have ok := q.1
    have ts := q.2.1
    simp only [L_Rt1, L_runPrograms]
    rw [ts.n0]
    by_cases c : g 0 0 0 ≤ nI i
    · rw [if_pos c, if_pos c]
      have : i = N := by
        rcases Nat.lt_or_ge i N with x | x
        · exact absurd (by rw [ok.N.2] at c; exact c) (nI_ge x (by have := ok.N.1; omega))
        · omega
      subst this
      exact ⟨r, rfl, q⟩
    · rw [if_neg c, if_neg c]
      obtain ⟨hiN, hi⟩ := nlt4 ok.N.1 ok.N.2 c (by omega)
      have ts1 := s_oclear1 hi ts
      have ok1 := ok_g_oclear ok i
      have q1 : QR N (i + 1) F T birth ob ot (g_oclear g i) (g_RnoAsking r i) := q.same ok1 ts1 (fun a b c h => oclear_k (by omega)) (fun a c h => noAsking_k (by omega))
      have si1 : SI N (g_oclear g i) := si.same (fun _ => oclear_k (by decide)) (fun _ => oclear_k (by decide)) (fun _ => oclear_k (by decide))
      rw [ts1.r21 hi, ts1.r19 hi]
      by_cases c2 : g_oclear g i 3 i 13 = 0
      · rw [if_pos c2, if_pos c2]
        exact ih (i + 1) _ _ (by omega) (by omega) (by omega) q1 si1
      · rw [if_neg c2, if_neg c2]
        by_cases c3 : f_disabled (g_oclear g i) i = 0
        · rw [if_pos c3, if_neg (disabled_eq.mp c3)]
          have ts2 := s_prog hi hiN (Nat.lt_succ_self i) ok1 q1.2.2.2.2.2.1 si1 ts1
          have q2 : QR N (i + 1) F T birth ob ot (g_runProgram (g_oclear g i) i) (g_Rprogram (g_RnoAsking r i) i) := q1.same (ok_g_runProgram ok1 i) ts2 (fun a b c h => runProgram_k (by omega)) (fun a c h => Rprogram_k (by omega) _ _ _ _)
          exact ih (i + 1) _ _ (by omega) (by omega) (by omega) q2 (si1.same (fun _ => runProgram_k (by decide)) (fun _ => runProgram_k (by decide)) (fun _ => runProgram_k (by decide)))
        · rw [if_neg c3, if_pos (Classical.byContradiction fun x => c3 (disabled_eq.mpr x))]
          exact ih (i + 1) _ _ (by omega) (by omega) (by omega) q1 si1
theorem rclear_k {g : SG} {i a b c : Nat} (h : a ≠ 11 ∨ b ≠ i) : g_rclear g i a b c = g a b c := by
  unfold g_rclear
  simp only [up3_at]
  repeat rw [if_neg (by omega)]
theorem Rforget_k {r : SG} {t a c : Nat} (h : 26 ≤ a ∨ a = 0) : g_Rforget r t a 0 c = r a 0 c := by
  unfold g_Rforget
  simp only [up3_at]
  repeat rw [if_neg (by omega)]
/-- behind it nobody sees anyone -/
theorem ph2_L {N M F T : Nat} {birth ob ot : Nat → Nat} : ∀ (n i : Nat) (g r : SG), i ≤ N → i + n < 100 → N + 1 ≤ i + n → QR N M F T birth ob ot g r → (∀ j, j < i → g 11 j 2 = 4) → ∃ r', L_Rt2 n i r = L_Rt3 5 0 r' ∧ QR N M F T birth ob ot (L_forget n i g) r' ∧ ∀ j, j < N → L_forget n i g 11 j 2 = 4 := by
  intro n
  induction n with
  | zero => intro i g r h0 h1 h2; exfalso; omega
  | succ n ih =>
    intro i g r h0 h1 h2 q hs
    have ok := q.1
    have ts := q.2.1
    simp only [L_Rt2, L_forget]
    rw [ts.n0]
    by_cases c : g 0 0 0 ≤ nI i
    · rw [if_pos c, if_pos c]
      have : i = N := by
        rcases Nat.lt_or_ge i N with x | x
        · exact absurd (by rw [ok.N.2] at c; exact c) (nI_ge x (by have := ok.N.1; omega))
        · omega
      subst this
      exact ⟨r, rfl, q, hs⟩
    · rw [if_neg c, if_neg c]
      obtain ⟨hiN, hi⟩ := nlt4 ok.N.1 ok.N.2 c (by omega)
      refine ih (i + 1) _ _ (by omega) (by omega) (by omega) (q.same (ok_g_rclear ok i) (s_rclear hi ts) (fun a b c h => rclear_k (by omega)) (fun a c h => Rforget_k (by omega))) (fun j hj => ?_)
      by_cases e : j = i
      · subst e; exact (rclear_at g j).2.2.1
      · rw [rclear_k (Or.inr e)]; exact hs j (by omega)
