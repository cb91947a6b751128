/-! SIMULATION: the relation between two calls; every call keeps it, and both answer alike (mine) -/
def Sim (c : Nat) (g r : SG) : Prop := ∃ (N F T : Nat) (birth : Nat → Nat), QR N 0 F T birth (fun _ => 1) (fun _ => 1) g r ∧ RokN N r ∧ SI N g ∧ HI N g ∧ g 0 0 1 = nI T ∧ 5 * T ≤ c ∧ c ≤ 2560 ∧ (T = 0 → ∀ i, i < N → ¬ g 3 i 13 = 0 ∧ g 3 i 3 = g 3 i 0 ∧ g 3 i 4 = g 3 i 1)
theorem Sim.wait {c : Nat} {g r : SG} (h : Sim c g r) (hc : c + 5 ≤ 2560) : Sim (c + 5) g r := by
  obtain ⟨N, F, T, birth, q, rok, si, hi, eT, h1, h2, hh⟩ := h
  exact ⟨N, F, T, birth, q, rok, si, hi, eT, by omega, hc, hh⟩
theorem ty_0 (k j : Nat) : tyOk k j 0 := by
  unfold tyOk
  repeat' split
  all_goals first | trivial | exact ⟨0, by decide, rfl⟩ | exact Or.inl rfl
theorem tyR_0 (k j : Nat) : tyR k j 0 := by
  unfold tyR
  repeat' split
  all_goals first | trivial | exact ⟨0, by decide, rfl⟩ | exact Or.inl rfl
theorem ins_0 : insOk 0 0 0 := ⟨fun e => absurd e (by decide), fun e => absurd e (by decide), fun e => absurd e (by decide), fun e => absurd e (by decide)⟩
theorem g0_0 {k i j : Nat} (h : k ≠ 2 ∧ k ≠ 11) : g0 k i j = 0 := by
  unfold g0
  rw [if_neg (by omega), if_neg (by omega)]
theorem g0_2 (j : Nat) : g0 2 0 j = nI (j % 16) := by
  unfold g0
  rw [if_neg (by omega), if_pos rfl]
theorem ok_0 : OkN 0 g0 := by
  refine ⟨⟨fun k i j => ?_, fun i j => ?_⟩, rfl, by decide⟩
  · unfold g0
    by_cases c : k = 11 ∧ j = 2
    · rw [if_pos c]
      obtain ⟨c1, c2⟩ := c
      subst c1; subst c2
      exact ⟨4, by decide, rfl⟩
    · rw [if_neg c]
      by_cases c2 : k = 2
      · rw [if_pos c2]
        subst c2
        exact ⟨j % 16, Nat.mod_lt _ (by decide), rfl⟩
      · rw [if_neg c2]; exact ty_0 k j
  · rw [g0_0 (by omega), g0_0 (by omega), g0_0 (by omega)]; exact ins_0
theorem rok_0 : RokN 0 gz := ⟨⟨fun k _ j => tyR_0 k j, fun _ => ins_0⟩, rfl, by decide⟩
theorem sim_0 : Sim 0 g0 gz := by
  refine ⟨0, 0, 0, fun _ => 0, ⟨ok_0, ?_, rfl, rfl, fun p q hp hq e => ?_, ?_, ?_, trivial⟩, rok_0, fun i hi => absurd hi (Nat.not_lt_zero i), ⟨fun i hi => absurd hi (Nat.not_lt_zero i), fun i _ hi => absurd hi (Nat.not_lt_zero i)⟩, rfl, by omega, by omega, fun _ i hi => absurd hi (Nat.not_lt_zero i)⟩
  · intro k i j hd h11 _
    have h2 : k ≠ 2 := fun e => by subst e; exact absurd hd (by simp [dm])
    have h11' : k ≠ 11 := fun e => absurd (h11 e) (Nat.not_lt_zero i)
    rw [g0_0 ⟨h2, h11'⟩]
    rfl
  · unfold pl at e
    rw [g0_2, g0_2, Nat.mod_eq_of_lt hp, Nat.mod_eq_of_lt hq, nI_clamp (by omega), nI_clamp (by omega)] at e
    exact e
  · exact ⟨fun i hi => absurd hi (Nat.not_lt_zero i), fun i hi => absurd hi (Nat.not_lt_zero i), fun i hi => absurd hi (Nat.not_lt_zero i), fun i _ hi => absurd hi (Nat.not_lt_zero i)⟩
  · exact ⟨fun b hb => absurd hb (Nat.not_lt_zero b), fun b c _ hc => absurd hc (Nat.not_lt_zero c), fun b hb => absurd hb (Nat.not_lt_zero b), fun b hb => absurd hb (Nat.not_lt_zero b)⟩
theorem sim_enter {c : Nat} {g r : SG} (h : Sim c g r) (hc : c + 5 ≤ 2560) (px py hd : Int32) : (x_enter g px py hd).1 = (x_Renter r px py hd).1 ∧ Sim (c + 5) (x_enter g px py hd).2 (x_Renter r px py hd).2 := by
  have h0 := h
  obtain ⟨N, F, T, birth, q, rok, si, hi, eT, h1, h2, hh⟩ := h
  obtain ⟨e, hs⟩ := s_enter (by omega) q rok si hi eT hh px py hd
  refine ⟨e, ?_⟩
  rcases hs with ⟨e1, e2⟩ | ⟨q', rok', si', hi', eT', hh'⟩
  · rw [e1, e2]; exact h0.wait hc
  · exact ⟨N + 1, F, T, birth, q', rok', si', hi', eT', by omega, hc, fun _ => hh'⟩
theorem sim_instr {c : Nat} {g r : SG} (h : Sim c g r) (hc : c + 5 ≤ 2560) (tank op a b : Int32) : (x_instr g tank op a b).1 = (x_Rinstr r tank op a b).1 ∧ Sim (c + 5) (x_instr g tank op a b).2 (x_Rinstr r tank op a b).2 := by
  obtain ⟨N, F, T, birth, q, rok, si, hi, eT, h1, h2, hh⟩ := h
  obtain ⟨e, q', rok', fr⟩ := s_instr q rok tank op a b
  refine ⟨e, N, F, T, birth, q', rok', si.same (fun i => fr 11 i 2 (by omega)) (fun i => fr 3 i 3 (by omega)) (fun i => fr 3 i 4 (by omega)), hi.same (fun i c _ => fr 3 i c (by omega)), by rw [fr 0 0 1 (by omega)]; exact eT, by omega, hc, fun hT i hiN => ?_⟩
  rw [fr 3 i 13 (by omega), fr 3 i 3 (by omega), fr 3 i 0 (by omega), fr 3 i 4 (by omega), fr 3 i 1 (by omega)]
  exact hh hT i hiN
theorem sim_turn {c : Nat} {g r : SG} (h : Sim c g r) (hc : c + 5 ≤ 2560) : (x_turn g).1 = (x_Rturn r).1 ∧ Sim (c + 5) (x_turn g).2 (x_Rturn r).2 := by
  have h0 := h
  obtain ⟨N, F, T, birth, q, rok, si, hi, eT, h1, h2, hh⟩ := h
  have hF := q.2.2.2.2.2.2.1.fired q.1.N.1 (by omega)
  have rok' := ok_x_Rturn rok ⟨F, by omega, q.2.2.1⟩
  obtain ⟨e, hs⟩ := s_turn (by omega) q si
  refine ⟨e, ?_⟩
  rcases hs with ⟨e1, e2⟩ | ⟨F', birth', q', si', fr⟩
  · rw [e1, e2]; exact h0.wait hc
  · refine ⟨N, F', T + 1, birth', q', rok', si', hi.same (fun i c hc => ?_), ?_, by omega, hc, fun hT => by omega⟩
    · rw [fr 3 i c (Or.inl ⟨rfl, hc⟩), up3_at, if_neg (by omega)]
    · rw [fr 0 0 1 (Or.inr ⟨rfl, rfl⟩), up3_at, if_pos (by simp), eT, nI_1]
theorem sim_restart {c : Nat} {g r : SG} (h : Sim c g r) (hc : c + 5 ≤ 2560) : (x_restart g).1 = (x_Rrestart r).1 ∧ Sim (c + 5) (x_restart g).2 (x_Rrestart r).2 := by
  obtain ⟨N, F, T, birth, q, rok, si, hi, eT, h1, h2, hh⟩ := h
  have rok' := ok_x_Rrestart rok
  obtain ⟨e, q', si', hi', eT', hp⟩ := s_restart q hi
  refine ⟨e, N, 0, 0, birth, q', rok', si', hi', eT', by omega, hc, fun _ i hiN => ?_⟩
  obtain ⟨p1, p2, p3, p4, p5⟩ := hp i hiN
  exact ⟨by rw [p4]; decide, p1, p2⟩
theorem simOK : SimOK Sim := by
  refine ⟨sim_0, fun c g r h => ?_, fun c g r h hc => sim_enter h hc, fun c g r h hc => sim_instr h hc, fun c g r h hc => sim_turn h hc, fun c g r h hc => sim_restart h hc, fun c g r h hc x1 x2 => ?_, fun c g r h hc x1 x2 => ?_, fun c g r h hc x1 x2 => ?_, fun c g r h hc x1 => ?_⟩
  · obtain ⟨N, F, T, birth, q, rok, si, hi, eT, h1, h2, hh⟩ := h
    have hF := q.2.2.2.2.2.2.1.fired q.1.N.1 (by omega)
    exact ⟨N, q.1, rok, ⟨F, by omega, q.2.2.1⟩⟩
  · refine ⟨?_, h.wait hc⟩
    obtain ⟨N, F, T, birth, q, rok, si, hi, eT, h1, h2, hh⟩ := h
    exact s_measure q.1 q.2.1 x1 x2
  · refine ⟨?_, h.wait hc⟩
    obtain ⟨N, F, T, birth, q, rok, si, hi, eT, h1, h2, hh⟩ := h
    exact s_state q.1 q.2.1 x1 x2
  · refine ⟨?_, h.wait hc⟩
    obtain ⟨N, F, T, birth, q, rok, si, hi, eT, h1, h2, hh⟩ := h
    exact s_bullet (by omega) q x1 x2
  · refine ⟨?_, h.wait hc⟩
    obtain ⟨N, F, T, birth, q, rok, si, hi, eT, h1, h2, hh⟩ := h
    exact s_count (by omega) q x1
