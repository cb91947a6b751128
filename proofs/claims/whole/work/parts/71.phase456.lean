/-! SIMULATION: bullets fly, tanks drive, radars look (mine) -/
theorem fly_see {j : Nat} : ∀ (n kp i : Nat) (g : SG), L_fly n kp i g 11 j 2 = g 11 j 2 := by
  intro n
  induction n with
  | zero => intro kp i g; rfl
  | succ n ih =>
    intro kp i g
    simp only [L_fly]
    have h1 : ∀ k, (x_stays g k).2 11 j 2 = g 11 j 2 := fun k => stays_k (by omega) 9 0 g
    rw [ite_app3, ite_app3]
    split
    · simp [up3]
    · split
      · rw [ih, h1]
      · rw [ih]
        simp only [up3_at]
        rw [if_neg (by omega), if_neg (by omega), h1]
theorem ph4 {N F T : Nat} {birth : Nat → Nat} {g r : SG} (hT : T ≤ 514) (q : QR N N F T birth (fun _ => 0) (fun _ => 0) g r) (hs : ∀ j, j < N → g 11 j 2 = 4) : ∃ r', L_Rt4 601 0 r = L_Rt5 5 0 r' ∧ QR N N F T birth (fun _ => 1) (fun _ => 0) (g_fly g) r' ∧ ∀ j, j < N → g_fly g 11 j 2 = 4 := by
  obtain ⟨ok, ts, hf, hfl, pi, ti, bi, bl⟩ := q
  have hF := bi.fired ok.N.1 hT
  have hl := bi.live ok.N.1
  obtain ⟨r', e, q'⟩ := s_fly_L (N := N) (M := N) (F := F) (K := (lvf r F 0).length) (T := T) (birth := birth) (ot := fun _ => 0) (by omega) (by omega) 601 0 17 0 0 g r (by omega) (by omega) (by omega) (by omega) (by omega) ok ts hf hfl pi ti bi rfl trivial (by rw [Nat.sub_zero, Nat.sub_zero]) bl
  refine ⟨r', e, ?_, fun j hj => by unfold g_fly; rw [fly_see]; exact hs j hj⟩
  obtain ⟨ok, ts, hf, hfl, pi, ti, ⟨b1, b2, b3, b4⟩, bl⟩ := q'
  refine ⟨ok, ts, hf, hfl, pi, ti, ⟨b1, b2, b3, fun b hb hl => ?_⟩, bl⟩
  have := b4 b hb hl
  dsimp only at this ⊢
  rw [if_pos hb] at this
  exact this
/-- frames of driving -/
theorem turns_f {g : SG} {j a b c : Nat} (h : ¬ (a = 3 ∧ b = j ∧ (c = 5 ∨ c = 6 ∨ c = 7))) : g_obeyTurns g j a b c = g a b c := by
  unfold g_obeyTurns
  rw [ite_app3]
  split <;> (simp only [up3_at]; repeat rw [if_neg (by omega)])
theorem speed_f {g : SG} {j a b c : Nat} (h : ¬ (a = 3 ∧ b = j ∧ c = 8)) : g_changeSpeed g j a b c = g a b c := by
  unfold g_changeSpeed
  have hu : ∀ v, up3 g 3 j 8 v a b c = g a b c := fun v => by rw [up3_at, if_neg (by omega)]
  simp only [ite_app3, hu, ite_self]
theorem goOn_f {g : SG} {j a b c : Nat} (h : ¬ (a = 3 ∧ b = j ∧ (c = 3 ∨ c = 4 ∨ c = 10)) ∧ ¬ (a = 11 ∧ c = 0)) : g_goOn g j a b c = g a b c := by
  unfold g_goOn
  simp only [ite_app3]
  split
  · split <;> (simp only [up3_at]; repeat rw [if_neg (by omega)])
  · simp only [up3_at]; repeat rw [if_neg (by omega)]
theorem walls_in (v : Int32) : inF (f_walls v) := by
  unfold inF
  rw [← walls_eq]
  unfold f_Rlimited
  have e1 : (16 : Int32).toInt = 16 := by decide
  have e2 : (496 : Int32).toInt = 496 := by decide
  split
  · rename_i c
    rw [Int32.le_iff_toInt_le, e1] at c
    split
    · rename_i c2
      rw [Int32.le_iff_toInt_le, e2] at c2
      exact ⟨c, c2⟩
    · rw [e2]; omega
  · rw [e1]; omega
theorem goOn_in (g : SG) (j : Nat) : inF (g_goOn g j 3 j 3) ∧ inF (g_goOn g j 3 j 4) := by
  unfold g_goOn
  split
  · split <;> (simp only [up3_at]; simp; exact ⟨walls_in _, walls_in _⟩)
  · simp only [up3_at]; simp; exact ⟨walls_in _, walls_in _⟩
