/-! SIMULATION: a turn (mine) -/
/-- what no turn changes: the homes, the counter of turns -/
def hk (a c : Nat) : Prop := (a = 3 ∧ c < 3) ∨ (a = 0 ∧ c = 1)
theorem runPrograms_h {a b c : Nat} (h : hk a c) : ∀ (n i : Nat) (g : SG), L_runPrograms n i g a b c = g a b c := by
  unfold hk at h
  intro n
  induction n with
  | zero => intro i g; rfl
  | succ n ih =>
    intro i g
    have h1 : g_oclear g i a b c = g a b c := oclear_k (by omega)
    have h2 : g_runProgram (g_oclear g i) i a b c = g a b c := by rw [runProgram_k (by omega), h1]
    simp only [L_runPrograms, ite_app3, ih, h1, h2, ite_self]
theorem forget_h {a b c : Nat} (h : hk a c) : ∀ (n i : Nat) (g : SG), L_forget n i g a b c = g a b c := by
  unfold hk at h
  intro n
  induction n with
  | zero => intro i g; rfl
  | succ n ih =>
    intro i g
    have h1 : g_rclear g i a b c = g a b c := rclear_k (by omega)
    simp only [L_forget, ite_app3, ih, h1, ite_self]
theorem fireGuns_h {a b c : Nat} (h : hk a c) : ∀ (n i : Nat) (g : SG), L_fireGuns n i g a b c = g a b c := by
  unfold hk at h
  intro n
  induction n with
  | zero => intro i g; rfl
  | succ n ih =>
    intro i g
    have h1 : g_fire g i a b c = g a b c := by
      unfold g_fire g_leave
      simp only [up3_at]
      repeat rw [if_neg (by omega)]
    simp only [L_fireGuns, ite_app3, ih, h1, ite_self]
theorem fly_h {a b c : Nat} (h : hk a c) : ∀ (n kp i : Nat) (g : SG), L_fly n kp i g a b c = g a b c := by
  unfold hk at h
  intro n
  induction n with
  | zero => intro kp i g; rfl
  | succ n ih =>
    intro kp i g
    have h1 : ∀ k, (x_stays g k).2 a b c = g a b c := fun k => stays_k (by omega) 9 0 g
    have h2 : ∀ (G : SG) (x y : Nat) (v w : Int32), up3 (up3 G 2 0 x v) 2 0 y w a b c = G a b c := fun G x y v w => by rw [up3_at, if_neg (by omega), up3_at, if_neg (by omega)]
    have h3 : ∀ v : Int32, up3 g 0 0 2 v a b c = g a b c := fun v => by rw [up3_at, if_neg (by omega)]
    simp only [L_fly, ite_app3, ih, h1, h2, h3, ite_self]
theorem driveTanks_h {N a b c : Nat} (h : hk a c) : ∀ (n i : Nat) (g : SG), OkN N g → L_driveTanks n i g a b c = g a b c := by
  unfold hk at h
  intro n
  induction n with
  | zero => intro i g _; rfl
  | succ n ih =>
    intro i g ok
    have ok3 := ok_g_goOn (ok_g_changeSpeed (ok_g_obeyTurns ok i) i) i
    have h1 : g_drive g i a b c = g a b c := by
      unfold g_drive
      rw [(drive2_f (g0 := g) (j := i) ok3.N.1 ok3.N.2).1 a b c (by omega) (by omega) (by omega), goOn_f (by omega), speed_f (by omega), turns_f (by omega)]
    simp only [L_driveTanks, ite_app3, ih _ _ ok, ih _ _ (ok_g_drive ok i), h1, ite_self]
theorem sweep_h {a b c : Nat} (h : hk a c) : ∀ (n i : Nat) (g : SG), L_sweep n i g a b c = g a b c := by
  unfold hk at h
  intro n
  induction n with
  | zero => intro i g; rfl
  | succ n ih =>
    intro i g
    have h1 : g_look g i a b c = g a b c := look_k (by omega) 5 0 g
    simp only [L_sweep, ite_app3, ih, h1, ite_self]
theorem QR.turn {N F T : Nat} {birth : Nat → Nat} {g r : SG} (q : QR N 0 F T birth (fun _ => 1) (fun _ => 1) g r) : QR N 0 F (T + 1) birth (fun _ => 0) (fun _ => 0) (up3 g 0 0 1 (g 0 0 1 + 1)) (up3 r 0 0 1 (r 0 0 1 + 1)) := by
  have q' : QR N 0 F T birth (fun _ => 1) (fun _ => 1) (up3 g 0 0 1 (g 0 0 1 + 1)) (up3 r 0 0 1 (r 0 0 1 + 1)) := q.same (okU q.1 rfl trivial) (TS.up (k := 0) (i := 0) (j := 1) rfl rfl rfl q.2.1 (by rw [q.2.1.n1])) (fun a b c h => by rw [up3_at, if_neg (by omega)]) (fun a c h => by rw [up3_at, if_neg (by omega)])
  obtain ⟨h1, h2, h3, h4, h5, h6, ⟨b1, b2, b3, b4⟩, h8⟩ := q'
  refine ⟨h1, h2, h3, h4, h5, h6, ⟨fun b hb => ⟨by have := (b1 b hb).1; omega, (b1 b hb).2⟩, b2, fun b hb hal => ?_, fun b hb hl => ?_⟩, h8⟩
  · have x1 := (b1 b hb).1
    have x3 := b3 b hb hal
    dsimp only at x3 ⊢
    rw [show T + 1 - birth b + 0 = T - birth b + 1 by omega]
    exact x3
  · have x1 := (b1 b hb).1
    have x4 := b4 b hb hl
    dsimp only at x4 ⊢
    rw [show T + 1 - birth b + 0 = T - birth b + 1 by omega]
    exact x4
theorem s_turn {N F T : Nat} {birth : Nat → Nat} {g r : SG} (hT : T + 1 ≤ 514) (q : QR N 0 F T birth (fun _ => 1) (fun _ => 1) g r) (si : SI N g) : (x_turn g).1 = (x_Rturn r).1 ∧ (((x_turn g).2 = g ∧ (x_Rturn r).2 = r) ∨ ∃ F' birth', QR N 0 F' (T + 1) birth' (fun _ => 1) (fun _ => 1) (x_turn g).2 (x_Rturn r).2 ∧ SI N (x_turn g).2 ∧ ∀ a b c, hk a c → (x_turn g).2 a b c = up3 g 0 0 1 (g 0 0 1 + 1) a b c) := by
  unfold x_turn x_Rturn
  rw [← s_alive q.2.1 q.1]
  by_cases c : 2 ≤ f_alive g
  · rw [if_pos c, if_pos c]
    unfold g_sweep g_driveTanks g_fireGuns g_forget g_runPrograms
    have hN := q.1.N.1
    have q0 := q.turn
    have si1 : SI N (up3 g 0 0 1 (g 0 0 1 + 1)) := si.same (fun _ => by rw [up3_at, if_neg (by omega)]) (fun _ => by rw [up3_at, if_neg (by omega)]) (fun _ => by rw [up3_at, if_neg (by omega)])
    generalize up3 g 0 0 1 (g 0 0 1 + 1) = g1 at q0 si1 ⊢
    generalize up3 r 0 0 1 (r 0 0 1 + 1) = r0 at q0 ⊢
    obtain ⟨r1, e1, q1⟩ := ph1_L 5 0 g1 r0 (by omega) (by decide) (by omega) q0 si1
    obtain ⟨r2, e2, q2, s2⟩ := ph2_L 5 0 _ r1 (by omega) (by decide) (by omega) q1 (fun j hj => absurd hj (Nat.not_lt_zero j))
    obtain ⟨r3, F', birth', e3, q3, s3⟩ := ph3_L hT 5 0 F birth _ r2 (by omega) (by decide) (by omega) q2 s2
    obtain ⟨r4, e4, q4, s4⟩ := ph4 hT q3 s3
    have e0 : (fun _ : Nat => 0) = (fun q : Nat => if q < 0 then 1 else 0) := by funext q; simp
    rw [e0] at q4
    obtain ⟨r5, e5, q5, s5⟩ := ph5_L 5 0 _ r4 (by omega) (by decide) (by omega) q4 s4
    obtain ⟨r6, e6, q6, s6⟩ := ph6_L 5 0 _ r5 (by omega) (by decide) (by omega) q5 (fun j hj h => absurd (s5 j hj) h)
    rw [e1, e2, e3, e4, e5, e6]
    have hfr : ∀ a b c, hk a c → L_sweep 5 0 (L_driveTanks 5 0 (g_fly (L_fireGuns 5 0 (L_forget 5 0 (L_runPrograms 5 0 g1))))) a b c = g1 a b c := fun a b c h => by
      rw [sweep_h h, driveTanks_h h 5 0 _ q4.1]
      unfold g_fly
      rw [fly_h h, fireGuns_h h, forget_h h, runPrograms_h h]
    generalize L_sweep 5 0 (L_driveTanks 5 0 (g_fly (L_fireGuns 5 0 (L_forget 5 0 (L_runPrograms 5 0 g1))))) = G at q6 s6 hfr ⊢
    dsimp only
    exact ⟨s_alive q6.2.1 q6.1, Or.inr ⟨F', birth', ⟨q6.1, q6.2.1.less (Nat.zero_le _), q6.2.2⟩, s6, hfr⟩⟩
  · rw [if_neg c, if_neg c]
    exact ⟨rfl, Or.inl ⟨rfl, rfl⟩⟩
