/-! SIMULATION: a tank comes in (mine) -/
theorem okN_up {N : Nat} {g : SG} (hN : N < 4) (h : OkN N g) : OkN (N + 1) (up3 g 0 0 0 (nI (N + 1))) := by
  obtain ⟨⟨h1, h2⟩, -, -⟩ := h
  refine ⟨⟨fun a b d => ?_, fun a d => ?_⟩, by simp [up3], by omega⟩
  · rw [up3_at]
    by_cases q : a = 0 ∧ d = 0 ∧ b = 0
    · obtain ⟨q1, q2, q3⟩ := q
      subst q1; subst q2; subst q3
      rw [if_pos (by simp)]
      exact ⟨N + 1, by omega, rfl⟩
    · rw [if_neg q]; exact h1 a b d
  · rw [up3_at, up3_at, up3_at, if_neg (by omega), if_neg (by omega), if_neg (by omega)]
    exact h2 a d
theorem rokN_up {N : Nat} {g : SG} (hN : N < 4) (h : RokN N g) : RokN (N + 1) (up3 g 0 0 0 (nI (N + 1))) := by
  obtain ⟨⟨h1, h2⟩, -, -⟩ := h
  refine ⟨⟨fun a b d => ?_, fun d => ?_⟩, by simp [up3], by omega⟩
  · rw [up3_at]
    by_cases q : a = 0 ∧ d = 0 ∧ b = 0
    · obtain ⟨q1, q2, q3⟩ := q
      subst q1; subst q2; subst q3
      rw [if_pos (by simp)]
      exact ⟨N + 1, by omega, rfl⟩
    · rw [if_neg q]; exact h1 a b d
  · rw [up3_at, up3_at, up3_at, if_neg (by omega), if_neg (by omega), if_neg (by omega)]
    exact h2 d
theorem enter_L {N : Nat} {g r : SG} {px py hd : Int32} (ok : OkN N g) (ts : TS N 0 g r) (hh : ∀ i, i < N → ¬ g 3 i 13 = 0 ∧ g 3 i 3 = g 3 i 0 ∧ g 3 i 4 = g 3 i 1) : ∀ (n i : Nat), i ≤ N → i + n < 100 → N + 1 ≤ i + n →
    (L_touched g (g 0 0 0) (px * 8) (py * 8) n i = 4 → L_Renter r px py hd n i = L_Renter r px py hd 1 N) ∧ (¬ L_touched g (g 0 0 0) (px * 8) (py * 8) n i = 4 → L_Renter r px py hd n i = (-1000000, r)) := by
  have hN := ok.N.1
  intro n
  induction n with
  | zero => intro i h0 h1 h2; exfalso; omega
  | succ n ih =>
    intro i h0 h1 h2
    simp only [L_touched]
    by_cases c : g 0 0 0 ≤ nI i
    · have : i = N := by
        rcases Nat.lt_or_ge i N with x | x
        · exact absurd (by rw [ok.N.2] at c; exact c) (nI_ge x (by omega))
        · omega
      subst this
      rw [if_pos c]
      refine ⟨fun _ => ?_, fun x => absurd rfl x⟩
      simp only [L_Renter]
      rw [ts.n0, if_pos c, if_pos c]
    · rw [if_neg c]
      obtain ⟨hiN, hi⟩ := nlt4 hN ok.N.2 c (by omega)
      obtain ⟨ha, hx, hy⟩ := hh i hiN
      rw [if_neg (show ¬ nI i = g 0 0 0 from fun x => c (by rw [x]; exact Int32.le_refl _)), if_neg ha]
      have ihh := ih (i + 1) (by omega) (by omega) (by omega)
      have hd1 : f_dist g i (px * 8) (py * 8) = imax (f_Rabs (r 1 0 i - 8 * px)) (f_Rabs (r 2 0 i - 8 * py)) := by
        unfold f_dist
        rw [rabs_eq, rabs_eq, ts.r1 hi, ts.r2 hi, hx, hy, Int32.mul_comm 8 px, Int32.mul_comm 8 py, iabs_sub, iabs_sub (py * 8)]
      rw [hd1]
      have er : L_Renter r px py hd (n + 1) i = if 32 ≤ imax (f_Rabs (r 1 0 i - 8 * px)) (f_Rabs (r 2 0 i - 8 * py)) then L_Renter r px py hd n (i + 1) else (-1000000, r) := by
        conv => lhs; unfold L_Renter
        rw [ts.n0, if_neg c]
        by_cases d1 : 32 ≤ f_Rabs (r 1 0 i - 8 * px)
        · rw [if_pos d1, if_pos ((imax_le _ _ _).mpr (Or.inl d1))]
        · rw [if_neg d1]
          by_cases d2 : 32 ≤ f_Rabs (r 2 0 i - 8 * py)
          · rw [if_pos d2, if_pos ((imax_le _ _ _).mpr (Or.inr d2))]
          · rw [if_neg d2, if_neg (fun x => by rcases (imax_le _ _ _).mp x with y | y; exact d1 y; exact d2 y)]
      rw [er]
      by_cases d : 32 ≤ imax (f_Rabs (r 1 0 i - 8 * px)) (f_Rabs (r 2 0 i - 8 * py))
      · rw [if_pos d, if_pos d]; exact ihh
      · rw [if_neg d, if_neg d]
        refine ⟨fun x => ?_, fun _ => rfl⟩
        have := (nI_eq (a := i) (b := 4) (by omega) (by omega)).mp x
        omega
theorem in_8 {p : Int32} (h : ¬ f_within p 2 62 = 0) : inF (p * 8) := by
  obtain ⟨h1, h2⟩ := within_le h
  have e2 : (2 : Int32).toInt = 2 := by decide
  have e62 : (62 : Int32).toInt = 62 := by decide
  rw [e2] at h1
  rw [e62] at h2
  have : (p * 8).toInt = p.toInt * 8 := i32_mul rfl (by decide) (by omega) (by omega)
  unfold inF
  rw [this]
  omega
/-- the state behind a tank's coming in -/
theorem s_came {N F T : Nat} {birth : Nat → Nat} {g r : SG} {px py hd : Int32} (hN : N < 4) (hx : inF (px * 8)) (hy : inF (py * 8)) (hhd : rng hd 8) (q : QR N 0 F T birth (fun _ => 1) (fun _ => 1) g r) (rok : RokN N r) (si : SI N g) (hi : HI N g) (hh : ∀ i, i < N → ¬ g 3 i 13 = 0 ∧ g 3 i 3 = g 3 i 0 ∧ g 3 i 4 = g 3 i 1) (hfar : ∀ i, i < N → ¬ (g 3 i 0 = px * 8 ∧ g 3 i 1 = py * 8)) :
    ∃ G R, G = g_stand g N (px * 8) (py * 8) hd ∧ R = g_Rreset (up3 (up3 (up3 r 1 0 N (8 * px)) 2 0 N (8 * py)) 3 0 N hd) N ∧ G 0 0 0 = nI N ∧ R 0 0 0 = nI N ∧ G 0 0 1 = g 0 0 1 ∧ QR (N + 1) 0 F T birth (fun _ => 1) (fun _ => 1) (up3 G 0 0 0 (nI (N + 1))) (up3 R 0 0 0 (nI (N + 1))) ∧ RokN (N + 1) (up3 R 0 0 0 (nI (N + 1))) ∧ SI (N + 1) (up3 G 0 0 0 (nI (N + 1))) ∧ HI (N + 1) (up3 G 0 0 0 (nI (N + 1))) ∧ ∀ i, i < N + 1 → ¬ up3 G 0 0 0 (nI (N + 1)) 3 i 13 = 0 ∧ up3 G 0 0 0 (nI (N + 1)) 3 i 3 = up3 G 0 0 0 (nI (N + 1)) 3 i 0 ∧ up3 G 0 0 0 (nI (N + 1)) 3 i 4 = up3 G 0 0 0 (nI (N + 1)) 3 i 1 := by
  obtain ⟨ok, ts, hf, hfl, pi, ti, bi, bl⟩ := q
  have okG : OkN N (g_stand g N (px * 8) (py * 8) hd) := ok_g_stand ok N _ _ _ hhd
  have k1 : RokN N (up3 r 1 0 N (8 * px)) := rokU rok rfl trivial
  have k2 : RokN N (up3 (up3 r 1 0 N (8 * px)) 2 0 N (8 * py)) := rokU k1 rfl trivial
  have k3 : RokN N (up3 (up3 (up3 r 1 0 N (8 * px)) 2 0 N (8 * py)) 3 0 N hd) := rokU k2 rfl trivial
  have rokR : RokN N (g_Rreset (up3 (up3 (up3 r 1 0 N (8 * px)) 2 0 N (8 * py)) 3 0 N hd) N) := ok_g_Rreset k3 N
  have tsG : TS (N + 1) 0 (g_stand g N (px * 8) (py * 8) hd) (g_Rreset (up3 (up3 (up3 r 1 0 N (8 * px)) 2 0 N (8 * py)) 3 0 N hd) N) := by
    unfold g_stand
    refine s_anew1 hN (Nat.zero_le _) ?_
    refine TS.up (dm3 hN (by decide)) rfl rfl ?_ rfl
    refine TS.up (dm3 hN (by decide)) rfl rfl ?_ (Int32.mul_comm _ _)
    exact TS.up (dm3 hN (by decide)) rfl rfl ts (Int32.mul_comm _ _)
  have hpG : HP N (g_stand g N (px * 8) (py * 8) hd) := anew_i _ N
  have hG0 : g_stand g N (px * 8) (py * 8) hd 3 N 0 = px * 8 := by
    unfold g_stand
    rw [anew_o (by omega)]
    simp [up3]
  have hG1 : g_stand g N (px * 8) (py * 8) hd 3 N 1 = py * 8 := by
    unfold g_stand
    rw [anew_o (by omega)]
    simp [up3]
  have fG : ∀ a b c, b ≠ N ∨ a = 0 ∨ a = 2 ∨ a = 12 → g_stand g N (px * 8) (py * 8) hd a b c = g a b c := fun a b c h => by
    unfold g_stand
    rw [anew_o (by omega)]
    simp only [up3_at]
    repeat rw [if_neg (by omega)]
  have fR : ∀ a c, a = 0 ∨ 26 ≤ a → g_Rreset (up3 (up3 (up3 r 1 0 N (8 * px)) 2 0 N (8 * py)) 3 0 N hd) N a 0 c = r a 0 c := fun a c h => by
    rw [Rreset_k h]
    simp only [up3_at]
    repeat rw [if_neg (by omega)]
  refine ⟨_, _, rfl, rfl, okG.N.2, rokR.N.2, fG 0 0 1 (by omega), ?_⟩
  generalize g_stand g N (px * 8) (py * 8) hd = G at okG tsG hpG hG0 hG1 fG ⊢
  generalize g_Rreset (up3 (up3 (up3 r 1 0 N (8 * px)) 2 0 N (8 * py)) 3 0 N hd) N = R at rokR tsG fR ⊢
  have ok1 := okN_up hN okG
  have rok1 := rokN_up hN rokR
  have ts1 : TS (N + 1) 0 (up3 G 0 0 0 (nI (N + 1))) (up3 R 0 0 0 (nI (N + 1))) := TS.up (k := 0) (i := 0) (j := 0) rfl rfl rfl tsG rfl
  have fG1 : ∀ a b c, a ≠ 0 ∨ c ≠ 0 → up3 G 0 0 0 (nI (N + 1)) a b c = G a b c := fun a b c h => by rw [up3_at, if_neg (by omega)]
  have fR1 : ∀ a c, 26 ≤ a ∨ (a = 0 ∧ c ≠ 0) → up3 R 0 0 0 (nI (N + 1)) a 0 c = r a 0 c := fun a c h => by rw [up3_at, if_neg (by omega), fR a c (by omega)]
  generalize up3 G 0 0 0 (nI (N + 1)) = G1 at ok1 ts1 fG1 ⊢
  generalize up3 R 0 0 0 (nI (N + 1)) = R1 at rok1 ts1 fR1 ⊢
  have fo : ∀ a b c, a ≠ 0 → b ≠ N → G1 a b c = g a b c := fun a b c h1 h2 => by rw [fG1 a b c (Or.inl h1), fG a b c (Or.inl h2)]
  have f2 : ∀ a b c, a = 2 ∨ a = 12 ∨ (a = 0 ∧ c ≠ 0) → G1 a b c = g a b c := fun a b c h => by rw [fG1 a b c (by omega), fG a b c (by omega)]
  have hp1 : HP N G1 := hpG.same (fun a c h => fG1 a N c (by omega))
  have h0 : G1 3 N 0 = px * 8 := by rw [fG1 3 N 0 (by omega)]; exact hG0
  have h1 : G1 3 N 1 = py * 8 := by rw [fG1 3 N 1 (by omega)]; exact hG1
  have el : lvf R1 F 0 = lvf r F 0 := lvf_congr _ _ (fun c _ _ => by rw [fR1 33 c (by omega)])
  have ep : ∀ p, pl G1 p = pl g p := fun p => by unfold pl; rw [f2 2 0 p (by omega)]
  have eo : ∀ b, own R1 b = own r b := fun b => by unfold own; rw [fR1 32 b (by omega)]
  have homes : ∀ i, i < N + 1 → ¬ G1 3 i 13 = 0 ∧ G1 3 i 3 = G1 3 i 0 ∧ G1 3 i 4 = G1 3 i 1 := fun i hi' => by
    by_cases e : i = N
    · subst e
      refine ⟨by rw [hp1.2.2.2.1]; decide, hp1.1, hp1.2.1⟩
    · rw [fo 3 i 13 (by decide) e, fo 3 i 3 (by decide) e, fo 3 i 4 (by decide) e, fo 3 i 0 (by decide) e, fo 3 i 1 (by decide) e]
      exact hh i (by omega)
  have hi1 : HI (N + 1) G1 := by
    refine ⟨fun i hi' => ?_, fun i j hi' hj' hij => ?_⟩
    · by_cases e : i = N
      · subst e; rw [h0, h1]; exact ⟨hx, hy⟩
      · rw [fo 3 i 0 (by decide) e, fo 3 i 1 (by decide) e]; exact hi.1 i (by omega)
    · by_cases e : i = N
      · subst e
        have ej : j ≠ i := fun x => hij x.symm
        rw [h0, h1, fo 3 j 0 (by decide) ej, fo 3 j 1 (by decide) ej]
        exact hfar j (by omega)
      · rw [fo 3 i 0 (by decide) e, fo 3 i 1 (by decide) e]
        by_cases ej : j = N
        · subst ej
          rw [h0, h1]
          exact fun x => hfar i (by omega) ⟨x.1.symm, x.2.symm⟩
        · rw [fo 3 j 0 (by decide) ej, fo 3 j 1 (by decide) ej]
          exact hi.2 i j (by omega) (by omega) hij
  refine ⟨⟨ok1, ts1, by rw [fR1 0 4 (by omega)]; exact hf, by rw [f2 0 0 2 (by omega), el]; exact hfl, fun p q hp hq e => pi p q hp hq (by rw [← ep, ← ep]; exact e), ?_, ?_, ?_⟩, rok1, ?_, hi1, homes⟩
  · refine ⟨fun i hi' => ?_, fun i hi' => ?_, fun i hi' => ?_, fun i j hi' hj' hij _ _ => ?_⟩
    · rw [(homes i hi').2.1]; exact (hi1.1 i hi').1
    · rw [(homes i hi').2.2]; exact (hi1.1 i hi').2
    · by_cases e : i = N
      · subst e; rw [hp1.2.2.1]; decide
      · rw [fo 3 i 11 (by decide) e]; exact ti.ht i (by omega)
    · rw [(homes i hi').2.1, (homes i hi').2.2, (homes j hj').2.1, (homes j hj').2.2]
      exact hi1.2 i j hi' hj' hij
  · obtain ⟨b1, b2, b3, b4⟩ := bi
    refine ⟨fun b hb => by rw [eo]; exact ⟨(b1 b hb).1, by have := (b1 b hb).2; omega⟩, fun b c hbc hc => by rw [eo, eo]; exact b2 b c hbc hc, fun b hb => ?_, fun b hb => ?_⟩
    · have hne : own r b ≠ N := by have := (b1 b hb).2; omega
      rw [eo, fo 3 _ 13 (by decide) hne, fo 3 _ 11 (by decide) hne]
      exact b3 b hb
    · rw [fR1 33 b (by omega), fR1 30 b (by omega), fR1 31 b (by omega), fR1 28 b (by omega), fR1 29 b (by omega)]
      exact b4 b hb
  · rw [el]
    exact BL_congr _ _ (fun q _ _ => ⟨ep q, fun f => f2 12 _ f (by omega)⟩) (fun b _ k hk1 _ => fR1 k b (by omega)) bl
  · intro i hi' h
    by_cases e : i = N
    · subst e; exact absurd hp1.2.2.2.2 h
    · rw [fo 11 i 2 (by decide) e] at h ⊢
      obtain ⟨s1, s2⟩ := si i (by omega) h
      have hne : (g 11 i 2).toNatClampNeg ≠ N := by omega
      rw [fo 3 i 3 (by decide) e, fo 3 i 4 (by decide) e, fo 3 _ 3 (by decide) hne, fo 3 _ 4 (by decide) hne]
      exact ⟨by omega, s2⟩
