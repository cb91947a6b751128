/-! SIMULATION: driving and looking, all tanks (mine) -/
theorem QR.drive {N F T i : Nat} {birth ob : Nat → Nat} {g r g' r' : SG} (h : QR N N F T birth ob (fun q => if q < i then 1 else 0) g r) (ok : OkN N g') (ts : TS N N g' r') (ti : TI N g') (hg : ∀ a b c, (a = 0 ∧ c = 2) ∨ a = 2 ∨ a = 12 → g' a b c = g a b c) (ha : ∀ b, ¬ g' 3 b 13 = 0 → ¬ g 3 b 13 = 0) (hh : ∀ b, b ≠ i → g' 3 b 11 = g 3 b 11) (hi : ¬ g' 3 i 13 = 0 → (g 3 i 11).toInt ≤ (g' 3 i 11).toInt + 2) (hr : ∀ a c, 28 ≤ a ∨ (a = 0 ∧ c = 4) → r' a 0 c = r a 0 c) : QR N N F T birth ob (fun q => if q < i + 1 then 1 else 0) g' r' := by
  obtain ⟨h1, h2, h3, h4, h5, h6, h7, h8⟩ := h
  have el : lvf r' F 0 = lvf r F 0 := lvf_congr _ _ (fun c _ _ => by rw [hr 33 c (Or.inl (by decide))])
  have ep : ∀ p, pl g' p = pl g p := fun p => by unfold pl; rw [hg 2 0 p (by omega)]
  have eo : ∀ b, own r' b = own r b := fun b => by unfold own; rw [hr 32 b (by omega)]
  refine ⟨ok, ts, by rw [hr 0 4 (by omega)]; exact h3, by rw [hg 0 0 2 (by omega), el]; exact h4, fun p q hp hq e => h5 p q hp hq (by rw [← ep, ← ep]; exact e), ti, ?_, ?_⟩
  · obtain ⟨b1, b2, b3, b4⟩ := h7
    refine ⟨fun b hb => by rw [eo]; exact b1 b hb, fun b c hbc hc => by rw [eo, eo]; exact b2 b c hbc hc, fun b hb hal => ?_, fun b hb => ?_⟩
    · rw [eo] at hal ⊢
      have h3 := b3 b hb (ha _ hal)
      dsimp only at h3 ⊢
      by_cases e : own r b = i
      · rw [e] at hal h3 ⊢
        have := hi hal
        rw [if_neg (Nat.lt_irrefl i)] at h3
        rw [if_pos (Nat.lt_succ_self i)]
        omega
      · rw [hh _ e]
        by_cases e2 : own r b < i
        · rw [if_pos e2] at h3; rw [if_pos (by omega)]; exact h3
        · rw [if_neg e2] at h3; rw [if_neg (by omega)]; exact h3
    · rw [hr 33 b (by omega), hr 30 b (by omega), hr 31 b (by omega), hr 28 b (by omega), hr 29 b (by omega)]
      exact b4 b hb
  · rw [el]
    exact BL_congr _ _ (fun q _ _ => ⟨ep q, fun f => hg 12 _ f (by omega)⟩) (fun b _ k hk1 _ => hr k b (by omega)) h8
theorem ph5_L {N F T : Nat} {birth ob : Nat → Nat} : ∀ (n i : Nat) (g r : SG), i ≤ N → i + n < 100 → N + 1 ≤ i + n → QR N N F T birth ob (fun q => if q < i then 1 else 0) g r → (∀ j, j < N → g 11 j 2 = 4) → ∃ r', L_Rt5 n i r = L_Rt6 5 0 r' ∧ QR N N F T birth ob (fun _ => 1) (L_driveTanks n i g) r' ∧ ∀ j, j < N → L_driveTanks n i g 11 j 2 = 4 := by
  intro n
  induction n with
  | zero => intro i g r h0 h1 h2; exfalso; omega
  | succ n ih =>
    intro i g r h0 h1 h2 q hs
    have ok := q.1
    have ts := q.2.1
    have ti := q.2.2.2.2.2.1
    simp only [L_Rt5, L_driveTanks]
    rw [ts.n0]
    by_cases c : g 0 0 0 ≤ nI i
    · rw [if_pos c, if_pos c]
      have : i = N := by
        rcases Nat.lt_or_ge i N with x | x
        · exact absurd (by rw [ok.N.2] at c; exact c) (nI_ge x (by have := ok.N.1; omega))
        · omega
      subst this
      obtain ⟨h1, h2, h3, h4, h5, h6, ⟨b1, b2, b3, b4⟩, h8⟩ := q
      refine ⟨r, rfl, ⟨h1, h2, h3, h4, h5, h6, ⟨b1, b2, fun b hb hal => ?_, b4⟩, h8⟩, hs⟩
      have := b3 b hb hal
      dsimp only at this ⊢
      rw [if_pos (b1 b hb).2] at this
      exact this
    · rw [if_neg c, if_neg c]
      obtain ⟨hiN, hi⟩ := nlt4 ok.N.1 ok.N.2 c (by omega)
      rw [ts.r21 hi]
      by_cases c2 : g 3 i 13 = 0
      · rw [if_pos c2, if_pos c2]
        exact ih (i + 1) _ _ (by omega) (by omega) (by omega) (q.drive ok ts ti (fun _ _ _ _ => rfl) (fun _ h => h) (fun _ _ => rfl) (fun h => absurd c2 h) (fun _ _ _ => rfl)) hs
      · rw [if_neg c2, if_neg c2]
        obtain ⟨d1, d2, d3, d4, d5, d6⟩ := drive_f ok ti hiN c2
        have ts' := s_drive hi hiN hiN ok c2 (ti.ht i hiN).1 ts
        refine ih (i + 1) _ _ (by omega) (by omega) (by omega) (q.drive (ok_g_drive ok i) ts' d6 (fun a b c h => d1 a b c (by omega) (by omega)) d2 d3 (fun _ => ?_) (fun a c h => Rdrive_k h)) (fun j hj => by rw [d1 11 j 2 (by decide) (by decide)]; exact hs j hj)
        have hh := ti.ht i hiN
        have e2 : (2 : Int32).toInt = 2 := by decide
        have e0 : (0 : Int32).toInt = 0 := by decide
        have e1 : (g 3 i 11 - 2).toInt = (g 3 i 11).toInt - 2 := i32_sub rfl e2 (by omega) (by omega)
        rw [d4]
        unfold imax
        split
        · rename_i c
          rw [Int32.lt_iff_toInt_lt, e1, e0] at c
          rw [e0]; omega
        · rw [e1]; omega
theorem look_k {j a b c : Nat} (h : a ≠ 11 ∨ b ≠ j ∨ (c ≠ 2 ∧ c ≠ 3)) : ∀ (n i : Nat) (g : SG), L_look j n i g a b c = g a b c := by
  have hn : ∀ (g : SG) (t d : Int32), g_note g j t d a b c = g a b c := fun g t d => by
    unfold g_note
    simp only [ite_app3]
    split
    · simp only [up3_at]; repeat rw [if_neg (by omega)]
    · split
      · rfl
      · simp only [up3_at]; repeat rw [if_neg (by omega)]
  intro n
  induction n with
  | zero => intro i g; rfl
  | succ n ih =>
    intro i g
    simp only [L_look, ite_app3, ih, hn, ite_self]
/-- whom a look finds: alive, another -/
theorem look_see {N j : Nat} (hN : N < 5) : ∀ (n i : Nat) (g : SG), i + n < 100 → g 0 0 0 = nI N → ∀ P : Int32 → Prop, P (g 11 j 2) → (∀ q, q < N → q ≠ j → ¬ g 3 q 13 = 0 → P (nI q)) → P (L_look j n i g 11 j 2) := by
  intro n
  induction n with
  | zero => intro i g _ _ P h _; exact h
  | succ n ih =>
    intro i g hin e P h hP
    simp only [L_look]
    by_cases c : g 0 0 0 ≤ nI i
    · rw [if_pos c]; exact h
    · rw [if_neg c]
      obtain ⟨hiN, hi⟩ := nlt4 hN e c (by omega)
      by_cases c2 : nI i = nI j
      · rw [if_pos c2]; exact ih _ _ (by omega) e P h hP
      · rw [if_neg c2]
        by_cases c3 : g 3 i 13 = 0
        · rw [if_pos c3]; exact ih _ _ (by omega) e P h hP
        · rw [if_neg c3]
          by_cases c4 : f_sector g j i = g 3 j 7
          · rw [if_pos c4]
            have hij : i ≠ j := fun x => c2 (by rw [x])
            refine ih _ _ (by omega) (by rw [note_k (by decide)]; exact e) P ?_ (fun q h1 h2 h3 => hP q h1 h2 (by rw [note_k (by decide)] at h3; exact h3))
            have hq := hP i hiN hij c3
            unfold g_note
            simp only [ite_app3]
            split
            · simpa [up3] using hq
            · split
              · exact h
              · simpa [up3] using hq
          · rw [if_neg c4]; exact ih _ _ (by omega) e P h hP
theorem Rlook_k {t a c : Nat} (h : a ≠ 24 ∧ a ≠ 25) : ∀ (n i : Nat) (r : SG), L_Rlook t n i r a 0 c = r a 0 c := by
  intro n
  induction n with
  | zero => intro i r; rfl
  | succ n ih =>
    intro i r
    have hu : ∀ v w, up3 (up3 r 24 0 t v) 25 0 t w a 0 c = r a 0 c := fun v w => by
      simp only [up3_at]; repeat rw [if_neg (by omega)]
    simp only [L_Rlook, ite_app3, ih, hu, ite_self]
theorem ph6_L {N F T : Nat} {birth ob ot : Nat → Nat} : ∀ (n i : Nat) (g r : SG), i ≤ N → i + n < 100 → N + 1 ≤ i + n → QR N N F T birth ob ot g r → SI N g → ∃ r', L_Rt6 n i r = (f_Rliving r', r') ∧ QR N N F T birth ob ot (L_sweep n i g) r' ∧ SI N (L_sweep n i g) := by
  intro n
  induction n with
  | zero => intro i g r h0 h1 h2; exfalso; omega
  | succ n ih =>
    intro i g r h0 h1 h2 q si
    have ok := q.1
    have ts := q.2.1
    have ti := q.2.2.2.2.2.1
    simp only [L_Rt6, L_sweep]
    rw [ts.n0]
    by_cases c : g 0 0 0 ≤ nI i
    · rw [if_pos c, if_pos c]
      exact ⟨r, rfl, q, si⟩
    · rw [if_neg c, if_neg c]
      obtain ⟨hiN, hi⟩ := nlt4 ok.N.1 ok.N.2 c (by omega)
      rw [ts.r21 hi]
      by_cases c2 : g 3 i 13 = 0
      · rw [if_pos c2, if_pos c2]
        exact ih (i + 1) _ _ (by omega) (by omega) (by omega) q si
      · rw [if_neg c2, if_neg c2]
        have gk : ∀ a b c, (a ≠ 11 ∨ b ≠ i ∨ (c ≠ 2 ∧ c ≠ 3)) → g_look g i a b c = g a b c := fun a b c h => look_k h 5 0 g
        refine ih (i + 1) _ _ (by omega) (by omega) (by omega) (q.same (ok_g_look ok i) (s_look hi hiN ok ti c2 ts) (fun a b c h => gk a b c (by omega)) (fun a c h => Rlook_k (by omega) 5 0 r)) ?_
        intro j hj
        rw [gk 3 j 3 (by omega), gk 3 j 4 (by omega), gk 3 _ 3 (by omega), gk 3 _ 4 (by omega)]
        by_cases e : j = i
        · subst e
          refine look_see (j := j) ok.N.1 5 0 g (by decide) ok.N.2 (fun v => ¬ v = 4 → v.toNatClampNeg < N ∧ ¬ (g 3 v.toNatClampNeg 3 = g 3 j 3 ∧ g 3 v.toNatClampNeg 4 = g 3 j 4)) (si j hj) (fun x hx hxj hxa _ => ?_)
          rw [nI_clamp (by have := ok.N.1; omega)]
          exact ⟨hx, ti.np j x hj hx (fun h => hxj h.symm) c2 hxa⟩
        · rw [gk 11 j 2 (by omega)]
          exact si j hj
