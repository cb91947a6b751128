/-! Ok IS KEPT (printed by gen/all.py) -/
theorem ok_g_oclear {N : Nat} {g : SG} (h : OkN N g) (i : Nat) : OkN N (g_oclear g i) := by
  unfold g_oclear
  refine okU ?_ rfl ⟨0, by decide, rfl⟩
  refine okU ?_ rfl trivial
  refine okU ?_ rfl trivial
  refine okU ?_ rfl trivial
  exact h
theorem ok_g_rclear {N : Nat} {g : SG} (h : OkN N g) (i : Nat) : OkN N (g_rclear g i) := by
  unfold g_rclear
  refine okU ?_ rfl trivial
  refine okU ?_ rfl ⟨4, by decide, rfl⟩
  refine okU ?_ rfl (Or.inl rfl)
  refine okU ?_ rfl (Or.inl rfl)
  exact h
theorem ok_g_note {N : Nat} {g : SG} (h : OkN N g) (i : Nat) (t : Int32) (d : Int32) (ht : rng t 5) : OkN N (g_note g i t d) := by
  unfold g_note
  by_cases c_1 : (f_sees g i) = 0
  · rw [if_pos c_1]
    refine okU ?_ rfl trivial
    refine okU ?_ rfl ht
    exact h
  · rw [if_neg c_1]
    by_cases c_2 : (g 11 i 3) ≤ d
    · rw [if_pos c_2]
      exact h
    · rw [if_neg c_2]
      refine okU ?_ rfl trivial
      refine okU ?_ rfl ht
      exact h
theorem ok_g_pclear {N : Nat} {g : SG} (h : OkN N g) (i : Nat) : OkN N (g_pclear g i) := by
  unfold g_pclear
  refine okU ?_ rfl trivial
  refine okU ?_ rfl ⟨0, by decide, rfl⟩
  refine okU ?_ rfl trivial
  refine okU ?_ rfl trivial
  exact h
theorem ok_g_obeyTurns {N : Nat} {g : SG} (h : OkN N g) (i : Nat) : OkN N (g_obeyTurns g i) := by
  unfold g_obeyTurns
  by_cases c_1 : 16 < (g 3 i 8)
  · rw [if_pos c_1]
    refine okU ?_ rfl trivial
    refine okU ?_ rfl (turned_rng _ _)
    exact h
  · rw [if_neg c_1]
    refine okU ?_ rfl trivial
    refine okU ?_ rfl (turned_rng _ _)
    refine okU ?_ rfl (turned_rng _ _)
    exact h
theorem ok_g_changeSpeed {N : Nat} {g : SG} (h : OkN N g) (i : Nat) : OkN N (g_changeSpeed g i) := by
  unfold g_changeSpeed
  by_cases c_1 : (f_disabled g i) = 0
  · rw [if_pos c_1]
    by_cases c_2 : (g 3 i 9) ≤ (g 3 i 8)
    · rw [if_pos c_2]
      by_cases c_3 : (g 3 i 8) ≤ (g 3 i 9)
      · rw [if_pos c_3]
        exact h
      · rw [if_neg c_3]
        refine okU ?_ rfl trivial
        exact h
    · rw [if_neg c_2]
      refine okU ?_ rfl trivial
      exact h
  · rw [if_neg c_1]
    by_cases c_4 : 0 ≤ (g 3 i 8)
    · rw [if_pos c_4]
      by_cases c_5 : (g 3 i 8) ≤ 0
      · rw [if_pos c_5]
        exact h
      · rw [if_neg c_5]
        refine okU ?_ rfl trivial
        exact h
    · rw [if_neg c_4]
      refine okU ?_ rfl trivial
      exact h
theorem ok_g_goOn {N : Nat} {g : SG} (h : OkN N g) (i : Nat) : OkN N (g_goOn g i) := by
  unfold g_goOn
  by_cases c_1 : (f_walls ((g 3 i 3) + ((stepX ((g 3 i 5).toNatClampNeg)) * (g 3 i 8)))) = ((g 3 i 3) + ((stepX ((g 3 i 5).toNatClampNeg)) * (g 3 i 8)))
  · rw [if_pos c_1]
    by_cases c_2 : (f_walls ((g 3 i 4) + ((stepY ((g 3 i 5).toNatClampNeg)) * (g 3 i 8)))) = ((g 3 i 4) + ((stepY ((g 3 i 5).toNatClampNeg)) * (g 3 i 8)))
    · rw [if_pos c_2]
      refine okU ?_ rfl trivial
      refine okU ?_ rfl trivial
      exact h
    · rw [if_neg c_2]
      refine okU ?_ rfl trivial
      refine okU ?_ rfl (Or.inr rfl)
      refine okU ?_ rfl trivial
      refine okU ?_ rfl trivial
      exact h
  · rw [if_neg c_1]
    refine okU ?_ rfl trivial
    refine okU ?_ rfl (Or.inr rfl)
    refine okU ?_ rfl trivial
    refine okU ?_ rfl trivial
    exact h
theorem ok_g_cool {N : Nat} {g : SG} (h : OkN N g) (i : Nat) : OkN N (g_cool g i) := by
  unfold g_cool
  refine okU ?_ rfl trivial
  exact h
theorem ok_g_anew {N : Nat} {g : SG} (h : OkN N g) (i : Nat) : OkN N (g_anew g i) := by
  unfold g_anew
  refine ok_g_rclear ?_ i
  refine ok_g_oclear ?_ i
  refine ok_g_pclear ?_ i
  refine okU ?_ rfl (Or.inr rfl)
  refine okU ?_ rfl trivial
  refine okU ?_ rfl trivial
  refine okU ?_ rfl trivial
  refine okU ?_ rfl trivial
  refine okU ?_ rfl trivial
  refine okU ?_ rfl trivial
  refine okU ?_ rfl (h.1.1 3 i 2)
  refine okU ?_ rfl (h.1.1 3 i 2)
  refine okU ?_ rfl trivial
  refine okU ?_ rfl trivial
  exact h
theorem ok_g_stand {N : Nat} {g : SG} (h : OkN N g) (i : Nat) (px : Int32) (py : Int32) (dir : Int32) (hd : rng dir 8) : OkN N (g_stand g i px py dir) := by
  unfold g_stand
  refine ok_g_anew ?_ i
  refine okU ?_ rfl hd
  refine okU ?_ rfl trivial
  refine okU ?_ rfl trivial
  exact h
theorem ok_g_leave {N : Nat} {g : SG} (h : OkN N g) (k : Nat) (i : Nat) (num : Int32) (hp : rng (g 10 i 3) 4) (hg : rng (g 3 i 6) 8) (hn : rng num 4) : OkN N (g_leave g k i num) := by
  unfold g_leave
  refine okU ?_ rfl hn
  refine okU ?_ rfl hg
  refine okU ?_ rfl hp
  refine okU ?_ rfl trivial
  refine okU ?_ rfl trivial
  exact h
theorem ok_g_bgoOn {N : Nat} {g : SG} (h : OkN N g) (k : Nat) : OkN N (g_bgoOn g k) := by
  unfold g_bgoOn
  refine okU ?_ rfl trivial
  refine okU ?_ rfl trivial
  exact h
theorem ok_g_obey {N : Nat} {g : SG} (h : OkN N g) (i : Nat) (op : Int32) (a : Int32) (b : Int32) (hio : insOk op a b) : OkN N (g_obey g i op a b) := by
  unfold g_obey
  by_cases c_1 : op = 1
  · rw [if_pos c_1]
    refine okU ?_ rfl trivial
    exact h
  · rw [if_neg c_1]
    by_cases c_2 : op = 2
    · rw [if_pos c_2]
      refine okU ?_ rfl trivial
      exact h
    · rw [if_neg c_2]
      by_cases c_3 : op = 3
      · rw [if_pos c_3]
        refine okU ?_ rfl trivial
        exact h
      · rw [if_neg c_3]
        by_cases c_4 : op = 4
        · rw [if_pos c_4]
          refine okU ?_ rfl trivial
          exact h
        · rw [if_neg c_4]
          by_cases c_5 : op = 5
          · rw [if_pos c_5]
            refine okU ?_ rfl (hio.2.2.1 c_5)
            exact h
          · rw [if_neg c_5]
            by_cases c_6 : op = 6
            · rw [if_pos c_6]
              exact h
            · rw [if_neg c_6]
              by_cases c_7 : op = 7
              · rw [if_pos c_7]
                exact h
              · rw [if_neg c_7]
                by_cases c_8 : op = 8
                · rw [if_pos c_8]
                  exact h
                · rw [if_neg c_8]
                  by_cases c_9 : op = 9
                  · rw [if_pos c_9]
                    exact h
                  · rw [if_neg c_9]
                    by_cases c_10 : op = 10
                    · rw [if_pos c_10]
                      exact h
                    · rw [if_neg c_10]
                      by_cases c_11 : op = 11
                      · rw [if_pos c_11]
                        obtain ⟨es, hs⟩ := rng_j (hio.1 c_11) (by decide)
                        refine okU ?_ rfl trivial
                        exact h
                      · rw [if_neg c_11]
                        by_cases c_12 : op = 12
                        · rw [if_pos c_12]
                          obtain ⟨es, hs⟩ := rng_j (hio.2.1 c_12) (by decide)
                          refine okU ?_ rfl trivial
                          exact h
                        · rw [if_neg c_12]
                          exact h
theorem ok_L_spends {N : Nat} (i : Nat) : ∀ (n : Nat) (dn : Nat) (gl : SG), OkN N gl → dn ≤ 10 → 11 ≤ dn + n → OkN N (L_spends i n dn gl).2 := by
  intro n
  induction n with
  | zero => intro dn gl hv0 hv1 hv2; exact hv0
  | succ n ih =>
    intro dn gl hv0 hv1 hv2
    rw [L_spends]
    by_cases c_1 : 10 ≤ (nI dn)
    · rw [if_pos c_1]
      dsimp only
      exact hv0
    · rw [if_neg c_1]
      have hdn : dn < 10 := nlt_of (N := 10) rfl (by decide) (by omega) c_1
      by_cases c_2 : (gl 8 i 0) < (gl 4 i 0)
      · rw [if_pos c_2]
        obtain ⟨es, hs⟩ := ctr_j hv0 c_2
        have hio := hv0.1.2 i (gl 8 i 0).toNatClampNeg
        by_cases c_3 : (f_jumps (g_obey gl i (gl 5 i ((gl 8 i 0).toNatClampNeg)) (gl 6 i ((gl 8 i 0).toNatClampNeg)) (gl 7 i ((gl 8 i 0).toNatClampNeg))) i (gl 5 i ((gl 8 i 0).toNatClampNeg)) (gl 7 i ((gl 8 i 0).toNatClampNeg))) = 0
        · rw [if_pos c_3]
          by_cases c_4 : (gl 5 i ((gl 8 i 0).toNatClampNeg)) = 0
          · rw [if_pos c_4]
            dsimp only
            refine okU ?_ rfl (next_ty es hs)
            refine ok_g_obey ?_ i (gl 5 i ((gl 8 i 0).toNatClampNeg)) (gl 6 i ((gl 8 i 0).toNatClampNeg)) (gl 7 i ((gl 8 i 0).toNatClampNeg)) hio
            exact hv0
          · rw [if_neg c_4]
            exact ih (dn + 1) (up3 (g_obey gl i (gl 5 i ((gl 8 i 0).toNatClampNeg)) (gl 6 i ((gl 8 i 0).toNatClampNeg)) (gl 7 i ((gl 8 i 0).toNatClampNeg))) 8 i 0 ((gl 8 i 0) + 1)) (by refine okU ?_ rfl (next_ty es hs); refine ok_g_obey ?_ i (gl 5 i ((gl 8 i 0).toNatClampNeg)) (gl 6 i ((gl 8 i 0).toNatClampNeg)) (gl 7 i ((gl 8 i 0).toNatClampNeg)) hio; exact hv0) (by omega) (by omega)
        · rw [if_neg c_3]
          by_cases c_5 : (gl 5 i ((gl 8 i 0).toNatClampNeg)) = 0
          · rw [if_pos c_5]
            dsimp only
            refine okU ?_ rfl (jump_ty hio c_3)
            refine ok_g_obey ?_ i (gl 5 i ((gl 8 i 0).toNatClampNeg)) (gl 6 i ((gl 8 i 0).toNatClampNeg)) (gl 7 i ((gl 8 i 0).toNatClampNeg)) hio
            exact hv0
          · rw [if_neg c_5]
            exact ih (dn + 1) (up3 (g_obey gl i (gl 5 i ((gl 8 i 0).toNatClampNeg)) (gl 6 i ((gl 8 i 0).toNatClampNeg)) (gl 7 i ((gl 8 i 0).toNatClampNeg))) 8 i 0 (gl 6 i ((gl 8 i 0).toNatClampNeg))) (by refine okU ?_ rfl (jump_ty hio c_3); refine ok_g_obey ?_ i (gl 5 i ((gl 8 i 0).toNatClampNeg)) (gl 6 i ((gl 8 i 0).toNatClampNeg)) (gl 7 i ((gl 8 i 0).toNatClampNeg)) hio; exact hv0) (by omega) (by omega)
      · rw [if_neg c_2]
        dsimp only
        refine okU ?_ rfl ⟨0, by decide, rfl⟩
        exact hv0
theorem ok_x_spends {N : Nat} {g : SG} (h : OkN N g) (i : Nat) : OkN N (x_spends g i).2 := by
  have ok := h
  unfold x_spends
  exact ok_L_spends i 11 0 g ok (by decide) (by decide)
theorem ok_g_runProgram {N : Nat} {g : SG} (h : OkN N g) (i : Nat) : OkN N (g_runProgram g i) := by
  have ok := h
  unfold g_runProgram
  by_cases c_1 : ((x_spends g i).1) = 0
  · rw [if_pos c_1]
    refine ok_x_spends ?_ i
    exact ok
  · rw [if_neg c_1]
    refine okU ?_ rfl trivial
    refine ok_g_oclear ?_ i
    refine okU ?_ rfl trivial
    refine ok_x_spends ?_ i
    exact ok
theorem ok_L_runPrograms {N : Nat}  : ∀ (n : Nat) (i : Nat) (gl : SG), OkN N gl → i ≤ N → N + 1 ≤ i + n → OkN N (L_runPrograms n i gl) := by
  intro n
  induction n with
  | zero => intro i gl hv0 hv1 hv2; exact hv0
  | succ n ih =>
    intro i gl hv0 hv1 hv2
    obtain ⟨hN4, eN⟩ := hv0.N
    rw [L_runPrograms]
    by_cases c_1 : (gl 0 0 0) ≤ (nI i)
    · rw [if_pos c_1]
      exact hv0
    · rw [if_neg c_1]
      have hiN : i < N := nlt_of eN (by omega) (by omega) c_1
      have hi : i < 4 := by omega
      by_cases c_2 : ((g_oclear gl i) 3 i 13) = 0
      · rw [if_pos c_2]
        exact ih (i + 1) (g_oclear gl i) (by refine ok_g_oclear ?_ i; exact hv0) (by omega) (by omega)
      · rw [if_neg c_2]
        by_cases c_3 : (f_disabled (g_oclear gl i) i) = 0
        · rw [if_pos c_3]
          exact ih (i + 1) (g_runProgram (g_oclear gl i) i) (by refine ok_g_runProgram ?_ i; refine ok_g_oclear ?_ i; exact hv0) (by omega) (by omega)
        · rw [if_neg c_3]
          exact ih (i + 1) (g_oclear gl i) (by refine ok_g_oclear ?_ i; exact hv0) (by omega) (by omega)
theorem ok_g_runPrograms {N : Nat} {g : SG} (h : OkN N g)  : OkN N (g_runPrograms g) := by
  have ok := h
  obtain ⟨hN4, eN⟩ := ok.N
  unfold g_runPrograms
  exact ok_L_runPrograms 5 0 g ok (by omega) (by omega)
theorem ok_L_forget {N : Nat}  : ∀ (n : Nat) (i : Nat) (gl : SG), OkN N gl → i ≤ N → N + 1 ≤ i + n → OkN N (L_forget n i gl) := by
  intro n
  induction n with
  | zero => intro i gl hv0 hv1 hv2; exact hv0
  | succ n ih =>
    intro i gl hv0 hv1 hv2
    obtain ⟨hN4, eN⟩ := hv0.N
    rw [L_forget]
    by_cases c_1 : (gl 0 0 0) ≤ (nI i)
    · rw [if_pos c_1]
      exact hv0
    · rw [if_neg c_1]
      have hiN : i < N := nlt_of eN (by omega) (by omega) c_1
      have hi : i < 4 := by omega
      exact ih (i + 1) (g_rclear gl i) (by refine ok_g_rclear ?_ i; exact hv0) (by omega) (by omega)
theorem ok_g_forget {N : Nat} {g : SG} (h : OkN N g)  : OkN N (g_forget g) := by
  have ok := h
  obtain ⟨hN4, eN⟩ := ok.N
  unfold g_forget
  exact ok_L_forget 5 0 g ok (by omega) (by omega)
theorem ok_g_fire {N : Nat} {g : SG} (h : OkN N g) (i : Nat) (hfl : rng (g 0 0 2) 16) (hi : i < 4) : OkN N (g_fire g i) := by
  have ok := h
  obtain ⟨es, hs⟩ := rng_j hfl (by decide)
  obtain ⟨eb, hbu⟩ := rng_j (ok.1.1 2 0 (g 0 0 2).toNatClampNeg) (by decide)
  unfold g_fire
  refine okU ?_ rfl trivial
  refine okU ?_ rfl (fly_ty hfl)
  refine ok_g_leave ?_ ((g 2 0 ((g 0 0 2).toNatClampNeg)).toNatClampNeg) i (nI i) (ok.1.1 10 i 3) (ok.1.1 3 i 6) ⟨i, hi, rfl⟩
  refine okU ?_ rfl trivial
  refine okU ?_ rfl trivial
  exact ok
theorem ok_L_fireGuns {N : Nat}  : ∀ (n : Nat) (i : Nat) (gl : SG), OkN N gl → i ≤ N → N + 1 ≤ i + n → OkN N (L_fireGuns n i gl) := by
  intro n
  induction n with
  | zero => intro i gl hv0 hv1 hv2; exact hv0
  | succ n ih =>
    intro i gl hv0 hv1 hv2
    obtain ⟨hN4, eN⟩ := hv0.N
    rw [L_fireGuns]
    by_cases c_1 : (gl 0 0 0) ≤ (nI i)
    · rw [if_pos c_1]
      exact hv0
    · rw [if_neg c_1]
      have hiN : i < N := nlt_of eN (by omega) (by omega) c_1
      have hi : i < 4 := by omega
      by_cases c_2 : (gl 3 i 13) = 0
      · rw [if_pos c_2]
        exact ih (i + 1) gl hv0 (by omega) (by omega)
      · rw [if_neg c_2]
        by_cases c_3 : (f_canFire gl i) = 0
        · rw [if_pos c_3]
          exact ih (i + 1) gl hv0 (by omega) (by omega)
        · rw [if_neg c_3]
          by_cases c_4 : 16 ≤ (gl 0 0 2)
          · rw [if_pos c_4]
            exact ih (i + 1) gl hv0 (by omega) (by omega)
          · rw [if_neg c_4]
            have hfl := rng_lt (m := 16) (hv0.1.1 0 0 2) (by decide) (by decide) c_4
            exact ih (i + 1) (g_fire gl i) (by refine ok_g_fire ?_ i hfl hi; exact hv0) (by omega) (by omega)
theorem ok_g_fireGuns {N : Nat} {g : SG} (h : OkN N g)  : OkN N (g_fireGuns g) := by
  have ok := h
  obtain ⟨hN4, eN⟩ := ok.N
  unfold g_fireGuns
  exact ok_L_fireGuns 5 0 g ok (by omega) (by omega)
theorem ok_L_die {N : Nat}  : ∀ (n : Nat) (i : Nat) (gl : SG), OkN N gl → i ≤ N → N + 1 ≤ i + n → OkN N (L_die n i gl) := by
  intro n
  induction n with
  | zero => intro i gl hv0 hv1 hv2; exact hv0
  | succ n ih =>
    intro i gl hv0 hv1 hv2
    obtain ⟨hN4, eN⟩ := hv0.N
    rw [L_die]
    by_cases c_2 : (gl 0 0 0) ≤ (nI i)
    · rw [if_pos c_2]
      exact hv0
    · rw [if_neg c_2]
      have hiN : i < N := nlt_of eN (by omega) (by omega) c_2
      have hi : i < 4 := by omega
      by_cases c_3 : (gl 3 i 13) = 0
      · rw [if_pos c_3]
        exact ih (i + 1) gl hv0 (by omega) (by omega)
      · rw [if_neg c_3]
        exact ih (i + 1) (up3 gl 3 i 12 ((gl 3 i 12) + 400)) (by refine okU ?_ rfl trivial; exact hv0) (by omega) (by omega)
theorem ok_g_die {N : Nat} {g : SG} (h : OkN N g) (j : Nat) : OkN N (g_die g j) := by
  have ok := h
  obtain ⟨hN4, eN⟩ := ok.N
  unfold g_die
  by_cases c_1 : (g 3 j 10) ≤ 0
  · rw [if_pos c_1]
    exact ok_L_die 5 0 (up3 g 3 j 13 0) (by refine okU ?_ rfl (Or.inl rfl); exact ok) (by omega) (by omega)
  · rw [if_neg c_1]
    exact ok
theorem ok_g_strike {N : Nat} {g : SG} (h : OkN N g) (k : Nat) (j : Nat) : OkN N (g_strike g k j) := by
  have ok := h
  obtain ⟨es, hs⟩ := rng_j (ok.1.1 12 k 4) (by decide)
  unfold g_strike
  by_cases c_1 : (g 3 ((g 12 k 4).toNatClampNeg) 13) = 0
  · rw [if_pos c_1]
    refine ok_g_die ?_ j
    refine okU ?_ rfl trivial
    refine okU ?_ rfl trivial
    refine okU ?_ rfl (Or.inr rfl)
    refine okU ?_ rfl trivial
    exact ok
  · rw [if_neg c_1]
    refine ok_g_die ?_ j
    refine okU ?_ rfl trivial
    refine okU ?_ rfl trivial
    refine okU ?_ rfl trivial
    refine okU ?_ rfl (Or.inr rfl)
    refine okU ?_ rfl trivial
    exact ok
theorem ok_L_stays {N : Nat} (k : Nat) : ∀ (n : Nat) (gn : Nat) (gl : SG), OkN N gl → gn ≤ 8 → 9 ≤ gn + n → OkN N (L_stays k n gn gl).2 := by
  intro n
  induction n with
  | zero => intro gn gl hv0 hv1 hv2; exact hv0
  | succ n ih =>
    intro gn gl hv0 hv1 hv2
    rw [L_stays]
    by_cases c_1 : (8 - (gl 12 k 2)) ≤ (nI gn)
    · rw [if_pos c_1]
      dsimp only
      exact hv0
    · rw [if_neg c_1]
      have hgn : gn < 8 := pace_lt (hv0.1.1 12 k 2) (by omega) c_1
      by_cases c_2 : (f_inField (g_bgoOn gl k) k) = 0
      · rw [if_pos c_2]
        dsimp only
        refine ok_g_bgoOn ?_ k
        exact hv0
      · rw [if_neg c_2]
        by_cases c_3 : (f_struck (g_bgoOn gl k) k) = 4
        · rw [if_pos c_3]
          exact ih (gn + 1) (g_bgoOn gl k) (by refine ok_g_bgoOn ?_ k; exact hv0) (by omega) (by omega)
        · rw [if_neg c_3]
          obtain ⟨et, ht⟩ := struck_j (ok_g_bgoOn hv0 k) c_3
          dsimp only
          refine ok_g_strike ?_ k ((f_struck (g_bgoOn gl k) k).toNatClampNeg)
          refine ok_g_bgoOn ?_ k
          exact hv0
theorem ok_x_stays {N : Nat} {g : SG} (h : OkN N g) (k : Nat) : OkN N (x_stays g k).2 := by
  have ok := h
  unfold x_stays
  exact ok_L_stays k 9 0 g ok (by decide) (by decide)
theorem ok_L_fly {N : Nat} {K : Nat}  : ∀ (n : Nat) (kp : Nat) (i : Nat) (gl : SG), OkN N gl → gl 0 0 2 = nI K → K < 17 → kp ≤ i → i ≤ K → K + 1 ≤ i + n → OkN N (L_fly n kp i gl) := by
  intro n
  induction n with
  | zero => intro kp i gl hv0 hv1 hv2 hv3 hv4 hv5; exact hv0
  | succ n ih =>
    intro kp i gl hv0 hv1 hv2 hv3 hv4 hv5
    rw [L_fly]
    by_cases c_1 : (gl 0 0 2) ≤ (nI i)
    · rw [if_pos c_1]
      refine okU ?_ rfl ⟨kp, by omega, rfl⟩
      exact hv0
    · rw [if_neg c_1]
      have hiK : i < K := nlt_of hv1 (by omega) (by omega) c_1
      have hi : i < 16 := by omega
      obtain ⟨eb, hbu⟩ := rng_j (hv0.1.1 2 0 i) (by decide)
      by_cases c_2 : ((x_stays gl ((gl 2 0 i).toNatClampNeg)).1) = 0
      · rw [if_pos c_2]
        exact ih kp (i + 1) ((x_stays gl ((gl 2 0 i).toNatClampNeg)).2) (by refine ok_x_stays ?_ ((gl 2 0 i).toNatClampNeg); exact hv0) (by first | exact (stays_fly hv0 _).trans hv1 | exact hv1) hv2 (by omega) (by omega) (by omega)
      · rw [if_neg c_2]
        have ok2 := ok_x_stays hv0 (gl 2 0 i).toNatClampNeg
        obtain ⟨ec, hcu⟩ := rng_j (ok2.1.1 2 0 kp) (by decide)
        have hkp : kp < 16 := by omega
        exact ih (kp + 1) (i + 1) (up3 (up3 ((x_stays gl ((gl 2 0 i).toNatClampNeg)).2) 2 0 i (nI ((((x_stays gl ((gl 2 0 i).toNatClampNeg)).2) 2 0 kp).toNatClampNeg))) 2 0 kp (nI ((gl 2 0 i).toNatClampNeg))) (by refine okU ?_ rfl ⟨_, hbu, rfl⟩; refine okU ?_ rfl ⟨_, hcu, rfl⟩; refine ok_x_stays ?_ ((gl 2 0 i).toNatClampNeg); exact hv0) (by first | exact (stays_fly hv0 _).trans hv1 | exact hv1) hv2 (by omega) (by omega) (by omega)
theorem ok_g_fly {N : Nat} {g : SG} (h : OkN N g)  : OkN N (g_fly g) := by
  have ok := h
  obtain ⟨K, hK, eK⟩ : rng (g 0 0 2) 17 := ok.1.1 0 0 2
  unfold g_fly
  exact ok_L_fly 17 0 0 g ok eK hK (by omega) (by omega) (by omega)
theorem ok_g_drive {N : Nat} {g : SG} (h : OkN N g) (j : Nat) : OkN N (g_drive g j) := by
  have ok := h
  unfold g_drive
  obtain ⟨h3, eh3⟩ : ∃ z : SG, z = g_goOn (g_changeSpeed (g_obeyTurns g j) j) j := ⟨_, rfl⟩
  have okh3 : OkN N h3 := by rw [eh3]; refine ok_g_goOn ?_ j; refine ok_g_changeSpeed ?_ j; refine ok_g_obeyTurns ?_ j; exact ok
  rw [← eh3]
  unfold g_drive2
  by_cases c_1 : (f_touched h3 (nI j) (h3 3 j 3) (h3 3 j 4)) = 4
  · rw [if_pos c_1]
    by_cases c_2 : (h3 11 j 0) = 0
    · rw [if_pos c_2]
      refine ok_g_cool ?_ j
      refine ok_g_die ?_ j
      exact okh3
    · rw [if_neg c_2]
      refine ok_g_cool ?_ j
      refine ok_g_die ?_ j
      refine okU ?_ rfl trivial
      exact okh3
  · rw [if_neg c_1]
    obtain ⟨et, ht⟩ := touched_j okh3 c_1
    refine ok_g_cool ?_ j
    refine ok_g_die ?_ j
    refine ok_g_die ?_ ((f_touched h3 (nI j) (h3 3 j 3) (h3 3 j 4)).toNatClampNeg)
    refine okU ?_ rfl trivial
    refine okU ?_ rfl trivial
    refine okU ?_ rfl trivial
    refine okU ?_ rfl (Or.inr rfl)
    refine okU ?_ rfl trivial
    refine okU ?_ rfl trivial
    exact okh3
theorem ok_L_driveTanks {N : Nat}  : ∀ (n : Nat) (i : Nat) (gl : SG), OkN N gl → i ≤ N → N + 1 ≤ i + n → OkN N (L_driveTanks n i gl) := by
  intro n
  induction n with
  | zero => intro i gl hv0 hv1 hv2; exact hv0
  | succ n ih =>
    intro i gl hv0 hv1 hv2
    obtain ⟨hN4, eN⟩ := hv0.N
    rw [L_driveTanks]
    by_cases c_1 : (gl 0 0 0) ≤ (nI i)
    · rw [if_pos c_1]
      exact hv0
    · rw [if_neg c_1]
      have hiN : i < N := nlt_of eN (by omega) (by omega) c_1
      have hi : i < 4 := by omega
      by_cases c_2 : (gl 3 i 13) = 0
      · rw [if_pos c_2]
        exact ih (i + 1) gl hv0 (by omega) (by omega)
      · rw [if_neg c_2]
        exact ih (i + 1) (g_drive gl i) (by refine ok_g_drive ?_ i; exact hv0) (by omega) (by omega)
theorem ok_g_driveTanks {N : Nat} {g : SG} (h : OkN N g)  : OkN N (g_driveTanks g) := by
  have ok := h
  obtain ⟨hN4, eN⟩ := ok.N
  unfold g_driveTanks
  exact ok_L_driveTanks 5 0 g ok (by omega) (by omega)
theorem ok_L_look {N : Nat} (j : Nat) : ∀ (n : Nat) (i : Nat) (gl : SG), OkN N gl → i ≤ N → N + 1 ≤ i + n → OkN N (L_look j n i gl) := by
  intro n
  induction n with
  | zero => intro i gl hv0 hv1 hv2; exact hv0
  | succ n ih =>
    intro i gl hv0 hv1 hv2
    obtain ⟨hN4, eN⟩ := hv0.N
    rw [L_look]
    by_cases c_1 : (gl 0 0 0) ≤ (nI i)
    · rw [if_pos c_1]
      exact hv0
    · rw [if_neg c_1]
      have hiN : i < N := nlt_of eN (by omega) (by omega) c_1
      have hi : i < 4 := by omega
      by_cases c_2 : (nI i) = (nI j)
      · rw [if_pos c_2]
        exact ih (i + 1) gl hv0 (by omega) (by omega)
      · rw [if_neg c_2]
        by_cases c_3 : (gl 3 i 13) = 0
        · rw [if_pos c_3]
          exact ih (i + 1) gl hv0 (by omega) (by omega)
        · rw [if_neg c_3]
          by_cases c_4 : (f_sector gl j i) = (gl 3 j 7)
          · rw [if_pos c_4]
            exact ih (i + 1) (g_note gl j (nI i) (f_dist gl j (gl 3 i 3) (gl 3 i 4))) (by refine ok_g_note ?_ j (nI i) (f_dist gl j (gl 3 i 3) (gl 3 i 4)) ⟨i, by omega, rfl⟩; exact hv0) (by omega) (by omega)
          · rw [if_neg c_4]
            exact ih (i + 1) gl hv0 (by omega) (by omega)
theorem ok_g_look {N : Nat} {g : SG} (h : OkN N g) (j : Nat) : OkN N (g_look g j) := by
  have ok := h
  obtain ⟨hN4, eN⟩ := ok.N
  unfold g_look
  exact ok_L_look j 5 0 g ok (by omega) (by omega)
theorem ok_L_sweep {N : Nat}  : ∀ (n : Nat) (i : Nat) (gl : SG), OkN N gl → i ≤ N → N + 1 ≤ i + n → OkN N (L_sweep n i gl) := by
  intro n
  induction n with
  | zero => intro i gl hv0 hv1 hv2; exact hv0
  | succ n ih =>
    intro i gl hv0 hv1 hv2
    obtain ⟨hN4, eN⟩ := hv0.N
    rw [L_sweep]
    by_cases c_1 : (gl 0 0 0) ≤ (nI i)
    · rw [if_pos c_1]
      exact hv0
    · rw [if_neg c_1]
      have hiN : i < N := nlt_of eN (by omega) (by omega) c_1
      have hi : i < 4 := by omega
      by_cases c_2 : (gl 3 i 13) = 0
      · rw [if_pos c_2]
        exact ih (i + 1) gl hv0 (by omega) (by omega)
      · rw [if_neg c_2]
        exact ih (i + 1) (g_look gl i) (by refine ok_g_look ?_ i; exact hv0) (by omega) (by omega)
theorem ok_g_sweep {N : Nat} {g : SG} (h : OkN N g)  : OkN N (g_sweep g) := by
  have ok := h
  obtain ⟨hN4, eN⟩ := ok.N
  unfold g_sweep
  exact ok_L_sweep 5 0 g ok (by omega) (by omega)
theorem ok_x_turn {N : Nat} {g : SG} (h : OkN N g)  : OkN N (x_turn g).2 := by
  have ok := h
  unfold x_turn
  by_cases c_1 : 2 ≤ (f_alive g)
  · rw [if_pos c_1]
    dsimp only
    refine ok_g_sweep ?_
    refine ok_g_driveTanks ?_
    refine ok_g_fly ?_
    refine ok_g_fireGuns ?_
    refine ok_g_forget ?_
    refine ok_g_runPrograms ?_
    refine okU ?_ rfl trivial
    exact ok
  · rw [if_neg c_1]
    dsimp only
    exact ok
theorem ok_L_restart {N : Nat}  : ∀ (n : Nat) (made : Int32) (i : Nat) (gl : SG), OkN N gl → i ≤ N → N + 1 ≤ i + n → OkN N (L_restart n made i gl).2 := by
  intro n
  induction n with
  | zero => intro made i gl hv0 hv1 hv2; exact hv0
  | succ n ih =>
    intro made i gl hv0 hv1 hv2
    obtain ⟨hN4, eN⟩ := hv0.N
    rw [L_restart]
    by_cases c_1 : (gl 0 0 0) ≤ (nI i)
    · rw [if_pos c_1]
      dsimp only
      refine okU ?_ rfl trivial
      refine okU ?_ rfl trivial
      refine okU ?_ rfl ⟨0, by decide, rfl⟩
      refine okU ?_ rfl trivial
      exact hv0
    · rw [if_neg c_1]
      have hiN : i < N := nlt_of eN (by omega) (by omega) c_1
      have hi : i < 4 := by omega
      exact ih made (i + 1) (g_anew gl i) (by refine ok_g_anew ?_ i; exact hv0) (by omega) (by omega)
theorem ok_x_restart {N : Nat} {g : SG} (h : OkN N g)  : OkN N (x_restart g).2 := by
  have ok := h
  obtain ⟨hN4, eN⟩ := ok.N
  unfold x_restart
  exact ok_L_restart 5 (g 0 0 1) 0 g ok (by omega) (by omega)
