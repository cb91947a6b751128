/-! Rok IS KEPT (printed by gen/all_r.py) -/
theorem ok_g_Rforget {N : Nat} {g : SG} (h : RokN N g) (t : Nat) : RokN N (g_Rforget g t) := by
  unfold g_Rforget
  refine rokU ?_ rfl trivial
  refine rokU ?_ rfl ⟨4, by decide, rfl⟩
  refine rokU ?_ rfl (Or.inl rfl)
  refine rokU ?_ rfl (Or.inl rfl)
  exact h
theorem ok_g_Rreset {N : Nat} {g : SG} (h : RokN N g) (t : Nat) : RokN N (g_Rreset g t) := by
  unfold g_Rreset
  refine ok_g_Rforget ?_ t
  refine rokU ?_ rfl (Or.inr rfl)
  refine rokU ?_ rfl trivial
  refine rokU ?_ rfl trivial
  refine rokU ?_ rfl trivial
  refine rokU ?_ rfl trivial
  refine rokU ?_ rfl ⟨0, by decide, rfl⟩
  refine rokU ?_ rfl trivial
  refine rokU ?_ rfl trivial
  refine rokU ?_ rfl trivial
  refine rokU ?_ rfl trivial
  refine rokU ?_ rfl trivial
  refine rokU ?_ rfl trivial
  refine rokU ?_ rfl trivial
  refine rokU ?_ rfl trivial
  refine rokU ?_ rfl trivial
  exact h
theorem ok_x_Rjumps {N : Nat} {g : SG} (h : RokN N g) (t : Nat) (op : Int32) (b : Int32) (hio : op = 12 → rng b 2) (ht : t < 4) : RokN N (x_Rjumps g t op b).2 := by
  have ok := h
  unfold x_Rjumps
  by_cases c_1 : op = 6
  · rw [if_pos c_1]
    dsimp only
    exact ok
  · rw [if_neg c_1]
    by_cases c_2 : op = 7
    · rw [if_pos c_2]
      by_cases c_3 : 4 ≤ (g 24 0 t)
      · rw [if_pos c_3]
        dsimp only
        exact ok
      · rw [if_neg c_3]
        dsimp only
        exact ok
    · rw [if_neg c_2]
      by_cases c_4 : op = 8
      · rw [if_pos c_4]
        dsimp only
        exact ok
      · rw [if_neg c_4]
        by_cases c_5 : op = 9
        · rw [if_pos c_5]
          dsimp only
          exact ok
        · rw [if_neg c_5]
          by_cases c_6 : op = 10
          · rw [if_pos c_6]
            by_cases c_7 : 4 ≤ (g 24 0 t)
            · rw [if_pos c_7]
              dsimp only
              exact ok
            · rw [if_neg c_7]
              obtain ⟨es, hs⟩ := lt4_j (ok.1.1 24 0 t) c_7
              by_cases c_8 : (f_Rsector ((g 8 0 ((g 24 0 t).toNatClampNeg)) - (g 8 0 t)) ((g 9 0 ((g 24 0 t).toNatClampNeg)) - (g 9 0 t))) = (g 11 0 t)
              · rw [if_pos c_8]
                dsimp only
                exact ok
              · rw [if_neg c_8]
                dsimp only
                exact ok
          · rw [if_neg c_6]
            by_cases c_9 : op = 11
            · rw [if_pos c_9]
              dsimp only
              exact ok
            · rw [if_neg c_9]
              by_cases c_10 : op = 12
              · rw [if_pos c_10]
                obtain ⟨eb, hb2⟩ := rng_j (hio c_10) (by decide)
                have er : 2 * nI t + b = nI (2 * t + b.toNatClampNeg) := nI_lin 2 rfl eb
                have hrg : 2 * t + b.toNatClampNeg < 8 := by omega
                by_cases c_11 : ((g 18 0 (2 * t + b.toNatClampNeg)) - 1) ≤ 0
                · rw [if_pos c_11]
                  dsimp only
                  refine rokU ?_ rfl trivial
                  exact ok
                · rw [if_neg c_11]
                  dsimp only
                  refine rokU ?_ rfl trivial
                  exact ok
              · rw [if_neg c_10]
                dsimp only
                exact ok
theorem ok_J_Rperf67 {N : Nat} (t : Nat) (op a b : Int32) (gl : SG) (hv0 : RokN N gl) (hv1 : rng (gl 17 0 t) 16) (hv2 : insOk op a b) (hv3 : t < 4) : RokN N (J_Rperf67 t op a b gl) := by
  unfold J_Rperf67
  have hc := hv1
  have hio := hv2
  have ht := hv3
  by_cases c_1 : ((x_Rjumps gl t op b).1) = 0
  · rw [if_pos c_1]
    refine rokU ?_ rfl (nextR hc)
    refine ok_x_Rjumps ?_ t op b hio.2.1 ht
    exact hv0
  · rw [if_neg c_1]
    refine rokU ?_ rfl (jumpR_ty hio c_1)
    refine ok_x_Rjumps ?_ t op b hio.2.1 ht
    exact hv0
theorem ok_J_Rperf49 {N : Nat} (t : Nat) (op a b : Int32) (gl : SG) (hv0 : RokN N gl) (hv1 : rng (gl 17 0 t) 16) (hv2 : insOk op a b) (hv3 : t < 4) : RokN N (J_Rperf49 t op a b gl) := by
  unfold J_Rperf49
  have hc := hv1
  have hio := hv2
  have ht := hv3
  by_cases c_2 : op = 11
  · rw [if_pos c_2]
    obtain ⟨eb, hb2⟩ := rng_j (hio.1 c_2) (by decide)
    have er : 2 * nI t + a = nI (2 * t + a.toNatClampNeg) := nI_lin 2 rfl eb
    have hrg : 2 * t + a.toNatClampNeg < 8 := by omega
    exact ok_J_Rperf67 t op a b (up3 gl 18 0 (2 * t + a.toNatClampNeg) b) (by refine rokU ?_ rfl trivial; exact hv0) hv1 hio ht
  · rw [if_neg c_2]
    exact ok_J_Rperf67 t op a b gl hv0 hv1 hio ht
theorem ok_J_Rperf37 {N : Nat} (t : Nat) (op a b : Int32) (gl : SG) (hv0 : RokN N gl) (hv1 : rng (gl 17 0 t) 16) (hv2 : insOk op a b) (hv3 : t < 4) : RokN N (J_Rperf37 t op a b gl) := by
  unfold J_Rperf37
  have hc := hv1
  have hio := hv2
  have ht := hv3
  by_cases c_3 : op = 5
  · rw [if_pos c_3]
    exact ok_J_Rperf49 t op a b (up3 gl 27 0 t a) (by refine rokU ?_ rfl (hio.2.2.1 c_3); exact hv0) hv1 hio ht
  · rw [if_neg c_3]
    exact ok_J_Rperf49 t op a b gl hv0 hv1 hio ht
theorem ok_J_Rperf14 {N : Nat} (t : Nat) (op a b : Int32) (gl : SG) (hv0 : RokN N gl) (hv1 : rng (gl 17 0 t) 16) (hv2 : insOk op a b) (hv3 : t < 4) : RokN N (J_Rperf14 t op a b gl) := by
  unfold J_Rperf14
  have hc := hv1
  have hio := hv2
  have ht := hv3
  by_cases c_4 : op ≤ 1
  · rw [if_pos c_4]
    exact ok_J_Rperf37 t op a b gl hv0 hv1 hio ht
  · rw [if_neg c_4]
    by_cases c_5 : 5 ≤ op
    · rw [if_pos c_5]
      exact ok_J_Rperf37 t op a b gl hv0 hv1 hio ht
    · rw [if_neg c_5]
      obtain ⟨ei, hi2⟩ := turn_j (t := t) c_4 c_5 ht
      exact ok_J_Rperf37 t op a b (up3 gl 26 0 (4 * (op.toNatClampNeg - 2) + t) a) (by refine rokU ?_ rfl trivial; exact hv0) hv1 hio ht
theorem ok_g_Rperform {N : Nat} {g : SG} (h : RokN N g) (t : Nat) (op : Int32) (a : Int32) (b : Int32) (hio : insOk op a b) (hc : rng (g 17 0 t) 16) (ht : t < 4) : RokN N (g_Rperform g t op a b) := by
  have ok := h
  unfold g_Rperform
  by_cases c_6 : op = 1
  · rw [if_pos c_6]
    exact ok_J_Rperf14 t op a b (up3 g 14 0 t (4 * a)) (by refine rokU ?_ rfl trivial; exact ok) hc hio ht
  · rw [if_neg c_6]
    exact ok_J_Rperf14 t op a b g ok hc hio ht
theorem ok_L_RnoAsking {N : Nat} (t : Nat) : ∀ (n : Nat) (k : Nat) (gl : SG), RokN N gl → k ≤ 3 → 4 ≤ k + n → RokN N (L_RnoAsking t n k gl) := by
  intro n
  induction n with
  | zero => intro k gl hv0 hv1 hv2; exact hv0
  | succ n ih =>
    intro k gl hv0 hv1 hv2
    rw [L_RnoAsking]
    by_cases c_1 : 3 ≤ (nI k)
    · rw [if_pos c_1]
      refine rokU ?_ rfl ⟨0, by decide, rfl⟩
      exact hv0
    · rw [if_neg c_1]
      have hk : k < 3 := nlt_of (N := 3) rfl (by decide) (by omega) c_1
      exact ih (k + 1) (up3 gl 26 0 (4 * k + t) 0) (by refine rokU ?_ rfl trivial; exact hv0) (by omega) (by omega)
theorem ok_g_RnoAsking {N : Nat} {g : SG} (h : RokN N g) (t : Nat) : RokN N (g_RnoAsking g t) := by
  have ok := h
  unfold g_RnoAsking
  exact ok_L_RnoAsking t 4 0 g ok (by decide) (by decide)
theorem ok_L_Rprogram {N : Nat} (t : Nat) (ht : t < 4) : ∀ (n : Nat) (bf : Int32) (dn : Nat) (gl : SG), RokN N gl → dn ≤ 10 → 11 ≤ dn + n → RokN N (L_Rprogram t n bf dn gl) := by
  intro n
  induction n with
  | zero => intro bf dn gl hv0 hv1 hv2; exact hv0
  | succ n ih =>
    intro bf dn gl hv0 hv1 hv2
    rw [L_Rprogram]
    by_cases c_1 : 10 ≤ (nI dn)
    · rw [if_pos c_1]
      refine rokU ?_ rfl trivial
      refine ok_g_RnoAsking ?_ t
      refine rokU ?_ rfl trivial
      exact hv0
    · rw [if_neg c_1]
      have hdn : dn < 10 := nlt_of (N := 10) rfl (by decide) (by omega) c_1
      by_cases c_2 : (gl 17 0 t) < (gl 4 0 t)
      · rw [if_pos c_2]
        obtain ⟨es, hs⟩ := ctrR_j hv0 c_2
        have hc : rng (gl 17 0 t) 16 := ⟨(gl 17 0 t).toNatClampNeg, hs, es⟩
        have ea : 16 * nI t + gl 17 0 t = nI (16 * t + (gl 17 0 t).toNatClampNeg) := nI_lin 16 rfl es
        have ha : 16 * t + (gl 17 0 t).toNatClampNeg < 64 := by omega
        have hio := hv0.1.2 (16 * t + (gl 17 0 t).toNatClampNeg)
        by_cases c_3 : ((g_Rperform gl t (gl 5 0 (16 * t + (gl 17 0 t).toNatClampNeg)) (gl 6 0 (16 * t + (gl 17 0 t).toNatClampNeg)) (gl 7 0 (16 * t + (gl 17 0 t).toNatClampNeg))) 5 0 (16 * t + (gl 17 0 t).toNatClampNeg)) = 0
        · rw [if_pos c_3]
          refine ok_g_Rperform ?_ t (gl 5 0 (16 * t + (gl 17 0 t).toNatClampNeg)) (gl 6 0 (16 * t + (gl 17 0 t).toNatClampNeg)) (gl 7 0 (16 * t + (gl 17 0 t).toNatClampNeg)) hio hc ht
          exact hv0
        · rw [if_neg c_3]
          exact ih bf (dn + 1) (g_Rperform gl t (gl 5 0 (16 * t + (gl 17 0 t).toNatClampNeg)) (gl 6 0 (16 * t + (gl 17 0 t).toNatClampNeg)) (gl 7 0 (16 * t + (gl 17 0 t).toNatClampNeg))) (by refine ok_g_Rperform ?_ t (gl 5 0 (16 * t + (gl 17 0 t).toNatClampNeg)) (gl 6 0 (16 * t + (gl 17 0 t).toNatClampNeg)) (gl 7 0 (16 * t + (gl 17 0 t).toNatClampNeg)) hio hc ht; exact hv0) (by omega) (by omega)
      · rw [if_neg c_2]
        refine rokU ?_ rfl ⟨0, by decide, rfl⟩
        exact hv0
theorem ok_g_Rprogram {N : Nat} {g : SG} (h : RokN N g) (t : Nat) (ht : t < 4) : RokN N (g_Rprogram g t) := by
  have ok := h
  unfold g_Rprogram
  exact ok_L_Rprogram t ht 11 (g 14 0 t) 0 g ok (by decide) (by decide)
theorem ok_g_Rfire {N : Nat} {g : SG} (h : RokN N g) (t : Nat) (hf : rng (g 0 0 4) 600) (ht : t < 4) : RokN N (g_Rfire g t) := by
  have ok := h
  obtain ⟨es, hs⟩ := rng_j hf (by decide)
  unfold g_Rfire
  by_cases c_1 : (g 27 0 t) = 0
  · rw [if_pos c_1]
    exact ok
  · rw [if_neg c_1]
    by_cases c_2 : 0 < (g 16 0 t)
    · rw [if_pos c_2]
      exact ok
    · rw [if_neg c_2]
      by_cases c_3 : (8 * (g 27 0 t)) < (g 15 0 t)
      · rw [if_pos c_3]
        refine rokU ?_ rfl trivial
        refine rokU ?_ rfl trivial
        refine rokU ?_ rfl (Or.inl rfl)
        refine rokU ?_ rfl ⟨t, ht, rfl⟩
        refine rokU ?_ rfl trivial
        refine rokU ?_ rfl (ok.1.1 27 0 t)
        refine rokU ?_ rfl trivial
        refine rokU ?_ rfl trivial
        refine rokU ?_ rfl trivial
        refine rokU ?_ rfl trivial
        exact ok
      · rw [if_neg c_3]
        exact ok
theorem ok_L_Rcheck {N : Nat}  : ∀ (n : Nat) (i : Nat) (gl : SG), RokN N gl → i ≤ N → N + 1 ≤ i + n → RokN N (L_Rcheck n i gl) := by
  intro n
  induction n with
  | zero => intro i gl hv0 hv1 hv2; exact hv0
  | succ n ih =>
    intro i gl hv0 hv1 hv2
    obtain ⟨hN4, eN⟩ := hv0.N
    rw [L_Rcheck]
    by_cases c_3 : (gl 0 0 0) ≤ (nI i)
    · rw [if_pos c_3]
      exact hv0
    · rw [if_neg c_3]
      have hiN : i < N := nlt_of eN (by omega) (by omega) c_3
      have hi : i < 4 := by omega
      by_cases c_4 : (gl 21 0 i) = 0
      · rw [if_pos c_4]
        exact ih (i + 1) gl hv0 (by omega) (by omega)
      · rw [if_neg c_4]
        exact ih (i + 1) (up3 gl 20 0 i ((gl 20 0 i) + 400)) (by refine rokU ?_ rfl trivial; exact hv0) (by omega) (by omega)
theorem ok_g_Rcheck {N : Nat} {g : SG} (h : RokN N g) (t : Nat) : RokN N (g_Rcheck g t) := by
  have ok := h
  obtain ⟨hN4, eN⟩ := ok.N
  unfold g_Rcheck
  by_cases c_1 : (g 21 0 t) = 0
  · rw [if_pos c_1]
    exact ok
  · rw [if_neg c_1]
    by_cases c_2 : (g 15 0 t) ≤ 0
    · rw [if_pos c_2]
      exact ok_L_Rcheck 5 0 (up3 g 21 0 t 0) (by refine rokU ?_ rfl (Or.inl rfl); exact ok) (by omega) (by omega)
    · rw [if_neg c_2]
      exact ok
theorem ok_g_Rstrike {N : Nat} {g : SG} (h : RokN N g) (bi : Nat) (t : Nat) : RokN N (g_Rstrike g bi t) := by
  have ok := h
  obtain ⟨es, hs⟩ := rng_j (ok.1.1 32 0 bi) (by decide)
  unfold g_Rstrike
  by_cases c_1 : (g 21 0 ((g 32 0 bi).toNatClampNeg)) = 0
  · rw [if_pos c_1]
    refine ok_g_Rcheck ?_ t
    refine rokU ?_ rfl (Or.inr rfl)
    refine rokU ?_ rfl trivial
    refine rokU ?_ rfl trivial
    refine rokU ?_ rfl (Or.inr rfl)
    refine rokU ?_ rfl trivial
    exact ok
  · rw [if_neg c_1]
    refine ok_g_Rcheck ?_ t
    refine rokU ?_ rfl (Or.inr rfl)
    refine rokU ?_ rfl trivial
    refine rokU ?_ rfl trivial
    refine rokU ?_ rfl trivial
    refine rokU ?_ rfl (Or.inr rfl)
    refine rokU ?_ rfl trivial
    exact ok
theorem ok_L_Rfly {N : Nat} (bi : Nat) : ∀ (n : Nat) (k : Nat) (gl : SG), RokN N gl → k ≤ 8 → 9 ≤ k + n → RokN N (L_Rfly bi n k gl) := by
  intro n
  induction n with
  | zero => intro k gl hv0 hv1 hv2; exact hv0
  | succ n ih =>
    intro k gl hv0 hv1 hv2
    rw [L_Rfly]
    by_cases c_1 : (8 - (gl 30 0 bi)) ≤ (nI k)
    · rw [if_pos c_1]
      exact hv0
    · rw [if_neg c_1]
      have hk : k < 8 := pace_lt (hv0.1.1 30 0 bi) (by omega) c_1
      by_cases c_2 : (gl 33 0 bi) = 0
      · rw [if_pos c_2]
        by_cases c_3 : ((gl 28 0 bi) + (8 * (f_Racross (gl 31 0 bi)))) < 0
        · rw [if_pos c_3]
          refine rokU ?_ rfl (Or.inr rfl)
          refine rokU ?_ rfl trivial
          refine rokU ?_ rfl trivial
          exact hv0
        · rw [if_neg c_3]
          by_cases c_4 : ((gl 29 0 bi) + (8 * (f_Rup (gl 31 0 bi)))) < 0
          · rw [if_pos c_4]
            refine rokU ?_ rfl (Or.inr rfl)
            refine rokU ?_ rfl trivial
            refine rokU ?_ rfl trivial
            exact hv0
          · rw [if_neg c_4]
            by_cases c_5 : 512 < ((gl 28 0 bi) + (8 * (f_Racross (gl 31 0 bi))))
            · rw [if_pos c_5]
              refine rokU ?_ rfl (Or.inr rfl)
              refine rokU ?_ rfl trivial
              refine rokU ?_ rfl trivial
              exact hv0
            · rw [if_neg c_5]
              by_cases c_6 : ((gl 29 0 bi) + (8 * (f_Rup (gl 31 0 bi)))) ≤ 512
              · rw [if_pos c_6]
                by_cases c_7 : 4 ≤ (f_Rstruck (up3 (up3 gl 28 0 bi ((gl 28 0 bi) + (8 * (f_Racross (gl 31 0 bi))))) 29 0 bi ((gl 29 0 bi) + (8 * (f_Rup (gl 31 0 bi))))) bi)
                · rw [if_pos c_7]
                  exact ih (k + 1) (up3 (up3 gl 28 0 bi ((gl 28 0 bi) + (8 * (f_Racross (gl 31 0 bi))))) 29 0 bi ((gl 29 0 bi) + (8 * (f_Rup (gl 31 0 bi))))) (by refine rokU ?_ rfl trivial; refine rokU ?_ rfl trivial; exact hv0) (by omega) (by omega)
                · rw [if_neg c_7]
                  obtain ⟨et, ht⟩ := struckR_j (N := N) (g := up3 (up3 gl 28 0 bi ((gl 28 0 bi) + (8 * (f_Racross (gl 31 0 bi))))) 29 0 bi ((gl 29 0 bi) + (8 * (f_Rup (gl 31 0 bi))))) (by refine rokU ?_ rfl trivial; refine rokU ?_ rfl trivial; exact hv0) c_7
                  exact ih (k + 1) (g_Rstrike (up3 (up3 gl 28 0 bi ((gl 28 0 bi) + (8 * (f_Racross (gl 31 0 bi))))) 29 0 bi ((gl 29 0 bi) + (8 * (f_Rup (gl 31 0 bi))))) bi ((f_Rstruck (up3 (up3 gl 28 0 bi ((gl 28 0 bi) + (8 * (f_Racross (gl 31 0 bi))))) 29 0 bi ((gl 29 0 bi) + (8 * (f_Rup (gl 31 0 bi))))) bi).toNatClampNeg)) (by refine ok_g_Rstrike ?_ bi ((f_Rstruck (up3 (up3 gl 28 0 bi ((gl 28 0 bi) + (8 * (f_Racross (gl 31 0 bi))))) 29 0 bi ((gl 29 0 bi) + (8 * (f_Rup (gl 31 0 bi))))) bi).toNatClampNeg); refine rokU ?_ rfl trivial; refine rokU ?_ rfl trivial; exact hv0) (by omega) (by omega)
              · rw [if_neg c_6]
                refine rokU ?_ rfl (Or.inr rfl)
                refine rokU ?_ rfl trivial
                refine rokU ?_ rfl trivial
                exact hv0
      · rw [if_neg c_2]
        exact hv0
theorem ok_g_Rfly {N : Nat} {g : SG} (h : RokN N g) (bi : Nat) : RokN N (g_Rfly g bi) := by
  have ok := h
  unfold g_Rfly
  exact ok_L_Rfly bi 9 0 g ok (by decide) (by decide)
theorem ok_L_Rlook {N : Nat} (t : Nat) : ∀ (n : Nat) (i : Nat) (gl : SG), RokN N gl → i ≤ N → N + 1 ≤ i + n → RokN N (L_Rlook t n i gl) := by
  intro n
  induction n with
  | zero => intro i gl hv0 hv1 hv2; exact hv0
  | succ n ih =>
    intro i gl hv0 hv1 hv2
    obtain ⟨hN4, eN⟩ := hv0.N
    rw [L_Rlook]
    by_cases c_1 : (gl 0 0 0) ≤ (nI i)
    · rw [if_pos c_1]
      exact hv0
    · rw [if_neg c_1]
      have hiN : i < N := nlt_of eN (by omega) (by omega) c_1
      have hi : i < 4 := by omega
      by_cases c_2 : (nI i) = (nI t)
      · rw [if_pos c_2]
        exact ih (i + 1) gl hv0 (by omega) (by omega)
      · rw [if_neg c_2]
        by_cases c_3 : (gl 21 0 i) = 0
        · rw [if_pos c_3]
          exact ih (i + 1) gl hv0 (by omega) (by omega)
        · rw [if_neg c_3]
          by_cases c_4 : (f_Rsector ((gl 8 0 i) - (gl 8 0 t)) ((gl 9 0 i) - (gl 9 0 t))) = (gl 12 0 t)
          · rw [if_pos c_4]
            by_cases c_5 : (f_Rabs ((gl 8 0 i) - (gl 8 0 t))) ≤ (f_Rabs ((gl 9 0 i) - (gl 9 0 t)))
            · rw [if_pos c_5]
              by_cases c_6 : 4 ≤ (gl 24 0 t)
              · rw [if_pos c_6]
                exact ih (i + 1) (up3 (up3 gl 24 0 t (nI i)) 25 0 t (f_Rabs ((gl 9 0 i) - (gl 9 0 t)))) (by refine rokU ?_ rfl trivial; refine rokU ?_ rfl ⟨i, by omega, rfl⟩; exact hv0) (by omega) (by omega)
              · rw [if_neg c_6]
                by_cases c_7 : (f_Rabs ((gl 9 0 i) - (gl 9 0 t))) < (gl 25 0 t)
                · rw [if_pos c_7]
                  exact ih (i + 1) (up3 (up3 gl 24 0 t (nI i)) 25 0 t (f_Rabs ((gl 9 0 i) - (gl 9 0 t)))) (by refine rokU ?_ rfl trivial; refine rokU ?_ rfl ⟨i, by omega, rfl⟩; exact hv0) (by omega) (by omega)
                · rw [if_neg c_7]
                  exact ih (i + 1) gl hv0 (by omega) (by omega)
            · rw [if_neg c_5]
              by_cases c_8 : 4 ≤ (gl 24 0 t)
              · rw [if_pos c_8]
                exact ih (i + 1) (up3 (up3 gl 24 0 t (nI i)) 25 0 t (f_Rabs ((gl 8 0 i) - (gl 8 0 t)))) (by refine rokU ?_ rfl trivial; refine rokU ?_ rfl ⟨i, by omega, rfl⟩; exact hv0) (by omega) (by omega)
              · rw [if_neg c_8]
                by_cases c_9 : (f_Rabs ((gl 8 0 i) - (gl 8 0 t))) < (gl 25 0 t)
                · rw [if_pos c_9]
                  exact ih (i + 1) (up3 (up3 gl 24 0 t (nI i)) 25 0 t (f_Rabs ((gl 8 0 i) - (gl 8 0 t)))) (by refine rokU ?_ rfl trivial; refine rokU ?_ rfl ⟨i, by omega, rfl⟩; exact hv0) (by omega) (by omega)
                · rw [if_neg c_9]
                  exact ih (i + 1) gl hv0 (by omega) (by omega)
          · rw [if_neg c_4]
            exact ih (i + 1) gl hv0 (by omega) (by omega)
theorem ok_g_Rlook {N : Nat} {g : SG} (h : RokN N g) (t : Nat) : RokN N (g_Rlook g t) := by
  have ok := h
  obtain ⟨hN4, eN⟩ := ok.N
  unfold g_Rlook
  exact ok_L_Rlook t 5 0 g ok (by omega) (by omega)
theorem ok_L_Rrestart {N : Nat}  : ∀ (n : Nat) (made : Int32) (i : Nat) (gl : SG), RokN N gl → i ≤ N → N + 1 ≤ i + n → RokN N (L_Rrestart n made i gl).2 := by
  intro n
  induction n with
  | zero => intro made i gl hv0 hv1 hv2; exact hv0
  | succ n ih =>
    intro made i gl hv0 hv1 hv2
    obtain ⟨hN4, eN⟩ := hv0.N
    rw [L_Rrestart]
    by_cases c_1 : (gl 0 0 0) ≤ (nI i)
    · rw [if_pos c_1]
      dsimp only
      exact hv0
    · rw [if_neg c_1]
      have hiN : i < N := nlt_of eN (by omega) (by omega) c_1
      have hi : i < 4 := by omega
      exact ih made (i + 1) (g_Rreset gl i) (by refine ok_g_Rreset ?_ i; exact hv0) (by omega) (by omega)
theorem ok_x_Rrestart {N : Nat} {g : SG} (h : RokN N g)  : RokN N (x_Rrestart g).2 := by
  have ok := h
  obtain ⟨hN4, eN⟩ := ok.N
  unfold x_Rrestart
  exact ok_L_Rrestart 5 (g 0 0 1) 0 (up3 (up3 (up3 (up3 g 0 0 1 0) 0 0 2 0) 0 0 3 0) 0 0 4 0) (by refine rokU ?_ rfl trivial; refine rokU ?_ rfl trivial; refine rokU ?_ rfl trivial; refine rokU ?_ rfl trivial; exact ok) (by omega) (by omega)
theorem ok_J_Rdrive370 {N : Nat} (t : Nat) (gl : SG) (hv0 : RokN N gl) : RokN N (J_Rdrive370 t gl) := by
  unfold J_Rdrive370
  by_cases c_1 : 2 ≤ ((g_Rcheck gl t) 16 0 t)
  · rw [if_pos c_1]
    refine rokU ?_ rfl trivial
    refine ok_g_Rcheck ?_ t
    exact hv0
  · rw [if_neg c_1]
    refine rokU ?_ rfl trivial
    refine ok_g_Rcheck ?_ t
    exact hv0
theorem ok_J_Rdrive354 {N : Nat} (t : Nat) (gl : SG) (hv0 : RokN N gl) : RokN N (J_Rdrive354 t gl) := by
  unfold J_Rdrive354
  by_cases c_2 : (gl 22 0 t) = 0
  · rw [if_pos c_2]
    exact ok_J_Rdrive370 t gl hv0 
  · rw [if_neg c_2]
    exact ok_J_Rdrive370 t (up3 gl 13 0 t 0) (by refine rokU ?_ rfl trivial; exact hv0) 
theorem ok_J_Rdrive292 {N : Nat} (t : Nat) (ox : Int32) (oy : Int32) (gl : SG) (hv0 : RokN N gl) : RokN N (J_Rdrive292 t ox oy gl) := by
  unfold J_Rdrive292
  by_cases c_3 : 4 ≤ (f_Rtouched gl t)
  · rw [if_pos c_3]
    exact ok_J_Rdrive354 t gl hv0 
  · rw [if_neg c_3]
    obtain ⟨et, hot⟩ := touchedR_j hv0 c_3
    exact ok_J_Rdrive354 t (g_Rcheck (up3 (up3 (up3 (up3 (up3 gl 8 0 t ox) 9 0 t oy) 22 0 t 1) 15 0 t ((gl 15 0 t) - 4)) 15 0 ((f_Rtouched gl t).toNatClampNeg) (((up3 (up3 (up3 (up3 gl 8 0 t ox) 9 0 t oy) 22 0 t 1) 15 0 t ((gl 15 0 t) - 4)) 15 0 ((f_Rtouched gl t).toNatClampNeg)) - 4)) ((f_Rtouched gl t).toNatClampNeg)) (by refine ok_g_Rcheck ?_ ((f_Rtouched gl t).toNatClampNeg); refine rokU ?_ rfl trivial; refine rokU ?_ rfl trivial; refine rokU ?_ rfl (Or.inr rfl); refine rokU ?_ rfl trivial; refine rokU ?_ rfl trivial; exact hv0) 
theorem ok_J_Rdrive168 {N : Nat} (t : Nat) (gl : SG) (hv0 : RokN N gl) : RokN N (J_Rdrive168 t gl) := by
  unfold J_Rdrive168
  by_cases c_4 : (f_Rlimited ((gl 8 0 t) + ((gl 13 0 t) * (f_Racross (gl 10 0 t))))) = ((gl 8 0 t) + ((gl 13 0 t) * (f_Racross (gl 10 0 t))))
  · rw [if_pos c_4]
    by_cases c_5 : (f_Rlimited ((gl 9 0 t) + ((gl 13 0 t) * (f_Rup (gl 10 0 t))))) = ((gl 9 0 t) + ((gl 13 0 t) * (f_Rup (gl 10 0 t))))
    · rw [if_pos c_5]
      exact ok_J_Rdrive292 t (gl 8 0 t) (gl 9 0 t) (up3 (up3 gl 8 0 t (f_Rlimited ((gl 8 0 t) + ((gl 13 0 t) * (f_Racross (gl 10 0 t)))))) 9 0 t (f_Rlimited ((gl 9 0 t) + ((gl 13 0 t) * (f_Rup (gl 10 0 t)))))) (by refine rokU ?_ rfl trivial; refine rokU ?_ rfl trivial; exact hv0) 
    · rw [if_neg c_5]
      exact ok_J_Rdrive292 t (gl 8 0 t) (gl 9 0 t) (up3 (up3 (up3 (up3 gl 8 0 t (f_Rlimited ((gl 8 0 t) + ((gl 13 0 t) * (f_Racross (gl 10 0 t)))))) 9 0 t (f_Rlimited ((gl 9 0 t) + ((gl 13 0 t) * (f_Rup (gl 10 0 t)))))) 22 0 t 1) 15 0 t ((gl 15 0 t) - ((gl 13 0 t) / 2))) (by refine rokU ?_ rfl trivial; refine rokU ?_ rfl (Or.inr rfl); refine rokU ?_ rfl trivial; refine rokU ?_ rfl trivial; exact hv0) 
  · rw [if_neg c_4]
    exact ok_J_Rdrive292 t (gl 8 0 t) (gl 9 0 t) (up3 (up3 (up3 (up3 gl 8 0 t (f_Rlimited ((gl 8 0 t) + ((gl 13 0 t) * (f_Racross (gl 10 0 t)))))) 9 0 t (f_Rlimited ((gl 9 0 t) + ((gl 13 0 t) * (f_Rup (gl 10 0 t)))))) 22 0 t 1) 15 0 t ((gl 15 0 t) - ((gl 13 0 t) / 2))) (by refine rokU ?_ rfl trivial; refine rokU ?_ rfl (Or.inr rfl); refine rokU ?_ rfl trivial; refine rokU ?_ rfl trivial; exact hv0) 
theorem ok_J_Rdrive103 {N : Nat} (t : Nat) (w : Int32) (gl : SG) (hv0 : RokN N gl) : RokN N (J_Rdrive103 t w gl) := by
  unfold J_Rdrive103
  by_cases c_6 : w ≤ (gl 13 0 t)
  · rw [if_pos c_6]
    by_cases c_7 : (gl 13 0 t) ≤ w
    · rw [if_pos c_7]
      exact ok_J_Rdrive168 t gl hv0 
    · rw [if_neg c_7]
      by_cases c_8 : w ≤ ((gl 13 0 t) - 8)
      · rw [if_pos c_8]
        exact ok_J_Rdrive168 t (up3 gl 13 0 t ((gl 13 0 t) - 8)) (by refine rokU ?_ rfl trivial; exact hv0) 
      · rw [if_neg c_8]
        exact ok_J_Rdrive168 t (up3 gl 13 0 t w) (by refine rokU ?_ rfl trivial; exact hv0) 
  · rw [if_neg c_6]
    exact ok_J_Rdrive168 t (up3 gl 13 0 t ((gl 13 0 t) + 4)) (by refine rokU ?_ rfl trivial; exact hv0) 
theorem ok_J_Rdrive33 {N : Nat} (t : Nat) (gl : SG) (hv0 : RokN N gl) : RokN N (J_Rdrive33 t gl) := by
  unfold J_Rdrive33
  by_cases c_9 : (gl 19 0 t) ≤ 2
  · rw [if_pos c_9]
    exact ok_J_Rdrive103 t (gl 14 0 t) (up3 (up3 gl 11 0 t (((gl 11 0 t) + (gl 26 0 (4 + t))) &&& 7)) 12 0 t (((gl 12 0 t) + (gl 26 0 (8 + t))) &&& 7)) (by refine rokU ?_ rfl trivial; refine rokU ?_ rfl trivial; exact hv0) 
  · rw [if_neg c_9]
    exact ok_J_Rdrive103 t 0 (up3 (up3 gl 11 0 t (((gl 11 0 t) + (gl 26 0 (4 + t))) &&& 7)) 12 0 t (((gl 12 0 t) + (gl 26 0 (8 + t))) &&& 7)) (by refine rokU ?_ rfl trivial; refine rokU ?_ rfl trivial; exact hv0) 
theorem ok_g_Rdrive {N : Nat} {g : SG} (h : RokN N g) (t : Nat) : RokN N (g_Rdrive g t) := by
  have ok := h
  unfold g_Rdrive
  by_cases c_10 : 16 < (g 13 0 t)
  · rw [if_pos c_10]
    exact ok_J_Rdrive33 t g ok 
  · rw [if_neg c_10]
    exact ok_J_Rdrive33 t (up3 g 10 0 t (((g 10 0 t) + (g 26 0 t)) &&& 7)) (by refine rokU ?_ rfl trivial; exact ok) 
theorem ok_L_Rt6 {N : Nat}  : ∀ (nf : Nat) (i6 : Nat) (glf : SG), RokN N glf → i6 ≤ N → N + 1 ≤ i6 + nf → RokN N (L_Rt6 nf i6 glf).2 := by
  intro nf
  induction nf with
  | zero => intro i6 glf hvf0 hvf1 hvf2; exact hvf0
  | succ nf ihf =>
    intro i6 glf hvf0 hvf1 hvf2
    obtain ⟨hN4, eN⟩ := hvf0.N
    rw [L_Rt6]
    by_cases c_7 : (glf 0 0 0) ≤ (nI i6)
    · rw [if_pos c_7]
      dsimp only
      exact hvf0
    · rw [if_neg c_7]
      have hiN : i6 < N := nlt_of eN (by omega) (by omega) c_7
      have hi6 : i6 < 4 := by omega
      by_cases c_8 : (glf 21 0 i6) = 0
      · rw [if_pos c_8]
        exact ihf (i6 + 1) glf hvf0 (by omega) (by omega)
      · rw [if_neg c_8]
        exact ihf (i6 + 1) (g_Rlook glf i6) (by refine ok_g_Rlook ?_ i6; exact hvf0) (by omega) (by omega)
theorem ok_L_Rt5 {N : Nat}  : ∀ (ne : Nat) (i5 : Nat) (gle : SG), RokN N gle → i5 ≤ N → N + 1 ≤ i5 + ne → RokN N (L_Rt5 ne i5 gle).2 := by
  intro ne
  induction ne with
  | zero => intro i5 gle hve0 hve1 hve2; exact hve0
  | succ ne ihe =>
    intro i5 gle hve0 hve1 hve2
    obtain ⟨hN4, eN⟩ := hve0.N
    rw [L_Rt5]
    by_cases c_6 : (gle 0 0 0) ≤ (nI i5)
    · rw [if_pos c_6]
      exact ok_L_Rt6 5 0 gle hve0 (by omega) (by omega)
    · rw [if_neg c_6]
      have hiN : i5 < N := nlt_of eN (by omega) (by omega) c_6
      have hi5 : i5 < 4 := by omega
      by_cases c_9 : (gle 21 0 i5) = 0
      · rw [if_pos c_9]
        exact ihe (i5 + 1) gle hve0 (by omega) (by omega)
      · rw [if_neg c_9]
        exact ihe (i5 + 1) (g_Rdrive gle i5) (by refine ok_g_Rdrive ?_ i5; exact hve0) (by omega) (by omega)
theorem ok_L_Rt4 {N : Nat} {K : Nat}  : ∀ (nd : Nat) (i4 : Nat) (gld : SG), RokN N gld → i4 ≤ K → K + 1 ≤ i4 + nd → gld 0 0 4 = nI K → K < 601 → RokN N (L_Rt4 nd i4 gld).2 := by
  intro nd
  induction nd with
  | zero => intro i4 gld hvd0 hvd1 hvd2 hvd3 hvd4; exact hvd0
  | succ nd ihd =>
    intro i4 gld hvd0 hvd1 hvd2 hvd3 hvd4
    obtain ⟨hN4, eN⟩ := hvd0.N
    rw [L_Rt4]
    by_cases c_5 : (gld 0 0 4) ≤ (nI i4)
    · rw [if_pos c_5]
      exact ok_L_Rt5 5 0 gld hvd0 (by omega) (by omega)
    · rw [if_neg c_5]
      have hi4K : i4 < K := nlt_of hvd3 (by omega) (by omega) c_5
      have hi4 : i4 < 600 := by omega
      by_cases c_10 : (gld 33 0 i4) = 0
      · rw [if_pos c_10]
        exact ihd (i4 + 1) (g_Rfly gld i4) (by refine ok_g_Rfly ?_ i4; exact hvd0) (by omega) (by omega) (by first | exact hvd3 | exact (fr_fly).trans hvd3) hvd4
      · rw [if_neg c_10]
        exact ihd (i4 + 1) gld hvd0 (by omega) (by omega) (by first | exact hvd3 | exact (fr_fly).trans hvd3) hvd4
theorem ok_L_Rt3 {N : Nat}  : ∀ (nc : Nat) (i3 : Nat) (glc : SG), RokN N glc → i3 ≤ N → N + 1 ≤ i3 + nc → rng (glc 0 0 4) (597 + i3) → RokN N (L_Rt3 nc i3 glc).2 := by
  intro nc
  induction nc with
  | zero => intro i3 glc hvc0 hvc1 hvc2 hvc3; exact hvc0
  | succ nc ihc =>
    intro i3 glc hvc0 hvc1 hvc2 hvc3
    obtain ⟨hN4, eN⟩ := hvc0.N
    rw [L_Rt3]
    by_cases c_4 : (glc 0 0 0) ≤ (nI i3)
    · rw [if_pos c_4]
      obtain ⟨K, hK, eK⟩ : rng (glc 0 0 4) 601 := rng_mono hvc3 (by omega)
      exact ok_L_Rt4 601 0 glc hvc0 (by omega) (by omega) eK hK
    · rw [if_neg c_4]
      have hiN : i3 < N := nlt_of eN (by omega) (by omega) c_4
      have hi3 : i3 < 4 := by omega
      by_cases c_11 : (glc 21 0 i3) = 0
      · rw [if_pos c_11]
        exact ihc (i3 + 1) glc hvc0 (by omega) (by omega) (by first | exact rng_mono hvc3 (by omega) | exact fr_fire hvc3)
      · rw [if_neg c_11]
        exact ihc (i3 + 1) (g_Rfire glc i3) (by refine ok_g_Rfire ?_ i3 (rng_mono hvc3 (by omega)) hi3; exact hvc0) (by omega) (by omega) (by first | exact rng_mono hvc3 (by omega) | exact fr_fire hvc3)
theorem ok_L_Rt2 {N : Nat}  : ∀ (nb : Nat) (i2 : Nat) (glb : SG), RokN N glb → i2 ≤ N → N + 1 ≤ i2 + nb → rng (glb 0 0 4) 597 → RokN N (L_Rt2 nb i2 glb).2 := by
  intro nb
  induction nb with
  | zero => intro i2 glb hvb0 hvb1 hvb2 hvb3; exact hvb0
  | succ nb ihb =>
    intro i2 glb hvb0 hvb1 hvb2 hvb3
    obtain ⟨hN4, eN⟩ := hvb0.N
    rw [L_Rt2]
    by_cases c_3 : (glb 0 0 0) ≤ (nI i2)
    · rw [if_pos c_3]
      exact ok_L_Rt3 5 0 glb hvb0 (by omega) (by omega) hvb3
    · rw [if_neg c_3]
      have hiN : i2 < N := nlt_of eN (by omega) (by omega) c_3
      have hi2 : i2 < 4 := by omega
      exact ihb (i2 + 1) (g_Rforget glb i2) (by refine ok_g_Rforget ?_ i2; exact hvb0) (by omega) (by omega) hvb3
theorem ok_L_Rt1 {N : Nat}  : ∀ (na : Nat) (i1 : Nat) (gla : SG), RokN N gla → i1 ≤ N → N + 1 ≤ i1 + na → rng (gla 0 0 4) 597 → RokN N (L_Rt1 na i1 gla).2 := by
  intro na
  induction na with
  | zero => intro i1 gla hva0 hva1 hva2 hva3; exact hva0
  | succ na iha =>
    intro i1 gla hva0 hva1 hva2 hva3
    obtain ⟨hN4, eN⟩ := hva0.N
    rw [L_Rt1]
    by_cases c_2 : (gla 0 0 0) ≤ (nI i1)
    · rw [if_pos c_2]
      exact ok_L_Rt2 5 0 gla hva0 (by omega) (by omega) hva3
    · rw [if_neg c_2]
      have hiN : i1 < N := nlt_of eN (by omega) (by omega) c_2
      have hi1 : i1 < 4 := by omega
      by_cases c_12 : ((g_RnoAsking gla i1) 21 0 i1) = 0
      · rw [if_pos c_12]
        exact iha (i1 + 1) (g_RnoAsking gla i1) (by refine ok_g_RnoAsking ?_ i1; exact hva0) (by omega) (by omega) (by first | (rw [fr_program, fr_noAsking]; exact hva3) | (rw [fr_noAsking]; exact hva3))
      · rw [if_neg c_12]
        by_cases c_13 : 3 ≤ ((g_RnoAsking gla i1) 19 0 i1)
        · rw [if_pos c_13]
          exact iha (i1 + 1) (g_RnoAsking gla i1) (by refine ok_g_RnoAsking ?_ i1; exact hva0) (by omega) (by omega) (by first | (rw [fr_program, fr_noAsking]; exact hva3) | (rw [fr_noAsking]; exact hva3))
        · rw [if_neg c_13]
          exact iha (i1 + 1) (g_Rprogram (g_RnoAsking gla i1) i1) (by refine ok_g_Rprogram ?_ i1 hi1; refine ok_g_RnoAsking ?_ i1; exact hva0) (by omega) (by omega) (by first | (rw [fr_program, fr_noAsking]; exact hva3) | (rw [fr_noAsking]; exact hva3))
theorem ok_x_Rturn {N : Nat} {g : SG} (h : RokN N g) (hf : rng (g 0 0 4) 597) : RokN N (x_Rturn g).2 := by
  have ok := h
  obtain ⟨hN4, eN⟩ := ok.N
  unfold x_Rturn
  by_cases c_1 : 2 ≤ (f_Rliving g)
  · rw [if_pos c_1]
    exact ok_L_Rt1 5 0 (up3 g 0 0 1 ((g 0 0 1) + 1)) (by refine rokU ?_ rfl trivial; exact ok) (by omega) (by omega) hf
  · rw [if_neg c_1]
    dsimp only
    exact ok
