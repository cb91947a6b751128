/-! SIMULATION: bullets fly (mine) -/
/-- the relation, as it stands between two phases of a turn -/
def QR (N M F T : Nat) (birth ob ot : Nat → Nat) (g r : SG) : Prop := OkN N g ∧ TS N M g r ∧ r 0 0 4 = nI F ∧ g 0 0 2 = nI (lvf r F 0).length ∧ PI g ∧ TI N g ∧ BI N F T birth ob ot g r ∧ BL g r 0 (lvf r F 0)
theorem TI.dec {N : Nat} {g g' : SG} (h : TI N g) (hs : ∀ i j, j = 3 ∨ j = 4 ∨ j = 11 → g' 3 i j = g 3 i j) (ha : ∀ i, ¬ g' 3 i 13 = 0 → ¬ g 3 i 13 = 0) : TI N g' := by
  refine ⟨fun i hi => ?_, fun i hi => ?_, fun i hi => ?_, fun i j hi hj hij a b => ?_⟩
  · rw [hs _ _ (by omega)]; exact h.px i hi
  · rw [hs _ _ (by omega)]; exact h.py i hi
  · rw [hs _ _ (by omega)]; exact h.ht i hi
  · rw [hs _ _ (by omega), hs _ _ (by omega), hs _ _ (by omega), hs _ _ (by omega)]
    exact h.np i j hi hj hij (ha i a) (ha j b)
theorem BI.fly {N F T b : Nat} {birth ot : Nat → Nat} {g g' r r' : SG} (h : BI N F T birth (fun c => if c < b then 1 else 0) ot g r) (hh : ∀ i, g' 3 i 11 = g 3 i 11) (ha : ∀ i, ¬ g' 3 i 13 = 0 → ¬ g 3 i 13 = 0) (h30 : ∀ c, r' 30 0 c = r 30 0 c) (h31 : ∀ c, r' 31 0 c = r 31 0 c) (h32 : ∀ c, r' 32 0 c = r 32 0 c)
    (hc : ∀ c, c ≠ b → r' 28 0 c = r 28 0 c ∧ r' 29 0 c = r 29 0 c ∧ r' 33 0 c = r 33 0 c) (hb : b < F → r' 33 0 b = 0 → r 33 0 b = 0 ∧ PC (r' 28 0 b) (r' 29 0 b) (r 31 0 b) (40 * ((T - birth b : Nat) : Int) + 40)) : BI N F T birth (fun c => if c < b + 1 then 1 else 0) ot g' r' := by
  obtain ⟨h1, h2, h3, h4⟩ := h
  have ho : ∀ c, own r' c = own r c := fun c => by unfold own; rw [h32]
  refine ⟨fun c hc' => by rw [ho]; exact h1 c hc', fun c d hcd hd => by rw [ho, ho]; exact h2 c d hcd hd, fun c hc' => ?_, fun c hc' hl => ?_⟩
  · rw [ho, hh]
    exact fun q => h3 c hc' (ha _ q)
  · rw [h30, h31]
    by_cases e : c = b
    · subst e
      obtain ⟨k1, k2⟩ := hb hc' hl
      have := h4 c hc' k1
      refine ⟨this.1, this.2.1, k2.less ?_⟩
      dsimp only
      rw [if_pos (by omega)]
      omega
    · obtain ⟨e1, e2, e3⟩ := hc c e
      rw [e1, e2]
      rw [e3] at hl
      have := h4 c hc' hl
      refine ⟨this.1, this.2.1, this.2.2.less ?_⟩
      dsimp only
      by_cases q : c < b
      · rw [if_pos (by omega), if_pos q]; omega
      · rw [if_neg (by omega), if_neg q]; omega
theorem pl16 {N : Nat} {g : SG} (ok : OkN N g) (p : Nat) : pl g p < 16 := (rng_j (show rng (g 2 0 p) 16 from ok.1.1 2 0 p) (by decide)).2
theorem lvf_step {r : SG} {F b : Nat} (hb : b < F) : lvf r (F - b) b = if r 33 0 b = 0 then b :: lvf r (F - (b + 1)) (b + 1) else lvf r (F - (b + 1)) (b + 1) := by
  rw [show F - b = (F - (b + 1)) + 1 by omega]
  rfl
theorem s_fly_L {N M F K T : Nat} {birth ot : Nat → Nat} (hF : F < 601) (hK : K ≤ 16) : ∀ (nd b n kp i : Nat) (g r : SG), b ≤ F → F + 1 ≤ b + nd → i ≤ K → K + 1 ≤ i + n → kp ≤ i → OkN N g → TS N M g r → r 0 0 4 = nI F → g 0 0 2 = nI K → PI g → TI N g → BI N F T birth (fun c => if c < b then 1 else 0) ot g r → (lvf r b 0).length = kp → BL g r 0 (lvf r b 0) → (lvf r (F - b) b).length = K - i → BL g r i (lvf r (F - b) b) →
    ∃ r', L_Rt4 nd b r = L_Rt5 5 0 r' ∧ QR N M F T birth (fun c => if c < F then 1 else 0) ot (L_fly n kp i g) r' := by
  intro nd
  induction nd with
  | zero => intro b n kp i g r h0 h1; exfalso; omega
  | succ nd ih =>
    intro b n kp i g r h0 h1 h2 h3 h4 ok ts hf hk pi ti bi l1 b1 l2 b2
    simp only [L_Rt4]
    rw [hf]
    by_cases c1 : nI F ≤ nI b
    · rw [if_pos c1]
      have hbF : b = F := by
        rcases Nat.lt_or_ge b F with q | q
        · exact absurd c1 (nI_ge q (by omega))
        · omega
      subst hbF
      have hiK : i = K := by
        rw [Nat.sub_self] at l2
        simp only [lvf, List.length_nil] at l2
        omega
      subst hiK
      refine ⟨r, rfl, ?_⟩
      match n, h3 with
      | 0, h3 => exfalso; omega
      | n + 1, _ =>
        simp only [L_fly]
        rw [hk, if_pos (by rw [nI_leI (by omega) (by omega)]; exact Nat.le_refl _)]
        refine ⟨okU ok rfl ⟨kp, by omega, rfl⟩, TS.upC rfl ts, hf, by rw [l1]; simp [up3], ?_, ti.same (fun a c _ => by simp [up3]), ?_, ?_⟩
        · intro p q hp hq e
          exact pi p q hp hq e
        · obtain ⟨q1, q2, q3, q4⟩ := bi
          exact ⟨q1, q2, q3, q4⟩
        · exact BL_congr (g := g) (r := r) _ _ (fun q _ _ => ⟨by simp [pl, up3], fun f => by simp [up3]⟩) (fun _ _ _ _ _ => rfl) b1
    · rw [if_neg c1]
      have hbF : b < F := by
        rcases Nat.lt_or_ge b F with q | q
        · exact q
        · exact absurd (nI_le q (by omega)) c1
      rw [lvf_step hbF] at l2 b2
      by_cases c2 : r 33 0 b = 0
      · rw [if_pos c2] at l2 b2 ⊢
        obtain ⟨hbr, b3⟩ := b2
        rw [List.length_cons] at l2
        have hi : i < K := by omega
        have hbr : BR g r (pl g i) b := hbr
        obtain ⟨t1, t2, t3⟩ := s_stays ok ts hbr c2
        have ok1 := ok_x_stays ok (pl g i)
        have pc := stays_pc (m := 40 * ((T - birth b : Nat) : Int)) 9 0 g (by decide) ok (by rw [hbr.2.2.1]; exact (bi.2.2.2 b hbF c2).1) (by
          have := (bi.2.2.2 b hbF c2).2.2
          rw [hbr.1, hbr.2.1, hbr.2.2.2.1]
          refine this.less ?_
          dsimp only
          rw [if_neg (Nat.lt_irrefl b)]
          simp)
        have pc : ¬ (x_stays g (pl g i)).1 = 0 → PC ((x_stays g (pl g i)).2 12 (pl g i) 0) ((x_stays g (pl g i)).2 12 (pl g i) 1) (g 12 (pl g i) 3) (40 * ((T - birth b : Nat) : Int) + 40) := pc
        have fk : ∀ a x c, (¬ (a = 3 ∧ (c = 10 ∨ c = 12 ∨ c = 13)) ∧ ¬ (a = 11 ∧ c = 1) ∧ ¬ (a = 0 ∧ c = 4) ∧ ¬ (a = 12 ∧ x = pl g i ∧ (c = 0 ∨ c = 1))) → (x_stays g (pl g i)).2 a x c = g a x c := fun a x c h => stays_k h 9 0 g
        have fa : ∀ q, ¬ (x_stays g (pl g i)).2 3 q 13 = 0 → ¬ g 3 q 13 = 0 := fun q => stays_alive 9 0 g
        have fr : ∀ a c, ((28 ≤ a ∧ ¬ ((a = 28 ∨ a = 29 ∨ a = 33) ∧ c = b)) ∨ (a = 0 ∧ c = 4)) → g_Rfly r b a 0 c = r a 0 c := fun a c h => Rfly_k h 9 0 r
        have hf1 : g_Rfly r b 0 0 4 = nI F := by rw [fr 0 4 (Or.inr ⟨rfl, rfl⟩)]; exact hf
        have lb : lvf (g_Rfly r b) b 0 = lvf r b 0 := lvf_congr b 0 (fun c _ hc => by rw [fr 33 c (by omega)])
        have lr : lvf (g_Rfly r b) (F - (b + 1)) (b + 1) = lvf r (F - (b + 1)) (b + 1) := lvf_congr _ _ (fun c hc _ => by rw [fr 33 c (by omega)])
        match n, h3 with
        | 0, h3 => exfalso; omega
        | n + 1, h3 =>
          simp only [L_fly]
          rw [hk, if_neg (by rw [nI_leI (by omega) (by omega)]; omega)]
          have e0 : (g 2 0 i).toNatClampNeg = pl g i := rfl
          rw [e0]
          generalize x_stays g (pl g i) = S at t1 t2 t3 ok1 pc fk fa ⊢
          generalize g_Rfly r b = r1 at t1 t2 t3 fr hf1 lb lr ⊢
          obtain ⟨st, G⟩ := S
          dsimp only at t1 t2 t3 ok1 pc fk fa ⊢
          have tiG : TI N G := ti.dec (fun x c hc => fk 3 x c (by omega)) fa
          by_cases c3 : st = 0
          · rw [if_pos c3]
            have hg1 := t2 c3
            have plG : ∀ p, pl G p = pl g p := fun p => by unfold pl; rw [fk 2 0 p (by omega)]
            refine ih (b + 1) n kp (i + 1) G r1 (by omega) (by omega) (by omega) (by omega) (by omega) ok1 t1 hf1 (by rw [fk 0 0 2 (by omega)]; exact hk) (fun p q hp hq e => pi p q hp hq (by rw [← plG, ← plG]; exact e)) tiG ?_ ?_ ?_ ?_ ?_
            · exact bi.fly (fun x => fk 3 x 11 (by omega)) fa (fun c => fr 30 c (by omega)) (fun c => fr 31 c (by omega)) (fun c => fr 32 c (by omega)) (fun c hc => ⟨fr 28 c (by omega), fr 29 c (by omega), fr 33 c (by omega)⟩) (fun _ q => absurd q hg1)
            · rw [lvf_snoc, Nat.zero_add, if_neg hg1, List.append_nil, lb]; exact l1
            · rw [lvf_snoc, Nat.zero_add, if_neg hg1, List.append_nil, lb]
              refine BL_congr _ _ (fun q hq1 hq2 => ⟨plG q, fun f => fk 12 (pl g q) f ?_⟩) (fun c hc a ha1 ha2 => fr a c ?_) b1
              · have : pl g q ≠ pl g i := fun x => by have := pi q i (by omega) (by omega) x; omega
                omega
              · have := (lvf_mem b 0).mp hc
                omega
            · rw [lr]; omega
            · rw [lr]
              refine BL_congr _ _ (fun q hq1 hq2 => ⟨plG q, fun f => fk 12 (pl g q) f ?_⟩) (fun c hc a ha1 ha2 => fr a c ?_) b3
              · have : pl g q ≠ pl g i := fun x => by have := pi q i (by omega) (by omega) x; omega
                omega
              · have := (lvf_mem _ _).mp hc
                omega
          · rw [if_neg c3]
            obtain ⟨hg1, hbr1⟩ := t3 c3
            have pc := pc c3
            have e1 : (G 2 0 kp).toNatClampNeg = pl g kp := by unfold pl; rw [fk 2 0 kp (by omega)]
            rw [e1]
            have okp := pl16 ok kp
            have oki := pl16 ok i
            have ok2 : OkN N (up3 (up3 G 2 0 i (nI (pl g kp))) 2 0 kp (nI (pl g i))) := okU (okU ok1 rfl ⟨_, okp, rfl⟩) rfl ⟨_, oki, rfl⟩
            have ts2 : TS N M (up3 (up3 G 2 0 i (nI (pl g kp))) 2 0 kp (nI (pl g i))) r1 := TS.upC rfl (TS.upC rfl t1)
            have k2 : ∀ a x c, a ≠ 2 → up3 (up3 G 2 0 i (nI (pl g kp))) 2 0 kp (nI (pl g i)) a x c = G a x c := fun a x c ha => by
              simp only [up3_at]
              rw [if_neg (by omega), if_neg (by omega)]
            have plk : pl (up3 (up3 G 2 0 i (nI (pl g kp))) 2 0 kp (nI (pl g i))) kp = pl g i := by
              show (up3 _ 2 0 kp _ 2 0 kp).toNatClampNeg = _
              rw [up3_at, if_pos ⟨rfl, rfl, rfl⟩, nI_clamp (by omega)]
            have pli : i ≠ kp → pl (up3 (up3 G 2 0 i (nI (pl g kp))) 2 0 kp (nI (pl g i))) i = pl g kp := fun hne => by
              show (up3 (up3 G 2 0 i (nI (pl g kp))) 2 0 kp (nI (pl g i)) 2 0 i).toNatClampNeg = _
              rw [up3_at, if_neg (by omega), up3_at, if_pos ⟨rfl, rfl, rfl⟩, nI_clamp (by omega)]
            have plo : ∀ p, p ≠ i → p ≠ kp → pl (up3 (up3 G 2 0 i (nI (pl g kp))) 2 0 kp (nI (pl g i))) p = pl g p := fun p h1 h2 => by
              show (up3 (up3 G 2 0 i (nI (pl g kp))) 2 0 kp (nI (pl g i)) 2 0 p).toNatClampNeg = _
              rw [up3_at, if_neg (by omega), up3_at, if_neg (by omega), fk 2 0 p (by omega)]
              rfl
            generalize up3 (up3 G 2 0 i (nI (pl g kp))) 2 0 kp (nI (pl g i)) = G2 at ok2 ts2 k2 plk pli plo ⊢
            have fo : ∀ x c, x ≠ pl g i → G2 12 x c = g 12 x c := fun x c hx => by rw [k2 12 x c (by decide), fk 12 x c (by omega)]
            refine ih (b + 1) n (kp + 1) (i + 1) G2 r1 (by omega) (by omega) (by omega) (by omega) (by omega) ok2 ts2 hf1 (by rw [k2 _ _ _ (by decide), fk 0 0 2 (by omega)]; exact hk) ?_ (tiG.same (fun x c _ => k2 3 x c (by decide))) ?_ ?_ ?_ ?_ ?_
            · intro p q hp hq e
              by_cases p1 : p = kp
              · by_cases q1 : q = kp
                · omega
                · by_cases q2 : q = i
                  · rw [p1, plk, q2, pli (by omega)] at e
                    have := pi i kp (by omega) (by omega) e
                    omega
                  · rw [p1, plk, plo q q2 q1] at e
                    have := pi i q (by omega) hq e
                    omega
              · by_cases p2 : p = i
                · by_cases q1 : q = kp
                  · rw [p2, pli (by omega), q1, plk] at e
                    have := pi kp i (by omega) (by omega) e
                    omega
                  · by_cases q2 : q = i
                    · omega
                    · rw [p2, pli (by omega), plo q q2 q1] at e
                      have := pi kp q (by omega) hq e
                      omega
                · by_cases q1 : q = kp
                  · rw [plo p p2 p1, q1, plk] at e
                    have := pi p i hp (by omega) e
                    omega
                  · by_cases q2 : q = i
                    · rw [plo p p2 p1, q2, pli (by omega)] at e
                      have := pi p kp hp (by omega) e
                      omega
                    · rw [plo p p2 p1, plo q q2 q1] at e
                      exact pi p q hp hq e
            · refine bi.fly (fun x => by rw [k2 _ _ _ (by decide)]; exact fk 3 x 11 (by omega)) (fun x => by rw [k2 _ _ _ (by decide)]; exact fa x) (fun c => fr 30 c (by omega)) (fun c => fr 31 c (by omega)) (fun c => fr 32 c (by omega)) (fun c hc => ⟨fr 28 c (by omega), fr 29 c (by omega), fr 33 c (by omega)⟩) (fun _ _ => ⟨c2, ?_⟩)
              rw [← hbr1.1, ← hbr1.2.1, ← hbr.2.2.2.1]
              exact pc
            · rw [lvf_snoc, Nat.zero_add, if_pos hg1, List.length_append, lb, l1]; rfl
            · rw [lvf_snoc, Nat.zero_add, if_pos hg1, lb]
              refine (BL_snoc _ _).mpr ⟨?_, ?_⟩
              · refine BL_congr _ _ (fun q hq1 hq2 => ⟨plo q (by omega) (by omega), fun f => fo _ f ?_⟩) (fun c hc a ha1 ha2 => fr a c ?_) b1
                · exact fun x => by have := pi q i (by omega) (by omega) x; omega
                · have := (lvf_mem b 0).mp hc
                  omega
              · rw [Nat.zero_add, l1, plk]
                obtain ⟨z0, z1, z2, z3, z4⟩ := hbr1
                exact ⟨by rw [k2 _ _ _ (by decide)]; exact z0, by rw [k2 _ _ _ (by decide)]; exact z1, by rw [k2 _ _ _ (by decide)]; exact z2, by rw [k2 _ _ _ (by decide)]; exact z3, by rw [k2 _ _ _ (by decide)]; exact z4⟩
            · rw [lr]; omega
            · rw [lr]
              refine BL_congr _ _ (fun q hq1 hq2 => ⟨plo q (by omega) (by omega), fun f => fo _ f ?_⟩) (fun c hc a ha1 ha2 => fr a c ?_) b3
              · exact fun x => by have := pi q i (by omega) (by omega) x; omega
              · have := (lvf_mem _ _).mp hc
                omega
      · rw [if_neg c2] at l2 b2 ⊢
        refine ih (b + 1) n kp i g r (by omega) (by omega) h2 h3 h4 ok ts hf hk pi ti ?_ ?_ ?_ l2 b2
        · exact bi.fly (fun _ => rfl) (fun _ h => h) (fun _ => rfl) (fun _ => rfl) (fun _ => rfl) (fun _ _ => ⟨rfl, rfl, rfl⟩) (fun _ q => absurd q c2)
        · rw [lvf_snoc, Nat.zero_add, if_neg c2, List.append_nil]; exact l1
        · rw [lvf_snoc, Nat.zero_add, if_neg c2, List.append_nil]; exact b1
