/-! FUNCTIONS: what each method of the class computes (printed by gen/all.py out of the bytecode) -/
def g_oclear (g : SG) (i : Nat) : SG := up3 (up3 (up3 (up3 g 10 i 0 0) 10 i 1 0) 10 i 2 0) 10 i 3 0
def g_rclear (g : SG) (i : Nat) : SG := up3 (up3 (up3 (up3 g 11 i 0 0) 11 i 1 0) 11 i 2 4) 11 i 3 0
def f_sees (g : SG) (i : Nat) : Int32 := if (g 11 i 2) = 4 then 0 else 1
theorem z_sees (g : SG) (i : Nat) : f_sees g i = 0 ∨ f_sees g i = 1 := by
  unfold f_sees
  by_cases h1 : (g 11 i 2) = 4
  · rw [if_pos h1]
    exact Or.inl rfl
  · rw [if_neg h1]
    exact Or.inr rfl
def g_note (g : SG) (i : Nat) (t : Int32) (d : Int32) : SG := if (f_sees g i) = 0 then up3 (up3 g 11 i 2 t) 11 i 3 d else if (g 11 i 3) ≤ d then g else up3 (up3 g 11 i 2 t) 11 i 3 d
def g_pclear (g : SG) (i : Nat) : SG := up3 (up3 (up3 (up3 g 9 i 0 0) 9 i 1 0) 8 i 0 0) 8 i 1 0
def f_full (g : SG) (i : Nat) : Int32 := if (g 4 i 0) < 16 then 0 else 1
theorem z_full (g : SG) (i : Nat) : f_full g i = 0 ∨ f_full g i = 1 := by
  unfold f_full
  by_cases h2 : (g 4 i 0) < 16
  · rw [if_pos h2]
    exact Or.inl rfl
  · rw [if_neg h2]
    exact Or.inr rfl
def g_add (g : SG) (i : Nat) (op : Int32) (a : Int32) (b : Int32) : SG := up3 (up3 (up3 (up3 g 5 i ((g 4 i 0).toNatClampNeg) op) 6 i ((g 4 i 0).toNatClampNeg) a) 7 i ((g 4 i 0).toNatClampNeg) b) 4 i 0 ((g 4 i 0) + 1)
def f_within (v : Int32) (lo : Int32) (hi : Int32) : Int32 := if v < lo then 0 else if hi < v then 0 else 1
theorem z_within (v : Int32) (lo : Int32) (hi : Int32) : f_within v lo hi = 0 ∨ f_within v lo hi = 1 := by
  unfold f_within
  by_cases h3 : v < lo
  · rw [if_pos h3]
    exact Or.inl rfl
  · rw [if_neg h3]
    by_cases h4 : hi < v
    · rw [if_pos h4]
      exact Or.inl rfl
    · rw [if_neg h4]
      exact Or.inr rfl
def f_floorMod (x : Int32) (y : Int32) : Int32 := if 0 ≤ (x ^^^ y) then x - x / y * y else if (x - x / y * y) = 0 then x - x / y * y else (x - x / y * y) + y
def f_turned (d : Int32) (tb : Int32) : Int32 := f_floorMod (d + tb) 8
def f_allows (op : Int32) (a : Int32) (b : Int32) : Int32 := if op = 0 then 1 else if op = 1 then f_within a 0 8 else if op = 2 then f_within a (-1) 1 else if op = 3 then f_within a (-1) 1 else if op = 4 then f_within a (-1) 1 else if op = 5 then f_within a 1 3 else if op = 6 then f_within a 0 15 else if op = 7 then f_within a 0 15 else if op = 8 then f_within a 0 15 else if op = 9 then f_within a 0 15 else if op = 10 then f_within a 0 15 else if op = 11 then if (f_within a 0 1) = 0 then 0 else if (f_within b 0 100) = 0 then 0 else 1 else if op = 12 then if (f_within a 0 15) = 0 then 0 else if (f_within b 0 1) = 0 then 0 else 1 else 0
theorem z_allows (op : Int32) (a : Int32) (b : Int32) : f_allows op a b = 0 ∨ f_allows op a b = 1 := by
  unfold f_allows
  by_cases h5 : op = 0
  · rw [if_pos h5]
    exact Or.inr rfl
  · rw [if_neg h5]
    by_cases h6 : op = 1
    · rw [if_pos h6]
      exact z_within ..
    · rw [if_neg h6]
      by_cases h7 : op = 2
      · rw [if_pos h7]
        exact z_within ..
      · rw [if_neg h7]
        by_cases h8 : op = 3
        · rw [if_pos h8]
          exact z_within ..
        · rw [if_neg h8]
          by_cases h9 : op = 4
          · rw [if_pos h9]
            exact z_within ..
          · rw [if_neg h9]
            by_cases h10 : op = 5
            · rw [if_pos h10]
              exact z_within ..
            · rw [if_neg h10]
              by_cases h11 : op = 6
              · rw [if_pos h11]
                exact z_within ..
              · rw [if_neg h11]
                by_cases h12 : op = 7
                · rw [if_pos h12]
                  exact z_within ..
                · rw [if_neg h12]
                  by_cases h13 : op = 8
                  · rw [if_pos h13]
                    exact z_within ..
                  · rw [if_neg h13]
                    by_cases h14 : op = 9
                    · rw [if_pos h14]
                      exact z_within ..
                    · rw [if_neg h14]
                      by_cases h15 : op = 10
                      · rw [if_pos h15]
                        exact z_within ..
                      · rw [if_neg h15]
                        by_cases h16 : op = 11
                        · rw [if_pos h16]
                          by_cases h17 : (f_within a 0 1) = 0
                          · rw [if_pos h17]
                            exact Or.inl rfl
                          · rw [if_neg h17]
                            by_cases h18 : (f_within b 0 100) = 0
                            · rw [if_pos h18]
                              exact Or.inl rfl
                            · rw [if_neg h18]
                              exact Or.inr rfl
                        · rw [if_neg h16]
                          by_cases h19 : op = 12
                          · rw [if_pos h19]
                            by_cases h20 : (f_within a 0 15) = 0
                            · rw [if_pos h20]
                              exact Or.inl rfl
                            · rw [if_neg h20]
                              by_cases h21 : (f_within b 0 1) = 0
                              · rw [if_pos h21]
                                exact Or.inl rfl
                              · rw [if_neg h21]
                                exact Or.inr rfl
                          · rw [if_neg h19]
                            exact Or.inl rfl
def f_disabled (g : SG) (i : Nat) : Int32 := if (g 8 i 1) < 3 then 0 else 1
theorem z_disabled (g : SG) (i : Nat) : f_disabled g i = 0 ∨ f_disabled g i = 1 := by
  unfold f_disabled
  by_cases h22 : (g 8 i 1) < 3
  · rw [if_pos h22]
    exact Or.inl rfl
  · rw [if_neg h22]
    exact Or.inr rfl
def f_canFire (g : SG) (i : Nat) : Int32 := if (g 10 i 3) ≤ 0 then 0 else if (g 3 i 11) = 0 then if (g 3 i 10) ≤ ((g 10 i 3) * 8) then 0 else 1 else 0
theorem z_canFire (g : SG) (i : Nat) : f_canFire g i = 0 ∨ f_canFire g i = 1 := by
  unfold f_canFire
  by_cases h23 : (g 10 i 3) ≤ 0
  · rw [if_pos h23]
    exact Or.inl rfl
  · rw [if_neg h23]
    by_cases h24 : (g 3 i 11) = 0
    · rw [if_pos h24]
      by_cases h25 : (g 3 i 10) ≤ ((g 10 i 3) * 8)
      · rw [if_pos h25]
        exact Or.inl rfl
      · rw [if_neg h25]
        exact Or.inr rfl
    · rw [if_neg h24]
      exact Or.inl rfl
def g_obeyTurns (g : SG) (i : Nat) : SG := if 16 < (g 3 i 8) then up3 (up3 g 3 i 6 (f_turned (g 3 i 6) (g 10 i 1))) 3 i 7 (f_turned (g 3 i 7) (g 10 i 2)) else up3 (up3 (up3 g 3 i 5 (f_turned (g 3 i 5) (g 10 i 0))) 3 i 6 (f_turned (g 3 i 6) (g 10 i 1))) 3 i 7 (f_turned (g 3 i 7) (g 10 i 2))
def g_changeSpeed (g : SG) (i : Nat) : SG := if (f_disabled g i) = 0 then if (g 3 i 9) ≤ (g 3 i 8) then if (g 3 i 8) ≤ (g 3 i 9) then g else up3 g 3 i 8 (imax ((g 3 i 8) - 8) (g 3 i 9)) else up3 g 3 i 8 ((g 3 i 8) + 4) else if 0 ≤ (g 3 i 8) then if (g 3 i 8) ≤ 0 then g else up3 g 3 i 8 (imax ((g 3 i 8) - 8) 0) else up3 g 3 i 8 ((g 3 i 8) + 4)
def f_walls (v : Int32) : Int32 := imax 16 (imin 496 v)
def g_goOn (g : SG) (i : Nat) : SG := if (f_walls ((g 3 i 3) + ((stepX ((g 3 i 5).toNatClampNeg)) * (g 3 i 8)))) = ((g 3 i 3) + ((stepX ((g 3 i 5).toNatClampNeg)) * (g 3 i 8))) then if (f_walls ((g 3 i 4) + ((stepY ((g 3 i 5).toNatClampNeg)) * (g 3 i 8)))) = ((g 3 i 4) + ((stepY ((g 3 i 5).toNatClampNeg)) * (g 3 i 8))) then up3 (up3 g 3 i 3 (f_walls ((g 3 i 3) + ((stepX ((g 3 i 5).toNatClampNeg)) * (g 3 i 8))))) 3 i 4 (f_walls ((g 3 i 4) + ((stepY ((g 3 i 5).toNatClampNeg)) * (g 3 i 8)))) else up3 (up3 (up3 (up3 g 3 i 3 (f_walls ((g 3 i 3) + ((stepX ((g 3 i 5).toNatClampNeg)) * (g 3 i 8))))) 3 i 4 (f_walls ((g 3 i 4) + ((stepY ((g 3 i 5).toNatClampNeg)) * (g 3 i 8))))) 11 i 0 1) 3 i 10 ((g 3 i 10) - ((g 3 i 8) / 2)) else up3 (up3 (up3 (up3 g 3 i 3 (f_walls ((g 3 i 3) + ((stepX ((g 3 i 5).toNatClampNeg)) * (g 3 i 8))))) 3 i 4 (f_walls ((g 3 i 4) + ((stepY ((g 3 i 5).toNatClampNeg)) * (g 3 i 8))))) 11 i 0 1) 3 i 10 ((g 3 i 10) - ((g 3 i 8) / 2))
def g_cool (g : SG) (i : Nat) : SG := up3 g 3 i 11 (imax ((g 3 i 11) - 2) 0)
def f_dist (g : SG) (i : Nat) (px : Int32) (py : Int32) : Int32 := imax (iabs (px - (g 3 i 3))) (iabs (py - (g 3 i 4)))
def f_measured (g : SG) (i : Nat) (what : Int32) : Int32 := if what = 0 then g 3 i 3 else if what = 1 then g 3 i 4 else if what = 2 then g 3 i 8 else if what = 3 then g 3 i 10 else if what = 4 then g 3 i 11 else if what = 5 then g 3 i 9 else if what = 6 then g 3 i 12 else if what = 7 then g 11 i 3 else -1000000
def f_told (g : SG) (i : Nat) (what : Int32) : Int32 := if what = 0 then g 3 i 5 else if what = 1 then g 3 i 6 else if what = 2 then g 3 i 7 else if what = 3 then if (g 3 i 13) = 0 then 0 else 1 else if what = 4 then g 8 i 1 else if what = 5 then g 8 i 0 else if what = 6 then g 9 i 0 else if what = 7 then g 9 i 1 else if what = 8 then g 11 i 2 else if what = 9 then if (g 11 i 0) = 0 then 0 else 1 else if what = 10 then if (g 11 i 1) = 0 then 0 else 1 else -1000000
def g_anew (g : SG) (i : Nat) : SG := g_rclear (g_oclear (g_pclear (up3 (up3 (up3 (up3 (up3 (up3 (up3 (up3 (up3 (up3 (up3 g 3 i 3 (g 3 i 0)) 3 i 4 (g 3 i 1)) 3 i 5 (g 3 i 2)) 3 i 6 (g 3 i 2)) 3 i 7 (g 3 i 2)) 3 i 8 0) 3 i 9 0) 3 i 10 800) 3 i 11 24) 3 i 12 0) 3 i 13 1) i) i) i
def g_stand (g : SG) (i : Nat) (px : Int32) (py : Int32) (dir : Int32) : SG := g_anew (up3 (up3 (up3 g 3 i 0 px) 3 i 1 py) 3 i 2 dir) i
def g_leave (g : SG) (k : Nat) (i : Nat) (num : Int32) : SG := up3 (up3 (up3 (up3 (up3 g 12 k 0 (g 3 i 3)) 12 k 1 (g 3 i 4)) 12 k 2 (g 10 i 3)) 12 k 3 (g 3 i 6)) 12 k 4 num
def g_bgoOn (g : SG) (k : Nat) : SG := up3 (up3 g 12 k 0 ((g 12 k 0) + ((stepX ((g 12 k 3).toNatClampNeg)) * 8))) 12 k 1 ((g 12 k 1) + ((stepY ((g 12 k 3).toNatClampNeg)) * 8))
def f_inField (g : SG) (k : Nat) : Int32 := if (f_within (g 12 k 0) 0 512) = 0 then 0 else if (f_within (g 12 k 1) 0 512) = 0 then 0 else 1
theorem z_inField (g : SG) (k : Nat) : f_inField g k = 0 ∨ f_inField g k = 1 := by
  unfold f_inField
  by_cases h26 : (f_within (g 12 k 0) 0 512) = 0
  · rw [if_pos h26]
    exact Or.inl rfl
  · rw [if_neg h26]
    by_cases h27 : (f_within (g 12 k 1) 0 512) = 0
    · rw [if_pos h27]
      exact Or.inl rfl
    · rw [if_neg h27]
      exact Or.inr rfl
def f_damage (g : SG) (k : Nat) : Int32 := ((4 * (g 12 k 2)) + (2 * ((g 12 k 2) - 1))) * 8
def f_btold (g : SG) (k : Nat) (what : Int32) : Int32 := if what = 0 then g 12 k 0 else if what = 1 then g 12 k 1 else if what = 2 then g 12 k 2 else if what = 3 then g 12 k 3 else if what = 4 then g 12 k 4 else -1000000
def f_sector (g : SG) (i : Nat) (j : Nat) : Int32 := if (iabs ((g 3 j 3) - (g 3 i 3))) < (2 * (iabs ((g 3 j 4) - (g 3 i 4)))) then if (iabs ((g 3 j 4) - (g 3 i 4))) < (2 * (iabs ((g 3 j 3) - (g 3 i 3)))) then if ((g 3 j 3) - (g 3 i 3)) ≤ 0 then if ((g 3 j 4) - (g 3 i 4)) ≤ 0 then 5 else 3 else if ((g 3 j 4) - (g 3 i 4)) ≤ 0 then 7 else 1 else if ((g 3 j 4) - (g 3 i 4)) ≤ 0 then 6 else 2 else if ((g 3 j 3) - (g 3 i 3)) ≤ 0 then 4 else 0
def f_isTank (g : SG) (num : Int32) : Int32 := f_within num 0 ((g 0 0 0) - 1)
theorem z_isTank (g : SG) (num : Int32) : f_isTank g num = 0 ∨ f_isTank g num = 1 := by
  unfold f_isTank
  exact z_within ..
def L_alive (g : SG) : Nat → Int32 → Nat → Int32
  | 0, al, i => 0
  | n + 1, al, i => if (g 0 0 0) ≤ (nI i) then al else if (g 3 i 13) = 0 then L_alive g n al (i + 1) else L_alive g n (al + 1) (i + 1)
def f_alive (g : SG) : Int32 := L_alive g 5 0 0
def f_isAimed (g : SG) (i : Nat) : Int32 := if (f_sees g i) = 0 then 0 else if (f_sector g i ((g 11 i 2).toNatClampNeg)) = (g 3 i 6) then 1 else 0
theorem z_isAimed (g : SG) (i : Nat) : f_isAimed g i = 0 ∨ f_isAimed g i = 1 := by
  unfold f_isAimed
  by_cases h28 : (f_sees g i) = 0
  · rw [if_pos h28]
    exact Or.inl rfl
  · rw [if_neg h28]
    by_cases h29 : (f_sector g i ((g 11 i 2).toNatClampNeg)) = (g 3 i 6)
    · rw [if_pos h29]
      exact Or.inr rfl
    · rw [if_neg h29]
      exact Or.inl rfl
def g_obey (g : SG) (i : Nat) (op : Int32) (a : Int32) (b : Int32) : SG := if op = 1 then up3 g 3 i 9 (a * 4) else if op = 2 then up3 g 10 i 0 a else if op = 3 then up3 g 10 i 1 a else if op = 4 then up3 g 10 i 2 a else if op = 5 then up3 g 10 i 3 a else if op = 6 then g else if op = 7 then g else if op = 8 then g else if op = 9 then g else if op = 10 then g else if op = 11 then up3 g 9 i a.toNatClampNeg b else if op = 12 then up3 g 9 i b.toNatClampNeg ((g 9 i b.toNatClampNeg) - 1) else g
def f_jumps (g : SG) (i : Nat) (op : Int32) (b : Int32) : Int32 := if op = 6 then 1 else if op = 7 then f_sees g i else if op = 8 then g 11 i 0 else if op = 9 then g 11 i 1 else if op = 10 then f_isAimed g i else if op = 11 then 0 else if op = 12 then if (g 9 i b.toNatClampNeg) ≤ 0 then 0 else 1 else 0
def L_spends (i : Nat) : Nat → Nat → SG → Int32 × SG
  | 0, dn, gl => (0, gl)
  | n + 1, dn, gl => if 10 ≤ (nI dn) then (1, gl) else if (gl 8 i 0) < (gl 4 i 0) then if (f_jumps (g_obey gl i (gl 5 i ((gl 8 i 0).toNatClampNeg)) (gl 6 i ((gl 8 i 0).toNatClampNeg)) (gl 7 i ((gl 8 i 0).toNatClampNeg))) i (gl 5 i ((gl 8 i 0).toNatClampNeg)) (gl 7 i ((gl 8 i 0).toNatClampNeg))) = 0 then if (gl 5 i ((gl 8 i 0).toNatClampNeg)) = 0 then (0, up3 (g_obey gl i (gl 5 i ((gl 8 i 0).toNatClampNeg)) (gl 6 i ((gl 8 i 0).toNatClampNeg)) (gl 7 i ((gl 8 i 0).toNatClampNeg))) 8 i 0 ((gl 8 i 0) + 1)) else L_spends i n (dn + 1) (up3 (g_obey gl i (gl 5 i ((gl 8 i 0).toNatClampNeg)) (gl 6 i ((gl 8 i 0).toNatClampNeg)) (gl 7 i ((gl 8 i 0).toNatClampNeg))) 8 i 0 ((gl 8 i 0) + 1)) else if (gl 5 i ((gl 8 i 0).toNatClampNeg)) = 0 then (0, up3 (g_obey gl i (gl 5 i ((gl 8 i 0).toNatClampNeg)) (gl 6 i ((gl 8 i 0).toNatClampNeg)) (gl 7 i ((gl 8 i 0).toNatClampNeg))) 8 i 0 (gl 6 i ((gl 8 i 0).toNatClampNeg))) else L_spends i n (dn + 1) (up3 (g_obey gl i (gl 5 i ((gl 8 i 0).toNatClampNeg)) (gl 6 i ((gl 8 i 0).toNatClampNeg)) (gl 7 i ((gl 8 i 0).toNatClampNeg))) 8 i 0 (gl 6 i ((gl 8 i 0).toNatClampNeg))) else (0, up3 gl 8 i 0 0)
def x_spends (g : SG) (i : Nat) : Int32 × SG := L_spends i 11 0 g
def g_runProgram (g : SG) (i : Nat) : SG := if ((x_spends g i).1) = 0 then (x_spends g i).2 else up3 (g_oclear (up3 ((x_spends g i).2) 8 i 1 ((((x_spends g i).2) 8 i 1) + 1)) i) 3 i 9 (g 3 i 9)
def L_runPrograms : Nat → Nat → SG → SG
  | 0, i, gl => gl
  | n + 1, i, gl => if (gl 0 0 0) ≤ (nI i) then gl else if ((g_oclear gl i) 3 i 13) = 0 then L_runPrograms n (i + 1) (g_oclear gl i) else if (f_disabled (g_oclear gl i) i) = 0 then L_runPrograms n (i + 1) (g_runProgram (g_oclear gl i) i) else L_runPrograms n (i + 1) (g_oclear gl i)
def g_runPrograms (g : SG) : SG := L_runPrograms 5 0 g
def L_forget : Nat → Nat → SG → SG
  | 0, i, gl => gl
  | n + 1, i, gl => if (gl 0 0 0) ≤ (nI i) then gl else L_forget n (i + 1) (g_rclear gl i)
def g_forget (g : SG) : SG := L_forget 5 0 g
def g_fire (g : SG) (i : Nat) : SG := up3 (up3 (g_leave (up3 (up3 g 3 i 10 ((g 3 i 10) - ((g 10 i 3) * 8))) 3 i 11 (8 + ((g 10 i 3) * 2))) ((g 2 0 ((g 0 0 2).toNatClampNeg)).toNatClampNeg) i (nI i)) 0 0 2 (((g_leave (up3 (up3 g 3 i 10 ((g 3 i 10) - ((g 10 i 3) * 8))) 3 i 11 (8 + ((g 10 i 3) * 2))) ((g 2 0 ((g 0 0 2).toNatClampNeg)).toNatClampNeg) i (nI i)) 0 0 2) + 1)) 0 0 3 (((g_leave (up3 (up3 g 3 i 10 ((g 3 i 10) - ((g 10 i 3) * 8))) 3 i 11 (8 + ((g 10 i 3) * 2))) ((g 2 0 ((g 0 0 2).toNatClampNeg)).toNatClampNeg) i (nI i)) 0 0 3) + 1)
def L_fireGuns : Nat → Nat → SG → SG
  | 0, i, gl => gl
  | n + 1, i, gl => if (gl 0 0 0) ≤ (nI i) then gl else if (gl 3 i 13) = 0 then L_fireGuns n (i + 1) gl else if (f_canFire gl i) = 0 then L_fireGuns n (i + 1) gl else if 16 ≤ (gl 0 0 2) then L_fireGuns n (i + 1) gl else L_fireGuns n (i + 1) (g_fire gl i)
def g_fireGuns (g : SG) : SG := L_fireGuns 5 0 g
def L_struck (g : SG) (k : Nat) : Nat → Nat → Int32
  | 0, i => 0
  | n + 1, i => if (g 0 0 0) ≤ (nI i) then 4 else if 16 < (f_dist g i (g 12 k 0) (g 12 k 1)) then L_struck g k n (i + 1) else if (nI i) = (g 12 k 4) then L_struck g k n (i + 1) else if (g 3 i 13) = 0 then L_struck g k n (i + 1) else nI i
def f_struck (g : SG) (k : Nat) : Int32 := L_struck g k 5 0
def L_die : Nat → Nat → SG → SG
  | 0, i, gl => gl
  | n + 1, i, gl => if (gl 0 0 0) ≤ (nI i) then gl else if (gl 3 i 13) = 0 then L_die n (i + 1) gl else L_die n (i + 1) (up3 gl 3 i 12 ((gl 3 i 12) + 400))
def g_die (g : SG) (j : Nat) : SG := if (g 3 j 10) ≤ 0 then L_die 5 0 (up3 g 3 j 13 0) else g
def g_strike (g : SG) (k : Nat) (j : Nat) : SG := if (g 3 ((g 12 k 4).toNatClampNeg) 13) = 0 then g_die (up3 (up3 (up3 (up3 g 3 j 10 ((g 3 j 10) - (f_damage g k))) 11 j 1 1) 3 ((g 12 k 4).toNatClampNeg) 12 ((g 3 ((g 12 k 4).toNatClampNeg) 12) + (f_damage g k))) 0 0 4 ((g 0 0 4) + 1)) j else g_die (up3 (up3 (up3 (up3 (up3 g 3 j 10 ((g 3 j 10) - (f_damage g k))) 11 j 1 1) 3 ((g 12 k 4).toNatClampNeg) 12 ((g 3 ((g 12 k 4).toNatClampNeg) 12) + (f_damage g k))) 0 0 4 ((g 0 0 4) + 1)) 3 ((g 12 k 4).toNatClampNeg) 10 (((up3 g 3 j 10 ((g 3 j 10) - (f_damage g k))) 3 ((g 12 k 4).toNatClampNeg) 10) + ((3 * (g 12 k 2)) * 8))) j
def L_stays (k : Nat) : Nat → Nat → SG → Int32 × SG
  | 0, gn, gl => (0, gl)
  | n + 1, gn, gl => if (8 - (gl 12 k 2)) ≤ (nI gn) then (1, gl) else if (f_inField (g_bgoOn gl k) k) = 0 then (0, g_bgoOn gl k) else if (f_struck (g_bgoOn gl k) k) = 4 then L_stays k n (gn + 1) (g_bgoOn gl k) else (0, g_strike (g_bgoOn gl k) k ((f_struck (g_bgoOn gl k) k).toNatClampNeg))
def x_stays (g : SG) (k : Nat) : Int32 × SG := L_stays k 9 0 g
def L_fly : Nat → Nat → Nat → SG → SG
  | 0, kp, i, gl => gl
  | n + 1, kp, i, gl => if (gl 0 0 2) ≤ (nI i) then up3 gl 0 0 2 (nI kp) else if ((x_stays gl ((gl 2 0 i).toNatClampNeg)).1) = 0 then L_fly n kp (i + 1) ((x_stays gl ((gl 2 0 i).toNatClampNeg)).2) else L_fly n (kp + 1) (i + 1) (up3 (up3 ((x_stays gl ((gl 2 0 i).toNatClampNeg)).2) 2 0 i (nI ((((x_stays gl ((gl 2 0 i).toNatClampNeg)).2) 2 0 kp).toNatClampNeg))) 2 0 kp (nI ((gl 2 0 i).toNatClampNeg)))
def g_fly (g : SG) : SG := L_fly 17 0 0 g
def L_touched (g : SG) (num px py : Int32) : Nat → Nat → Int32
  | 0, i => 0
  | n + 1, i => if (g 0 0 0) ≤ (nI i) then 4 else if (nI i) = num then L_touched g num px py n (i + 1) else if (g 3 i 13) = 0 then L_touched g num px py n (i + 1) else if 32 ≤ (f_dist g i px py) then L_touched g num px py n (i + 1) else nI i
def f_touched (g : SG) (num : Int32) (px : Int32) (py : Int32) : Int32 := L_touched g num px py 5 0
def g_drive2 (g h3 : SG) (j : Nat) : SG := if (f_touched h3 (nI j) (h3 3 j 3) (h3 3 j 4)) = 4 then if (h3 11 j 0) = 0 then g_cool (g_die h3 j) j else g_cool (g_die (up3 h3 3 j 8 0) j) j else g_cool (g_die (g_die (up3 (up3 (up3 (up3 (up3 (up3 h3 3 j 3 (g 3 j 3)) 3 j 4 (g 3 j 4)) 11 j 0 1) 3 j 10 ((h3 3 j 10) - 4)) 3 ((f_touched h3 (nI j) (h3 3 j 3) (h3 3 j 4)).toNatClampNeg) 10 (((up3 (up3 (up3 (up3 h3 3 j 3 (g 3 j 3)) 3 j 4 (g 3 j 4)) 11 j 0 1) 3 j 10 ((h3 3 j 10) - 4)) 3 ((f_touched h3 (nI j) (h3 3 j 3) (h3 3 j 4)).toNatClampNeg) 10) - 4)) 3 j 8 0) ((f_touched h3 (nI j) (h3 3 j 3) (h3 3 j 4)).toNatClampNeg)) j) j
def g_drive (g : SG) (j : Nat) : SG := g_drive2 g (g_goOn (g_changeSpeed (g_obeyTurns g j) j) j) j
def L_driveTanks : Nat → Nat → SG → SG
  | 0, i, gl => gl
  | n + 1, i, gl => if (gl 0 0 0) ≤ (nI i) then gl else if (gl 3 i 13) = 0 then L_driveTanks n (i + 1) gl else L_driveTanks n (i + 1) (g_drive gl i)
def g_driveTanks (g : SG) : SG := L_driveTanks 5 0 g
def L_look (j : Nat) : Nat → Nat → SG → SG
  | 0, i, gl => gl
  | n + 1, i, gl => if (gl 0 0 0) ≤ (nI i) then gl else if (nI i) = (nI j) then L_look j n (i + 1) gl else if (gl 3 i 13) = 0 then L_look j n (i + 1) gl else if (f_sector gl j i) = (gl 3 j 7) then L_look j n (i + 1) (g_note gl j (nI i) (f_dist gl j (gl 3 i 3) (gl 3 i 4))) else L_look j n (i + 1) gl
def g_look (g : SG) (j : Nat) : SG := L_look j 5 0 g
def L_sweep : Nat → Nat → SG → SG
  | 0, i, gl => gl
  | n + 1, i, gl => if (gl 0 0 0) ≤ (nI i) then gl else if (gl 3 i 13) = 0 then L_sweep n (i + 1) gl else L_sweep n (i + 1) (g_look gl i)
def g_sweep (g : SG) : SG := L_sweep 5 0 g
def x_turn (g : SG) : Int32 × SG := if 2 ≤ (f_alive g) then (f_alive (g_sweep (g_driveTanks (g_fly (g_fireGuns (g_forget (g_runPrograms (up3 g 0 0 1 ((g 0 0 1) + 1)))))))), g_sweep (g_driveTanks (g_fly (g_fireGuns (g_forget (g_runPrograms (up3 g 0 0 1 ((g 0 0 1) + 1)))))))) else (-1000000, g)
def L_restart : Nat → Int32 → Nat → SG → Int32 × SG
  | 0, made, i, gl => (0, gl)
  | n + 1, made, i, gl => if (gl 0 0 0) ≤ (nI i) then (made, up3 (up3 (up3 (up3 gl 0 0 1 0) 0 0 2 0) 0 0 3 0) 0 0 4 0) else L_restart n made (i + 1) (g_anew gl i)
def x_restart (g : SG) : Int32 × SG := L_restart 5 (g 0 0 1) 0 g
def x_enter (g : SG) (px : Int32) (py : Int32) (hd : Int32) : Int32 × SG := if 0 < (g 0 0 1) then (-1000000, g) else if 4 ≤ (g 0 0 0) then (-1000000, g) else if (f_within hd 0 7) = 0 then (-1000000, g) else if (f_within px 2 62) = 0 then (-1000000, g) else if (f_within py 2 62) = 0 then (-1000000, g) else if (f_touched g (g 0 0 0) (px * 8) (py * 8)) = 4 then ((((g_stand g ((g 0 0 0).toNatClampNeg) (px * 8) (py * 8) hd) 0 0 0) + 1) - 1, up3 (g_stand g ((g 0 0 0).toNatClampNeg) (px * 8) (py * 8) hd) 0 0 0 (((g_stand g ((g 0 0 0).toNatClampNeg) (px * 8) (py * 8) hd) 0 0 0) + 1)) else (-1000000, g)
def x_instr (g : SG) (tank : Int32) (op : Int32) (a : Int32) (b : Int32) : Int32 × SG := if (f_isTank g tank) = 0 then (-1000000, g) else if 0 < (g 0 0 1) then (-1000000, g) else if (f_allows op a b) = 0 then (-1000000, g) else if (f_full g tank.toNatClampNeg) = 0 then ((g_add g tank.toNatClampNeg op a b) 4 tank.toNatClampNeg 0, g_add g tank.toNatClampNeg op a b) else (-1000000, g)
def f_measure (g : SG) (tank : Int32) (what : Int32) : Int64 := if (f_isTank g tank) = 0 then -1000000 else (f_measured g tank.toNatClampNeg what).toInt64
def f_state (g : SG) (tank : Int32) (what : Int32) : Int32 := if (f_isTank g tank) = 0 then -1000000 else f_told g tank.toNatClampNeg what
def f_bullet (g : SG) (q : Int32) (what : Int32) : Int32 := if (f_within q 0 ((g 0 0 2) - 1)) = 0 then -1000000 else f_btold g ((g 2 0 q.toNatClampNeg).toNatClampNeg) what
def f_count (g : SG) (what : Int32) : Int32 := if what = 0 then g 0 0 1 else if what = 1 then g 0 0 0 else if what = 2 then f_alive g else if what = 3 then g 0 0 2 else if what = 4 then g 0 0 3 else if what = 5 then g 0 0 4 else -1000000
