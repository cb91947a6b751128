/-! FUNCTIONS of the reference (printed by gen/all_r.py out of the bytecode) -/
def f_Racross (d : Int32) : Int32 := if d = 7 then 1 else if 2 ≤ d then if d ≤ 2 then 0 else if 6 ≤ d then 0 else -1 else 1
def f_Rup (d : Int32) : Int32 := if d ≤ 0 then if d ≤ 4 then 0 else -1 else if 4 ≤ d then if d ≤ 4 then 0 else -1 else 1
def f_Rabs (v : Int32) : Int32 := if 0 ≤ v then v else -v
def f_Rsector (dx : Int32) (dy : Int32) : Int32 := if (f_Rabs dx) < (2 * (f_Rabs dy)) then if (f_Rabs dy) < (2 * (f_Rabs dx)) then if dy ≤ 0 then if dx ≤ 0 then 5 else 7 else if dx ≤ 0 then 3 else 1 else if 0 ≤ dy then 2 else 6 else if 0 ≤ dx then 0 else 4
def f_Rtouch (g : SG) (ai : Nat) (bi : Nat) : Int32 := if 32 ≤ (f_Rabs ((g 8 0 ai) - (g 8 0 bi))) then 0 else if 32 ≤ (f_Rabs ((g 9 0 ai) - (g 9 0 bi))) then 0 else 1
theorem z_Rtouch (g : SG) (ai : Nat) (bi : Nat) : f_Rtouch g ai bi = 0 ∨ f_Rtouch g ai bi = 1 := by
  unfold f_Rtouch
  by_cases h30 : 32 ≤ (f_Rabs ((g 8 0 ai) - (g 8 0 bi)))
  · rw [if_pos h30]
    exact Or.inl rfl
  · rw [if_neg h30]
    by_cases h31 : 32 ≤ (f_Rabs ((g 9 0 ai) - (g 9 0 bi)))
    · rw [if_pos h31]
      exact Or.inl rfl
    · rw [if_neg h31]
      exact Or.inr rfl
def g_Rforget (g : SG) (t : Nat) : SG := up3 (up3 (up3 (up3 g 22 0 t 0) 23 0 t 0) 24 0 t 4) 25 0 t 0
def g_Rreset (g : SG) (t : Nat) : SG := g_Rforget (up3 (up3 (up3 (up3 (up3 (up3 (up3 (up3 (up3 (up3 (up3 (up3 (up3 (up3 (up3 g 8 0 t (g 1 0 t)) 9 0 t (g 2 0 t)) 10 0 t (g 3 0 t)) 11 0 t (g 3 0 t)) 12 0 t (g 3 0 t)) 13 0 t 0) 14 0 t 0) 15 0 t 800) 16 0 t 24) 17 0 t 0) 18 0 (2 * t) 0) 18 0 (2 * t + 1) 0) 19 0 t 0) 20 0 t 0) 21 0 t 1) t
def f_Rin (v : Int32) (lo : Int32) (hi : Int32) : Int32 := if v < lo then 0 else if hi < v then 0 else 1
theorem z_Rin (v : Int32) (lo : Int32) (hi : Int32) : f_Rin v lo hi = 0 ∨ f_Rin v lo hi = 1 := by
  unfold f_Rin
  by_cases h32 : v < lo
  · rw [if_pos h32]
    exact Or.inl rfl
  · rw [if_neg h32]
    by_cases h33 : hi < v
    · rw [if_pos h33]
      exact Or.inl rfl
    · rw [if_neg h33]
      exact Or.inr rfl
def f_Rfits (op : Int32) (a : Int32) (b : Int32) : Int32 := if op = 0 then 1 else if op = 1 then f_Rin a 0 8 else if 5 ≤ op then if op = 5 then f_Rin a 1 3 else if 11 ≤ op then if op = 11 then if (f_Rin a 0 1) = 0 then 0 else if (f_Rin b 0 100) = 0 then 0 else 1 else if (f_Rin a 0 15) = 0 then 0 else if (f_Rin b 0 1) = 0 then 0 else 1 else f_Rin a 0 15 else f_Rin a (-1) 1
theorem z_Rfits (op : Int32) (a : Int32) (b : Int32) : f_Rfits op a b = 0 ∨ f_Rfits op a b = 1 := by
  unfold f_Rfits
  by_cases h34 : op = 0
  · rw [if_pos h34]
    exact Or.inr rfl
  · rw [if_neg h34]
    by_cases h35 : op = 1
    · rw [if_pos h35]
      exact z_Rin ..
    · rw [if_neg h35]
      by_cases h36 : 5 ≤ op
      · rw [if_pos h36]
        by_cases h37 : op = 5
        · rw [if_pos h37]
          exact z_Rin ..
        · rw [if_neg h37]
          by_cases h38 : 11 ≤ op
          · rw [if_pos h38]
            by_cases h39 : op = 11
            · rw [if_pos h39]
              by_cases h40 : (f_Rin a 0 1) = 0
              · rw [if_pos h40]
                exact Or.inl rfl
              · rw [if_neg h40]
                by_cases h41 : (f_Rin b 0 100) = 0
                · rw [if_pos h41]
                  exact Or.inl rfl
                · rw [if_neg h41]
                  exact Or.inr rfl
            · rw [if_neg h39]
              by_cases h42 : (f_Rin a 0 15) = 0
              · rw [if_pos h42]
                exact Or.inl rfl
              · rw [if_neg h42]
                by_cases h43 : (f_Rin b 0 1) = 0
                · rw [if_pos h43]
                  exact Or.inl rfl
                · rw [if_neg h43]
                  exact Or.inr rfl
          · rw [if_neg h38]
            exact z_Rin ..
      · rw [if_neg h36]
        exact z_Rin ..
def L_Renter (g : SG) (px py hd : Int32) : Nat → Nat → Int32 × SG
  | 0, i => (0, g)
  | n + 1, i => if (g 0 0 0) ≤ (nI i) then ((((g_Rreset (up3 (up3 (up3 g 1 0 ((g 0 0 0).toNatClampNeg) (8 * px)) 2 0 ((g 0 0 0).toNatClampNeg) (8 * py)) 3 0 ((g 0 0 0).toNatClampNeg) hd) ((g 0 0 0).toNatClampNeg)) 0 0 0) + 1) - 1, up3 (g_Rreset (up3 (up3 (up3 g 1 0 ((g 0 0 0).toNatClampNeg) (8 * px)) 2 0 ((g 0 0 0).toNatClampNeg) (8 * py)) 3 0 ((g 0 0 0).toNatClampNeg) hd) ((g 0 0 0).toNatClampNeg)) 0 0 0 (((g_Rreset (up3 (up3 (up3 g 1 0 ((g 0 0 0).toNatClampNeg) (8 * px)) 2 0 ((g 0 0 0).toNatClampNeg) (8 * py)) 3 0 ((g 0 0 0).toNatClampNeg) hd) ((g 0 0 0).toNatClampNeg)) 0 0 0) + 1)) else if 32 ≤ (f_Rabs ((g 1 0 i) - (8 * px))) then L_Renter g px py hd n (i + 1) else if 32 ≤ (f_Rabs ((g 2 0 i) - (8 * py))) then L_Renter g px py hd n (i + 1) else (-1000000, g)
def x_Renter (g : SG) (px : Int32) (py : Int32) (hd : Int32) : Int32 × SG := if px < 2 then (-1000000, g) else if 62 < px then (-1000000, g) else if py < 2 then (-1000000, g) else if 62 < py then (-1000000, g) else if hd < 0 then (-1000000, g) else if 7 < hd then (-1000000, g) else if 0 < (g 0 0 1) then (-1000000, g) else if (g 0 0 0) = 4 then (-1000000, g) else L_Renter g px py hd 5 0
def x_Rinstr (g : SG) (tank : Int32) (op : Int32) (a : Int32) (b : Int32) : Int32 × SG := if tank < 0 then (-1000000, g) else if (g 0 0 0) ≤ tank then (-1000000, g) else if 0 < (g 0 0 1) then (-1000000, g) else if (f_Rin op 0 12) = 0 then (-1000000, g) else if (f_Rfits op a b) = 0 then (-1000000, g) else if (g 4 0 tank.toNatClampNeg) = 16 then (-1000000, g) else ((g 4 0 tank.toNatClampNeg) + 1, up3 (up3 (up3 (up3 g 5 0 (16 * tank.toNatClampNeg + (g 4 0 tank.toNatClampNeg).toNatClampNeg) op) 6 0 (16 * tank.toNatClampNeg + (g 4 0 tank.toNatClampNeg).toNatClampNeg) a) 7 0 (16 * tank.toNatClampNeg + (g 4 0 tank.toNatClampNeg).toNatClampNeg) b) 4 0 tank.toNatClampNeg ((g 4 0 tank.toNatClampNeg) + 1))
def L_Rliving (g : SG) : Nat → Int32 → Nat → Int32
  | 0, al, i => 0
  | n + 1, al, i => if (g 0 0 0) ≤ (nI i) then al else if (g 21 0 i) = 0 then L_Rliving g n al (i + 1) else L_Rliving g n (al + 1) (i + 1)
def f_Rliving (g : SG) : Int32 := L_Rliving g 5 0 0
def x_Rjumps (g : SG) (t : Nat) (op : Int32) (b : Int32) : Int32 × SG := if op = 6 then (1, g) else if op = 7 then if 4 ≤ (g 24 0 t) then (0, g) else (1, g) else if op = 8 then (g 22 0 t, g) else if op = 9 then (g 23 0 t, g) else if op = 10 then if 4 ≤ (g 24 0 t) then (0, g) else if (f_Rsector ((g 8 0 ((g 24 0 t).toNatClampNeg)) - (g 8 0 t)) ((g 9 0 ((g 24 0 t).toNatClampNeg)) - (g 9 0 t))) = (g 11 0 t) then (1, g) else (0, g) else if op = 11 then (0, g) else if op = 12 then if ((g 18 0 (2 * t + b.toNatClampNeg)) - 1) ≤ 0 then (0, up3 g 18 0 (2 * t + b.toNatClampNeg) ((g 18 0 (2 * t + b.toNatClampNeg)) - 1)) else (1, up3 g 18 0 (2 * t + b.toNatClampNeg) ((g 18 0 (2 * t + b.toNatClampNeg)) - 1)) else (0, g)
def J_Rperf67 (t : Nat) (op a b : Int32) (gl : SG) : SG := if ((x_Rjumps gl t op b).1) = 0 then up3 ((x_Rjumps gl t op b).2) 17 0 t ((((x_Rjumps gl t op b).2) 17 0 t) + 1) else up3 ((x_Rjumps gl t op b).2) 17 0 t a
def J_Rperf49 (t : Nat) (op a b : Int32) (gl : SG) : SG := if op = 11 then J_Rperf67 t op a b (up3 gl 18 0 (2 * t + a.toNatClampNeg) b) else J_Rperf67 t op a b gl
def J_Rperf37 (t : Nat) (op a b : Int32) (gl : SG) : SG := if op = 5 then J_Rperf49 t op a b (up3 gl 27 0 t a) else J_Rperf49 t op a b gl
def J_Rperf14 (t : Nat) (op a b : Int32) (gl : SG) : SG := if op ≤ 1 then J_Rperf37 t op a b gl else if 5 ≤ op then J_Rperf37 t op a b gl else J_Rperf37 t op a b (up3 gl 26 0 (4 * (op.toNatClampNeg - 2) + t) a)
def g_Rperform (g : SG) (t : Nat) (op : Int32) (a : Int32) (b : Int32) : SG := if op = 1 then J_Rperf14 t op a b (up3 g 14 0 t (4 * a)) else J_Rperf14 t op a b g
def L_RnoAsking (t : Nat) : Nat → Nat → SG → SG
  | 0, k, gl => gl
  | n + 1, k, gl => if 3 ≤ (nI k) then up3 gl 27 0 t 0 else L_RnoAsking t n (k + 1) (up3 gl 26 0 (4 * k + t) 0)
def g_RnoAsking (g : SG) (t : Nat) : SG := L_RnoAsking t 4 0 g
def L_Rprogram (t : Nat) : Nat → Int32 → Nat → SG → SG
  | 0, bf, dn, gl => gl
  | n + 1, bf, dn, gl => if 10 ≤ (nI dn) then up3 (g_RnoAsking (up3 gl 19 0 t ((gl 19 0 t) + 1)) t) 14 0 t bf else if (gl 17 0 t) < (gl 4 0 t) then if ((g_Rperform gl t (gl 5 0 (16 * t + (gl 17 0 t).toNatClampNeg)) (gl 6 0 (16 * t + (gl 17 0 t).toNatClampNeg)) (gl 7 0 (16 * t + (gl 17 0 t).toNatClampNeg))) 5 0 (16 * t + (gl 17 0 t).toNatClampNeg)) = 0 then g_Rperform gl t (gl 5 0 (16 * t + (gl 17 0 t).toNatClampNeg)) (gl 6 0 (16 * t + (gl 17 0 t).toNatClampNeg)) (gl 7 0 (16 * t + (gl 17 0 t).toNatClampNeg)) else L_Rprogram t n bf (dn + 1) (g_Rperform gl t (gl 5 0 (16 * t + (gl 17 0 t).toNatClampNeg)) (gl 6 0 (16 * t + (gl 17 0 t).toNatClampNeg)) (gl 7 0 (16 * t + (gl 17 0 t).toNatClampNeg))) else up3 gl 17 0 t 0
def g_Rprogram (g : SG) (t : Nat) : SG := L_Rprogram t 11 (g 14 0 t) 0 g
def g_Rfire (g : SG) (t : Nat) : SG := if (g 27 0 t) = 0 then g else if 0 < (g 16 0 t) then g else if (8 * (g 27 0 t)) < (g 15 0 t) then up3 (up3 (up3 (up3 (up3 (up3 (up3 (up3 (up3 (up3 g 15 0 t ((g 15 0 t) - (8 * (g 27 0 t)))) 16 0 t (8 + (2 * (g 27 0 t)))) 28 0 ((g 0 0 4).toNatClampNeg) (g 8 0 t)) 29 0 ((g 0 0 4).toNatClampNeg) (g 9 0 t)) 30 0 ((g 0 0 4).toNatClampNeg) (g 27 0 t)) 31 0 ((g 0 0 4).toNatClampNeg) (g 11 0 t)) 32 0 ((g 0 0 4).toNatClampNeg) (nI t)) 33 0 ((g 0 0 4).toNatClampNeg) 0) 0 0 4 ((g 0 0 4) + 1)) 0 0 2 ((g 0 0 2) + 1) else g
def L_Rcheck : Nat → Nat → SG → SG
  | 0, i, gl => gl
  | n + 1, i, gl => if (gl 0 0 0) ≤ (nI i) then gl else if (gl 21 0 i) = 0 then L_Rcheck n (i + 1) gl else L_Rcheck n (i + 1) (up3 gl 20 0 i ((gl 20 0 i) + 400))
def g_Rcheck (g : SG) (t : Nat) : SG := if (g 21 0 t) = 0 then g else if (g 15 0 t) ≤ 0 then L_Rcheck 5 0 (up3 g 21 0 t 0) else g
def g_Rstrike (g : SG) (bi : Nat) (t : Nat) : SG := if (g 21 0 ((g 32 0 bi).toNatClampNeg)) = 0 then g_Rcheck (up3 (up3 (up3 (up3 (up3 g 0 0 3 ((g 0 0 3) + 1)) 23 0 t 1) 15 0 t ((g 15 0 t) - ((32 * (g 30 0 bi)) + (16 * ((g 30 0 bi) - 1))))) 20 0 ((g 32 0 bi).toNatClampNeg) ((g 20 0 ((g 32 0 bi).toNatClampNeg)) + ((32 * (g 30 0 bi)) + (16 * ((g 30 0 bi) - 1))))) 33 0 bi 1) t else g_Rcheck (up3 (up3 (up3 (up3 (up3 (up3 g 0 0 3 ((g 0 0 3) + 1)) 23 0 t 1) 15 0 t ((g 15 0 t) - ((32 * (g 30 0 bi)) + (16 * ((g 30 0 bi) - 1))))) 20 0 ((g 32 0 bi).toNatClampNeg) ((g 20 0 ((g 32 0 bi).toNatClampNeg)) + ((32 * (g 30 0 bi)) + (16 * ((g 30 0 bi) - 1))))) 15 0 ((g 32 0 bi).toNatClampNeg) (((up3 (up3 (up3 g 0 0 3 ((g 0 0 3) + 1)) 23 0 t 1) 15 0 t ((g 15 0 t) - ((32 * (g 30 0 bi)) + (16 * ((g 30 0 bi) - 1))))) 15 0 ((g 32 0 bi).toNatClampNeg)) + (24 * (g 30 0 bi)))) 33 0 bi 1) t
def L_Rstruck (g : SG) (bi : Nat) : Nat → Nat → Int32
  | 0, i => 0
  | n + 1, i => if (g 0 0 0) ≤ (nI i) then 4 else if (g 21 0 i) = 0 then L_Rstruck g bi n (i + 1) else if (nI i) = (g 32 0 bi) then L_Rstruck g bi n (i + 1) else if 16 < (f_Rabs ((g 8 0 i) - (g 28 0 bi))) then L_Rstruck g bi n (i + 1) else if 16 < (f_Rabs ((g 9 0 i) - (g 29 0 bi))) then L_Rstruck g bi n (i + 1) else nI i
def f_Rstruck (g : SG) (bi : Nat) : Int32 := L_Rstruck g bi 5 0
def L_Rfly (bi : Nat) : Nat → Nat → SG → SG
  | 0, k, gl => gl
  | n + 1, k, gl => if (8 - (gl 30 0 bi)) ≤ (nI k) then gl else if (gl 33 0 bi) = 0 then if ((gl 28 0 bi) + (8 * (f_Racross (gl 31 0 bi)))) < 0 then up3 (up3 (up3 gl 28 0 bi ((gl 28 0 bi) + (8 * (f_Racross (gl 31 0 bi))))) 29 0 bi ((gl 29 0 bi) + (8 * (f_Rup (gl 31 0 bi))))) 33 0 bi 1 else if ((gl 29 0 bi) + (8 * (f_Rup (gl 31 0 bi)))) < 0 then up3 (up3 (up3 gl 28 0 bi ((gl 28 0 bi) + (8 * (f_Racross (gl 31 0 bi))))) 29 0 bi ((gl 29 0 bi) + (8 * (f_Rup (gl 31 0 bi))))) 33 0 bi 1 else if 512 < ((gl 28 0 bi) + (8 * (f_Racross (gl 31 0 bi)))) then up3 (up3 (up3 gl 28 0 bi ((gl 28 0 bi) + (8 * (f_Racross (gl 31 0 bi))))) 29 0 bi ((gl 29 0 bi) + (8 * (f_Rup (gl 31 0 bi))))) 33 0 bi 1 else if ((gl 29 0 bi) + (8 * (f_Rup (gl 31 0 bi)))) ≤ 512 then if 4 ≤ (f_Rstruck (up3 (up3 gl 28 0 bi ((gl 28 0 bi) + (8 * (f_Racross (gl 31 0 bi))))) 29 0 bi ((gl 29 0 bi) + (8 * (f_Rup (gl 31 0 bi))))) bi) then L_Rfly bi n (k + 1) (up3 (up3 gl 28 0 bi ((gl 28 0 bi) + (8 * (f_Racross (gl 31 0 bi))))) 29 0 bi ((gl 29 0 bi) + (8 * (f_Rup (gl 31 0 bi))))) else L_Rfly bi n (k + 1) (g_Rstrike (up3 (up3 gl 28 0 bi ((gl 28 0 bi) + (8 * (f_Racross (gl 31 0 bi))))) 29 0 bi ((gl 29 0 bi) + (8 * (f_Rup (gl 31 0 bi))))) bi ((f_Rstruck (up3 (up3 gl 28 0 bi ((gl 28 0 bi) + (8 * (f_Racross (gl 31 0 bi))))) 29 0 bi ((gl 29 0 bi) + (8 * (f_Rup (gl 31 0 bi))))) bi).toNatClampNeg)) else up3 (up3 (up3 gl 28 0 bi ((gl 28 0 bi) + (8 * (f_Racross (gl 31 0 bi))))) 29 0 bi ((gl 29 0 bi) + (8 * (f_Rup (gl 31 0 bi))))) 33 0 bi 1 else gl
def g_Rfly (g : SG) (bi : Nat) : SG := L_Rfly bi 9 0 g
def f_Rlimited (v : Int32) : Int32 := if 16 ≤ v then if v ≤ 496 then v else 496 else 16
def L_Rtouched (g : SG) (t : Nat) : Nat → Nat → Int32
  | 0, i => 0
  | n + 1, i => if (g 0 0 0) ≤ (nI i) then 4 else if (nI i) = (nI t) then L_Rtouched g t n (i + 1) else if (g 21 0 i) = 0 then L_Rtouched g t n (i + 1) else if (f_Rtouch g i t) = 0 then L_Rtouched g t n (i + 1) else nI i
def f_Rtouched (g : SG) (t : Nat) : Int32 := L_Rtouched g t 5 0
def L_Rlook (t : Nat) : Nat → Nat → SG → SG
  | 0, i, gl => gl
  | n + 1, i, gl => if (gl 0 0 0) ≤ (nI i) then gl else if (nI i) = (nI t) then L_Rlook t n (i + 1) gl else if (gl 21 0 i) = 0 then L_Rlook t n (i + 1) gl else if (f_Rsector ((gl 8 0 i) - (gl 8 0 t)) ((gl 9 0 i) - (gl 9 0 t))) = (gl 12 0 t) then if (f_Rabs ((gl 8 0 i) - (gl 8 0 t))) ≤ (f_Rabs ((gl 9 0 i) - (gl 9 0 t))) then if 4 ≤ (gl 24 0 t) then L_Rlook t n (i + 1) (up3 (up3 gl 24 0 t (nI i)) 25 0 t (f_Rabs ((gl 9 0 i) - (gl 9 0 t)))) else if (f_Rabs ((gl 9 0 i) - (gl 9 0 t))) < (gl 25 0 t) then L_Rlook t n (i + 1) (up3 (up3 gl 24 0 t (nI i)) 25 0 t (f_Rabs ((gl 9 0 i) - (gl 9 0 t)))) else L_Rlook t n (i + 1) gl else if 4 ≤ (gl 24 0 t) then L_Rlook t n (i + 1) (up3 (up3 gl 24 0 t (nI i)) 25 0 t (f_Rabs ((gl 8 0 i) - (gl 8 0 t)))) else if (f_Rabs ((gl 8 0 i) - (gl 8 0 t))) < (gl 25 0 t) then L_Rlook t n (i + 1) (up3 (up3 gl 24 0 t (nI i)) 25 0 t (f_Rabs ((gl 8 0 i) - (gl 8 0 t)))) else L_Rlook t n (i + 1) gl else L_Rlook t n (i + 1) gl
def g_Rlook (g : SG) (t : Nat) : SG := L_Rlook t 5 0 g
def L_Rrestart : Nat → Int32 → Nat → SG → Int32 × SG
  | 0, made, i, gl => (0, gl)
  | n + 1, made, i, gl => if (gl 0 0 0) ≤ (nI i) then (made, gl) else L_Rrestart n made (i + 1) (g_Rreset gl i)
def x_Rrestart (g : SG) : Int32 × SG := L_Rrestart 5 (g 0 0 1) 0 (up3 (up3 (up3 (up3 g 0 0 1 0) 0 0 2 0) 0 0 3 0) 0 0 4 0)
def f_Rmeasure (g : SG) (tank : Int32) (what : Int32) : Int64 := if tank < 0 then -1000000 else if tank < (g 0 0 0) then if what = 0 then (g 8 0 tank.toNatClampNeg).toInt64 else if what = 1 then (g 9 0 tank.toNatClampNeg).toInt64 else if what = 2 then (g 13 0 tank.toNatClampNeg).toInt64 else if what = 3 then (g 15 0 tank.toNatClampNeg).toInt64 else if what = 4 then (g 16 0 tank.toNatClampNeg).toInt64 else if what = 5 then (g 14 0 tank.toNatClampNeg).toInt64 else if what = 6 then (g 20 0 tank.toNatClampNeg).toInt64 else if what = 7 then (g 25 0 tank.toNatClampNeg).toInt64 else -1000000 else -1000000
def f_Rstate (g : SG) (tank : Int32) (what : Int32) : Int32 := if tank < 0 then -1000000 else if tank < (g 0 0 0) then if what = 0 then g 10 0 tank.toNatClampNeg else if what = 1 then g 11 0 tank.toNatClampNeg else if what = 2 then g 12 0 tank.toNatClampNeg else if what = 3 then if (g 21 0 tank.toNatClampNeg) = 0 then 0 else 1 else if what = 4 then g 19 0 tank.toNatClampNeg else if what = 5 then g 17 0 tank.toNatClampNeg else if what = 6 then g 18 0 (2 * tank.toNatClampNeg + (what.toNatClampNeg - 6)) else if what = 7 then g 18 0 (2 * tank.toNatClampNeg + (what.toNatClampNeg - 6)) else if what = 8 then g 24 0 tank.toNatClampNeg else if what = 9 then if (g 22 0 tank.toNatClampNeg) = 0 then 0 else 1 else if what = 10 then if (g 23 0 tank.toNatClampNeg) = 0 then 0 else 1 else -1000000 else -1000000
def L_Rthere (g : SG) : Nat → Int32 → Nat → Int32
  | 0, al, i => 0
  | n + 1, al, i => if (g 0 0 4) ≤ (nI i) then al else if (g 33 0 i) = 0 then L_Rthere g n (al + 1) (i + 1) else L_Rthere g n al (i + 1)
def f_Rthere (g : SG) : Int32 := L_Rthere g 601 0 0
def L_Rbullet (g : SG) (q what : Int32) : Nat → Int32 → Nat → Int32
  | 0, lf, i => 0
  | n + 1, lf, i => if (g 0 0 4) ≤ (nI i) then -1000000 else if (g 33 0 i) = 0 then if lf = 0 then if what = 0 then g 28 0 i else if what = 1 then g 29 0 i else if what = 2 then g 30 0 i else if what = 3 then g 31 0 i else g 32 0 i else L_Rbullet g q what n (lf + (-1)) (i + 1) else L_Rbullet g q what n lf (i + 1)
def f_Rbullet (g : SG) (q : Int32) (what : Int32) : Int32 := if q < 0 then -1000000 else if what < 0 then -1000000 else if what ≤ 4 then L_Rbullet g q what 601 q 0 else -1000000
def f_Rcount (g : SG) (what : Int32) : Int32 := if what = 0 then g 0 0 1 else if what = 1 then g 0 0 0 else if what = 2 then f_Rliving g else if what = 3 then f_Rthere g else if what = 4 then g 0 0 2 else if what = 5 then g 0 0 3 else -1000000
def J_Rdrive370 (t : Nat) (gl : SG) : SG := if 2 ≤ ((g_Rcheck gl t) 16 0 t) then up3 (g_Rcheck gl t) 16 0 t (((g_Rcheck gl t) 16 0 t) - 2) else up3 (g_Rcheck gl t) 16 0 t 0
def J_Rdrive354 (t : Nat) (gl : SG) : SG := if (gl 22 0 t) = 0 then J_Rdrive370 t gl else J_Rdrive370 t (up3 gl 13 0 t 0)
def J_Rdrive292 (t : Nat) (ox : Int32) (oy : Int32) (gl : SG) : SG := if 4 ≤ (f_Rtouched gl t) then J_Rdrive354 t gl else J_Rdrive354 t (g_Rcheck (up3 (up3 (up3 (up3 (up3 gl 8 0 t ox) 9 0 t oy) 22 0 t 1) 15 0 t ((gl 15 0 t) - 4)) 15 0 ((f_Rtouched gl t).toNatClampNeg) (((up3 (up3 (up3 (up3 gl 8 0 t ox) 9 0 t oy) 22 0 t 1) 15 0 t ((gl 15 0 t) - 4)) 15 0 ((f_Rtouched gl t).toNatClampNeg)) - 4)) ((f_Rtouched gl t).toNatClampNeg))
def J_Rdrive168 (t : Nat) (gl : SG) : SG := if (f_Rlimited ((gl 8 0 t) + ((gl 13 0 t) * (f_Racross (gl 10 0 t))))) = ((gl 8 0 t) + ((gl 13 0 t) * (f_Racross (gl 10 0 t)))) then if (f_Rlimited ((gl 9 0 t) + ((gl 13 0 t) * (f_Rup (gl 10 0 t))))) = ((gl 9 0 t) + ((gl 13 0 t) * (f_Rup (gl 10 0 t)))) then J_Rdrive292 t (gl 8 0 t) (gl 9 0 t) (up3 (up3 gl 8 0 t (f_Rlimited ((gl 8 0 t) + ((gl 13 0 t) * (f_Racross (gl 10 0 t)))))) 9 0 t (f_Rlimited ((gl 9 0 t) + ((gl 13 0 t) * (f_Rup (gl 10 0 t)))))) else J_Rdrive292 t (gl 8 0 t) (gl 9 0 t) (up3 (up3 (up3 (up3 gl 8 0 t (f_Rlimited ((gl 8 0 t) + ((gl 13 0 t) * (f_Racross (gl 10 0 t)))))) 9 0 t (f_Rlimited ((gl 9 0 t) + ((gl 13 0 t) * (f_Rup (gl 10 0 t)))))) 22 0 t 1) 15 0 t ((gl 15 0 t) - ((gl 13 0 t) / 2))) else J_Rdrive292 t (gl 8 0 t) (gl 9 0 t) (up3 (up3 (up3 (up3 gl 8 0 t (f_Rlimited ((gl 8 0 t) + ((gl 13 0 t) * (f_Racross (gl 10 0 t)))))) 9 0 t (f_Rlimited ((gl 9 0 t) + ((gl 13 0 t) * (f_Rup (gl 10 0 t)))))) 22 0 t 1) 15 0 t ((gl 15 0 t) - ((gl 13 0 t) / 2)))
def J_Rdrive103 (t : Nat) (w : Int32) (gl : SG) : SG := if w ≤ (gl 13 0 t) then if (gl 13 0 t) ≤ w then J_Rdrive168 t gl else if w ≤ ((gl 13 0 t) - 8) then J_Rdrive168 t (up3 gl 13 0 t ((gl 13 0 t) - 8)) else J_Rdrive168 t (up3 gl 13 0 t w) else J_Rdrive168 t (up3 gl 13 0 t ((gl 13 0 t) + 4))
def J_Rdrive33 (t : Nat) (gl : SG) : SG := if (gl 19 0 t) ≤ 2 then J_Rdrive103 t (gl 14 0 t) (up3 (up3 gl 11 0 t (((gl 11 0 t) + (gl 26 0 (4 + t))) &&& 7)) 12 0 t (((gl 12 0 t) + (gl 26 0 (8 + t))) &&& 7)) else J_Rdrive103 t 0 (up3 (up3 gl 11 0 t (((gl 11 0 t) + (gl 26 0 (4 + t))) &&& 7)) 12 0 t (((gl 12 0 t) + (gl 26 0 (8 + t))) &&& 7))
def g_Rdrive (g : SG) (t : Nat) : SG := if 16 < (g 13 0 t) then J_Rdrive33 t g else J_Rdrive33 t (up3 g 10 0 t (((g 10 0 t) + (g 26 0 t)) &&& 7))
def L_Rt6 : Nat → Nat → SG → Int32 × SG
  | 0, i6, glf => (0, glf)
  | nf + 1, i6, glf => if (glf 0 0 0) ≤ (nI i6) then (f_Rliving glf, glf) else if (glf 21 0 i6) = 0 then L_Rt6 nf (i6 + 1) glf else L_Rt6 nf (i6 + 1) (g_Rlook glf i6)
def L_Rt5 : Nat → Nat → SG → Int32 × SG
  | 0, i5, gle => (0, gle)
  | ne + 1, i5, gle => if (gle 0 0 0) ≤ (nI i5) then L_Rt6 5 0 gle else if (gle 21 0 i5) = 0 then L_Rt5 ne (i5 + 1) gle else L_Rt5 ne (i5 + 1) (g_Rdrive gle i5)
def L_Rt4 : Nat → Nat → SG → Int32 × SG
  | 0, i4, gld => (0, gld)
  | nd + 1, i4, gld => if (gld 0 0 4) ≤ (nI i4) then L_Rt5 5 0 gld else if (gld 33 0 i4) = 0 then L_Rt4 nd (i4 + 1) (g_Rfly gld i4) else L_Rt4 nd (i4 + 1) gld
def L_Rt3 : Nat → Nat → SG → Int32 × SG
  | 0, i3, glc => (0, glc)
  | nc + 1, i3, glc => if (glc 0 0 0) ≤ (nI i3) then L_Rt4 601 0 glc else if (glc 21 0 i3) = 0 then L_Rt3 nc (i3 + 1) glc else L_Rt3 nc (i3 + 1) (g_Rfire glc i3)
def L_Rt2 : Nat → Nat → SG → Int32 × SG
  | 0, i2, glb => (0, glb)
  | nb + 1, i2, glb => if (glb 0 0 0) ≤ (nI i2) then L_Rt3 5 0 glb else L_Rt2 nb (i2 + 1) (g_Rforget glb i2)
def L_Rt1 : Nat → Nat → SG → Int32 × SG
  | 0, i1, gla => (0, gla)
  | na + 1, i1, gla => if (gla 0 0 0) ≤ (nI i1) then L_Rt2 5 0 gla else if ((g_RnoAsking gla i1) 21 0 i1) = 0 then L_Rt1 na (i1 + 1) (g_RnoAsking gla i1) else if 3 ≤ ((g_RnoAsking gla i1) 19 0 i1) then L_Rt1 na (i1 + 1) (g_RnoAsking gla i1) else L_Rt1 na (i1 + 1) (g_Rprogram (g_RnoAsking gla i1) i1)
def x_Rturn (g : SG) : Int32 × SG := if 2 ≤ (f_Rliving g) then L_Rt1 5 0 (up3 g 0 0 1 ((g 0 0 1) + 1)) else (-1000000, g)
