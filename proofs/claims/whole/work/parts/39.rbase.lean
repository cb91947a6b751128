/-! ROWS for the reference's side (mine): an object whose ints and references stand mixed; arrays read behind writes; boolean arrays -/
section KR
variable {p : Program} {l : Launch} {e : Env} {R : Room} {s : State} {m : MethodId} {args : Array Value} {below : List Frame} {meth : Method} {c : Code} {H : Heap} {locs : List Loc} {cells slots : Nat} {Q : State → Prop}
variable {cc : ByteArray} {nL : Nat} {ret : Option FieldType} {own : String} {Ts : List Cond} {D : va_G} {cl : List vw_C} {tys : List (ClassId × FieldType)} {A : Nat → Prop} {Zs : List Zt}
variable {pc : Nat} {ls : Array Slot} {rest : List Value}
variable {ix : List (Nat × Nat)} {ad : Nat → Nat → Nat} {cf : Nat → Nat → (Nat → Int32) → va_E} {g : SG}
theorem kx_geto {k i ci idx n : Nat} {fs : (Nat → Int32) → List Value} (j : Nat) (v : Int32) (X : Cx p s m args meth c cc nL ret own Ts D cl tys A Zs) (Wd : Wo D cl A s.heap (gwd ix ad cf g) H locs) (hix : (k, i) ∈ ix) (hcell : ∀ r, cf k i r = .inr (ci, fs r)) (F : Fg own idx Ts cl ci n) (hv : ∀ r, (fs r)[n]? = some (.int (r j))) (hg : g k i j = v) (hd : decode cc pc = .ok (.getfield idx, 3))
    (kk : W p l e R s m args below meth c H locs cells slots Q (F0 m (pc + 3) ls (.int v :: rest))) : W p l e R s m args below meth c H locs cells slots Q (F0 m pc ls (.ref (ad k i) :: rest)) := by
  subst hg
  exact kx_get X Wd hix (hcell _) F (v := .int (g k i j)) (hv _) hd kk
theorem kx_puto {k i ci idx n : Nat} {fs : (Nat → Int32) → List Value} {v : Int32} {ty : FieldType} (j : Nat) (X : Cx p s m args meth c cc nL ret own Ts D cl tys A Zs) (Wd : Wo D cl A s.heap (gwd ix ad cf g) H locs) (hix : (k, i) ∈ ix) (hcell : ∀ r, cf k i r = .inr (ci, fs r)) (F : Fp own idx Ts cl ci n ty) (hs : ∀ r, fs (upd r j v) = (fs r).set n (.int v)) (hl : ∀ r, n < (fs r).length) (hnar : narrow ty (.int v) = .int v) (hfit : fits ty (.int v) = true) (hd : decode cc pc = .ok (.putfield idx, 3))
    (kk : ∀ (H1 : Heap) (locs1 : List Loc), Wo D cl A s.heap (gwd ix ad cf (up3 g k i j v)) H1 locs1 → W p l e R s m args below meth c H1 locs1 cells slots Q (F0 m (pc + 3) ls rest)) : W p l e R s m args below meth c H locs cells slots Q (F0 m pc ls (.int v :: .ref (ad k i) :: rest)) := by
  refine kx_put X Wd hix (hcell _) F hnar hfit (hl _) (ce' := fun a b => cf a b (up3 g k i j v a b)) ?_ ?_ hd kk
  · rw [up3_row, hcell, hs]
  · intro a b h
    rw [up3_off h]
theorem kx_iald2 {k i j N : Nat} {t0 : Nat} {cA : ClassId} {x : Int32} (v : Int32) (X : Cx p s m args meth c cc nL ret own Ts D cl tys A Zs) (Wd : Wo D cl A s.heap (gwd ix ad cf g) H locs) (hix : (k, i) ∈ ix) (hcell : ∀ r, cf k i r = .inl (cA, N, .inl r)) (ht : tys[t0]? = some (cA, .int)) (hx : x = nI j) (hj : j < N) (hN : N < 2 ^ 31) (hg : g k i j = v) (hd : decode cc pc = .ok (.iaload, 1))
    (kk : W p l e R s m args below meth c H locs cells slots Q (F0 m (pc + 1) ls (.int v :: rest))) : W p l e R s m args below meth c H locs cells slots Q (F0 m pc ls (.int x :: .ref (ad k i) :: rest)) := by
  subst hg
  exact kx_iald X Wd hix hcell ht hx hj hN hd kk
theorem kx_zald2 {k i j N : Nat} {t0 : Nat} {cA : ClassId} {x : Int32} (v : Int32) (X : Cx p s m args meth c cc nL ret own Ts D cl tys A Zs) (Wd : Wo D cl A s.heap (gwd ix ad cf g) H locs) (hix : (k, i) ∈ ix) (hcell : ∀ r, cf k i r = .inl (cA, N, .inl r)) (ht : tys[t0]? = some (cA, .boolean)) (hx : x = nI j) (hj : j < N) (hN : N < 2 ^ 31) (hg : g k i j = v) (hd : decode cc pc = .ok (.baload, 1))
    (kk : W p l e R s m args below meth c H locs cells slots Q (F0 m (pc + 1) ls (.int v :: rest))) : W p l e R s m args below meth c H locs cells slots Q (F0 m pc ls (.int x :: .ref (ad k i) :: rest)) := by
  obtain ⟨q0, hq⟩ := kw_get (ad := ad) (ce := fun a b => cf a b (g a b)) hix
  subst hx
  subst hg
  refine va_zald X.1 X.2.1 X.2.2.2.2.2.1 Wd.1 q0 t0 (f := g k i) (n := N) (show (gwd ix ad cf g)[q0]? = some (ad k i, .inl (cA, N, .inl (g k i))) by rw [show (gwd ix ad cf g)[q0]? = _ from hq, hcell]) ht (vp_in_nI hj hN) hd ?_
  rw [nI_clamp (by omega)]
  exact kk
theorem kx_zast {k i j N : Nat} {t0 : Nat} {cA : ClassId} {x v : Int32} (X : Cx p s m args meth c cc nL ret own Ts D cl tys A Zs) (Wd : Wo D cl A s.heap (gwd ix ad cf g) H locs) (hix : (k, i) ∈ ix) (hcell : ∀ r, cf k i r = .inl (cA, N, .inl r)) (ht : tys[t0]? = some (cA, .boolean)) (hx : x = nI j) (hj : j < N) (hN : N < 2 ^ 31) (hv : vp_nar .boolean v = v) (hd : decode cc pc = .ok (.bastore, 1))
    (kk : ∀ (H1 : Heap) (locs1 : List Loc), Wo D cl A s.heap (gwd ix ad cf (up3 g k i j v)) H1 locs1 → W p l e R s m args below meth c H1 locs1 cells slots Q (F0 m (pc + 1) ls rest)) : W p l e R s m args below meth c H locs cells slots Q (F0 m pc ls (.int v :: .int x :: .ref (ad k i) :: rest)) := by
  obtain ⟨q0, hq⟩ := kw_get (ad := ad) (ce := fun a b => cf a b (g a b)) hix
  subst hx
  refine va_zast X.1 X.2.1 X.2.2.2.2.2.1 Wd.1 Wd.2.1 Wd.2.2 q0 t0 (f := g k i) (n := N) (show (gwd ix ad cf g)[q0]? = some (ad k i, .inl (cA, N, .inl (g k i))) by rw [show (gwd ix ad cf g)[q0]? = _ from hq, hcell]) ht (vp_in_nI hj hN) hd (fun H1 locs1 hP hD hS => ?_)
  have heq : (gwd ix ad cf g).set q0 (ad k i, .inl (cA, N, .inl (upd (g k i) (nI j).toNatClampNeg (vp_nar .boolean v)))) = gwd ix ad cf (up3 g k i j v) := by
    refine kw_set (A := A) Wd.2.1 hix hq ?_ ?_
    · rw [up3_row, hcell, nI_clamp (by omega), hv]
    · intro a b h
      rw [up3_off h]
  rw [heq] at hP hD
  exact kk H1 locs1 ⟨hP, hD, hS⟩
end KR
