/-! THE ARENA'S CONSTRUCTOR (printed by gen/ctor2.py) -/
theorem va_D_nd {A : Nat → Prop} {wd : va_W} : va_D A wd ↔ (wd.map fun q => q.1).Nodup ∧ ∀ q ∈ wd, A q.1 := by
  constructor
  · intro h
    refine ⟨?_, va_D_all h⟩
    unfold List.Nodup
    rw [List.pairwise_iff_getElem]
    intro i j hi hj hij e
    rw [List.getElem_map, List.getElem_map] at e
    rw [List.length_map] at hi hj
    have := h.1 i j _ _ (List.getElem?_eq_getElem hi) (List.getElem?_eq_getElem hj) e
    omega
  · rintro ⟨h1, h2⟩
    refine ⟨fun i j p q hi hj e => ?_, fun k q hk => h2 q (List.mem_of_getElem? hk)⟩
    unfold List.Nodup at h1
    rw [List.pairwise_iff_getElem] at h1
    obtain ⟨li, ei⟩ := List.getElem?_eq_some_iff.mp hi
    obtain ⟨lj, ej⟩ := List.getElem?_eq_some_iff.mp hj
    rcases Nat.lt_trichotomy i j with h | h | h
    · refine absurd ?_ (h1 i j (by rw [List.length_map]; exact li) (by rw [List.length_map]; exact lj) h)
      rw [List.getElem_map, List.getElem_map, ei, ej, e]
    · exact h
    · refine absurd ?_ (h1 j i (by rw [List.length_map]; exact lj) (by rw [List.length_map]; exact li) h)
      rw [List.getElem_map, List.getElem_map, ei, ej, e]
theorem Wo.perm {D : va_G} {cl : List vw_C} {A : Nat → Prop} {H0 : Heap} {a b : va_W} {H : Heap} {locs : List Loc} (h : Wo D cl A H0 a H locs) (hp : a.Perm b) : Wo D cl A H0 b H locs := by
  obtain ⟨hP, hD, hS⟩ := h
  refine ⟨?_, ?_, hS⟩
  · rw [va_P_iff] at hP ⊢
    exact fun q hq => hP q (hp.mem_iff.mpr hq)
  · rw [va_D_nd] at hD ⊢
    exact ⟨(hp.map _).nodup_iff.mp hD.1, fun q hq => hD.2 q (hp.mem_iff.mpr hq)⟩
theorem vp_cell_congr {cA : ClassId} {n : Nat} {f f' : Nat → Option Nat} (h : ∀ j, j < n → f j = f' j) : vp_cell cA (n, .inr (.inr (.inr (.inr f)))) = vp_cell cA (n, .inr (.inr (.inr (.inr f')))) := by
  rw [vp_cell_q, vp_cell_q]
  unfold arrV
  congr 2
  funext j
  show va_rf (f j.val) = va_rf (f' j.val)
  rw [h j.val j.isLt]
theorem Wo.arr {D : va_G} {cl : List vw_C} {A : Nat → Prop} {H0 : Heap} {x : Nat × va_E} {t n : Nat} {cA : ClassId} {f f' : Nat → Option Nat} {wr : va_W} {H : Heap} {locs : List Loc} (h : Wo D cl A H0 (x :: (t, .inl (cA, n, .inr (.inr (.inr (.inr f))))) :: wr) H locs) (hf : ∀ j, j < n → f j = f' j) : Wo D cl A H0 (x :: (t, .inl (cA, n, .inr (.inr (.inr (.inr f'))))) :: wr) H locs := by
  obtain ⟨hP, hD, hS⟩ := h
  refine ⟨?_, ?_, hS⟩
  · rw [va_P_iff] at hP ⊢
    intro q hq
    rcases List.mem_cons.mp hq with h | h
    · exact hP q (by rw [h]; exact List.mem_cons_self)
    rcases List.mem_cons.mp h with h | h
    · have h1 := hP (t, .inl (cA, n, .inr (.inr (.inr (.inr f))))) (List.mem_cons_of_mem _ List.mem_cons_self)
      rw [h]
      show H[t]? = some (vp_cell _ _)
      rw [← vp_cell_congr hf]
      exact h1
    · exact hP q (List.mem_cons_of_mem _ (List.mem_cons_of_mem _ h))
  · rw [va_D_nd] at hD ⊢
    refine ⟨hD.1, fun q hq => ?_⟩
    rcases List.mem_cons.mp hq with h | h
    · exact hD.2 q (by rw [h]; exact List.mem_cons_self)
    rcases List.mem_cons.mp h with h | h
    · rw [h]
      exact hD.2 (t, .inl (cA, n, .inr (.inr (.inr (.inr f))))) (List.mem_cons_of_mem _ List.mem_cons_self)
    · exact hD.2 q (List.mem_cons_of_mem _ (List.mem_cons_of_mem _ h))
section KA
variable {p : Program} {l : Launch} {e : Env} {R : Room} {s : State} {m : MethodId} {args : Array Value} {below : List Frame} {meth : Method} {c : Code} {H : Heap} {locs : List Loc} {cells slots : Nat} {Q : State → Prop}
variable {cc : ByteArray} {nL : Nat} {ret : Option FieldType} {own : String} {Ts : List Cond} {D : va_G} {cl : List vw_C} {tys : List (ClassId × FieldType)} {A : Nat → Prop} {Zs : List Zt} {pc : Nat} {ls : Array Slot} {rest : List Value}
theorem kx_ast1 {x : Nat × va_E} {t n j v ci t0 : Nat} {cA : ClassId} {f : Nat → Option Nat} {wr : va_W} {vs : List Value} {r0 : vw_C} {i : Int32} (X : Cx p s m args meth c cc nL ret own Ts D cl tys A Zs) (Wd : Wo D cl A s.heap (x :: (t, .inl (cA, n, .inr (.inr (.inr (.inr f))))) :: wr) H locs) (ht : tys[t0]? = some (cA, .object r0.1)) (hv : (v, .inr (ci, vs)) ∈ wr) (hc : cl[ci]? = some r0) (hi : i = nI j) (hj : j < n) (hn : n < 2 ^ 31) (hd : decode cc pc = .ok (.aastore, 1))
    (kk : ∀ (H1 : Heap) (locs1 : List Loc), Wo D cl A s.heap (x :: (t, .inl (cA, n, .inr (.inr (.inr (.inr (va_up f j (some v))))))) :: wr) H1 locs1 → W p l e R s m args below meth c H1 locs1 cells slots Q (F0 m (pc + 1) ls rest)) : W p l e R s m args below meth c H locs cells slots Q (F0 m pc ls (.ref v :: .int i :: .ref t :: rest)) := by
  obtain ⟨q, hq⟩ := List.getElem?_of_mem hv
  subst hi
  refine va_astq X.1 X.2.1 X.2.2.2.2.2.1 Wd.1 Wd.2.1 Wd.2.2 1 t0 (q + 2) ci (f := f) (n := n) (r := r0) rfl ht hq hc (vp_in_nI hj hn) hd (fun H1 locs1 hP hD hS => ?_)
  rw [nI_clamp (by omega)] at hP hD
  exact kk H1 locs1 ⟨hP, hD, hS⟩
end KA
def adU (ad : Nat → Nat → Nat) (i : Nat) (u : Nat → Nat) : Nat → Nat → Nat := fun k a => if a = i ∧ k ≠ 12 then u k else ad k a
def adB (ad : Nat → Nat → Nat) (i q : Nat) : Nat → Nat → Nat := fun k a => if a = i ∧ k = 12 then q else ad k a
def rowsT (cI cT cB : ClassId) (ad : Nat → Nat → Nat) (n : Nat) : va_W := (List.range n).flatMap (tkW cI cT cB ad)
def buW (cI cT cB : ClassId) (ad : Nat → Nat → Nat) (i : Nat) : Nat × va_E := (ad 12 i, cellC cI cT cB ad 12 i (g0 12 i))
def rowsB (cI cT cB : ClassId) (ad : Nat → Nat → Nat) (n : Nat) : va_W := (List.range n).map (buW cI cT cB ad)
def arF (ad : Nat → Nat → Nat) (k n : Nat) : Nat → Option Nat := fun j => if j < n then some (ad k j) else none
theorem rowsT_congr {cI cT cB : ClassId} {ad ad' : Nat → Nat → Nat} {n : Nat} (h : ∀ k a, a < n → k ≠ 12 → ad k a = ad' k a) : rowsT cI cT cB ad n = rowsT cI cT cB ad' n := by
  unfold rowsT
  induction n with
  | zero => rfl
  | succ n ih =>
    rw [List.range_succ, List.flatMap_append, List.flatMap_append, ih (fun k a h1 h2 => h k a (by omega) h2)]
    congr 1
    simp only [List.flatMap_cons, List.flatMap_nil, List.append_nil, tkW, cellC, List.map_cons, List.map_nil]
    rw [h 3 n (by omega) (by decide), h 4 n (by omega) (by decide), h 5 n (by omega) (by decide), h 6 n (by omega) (by decide), h 7 n (by omega) (by decide), h 8 n (by omega) (by decide), h 9 n (by omega) (by decide), h 10 n (by omega) (by decide), h 11 n (by omega) (by decide)]
theorem rowsT_succ {cI cT cB : ClassId} {ad : Nat → Nat → Nat} {n : Nat} {u : Nat → Nat} : rowsT cI cT cB ad n ++ tkW cI cT cB (fun k _ => u k) 0 = rowsT cI cT cB (adU ad n u) (n + 1) := by
  rw [rowsT_congr (ad' := adU ad n u) (fun k a h1 h2 => by simp [adU, Nat.ne_of_lt h1])]
  unfold rowsT
  rw [List.range_succ, List.flatMap_append]
  congr 1
  simp only [List.flatMap_cons, List.flatMap_nil, List.append_nil, tkW, cellC, adU, List.map_cons, List.map_nil]
  simp
  exact ⟨rfl, rfl, rfl, rfl, rfl, rfl, rfl, rfl, rfl⟩
theorem rowsB_succ {cI cT cB : ClassId} {ad : Nat → Nat → Nat} {n q : Nat} : rowsB cI cT cB ad n ++ [(q, .inr (CI_bullet, [.int 0, .int 0, .int 0, .int 0, .int 0]))] = rowsB cI cT cB (adB ad n q) (n + 1) := by
  have h0 : rowsB cI cT cB ad n = rowsB cI cT cB (adB ad n q) n := by
    unfold rowsB
    apply List.map_congr_left
    intro a ha
    have : a ≠ n := by have := List.mem_range.mp ha; omega
    simp [buW, adB, this, cellC]
  rw [h0]
  unfold rowsB
  rw [List.range_succ, List.map_append]
  congr 1
  simp [buW, adB, cellC, g0, kints]
  decide
abbrev RM_i_arena : Room := { frames := 3, cells := 54, slots := 432, locals := 60 }
set_option maxHeartbeats 4000000 in
set_option maxRecDepth 100000 in
theorem k_i_arena (l : Launch) (D : va_G) (cI cT cB : ClassId) (tX tY : Nat) (h : Nat)  : Mv l y_TankArena__init_ (wsm y_TankArena__init_ b_TankArena__init_ 2 none) RM_i_arena D clA (tysC cI cT cB) (ZsC tX tY) [.ref h] [(h, .inr (CI_arena, [.null, .null, .int 0, .int 0, .int 0, .int 0, .int 0]))] (fun ad : Nat → Nat → Nat => gwd ixC ad (cellC cI cT cB ad) g0) (fun ad => ad 0 0 = h) 54 432 := by
  refine met_of (cc := b_TankArena__init_) (nL := 2) (ret := none) (by decide) rfl (Nat.le_of_ble_eq_true rfl) ?_
  intro p e s m below meth c X hnm Wd ls hl
  have X := X.tt
  have hx := X.1
  have hb := X.2.1
  have hl : lv_has ls 2 [(0, .ref h)] := hl
  have hbelow := X
  refine lv_aload_n hx hb d_TankArena__init__0 rfl (lv_at hl 0 rfl) ?_
  refine kx_obj X w_3e4ff98b6f w_99ff6a435c w_bd0ebf1870 hl.1 (Nat.le_of_ble_eq_true rfl) (Nat.le_of_ble_eq_true rfl) d_TankArena__init__1 ?_
  refine lv_aload_n hx hb d_TankArena__init__4 rfl (lv_at hl 0 rfl) ?_
  refine lv_iconst (v := 4) hx hb d_TankArena__init__5 (by decide) ?_
  refine kx_newr (N := 4) (C := "TankArena$Tank") X Wd 1 rfl w_fc6e5fb6ea (X.nw _ w_5e8f1b425d) rfl (by decide) (Nat.le_of_ble_eq_true rfl) (Nat.le_of_ble_eq_true rfl) d_TankArena__init__6 (fun t H Wd => ?_)
  have Wd : Wo D clA _ s.heap ((h, .inr (CI_arena, [.null, .null, .int 0, .int 0, .int 0, .int 0, .int 0])) :: [(t, .inl (cT, 4, .inr (.inr (.inr (.inr (fun _ => none))))))]) H _ := Wd
  refine kx_putF (v := .ref t) X hnm Wd ff_TankArena_11 rfl rfl (Nat.le_of_ble_eq_true rfl) d_TankArena__init__9 (fun H locs Wd => ?_)
  have Wd : Wo D clA _ s.heap ((h, .inr (CI_arena, [.ref t, .null, .int 0, .int 0, .int 0, .int 0, .int 0])) :: (t, .inl (cT, 4, .inr (.inr (.inr (.inr (fun _ => none)))))) :: rowsT cI cT cB (fun _ _ => 0) 0) H locs := Wd
  have Wd := Wd.arr (f' := arF (fun _ _ => 0) 3 0) (fun j _ => by simp [arF])
  refine lv_iconst (v := 0) hx hb d_TankArena__init__12 (by decide) ?_
  refine lv_istore_n (lv' := [(1, .int 0), (0, .ref h)]) hx hb d_TankArena__init__13 rfl hl (by decide) rfl (fun ls hl => ?_)
  have loop2 : ∀ (n k b : Nat) (ad : Nat → Nat → Nat), k + n = 16 → ∀ (H : Heap) (locs : List Loc), Wo D clA (va_A [(h, .inr (CI_arena, [.null, .null, .int 0, .int 0, .int 0, .int 0, .int 0]))] s.heap.size) s.heap ((h, .inr (CI_arena, [.ref t, .ref b, .int 0, .int 0, .int 0, .int 0, .int 0])) :: (b, .inl (cB, 16, .inr (.inr (.inr (.inr (arF ad 12 k)))))) :: ((t, .inl (cT, 4, .inr (.inr (.inr (.inr (arF ad 3 4)))))) :: rowsT cI cT cB ad 4) ++ rowsB cI cT cB ad k) H locs → ∀ ls : Array Slot, lv_has ls 2 [(0, .ref h), (1, .int (nI k))] → W p l e RM_i_arena s m [.ref h].toArray below meth c H locs (38 + k) (352 + 5 * k) (MQ below (va_Qv (fun ad => ad 0 0 = h) (fun (ad : Nat → Nat → Nat) t => C1 D clA (tysC cI cT cB) [(h, .inr (CI_arena, [.null, .null, .int 0, .int 0, .int 0, .int 0, .int 0]))] s.heap.size (gwd ixC ad (cellC cI cT cB ad) g0) t) (va_A [(h, .inr (CI_arena, [.null, .null, .int 0, .int 0, .int 0, .int 0, .int 0]))] s.heap.size)) [.ref h].toArray s 54 432 (va_A [(h, .inr (CI_arena, [.null, .null, .int 0, .int 0, .int 0, .int 0, .int 0]))] s.heap.size)) (F0 m 49 ls []) := by
    intro n
    induction n with
    | zero =>
      intro k b ad hk H locs Wd ls hl
      have hk : k = 16 := by omega
      subst hk
      refine lv_iload_n hx hb d_TankArena__init__49 rfl (lv_at hl 1 rfl) ?_
      refine lv_bipush (v := 16) hx hb d_TankArena__init__50 (by decide) ?_
      refine lv_icmp_ge (tgt := 74) hx hb d_TankArena__init__52 (by decide) (fun c => ?_) (fun c => ?_)
      · skip
        refine kx_vret (u := fun k a => match k with | 0 => h | 1 => t | 2 => b | _ => ad k a) X ?_ rfl d_TankArena__init__74
        have Wd := Wd.arr (f' := fun j => some (ad 12 (g0 2 0 j).toNatClampNeg)) (fun j hj => by simp only [arF, if_pos hj]; rw [show g0 2 0 j = nI (j % 16) by simp [g0], Nat.mod_eq_of_lt hj, nI_clamp (by omega)])
        have Wd : Wo D clA _ s.heap ((h, .inr (CI_arena, [.ref t, .ref b, .int 0, .int 0, .int 0, .int 0, .int 0])) :: (b, .inl (cB, 16, .inr (.inr (.inr (.inr (fun j => some (ad 12 (g0 2 0 j).toNatClampNeg))))))) :: (t, .inl (cT, 4, .inr (.inr (.inr (.inr (arF ad 3 4)))))) :: (rowsT cI cT cB ad 4 ++ rowsB cI cT cB ad 16)) H locs := Wd
        have Wd := Wd.perm (List.Perm.cons _ (List.Perm.swap _ _ _))
        have Wd := Wd.arr (f' := fun j => some (ad 3 j)) (fun j hj => by simp [arF, hj])
        exact Wd
      · exact absurd (by decide) c
    | succ n ih =>
      intro k b ad hk H locs Wd ls hl
      refine lv_iload_n hx hb d_TankArena__init__49 rfl (lv_at hl 1 rfl) ?_
      refine lv_bipush (v := 16) hx hb d_TankArena__init__50 (by decide) ?_
      refine lv_icmp_ge (tgt := 74) hx hb d_TankArena__init__52 (by decide) (fun c => ?_) (fun c => ?_)
      · exact absurd c (nI_ge (a := k) (b := 16) (by omega) (by decide))
      · skip
        refine lv_aload_n hx hb d_TankArena__init__55 rfl (lv_at hl 0 rfl) ?_
        refine kx_get0 (v := .ref b) X Wd fg_TankArena_18 rfl d_TankArena__init__56 ?_
        refine lv_iload_n hx hb d_TankArena__init__59 rfl (lv_at hl 1 rfl) ?_
        refine kx_new (fs := [.int 0, .int 0, .int 0, .int 0, .int 0]) X Wd fn_TankArena_16 (by show 38 + k + 1 ≤ 54; omega) (by show 352 + 5 * k + 5 ≤ 432; omega) d_TankArena__init__60 (fun q H Wd => ?_)
        refine lv_dup hx hb d_TankArena__init__63 rfl ?_
        refine kf_IN (As := []) [.ref q, .int (nI k), .ref b] X Wd (k_i_bullet l D cI cT cB tX tY q [.int 0, .int 0, .int 0, .int 0, .int 0]) cI_TankArena_22 rfl rfl hl.1 ⟨rfl, rfl⟩ ⟨Nat.le_of_ble_eq_true rfl, Nat.le_of_ble_eq_true rfl⟩ (Nat.le_of_ble_eq_true rfl) ⟨by show 38 + k + 1 + 0 ≤ 54; omega, by show 352 + 5 * k + 5 + 0 ≤ 432; omega⟩ d_TankArena__init__64 (fun u H locs hp Wd => ?_)
        have Wd : Wo D clA _ s.heap ((h, .inr (CI_arena, [.ref t, .ref b, .int 0, .int 0, .int 0, .int 0, .int 0])) :: (b, .inl (cB, 16, .inr (.inr (.inr (.inr (arF ad 12 k)))))) :: (((t, .inl (cT, 4, .inr (.inr (.inr (.inr (arF ad 3 4)))))) :: rowsT cI cT cB ad 4) ++ rowsB cI cT cB ad k ++ [(q, .inr (CI_bullet, [.int 0, .int 0, .int 0, .int 0, .int 0]))])) H locs := Wd
        refine kx_ast1 (t0 := 2) (j := k) X Wd rfl (List.mem_append_right _ List.mem_cons_self) rfl rfl (by omega) (by decide) d_TankArena__init__67 (fun H locs Wd => ?_)
        refine lv_iinc (v := nI (k + 1)) (lv' := [(1, .int (nI (k + 1))), (0, .ref h)]) hx hb d_TankArena__init__68 hl (k := 1) rfl (nI_1 k) (by decide) rfl (fun ls hl => ?_)
        refine lv_goto (tgt := 49) hx hb d_TankArena__init__71 (by decide) ?_
        have Wd := Wd.arr (f' := arF (adB ad k q) 12 (k + 1)) (fun j hj => ?_)
        · refine W.widen (k := 38 + (k + 1)) (n := 352 + 5 * (k + 1)) (by omega) (by omega) ?_
          refine ih (k + 1) b (adB ad k q) (by omega) _ _ ?_ _ (lv_sub hl [1, 0] rfl)
          rw [← rowsB_succ, rowsT_congr (ad' := ad) (fun k a h1 h2 => by simp [adB, h2]), show arF (adB ad k q) 3 4 = arF ad 3 4 by funext a; simp [arF, adB]]
          rw [← List.append_assoc]
          exact Wd
        · by_cases hjk : j = k
          · subst hjk
            simp [arF, adB, va_up]
          · simp only [va_up, if_neg hjk, arF, adB]
            have : (j < k + 1) ↔ (j < k) := by omega
            simp [this, hjk]
  have loop1 : ∀ (n i : Nat) (ad : Nat → Nat → Nat), i + n = 4 → ∀ (H : Heap) (locs : List Loc), Wo D clA (va_A [(h, .inr (CI_arena, [.null, .null, .int 0, .int 0, .int 0, .int 0, .int 0]))] s.heap.size) s.heap ((h, .inr (CI_arena, [.ref t, .null, .int 0, .int 0, .int 0, .int 0, .int 0])) :: (t, .inl (cT, 4, .inr (.inr (.inr (.inr (arF ad 3 i)))))) :: rowsT cI cT cB ad i) H locs → ∀ ls : Array Slot, lv_has ls 2 [(0, .ref h), (1, .int (nI i))] → W p l e RM_i_arena s m [.ref h].toArray below meth c H locs (1 + 9 * i) (4 + 83 * i) (MQ below (va_Qv (fun ad => ad 0 0 = h) (fun (ad : Nat → Nat → Nat) t => C1 D clA (tysC cI cT cB) [(h, .inr (CI_arena, [.null, .null, .int 0, .int 0, .int 0, .int 0, .int 0]))] s.heap.size (gwd ixC ad (cellC cI cT cB ad) g0) t) (va_A [(h, .inr (CI_arena, [.null, .null, .int 0, .int 0, .int 0, .int 0, .int 0]))] s.heap.size)) [.ref h].toArray s 54 432 (va_A [(h, .inr (CI_arena, [.null, .null, .int 0, .int 0, .int 0, .int 0, .int 0]))] s.heap.size)) (F0 m 14 ls []) := by
    intro n
    induction n with
    | zero =>
      intro i ad hi H locs Wd ls hl
      have hi : i = 4 := by omega
      subst hi
      refine lv_iload_n hx hb d_TankArena__init__14 rfl (lv_at hl 1 rfl) ?_
      refine lv_iconst (v := 4) hx hb d_TankArena__init__15 (by decide) ?_
      refine lv_icmp_ge (tgt := 38) hx hb d_TankArena__init__16 (by decide) (fun c => ?_) (fun c => ?_)
      · skip
        refine lv_aload_n hx hb d_TankArena__init__38 rfl (lv_at hl 0 rfl) ?_
        refine lv_bipush (v := 16) hx hb d_TankArena__init__39 (by decide) ?_
        refine kx_newr (N := 16) (C := "TankArena$Bullet") X Wd 2 rfl w_f27bdec409 (X.nw _ w_51f37e2893) rfl (by decide) (Nat.le_of_ble_eq_true rfl) (Nat.le_of_ble_eq_true rfl) d_TankArena__init__41 (fun b H Wd => ?_)
        have Wd : Wo D clA _ s.heap ((h, .inr (CI_arena, [.ref t, .null, .int 0, .int 0, .int 0, .int 0, .int 0])) :: ((t, .inl (cT, 4, .inr (.inr (.inr (.inr (arF ad 3 4)))))) :: rowsT cI cT cB ad 4 ++ [(b, .inl (cB, 16, .inr (.inr (.inr (.inr (fun _ => none))))))])) H _ := Wd
        refine kx_putF (v := .ref b) X hnm Wd ff_TankArena_18 rfl rfl (Nat.le_of_ble_eq_true rfl) d_TankArena__init__44 (fun H locs Wd => ?_)
        refine lv_iconst (v := 0) hx hb d_TankArena__init__47 (by decide) ?_
        refine lv_istore_n (lv' := [(1, .int 0), (0, .ref h)]) hx hb d_TankArena__init__48 rfl hl (by decide) rfl (fun ls hl => ?_)
        have Wd := Wd.perm (List.Perm.cons _ (List.perm_append_comm (l₂ := ([(b, .inl (cB, 16, .inr (.inr (.inr (.inr (fun _ => none))))))] : va_W))))
        have Wd : Wo D clA _ s.heap ((h, .inr (CI_arena, [.ref t, .ref b, .int 0, .int 0, .int 0, .int 0, .int 0])) :: (b, .inl (cB, 16, .inr (.inr (.inr (.inr (fun _ => none)))))) :: ((t, .inl (cT, 4, .inr (.inr (.inr (.inr (arF ad 3 4)))))) :: rowsT cI cT cB ad 4)) H locs := Wd
        have Wd := Wd.arr (f' := arF ad 12 0) (fun j _ => by simp [arF])
        refine loop2 16 0 b ad rfl _ _ ?_ _ (lv_sub hl [1, 0] rfl)
        simpa [rowsB] using Wd
      · exact absurd (by decide) c
    | succ n ih =>
      intro i ad hi H locs Wd ls hl
      refine lv_iload_n hx hb d_TankArena__init__14 rfl (lv_at hl 1 rfl) ?_
      refine lv_iconst (v := 4) hx hb d_TankArena__init__15 (by decide) ?_
      refine lv_icmp_ge (tgt := 38) hx hb d_TankArena__init__16 (by decide) (fun c => ?_) (fun c => ?_)
      · exact absurd c (nI_ge (a := i) (b := 4) (by omega) (by decide))
      · skip
        refine lv_aload_n hx hb d_TankArena__init__19 rfl (lv_at hl 0 rfl) ?_
        refine kx_get0 (v := .ref t) X Wd fg_TankArena_11 rfl d_TankArena__init__20 ?_
        refine lv_iload_n hx hb d_TankArena__init__23 rfl (lv_at hl 1 rfl) ?_
        refine kx_new (fs := [.null, .null, .null, .null, .int 0, .int 0, .int 0, .int 0, .int 0, .int 0, .int 0, .int 0, .int 0, .int 0, .int 0, .int 0, .int 0, .int 0]) X Wd fn_TankArena_9 (by show 1 + 9 * i + 1 ≤ 54; omega) (by show 4 + 83 * i + 18 ≤ 432; omega) d_TankArena__init__24 (fun q H Wd => ?_)
        refine lv_dup hx hb d_TankArena__init__27 rfl ?_
        refine kf_IN (As := []) [.ref q, .int (nI i), .ref t] X Wd (k_i_tank l D cI cT cB tX tY q) cI_TankArena_15 rfl rfl hl.1 ⟨rfl, rfl⟩ ⟨Nat.le_of_ble_eq_true rfl, Nat.le_of_ble_eq_true rfl⟩ (Nat.le_of_ble_eq_true rfl) ⟨by show 1 + 9 * i + 1 + 8 ≤ 54; omega, by show 4 + 83 * i + 18 + 65 ≤ 432; omega⟩ d_TankArena__init__28 (fun u H locs hp Wd => ?_)
        have Wd : Wo D clA _ s.heap ((h, .inr (CI_arena, [.ref t, .null, .int 0, .int 0, .int 0, .int 0, .int 0])) :: (t, .inl (cT, 4, .inr (.inr (.inr (.inr (arF ad 3 i)))))) :: (rowsT cI cT cB ad i ++ tkW cI cT cB (fun k _ => u k) 0)) H locs := Wd
        rw [← hp]
        refine kx_ast1 (t0 := 1) (j := i) (ci := CI_tank) X Wd rfl (List.mem_append_right _ List.mem_cons_self) rfl rfl (by omega) (by decide) d_TankArena__init__31 (fun H locs Wd => ?_)
        refine lv_iinc (v := nI (i + 1)) (lv' := [(1, .int (nI (i + 1))), (0, .ref h)]) hx hb d_TankArena__init__32 hl (k := 1) rfl (nI_1 i) (by decide) rfl (fun ls hl => ?_)
        refine lv_goto (tgt := 14) hx hb d_TankArena__init__35 (by decide) ?_
        have Wd := Wd.arr (f' := arF (adU ad i u) 3 (i + 1)) (fun j hj => ?_)
        · refine W.widen (k := 1 + 9 * (i + 1)) (n := 4 + 83 * (i + 1)) (by omega) (by omega) ?_
          refine ih (i + 1) (adU ad i u) (by omega) _ _ ?_ _ (lv_sub hl [1, 0] rfl)
          rw [← rowsT_succ]
          exact Wd
        · by_cases hji : j = i
          · subst hji
            simp [arF, adU, va_up]
          · simp only [va_up, if_neg hji, arF, adU]
            have : (j < i + 1) ↔ (j < i) := by omega
            simp [this, hji]
  exact loop1 4 0 (fun _ _ => 0) rfl _ _ Wd _ (lv_sub hl [1, 0] rfl)
