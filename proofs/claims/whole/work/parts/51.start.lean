/-! THE LAW'S BEGINNING (printed by gen/start.py) -/
theorem tt_lw {w : Cond} (h : w ∈ TT) : w ∈ lw_tbl := (List.mem_filter.mp h).1
theorem nw_start {args : Array Value} {s : State} (hts : ∀ w ∈ lw_tbl, w.before args s = true) : NWok s := by
  intro w hw
  have h := hts w (List.mem_append_right _ (nwl_tbl w hw))
  have h1 := nwl_kind w hw
  unfold nwKind at h1
  split at h1
  · exact va_Nw.of rfl h
  · exact va_Nw.of rfl h
  · exact va_AO.of h
  · cases h1
theorem arr_start {args : Array Value} {s : State} {ty : FieldType} (h : (Cond.arrayClass ty).before args s = true) : ∃ cA : ClassId, ArrOfT s cA ty ∧ s.vm.findClass ("[" ++ ty.toString) = some cA := by
  obtain ⟨c, k, comp, h1, h2, h3⟩ := Cond.arrayClass_spec h
  exact ⟨c, fun n z => ⟨fun k h => (by cases h), k, h2, comp, h3⟩, h1⟩
theorem over_start {s : State} {C : String} (h : va_AO C s) : ∃ cA : ClassId, ArrOfT s cA (.object C) ∧ va_RA s cA (.object C) := by
  obtain ⟨comp, c, k, h1, h2, h3, h4, h5⟩ := Cond.arrayOver_spec h
  exact ⟨c, fun n z => ⟨fun k h => (by cases h), k, h3, comp, h4⟩, k, comp, h3, h4, h1, h5⟩
set_option maxRecDepth 100000 in
theorem st_X {args : Array Value} {s : State} (hts : ∀ w ∈ lw_tbl, w.before args s = true) (hgv : (Jvm.Cond.and given_1 narrow_1).before args s = true) : ∃ t : Nat, va_Z "TankArena" "STEP_X" "[I" (.ref t) (fun q => s.heap.size ≤ q) s s.heap ∧ va_T .int t 8 (fun j => .int (stepX j)) (fun q => s.heap.size ≤ q) s s.heap := by
  have hs := flat_of_before _ hgv
  have hA : ∀ a : Nat, a < s.heap.size → ¬ (fun q => s.heap.size ≤ q) a := fun a h => Nat.not_le.mpr h
  have h0 : (Cond.arrayOf (.static "TankArena" "STEP_X" "[I") .int).before args s = true := hs _ (by decide +kernel)
  have h1 : (Cond.eq (.length (.static "TankArena" "STEP_X" "[I")) (.int 8)).before args s = true := hs _ (by decide +kernel)
  have e0 : (Cond.eq (.elem (.static "TankArena" "STEP_X" "[I") (.int 0)) (.int (1))).before args s = true := hs _ (by decide +kernel)
  have e1 : (Cond.eq (.elem (.static "TankArena" "STEP_X" "[I") (.int 1)) (.int (1))).before args s = true := hs _ (by decide +kernel)
  have e2 : (Cond.eq (.elem (.static "TankArena" "STEP_X" "[I") (.int 2)) (.int (0))).before args s = true := hs _ (by decide +kernel)
  have e3 : (Cond.eq (.elem (.static "TankArena" "STEP_X" "[I") (.int 3)) (.int (-1))).before args s = true := hs _ (by decide +kernel)
  have e4 : (Cond.eq (.elem (.static "TankArena" "STEP_X" "[I") (.int 4)) (.int (-1))).before args s = true := hs _ (by decide +kernel)
  have e5 : (Cond.eq (.elem (.static "TankArena" "STEP_X" "[I") (.int 5)) (.int (-1))).before args s = true := hs _ (by decide +kernel)
  have e6 : (Cond.eq (.elem (.static "TankArena" "STEP_X" "[I") (.int 6)) (.int (0))).before args s = true := hs _ (by decide +kernel)
  have e7 : (Cond.eq (.elem (.static "TankArena" "STEP_X" "[I") (.int 7)) (.int (1))).before args s = true := hs _ (by decide +kernel)
  obtain ⟨t, ht, hT⟩ := va_Tof (N := 8) (f := fun j => .int (stepX j)) (A := fun q => s.heap.size ≤ q) (by decide) h0 (va_eqt h1) (fun j hj => by
    match j, hj with
    | 0, _ => exact va_eqt e0
    | 1, _ => exact va_eqt e1
    | 2, _ => exact va_eqt e2
    | 3, _ => exact va_eqt e3
    | 4, _ => exact va_eqt e4
    | 5, _ => exact va_eqt e5
    | 6, _ => exact va_eqt e6
    | 7, _ => exact va_eqt e7
    | j + 8, hj => exact absurd hj (by omega)) hA
  exact ⟨t, va_Zref (hts _ (List.mem_append_right _ (List.mem_append_right _ (List.mem_append_left _ (List.mem_of_getElem? (i := 147) rfl))))) (hts _ (tt_lw w_b14e353508)) ht hA, hT⟩
set_option maxRecDepth 100000 in
theorem st_Y {args : Array Value} {s : State} (hts : ∀ w ∈ lw_tbl, w.before args s = true) (hgv : (Jvm.Cond.and given_1 narrow_1).before args s = true) : ∃ t : Nat, va_Z "TankArena" "STEP_Y" "[I" (.ref t) (fun q => s.heap.size ≤ q) s s.heap ∧ va_T .int t 8 (fun j => .int (stepY j)) (fun q => s.heap.size ≤ q) s s.heap := by
  have hs := flat_of_before _ hgv
  have hA : ∀ a : Nat, a < s.heap.size → ¬ (fun q => s.heap.size ≤ q) a := fun a h => Nat.not_le.mpr h
  have h0 : (Cond.arrayOf (.static "TankArena" "STEP_Y" "[I") .int).before args s = true := hs _ (by decide +kernel)
  have h1 : (Cond.eq (.length (.static "TankArena" "STEP_Y" "[I")) (.int 8)).before args s = true := hs _ (by decide +kernel)
  have e0 : (Cond.eq (.elem (.static "TankArena" "STEP_Y" "[I") (.int 0)) (.int (0))).before args s = true := hs _ (by decide +kernel)
  have e1 : (Cond.eq (.elem (.static "TankArena" "STEP_Y" "[I") (.int 1)) (.int (1))).before args s = true := hs _ (by decide +kernel)
  have e2 : (Cond.eq (.elem (.static "TankArena" "STEP_Y" "[I") (.int 2)) (.int (1))).before args s = true := hs _ (by decide +kernel)
  have e3 : (Cond.eq (.elem (.static "TankArena" "STEP_Y" "[I") (.int 3)) (.int (1))).before args s = true := hs _ (by decide +kernel)
  have e4 : (Cond.eq (.elem (.static "TankArena" "STEP_Y" "[I") (.int 4)) (.int (0))).before args s = true := hs _ (by decide +kernel)
  have e5 : (Cond.eq (.elem (.static "TankArena" "STEP_Y" "[I") (.int 5)) (.int (-1))).before args s = true := hs _ (by decide +kernel)
  have e6 : (Cond.eq (.elem (.static "TankArena" "STEP_Y" "[I") (.int 6)) (.int (-1))).before args s = true := hs _ (by decide +kernel)
  have e7 : (Cond.eq (.elem (.static "TankArena" "STEP_Y" "[I") (.int 7)) (.int (-1))).before args s = true := hs _ (by decide +kernel)
  obtain ⟨t, ht, hT⟩ := va_Tof (N := 8) (f := fun j => .int (stepY j)) (A := fun q => s.heap.size ≤ q) (by decide) h0 (va_eqt h1) (fun j hj => by
    match j, hj with
    | 0, _ => exact va_eqt e0
    | 1, _ => exact va_eqt e1
    | 2, _ => exact va_eqt e2
    | 3, _ => exact va_eqt e3
    | 4, _ => exact va_eqt e4
    | 5, _ => exact va_eqt e5
    | 6, _ => exact va_eqt e6
    | 7, _ => exact va_eqt e7
    | j + 8, hj => exact absurd hj (by omega)) hA
  exact ⟨t, va_Zref (hts _ (List.mem_append_right _ (List.mem_append_right _ (List.mem_append_left _ (List.mem_of_getElem? (i := 149) rfl))))) (hts _ (tt_lw w_b14e353508)) ht hA, hT⟩
set_option maxHeartbeats 4000000 in
set_option maxRecDepth 100000 in
theorem sim_start {Sim : Nat → SG → SG → Prop} (hSim : SimOK Sim) {p : Program} {e : Env} {s : State} {m : MethodId} {below : List Frame} {meth : Method} {c : Code} (l : Launch) {b L : Nat} {xs : Nat → Int32} (hL : L ≤ 2560) (C0 : lw_At p s m meth c b L xs) : W p l e room_1 s m #[Value.ref b] below meth c s.heap [] 0 0 (lw_Z below #[Value.ref b] s) (entryFrame m ([Value.ref b] : List Value).toArray 4) := by
  obtain ⟨hx, hb, hr, hml, hown, hts, hX, hbl, hlocks, hgv⟩ := C0
  have htt : ∀ w ∈ TT, w.before #[Value.ref b] s = true := fun w h => hts w (tt_lw h)
  have hnw : NWok s := nw_start hts
  obtain ⟨tX, zx1, zx2⟩ := st_X hts hgv
  obtain ⟨tY, zy1, zy2⟩ := st_Y hts hgv
  obtain ⟨c0, i0, hKn0⟩ := u_known (C := R_Bullet) (T := F_Bullet) (N := 5) (n := 5) htt in_Bullet (htt _ w_4f8a0a93c6)
  obtain ⟨c1, i1, hKn1⟩ := u_known (C := R_Orders) (T := F_Orders) (N := 4) (n := 4) htt in_Orders (htt _ w_74ed4c2675)
  obtain ⟨c2, i2, hKn2⟩ := u_known (C := R_Processor) (T := F_Processor) (N := 3) (n := 3) htt in_Processor (htt _ w_08171dffcb)
  obtain ⟨c3, i3, hKn3⟩ := u_known (C := R_Program) (T := F_Program) (N := 4) (n := 4) htt in_Program (htt _ w_de0ab99ba4)
  obtain ⟨c4, i4, hKn4⟩ := u_known (C := R_Report) (T := F_Report) (N := 4) (n := 4) htt in_Report (htt _ w_881a6ae161)
  obtain ⟨c5, i5, hKn5⟩ := u_known (C := R_Tank) (T := F_Tank) (N := 18) (n := 18) htt in_Tank (htt _ w_fd39f801a5)
  obtain ⟨c6, i6, hKn6⟩ := u_known (C := R_TankArena) (T := F_TankArena) (N := 7) (n := 7) htt in_TankArena (htt _ w_f6ecad5d48)
  obtain ⟨c7, i7, hKn7⟩ := u_known (C := R_Model) (T := F_Model) (N := 38) (n := 38) htt in_Model (htt _ w_d4410a0861)
  obtain ⟨D, hKc⟩ : ∃ D : va_G, ∀ (k : Nat) (q : vw_C), clA[k]? = some q → u_Kn s q.1 q.2.1 q.2.2 (D.1 k) (D.2 k) := by
    refine ⟨(fun k => match k with | 0 => c0 | 1 => c1 | 2 => c2 | 3 => c3 | 4 => c4 | 5 => c5 | 6 => c6 | _ => c7, fun k => match k with | 0 => i0 | 1 => i1 | 2 => i2 | 3 => i3 | 4 => i4 | 5 => i5 | 6 => i6 | _ => i7), ?_⟩
    intro k q hq
    match k, hq with
    | 0, hq => cases hq; exact hKn0
    | 1, hq => cases hq; exact hKn1
    | 2, hq => cases hq; exact hKn2
    | 3, hq => cases hq; exact hKn3
    | 4, hq => cases hq; exact hKn4
    | 5, hq => cases hq; exact hKn5
    | 6, hq => cases hq; exact hKn6
    | 7, hq => cases hq; exact hKn7
    | k + 8, hq => simp [clA] at hq
  obtain ⟨cI, aI, fI⟩ := arr_start (htt _ w_8e969fb20a)
  obtain ⟨cZ, aZ, fZ⟩ := arr_start (htt _ w_14bcb724a4)
  obtain ⟨cT, aT, fT⟩ := over_start (hnw _ w_5e8f1b425d)
  obtain ⟨cB, aB, fB⟩ := over_start (hnw _ w_51f37e2893)
  have hK1 : va_K D clA (tysC cI cT cB) s := ⟨hKc, fun k q h => by
    match k, h with
    | 0, h => cases h; exact ⟨aI, fI⟩
    | 1, h => cases h; exact ⟨aT, fT⟩
    | 2, h => cases h; exact ⟨aB, fB⟩
    | k + 3, h => simp [tysC] at h⟩
  have hK2 : va_K D clA (tysR cI cZ) s := ⟨hKc, fun k q h => by
    match k, h with
    | 0, h => cases h; exact ⟨aI, fI⟩
    | 1, h => cases h; exact ⟨aZ, fZ⟩
    | k + 2, h => simp [tysR] at h⟩
  have hZ : Zok (ZsC tX tY) (fun q => s.heap.size ≤ q) s s.heap := by
    intro z hz
    rcases List.mem_cons.mp hz with h | h
    · subst h; exact ⟨zx1, zx2⟩
    · rcases List.mem_cons.mp h with h | h
      · subst h; exact ⟨zy1, zy2⟩
      · cases h
  have X1 : Cx p s m #[Value.ref b] meth c code 4 ret "TankArenaLaw" TT D clA (tysC cI cT cB) (fun q => s.heap.size ≤ q) (ZsC tX tY) := ⟨hx, hb, hml, hown, htt, hK1, fun q h => h, hZ, hr, hlocks, hnw⟩
  have X2 : Cx p s m #[Value.ref b] meth c code 4 ret "TankArenaLaw" TT D clA (tysR cI cZ) (fun q => s.heap.size ≤ q) [] := ⟨hx, hb, hml, hown, htt, hK2, fun q h => h, fun z hz => (by cases hz), hr, hlocks, hnw⟩
  have Wd : Wo D clA (fun q => s.heap.size ≤ q) s.heap [] s.heap [] := ⟨fun k q h => by simp at h, ⟨fun i j p q h => by simp at h, fun k q h => by simp at h⟩, va_S.rf⟩
  have hl := lv_entry ([.ref b]) (n := 4) (Nat.le_of_ble_eq_true rfl)
  rw [lg_entry_eq]
  generalize (lg_sl ([.ref b]) ++ List.replicate (4 - (lg_sl ([.ref b])).length) Slot.unset).toArray = ls at hl ⊢
  have hl : lv_has ls 4 [(0, .ref b)] := hl
  refine kx_new (ci := 6) (N := 7) (fs := [.null, .null, .int 0, .int 0, .int 0, .int 0, .int 0]) X1 Wd fn_TankArenaLaw_7 (Nat.le_of_ble_eq_true rfl) (Nat.le_of_ble_eq_true rfl) d_TankArenaLaw_law_0 (fun h1 H Wd => ?_)
  refine lv_dup hx hb d_TankArenaLaw_law_3 rfl ?_
  have Wd : Wo D clA (fun q => s.heap.size ≤ q) s.heap ([] ++ [(h1, .inr (CI_arena, [.null, .null, .int 0, .int 0, .int 0, .int 0, .int 0]))]) H [] := Wd
  refine kf_I (As := []) [.ref h1] X1 Wd (k_i_arena l D cI cT cB tX tY h1) cI_TankArenaLaw_9 rfl rfl hl.1 ⟨rfl, rfl⟩ ⟨Nat.le_of_ble_eq_true rfl, Nat.le_of_ble_eq_true rfl⟩ (Nat.le_of_ble_eq_true rfl) ⟨Nat.le_of_ble_eq_true rfl, Nat.le_of_ble_eq_true rfl⟩ d_TankArenaLaw_law_4 (fun ad1 H locs hp1 Wd => ?_)
  refine lv_astore_n (lv' := [(1, .ref h1), (0, .ref b)]) hx hb d_TankArenaLaw_law_7 rfl hl (by decide) rfl (fun ls hl => ?_)
  have Wd : Wo D clA (fun q => s.heap.size ≤ q) s.heap (gC cI cT cB ad1 g0) H locs := Wd
  refine kx_new (ci := 7) (N := 38) (fs := [.null, .null, .null, .null, .null, .null, .null, .int 0, .int 0, .int 0, .int 0, .null, .null, .null, .null, .null, .null, .null, .null, .null, .null, .null, .null, .null, .null, .null, .null, .null, .null, .null, .null, .null, .null, .null, .null, .null, .null, .int 0]) X2 Wd fn_TankArenaLaw_10 (Nat.le_of_ble_eq_true rfl) (Nat.le_of_ble_eq_true rfl) d_TankArenaLaw_law_8 (fun h2 H Wd => ?_)
  refine lv_dup hx hb d_TankArenaLaw_law_11 rfl ?_
  refine kf_I (As := []) [.ref h2] X2 Wd (k_i_model l D cI cZ h2) cI_TankArenaLaw_12 rfl rfl hl.1 ⟨rfl, rfl⟩ ⟨Nat.le_of_ble_eq_true rfl, Nat.le_of_ble_eq_true rfl⟩ (Nat.le_of_ble_eq_true rfl) ⟨Nat.le_of_ble_eq_true rfl, Nat.le_of_ble_eq_true rfl⟩ d_TankArenaLaw_law_12 (fun ad2 H locs hp2 Wd => ?_)
  refine lv_astore_n (lv' := [(2, .ref h2), (1, .ref h1), (0, .ref b)]) hx hb d_TankArenaLaw_law_15 rfl hl (by decide) rfl (fun ls hl => ?_)
  refine lv_iconst (v := 0) hx hb d_TankArenaLaw_law_16 (by decide) ?_
  refine lv_istore_n (lv' := [(3, .int 0), (2, .ref h2), (1, .ref h1), (0, .ref b)]) hx hb d_TankArenaLaw_law_17 rfl hl (by decide) rfl (fun ls hl => ?_)
  have Wd : Wo D clA (fun q => s.heap.size ≤ q) s.heap (gC cI cT cB ad1 g0 ++ gR cI cZ ad2 gz) H locs := Wd
  rw [← hp1, ← hp2] at hl
  exact law_loop hSim hL hX hbl X1 X2 ad1 ad2 (L + 1) 0 g0 gz (Nat.zero_le _) (by omega) hSim.1 H locs Wd ls (lv_sub hl [3, 2, 1, 0] rfl)
