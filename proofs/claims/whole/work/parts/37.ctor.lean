/-! CONSTRUCTORS (printed by gen/ctor.py) -/
abbrev RM_i_orders : Room := { frames := 1, cells := 0, slots := 0, locals := 20 }
set_option maxHeartbeats 4000000 in
set_option maxRecDepth 100000 in
theorem k_i_orders (l : Launch) (D : va_G) (cI cT cB : ClassId) (tX tY : Nat) (h : Nat) (fs : List Value) : Mv l y_Orders__init_ (wsm y_Orders__init_ b_Orders__init_ 1 none) RM_i_orders D clA (tysC cI cT cB) (ZsC tX tY) [.ref h] [(h, .inr (CI_orders, fs))] (fun _ : Unit => [(h, .inr (CI_orders, fs))]) (fun _ => True) 0 0 := by
  refine met_of (cc := b_Orders__init_) (nL := 1) (ret := none) (by decide) rfl (Nat.le_of_ble_eq_true rfl) ?_
  intro p e s m below meth c X hnm Wd ls hl
  have X := X.tt
  have hx := X.1
  have hb := X.2.1
  have hl : lv_has ls 1 [(0, .ref h)] := hl
  refine lv_aload_n hx hb d_Orders__init__0 rfl (lv_at hl 0 rfl) ?_
  refine kx_obj X w_2a421347d8 w_99ff6a435c w_bd0ebf1870 hl.1 (Nat.le_of_ble_eq_true rfl) (Nat.le_of_ble_eq_true rfl) d_Orders__init__1 ?_
  exact kx_vret (u := ()) X Wd trivial d_Orders__init__4
abbrev RM_i_bullet : Room := { frames := 1, cells := 0, slots := 0, locals := 20 }
set_option maxHeartbeats 4000000 in
set_option maxRecDepth 100000 in
theorem k_i_bullet (l : Launch) (D : va_G) (cI cT cB : ClassId) (tX tY : Nat) (h : Nat) (fs : List Value) : Mv l y_Bullet__init_ (wsm y_Bullet__init_ b_Bullet__init_ 1 none) RM_i_bullet D clA (tysC cI cT cB) (ZsC tX tY) [.ref h] [(h, .inr (CI_bullet, fs))] (fun _ : Unit => [(h, .inr (CI_bullet, fs))]) (fun _ => True) 0 0 := by
  refine met_of (cc := b_Bullet__init_) (nL := 1) (ret := none) (by decide) rfl (Nat.le_of_ble_eq_true rfl) ?_
  intro p e s m below meth c X hnm Wd ls hl
  have X := X.tt
  have hx := X.1
  have hb := X.2.1
  have hl : lv_has ls 1 [(0, .ref h)] := hl
  refine lv_aload_n hx hb d_Bullet__init__0 rfl (lv_at hl 0 rfl) ?_
  refine kx_obj X w_ddc47516c3 w_99ff6a435c w_bd0ebf1870 hl.1 (Nat.le_of_ble_eq_true rfl) (Nat.le_of_ble_eq_true rfl) d_Bullet__init__1 ?_
  exact kx_vret (u := ()) X Wd trivial d_Bullet__init__4
abbrev RM_i_report : Room := { frames := 1, cells := 0, slots := 0, locals := 20 }
set_option maxHeartbeats 4000000 in
set_option maxRecDepth 100000 in
theorem k_i_report (l : Launch) (D : va_G) (cI cT cB : ClassId) (tX tY : Nat) (h : Nat)  : Mv l y_Report__init_ (wsm y_Report__init_ b_Report__init_ 1 none) RM_i_report D clA (tysC cI cT cB) (ZsC tX tY) [.ref h] [(h, .inr (CI_report, [.int 0, .int 0, .int 0, .int 0]))] (fun _ : Unit => [(h, .inr (CI_report, [.int 0, .int 0, .int 4, .int 0]))]) (fun _ => True) 0 0 := by
  refine met_of (cc := b_Report__init_) (nL := 1) (ret := none) (by decide) rfl (Nat.le_of_ble_eq_true rfl) ?_
  intro p e s m below meth c X hnm Wd ls hl
  have X := X.tt
  have hx := X.1
  have hb := X.2.1
  have hl : lv_has ls 1 [(0, .ref h)] := hl
  refine lv_aload_n hx hb d_Report__init__0 rfl (lv_at hl 0 rfl) ?_
  refine kx_obj X w_495b608ffe w_99ff6a435c w_bd0ebf1870 hl.1 (Nat.le_of_ble_eq_true rfl) (Nat.le_of_ble_eq_true rfl) d_Report__init__1 ?_
  refine lv_aload_n hx hb d_Report__init__4 rfl (lv_at hl 0 rfl) ?_
  refine lv_iconst (v := 4) hx hb d_Report__init__5 (by decide) ?_
  refine kx_put0 (v := .int 4) X Wd fp_Report_9 rfl rfl (Nat.le_of_ble_eq_true rfl) d_Report__init__6 (fun H locs Wd => ?_)
  exact kx_vret (u := ()) X Wd trivial d_Report__init__9
abbrev RM_i_processor : Room := { frames := 1, cells := 1, slots := 2, locals := 20 }
set_option maxHeartbeats 4000000 in
set_option maxRecDepth 100000 in
theorem k_i_processor (l : Launch) (D : va_G) (cI cT cB : ClassId) (tX tY : Nat) (h : Nat)  : Mv l y_Processor__init_ (wsm y_Processor__init_ b_Processor__init_ 1 none) RM_i_processor D clA (tysC cI cT cB) (ZsC tX tY) [.ref h] [(h, .inr (CI_processor, [.null, .int 0, .int 0]))] (fun q : Nat => [(h, .inr (CI_processor, [.ref q, .int 0, .int 0])), (q, .inl (cI, 2, .inl (fun _ => 0)))]) (fun _ => True) 1 2 := by
  refine met_of (cc := b_Processor__init_) (nL := 1) (ret := none) (by decide) rfl (Nat.le_of_ble_eq_true rfl) ?_
  intro p e s m below meth c X hnm Wd ls hl
  have X := X.tt
  have hx := X.1
  have hb := X.2.1
  have hl : lv_has ls 1 [(0, .ref h)] := hl
  refine lv_aload_n hx hb d_Processor__init__0 rfl (lv_at hl 0 rfl) ?_
  refine kx_obj X w_c5192e094e w_99ff6a435c w_bd0ebf1870 hl.1 (Nat.le_of_ble_eq_true rfl) (Nat.le_of_ble_eq_true rfl) d_Processor__init__1 ?_
  refine lv_aload_n hx hb d_Processor__init__4 rfl (lv_at hl 0 rfl) ?_
  refine lv_iconst (v := 2) hx hb d_Processor__init__5 (by decide) ?_
  refine kx_newi (N := 2) X Wd 0 rfl w_8e969fb20a rfl (by decide) (Nat.le_of_ble_eq_true rfl) (Nat.le_of_ble_eq_true rfl) d_Processor__init__6 (fun q H Wd => ?_)
  have Wd : Wo D clA _ s.heap ((h, .inr (CI_processor, [.null, .int 0, .int 0])) :: [(q, .inl (cI, 2, .inl (fun _ => 0)))]) H _ := Wd
  refine kx_putF (v := .ref q) X hnm Wd ff_Processor_7 rfl rfl (Nat.le_of_ble_eq_true rfl) d_Processor__init__8 (fun H locs Wd => ?_)
  exact kx_vret (u := q) X Wd trivial d_Processor__init__11
abbrev RM_i_program : Room := { frames := 1, cells := 3, slots := 48, locals := 20 }
set_option maxHeartbeats 4000000 in
set_option maxRecDepth 100000 in
theorem k_i_program (l : Launch) (D : va_G) (cI cT cB : ClassId) (tX tY : Nat) (h : Nat)  : Mv l y_Program__init_ (wsm y_Program__init_ b_Program__init_ 1 none) RM_i_program D clA (tysC cI cT cB) (ZsC tX tY) [.ref h] [(h, .inr (CI_program, [.null, .null, .null, .int 0]))] (fun u : Nat × Nat × Nat => [(h, .inr (CI_program, [.ref u.1, .ref u.2.1, .ref u.2.2, .int 0])), (u.1, .inl (cI, 16, .inl (fun _ => 0))), (u.2.1, .inl (cI, 16, .inl (fun _ => 0))), (u.2.2, .inl (cI, 16, .inl (fun _ => 0)))]) (fun _ => True) 3 48 := by
  refine met_of (cc := b_Program__init_) (nL := 1) (ret := none) (by decide) rfl (Nat.le_of_ble_eq_true rfl) ?_
  intro p e s m below meth c X hnm Wd ls hl
  have X := X.tt
  have hx := X.1
  have hb := X.2.1
  have hl : lv_has ls 1 [(0, .ref h)] := hl
  refine lv_aload_n hx hb d_Program__init__0 rfl (lv_at hl 0 rfl) ?_
  refine kx_obj X w_097660e73c w_99ff6a435c w_bd0ebf1870 hl.1 (Nat.le_of_ble_eq_true rfl) (Nat.le_of_ble_eq_true rfl) d_Program__init__1 ?_
  refine lv_aload_n hx hb d_Program__init__4 rfl (lv_at hl 0 rfl) ?_
  refine lv_bipush (v := 16) hx hb d_Program__init__5 (by decide) ?_
  refine kx_newi (N := 16) X Wd 0 rfl w_8e969fb20a rfl (by decide) (Nat.le_of_ble_eq_true rfl) (Nat.le_of_ble_eq_true rfl) d_Program__init__7 (fun a H Wd => ?_)
  have Wd : Wo D clA _ s.heap ((h, .inr (CI_program, [.null, .null, .null, .int 0])) :: [(a, .inl (cI, 16, .inl (fun _ => 0)))]) H _ := Wd
  refine kx_putF (v := .ref a) X hnm Wd ff_Program_11 rfl rfl (Nat.le_of_ble_eq_true rfl) d_Program__init__9 (fun H locs Wd => ?_)
  have Wd : Wo D clA _ s.heap ((h, .inr (CI_program, [.ref a, .null, .null, .int 0])) :: [(a, .inl (cI, 16, .inl (fun _ => 0)))]) H locs := Wd
  refine lv_aload_n hx hb d_Program__init__12 rfl (lv_at hl 0 rfl) ?_
  refine lv_bipush (v := 16) hx hb d_Program__init__13 (by decide) ?_
  refine kx_newi (N := 16) X Wd 0 rfl w_8e969fb20a rfl (by decide) (Nat.le_of_ble_eq_true rfl) (Nat.le_of_ble_eq_true rfl) d_Program__init__15 (fun b H Wd => ?_)
  have Wd : Wo D clA _ s.heap ((h, .inr (CI_program, [.ref a, .null, .null, .int 0])) :: [(a, .inl (cI, 16, .inl (fun _ => 0))), (b, .inl (cI, 16, .inl (fun _ => 0)))]) H _ := Wd
  refine kx_putF (v := .ref b) X hnm Wd ff_Program_15 rfl rfl (Nat.le_of_ble_eq_true rfl) d_Program__init__17 (fun H locs Wd => ?_)
  have Wd : Wo D clA _ s.heap ((h, .inr (CI_program, [.ref a, .ref b, .null, .int 0])) :: [(a, .inl (cI, 16, .inl (fun _ => 0))), (b, .inl (cI, 16, .inl (fun _ => 0)))]) H locs := Wd
  refine lv_aload_n hx hb d_Program__init__20 rfl (lv_at hl 0 rfl) ?_
  refine lv_bipush (v := 16) hx hb d_Program__init__21 (by decide) ?_
  refine kx_newi (N := 16) X Wd 0 rfl w_8e969fb20a rfl (by decide) (Nat.le_of_ble_eq_true rfl) (Nat.le_of_ble_eq_true rfl) d_Program__init__23 (fun d H Wd => ?_)
  have Wd : Wo D clA _ s.heap ((h, .inr (CI_program, [.ref a, .ref b, .null, .int 0])) :: [(a, .inl (cI, 16, .inl (fun _ => 0))), (b, .inl (cI, 16, .inl (fun _ => 0))), (d, .inl (cI, 16, .inl (fun _ => 0)))]) H _ := Wd
  refine kx_putF (v := .ref d) X hnm Wd ff_Program_18 rfl rfl (Nat.le_of_ble_eq_true rfl) d_Program__init__25 (fun H locs Wd => ?_)
  have Wd : Wo D clA _ s.heap ((h, .inr (CI_program, [.ref a, .ref b, .ref d, .int 0])) :: [(a, .inl (cI, 16, .inl (fun _ => 0))), (b, .inl (cI, 16, .inl (fun _ => 0))), (d, .inl (cI, 16, .inl (fun _ => 0)))]) H locs := Wd
  exact kx_vret (u := (a, b, d)) X Wd trivial d_Program__init__28
/-- the numbers at the start -/
def g0 : SG := fun k _ j => if k = 11 ∧ j = 2 then 4 else if k = 2 then nI (j % 16) else 0
def tkW (cI cT cB : ClassId) (ad : Nat → Nat → Nat) (i : Nat) : va_W := [3, 4, 5, 6, 7, 8, 9, 10, 11].map fun k => (ad k i, cellC cI cT cB ad k i (g0 k i))
abbrev RM_i_tank : Room := { frames := 2, cells := 8, slots := 65, locals := 40 }
set_option maxHeartbeats 4000000 in
set_option maxRecDepth 100000 in
theorem k_i_tank (l : Launch) (D : va_G) (cI cT cB : ClassId) (tX tY : Nat) (h : Nat)  : Mv l y_Tank__init_ (wsm y_Tank__init_ b_Tank__init_ 1 none) RM_i_tank D clA (tysC cI cT cB) (ZsC tX tY) [.ref h] [(h, .inr (CI_tank, [.null, .null, .null, .null, .int 0, .int 0, .int 0, .int 0, .int 0, .int 0, .int 0, .int 0, .int 0, .int 0, .int 0, .int 0, .int 0, .int 0]))] (fun u : Nat → Nat => tkW cI cT cB (fun k _ => u k) 0) (fun u => u 3 = h) 8 65 := by
  refine met_of (cc := b_Tank__init_) (nL := 1) (ret := none) (by decide) rfl (Nat.le_of_ble_eq_true rfl) ?_
  intro p e s m below meth c X hnm Wd ls hl
  have X := X.tt
  have hx := X.1
  have hb := X.2.1
  have hl : lv_has ls 1 [(0, .ref h)] := hl
  refine lv_aload_n hx hb d_Tank__init__0 rfl (lv_at hl 0 rfl) ?_
  refine kx_obj X w_e039962be2 w_99ff6a435c w_bd0ebf1870 hl.1 (Nat.le_of_ble_eq_true rfl) (Nat.le_of_ble_eq_true rfl) d_Tank__init__1 ?_
  refine lv_aload_n hx hb d_Tank__init__4 rfl (lv_at hl 0 rfl) ?_
  refine kx_new (fs := [.null, .null, .null, .int 0]) X Wd fn_Tank_9 (Nat.le_of_ble_eq_true rfl) (Nat.le_of_ble_eq_true rfl) d_Tank__init__5 (fun q4 H Wd => ?_)
  have Wd : Wo D clA _ s.heap ([(h, .inr (CI_tank, [.null, .null, .null, .null, .int 0, .int 0, .int 0, .int 0, .int 0, .int 0, .int 0, .int 0, .int 0, .int 0, .int 0, .int 0, .int 0, .int 0]))] ++ [(q4, .inr (CI_program, [.null, .null, .null, .int 0]))]) H _ := Wd
  refine lv_dup hx hb d_Tank__init__8 rfl ?_
  refine kf_IN (As := []) [.ref q4, .ref h] X Wd (k_i_program l D cI cT cB tX tY q4 ) cI_Tank_11 rfl rfl hl.1 ⟨rfl, rfl⟩ ⟨Nat.le_of_ble_eq_true rfl, Nat.le_of_ble_eq_true rfl⟩ (Nat.le_of_ble_eq_true rfl) ⟨Nat.le_of_ble_eq_true rfl, Nat.le_of_ble_eq_true rfl⟩ d_Tank__init__9 (fun u H locs hp Wd => ?_)
  rcases u with ⟨q5, q6, q7⟩
  have Wd : Wo D clA _ s.heap ((h, .inr (CI_tank, [.null, .null, .null, .null, .int 0, .int 0, .int 0, .int 0, .int 0, .int 0, .int 0, .int 0, .int 0, .int 0, .int 0, .int 0, .int 0, .int 0])) :: [(q4, .inr (CI_program, [.ref q5, .ref q6, .ref q7, .int 0])), (q5, .inl (cI, 16, .inl (fun _ => 0))), (q6, .inl (cI, 16, .inl (fun _ => 0))), (q7, .inl (cI, 16, .inl (fun _ => 0)))]) H locs := Wd
  refine kx_putF (v := .ref q4) X hnm Wd ff_Tank_12 rfl rfl (Nat.le_of_ble_eq_true rfl) d_Tank__init__12 (fun H locs Wd => ?_)
  have Wd : Wo D clA _ s.heap ((h, .inr (CI_tank, [.ref q4, .null, .null, .null, .int 0, .int 0, .int 0, .int 0, .int 0, .int 0, .int 0, .int 0, .int 0, .int 0, .int 0, .int 0, .int 0, .int 0])) :: [(q4, .inr (CI_program, [.ref q5, .ref q6, .ref q7, .int 0])), (q5, .inl (cI, 16, .inl (fun _ => 0))), (q6, .inl (cI, 16, .inl (fun _ => 0))), (q7, .inl (cI, 16, .inl (fun _ => 0)))]) H locs := Wd
  refine lv_aload_n hx hb d_Tank__init__15 rfl (lv_at hl 0 rfl) ?_
  refine kx_new (fs := [.null, .int 0, .int 0]) X Wd fn_Tank_18 (Nat.le_of_ble_eq_true rfl) (Nat.le_of_ble_eq_true rfl) d_Tank__init__16 (fun q8 H Wd => ?_)
  have Wd : Wo D clA _ s.heap ([(h, .inr (CI_tank, [.ref q4, .null, .null, .null, .int 0, .int 0, .int 0, .int 0, .int 0, .int 0, .int 0, .int 0, .int 0, .int 0, .int 0, .int 0, .int 0, .int 0])), (q4, .inr (CI_program, [.ref q5, .ref q6, .ref q7, .int 0])), (q5, .inl (cI, 16, .inl (fun _ => 0))), (q6, .inl (cI, 16, .inl (fun _ => 0))), (q7, .inl (cI, 16, .inl (fun _ => 0)))] ++ [(q8, .inr (CI_processor, [.null, .int 0, .int 0]))]) H _ := Wd
  refine lv_dup hx hb d_Tank__init__19 rfl ?_
  refine kf_IN (As := []) [.ref q8, .ref h] X Wd (k_i_processor l D cI cT cB tX tY q8 ) cI_Tank_20 rfl rfl hl.1 ⟨rfl, rfl⟩ ⟨Nat.le_of_ble_eq_true rfl, Nat.le_of_ble_eq_true rfl⟩ (Nat.le_of_ble_eq_true rfl) ⟨Nat.le_of_ble_eq_true rfl, Nat.le_of_ble_eq_true rfl⟩ d_Tank__init__20 (fun u H locs hp Wd => ?_)
  obtain ⟨q9, e9⟩ : ∃ z, z = u := ⟨u, rfl⟩; subst e9
  have Wd : Wo D clA _ s.heap ((h, .inr (CI_tank, [.ref q4, .null, .null, .null, .int 0, .int 0, .int 0, .int 0, .int 0, .int 0, .int 0, .int 0, .int 0, .int 0, .int 0, .int 0, .int 0, .int 0])) :: [(q4, .inr (CI_program, [.ref q5, .ref q6, .ref q7, .int 0])), (q5, .inl (cI, 16, .inl (fun _ => 0))), (q6, .inl (cI, 16, .inl (fun _ => 0))), (q7, .inl (cI, 16, .inl (fun _ => 0))), (q8, .inr (CI_processor, [.ref q9, .int 0, .int 0])), (q9, .inl (cI, 2, .inl (fun _ => 0)))]) H locs := Wd
  refine kx_putF (v := .ref q8) X hnm Wd ff_Tank_21 rfl rfl (Nat.le_of_ble_eq_true rfl) d_Tank__init__23 (fun H locs Wd => ?_)
  have Wd : Wo D clA _ s.heap ((h, .inr (CI_tank, [.ref q4, .ref q8, .null, .null, .int 0, .int 0, .int 0, .int 0, .int 0, .int 0, .int 0, .int 0, .int 0, .int 0, .int 0, .int 0, .int 0, .int 0])) :: [(q4, .inr (CI_program, [.ref q5, .ref q6, .ref q7, .int 0])), (q5, .inl (cI, 16, .inl (fun _ => 0))), (q6, .inl (cI, 16, .inl (fun _ => 0))), (q7, .inl (cI, 16, .inl (fun _ => 0))), (q8, .inr (CI_processor, [.ref q9, .int 0, .int 0])), (q9, .inl (cI, 2, .inl (fun _ => 0)))]) H locs := Wd
  refine lv_aload_n hx hb d_Tank__init__26 rfl (lv_at hl 0 rfl) ?_
  refine kx_new (fs := [.int 0, .int 0, .int 0, .int 0]) X Wd fn_Tank_25 (Nat.le_of_ble_eq_true rfl) (Nat.le_of_ble_eq_true rfl) d_Tank__init__27 (fun q10 H Wd => ?_)
  have Wd : Wo D clA _ s.heap ([(h, .inr (CI_tank, [.ref q4, .ref q8, .null, .null, .int 0, .int 0, .int 0, .int 0, .int 0, .int 0, .int 0, .int 0, .int 0, .int 0, .int 0, .int 0, .int 0, .int 0])), (q4, .inr (CI_program, [.ref q5, .ref q6, .ref q7, .int 0])), (q5, .inl (cI, 16, .inl (fun _ => 0))), (q6, .inl (cI, 16, .inl (fun _ => 0))), (q7, .inl (cI, 16, .inl (fun _ => 0))), (q8, .inr (CI_processor, [.ref q9, .int 0, .int 0])), (q9, .inl (cI, 2, .inl (fun _ => 0)))] ++ [(q10, .inr (CI_orders, [.int 0, .int 0, .int 0, .int 0]))]) H _ := Wd
  refine lv_dup hx hb d_Tank__init__30 rfl ?_
  refine kf_IN (As := []) [.ref q10, .ref h] X Wd (k_i_orders l D cI cT cB tX tY q10 [.int 0, .int 0, .int 0, .int 0]) cI_Tank_27 rfl rfl hl.1 ⟨rfl, rfl⟩ ⟨Nat.le_of_ble_eq_true rfl, Nat.le_of_ble_eq_true rfl⟩ (Nat.le_of_ble_eq_true rfl) ⟨Nat.le_of_ble_eq_true rfl, Nat.le_of_ble_eq_true rfl⟩ d_Tank__init__31 (fun u H locs hp Wd => ?_)
  have Wd : Wo D clA _ s.heap ((h, .inr (CI_tank, [.ref q4, .ref q8, .null, .null, .int 0, .int 0, .int 0, .int 0, .int 0, .int 0, .int 0, .int 0, .int 0, .int 0, .int 0, .int 0, .int 0, .int 0])) :: [(q4, .inr (CI_program, [.ref q5, .ref q6, .ref q7, .int 0])), (q5, .inl (cI, 16, .inl (fun _ => 0))), (q6, .inl (cI, 16, .inl (fun _ => 0))), (q7, .inl (cI, 16, .inl (fun _ => 0))), (q8, .inr (CI_processor, [.ref q9, .int 0, .int 0])), (q9, .inl (cI, 2, .inl (fun _ => 0))), (q10, .inr (CI_orders, [.int 0, .int 0, .int 0, .int 0]))]) H locs := Wd
  refine kx_putF (v := .ref q10) X hnm Wd ff_Tank_28 rfl rfl (Nat.le_of_ble_eq_true rfl) d_Tank__init__34 (fun H locs Wd => ?_)
  have Wd : Wo D clA _ s.heap ((h, .inr (CI_tank, [.ref q4, .ref q8, .ref q10, .null, .int 0, .int 0, .int 0, .int 0, .int 0, .int 0, .int 0, .int 0, .int 0, .int 0, .int 0, .int 0, .int 0, .int 0])) :: [(q4, .inr (CI_program, [.ref q5, .ref q6, .ref q7, .int 0])), (q5, .inl (cI, 16, .inl (fun _ => 0))), (q6, .inl (cI, 16, .inl (fun _ => 0))), (q7, .inl (cI, 16, .inl (fun _ => 0))), (q8, .inr (CI_processor, [.ref q9, .int 0, .int 0])), (q9, .inl (cI, 2, .inl (fun _ => 0))), (q10, .inr (CI_orders, [.int 0, .int 0, .int 0, .int 0]))]) H locs := Wd
  refine lv_aload_n hx hb d_Tank__init__37 rfl (lv_at hl 0 rfl) ?_
  refine kx_new (fs := [.int 0, .int 0, .int 0, .int 0]) X Wd fn_Tank_32 (Nat.le_of_ble_eq_true rfl) (Nat.le_of_ble_eq_true rfl) d_Tank__init__38 (fun q11 H Wd => ?_)
  have Wd : Wo D clA _ s.heap ([(h, .inr (CI_tank, [.ref q4, .ref q8, .ref q10, .null, .int 0, .int 0, .int 0, .int 0, .int 0, .int 0, .int 0, .int 0, .int 0, .int 0, .int 0, .int 0, .int 0, .int 0])), (q4, .inr (CI_program, [.ref q5, .ref q6, .ref q7, .int 0])), (q5, .inl (cI, 16, .inl (fun _ => 0))), (q6, .inl (cI, 16, .inl (fun _ => 0))), (q7, .inl (cI, 16, .inl (fun _ => 0))), (q8, .inr (CI_processor, [.ref q9, .int 0, .int 0])), (q9, .inl (cI, 2, .inl (fun _ => 0))), (q10, .inr (CI_orders, [.int 0, .int 0, .int 0, .int 0]))] ++ [(q11, .inr (CI_report, [.int 0, .int 0, .int 0, .int 0]))]) H _ := Wd
  refine lv_dup hx hb d_Tank__init__41 rfl ?_
  refine kf_IN (As := []) [.ref q11, .ref h] X Wd (k_i_report l D cI cT cB tX tY q11 ) cI_Tank_34 rfl rfl hl.1 ⟨rfl, rfl⟩ ⟨Nat.le_of_ble_eq_true rfl, Nat.le_of_ble_eq_true rfl⟩ (Nat.le_of_ble_eq_true rfl) ⟨Nat.le_of_ble_eq_true rfl, Nat.le_of_ble_eq_true rfl⟩ d_Tank__init__42 (fun u H locs hp Wd => ?_)
  have Wd : Wo D clA _ s.heap ((h, .inr (CI_tank, [.ref q4, .ref q8, .ref q10, .null, .int 0, .int 0, .int 0, .int 0, .int 0, .int 0, .int 0, .int 0, .int 0, .int 0, .int 0, .int 0, .int 0, .int 0])) :: [(q4, .inr (CI_program, [.ref q5, .ref q6, .ref q7, .int 0])), (q5, .inl (cI, 16, .inl (fun _ => 0))), (q6, .inl (cI, 16, .inl (fun _ => 0))), (q7, .inl (cI, 16, .inl (fun _ => 0))), (q8, .inr (CI_processor, [.ref q9, .int 0, .int 0])), (q9, .inl (cI, 2, .inl (fun _ => 0))), (q10, .inr (CI_orders, [.int 0, .int 0, .int 0, .int 0])), (q11, .inr (CI_report, [.int 0, .int 0, .int 4, .int 0]))]) H locs := Wd
  refine kx_putF (v := .ref q11) X hnm Wd ff_Tank_35 rfl rfl (Nat.le_of_ble_eq_true rfl) d_Tank__init__45 (fun H locs Wd => ?_)
  have Wd : Wo D clA _ s.heap ((h, .inr (CI_tank, [.ref q4, .ref q8, .ref q10, .ref q11, .int 0, .int 0, .int 0, .int 0, .int 0, .int 0, .int 0, .int 0, .int 0, .int 0, .int 0, .int 0, .int 0, .int 0])) :: [(q4, .inr (CI_program, [.ref q5, .ref q6, .ref q7, .int 0])), (q5, .inl (cI, 16, .inl (fun _ => 0))), (q6, .inl (cI, 16, .inl (fun _ => 0))), (q7, .inl (cI, 16, .inl (fun _ => 0))), (q8, .inr (CI_processor, [.ref q9, .int 0, .int 0])), (q9, .inl (cI, 2, .inl (fun _ => 0))), (q10, .inr (CI_orders, [.int 0, .int 0, .int 0, .int 0])), (q11, .inr (CI_report, [.int 0, .int 0, .int 4, .int 0]))]) H locs := Wd
  refine kx_vret (u := fun k => match k with | 3 => h | 4 => q4 | 5 => q5 | 6 => q6 | 7 => q7 | 8 => q8 | 9 => q9 | 10 => q10 | _ => q11) X ?_ rfl d_Tank__init__48
  exact Wd
