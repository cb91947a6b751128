/-! CONTRACTS (printed by gen/all.py) -/
abbrev RM_g_oclear : Room := { frames := 0, cells := 0, slots := 0, locals := 0 }
set_option maxHeartbeats 1000000 in
set_option maxRecDepth 100000 in
theorem k_g_oclear (l : Launch) (D : va_G) (cI cT cB : ClassId) (ad : Nat → Nat → Nat) (tX tY : Nat) (g : SG) (i : Nat) (hi : i < 4) : KV l y_Orders_clear b_Orders_clear 1 none RM_g_oclear D cI cT cB ad tX tY [.ref (ad 10 i)] g (fun (u : SG) => u = g_oclear g i) := by
  refine met_of (cc := b_Orders_clear) (nL := 1) (ret := none) (by decide) rfl (Nat.le_of_ble_eq_true rfl) ?_
  intro p e s m below meth c X hnm Wd ls hl
  have X := X.tt
  have hx := X.1
  have hb := X.2.1
  have hown := X.2.2.2.1
  have hts := X.2.2.2.2.1
  have hl : lv_has ls 1 [(0, .ref (ad 10 i))] := hl
  have Wd : WC D cI cT cB ad (va_A (gC cI cT cB ad g) s.heap.size) s.heap g s.heap [] := Wd
  refine lv_aload_n hx hb d_Orders_clear_0 rfl (lv_at hl 0 rfl) ?_
  refine lv_iconst (v := 0) hx hb d_Orders_clear_1 (by decide) ?_
  refine kx_puti (k := 10) (i := i) (v := 0) X Wd (ix10 hi) cell10 fp_Orders_7 0 rfl (by decide) rfl rfl rfl d_Orders_clear_2 (fun H locs Wd => ?_)
  refine lv_aload_n hx hb d_Orders_clear_5 rfl (lv_at hl 0 rfl) ?_
  refine lv_iconst (v := 0) hx hb d_Orders_clear_6 (by decide) ?_
  refine kx_puti (k := 10) (i := i) (v := 0) X Wd (ix10 hi) cell10 fp_Orders_13 1 rfl (by decide) rfl rfl rfl d_Orders_clear_7 (fun H locs Wd => ?_)
  refine lv_aload_n hx hb d_Orders_clear_10 rfl (lv_at hl 0 rfl) ?_
  refine lv_iconst (v := 0) hx hb d_Orders_clear_11 (by decide) ?_
  refine kx_puti (k := 10) (i := i) (v := 0) X Wd (ix10 hi) cell10 fp_Orders_16 2 rfl (by decide) rfl rfl rfl d_Orders_clear_12 (fun H locs Wd => ?_)
  refine lv_aload_n hx hb d_Orders_clear_15 rfl (lv_at hl 0 rfl) ?_
  refine lv_iconst (v := 0) hx hb d_Orders_clear_16 (by decide) ?_
  refine kx_puti (k := 10) (i := i) (v := 0) X Wd (ix10 hi) cell10 fp_Orders_19 3 rfl (by decide) rfl rfl rfl d_Orders_clear_17 (fun H locs Wd => ?_)
  exact kx_vret (u := up3 (up3 (up3 (up3 g 10 i 0 0) 10 i 1 0) 10 i 2 0) 10 i 3 0) X Wd (by rw [g_oclear]) d_Orders_clear_20
abbrev RM_g_rclear : Room := { frames := 0, cells := 0, slots := 0, locals := 0 }
set_option maxHeartbeats 1000000 in
set_option maxRecDepth 100000 in
theorem k_g_rclear (l : Launch) (D : va_G) (cI cT cB : ClassId) (ad : Nat → Nat → Nat) (tX tY : Nat) (g : SG) (i : Nat) (hi : i < 4) : KV l y_Report_clear b_Report_clear 1 none RM_g_rclear D cI cT cB ad tX tY [.ref (ad 11 i)] g (fun (u : SG) => u = g_rclear g i) := by
  refine met_of (cc := b_Report_clear) (nL := 1) (ret := none) (by decide) rfl (Nat.le_of_ble_eq_true rfl) ?_
  intro p e s m below meth c X hnm Wd ls hl
  have X := X.tt
  have hx := X.1
  have hb := X.2.1
  have hown := X.2.2.2.1
  have hts := X.2.2.2.2.1
  have hl : lv_has ls 1 [(0, .ref (ad 11 i))] := hl
  have Wd : WC D cI cT cB ad (va_A (gC cI cT cB ad g) s.heap.size) s.heap g s.heap [] := Wd
  refine lv_aload_n hx hb d_Report_clear_0 rfl (lv_at hl 0 rfl) ?_
  refine lv_iconst (v := 0) hx hb d_Report_clear_1 (by decide) ?_
  refine kx_puti (k := 11) (i := i) (v := 0) X Wd (ix11 hi) cell11 fp_Report_15 0 rfl (by decide) rfl rfl rfl d_Report_clear_2 (fun H locs Wd => ?_)
  refine lv_aload_n hx hb d_Report_clear_5 rfl (lv_at hl 0 rfl) ?_
  refine lv_iconst (v := 0) hx hb d_Report_clear_6 (by decide) ?_
  refine kx_puti (k := 11) (i := i) (v := 0) X Wd (ix11 hi) cell11 fp_Report_19 1 rfl (by decide) rfl rfl rfl d_Report_clear_7 (fun H locs Wd => ?_)
  refine lv_aload_n hx hb d_Report_clear_10 rfl (lv_at hl 0 rfl) ?_
  refine lv_iconst (v := 4) hx hb d_Report_clear_11 (by decide) ?_
  refine kx_puti (k := 11) (i := i) (v := 4) X Wd (ix11 hi) cell11 fp_Report_9 2 rfl (by decide) rfl rfl rfl d_Report_clear_12 (fun H locs Wd => ?_)
  refine lv_aload_n hx hb d_Report_clear_15 rfl (lv_at hl 0 rfl) ?_
  refine lv_iconst (v := 0) hx hb d_Report_clear_16 (by decide) ?_
  refine kx_puti (k := 11) (i := i) (v := 0) X Wd (ix11 hi) cell11 fp_Report_22 3 rfl (by decide) rfl rfl rfl d_Report_clear_17 (fun H locs Wd => ?_)
  exact kx_vret (u := up3 (up3 (up3 (up3 g 11 i 0 0) 11 i 1 0) 11 i 2 4) 11 i 3 0) X Wd (by rw [g_rclear]) d_Report_clear_20
abbrev RM_f_sees : Room := { frames := 0, cells := 0, slots := 0, locals := 0 }
set_option maxHeartbeats 1000000 in
set_option maxRecDepth 100000 in
theorem k_f_sees (l : Launch) (D : va_G) (cI cT cB : ClassId) (ad : Nat → Nat → Nat) (tX tY : Nat) (g : SG) (i : Nat) (hi : i < 4) : KI l y_Report_seesTank b_Report_seesTank 1 (some .boolean) RM_f_sees D cI cT cB ad tX tY [.ref (ad 11 i)] g (fun (r : Int32) (u : SG) => r = f_sees g i ∧ u = g) := by
  refine met_of (cc := b_Report_seesTank) (nL := 1) (ret := (some .boolean)) (by decide) rfl (Nat.le_of_ble_eq_true rfl) ?_
  intro p e s m below meth c X hnm Wd ls hl
  have X := X.tt
  have hx := X.1
  have hb := X.2.1
  have hown := X.2.2.2.1
  have hts := X.2.2.2.2.1
  have hl : lv_has ls 1 [(0, .ref (ad 11 i))] := hl
  have Wd : WC D cI cT cB ad (va_A (gC cI cT cB ad g) s.heap.size) s.heap g s.heap [] := Wd
  refine lv_aload_n hx hb d_Report_seesTank_0 rfl (lv_at hl 0 rfl) ?_
  refine kx_geti (k := 11) (i := i) X Wd (ix11 hi) cell11 fg_Report_9 2 rfl (by decide) rfl d_Report_seesTank_1 ?_
  refine lv_iconst (v := 4) hx hb d_Report_seesTank_4 (by decide) ?_
  refine lv_icmp_eq (tgt := 12) hx hb d_Report_seesTank_5 (by decide) (fun c_1 => ?_) (fun c_1 => ?_)
  · skip
    refine lv_iconst (v := 0) hx hb d_Report_seesTank_12 (by decide) ?_
    exact kx_iret (u := g) X rfl Wd ⟨by rw [f_sees, if_pos c_1], rfl⟩ d_Report_seesTank_13
  · skip
    refine lv_iconst (v := 1) hx hb d_Report_seesTank_8 (by decide) ?_
    refine lv_goto (tgt := 13) hx hb d_Report_seesTank_9 (by decide) ?_
    exact kx_iret (u := g) X rfl Wd ⟨by rw [f_sees, if_neg c_1], rfl⟩ d_Report_seesTank_13
abbrev RM_g_note : Room := { frames := 1, cells := 0, slots := 0, locals := 20 }
set_option maxHeartbeats 1000000 in
set_option maxRecDepth 100000 in
theorem k_g_note (l : Launch) (D : va_G) (cI cT cB : ClassId) (ad : Nat → Nat → Nat) (tX tY : Nat) (g : SG) (i : Nat) (hi : i < 4) (t : Int32) (d : Int32) : KV l y_Report_noteSight b_Report_noteSight 3 none RM_g_note D cI cT cB ad tX tY [.ref (ad 11 i), .int t, .int d] g (fun (u : SG) => u = g_note g i t d) := by
  refine met_of (cc := b_Report_noteSight) (nL := 3) (ret := none) (by decide) rfl (Nat.le_of_ble_eq_true rfl) ?_
  intro p e s m below meth c X hnm Wd ls hl
  have X := X.tt
  have hx := X.1
  have hb := X.2.1
  have hown := X.2.2.2.1
  have hts := X.2.2.2.2.1
  have hl : lv_has ls 3 [(0, .ref (ad 11 i)), (1, .int t), (2, .int d)] := hl
  have Wd : WC D cI cT cB ad (va_A (gC cI cT cB ad g) s.heap.size) s.heap g s.heap [] := Wd
  refine lv_aload_n hx hb d_Report_noteSight_0 rfl (lv_at hl 0 rfl) ?_
  refine kc_Vi (As := []) [] X Wd (k_f_sees l D cI cT cB ad tX tY g i hi) cV_Report_25 (kx_recv (k := 11) (i := i) X Wd (ix11 hi) rfl rfl) rfl rfl hl.1 ⟨rfl, rfl⟩ ⟨Nat.le_of_ble_eq_true rfl, Nat.le_of_ble_eq_true rfl⟩ (Nat.le_of_ble_eq_true rfl) ⟨Nat.zero_le _, Nat.zero_le _⟩ d_Report_noteSight_1 (fun r u H locs hp Wd => ?_)
  obtain ⟨hr, hu⟩ := hp
  rw [hu] at Wd
  rw [hr]
  clear hr hu
  refine lv_if_eq (tgt := 15) hx hb d_Report_noteSight_4 (by decide) (fun c_1 => ?_) (fun c_1 => ?_)
  · skip
    refine lv_aload_n hx hb d_Report_noteSight_15 rfl (lv_at hl 0 rfl) ?_
    refine lv_iload_n hx hb d_Report_noteSight_16 rfl (lv_at hl 1 rfl) ?_
    refine kx_puti (k := 11) (i := i) (v := t) X Wd (ix11 hi) cell11 fp_Report_9 2 rfl (by decide) rfl rfl rfl d_Report_noteSight_17 (fun H locs Wd => ?_)
    refine lv_aload_n hx hb d_Report_noteSight_20 rfl (lv_at hl 0 rfl) ?_
    refine lv_iload_n hx hb d_Report_noteSight_21 rfl (lv_at hl 2 rfl) ?_
    refine kx_puti (k := 11) (i := i) (v := d) X Wd (ix11 hi) cell11 fp_Report_22 3 rfl (by decide) rfl rfl rfl d_Report_noteSight_22 (fun H locs Wd => ?_)
    exact kx_vret (u := up3 (up3 g 11 i 2 t) 11 i 3 d) X Wd (by rw [g_note, if_pos c_1]) d_Report_noteSight_25
  · skip
    refine lv_iload_n hx hb d_Report_noteSight_7 rfl (lv_at hl 2 rfl) ?_
    refine lv_aload_n hx hb d_Report_noteSight_8 rfl (lv_at hl 0 rfl) ?_
    refine kx_geti (k := 11) (i := i) X Wd (ix11 hi) cell11 fg_Report_22 3 rfl (by decide) rfl d_Report_noteSight_9 ?_
    refine lv_icmp_ge (tgt := 25) hx hb d_Report_noteSight_12 (by decide) (fun c_2 => ?_) (fun c_2 => ?_)
    · skip
      exact kx_vret (u := g) X Wd (by rw [g_note, if_neg c_1, if_pos c_2]) d_Report_noteSight_25
    · skip
      refine lv_aload_n hx hb d_Report_noteSight_15 rfl (lv_at hl 0 rfl) ?_
      refine lv_iload_n hx hb d_Report_noteSight_16 rfl (lv_at hl 1 rfl) ?_
      refine kx_puti (k := 11) (i := i) (v := t) X Wd (ix11 hi) cell11 fp_Report_9 2 rfl (by decide) rfl rfl rfl d_Report_noteSight_17 (fun H locs Wd => ?_)
      refine lv_aload_n hx hb d_Report_noteSight_20 rfl (lv_at hl 0 rfl) ?_
      refine lv_iload_n hx hb d_Report_noteSight_21 rfl (lv_at hl 2 rfl) ?_
      refine kx_puti (k := 11) (i := i) (v := d) X Wd (ix11 hi) cell11 fp_Report_22 3 rfl (by decide) rfl rfl rfl d_Report_noteSight_22 (fun H locs Wd => ?_)
      exact kx_vret (u := up3 (up3 g 11 i 2 t) 11 i 3 d) X Wd (by rw [g_note, if_neg c_1, if_neg c_2]) d_Report_noteSight_25
abbrev RM_g_pclear : Room := { frames := 0, cells := 0, slots := 0, locals := 0 }
set_option maxHeartbeats 1000000 in
set_option maxRecDepth 100000 in
theorem k_g_pclear (l : Launch) (D : va_G) (cI cT cB : ClassId) (ad : Nat → Nat → Nat) (tX tY : Nat) (g : SG) (i : Nat) (hi : i < 4) : KV l y_Processor_clear b_Processor_clear 1 none RM_g_pclear D cI cT cB ad tX tY [.ref (ad 8 i)] g (fun (u : SG) => u = g_pclear g i) := by
  refine met_of (cc := b_Processor_clear) (nL := 1) (ret := none) (by decide) rfl (Nat.le_of_ble_eq_true rfl) ?_
  intro p e s m below meth c X hnm Wd ls hl
  have X := X.tt
  have hx := X.1
  have hb := X.2.1
  have hown := X.2.2.2.1
  have hts := X.2.2.2.2.1
  have hl : lv_has ls 1 [(0, .ref (ad 8 i))] := hl
  have Wd : WC D cI cT cB ad (va_A (gC cI cT cB ad g) s.heap.size) s.heap g s.heap [] := Wd
  refine lv_aload_n hx hb d_Processor_clear_0 rfl (lv_at hl 0 rfl) ?_
  refine kx_get (k := 8) (i := i) (v := .ref (ad 9 i)) X Wd (ix8 hi) rfl fg_Processor_7 rfl d_Processor_clear_1 ?_
  refine lv_iconst (v := 0) hx hb d_Processor_clear_4 (by decide) ?_
  refine lv_iconst (v := 0) hx hb d_Processor_clear_5 (by decide) ?_
  refine kx_iast (k := 9) (i := i) (j := 0) (t0 := 0) X Wd (ix9 hi) cell9 rfl (by decide) (by decide) (by decide) d_Processor_clear_6 (fun H locs Wd => ?_)
  refine lv_aload_n hx hb d_Processor_clear_7 rfl (lv_at hl 0 rfl) ?_
  refine kx_get (k := 8) (i := i) (v := .ref (ad 9 i)) X Wd (ix8 hi) rfl fg_Processor_7 rfl d_Processor_clear_8 ?_
  refine lv_iconst (v := 1) hx hb d_Processor_clear_11 (by decide) ?_
  refine lv_iconst (v := 0) hx hb d_Processor_clear_12 (by decide) ?_
  refine kx_iast (k := 9) (i := i) (j := 1) (t0 := 0) X Wd (ix9 hi) cell9 rfl (by decide) (by decide) (by decide) d_Processor_clear_13 (fun H locs Wd => ?_)
  refine lv_aload_n hx hb d_Processor_clear_14 rfl (lv_at hl 0 rfl) ?_
  refine lv_iconst (v := 0) hx hb d_Processor_clear_15 (by decide) ?_
  refine kx_puti (k := 8) (i := i) (v := 0) X Wd (ix8 hi) cell8 fp_Processor_13 0 rfl (by decide) rfl rfl rfl d_Processor_clear_16 (fun H locs Wd => ?_)
  refine lv_aload_n hx hb d_Processor_clear_19 rfl (lv_at hl 0 rfl) ?_
  refine lv_iconst (v := 0) hx hb d_Processor_clear_20 (by decide) ?_
  refine kx_puti (k := 8) (i := i) (v := 0) X Wd (ix8 hi) cell8 fp_Processor_17 1 rfl (by decide) rfl rfl rfl d_Processor_clear_21 (fun H locs Wd => ?_)
  exact kx_vret (u := up3 (up3 (up3 (up3 g 9 i 0 0) 9 i 1 0) 8 i 0 0) 8 i 1 0) X Wd (by rw [g_pclear]) d_Processor_clear_24
abbrev RM_f_full : Room := { frames := 0, cells := 0, slots := 0, locals := 0 }
set_option maxHeartbeats 1000000 in
set_option maxRecDepth 100000 in
theorem k_f_full (l : Launch) (D : va_G) (cI cT cB : ClassId) (ad : Nat → Nat → Nat) (tX tY : Nat) (g : SG) (i : Nat) (hi : i < 4) : KI l y_Program_isFull b_Program_isFull 1 (some .boolean) RM_f_full D cI cT cB ad tX tY [.ref (ad 4 i)] g (fun (r : Int32) (u : SG) => r = f_full g i ∧ u = g) := by
  refine met_of (cc := b_Program_isFull) (nL := 1) (ret := (some .boolean)) (by decide) rfl (Nat.le_of_ble_eq_true rfl) ?_
  intro p e s m below meth c X hnm Wd ls hl
  have X := X.tt
  have hx := X.1
  have hb := X.2.1
  have hown := X.2.2.2.1
  have hts := X.2.2.2.2.1
  have hl : lv_has ls 1 [(0, .ref (ad 4 i))] := hl
  have Wd : WC D cI cT cB ad (va_A (gC cI cT cB ad g) s.heap.size) s.heap g s.heap [] := Wd
  refine lv_aload_n hx hb d_Program_isFull_0 rfl (lv_at hl 0 rfl) ?_
  refine kx_geti (k := 4) (i := i) X Wd (ix4 hi) cell4 fg_Program_25 0 rfl (by decide) rfl d_Program_isFull_1 ?_
  refine lv_bipush (v := 16) hx hb d_Program_isFull_4 (by decide) ?_
  refine lv_icmp_lt (tgt := 13) hx hb d_Program_isFull_6 (by decide) (fun c_1 => ?_) (fun c_1 => ?_)
  · skip
    refine lv_iconst (v := 0) hx hb d_Program_isFull_13 (by decide) ?_
    exact kx_iret (u := g) X rfl Wd ⟨by rw [f_full, if_pos c_1], rfl⟩ d_Program_isFull_14
  · skip
    refine lv_iconst (v := 1) hx hb d_Program_isFull_9 (by decide) ?_
    refine lv_goto (tgt := 14) hx hb d_Program_isFull_10 (by decide) ?_
    exact kx_iret (u := g) X rfl Wd ⟨by rw [f_full, if_neg c_1], rfl⟩ d_Program_isFull_14
abbrev RM_g_add : Room := { frames := 0, cells := 0, slots := 0, locals := 0 }
set_option maxHeartbeats 1000000 in
set_option maxRecDepth 100000 in
theorem k_g_add (l : Launch) (D : va_G) (cI cT cB : ClassId) (ad : Nat → Nat → Nat) (tX tY : Nat) (g : SG) (i : Nat) (hi : i < 4) (op : Int32) (a : Int32) (b : Int32) (hsz : rng (g 4 i 0) 16) : KV l y_Program_add b_Program_add 4 none RM_g_add D cI cT cB ad tX tY [.ref (ad 4 i), .int op, .int a, .int b] g (fun (u : SG) => u = g_add g i op a b) := by
  refine met_of (cc := b_Program_add) (nL := 4) (ret := none) (by decide) rfl (Nat.le_of_ble_eq_true rfl) ?_
  intro p e s m below meth c X hnm Wd ls hl
  have X := X.tt
  have hx := X.1
  have hb := X.2.1
  have hown := X.2.2.2.1
  have hts := X.2.2.2.2.1
  have hl : lv_has ls 4 [(0, .ref (ad 4 i)), (1, .int op), (2, .int a), (3, .int b)] := hl
  have Wd : WC D cI cT cB ad (va_A (gC cI cT cB ad g) s.heap.size) s.heap g s.heap [] := Wd
  obtain ⟨es, hs⟩ := rng_j hsz (by decide)
  refine lv_aload_n hx hb d_Program_add_0 rfl (lv_at hl 0 rfl) ?_
  refine kx_get (k := 4) (i := i) (v := .ref (ad 5 i)) X Wd (ix4 hi) rfl fg_Program_11 rfl d_Program_add_1 ?_
  refine lv_aload_n hx hb d_Program_add_4 rfl (lv_at hl 0 rfl) ?_
  refine kx_geti (k := 4) (i := i) X Wd (ix4 hi) cell4 fg_Program_25 0 rfl (by decide) rfl d_Program_add_5 ?_
  refine lv_iload_n hx hb d_Program_add_8 rfl (lv_at hl 1 rfl) ?_
  refine kx_iast (k := 5) (i := i) (j := (g 4 i 0).toNatClampNeg) (t0 := 0) X Wd (ix5 hi) cell5 rfl es hs (by decide) d_Program_add_9 (fun H locs Wd => ?_)
  refine lv_aload_n hx hb d_Program_add_10 rfl (lv_at hl 0 rfl) ?_
  refine kx_get (k := 4) (i := i) (v := .ref (ad 6 i)) X Wd (ix4 hi) rfl fg_Program_15 rfl d_Program_add_11 ?_
  refine lv_aload_n hx hb d_Program_add_14 rfl (lv_at hl 0 rfl) ?_
  refine kx_geti2 (k := 4) (i := i) (g 4 i 0) X Wd (ix4 hi) cell4 fg_Program_25 0 rfl (by decide) rfl (by simp [up3]) d_Program_add_15 ?_
  refine lv_iload_n hx hb d_Program_add_18 rfl (lv_at hl 2 rfl) ?_
  refine kx_iast (k := 6) (i := i) (j := (g 4 i 0).toNatClampNeg) (t0 := 0) X Wd (ix6 hi) cell6 rfl es hs (by decide) d_Program_add_19 (fun H locs Wd => ?_)
  refine lv_aload_n hx hb d_Program_add_20 rfl (lv_at hl 0 rfl) ?_
  refine kx_get (k := 4) (i := i) (v := .ref (ad 7 i)) X Wd (ix4 hi) rfl fg_Program_18 rfl d_Program_add_21 ?_
  refine lv_aload_n hx hb d_Program_add_24 rfl (lv_at hl 0 rfl) ?_
  refine kx_geti2 (k := 4) (i := i) (g 4 i 0) X Wd (ix4 hi) cell4 fg_Program_25 0 rfl (by decide) rfl (by simp [up3]) d_Program_add_25 ?_
  refine lv_iload_n hx hb d_Program_add_28 rfl (lv_at hl 3 rfl) ?_
  refine kx_iast (k := 7) (i := i) (j := (g 4 i 0).toNatClampNeg) (t0 := 0) X Wd (ix7 hi) cell7 rfl es hs (by decide) d_Program_add_29 (fun H locs Wd => ?_)
  refine lv_aload_n hx hb d_Program_add_30 rfl (lv_at hl 0 rfl) ?_
  refine lv_dup hx hb d_Program_add_31 rfl ?_
  refine kx_geti2 (k := 4) (i := i) (g 4 i 0) X Wd (ix4 hi) cell4 fg_Program_25 0 rfl (by decide) rfl (by simp [up3]) d_Program_add_32 ?_
  refine lv_iconst (v := 1) hx hb d_Program_add_35 (by decide) ?_
  refine lv_iadd hx hb d_Program_add_36 ?_
  refine kx_puti (k := 4) (i := i) (v := (g 4 i 0) + 1) X Wd (ix4 hi) cell4 fp_Program_25 0 rfl (by decide) rfl rfl rfl d_Program_add_37 (fun H locs Wd => ?_)
  exact kx_vret (u := up3 (up3 (up3 (up3 g 5 i ((g 4 i 0).toNatClampNeg) op) 6 i ((g 4 i 0).toNatClampNeg) a) 7 i ((g 4 i 0).toNatClampNeg) b) 4 i 0 ((g 4 i 0) + 1)) X Wd (by rw [g_add]) d_Program_add_40
abbrev RM_f_within : Room := { frames := 0, cells := 0, slots := 0, locals := 0 }
set_option maxHeartbeats 1000000 in
set_option maxRecDepth 100000 in
theorem k_f_within (l : Launch) (D : va_G) (cI cT cB : ClassId) (ad : Nat → Nat → Nat) (tX tY : Nat) (g : SG) (v : Int32) (lo : Int32) (hi : Int32) : KI l y_TankArena_within b_TankArena_within 3 (some .boolean) RM_f_within D cI cT cB ad tX tY [.int v, .int lo, .int hi] g (fun (r : Int32) (u : SG) => r = f_within v lo hi ∧ u = g) := by
  refine met_of (cc := b_TankArena_within) (nL := 3) (ret := (some .boolean)) (by decide) rfl (Nat.le_of_ble_eq_true rfl) ?_
  intro p e s m below meth c X hnm Wd ls hl
  have X := X.tt
  have hx := X.1
  have hb := X.2.1
  have hown := X.2.2.2.1
  have hts := X.2.2.2.2.1
  have hl : lv_has ls 3 [(0, .int v), (1, .int lo), (2, .int hi)] := hl
  have Wd : WC D cI cT cB ad (va_A (gC cI cT cB ad g) s.heap.size) s.heap g s.heap [] := Wd
  refine lv_iload_n hx hb d_TankArena_within_0 rfl (lv_at hl 0 rfl) ?_
  refine lv_iload_n hx hb d_TankArena_within_1 rfl (lv_at hl 1 rfl) ?_
  refine lv_icmp_lt (tgt := 14) hx hb d_TankArena_within_2 (by decide) (fun c_1 => ?_) (fun c_1 => ?_)
  · skip
    refine lv_iconst (v := 0) hx hb d_TankArena_within_14 (by decide) ?_
    exact kx_iret (u := g) X rfl Wd ⟨by rw [f_within, if_pos c_1], rfl⟩ d_TankArena_within_15
  · skip
    refine lv_iload_n hx hb d_TankArena_within_5 rfl (lv_at hl 0 rfl) ?_
    refine lv_iload_n hx hb d_TankArena_within_6 rfl (lv_at hl 2 rfl) ?_
    refine lv_icmp_gt (tgt := 14) hx hb d_TankArena_within_7 (by decide) (fun c_2 => ?_) (fun c_2 => ?_)
    · skip
      refine lv_iconst (v := 0) hx hb d_TankArena_within_14 (by decide) ?_
      exact kx_iret (u := g) X rfl Wd ⟨by rw [f_within, if_neg c_1, if_pos c_2], rfl⟩ d_TankArena_within_15
    · skip
      refine lv_iconst (v := 1) hx hb d_TankArena_within_10 (by decide) ?_
      refine lv_goto (tgt := 15) hx hb d_TankArena_within_11 (by decide) ?_
      exact kx_iret (u := g) X rfl Wd ⟨by rw [f_within, if_neg c_1, if_neg c_2], rfl⟩ d_TankArena_within_15
abbrev RM_f_floorMod : Room := { frames := 0, cells := 0, slots := 0, locals := 0 }
set_option maxHeartbeats 1000000 in
set_option maxRecDepth 100000 in
theorem k_f_floorMod (l : Launch) (D : va_G) (cI cT cB : ClassId) (ad : Nat → Nat → Nat) (tX tY : Nat) (g : SG) (x : Int32) (y : Int32) (hy : ¬ y = 0) : KI l y_Math_floorMod b_Math_floorMod 3 (some .int) RM_f_floorMod D cI cT cB ad tX tY [.int x, .int y] g (fun (r : Int32) (u : SG) => r = f_floorMod x y ∧ u = g) := by
  refine met_ofF (cc := b_Math_floorMod) (nL := 3) (ret := (some .int)) (by decide +kernel) rfl (Nat.le_of_ble_eq_true rfl) ?_
  intro p e s m below meth c X hnm Wd ls hl
  have X := X.tt
  have hx := X.1
  have hb := X.2.1
  have hown := X.2.2.2.1
  have hts := X.2.2.2.2.1
  have hl : lv_has ls 3 [(0, .int x), (1, .int y)] := hl
  have Wd : WC D cI cT cB ad (va_A (gC cI cT cB ad g) s.heap.size) s.heap g s.heap [] := Wd
  refine lv_iload_n hx hb d_Math_floorMod_0 rfl (lv_at hl 0 rfl) ?_
  refine lv_iload_n hx hb d_Math_floorMod_1 rfl (lv_at hl 1 rfl) ?_
  refine lv_irem hx hb d_Math_floorMod_2 hy ?_
  refine lv_istore_n (lv' := [(2, .int (x - x / y * y)), (0, .int x), (1, .int y)]) hx hb d_Math_floorMod_3 rfl hl (by decide) rfl (fun ls hl => ?_)
  refine lv_iload_n hx hb d_Math_floorMod_4 rfl (lv_at hl 1 rfl) ?_
  refine lv_iload_n hx hb d_Math_floorMod_5 rfl (lv_at hl 2 rfl) ?_
  refine lv_ixor hx hb d_Math_floorMod_6 ?_
  refine lv_if_ge (tgt := 18) hx hb d_Math_floorMod_7 (by decide) (fun c_1 => ?_) (fun c_1 => ?_)
  · skip
    refine lv_iload_n hx hb d_Math_floorMod_18 rfl (lv_at hl 0 rfl) ?_
    exact kx_iret (u := g) X rfl Wd ⟨by rw [f_floorMod, if_pos c_1], rfl⟩ d_Math_floorMod_19
  · skip
    refine lv_iload_n hx hb d_Math_floorMod_10 rfl (lv_at hl 0 rfl) ?_
    refine lv_if_eq (tgt := 18) hx hb d_Math_floorMod_11 (by decide) (fun c_2 => ?_) (fun c_2 => ?_)
    · skip
      refine lv_iload_n hx hb d_Math_floorMod_18 rfl (lv_at hl 0 rfl) ?_
      exact kx_iret (u := g) X rfl Wd ⟨by rw [f_floorMod, if_neg c_1, if_pos c_2], rfl⟩ d_Math_floorMod_19
    · skip
      refine lv_iload_n hx hb d_Math_floorMod_14 rfl (lv_at hl 0 rfl) ?_
      refine lv_iload_n hx hb d_Math_floorMod_15 rfl (lv_at hl 2 rfl) ?_
      refine lv_iadd hx hb d_Math_floorMod_16 ?_
      exact kx_iret (u := g) X rfl Wd ⟨by rw [f_floorMod, if_neg c_1, if_neg c_2], rfl⟩ d_Math_floorMod_17
abbrev RM_f_turned : Room := { frames := 1, cells := 0, slots := 0, locals := 22 }
set_option maxHeartbeats 1000000 in
set_option maxRecDepth 100000 in
theorem k_f_turned (l : Launch) (D : va_G) (cI cT cB : ClassId) (ad : Nat → Nat → Nat) (tX tY : Nat) (g : SG) (d : Int32) (tb : Int32) : KI l y_TankArena_turned b_TankArena_turned 2 (some .int) RM_f_turned D cI cT cB ad tX tY [.int d, .int tb] g (fun (r : Int32) (u : SG) => r = f_turned d tb ∧ u = g) := by
  refine met_of (cc := b_TankArena_turned) (nL := 2) (ret := (some .int)) (by decide) rfl (Nat.le_of_ble_eq_true rfl) ?_
  intro p e s m below meth c X hnm Wd ls hl
  have X := X.tt
  have hx := X.1
  have hb := X.2.1
  have hown := X.2.2.2.1
  have hts := X.2.2.2.2.1
  have hl : lv_has ls 2 [(0, .int d), (1, .int tb)] := hl
  have Wd : WC D cI cT cB ad (va_A (gC cI cT cB ad g) s.heap.size) s.heap g s.heap [] := Wd
  refine lv_iload_n hx hb d_TankArena_turned_0 rfl (lv_at hl 0 rfl) ?_
  refine lv_iload_n hx hb d_TankArena_turned_1 rfl (lv_at hl 1 rfl) ?_
  refine lv_iadd hx hb d_TankArena_turned_2 ?_
  refine lv_bipush (v := 8) hx hb d_TankArena_turned_3 (by decide) ?_
  refine kc_Si (As := [.int (d + tb), .int 8]) [] X Wd (k_f_floorMod l D cI cT cB ad tX tY g (d + tb) 8 (by decide)) cS_TankArena_121 rfl rfl hl.1 ⟨rfl, rfl⟩ ⟨Nat.le_of_ble_eq_true rfl, Nat.le_of_ble_eq_true rfl⟩ (Nat.le_of_ble_eq_true rfl) ⟨Nat.zero_le _, Nat.zero_le _⟩ d_TankArena_turned_5 (fun r u H locs hp Wd => ?_)
  obtain ⟨hr, hu⟩ := hp
  rw [hu] at Wd
  rw [hr]
  clear hr hu
  exact kx_iret (u := g) X rfl Wd ⟨by rw [f_turned], rfl⟩ d_TankArena_turned_8
abbrev RM_f_allows : Room := { frames := 1, cells := 0, slots := 0, locals := 22 }
set_option maxHeartbeats 1000000 in
set_option maxRecDepth 100000 in
theorem k_f_allows (l : Launch) (D : va_G) (cI cT cB : ClassId) (ad : Nat → Nat → Nat) (tX tY : Nat) (g : SG) (op : Int32) (a : Int32) (b : Int32) : KI l y_Program_allows b_Program_allows 3 (some .boolean) RM_f_allows D cI cT cB ad tX tY [.int op, .int a, .int b] g (fun (r : Int32) (u : SG) => r = f_allows op a b ∧ u = g) := by
  refine met_of (cc := b_Program_allows) (nL := 3) (ret := (some .boolean)) (by decide) rfl (Nat.le_of_ble_eq_true rfl) ?_
  intro p e s m below meth c X hnm Wd ls hl
  have X := X.tt
  have hx := X.1
  have hb := X.2.1
  have hown := X.2.2.2.1
  have hts := X.2.2.2.2.1
  have hl : lv_has ls 3 [(0, .int op), (1, .int a), (2, .int b)] := hl
  have Wd : WC D cI cT cB ad (va_A (gC cI cT cB ad g) s.heap.size) s.heap g s.heap [] := Wd
  refine lv_iload_n hx hb d_Program_allows_0 rfl (lv_at hl 0 rfl) ?_
  by_cases c_1 : op = 0
  · skip
    refine lv_tableIn (tgt := 68) hx hb d_Program_allows_1 (by rw [c_1]; decide) (by rw [c_1]; decide) (by rw [c_1]; rfl) (by decide) ?_
    refine lv_iconst (v := 1) hx hb d_Program_allows_68 (by decide) ?_
    exact kx_iret (u := g) X rfl Wd ⟨by rw [f_allows, if_pos c_1], rfl⟩ d_Program_allows_69
  by_cases c_2 : op = 1
  · skip
    refine lv_tableIn (tgt := 70) hx hb d_Program_allows_1 (by rw [c_2]; decide) (by rw [c_2]; decide) (by rw [c_2]; rfl) (by decide) ?_
    refine lv_iload_n hx hb d_Program_allows_70 rfl (lv_at hl 1 rfl) ?_
    refine lv_iconst (v := 0) hx hb d_Program_allows_71 (by decide) ?_
    refine lv_bipush (v := 8) hx hb d_Program_allows_72 (by decide) ?_
    refine kc_Ni (As := [.int a, .int 0, .int 8]) [] X Wd (k_f_within l D cI cT cB ad tX tY g a 0 8) cN_Program_21 rfl rfl hl.1 ⟨rfl, rfl⟩ ⟨Nat.le_of_ble_eq_true rfl, Nat.le_of_ble_eq_true rfl⟩ (Nat.le_of_ble_eq_true rfl) ⟨Nat.zero_le _, Nat.zero_le _⟩ d_Program_allows_74 (fun r u H locs hp Wd => ?_)
    obtain ⟨hr, hu⟩ := hp
    rw [hu] at Wd
    rw [hr]
    clear hr hu
    exact kx_iret (u := g) X (nar01 (z_within ..)) Wd ⟨by rw [f_allows, if_neg c_1, if_pos c_2], rfl⟩ d_Program_allows_77
  by_cases c_3 : op = 2
  · skip
    refine lv_tableIn (tgt := 78) hx hb d_Program_allows_1 (by rw [c_3]; decide) (by rw [c_3]; decide) (by rw [c_3]; rfl) (by decide) ?_
    refine lv_iload_n hx hb d_Program_allows_78 rfl (lv_at hl 1 rfl) ?_
    refine lv_iconst (v := -1) hx hb d_Program_allows_79 (by decide) ?_
    refine lv_iconst (v := 1) hx hb d_Program_allows_80 (by decide) ?_
    refine kc_Ni (As := [.int a, .int (-1), .int 1]) [] X Wd (k_f_within l D cI cT cB ad tX tY g a (-1) 1) cN_Program_21 rfl rfl hl.1 ⟨rfl, rfl⟩ ⟨Nat.le_of_ble_eq_true rfl, Nat.le_of_ble_eq_true rfl⟩ (Nat.le_of_ble_eq_true rfl) ⟨Nat.zero_le _, Nat.zero_le _⟩ d_Program_allows_81 (fun r u H locs hp Wd => ?_)
    obtain ⟨hr, hu⟩ := hp
    rw [hu] at Wd
    rw [hr]
    clear hr hu
    exact kx_iret (u := g) X (nar01 (z_within ..)) Wd ⟨by rw [f_allows, if_neg c_1, if_neg c_2, if_pos c_3], rfl⟩ d_Program_allows_84
  by_cases c_4 : op = 3
  · skip
    refine lv_tableIn (tgt := 78) hx hb d_Program_allows_1 (by rw [c_4]; decide) (by rw [c_4]; decide) (by rw [c_4]; rfl) (by decide) ?_
    refine lv_iload_n hx hb d_Program_allows_78 rfl (lv_at hl 1 rfl) ?_
    refine lv_iconst (v := -1) hx hb d_Program_allows_79 (by decide) ?_
    refine lv_iconst (v := 1) hx hb d_Program_allows_80 (by decide) ?_
    refine kc_Ni (As := [.int a, .int (-1), .int 1]) [] X Wd (k_f_within l D cI cT cB ad tX tY g a (-1) 1) cN_Program_21 rfl rfl hl.1 ⟨rfl, rfl⟩ ⟨Nat.le_of_ble_eq_true rfl, Nat.le_of_ble_eq_true rfl⟩ (Nat.le_of_ble_eq_true rfl) ⟨Nat.zero_le _, Nat.zero_le _⟩ d_Program_allows_81 (fun r u H locs hp Wd => ?_)
    obtain ⟨hr, hu⟩ := hp
    rw [hu] at Wd
    rw [hr]
    clear hr hu
    exact kx_iret (u := g) X (nar01 (z_within ..)) Wd ⟨by rw [f_allows, if_neg c_1, if_neg c_2, if_neg c_3, if_pos c_4], rfl⟩ d_Program_allows_84
  by_cases c_5 : op = 4
  · skip
    refine lv_tableIn (tgt := 78) hx hb d_Program_allows_1 (by rw [c_5]; decide) (by rw [c_5]; decide) (by rw [c_5]; rfl) (by decide) ?_
    refine lv_iload_n hx hb d_Program_allows_78 rfl (lv_at hl 1 rfl) ?_
    refine lv_iconst (v := -1) hx hb d_Program_allows_79 (by decide) ?_
    refine lv_iconst (v := 1) hx hb d_Program_allows_80 (by decide) ?_
    refine kc_Ni (As := [.int a, .int (-1), .int 1]) [] X Wd (k_f_within l D cI cT cB ad tX tY g a (-1) 1) cN_Program_21 rfl rfl hl.1 ⟨rfl, rfl⟩ ⟨Nat.le_of_ble_eq_true rfl, Nat.le_of_ble_eq_true rfl⟩ (Nat.le_of_ble_eq_true rfl) ⟨Nat.zero_le _, Nat.zero_le _⟩ d_Program_allows_81 (fun r u H locs hp Wd => ?_)
    obtain ⟨hr, hu⟩ := hp
    rw [hu] at Wd
    rw [hr]
    clear hr hu
    exact kx_iret (u := g) X (nar01 (z_within ..)) Wd ⟨by rw [f_allows, if_neg c_1, if_neg c_2, if_neg c_3, if_neg c_4, if_pos c_5], rfl⟩ d_Program_allows_84
  by_cases c_6 : op = 5
  · skip
    refine lv_tableIn (tgt := 85) hx hb d_Program_allows_1 (by rw [c_6]; decide) (by rw [c_6]; decide) (by rw [c_6]; rfl) (by decide) ?_
    refine lv_iload_n hx hb d_Program_allows_85 rfl (lv_at hl 1 rfl) ?_
    refine lv_iconst (v := 1) hx hb d_Program_allows_86 (by decide) ?_
    refine lv_iconst (v := 3) hx hb d_Program_allows_87 (by decide) ?_
    refine kc_Ni (As := [.int a, .int 1, .int 3]) [] X Wd (k_f_within l D cI cT cB ad tX tY g a 1 3) cN_Program_21 rfl rfl hl.1 ⟨rfl, rfl⟩ ⟨Nat.le_of_ble_eq_true rfl, Nat.le_of_ble_eq_true rfl⟩ (Nat.le_of_ble_eq_true rfl) ⟨Nat.zero_le _, Nat.zero_le _⟩ d_Program_allows_88 (fun r u H locs hp Wd => ?_)
    obtain ⟨hr, hu⟩ := hp
    rw [hu] at Wd
    rw [hr]
    clear hr hu
    exact kx_iret (u := g) X (nar01 (z_within ..)) Wd ⟨by rw [f_allows, if_neg c_1, if_neg c_2, if_neg c_3, if_neg c_4, if_neg c_5, if_pos c_6], rfl⟩ d_Program_allows_91
  by_cases c_7 : op = 6
  · skip
    refine lv_tableIn (tgt := 92) hx hb d_Program_allows_1 (by rw [c_7]; decide) (by rw [c_7]; decide) (by rw [c_7]; rfl) (by decide) ?_
    refine lv_iload_n hx hb d_Program_allows_92 rfl (lv_at hl 1 rfl) ?_
    refine lv_iconst (v := 0) hx hb d_Program_allows_93 (by decide) ?_
    refine lv_bipush (v := 15) hx hb d_Program_allows_94 (by decide) ?_
    refine kc_Ni (As := [.int a, .int 0, .int 15]) [] X Wd (k_f_within l D cI cT cB ad tX tY g a 0 15) cN_Program_21 rfl rfl hl.1 ⟨rfl, rfl⟩ ⟨Nat.le_of_ble_eq_true rfl, Nat.le_of_ble_eq_true rfl⟩ (Nat.le_of_ble_eq_true rfl) ⟨Nat.zero_le _, Nat.zero_le _⟩ d_Program_allows_96 (fun r u H locs hp Wd => ?_)
    obtain ⟨hr, hu⟩ := hp
    rw [hu] at Wd
    rw [hr]
    clear hr hu
    exact kx_iret (u := g) X (nar01 (z_within ..)) Wd ⟨by rw [f_allows, if_neg c_1, if_neg c_2, if_neg c_3, if_neg c_4, if_neg c_5, if_neg c_6, if_pos c_7], rfl⟩ d_Program_allows_99
  by_cases c_8 : op = 7
  · skip
    refine lv_tableIn (tgt := 92) hx hb d_Program_allows_1 (by rw [c_8]; decide) (by rw [c_8]; decide) (by rw [c_8]; rfl) (by decide) ?_
    refine lv_iload_n hx hb d_Program_allows_92 rfl (lv_at hl 1 rfl) ?_
    refine lv_iconst (v := 0) hx hb d_Program_allows_93 (by decide) ?_
    refine lv_bipush (v := 15) hx hb d_Program_allows_94 (by decide) ?_
    refine kc_Ni (As := [.int a, .int 0, .int 15]) [] X Wd (k_f_within l D cI cT cB ad tX tY g a 0 15) cN_Program_21 rfl rfl hl.1 ⟨rfl, rfl⟩ ⟨Nat.le_of_ble_eq_true rfl, Nat.le_of_ble_eq_true rfl⟩ (Nat.le_of_ble_eq_true rfl) ⟨Nat.zero_le _, Nat.zero_le _⟩ d_Program_allows_96 (fun r u H locs hp Wd => ?_)
    obtain ⟨hr, hu⟩ := hp
    rw [hu] at Wd
    rw [hr]
    clear hr hu
    exact kx_iret (u := g) X (nar01 (z_within ..)) Wd ⟨by rw [f_allows, if_neg c_1, if_neg c_2, if_neg c_3, if_neg c_4, if_neg c_5, if_neg c_6, if_neg c_7, if_pos c_8], rfl⟩ d_Program_allows_99
  by_cases c_9 : op = 8
  · skip
    refine lv_tableIn (tgt := 92) hx hb d_Program_allows_1 (by rw [c_9]; decide) (by rw [c_9]; decide) (by rw [c_9]; rfl) (by decide) ?_
    refine lv_iload_n hx hb d_Program_allows_92 rfl (lv_at hl 1 rfl) ?_
    refine lv_iconst (v := 0) hx hb d_Program_allows_93 (by decide) ?_
    refine lv_bipush (v := 15) hx hb d_Program_allows_94 (by decide) ?_
    refine kc_Ni (As := [.int a, .int 0, .int 15]) [] X Wd (k_f_within l D cI cT cB ad tX tY g a 0 15) cN_Program_21 rfl rfl hl.1 ⟨rfl, rfl⟩ ⟨Nat.le_of_ble_eq_true rfl, Nat.le_of_ble_eq_true rfl⟩ (Nat.le_of_ble_eq_true rfl) ⟨Nat.zero_le _, Nat.zero_le _⟩ d_Program_allows_96 (fun r u H locs hp Wd => ?_)
    obtain ⟨hr, hu⟩ := hp
    rw [hu] at Wd
    rw [hr]
    clear hr hu
    exact kx_iret (u := g) X (nar01 (z_within ..)) Wd ⟨by rw [f_allows, if_neg c_1, if_neg c_2, if_neg c_3, if_neg c_4, if_neg c_5, if_neg c_6, if_neg c_7, if_neg c_8, if_pos c_9], rfl⟩ d_Program_allows_99
  by_cases c_10 : op = 9
  · skip
    refine lv_tableIn (tgt := 92) hx hb d_Program_allows_1 (by rw [c_10]; decide) (by rw [c_10]; decide) (by rw [c_10]; rfl) (by decide) ?_
    refine lv_iload_n hx hb d_Program_allows_92 rfl (lv_at hl 1 rfl) ?_
    refine lv_iconst (v := 0) hx hb d_Program_allows_93 (by decide) ?_
    refine lv_bipush (v := 15) hx hb d_Program_allows_94 (by decide) ?_
    refine kc_Ni (As := [.int a, .int 0, .int 15]) [] X Wd (k_f_within l D cI cT cB ad tX tY g a 0 15) cN_Program_21 rfl rfl hl.1 ⟨rfl, rfl⟩ ⟨Nat.le_of_ble_eq_true rfl, Nat.le_of_ble_eq_true rfl⟩ (Nat.le_of_ble_eq_true rfl) ⟨Nat.zero_le _, Nat.zero_le _⟩ d_Program_allows_96 (fun r u H locs hp Wd => ?_)
    obtain ⟨hr, hu⟩ := hp
    rw [hu] at Wd
    rw [hr]
    clear hr hu
    exact kx_iret (u := g) X (nar01 (z_within ..)) Wd ⟨by rw [f_allows, if_neg c_1, if_neg c_2, if_neg c_3, if_neg c_4, if_neg c_5, if_neg c_6, if_neg c_7, if_neg c_8, if_neg c_9, if_pos c_10], rfl⟩ d_Program_allows_99
  by_cases c_11 : op = 10
  · skip
    refine lv_tableIn (tgt := 92) hx hb d_Program_allows_1 (by rw [c_11]; decide) (by rw [c_11]; decide) (by rw [c_11]; rfl) (by decide) ?_
    refine lv_iload_n hx hb d_Program_allows_92 rfl (lv_at hl 1 rfl) ?_
    refine lv_iconst (v := 0) hx hb d_Program_allows_93 (by decide) ?_
    refine lv_bipush (v := 15) hx hb d_Program_allows_94 (by decide) ?_
    refine kc_Ni (As := [.int a, .int 0, .int 15]) [] X Wd (k_f_within l D cI cT cB ad tX tY g a 0 15) cN_Program_21 rfl rfl hl.1 ⟨rfl, rfl⟩ ⟨Nat.le_of_ble_eq_true rfl, Nat.le_of_ble_eq_true rfl⟩ (Nat.le_of_ble_eq_true rfl) ⟨Nat.zero_le _, Nat.zero_le _⟩ d_Program_allows_96 (fun r u H locs hp Wd => ?_)
    obtain ⟨hr, hu⟩ := hp
    rw [hu] at Wd
    rw [hr]
    clear hr hu
    exact kx_iret (u := g) X (nar01 (z_within ..)) Wd ⟨by rw [f_allows, if_neg c_1, if_neg c_2, if_neg c_3, if_neg c_4, if_neg c_5, if_neg c_6, if_neg c_7, if_neg c_8, if_neg c_9, if_neg c_10, if_pos c_11], rfl⟩ d_Program_allows_99
  by_cases c_12 : op = 11
  · skip
    refine lv_tableIn (tgt := 100) hx hb d_Program_allows_1 (by rw [c_12]; decide) (by rw [c_12]; decide) (by rw [c_12]; rfl) (by decide) ?_
    refine lv_iload_n hx hb d_Program_allows_100 rfl (lv_at hl 1 rfl) ?_
    refine lv_iconst (v := 0) hx hb d_Program_allows_101 (by decide) ?_
    refine lv_iconst (v := 1) hx hb d_Program_allows_102 (by decide) ?_
    refine kc_Ni (As := [.int a, .int 0, .int 1]) [] X Wd (k_f_within l D cI cT cB ad tX tY g a 0 1) cN_Program_21 rfl rfl hl.1 ⟨rfl, rfl⟩ ⟨Nat.le_of_ble_eq_true rfl, Nat.le_of_ble_eq_true rfl⟩ (Nat.le_of_ble_eq_true rfl) ⟨Nat.zero_le _, Nat.zero_le _⟩ d_Program_allows_103 (fun r u H locs hp Wd => ?_)
    obtain ⟨hr, hu⟩ := hp
    rw [hu] at Wd
    rw [hr]
    clear hr hu
    refine lv_if_eq (tgt := 123) hx hb d_Program_allows_106 (by decide) (fun c_13 => ?_) (fun c_13 => ?_)
    · skip
      refine lv_iconst (v := 0) hx hb d_Program_allows_123 (by decide) ?_
      exact kx_iret (u := g) X rfl Wd ⟨by rw [f_allows, if_neg c_1, if_neg c_2, if_neg c_3, if_neg c_4, if_neg c_5, if_neg c_6, if_neg c_7, if_neg c_8, if_neg c_9, if_neg c_10, if_neg c_11, if_pos c_12, if_pos c_13], rfl⟩ d_Program_allows_124
    · skip
      refine lv_iload_n hx hb d_Program_allows_109 rfl (lv_at hl 2 rfl) ?_
      refine lv_iconst (v := 0) hx hb d_Program_allows_110 (by decide) ?_
      refine lv_bipush (v := 100) hx hb d_Program_allows_111 (by decide) ?_
      refine kc_Ni (As := [.int b, .int 0, .int 100]) [] X Wd (k_f_within l D cI cT cB ad tX tY g b 0 100) cN_Program_21 rfl rfl hl.1 ⟨rfl, rfl⟩ ⟨Nat.le_of_ble_eq_true rfl, Nat.le_of_ble_eq_true rfl⟩ (Nat.le_of_ble_eq_true rfl) ⟨Nat.zero_le _, Nat.zero_le _⟩ d_Program_allows_113 (fun r u H locs hp Wd => ?_)
      obtain ⟨hr, hu⟩ := hp
      rw [hu] at Wd
      rw [hr]
      clear hr hu
      refine lv_if_eq (tgt := 123) hx hb d_Program_allows_116 (by decide) (fun c_14 => ?_) (fun c_14 => ?_)
      · skip
        refine lv_iconst (v := 0) hx hb d_Program_allows_123 (by decide) ?_
        exact kx_iret (u := g) X rfl Wd ⟨by rw [f_allows, if_neg c_1, if_neg c_2, if_neg c_3, if_neg c_4, if_neg c_5, if_neg c_6, if_neg c_7, if_neg c_8, if_neg c_9, if_neg c_10, if_neg c_11, if_pos c_12, if_neg c_13, if_pos c_14], rfl⟩ d_Program_allows_124
      · skip
        refine lv_iconst (v := 1) hx hb d_Program_allows_119 (by decide) ?_
        refine lv_goto (tgt := 124) hx hb d_Program_allows_120 (by decide) ?_
        exact kx_iret (u := g) X rfl Wd ⟨by rw [f_allows, if_neg c_1, if_neg c_2, if_neg c_3, if_neg c_4, if_neg c_5, if_neg c_6, if_neg c_7, if_neg c_8, if_neg c_9, if_neg c_10, if_neg c_11, if_pos c_12, if_neg c_13, if_neg c_14], rfl⟩ d_Program_allows_124
  by_cases c_15 : op = 12
  · skip
    refine lv_tableIn (tgt := 125) hx hb d_Program_allows_1 (by rw [c_15]; decide) (by rw [c_15]; decide) (by rw [c_15]; rfl) (by decide) ?_
    refine lv_iload_n hx hb d_Program_allows_125 rfl (lv_at hl 1 rfl) ?_
    refine lv_iconst (v := 0) hx hb d_Program_allows_126 (by decide) ?_
    refine lv_bipush (v := 15) hx hb d_Program_allows_127 (by decide) ?_
    refine kc_Ni (As := [.int a, .int 0, .int 15]) [] X Wd (k_f_within l D cI cT cB ad tX tY g a 0 15) cN_Program_21 rfl rfl hl.1 ⟨rfl, rfl⟩ ⟨Nat.le_of_ble_eq_true rfl, Nat.le_of_ble_eq_true rfl⟩ (Nat.le_of_ble_eq_true rfl) ⟨Nat.zero_le _, Nat.zero_le _⟩ d_Program_allows_129 (fun r u H locs hp Wd => ?_)
    obtain ⟨hr, hu⟩ := hp
    rw [hu] at Wd
    rw [hr]
    clear hr hu
    refine lv_if_eq (tgt := 148) hx hb d_Program_allows_132 (by decide) (fun c_16 => ?_) (fun c_16 => ?_)
    · skip
      refine lv_iconst (v := 0) hx hb d_Program_allows_148 (by decide) ?_
      exact kx_iret (u := g) X rfl Wd ⟨by rw [f_allows, if_neg c_1, if_neg c_2, if_neg c_3, if_neg c_4, if_neg c_5, if_neg c_6, if_neg c_7, if_neg c_8, if_neg c_9, if_neg c_10, if_neg c_11, if_neg c_12, if_pos c_15, if_pos c_16], rfl⟩ d_Program_allows_149
    · skip
      refine lv_iload_n hx hb d_Program_allows_135 rfl (lv_at hl 2 rfl) ?_
      refine lv_iconst (v := 0) hx hb d_Program_allows_136 (by decide) ?_
      refine lv_iconst (v := 1) hx hb d_Program_allows_137 (by decide) ?_
      refine kc_Ni (As := [.int b, .int 0, .int 1]) [] X Wd (k_f_within l D cI cT cB ad tX tY g b 0 1) cN_Program_21 rfl rfl hl.1 ⟨rfl, rfl⟩ ⟨Nat.le_of_ble_eq_true rfl, Nat.le_of_ble_eq_true rfl⟩ (Nat.le_of_ble_eq_true rfl) ⟨Nat.zero_le _, Nat.zero_le _⟩ d_Program_allows_138 (fun r u H locs hp Wd => ?_)
      obtain ⟨hr, hu⟩ := hp
      rw [hu] at Wd
      rw [hr]
      clear hr hu
      refine lv_if_eq (tgt := 148) hx hb d_Program_allows_141 (by decide) (fun c_17 => ?_) (fun c_17 => ?_)
      · skip
        refine lv_iconst (v := 0) hx hb d_Program_allows_148 (by decide) ?_
        exact kx_iret (u := g) X rfl Wd ⟨by rw [f_allows, if_neg c_1, if_neg c_2, if_neg c_3, if_neg c_4, if_neg c_5, if_neg c_6, if_neg c_7, if_neg c_8, if_neg c_9, if_neg c_10, if_neg c_11, if_neg c_12, if_pos c_15, if_neg c_16, if_pos c_17], rfl⟩ d_Program_allows_149
      · skip
        refine lv_iconst (v := 1) hx hb d_Program_allows_144 (by decide) ?_
        refine lv_goto (tgt := 149) hx hb d_Program_allows_145 (by decide) ?_
        exact kx_iret (u := g) X rfl Wd ⟨by rw [f_allows, if_neg c_1, if_neg c_2, if_neg c_3, if_neg c_4, if_neg c_5, if_neg c_6, if_neg c_7, if_neg c_8, if_neg c_9, if_neg c_10, if_neg c_11, if_neg c_12, if_pos c_15, if_neg c_16, if_neg c_17], rfl⟩ d_Program_allows_149
  refine lv_tableOut (tgt := 150) hx hb d_Program_allows_1 (by have q0 := neI (0) rfl c_1; have q1 := neI (1) rfl c_2; have q2 := neI (2) rfl c_3; have q3 := neI (3) rfl c_4; have q4 := neI (4) rfl c_5; have q5 := neI (5) rfl c_6; have q6 := neI (6) rfl c_7; have q7 := neI (7) rfl c_8; have q8 := neI (8) rfl c_9; have q9 := neI (9) rfl c_10; have q10 := neI (10) rfl c_11; have q11 := neI (11) rfl c_12; have q12 := neI (12) rfl c_15; omega) (by decide) ?_
  refine lv_iconst (v := 0) hx hb d_Program_allows_150 (by decide) ?_
  exact kx_iret (u := g) X rfl Wd ⟨by rw [f_allows, if_neg c_1, if_neg c_2, if_neg c_3, if_neg c_4, if_neg c_5, if_neg c_6, if_neg c_7, if_neg c_8, if_neg c_9, if_neg c_10, if_neg c_11, if_neg c_12, if_neg c_15], rfl⟩ d_Program_allows_151
