/-! CONTRACTS (printed by gen/all.py) -/
abbrev RM_g_leave : Room := { frames := 0, cells := 0, slots := 0, locals := 0 }
set_option maxHeartbeats 1000000 in
set_option maxRecDepth 100000 in
theorem k_g_leave (l : Launch) (D : va_G) (cI cT cB : ClassId) (ad : Nat → Nat → Nat) (tX tY : Nat) (g : SG) (k : Nat) (hk : k < 16) (i : Nat) (hi : i < 4) (num : Int32) : KV l y_Bullet_leave b_Bullet_leave 3 none RM_g_leave D cI cT cB ad tX tY [.ref (ad 12 k), .ref (ad 3 i), .int num] g (fun (u : SG) => u = g_leave g k i num) := by
  refine met_of (cc := b_Bullet_leave) (nL := 3) (ret := none) (by decide) rfl (Nat.le_of_ble_eq_true rfl) ?_
  intro p e s m below meth c X hnm Wd ls hl
  have X := X.tt
  have hx := X.1
  have hb := X.2.1
  have hown := X.2.2.2.1
  have hts := X.2.2.2.2.1
  have hl : lv_has ls 3 [(0, .ref (ad 12 k)), (1, .ref (ad 3 i)), (2, .int num)] := hl
  have Wd : WC D cI cT cB ad (va_A (gC cI cT cB ad g) s.heap.size) s.heap g s.heap [] := Wd
  refine lv_aload_n hx hb d_Bullet_leave_0 rfl (lv_at hl 0 rfl) ?_
  refine lv_aload_n hx hb d_Bullet_leave_1 rfl (lv_at hl 1 rfl) ?_
  refine kx_geti (k := 3) (i := i) X Wd (ix3 hi) cell3 fg_Bullet_9 3 rfl (by decide) rfl d_Bullet_leave_2 ?_
  refine kx_puti (k := 12) (i := k) (v := g 3 i 3) X Wd (ix12 hk) cell12 fp_Bullet_15 0 rfl (by decide) rfl rfl rfl d_Bullet_leave_5 (fun H locs Wd => ?_)
  refine lv_aload_n hx hb d_Bullet_leave_8 rfl (lv_at hl 0 rfl) ?_
  refine lv_aload_n hx hb d_Bullet_leave_9 rfl (lv_at hl 1 rfl) ?_
  refine kx_geti2 (k := 3) (i := i) (g 3 i 4) X Wd (ix3 hi) cell3 fg_Bullet_18 4 rfl (by decide) rfl (by simp [up3]) d_Bullet_leave_10 ?_
  refine kx_puti (k := 12) (i := k) (v := g 3 i 4) X Wd (ix12 hk) cell12 fp_Bullet_21 1 rfl (by decide) rfl rfl rfl d_Bullet_leave_13 (fun H locs Wd => ?_)
  refine lv_aload_n hx hb d_Bullet_leave_16 rfl (lv_at hl 0 rfl) ?_
  refine lv_aload_n hx hb d_Bullet_leave_17 rfl (lv_at hl 1 rfl) ?_
  refine kx_get (k := 3) (i := i) (v := .ref (ad 10 i)) X Wd (ix3 hi) rfl fg_Bullet_22 rfl d_Bullet_leave_18 ?_
  refine kx_geti2 (k := 10) (i := i) (g 10 i 3) X Wd (ix10 hi) cell10 fg_Bullet_26 3 rfl (by decide) rfl (by simp [up3]) d_Bullet_leave_21 ?_
  refine kx_puti (k := 12) (i := k) (v := g 10 i 3) X Wd (ix12 hk) cell12 fp_Bullet_31 2 rfl (by decide) rfl rfl rfl d_Bullet_leave_24 (fun H locs Wd => ?_)
  refine lv_aload_n hx hb d_Bullet_leave_27 rfl (lv_at hl 0 rfl) ?_
  refine lv_aload_n hx hb d_Bullet_leave_28 rfl (lv_at hl 1 rfl) ?_
  refine kx_geti2 (k := 3) (i := i) (g 3 i 6) X Wd (ix3 hi) cell3 fg_Bullet_32 6 rfl (by decide) rfl (by simp [up3]) d_Bullet_leave_29 ?_
  refine kx_puti (k := 12) (i := k) (v := g 3 i 6) X Wd (ix12 hk) cell12 fp_Bullet_35 3 rfl (by decide) rfl rfl rfl d_Bullet_leave_32 (fun H locs Wd => ?_)
  refine lv_aload_n hx hb d_Bullet_leave_35 rfl (lv_at hl 0 rfl) ?_
  refine lv_iload_n hx hb d_Bullet_leave_36 rfl (lv_at hl 2 rfl) ?_
  refine kx_puti (k := 12) (i := k) (v := num) X Wd (ix12 hk) cell12 fp_Bullet_38 4 rfl (by decide) rfl rfl rfl d_Bullet_leave_37 (fun H locs Wd => ?_)
  exact kx_vret (u := up3 (up3 (up3 (up3 (up3 g 12 k 0 (g 3 i 3)) 12 k 1 (g 3 i 4)) 12 k 2 (g 10 i 3)) 12 k 3 (g 3 i 6)) 12 k 4 num) X Wd (by rw [g_leave]) d_Bullet_leave_40
abbrev RM_g_bgoOn : Room := { frames := 0, cells := 0, slots := 0, locals := 0 }
set_option maxHeartbeats 1000000 in
set_option maxRecDepth 100000 in
theorem k_g_bgoOn (l : Launch) (D : va_G) (cI cT cB : ClassId) (ad : Nat → Nat → Nat) (tX tY : Nat) (g : SG) (k : Nat) (hk : k < 16) (hh : rng (g 12 k 3) 8) : KV l y_Bullet_goOn b_Bullet_goOn 1 none RM_g_bgoOn D cI cT cB ad tX tY [.ref (ad 12 k)] g (fun (u : SG) => u = g_bgoOn g k) := by
  refine met_of (cc := b_Bullet_goOn) (nL := 1) (ret := none) (by decide) rfl (Nat.le_of_ble_eq_true rfl) ?_
  intro p e s m below meth c X hnm Wd ls hl
  have X := X.tt
  have hx := X.1
  have hb := X.2.1
  have hown := X.2.2.2.1
  have hts := X.2.2.2.2.1
  have hl : lv_has ls 1 [(0, .ref (ad 12 k))] := hl
  have Wd : WC D cI cT cB ad (va_A (gC cI cT cB ad g) s.heap.size) s.heap g s.heap [] := Wd
  obtain ⟨es, hs⟩ := rng_j hh (by decide)
  refine lv_aload_n hx hb d_Bullet_goOn_0 rfl (lv_at hl 0 rfl) ?_
  refine lv_dup hx hb d_Bullet_goOn_1 rfl ?_
  refine kx_geti (k := 12) (i := k) X Wd (ix12 hk) cell12 fg_Bullet_15 0 rfl (by decide) rfl d_Bullet_goOn_2 ?_
  refine kx_getsN (host := "TankArena") X Wd zX_in w_8da8d42f51 d_Bullet_goOn_5 ?_
  refine lv_aload_n hx hb d_Bullet_goOn_8 rfl (lv_at hl 0 rfl) ?_
  refine kx_geti (k := 12) (i := k) X Wd (ix12 hk) cell12 fg_Bullet_35 3 rfl (by decide) rfl d_Bullet_goOn_9 ?_
  refine kx_tald (z := zX tX) X Wd zX_in es hs (show (8 : Nat) < 2 ^ 31 by decide) d_Bullet_goOn_12 ?_
  refine lv_bipush (v := 8) hx hb d_Bullet_goOn_13 (by decide) ?_
  refine lv_imul hx hb d_Bullet_goOn_15 ?_
  refine lv_iadd hx hb d_Bullet_goOn_16 ?_
  refine kx_puti (k := 12) (i := k) (v := (g 12 k 0) + ((stepX ((g 12 k 3).toNatClampNeg)) * 8)) X Wd (ix12 hk) cell12 fp_Bullet_15 0 rfl (by decide) rfl rfl rfl d_Bullet_goOn_17 (fun H locs Wd => ?_)
  refine lv_aload_n hx hb d_Bullet_goOn_20 rfl (lv_at hl 0 rfl) ?_
  refine lv_dup hx hb d_Bullet_goOn_21 rfl ?_
  refine kx_geti2 (k := 12) (i := k) (g 12 k 1) X Wd (ix12 hk) cell12 fg_Bullet_21 1 rfl (by decide) rfl (by simp [up3]) d_Bullet_goOn_22 ?_
  refine kx_getsN (host := "TankArena") X Wd zY_in w_e2312545a6 d_Bullet_goOn_25 ?_
  refine lv_aload_n hx hb d_Bullet_goOn_28 rfl (lv_at hl 0 rfl) ?_
  refine kx_geti2 (k := 12) (i := k) (g 12 k 3) X Wd (ix12 hk) cell12 fg_Bullet_35 3 rfl (by decide) rfl (by simp [up3]) d_Bullet_goOn_29 ?_
  refine kx_tald (z := zY tY) X Wd zY_in es hs (show (8 : Nat) < 2 ^ 31 by decide) d_Bullet_goOn_32 ?_
  refine lv_bipush (v := 8) hx hb d_Bullet_goOn_33 (by decide) ?_
  refine lv_imul hx hb d_Bullet_goOn_35 ?_
  refine lv_iadd hx hb d_Bullet_goOn_36 ?_
  refine kx_puti (k := 12) (i := k) (v := (g 12 k 1) + ((stepY ((g 12 k 3).toNatClampNeg)) * 8)) X Wd (ix12 hk) cell12 fp_Bullet_21 1 rfl (by decide) rfl rfl rfl d_Bullet_goOn_37 (fun H locs Wd => ?_)
  exact kx_vret (u := up3 (up3 g 12 k 0 ((g 12 k 0) + ((stepX ((g 12 k 3).toNatClampNeg)) * 8))) 12 k 1 ((g 12 k 1) + ((stepY ((g 12 k 3).toNatClampNeg)) * 8))) X Wd (by rw [g_bgoOn]) d_Bullet_goOn_40
abbrev RM_f_inField : Room := { frames := 1, cells := 0, slots := 0, locals := 22 }
set_option maxHeartbeats 1000000 in
set_option maxRecDepth 100000 in
theorem k_f_inField (l : Launch) (D : va_G) (cI cT cB : ClassId) (ad : Nat → Nat → Nat) (tX tY : Nat) (g : SG) (k : Nat) (hk : k < 16) : KI l y_Bullet_isInField b_Bullet_isInField 1 (some .boolean) RM_f_inField D cI cT cB ad tX tY [.ref (ad 12 k)] g (fun (r : Int32) (u : SG) => r = f_inField g k ∧ u = g) := by
  refine met_of (cc := b_Bullet_isInField) (nL := 1) (ret := (some .boolean)) (by decide) rfl (Nat.le_of_ble_eq_true rfl) ?_
  intro p e s m below meth c X hnm Wd ls hl
  have X := X.tt
  have hx := X.1
  have hb := X.2.1
  have hown := X.2.2.2.1
  have hts := X.2.2.2.2.1
  have hl : lv_has ls 1 [(0, .ref (ad 12 k))] := hl
  have Wd : WC D cI cT cB ad (va_A (gC cI cT cB ad g) s.heap.size) s.heap g s.heap [] := Wd
  refine lv_aload_n hx hb d_Bullet_isInField_0 rfl (lv_at hl 0 rfl) ?_
  refine kx_geti (k := 12) (i := k) X Wd (ix12 hk) cell12 fg_Bullet_15 0 rfl (by decide) rfl d_Bullet_isInField_1 ?_
  refine lv_iconst (v := 0) hx hb d_Bullet_isInField_4 (by decide) ?_
  refine lv_sipush (v := 512) hx hb d_Bullet_isInField_5 (by decide) ?_
  refine kc_Ni (As := [.int (g 12 k 0), .int 0, .int 512]) [] X Wd (k_f_within l D cI cT cB ad tX tY g (g 12 k 0) 0 512) cN_Bullet_48 rfl rfl hl.1 ⟨rfl, rfl⟩ ⟨Nat.le_of_ble_eq_true rfl, Nat.le_of_ble_eq_true rfl⟩ (Nat.le_of_ble_eq_true rfl) ⟨Nat.zero_le _, Nat.zero_le _⟩ d_Bullet_isInField_8 (fun r u H locs hp Wd => ?_)
  obtain ⟨hr, hu⟩ := hp
  rw [hu] at Wd
  rw [hr]
  clear hr hu
  refine lv_if_eq (tgt := 32) hx hb d_Bullet_isInField_11 (by decide) (fun c_1 => ?_) (fun c_1 => ?_)
  · skip
    refine lv_iconst (v := 0) hx hb d_Bullet_isInField_32 (by decide) ?_
    exact kx_iret (u := g) X rfl Wd ⟨by rw [f_inField, if_pos c_1], rfl⟩ d_Bullet_isInField_33
  · skip
    refine lv_aload_n hx hb d_Bullet_isInField_14 rfl (lv_at hl 0 rfl) ?_
    refine kx_geti (k := 12) (i := k) X Wd (ix12 hk) cell12 fg_Bullet_21 1 rfl (by decide) rfl d_Bullet_isInField_15 ?_
    refine lv_iconst (v := 0) hx hb d_Bullet_isInField_18 (by decide) ?_
    refine lv_sipush (v := 512) hx hb d_Bullet_isInField_19 (by decide) ?_
    refine kc_Ni (As := [.int (g 12 k 1), .int 0, .int 512]) [] X Wd (k_f_within l D cI cT cB ad tX tY g (g 12 k 1) 0 512) cN_Bullet_48 rfl rfl hl.1 ⟨rfl, rfl⟩ ⟨Nat.le_of_ble_eq_true rfl, Nat.le_of_ble_eq_true rfl⟩ (Nat.le_of_ble_eq_true rfl) ⟨Nat.zero_le _, Nat.zero_le _⟩ d_Bullet_isInField_22 (fun r u H locs hp Wd => ?_)
    obtain ⟨hr, hu⟩ := hp
    rw [hu] at Wd
    rw [hr]
    clear hr hu
    refine lv_if_eq (tgt := 32) hx hb d_Bullet_isInField_25 (by decide) (fun c_2 => ?_) (fun c_2 => ?_)
    · skip
      refine lv_iconst (v := 0) hx hb d_Bullet_isInField_32 (by decide) ?_
      exact kx_iret (u := g) X rfl Wd ⟨by rw [f_inField, if_neg c_1, if_pos c_2], rfl⟩ d_Bullet_isInField_33
    · skip
      refine lv_iconst (v := 1) hx hb d_Bullet_isInField_28 (by decide) ?_
      refine lv_goto (tgt := 33) hx hb d_Bullet_isInField_29 (by decide) ?_
      exact kx_iret (u := g) X rfl Wd ⟨by rw [f_inField, if_neg c_1, if_neg c_2], rfl⟩ d_Bullet_isInField_33
abbrev RM_f_damage : Room := { frames := 0, cells := 0, slots := 0, locals := 0 }
set_option maxHeartbeats 1000000 in
set_option maxRecDepth 100000 in
theorem k_f_damage (l : Launch) (D : va_G) (cI cT cB : ClassId) (ad : Nat → Nat → Nat) (tX tY : Nat) (g : SG) (k : Nat) (hk : k < 16) : KI l y_Bullet_damage b_Bullet_damage 1 (some .int) RM_f_damage D cI cT cB ad tX tY [.ref (ad 12 k)] g (fun (r : Int32) (u : SG) => r = f_damage g k ∧ u = g) := by
  refine met_of (cc := b_Bullet_damage) (nL := 1) (ret := (some .int)) (by decide) rfl (Nat.le_of_ble_eq_true rfl) ?_
  intro p e s m below meth c X hnm Wd ls hl
  have X := X.tt
  have hx := X.1
  have hb := X.2.1
  have hown := X.2.2.2.1
  have hts := X.2.2.2.2.1
  have hl : lv_has ls 1 [(0, .ref (ad 12 k))] := hl
  have Wd : WC D cI cT cB ad (va_A (gC cI cT cB ad g) s.heap.size) s.heap g s.heap [] := Wd
  refine lv_iconst (v := 4) hx hb d_Bullet_damage_0 (by decide) ?_
  refine lv_aload_n hx hb d_Bullet_damage_1 rfl (lv_at hl 0 rfl) ?_
  refine kx_geti (k := 12) (i := k) X Wd (ix12 hk) cell12 fg_Bullet_31 2 rfl (by decide) rfl d_Bullet_damage_2 ?_
  refine lv_imul hx hb d_Bullet_damage_5 ?_
  refine lv_iconst (v := 2) hx hb d_Bullet_damage_6 (by decide) ?_
  refine lv_aload_n hx hb d_Bullet_damage_7 rfl (lv_at hl 0 rfl) ?_
  refine kx_geti (k := 12) (i := k) X Wd (ix12 hk) cell12 fg_Bullet_31 2 rfl (by decide) rfl d_Bullet_damage_8 ?_
  refine lv_iconst (v := 1) hx hb d_Bullet_damage_11 (by decide) ?_
  refine lv_isub hx hb d_Bullet_damage_12 ?_
  refine lv_imul hx hb d_Bullet_damage_13 ?_
  refine lv_iadd hx hb d_Bullet_damage_14 ?_
  refine lv_bipush (v := 8) hx hb d_Bullet_damage_15 (by decide) ?_
  refine lv_imul hx hb d_Bullet_damage_17 ?_
  exact kx_iret (u := g) X rfl Wd ⟨by rw [f_damage], rfl⟩ d_Bullet_damage_18
abbrev RM_f_btold : Room := { frames := 0, cells := 0, slots := 0, locals := 0 }
set_option maxHeartbeats 1000000 in
set_option maxRecDepth 100000 in
theorem k_f_btold (l : Launch) (D : va_G) (cI cT cB : ClassId) (ad : Nat → Nat → Nat) (tX tY : Nat) (g : SG) (k : Nat) (hk : k < 16) (what : Int32) : KI l y_Bullet_told b_Bullet_told 2 (some .int) RM_f_btold D cI cT cB ad tX tY [.ref (ad 12 k), .int what] g (fun (r : Int32) (u : SG) => r = f_btold g k what ∧ u = g) := by
  refine met_of (cc := b_Bullet_told) (nL := 2) (ret := (some .int)) (by decide) rfl (Nat.le_of_ble_eq_true rfl) ?_
  intro p e s m below meth c X hnm Wd ls hl
  have X := X.tt
  have hx := X.1
  have hb := X.2.1
  have hown := X.2.2.2.1
  have hts := X.2.2.2.2.1
  have hl : lv_has ls 2 [(0, .ref (ad 12 k)), (1, .int what)] := hl
  have Wd : WC D cI cT cB ad (va_A (gC cI cT cB ad g) s.heap.size) s.heap g s.heap [] := Wd
  refine lv_iload_n hx hb d_Bullet_told_0 rfl (lv_at hl 1 rfl) ?_
  by_cases c_1 : what = 0
  · skip
    refine lv_tableIn (tgt := 36) hx hb d_Bullet_told_1 (by rw [c_1]; decide) (by rw [c_1]; decide) (by rw [c_1]; rfl) (by decide) ?_
    refine lv_aload_n hx hb d_Bullet_told_36 rfl (lv_at hl 0 rfl) ?_
    refine kx_geti (k := 12) (i := k) X Wd (ix12 hk) cell12 fg_Bullet_15 0 rfl (by decide) rfl d_Bullet_told_37 ?_
    exact kx_iret (u := g) X rfl Wd ⟨by rw [f_btold, if_pos c_1], rfl⟩ d_Bullet_told_40
  by_cases c_2 : what = 1
  · skip
    refine lv_tableIn (tgt := 41) hx hb d_Bullet_told_1 (by rw [c_2]; decide) (by rw [c_2]; decide) (by rw [c_2]; rfl) (by decide) ?_
    refine lv_aload_n hx hb d_Bullet_told_41 rfl (lv_at hl 0 rfl) ?_
    refine kx_geti (k := 12) (i := k) X Wd (ix12 hk) cell12 fg_Bullet_21 1 rfl (by decide) rfl d_Bullet_told_42 ?_
    exact kx_iret (u := g) X rfl Wd ⟨by rw [f_btold, if_neg c_1, if_pos c_2], rfl⟩ d_Bullet_told_45
  by_cases c_3 : what = 2
  · skip
    refine lv_tableIn (tgt := 46) hx hb d_Bullet_told_1 (by rw [c_3]; decide) (by rw [c_3]; decide) (by rw [c_3]; rfl) (by decide) ?_
    refine lv_aload_n hx hb d_Bullet_told_46 rfl (lv_at hl 0 rfl) ?_
    refine kx_geti (k := 12) (i := k) X Wd (ix12 hk) cell12 fg_Bullet_31 2 rfl (by decide) rfl d_Bullet_told_47 ?_
    exact kx_iret (u := g) X rfl Wd ⟨by rw [f_btold, if_neg c_1, if_neg c_2, if_pos c_3], rfl⟩ d_Bullet_told_50
  by_cases c_4 : what = 3
  · skip
    refine lv_tableIn (tgt := 51) hx hb d_Bullet_told_1 (by rw [c_4]; decide) (by rw [c_4]; decide) (by rw [c_4]; rfl) (by decide) ?_
    refine lv_aload_n hx hb d_Bullet_told_51 rfl (lv_at hl 0 rfl) ?_
    refine kx_geti (k := 12) (i := k) X Wd (ix12 hk) cell12 fg_Bullet_35 3 rfl (by decide) rfl d_Bullet_told_52 ?_
    exact kx_iret (u := g) X rfl Wd ⟨by rw [f_btold, if_neg c_1, if_neg c_2, if_neg c_3, if_pos c_4], rfl⟩ d_Bullet_told_55
  by_cases c_5 : what = 4
  · skip
    refine lv_tableIn (tgt := 56) hx hb d_Bullet_told_1 (by rw [c_5]; decide) (by rw [c_5]; decide) (by rw [c_5]; rfl) (by decide) ?_
    refine lv_aload_n hx hb d_Bullet_told_56 rfl (lv_at hl 0 rfl) ?_
    refine kx_geti (k := 12) (i := k) X Wd (ix12 hk) cell12 fg_Bullet_38 4 rfl (by decide) rfl d_Bullet_told_57 ?_
    exact kx_iret (u := g) X rfl Wd ⟨by rw [f_btold, if_neg c_1, if_neg c_2, if_neg c_3, if_neg c_4, if_pos c_5], rfl⟩ d_Bullet_told_60
  refine lv_tableOut (tgt := 61) hx hb d_Bullet_told_1 (by have q0 := neI (0) rfl c_1; have q1 := neI (1) rfl c_2; have q2 := neI (2) rfl c_3; have q3 := neI (3) rfl c_4; have q4 := neI (4) rfl c_5; omega) (by decide) ?_
  refine lv_ldc (v := -1000000) hx hb hown (hts _ w_2430a6b578) d_Bullet_told_61 ?_
  exact kx_iret (u := g) X rfl Wd ⟨by rw [f_btold, if_neg c_1, if_neg c_2, if_neg c_3, if_neg c_4, if_neg c_5], rfl⟩ d_Bullet_told_63
