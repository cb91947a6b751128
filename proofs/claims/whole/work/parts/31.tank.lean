/-! CONTRACTS (printed by gen/all.py) -/
abbrev RM_f_disabled : Room := { frames := 0, cells := 0, slots := 0, locals := 0 }
set_option maxHeartbeats 1000000 in
set_option maxRecDepth 100000 in
theorem k_f_disabled (l : Launch) (D : va_G) (cI cT cB : ClassId) (ad : Nat → Nat → Nat) (tX tY : Nat) (g : SG) (i : Nat) (hi : i < 4) : KI l y_Tank_isDisabled b_Tank_isDisabled 1 (some .boolean) RM_f_disabled D cI cT cB ad tX tY [.ref (ad 3 i)] g (fun (r : Int32) (u : SG) => r = f_disabled g i ∧ u = g) := by
  refine met_of (cc := b_Tank_isDisabled) (nL := 1) (ret := (some .boolean)) (by decide) rfl (Nat.le_of_ble_eq_true rfl) ?_
  intro p e s m below meth c X hnm Wd ls hl
  have X := X.tt
  have hx := X.1
  have hb := X.2.1
  have hown := X.2.2.2.1
  have hts := X.2.2.2.2.1
  have hl : lv_has ls 1 [(0, .ref (ad 3 i))] := hl
  have Wd : WC D cI cT cB ad (va_A (gC cI cT cB ad g) s.heap.size) s.heap g s.heap [] := Wd
  refine lv_aload_n hx hb d_Tank_isDisabled_0 rfl (lv_at hl 0 rfl) ?_
  refine kx_get (k := 3) (i := i) (v := .ref (ad 8 i)) X Wd (ix3 hi) rfl fg_Tank_21 rfl d_Tank_isDisabled_1 ?_
  refine kx_geti (k := 8) (i := i) X Wd (ix8 hi) cell8 fg_Tank_91 1 rfl (by decide) rfl d_Tank_isDisabled_4 ?_
  refine lv_iconst (v := 3) hx hb d_Tank_isDisabled_7 (by decide) ?_
  refine lv_icmp_lt (tgt := 15) hx hb d_Tank_isDisabled_8 (by decide) (fun c_1 => ?_) (fun c_1 => ?_)
  · skip
    refine lv_iconst (v := 0) hx hb d_Tank_isDisabled_15 (by decide) ?_
    exact kx_iret (u := g) X rfl Wd ⟨by rw [f_disabled, if_pos c_1], rfl⟩ d_Tank_isDisabled_16
  · skip
    refine lv_iconst (v := 1) hx hb d_Tank_isDisabled_11 (by decide) ?_
    refine lv_goto (tgt := 16) hx hb d_Tank_isDisabled_12 (by decide) ?_
    exact kx_iret (u := g) X rfl Wd ⟨by rw [f_disabled, if_neg c_1], rfl⟩ d_Tank_isDisabled_16
abbrev RM_f_canFire : Room := { frames := 0, cells := 0, slots := 0, locals := 0 }
set_option maxHeartbeats 1000000 in
set_option maxRecDepth 100000 in
theorem k_f_canFire (l : Launch) (D : va_G) (cI cT cB : ClassId) (ad : Nat → Nat → Nat) (tX tY : Nat) (g : SG) (i : Nat) (hi : i < 4) : KI l y_Tank_canFire b_Tank_canFire 1 (some .boolean) RM_f_canFire D cI cT cB ad tX tY [.ref (ad 3 i)] g (fun (r : Int32) (u : SG) => r = f_canFire g i ∧ u = g) := by
  refine met_of (cc := b_Tank_canFire) (nL := 1) (ret := (some .boolean)) (by decide) rfl (Nat.le_of_ble_eq_true rfl) ?_
  intro p e s m below meth c X hnm Wd ls hl
  have X := X.tt
  have hx := X.1
  have hb := X.2.1
  have hown := X.2.2.2.1
  have hts := X.2.2.2.2.1
  have hl : lv_has ls 1 [(0, .ref (ad 3 i))] := hl
  have Wd : WC D cI cT cB ad (va_A (gC cI cT cB ad g) s.heap.size) s.heap g s.heap [] := Wd
  refine lv_aload_n hx hb d_Tank_canFire_0 rfl (lv_at hl 0 rfl) ?_
  refine kx_get (k := 3) (i := i) (v := .ref (ad 10 i)) X Wd (ix3 hi) rfl fg_Tank_28 rfl d_Tank_canFire_1 ?_
  refine kx_geti (k := 10) (i := i) X Wd (ix10 hi) cell10 fg_Tank_94 3 rfl (by decide) rfl d_Tank_canFire_4 ?_
  refine lv_if_le (tgt := 38) hx hb d_Tank_canFire_7 (by decide) (fun c_1 => ?_) (fun c_1 => ?_)
  · skip
    refine lv_iconst (v := 0) hx hb d_Tank_canFire_38 (by decide) ?_
    exact kx_iret (u := g) X rfl Wd ⟨by rw [f_canFire, if_pos c_1], rfl⟩ d_Tank_canFire_39
  · skip
    refine lv_aload_n hx hb d_Tank_canFire_10 rfl (lv_at hl 0 rfl) ?_
    refine kx_geti (k := 3) (i := i) X Wd (ix3 hi) cell3 fg_Tank_76 11 rfl (by decide) rfl d_Tank_canFire_11 ?_
    refine lv_if_ne (tgt := 38) hx hb d_Tank_canFire_14 (by decide) (fun c_2 => ?_) (fun c_2 => ?_)
    · skip
      refine lv_iconst (v := 0) hx hb d_Tank_canFire_38 (by decide) ?_
      exact kx_iret (u := g) X rfl Wd ⟨by rw [f_canFire, if_neg c_1, if_neg c_2], rfl⟩ d_Tank_canFire_39
    · skip
      refine lv_aload_n hx hb d_Tank_canFire_17 rfl (lv_at hl 0 rfl) ?_
      refine kx_geti (k := 3) (i := i) X Wd (ix3 hi) cell3 fg_Tank_73 10 rfl (by decide) rfl d_Tank_canFire_18 ?_
      refine lv_aload_n hx hb d_Tank_canFire_21 rfl (lv_at hl 0 rfl) ?_
      refine kx_get (k := 3) (i := i) (v := .ref (ad 10 i)) X Wd (ix3 hi) rfl fg_Tank_28 rfl d_Tank_canFire_22 ?_
      refine kx_geti (k := 10) (i := i) X Wd (ix10 hi) cell10 fg_Tank_94 3 rfl (by decide) rfl d_Tank_canFire_25 ?_
      refine lv_bipush (v := 8) hx hb d_Tank_canFire_28 (by decide) ?_
      refine lv_imul hx hb d_Tank_canFire_30 ?_
      refine lv_icmp_le (tgt := 38) hx hb d_Tank_canFire_31 (by decide) (fun c_3 => ?_) (fun c_3 => ?_)
      · skip
        refine lv_iconst (v := 0) hx hb d_Tank_canFire_38 (by decide) ?_
        exact kx_iret (u := g) X rfl Wd ⟨by rw [f_canFire, if_neg c_1, if_pos c_2, if_pos c_3], rfl⟩ d_Tank_canFire_39
      · skip
        refine lv_iconst (v := 1) hx hb d_Tank_canFire_34 (by decide) ?_
        refine lv_goto (tgt := 39) hx hb d_Tank_canFire_35 (by decide) ?_
        exact kx_iret (u := g) X rfl Wd ⟨by rw [f_canFire, if_neg c_1, if_pos c_2, if_neg c_3], rfl⟩ d_Tank_canFire_39
abbrev RM_g_obeyTurns : Room := { frames := 2, cells := 0, slots := 0, locals := 43 }
set_option maxHeartbeats 1000000 in
set_option maxRecDepth 100000 in
theorem k_g_obeyTurns (l : Launch) (D : va_G) (cI cT cB : ClassId) (ad : Nat → Nat → Nat) (tX tY : Nat) (g : SG) (i : Nat) (hi : i < 4) : KV l y_Tank_obeyTurns b_Tank_obeyTurns 1 none RM_g_obeyTurns D cI cT cB ad tX tY [.ref (ad 3 i)] g (fun (u : SG) => u = g_obeyTurns g i) := by
  refine met_of (cc := b_Tank_obeyTurns) (nL := 1) (ret := none) (by decide) rfl (Nat.le_of_ble_eq_true rfl) ?_
  intro p e s m below meth c X hnm Wd ls hl
  have X := X.tt
  have hx := X.1
  have hb := X.2.1
  have hown := X.2.2.2.1
  have hts := X.2.2.2.2.1
  have hl : lv_has ls 1 [(0, .ref (ad 3 i))] := hl
  have Wd : WC D cI cT cB ad (va_A (gC cI cT cB ad g) s.heap.size) s.heap g s.heap [] := Wd
  refine lv_aload_n hx hb d_Tank_obeyTurns_0 rfl (lv_at hl 0 rfl) ?_
  refine kx_geti (k := 3) (i := i) X Wd (ix3 hi) cell3 fg_Tank_67 8 rfl (by decide) rfl d_Tank_obeyTurns_1 ?_
  refine lv_bipush (v := 16) hx hb d_Tank_obeyTurns_4 (by decide) ?_
  refine lv_icmp_gt (tgt := 27) hx hb d_Tank_obeyTurns_6 (by decide) (fun c_1 => ?_) (fun c_1 => ?_)
  · skip
    refine lv_aload_n hx hb d_Tank_obeyTurns_27 rfl (lv_at hl 0 rfl) ?_
    refine lv_aload_n hx hb d_Tank_obeyTurns_28 rfl (lv_at hl 0 rfl) ?_
    refine kx_geti (k := 3) (i := i) X Wd (ix3 hi) cell3 fg_Tank_61 6 rfl (by decide) rfl d_Tank_obeyTurns_29 ?_
    refine lv_aload_n hx hb d_Tank_obeyTurns_32 rfl (lv_at hl 0 rfl) ?_
    refine kx_get (k := 3) (i := i) (v := .ref (ad 10 i)) X Wd (ix3 hi) rfl fg_Tank_28 rfl d_Tank_obeyTurns_33 ?_
    refine kx_geti (k := 10) (i := i) X Wd (ix10 hi) cell10 fg_Tank_102 1 rfl (by decide) rfl d_Tank_obeyTurns_36 ?_
    refine kc_Ni (As := [.int (g 3 i 6), .int (g 10 i 1)]) [.ref (ad 3 i)] X Wd (k_f_turned l D cI cT cB ad tX tY g (g 3 i 6) (g 10 i 1)) cN_Tank_98 rfl rfl hl.1 ⟨rfl, rfl⟩ ⟨Nat.le_of_ble_eq_true rfl, Nat.le_of_ble_eq_true rfl⟩ (Nat.le_of_ble_eq_true rfl) ⟨Nat.zero_le _, Nat.zero_le _⟩ d_Tank_obeyTurns_39 (fun r u H locs hp Wd => ?_)
    obtain ⟨hr, hu⟩ := hp
    rw [hu] at Wd
    rw [hr]
    clear hr hu
    refine kx_puti (k := 3) (i := i) (v := f_turned (g 3 i 6) (g 10 i 1)) X Wd (ix3 hi) cell3 fp_Tank_61 6 rfl (by decide) rfl rfl rfl d_Tank_obeyTurns_42 (fun H locs Wd => ?_)
    refine lv_aload_n hx hb d_Tank_obeyTurns_45 rfl (lv_at hl 0 rfl) ?_
    refine lv_aload_n hx hb d_Tank_obeyTurns_46 rfl (lv_at hl 0 rfl) ?_
    refine kx_geti2 (k := 3) (i := i) (g 3 i 7) X Wd (ix3 hi) cell3 fg_Tank_64 7 rfl (by decide) rfl (by simp [up3]) d_Tank_obeyTurns_47 ?_
    refine lv_aload_n hx hb d_Tank_obeyTurns_50 rfl (lv_at hl 0 rfl) ?_
    refine kx_get (k := 3) (i := i) (v := .ref (ad 10 i)) X Wd (ix3 hi) rfl fg_Tank_28 rfl d_Tank_obeyTurns_51 ?_
    refine kx_geti2 (k := 10) (i := i) (g 10 i 2) X Wd (ix10 hi) cell10 fg_Tank_103 2 rfl (by decide) rfl (by simp [up3]) d_Tank_obeyTurns_54 ?_
    refine kc_Ni (As := [.int (g 3 i 7), .int (g 10 i 2)]) [.ref (ad 3 i)] X Wd (k_f_turned l D cI cT cB ad tX tY (up3 g 3 i 6 (f_turned (g 3 i 6) (g 10 i 1))) (g 3 i 7) (g 10 i 2)) cN_Tank_98 rfl rfl hl.1 ⟨rfl, rfl⟩ ⟨Nat.le_of_ble_eq_true rfl, Nat.le_of_ble_eq_true rfl⟩ (Nat.le_of_ble_eq_true rfl) ⟨Nat.zero_le _, Nat.zero_le _⟩ d_Tank_obeyTurns_57 (fun r u H locs hp Wd => ?_)
    obtain ⟨hr, hu⟩ := hp
    rw [hu] at Wd
    rw [hr]
    clear hr hu
    refine kx_puti (k := 3) (i := i) (v := f_turned (g 3 i 7) (g 10 i 2)) X Wd (ix3 hi) cell3 fp_Tank_64 7 rfl (by decide) rfl rfl rfl d_Tank_obeyTurns_60 (fun H locs Wd => ?_)
    exact kx_vret (u := up3 (up3 g 3 i 6 (f_turned (g 3 i 6) (g 10 i 1))) 3 i 7 (f_turned (g 3 i 7) (g 10 i 2))) X Wd (by rw [g_obeyTurns, if_pos c_1]) d_Tank_obeyTurns_63
  · skip
    refine lv_aload_n hx hb d_Tank_obeyTurns_9 rfl (lv_at hl 0 rfl) ?_
    refine lv_aload_n hx hb d_Tank_obeyTurns_10 rfl (lv_at hl 0 rfl) ?_
    refine kx_geti (k := 3) (i := i) X Wd (ix3 hi) cell3 fg_Tank_58 5 rfl (by decide) rfl d_Tank_obeyTurns_11 ?_
    refine lv_aload_n hx hb d_Tank_obeyTurns_14 rfl (lv_at hl 0 rfl) ?_
    refine kx_get (k := 3) (i := i) (v := .ref (ad 10 i)) X Wd (ix3 hi) rfl fg_Tank_28 rfl d_Tank_obeyTurns_15 ?_
    refine kx_geti (k := 10) (i := i) X Wd (ix10 hi) cell10 fg_Tank_97 0 rfl (by decide) rfl d_Tank_obeyTurns_18 ?_
    refine kc_Ni (As := [.int (g 3 i 5), .int (g 10 i 0)]) [.ref (ad 3 i)] X Wd (k_f_turned l D cI cT cB ad tX tY g (g 3 i 5) (g 10 i 0)) cN_Tank_98 rfl rfl hl.1 ⟨rfl, rfl⟩ ⟨Nat.le_of_ble_eq_true rfl, Nat.le_of_ble_eq_true rfl⟩ (Nat.le_of_ble_eq_true rfl) ⟨Nat.zero_le _, Nat.zero_le _⟩ d_Tank_obeyTurns_21 (fun r u H locs hp Wd => ?_)
    obtain ⟨hr, hu⟩ := hp
    rw [hu] at Wd
    rw [hr]
    clear hr hu
    refine kx_puti (k := 3) (i := i) (v := f_turned (g 3 i 5) (g 10 i 0)) X Wd (ix3 hi) cell3 fp_Tank_58 5 rfl (by decide) rfl rfl rfl d_Tank_obeyTurns_24 (fun H locs Wd => ?_)
    refine lv_aload_n hx hb d_Tank_obeyTurns_27 rfl (lv_at hl 0 rfl) ?_
    refine lv_aload_n hx hb d_Tank_obeyTurns_28 rfl (lv_at hl 0 rfl) ?_
    refine kx_geti2 (k := 3) (i := i) (g 3 i 6) X Wd (ix3 hi) cell3 fg_Tank_61 6 rfl (by decide) rfl (by simp [up3]) d_Tank_obeyTurns_29 ?_
    refine lv_aload_n hx hb d_Tank_obeyTurns_32 rfl (lv_at hl 0 rfl) ?_
    refine kx_get (k := 3) (i := i) (v := .ref (ad 10 i)) X Wd (ix3 hi) rfl fg_Tank_28 rfl d_Tank_obeyTurns_33 ?_
    refine kx_geti2 (k := 10) (i := i) (g 10 i 1) X Wd (ix10 hi) cell10 fg_Tank_102 1 rfl (by decide) rfl (by simp [up3]) d_Tank_obeyTurns_36 ?_
    refine kc_Ni (As := [.int (g 3 i 6), .int (g 10 i 1)]) [.ref (ad 3 i)] X Wd (k_f_turned l D cI cT cB ad tX tY (up3 g 3 i 5 (f_turned (g 3 i 5) (g 10 i 0))) (g 3 i 6) (g 10 i 1)) cN_Tank_98 rfl rfl hl.1 ⟨rfl, rfl⟩ ⟨Nat.le_of_ble_eq_true rfl, Nat.le_of_ble_eq_true rfl⟩ (Nat.le_of_ble_eq_true rfl) ⟨Nat.zero_le _, Nat.zero_le _⟩ d_Tank_obeyTurns_39 (fun r u H locs hp Wd => ?_)
    obtain ⟨hr, hu⟩ := hp
    rw [hu] at Wd
    rw [hr]
    clear hr hu
    refine kx_puti (k := 3) (i := i) (v := f_turned (g 3 i 6) (g 10 i 1)) X Wd (ix3 hi) cell3 fp_Tank_61 6 rfl (by decide) rfl rfl rfl d_Tank_obeyTurns_42 (fun H locs Wd => ?_)
    refine lv_aload_n hx hb d_Tank_obeyTurns_45 rfl (lv_at hl 0 rfl) ?_
    refine lv_aload_n hx hb d_Tank_obeyTurns_46 rfl (lv_at hl 0 rfl) ?_
    refine kx_geti2 (k := 3) (i := i) (g 3 i 7) X Wd (ix3 hi) cell3 fg_Tank_64 7 rfl (by decide) rfl (by simp [up3]) d_Tank_obeyTurns_47 ?_
    refine lv_aload_n hx hb d_Tank_obeyTurns_50 rfl (lv_at hl 0 rfl) ?_
    refine kx_get (k := 3) (i := i) (v := .ref (ad 10 i)) X Wd (ix3 hi) rfl fg_Tank_28 rfl d_Tank_obeyTurns_51 ?_
    refine kx_geti2 (k := 10) (i := i) (g 10 i 2) X Wd (ix10 hi) cell10 fg_Tank_103 2 rfl (by decide) rfl (by simp [up3]) d_Tank_obeyTurns_54 ?_
    refine kc_Ni (As := [.int (g 3 i 7), .int (g 10 i 2)]) [.ref (ad 3 i)] X Wd (k_f_turned l D cI cT cB ad tX tY (up3 (up3 g 3 i 5 (f_turned (g 3 i 5) (g 10 i 0))) 3 i 6 (f_turned (g 3 i 6) (g 10 i 1))) (g 3 i 7) (g 10 i 2)) cN_Tank_98 rfl rfl hl.1 ⟨rfl, rfl⟩ ⟨Nat.le_of_ble_eq_true rfl, Nat.le_of_ble_eq_true rfl⟩ (Nat.le_of_ble_eq_true rfl) ⟨Nat.zero_le _, Nat.zero_le _⟩ d_Tank_obeyTurns_57 (fun r u H locs hp Wd => ?_)
    obtain ⟨hr, hu⟩ := hp
    rw [hu] at Wd
    rw [hr]
    clear hr hu
    refine kx_puti (k := 3) (i := i) (v := f_turned (g 3 i 7) (g 10 i 2)) X Wd (ix3 hi) cell3 fp_Tank_64 7 rfl (by decide) rfl rfl rfl d_Tank_obeyTurns_60 (fun H locs Wd => ?_)
    exact kx_vret (u := up3 (up3 (up3 g 3 i 5 (f_turned (g 3 i 5) (g 10 i 0))) 3 i 6 (f_turned (g 3 i 6) (g 10 i 1))) 3 i 7 (f_turned (g 3 i 7) (g 10 i 2))) X Wd (by rw [g_obeyTurns, if_neg c_1]) d_Tank_obeyTurns_63
abbrev RM_g_changeSpeed : Room := { frames := 1, cells := 0, slots := 0, locals := 21 }
set_option maxHeartbeats 1000000 in
set_option maxRecDepth 100000 in
theorem k_g_changeSpeed (l : Launch) (D : va_G) (cI cT cB : ClassId) (ad : Nat → Nat → Nat) (tX tY : Nat) (g : SG) (i : Nat) (hi : i < 4) : KV l y_Tank_changeSpeed b_Tank_changeSpeed 2 none RM_g_changeSpeed D cI cT cB ad tX tY [.ref (ad 3 i)] g (fun (u : SG) => u = g_changeSpeed g i) := by
  refine met_of (cc := b_Tank_changeSpeed) (nL := 2) (ret := none) (by decide) rfl (Nat.le_of_ble_eq_true rfl) ?_
  intro p e s m below meth c X hnm Wd ls hl
  have X := X.tt
  have hx := X.1
  have hb := X.2.1
  have hown := X.2.2.2.1
  have hts := X.2.2.2.2.1
  have hl : lv_has ls 2 [(0, .ref (ad 3 i))] := hl
  have Wd : WC D cI cT cB ad (va_A (gC cI cT cB ad g) s.heap.size) s.heap g s.heap [] := Wd
  refine lv_aload_n hx hb d_Tank_changeSpeed_0 rfl (lv_at hl 0 rfl) ?_
  refine kc_Vi (As := []) [] X Wd (k_f_disabled l D cI cT cB ad tX tY g i hi) cV_Tank_104 (kx_recv (k := 3) (i := i) X Wd (ix3 hi) rfl rfl) rfl rfl hl.1 ⟨rfl, rfl⟩ ⟨Nat.le_of_ble_eq_true rfl, Nat.le_of_ble_eq_true rfl⟩ (Nat.le_of_ble_eq_true rfl) ⟨Nat.zero_le _, Nat.zero_le _⟩ d_Tank_changeSpeed_1 (fun r u H locs hp Wd => ?_)
  obtain ⟨hr, hu⟩ := hp
  rw [hu] at Wd
  rw [hr]
  clear hr hu
  refine lv_if_eq (tgt := 11) hx hb d_Tank_changeSpeed_4 (by decide) (fun c_1 => ?_) (fun c_1 => ?_)
  · skip
    refine lv_aload_n hx hb d_Tank_changeSpeed_11 rfl (lv_at hl 0 rfl) ?_
    refine kx_geti (k := 3) (i := i) X Wd (ix3 hi) cell3 fg_Tank_70 9 rfl (by decide) rfl d_Tank_changeSpeed_12 ?_
    refine lv_istore_n (lv' := [(1, .int (g 3 i 9)), (0, .ref (ad 3 i))]) hx hb d_Tank_changeSpeed_15 rfl hl (by decide) rfl (fun ls hl => ?_)
    refine lv_iload_n hx hb d_Tank_changeSpeed_16 rfl (lv_at hl 0 rfl) ?_
    refine lv_aload_n hx hb d_Tank_changeSpeed_17 rfl (lv_at hl 1 rfl) ?_
    refine kx_geti (k := 3) (i := i) X Wd (ix3 hi) cell3 fg_Tank_67 8 rfl (by decide) rfl d_Tank_changeSpeed_18 ?_
    refine lv_icmp_le (tgt := 37) hx hb d_Tank_changeSpeed_21 (by decide) (fun c_2 => ?_) (fun c_2 => ?_)
    · skip
      refine lv_iload_n hx hb d_Tank_changeSpeed_37 rfl (lv_at hl 0 rfl) ?_
      refine lv_aload_n hx hb d_Tank_changeSpeed_38 rfl (lv_at hl 1 rfl) ?_
      refine kx_geti (k := 3) (i := i) X Wd (ix3 hi) cell3 fg_Tank_67 8 rfl (by decide) rfl d_Tank_changeSpeed_39 ?_
      refine lv_icmp_ge (tgt := 60) hx hb d_Tank_changeSpeed_42 (by decide) (fun c_3 => ?_) (fun c_3 => ?_)
      · skip
        exact kx_vret (u := g) X Wd (by rw [g_changeSpeed, if_pos c_1, if_pos c_2, if_pos c_3]) d_Tank_changeSpeed_60
      · skip
        refine lv_aload_n hx hb d_Tank_changeSpeed_45 rfl (lv_at hl 1 rfl) ?_
        refine lv_aload_n hx hb d_Tank_changeSpeed_46 rfl (lv_at hl 1 rfl) ?_
        refine kx_geti (k := 3) (i := i) X Wd (ix3 hi) cell3 fg_Tank_67 8 rfl (by decide) rfl d_Tank_changeSpeed_47 ?_
        refine lv_bipush (v := 8) hx hb d_Tank_changeSpeed_50 (by decide) ?_
        refine lv_isub hx hb d_Tank_changeSpeed_52 ?_
        refine lv_iload_n hx hb d_Tank_changeSpeed_53 rfl (lv_at hl 0 rfl) ?_
        refine kx_max X mmax_Tank_108 hl.1 (Nat.le_of_ble_eq_true rfl) (Nat.le_of_ble_eq_true rfl) (Nat.zero_le _) (Nat.zero_le _) d_Tank_changeSpeed_54 ?_
        refine kx_puti (k := 3) (i := i) (v := imax ((g 3 i 8) - 8) (g 3 i 9)) X Wd (ix3 hi) cell3 fp_Tank_67 8 rfl (by decide) rfl rfl rfl d_Tank_changeSpeed_57 (fun H locs Wd => ?_)
        exact kx_vret (u := up3 g 3 i 8 (imax ((g 3 i 8) - 8) (g 3 i 9))) X Wd (by rw [g_changeSpeed, if_pos c_1, if_pos c_2, if_neg c_3]) d_Tank_changeSpeed_60
    · skip
      refine lv_aload_n hx hb d_Tank_changeSpeed_24 rfl (lv_at hl 1 rfl) ?_
      refine lv_dup hx hb d_Tank_changeSpeed_25 rfl ?_
      refine kx_geti (k := 3) (i := i) X Wd (ix3 hi) cell3 fg_Tank_67 8 rfl (by decide) rfl d_Tank_changeSpeed_26 ?_
      refine lv_iconst (v := 4) hx hb d_Tank_changeSpeed_29 (by decide) ?_
      refine lv_iadd hx hb d_Tank_changeSpeed_30 ?_
      refine kx_puti (k := 3) (i := i) (v := (g 3 i 8) + 4) X Wd (ix3 hi) cell3 fp_Tank_67 8 rfl (by decide) rfl rfl rfl d_Tank_changeSpeed_31 (fun H locs Wd => ?_)
      refine lv_goto (tgt := 60) hx hb d_Tank_changeSpeed_34 (by decide) ?_
      exact kx_vret (u := up3 g 3 i 8 ((g 3 i 8) + 4)) X Wd (by rw [g_changeSpeed, if_pos c_1, if_neg c_2]) d_Tank_changeSpeed_60
  · skip
    refine lv_iconst (v := 0) hx hb d_Tank_changeSpeed_7 (by decide) ?_
    refine lv_goto (tgt := 15) hx hb d_Tank_changeSpeed_8 (by decide) ?_
    refine lv_istore_n (lv' := [(1, .int 0), (0, .ref (ad 3 i))]) hx hb d_Tank_changeSpeed_15 rfl hl (by decide) rfl (fun ls hl => ?_)
    refine lv_iload_n hx hb d_Tank_changeSpeed_16 rfl (lv_at hl 0 rfl) ?_
    refine lv_aload_n hx hb d_Tank_changeSpeed_17 rfl (lv_at hl 1 rfl) ?_
    refine kx_geti (k := 3) (i := i) X Wd (ix3 hi) cell3 fg_Tank_67 8 rfl (by decide) rfl d_Tank_changeSpeed_18 ?_
    refine lv_icmp_le (tgt := 37) hx hb d_Tank_changeSpeed_21 (by decide) (fun c_4 => ?_) (fun c_4 => ?_)
    · skip
      refine lv_iload_n hx hb d_Tank_changeSpeed_37 rfl (lv_at hl 0 rfl) ?_
      refine lv_aload_n hx hb d_Tank_changeSpeed_38 rfl (lv_at hl 1 rfl) ?_
      refine kx_geti (k := 3) (i := i) X Wd (ix3 hi) cell3 fg_Tank_67 8 rfl (by decide) rfl d_Tank_changeSpeed_39 ?_
      refine lv_icmp_ge (tgt := 60) hx hb d_Tank_changeSpeed_42 (by decide) (fun c_5 => ?_) (fun c_5 => ?_)
      · skip
        exact kx_vret (u := g) X Wd (by rw [g_changeSpeed, if_neg c_1, if_pos c_4, if_pos c_5]) d_Tank_changeSpeed_60
      · skip
        refine lv_aload_n hx hb d_Tank_changeSpeed_45 rfl (lv_at hl 1 rfl) ?_
        refine lv_aload_n hx hb d_Tank_changeSpeed_46 rfl (lv_at hl 1 rfl) ?_
        refine kx_geti (k := 3) (i := i) X Wd (ix3 hi) cell3 fg_Tank_67 8 rfl (by decide) rfl d_Tank_changeSpeed_47 ?_
        refine lv_bipush (v := 8) hx hb d_Tank_changeSpeed_50 (by decide) ?_
        refine lv_isub hx hb d_Tank_changeSpeed_52 ?_
        refine lv_iload_n hx hb d_Tank_changeSpeed_53 rfl (lv_at hl 0 rfl) ?_
        refine kx_max X mmax_Tank_108 hl.1 (Nat.le_of_ble_eq_true rfl) (Nat.le_of_ble_eq_true rfl) (Nat.zero_le _) (Nat.zero_le _) d_Tank_changeSpeed_54 ?_
        refine kx_puti (k := 3) (i := i) (v := imax ((g 3 i 8) - 8) 0) X Wd (ix3 hi) cell3 fp_Tank_67 8 rfl (by decide) rfl rfl rfl d_Tank_changeSpeed_57 (fun H locs Wd => ?_)
        exact kx_vret (u := up3 g 3 i 8 (imax ((g 3 i 8) - 8) 0)) X Wd (by rw [g_changeSpeed, if_neg c_1, if_pos c_4, if_neg c_5]) d_Tank_changeSpeed_60
    · skip
      refine lv_aload_n hx hb d_Tank_changeSpeed_24 rfl (lv_at hl 1 rfl) ?_
      refine lv_dup hx hb d_Tank_changeSpeed_25 rfl ?_
      refine kx_geti (k := 3) (i := i) X Wd (ix3 hi) cell3 fg_Tank_67 8 rfl (by decide) rfl d_Tank_changeSpeed_26 ?_
      refine lv_iconst (v := 4) hx hb d_Tank_changeSpeed_29 (by decide) ?_
      refine lv_iadd hx hb d_Tank_changeSpeed_30 ?_
      refine kx_puti (k := 3) (i := i) (v := (g 3 i 8) + 4) X Wd (ix3 hi) cell3 fp_Tank_67 8 rfl (by decide) rfl rfl rfl d_Tank_changeSpeed_31 (fun H locs Wd => ?_)
      refine lv_goto (tgt := 60) hx hb d_Tank_changeSpeed_34 (by decide) ?_
      exact kx_vret (u := up3 g 3 i 8 ((g 3 i 8) + 4)) X Wd (by rw [g_changeSpeed, if_neg c_1, if_neg c_4]) d_Tank_changeSpeed_60
abbrev RM_f_walls : Room := { frames := 1, cells := 0, slots := 0, locals := 21 }
set_option maxHeartbeats 1000000 in
set_option maxRecDepth 100000 in
theorem k_f_walls (l : Launch) (D : va_G) (cI cT cB : ClassId) (ad : Nat → Nat → Nat) (tX tY : Nat) (g : SG) (v : Int32) : KI l y_Tank_betweenWalls b_Tank_betweenWalls 1 (some .int) RM_f_walls D cI cT cB ad tX tY [.int v] g (fun (r : Int32) (u : SG) => r = f_walls v ∧ u = g) := by
  refine met_of (cc := b_Tank_betweenWalls) (nL := 1) (ret := (some .int)) (by decide) rfl (Nat.le_of_ble_eq_true rfl) ?_
  intro p e s m below meth c X hnm Wd ls hl
  have X := X.tt
  have hx := X.1
  have hb := X.2.1
  have hown := X.2.2.2.1
  have hts := X.2.2.2.2.1
  have hl : lv_has ls 1 [(0, .int v)] := hl
  have Wd : WC D cI cT cB ad (va_A (gC cI cT cB ad g) s.heap.size) s.heap g s.heap [] := Wd
  refine lv_bipush (v := 16) hx hb d_Tank_betweenWalls_0 (by decide) ?_
  refine lv_sipush (v := 496) hx hb d_Tank_betweenWalls_2 (by decide) ?_
  refine lv_iload_n hx hb d_Tank_betweenWalls_5 rfl (lv_at hl 0 rfl) ?_
  refine kx_min X mmin_Tank_127 hl.1 (Nat.le_of_ble_eq_true rfl) (Nat.le_of_ble_eq_true rfl) (Nat.zero_le _) (Nat.zero_le _) d_Tank_betweenWalls_6 ?_
  refine kx_max X mmax_Tank_108 hl.1 (Nat.le_of_ble_eq_true rfl) (Nat.le_of_ble_eq_true rfl) (Nat.zero_le _) (Nat.zero_le _) d_Tank_betweenWalls_9 ?_
  exact kx_iret (u := g) X rfl Wd ⟨by rw [f_walls], rfl⟩ d_Tank_betweenWalls_12
abbrev RM_g_goOn : Room := { frames := 2, cells := 0, slots := 0, locals := 41 }
set_option maxHeartbeats 1000000 in
set_option maxRecDepth 100000 in
theorem k_g_goOn (l : Launch) (D : va_G) (cI cT cB : ClassId) (ad : Nat → Nat → Nat) (tX tY : Nat) (g : SG) (i : Nat) (hi : i < 4) (hh : rng (g 3 i 5) 8) : KV l y_Tank_goOn b_Tank_goOn 3 none RM_g_goOn D cI cT cB ad tX tY [.ref (ad 3 i)] g (fun (u : SG) => u = g_goOn g i) := by
  refine met_of (cc := b_Tank_goOn) (nL := 3) (ret := none) (by decide) rfl (Nat.le_of_ble_eq_true rfl) ?_
  intro p e s m below meth c X hnm Wd ls hl
  have X := X.tt
  have hx := X.1
  have hb := X.2.1
  have hown := X.2.2.2.1
  have hts := X.2.2.2.2.1
  have hl : lv_has ls 3 [(0, .ref (ad 3 i))] := hl
  have Wd : WC D cI cT cB ad (va_A (gC cI cT cB ad g) s.heap.size) s.heap g s.heap [] := Wd
  obtain ⟨es, hs⟩ := rng_j hh (by decide)
  refine lv_aload_n hx hb d_Tank_goOn_0 rfl (lv_at hl 0 rfl) ?_
  refine kx_geti (k := 3) (i := i) X Wd (ix3 hi) cell3 fg_Tank_52 3 rfl (by decide) rfl d_Tank_goOn_1 ?_
  refine kx_getsN (host := "TankArena") X Wd zX_in w_dd62d5fe2a d_Tank_goOn_4 ?_
  refine lv_aload_n hx hb d_Tank_goOn_7 rfl (lv_at hl 0 rfl) ?_
  refine kx_geti (k := 3) (i := i) X Wd (ix3 hi) cell3 fg_Tank_58 5 rfl (by decide) rfl d_Tank_goOn_8 ?_
  refine kx_tald (z := zX tX) X Wd zX_in es hs (show (8 : Nat) < 2 ^ 31 by decide) d_Tank_goOn_11 ?_
  refine lv_aload_n hx hb d_Tank_goOn_12 rfl (lv_at hl 0 rfl) ?_
  refine kx_geti (k := 3) (i := i) X Wd (ix3 hi) cell3 fg_Tank_67 8 rfl (by decide) rfl d_Tank_goOn_13 ?_
  refine lv_imul hx hb d_Tank_goOn_16 ?_
  refine lv_iadd hx hb d_Tank_goOn_17 ?_
  refine lv_istore_n (lv' := [(1, .int ((g 3 i 3) + ((stepX ((g 3 i 5).toNatClampNeg)) * (g 3 i 8)))), (0, .ref (ad 3 i))]) hx hb d_Tank_goOn_18 rfl hl (by decide) rfl (fun ls hl => ?_)
  refine lv_aload_n hx hb d_Tank_goOn_19 rfl (lv_at hl 1 rfl) ?_
  refine kx_geti (k := 3) (i := i) X Wd (ix3 hi) cell3 fg_Tank_55 4 rfl (by decide) rfl d_Tank_goOn_20 ?_
  refine kx_getsN (host := "TankArena") X Wd zY_in w_61afec4e0e d_Tank_goOn_23 ?_
  refine lv_aload_n hx hb d_Tank_goOn_26 rfl (lv_at hl 1 rfl) ?_
  refine kx_geti (k := 3) (i := i) X Wd (ix3 hi) cell3 fg_Tank_58 5 rfl (by decide) rfl d_Tank_goOn_27 ?_
  refine kx_tald (z := zY tY) X Wd zY_in es hs (show (8 : Nat) < 2 ^ 31 by decide) d_Tank_goOn_30 ?_
  refine lv_aload_n hx hb d_Tank_goOn_31 rfl (lv_at hl 1 rfl) ?_
  refine kx_geti (k := 3) (i := i) X Wd (ix3 hi) cell3 fg_Tank_67 8 rfl (by decide) rfl d_Tank_goOn_32 ?_
  refine lv_imul hx hb d_Tank_goOn_35 ?_
  refine lv_iadd hx hb d_Tank_goOn_36 ?_
  refine lv_istore_n (lv' := [(2, .int ((g 3 i 4) + ((stepY ((g 3 i 5).toNatClampNeg)) * (g 3 i 8)))), (1, .int ((g 3 i 3) + ((stepX ((g 3 i 5).toNatClampNeg)) * (g 3 i 8)))), (0, .ref (ad 3 i))]) hx hb d_Tank_goOn_37 rfl hl (by decide) rfl (fun ls hl => ?_)
  refine lv_aload_n hx hb d_Tank_goOn_38 rfl (lv_at hl 2 rfl) ?_
  refine lv_iload_n hx hb d_Tank_goOn_39 rfl (lv_at hl 1 rfl) ?_
  refine kc_Si (As := [.int ((g 3 i 3) + ((stepX ((g 3 i 5).toNatClampNeg)) * (g 3 i 8)))]) [.ref (ad 3 i)] X Wd (k_f_walls l D cI cT cB ad tX tY g ((g 3 i 3) + ((stepX ((g 3 i 5).toNatClampNeg)) * (g 3 i 8)))) cS_Tank_120 rfl rfl hl.1 ⟨rfl, rfl⟩ ⟨Nat.le_of_ble_eq_true rfl, Nat.le_of_ble_eq_true rfl⟩ (Nat.le_of_ble_eq_true rfl) ⟨Nat.zero_le _, Nat.zero_le _⟩ d_Tank_goOn_40 (fun r u H locs hp Wd => ?_)
  obtain ⟨hr, hu⟩ := hp
  rw [hu] at Wd
  rw [hr]
  clear hr hu
  refine kx_puti (k := 3) (i := i) (v := f_walls ((g 3 i 3) + ((stepX ((g 3 i 5).toNatClampNeg)) * (g 3 i 8)))) X Wd (ix3 hi) cell3 fp_Tank_52 3 rfl (by decide) rfl rfl rfl d_Tank_goOn_43 (fun H locs Wd => ?_)
  refine lv_aload_n hx hb d_Tank_goOn_46 rfl (lv_at hl 2 rfl) ?_
  refine lv_iload_n hx hb d_Tank_goOn_47 rfl (lv_at hl 0 rfl) ?_
  refine kc_Si (As := [.int ((g 3 i 4) + ((stepY ((g 3 i 5).toNatClampNeg)) * (g 3 i 8)))]) [.ref (ad 3 i)] X Wd (k_f_walls l D cI cT cB ad tX tY (up3 g 3 i 3 (f_walls ((g 3 i 3) + ((stepX ((g 3 i 5).toNatClampNeg)) * (g 3 i 8))))) ((g 3 i 4) + ((stepY ((g 3 i 5).toNatClampNeg)) * (g 3 i 8)))) cS_Tank_120 rfl rfl hl.1 ⟨rfl, rfl⟩ ⟨Nat.le_of_ble_eq_true rfl, Nat.le_of_ble_eq_true rfl⟩ (Nat.le_of_ble_eq_true rfl) ⟨Nat.zero_le _, Nat.zero_le _⟩ d_Tank_goOn_48 (fun r u H locs hp Wd => ?_)
  obtain ⟨hr, hu⟩ := hp
  rw [hu] at Wd
  rw [hr]
  clear hr hu
  refine kx_puti (k := 3) (i := i) (v := f_walls ((g 3 i 4) + ((stepY ((g 3 i 5).toNatClampNeg)) * (g 3 i 8)))) X Wd (ix3 hi) cell3 fp_Tank_55 4 rfl (by decide) rfl rfl rfl d_Tank_goOn_51 (fun H locs Wd => ?_)
  refine lv_aload_n hx hb d_Tank_goOn_54 rfl (lv_at hl 2 rfl) ?_
  refine kx_geti2 (k := 3) (i := i) (f_walls ((g 3 i 3) + ((stepX ((g 3 i 5).toNatClampNeg)) * (g 3 i 8)))) X Wd (ix3 hi) cell3 fg_Tank_52 3 rfl (by decide) rfl (by simp [up3]) d_Tank_goOn_55 ?_
  refine lv_iload_n hx hb d_Tank_goOn_58 rfl (lv_at hl 1 rfl) ?_
  refine lv_icmp_ne (tgt := 70) hx hb d_Tank_goOn_59 (by decide) (fun c_1 => ?_) (fun c_1 => ?_)
  · skip
    refine lv_aload_n hx hb d_Tank_goOn_70 rfl (lv_at hl 2 rfl) ?_
    refine kx_get (k := 3) (i := i) (v := .ref (ad 11 i)) X Wd (ix3 hi) rfl fg_Tank_35 rfl d_Tank_goOn_71 ?_
    refine lv_iconst (v := 1) hx hb d_Tank_goOn_74 (by decide) ?_
    refine kx_puti (k := 11) (i := i) (v := 1) X Wd (ix11 hi) cell11 fp_Tank_124 0 rfl (by decide) rfl rfl rfl d_Tank_goOn_75 (fun H locs Wd => ?_)
    refine lv_aload_n hx hb d_Tank_goOn_78 rfl (lv_at hl 2 rfl) ?_
    refine lv_dup hx hb d_Tank_goOn_79 rfl ?_
    refine kx_geti2 (k := 3) (i := i) (g 3 i 10) X Wd (ix3 hi) cell3 fg_Tank_73 10 rfl (by decide) rfl (by simp [up3]) d_Tank_goOn_80 ?_
    refine lv_aload_n hx hb d_Tank_goOn_83 rfl (lv_at hl 2 rfl) ?_
    refine kx_geti2 (k := 3) (i := i) (g 3 i 8) X Wd (ix3 hi) cell3 fg_Tank_67 8 rfl (by decide) rfl (by simp [up3]) d_Tank_goOn_84 ?_
    refine lv_iconst (v := 2) hx hb d_Tank_goOn_87 (by decide) ?_
    refine lv_idiv hx hb d_Tank_goOn_88 (by decide) ?_
    refine lv_isub hx hb d_Tank_goOn_89 ?_
    refine kx_puti (k := 3) (i := i) (v := (g 3 i 10) - ((g 3 i 8) / 2)) X Wd (ix3 hi) cell3 fp_Tank_73 10 rfl (by decide) rfl rfl rfl d_Tank_goOn_90 (fun H locs Wd => ?_)
    exact kx_vret (u := up3 (up3 (up3 (up3 g 3 i 3 (f_walls ((g 3 i 3) + ((stepX ((g 3 i 5).toNatClampNeg)) * (g 3 i 8))))) 3 i 4 (f_walls ((g 3 i 4) + ((stepY ((g 3 i 5).toNatClampNeg)) * (g 3 i 8))))) 11 i 0 1) 3 i 10 ((g 3 i 10) - ((g 3 i 8) / 2))) X Wd (by rw [g_goOn, if_neg c_1]) d_Tank_goOn_93
  · skip
    refine lv_aload_n hx hb d_Tank_goOn_62 rfl (lv_at hl 2 rfl) ?_
    refine kx_geti2 (k := 3) (i := i) (f_walls ((g 3 i 4) + ((stepY ((g 3 i 5).toNatClampNeg)) * (g 3 i 8)))) X Wd (ix3 hi) cell3 fg_Tank_55 4 rfl (by decide) rfl (by simp [up3]) d_Tank_goOn_63 ?_
    refine lv_iload_n hx hb d_Tank_goOn_66 rfl (lv_at hl 0 rfl) ?_
    refine lv_icmp_eq (tgt := 93) hx hb d_Tank_goOn_67 (by decide) (fun c_2 => ?_) (fun c_2 => ?_)
    · skip
      exact kx_vret (u := up3 (up3 g 3 i 3 (f_walls ((g 3 i 3) + ((stepX ((g 3 i 5).toNatClampNeg)) * (g 3 i 8))))) 3 i 4 (f_walls ((g 3 i 4) + ((stepY ((g 3 i 5).toNatClampNeg)) * (g 3 i 8))))) X Wd (by rw [g_goOn, if_pos c_1, if_pos c_2]) d_Tank_goOn_93
    · skip
      refine lv_aload_n hx hb d_Tank_goOn_70 rfl (lv_at hl 2 rfl) ?_
      refine kx_get (k := 3) (i := i) (v := .ref (ad 11 i)) X Wd (ix3 hi) rfl fg_Tank_35 rfl d_Tank_goOn_71 ?_
      refine lv_iconst (v := 1) hx hb d_Tank_goOn_74 (by decide) ?_
      refine kx_puti (k := 11) (i := i) (v := 1) X Wd (ix11 hi) cell11 fp_Tank_124 0 rfl (by decide) rfl rfl rfl d_Tank_goOn_75 (fun H locs Wd => ?_)
      refine lv_aload_n hx hb d_Tank_goOn_78 rfl (lv_at hl 2 rfl) ?_
      refine lv_dup hx hb d_Tank_goOn_79 rfl ?_
      refine kx_geti2 (k := 3) (i := i) (g 3 i 10) X Wd (ix3 hi) cell3 fg_Tank_73 10 rfl (by decide) rfl (by simp [up3]) d_Tank_goOn_80 ?_
      refine lv_aload_n hx hb d_Tank_goOn_83 rfl (lv_at hl 2 rfl) ?_
      refine kx_geti2 (k := 3) (i := i) (g 3 i 8) X Wd (ix3 hi) cell3 fg_Tank_67 8 rfl (by decide) rfl (by simp [up3]) d_Tank_goOn_84 ?_
      refine lv_iconst (v := 2) hx hb d_Tank_goOn_87 (by decide) ?_
      refine lv_idiv hx hb d_Tank_goOn_88 (by decide) ?_
      refine lv_isub hx hb d_Tank_goOn_89 ?_
      refine kx_puti (k := 3) (i := i) (v := (g 3 i 10) - ((g 3 i 8) / 2)) X Wd (ix3 hi) cell3 fp_Tank_73 10 rfl (by decide) rfl rfl rfl d_Tank_goOn_90 (fun H locs Wd => ?_)
      exact kx_vret (u := up3 (up3 (up3 (up3 g 3 i 3 (f_walls ((g 3 i 3) + ((stepX ((g 3 i 5).toNatClampNeg)) * (g 3 i 8))))) 3 i 4 (f_walls ((g 3 i 4) + ((stepY ((g 3 i 5).toNatClampNeg)) * (g 3 i 8))))) 11 i 0 1) 3 i 10 ((g 3 i 10) - ((g 3 i 8) / 2))) X Wd (by rw [g_goOn, if_pos c_1, if_neg c_2]) d_Tank_goOn_93
abbrev RM_g_cool : Room := { frames := 1, cells := 0, slots := 0, locals := 21 }
set_option maxHeartbeats 1000000 in
set_option maxRecDepth 100000 in
theorem k_g_cool (l : Launch) (D : va_G) (cI cT cB : ClassId) (ad : Nat → Nat → Nat) (tX tY : Nat) (g : SG) (i : Nat) (hi : i < 4) : KV l y_Tank_cool b_Tank_cool 1 none RM_g_cool D cI cT cB ad tX tY [.ref (ad 3 i)] g (fun (u : SG) => u = g_cool g i) := by
  refine met_of (cc := b_Tank_cool) (nL := 1) (ret := none) (by decide) rfl (Nat.le_of_ble_eq_true rfl) ?_
  intro p e s m below meth c X hnm Wd ls hl
  have X := X.tt
  have hx := X.1
  have hb := X.2.1
  have hown := X.2.2.2.1
  have hts := X.2.2.2.2.1
  have hl : lv_has ls 1 [(0, .ref (ad 3 i))] := hl
  have Wd : WC D cI cT cB ad (va_A (gC cI cT cB ad g) s.heap.size) s.heap g s.heap [] := Wd
  refine lv_aload_n hx hb d_Tank_cool_0 rfl (lv_at hl 0 rfl) ?_
  refine lv_aload_n hx hb d_Tank_cool_1 rfl (lv_at hl 0 rfl) ?_
  refine kx_geti (k := 3) (i := i) X Wd (ix3 hi) cell3 fg_Tank_76 11 rfl (by decide) rfl d_Tank_cool_2 ?_
  refine lv_iconst (v := 2) hx hb d_Tank_cool_5 (by decide) ?_
  refine lv_isub hx hb d_Tank_cool_6 ?_
  refine lv_iconst (v := 0) hx hb d_Tank_cool_7 (by decide) ?_
  refine kx_max X mmax_Tank_108 hl.1 (Nat.le_of_ble_eq_true rfl) (Nat.le_of_ble_eq_true rfl) (Nat.zero_le _) (Nat.zero_le _) d_Tank_cool_8 ?_
  refine kx_puti (k := 3) (i := i) (v := imax ((g 3 i 11) - 2) 0) X Wd (ix3 hi) cell3 fp_Tank_76 11 rfl (by decide) rfl rfl rfl d_Tank_cool_11 (fun H locs Wd => ?_)
  exact kx_vret (u := up3 g 3 i 11 (imax ((g 3 i 11) - 2) 0)) X Wd (by rw [g_cool]) d_Tank_cool_14
abbrev RM_f_dist : Room := { frames := 1, cells := 0, slots := 0, locals := 21 }
set_option maxHeartbeats 1000000 in
set_option maxRecDepth 100000 in
theorem k_f_dist (l : Launch) (D : va_G) (cI cT cB : ClassId) (ad : Nat → Nat → Nat) (tX tY : Nat) (g : SG) (i : Nat) (hi : i < 4) (px : Int32) (py : Int32) : KI l y_Tank_distanceTo b_Tank_distanceTo 3 (some .int) RM_f_dist D cI cT cB ad tX tY [.ref (ad 3 i), .int px, .int py] g (fun (r : Int32) (u : SG) => r = f_dist g i px py ∧ u = g) := by
  refine met_of (cc := b_Tank_distanceTo) (nL := 3) (ret := (some .int)) (by decide) rfl (Nat.le_of_ble_eq_true rfl) ?_
  intro p e s m below meth c X hnm Wd ls hl
  have X := X.tt
  have hx := X.1
  have hb := X.2.1
  have hown := X.2.2.2.1
  have hts := X.2.2.2.2.1
  have hl : lv_has ls 3 [(0, .ref (ad 3 i)), (1, .int px), (2, .int py)] := hl
  have Wd : WC D cI cT cB ad (va_A (gC cI cT cB ad g) s.heap.size) s.heap g s.heap [] := Wd
  refine lv_iload_n hx hb d_Tank_distanceTo_0 rfl (lv_at hl 1 rfl) ?_
  refine lv_aload_n hx hb d_Tank_distanceTo_1 rfl (lv_at hl 0 rfl) ?_
  refine kx_geti (k := 3) (i := i) X Wd (ix3 hi) cell3 fg_Tank_52 3 rfl (by decide) rfl d_Tank_distanceTo_2 ?_
  refine lv_isub hx hb d_Tank_distanceTo_5 ?_
  refine kx_abs X mabs_Tank_130 hl.1 (Nat.le_of_ble_eq_true rfl) (Nat.le_of_ble_eq_true rfl) (Nat.zero_le _) (Nat.zero_le _) d_Tank_distanceTo_6 ?_
  refine lv_iload_n hx hb d_Tank_distanceTo_9 rfl (lv_at hl 2 rfl) ?_
  refine lv_aload_n hx hb d_Tank_distanceTo_10 rfl (lv_at hl 0 rfl) ?_
  refine kx_geti (k := 3) (i := i) X Wd (ix3 hi) cell3 fg_Tank_55 4 rfl (by decide) rfl d_Tank_distanceTo_11 ?_
  refine lv_isub hx hb d_Tank_distanceTo_14 ?_
  refine kx_abs X mabs_Tank_130 hl.1 (Nat.le_of_ble_eq_true rfl) (Nat.le_of_ble_eq_true rfl) (Nat.zero_le _) (Nat.zero_le _) d_Tank_distanceTo_15 ?_
  refine kx_max X mmax_Tank_108 hl.1 (Nat.le_of_ble_eq_true rfl) (Nat.le_of_ble_eq_true rfl) (Nat.zero_le _) (Nat.zero_le _) d_Tank_distanceTo_18 ?_
  exact kx_iret (u := g) X rfl Wd ⟨by rw [f_dist], rfl⟩ d_Tank_distanceTo_21
abbrev RM_f_measured : Room := { frames := 0, cells := 0, slots := 0, locals := 0 }
set_option maxHeartbeats 1000000 in
set_option maxRecDepth 100000 in
theorem k_f_measured (l : Launch) (D : va_G) (cI cT cB : ClassId) (ad : Nat → Nat → Nat) (tX tY : Nat) (g : SG) (i : Nat) (hi : i < 4) (what : Int32) : KI l y_Tank_measured b_Tank_measured 2 (some .int) RM_f_measured D cI cT cB ad tX tY [.ref (ad 3 i), .int what] g (fun (r : Int32) (u : SG) => r = f_measured g i what ∧ u = g) := by
  refine met_of (cc := b_Tank_measured) (nL := 2) (ret := (some .int)) (by decide) rfl (Nat.le_of_ble_eq_true rfl) ?_
  intro p e s m below meth c X hnm Wd ls hl
  have X := X.tt
  have hx := X.1
  have hb := X.2.1
  have hown := X.2.2.2.1
  have hts := X.2.2.2.2.1
  have hl : lv_has ls 2 [(0, .ref (ad 3 i)), (1, .int what)] := hl
  have Wd : WC D cI cT cB ad (va_A (gC cI cT cB ad g) s.heap.size) s.heap g s.heap [] := Wd
  refine lv_iload_n hx hb d_Tank_measured_0 rfl (lv_at hl 1 rfl) ?_
  by_cases c_1 : what = 0
  · skip
    refine lv_tableIn (tgt := 48) hx hb d_Tank_measured_1 (by rw [c_1]; decide) (by rw [c_1]; decide) (by rw [c_1]; rfl) (by decide) ?_
    refine lv_aload_n hx hb d_Tank_measured_48 rfl (lv_at hl 0 rfl) ?_
    refine kx_geti (k := 3) (i := i) X Wd (ix3 hi) cell3 fg_Tank_52 3 rfl (by decide) rfl d_Tank_measured_49 ?_
    exact kx_iret (u := g) X rfl Wd ⟨by rw [f_measured, if_pos c_1], rfl⟩ d_Tank_measured_52
  by_cases c_2 : what = 1
  · skip
    refine lv_tableIn (tgt := 53) hx hb d_Tank_measured_1 (by rw [c_2]; decide) (by rw [c_2]; decide) (by rw [c_2]; rfl) (by decide) ?_
    refine lv_aload_n hx hb d_Tank_measured_53 rfl (lv_at hl 0 rfl) ?_
    refine kx_geti (k := 3) (i := i) X Wd (ix3 hi) cell3 fg_Tank_55 4 rfl (by decide) rfl d_Tank_measured_54 ?_
    exact kx_iret (u := g) X rfl Wd ⟨by rw [f_measured, if_neg c_1, if_pos c_2], rfl⟩ d_Tank_measured_57
  by_cases c_3 : what = 2
  · skip
    refine lv_tableIn (tgt := 58) hx hb d_Tank_measured_1 (by rw [c_3]; decide) (by rw [c_3]; decide) (by rw [c_3]; rfl) (by decide) ?_
    refine lv_aload_n hx hb d_Tank_measured_58 rfl (lv_at hl 0 rfl) ?_
    refine kx_geti (k := 3) (i := i) X Wd (ix3 hi) cell3 fg_Tank_67 8 rfl (by decide) rfl d_Tank_measured_59 ?_
    exact kx_iret (u := g) X rfl Wd ⟨by rw [f_measured, if_neg c_1, if_neg c_2, if_pos c_3], rfl⟩ d_Tank_measured_62
  by_cases c_4 : what = 3
  · skip
    refine lv_tableIn (tgt := 63) hx hb d_Tank_measured_1 (by rw [c_4]; decide) (by rw [c_4]; decide) (by rw [c_4]; rfl) (by decide) ?_
    refine lv_aload_n hx hb d_Tank_measured_63 rfl (lv_at hl 0 rfl) ?_
    refine kx_geti (k := 3) (i := i) X Wd (ix3 hi) cell3 fg_Tank_73 10 rfl (by decide) rfl d_Tank_measured_64 ?_
    exact kx_iret (u := g) X rfl Wd ⟨by rw [f_measured, if_neg c_1, if_neg c_2, if_neg c_3, if_pos c_4], rfl⟩ d_Tank_measured_67
  by_cases c_5 : what = 4
  · skip
    refine lv_tableIn (tgt := 68) hx hb d_Tank_measured_1 (by rw [c_5]; decide) (by rw [c_5]; decide) (by rw [c_5]; rfl) (by decide) ?_
    refine lv_aload_n hx hb d_Tank_measured_68 rfl (lv_at hl 0 rfl) ?_
    refine kx_geti (k := 3) (i := i) X Wd (ix3 hi) cell3 fg_Tank_76 11 rfl (by decide) rfl d_Tank_measured_69 ?_
    exact kx_iret (u := g) X rfl Wd ⟨by rw [f_measured, if_neg c_1, if_neg c_2, if_neg c_3, if_neg c_4, if_pos c_5], rfl⟩ d_Tank_measured_72
  by_cases c_6 : what = 5
  · skip
    refine lv_tableIn (tgt := 73) hx hb d_Tank_measured_1 (by rw [c_6]; decide) (by rw [c_6]; decide) (by rw [c_6]; rfl) (by decide) ?_
    refine lv_aload_n hx hb d_Tank_measured_73 rfl (lv_at hl 0 rfl) ?_
    refine kx_geti (k := 3) (i := i) X Wd (ix3 hi) cell3 fg_Tank_70 9 rfl (by decide) rfl d_Tank_measured_74 ?_
    exact kx_iret (u := g) X rfl Wd ⟨by rw [f_measured, if_neg c_1, if_neg c_2, if_neg c_3, if_neg c_4, if_neg c_5, if_pos c_6], rfl⟩ d_Tank_measured_77
  by_cases c_7 : what = 6
  · skip
    refine lv_tableIn (tgt := 78) hx hb d_Tank_measured_1 (by rw [c_7]; decide) (by rw [c_7]; decide) (by rw [c_7]; rfl) (by decide) ?_
    refine lv_aload_n hx hb d_Tank_measured_78 rfl (lv_at hl 0 rfl) ?_
    refine kx_geti (k := 3) (i := i) X Wd (ix3 hi) cell3 fg_Tank_79 12 rfl (by decide) rfl d_Tank_measured_79 ?_
    exact kx_iret (u := g) X rfl Wd ⟨by rw [f_measured, if_neg c_1, if_neg c_2, if_neg c_3, if_neg c_4, if_neg c_5, if_neg c_6, if_pos c_7], rfl⟩ d_Tank_measured_82
  by_cases c_8 : what = 7
  · skip
    refine lv_tableIn (tgt := 83) hx hb d_Tank_measured_1 (by rw [c_8]; decide) (by rw [c_8]; decide) (by rw [c_8]; rfl) (by decide) ?_
    refine lv_aload_n hx hb d_Tank_measured_83 rfl (lv_at hl 0 rfl) ?_
    refine kx_get (k := 3) (i := i) (v := .ref (ad 11 i)) X Wd (ix3 hi) rfl fg_Tank_35 rfl d_Tank_measured_84 ?_
    refine kx_geti (k := 11) (i := i) X Wd (ix11 hi) cell11 fg_Tank_133 3 rfl (by decide) rfl d_Tank_measured_87 ?_
    exact kx_iret (u := g) X rfl Wd ⟨by rw [f_measured, if_neg c_1, if_neg c_2, if_neg c_3, if_neg c_4, if_neg c_5, if_neg c_6, if_neg c_7, if_pos c_8], rfl⟩ d_Tank_measured_90
  refine lv_tableOut (tgt := 91) hx hb d_Tank_measured_1 (by have q0 := neI (0) rfl c_1; have q1 := neI (1) rfl c_2; have q2 := neI (2) rfl c_3; have q3 := neI (3) rfl c_4; have q4 := neI (4) rfl c_5; have q5 := neI (5) rfl c_6; have q6 := neI (6) rfl c_7; have q7 := neI (7) rfl c_8; omega) (by decide) ?_
  refine lv_ldc (v := -1000000) hx hb hown (hts _ w_de71773bb3) d_Tank_measured_91 ?_
  exact kx_iret (u := g) X rfl Wd ⟨by rw [f_measured, if_neg c_1, if_neg c_2, if_neg c_3, if_neg c_4, if_neg c_5, if_neg c_6, if_neg c_7, if_neg c_8], rfl⟩ d_Tank_measured_93
abbrev RM_f_told : Room := { frames := 0, cells := 0, slots := 0, locals := 0 }
set_option maxHeartbeats 1000000 in
set_option maxRecDepth 100000 in
theorem k_f_told (l : Launch) (D : va_G) (cI cT cB : ClassId) (ad : Nat → Nat → Nat) (tX tY : Nat) (g : SG) (i : Nat) (hi : i < 4) (what : Int32) : KI l y_Tank_told b_Tank_told 2 (some .int) RM_f_told D cI cT cB ad tX tY [.ref (ad 3 i), .int what] g (fun (r : Int32) (u : SG) => r = f_told g i what ∧ u = g) := by
  refine met_of (cc := b_Tank_told) (nL := 2) (ret := (some .int)) (by decide) rfl (Nat.le_of_ble_eq_true rfl) ?_
  intro p e s m below meth c X hnm Wd ls hl
  have X := X.tt
  have hx := X.1
  have hb := X.2.1
  have hown := X.2.2.2.1
  have hts := X.2.2.2.2.1
  have hl : lv_has ls 2 [(0, .ref (ad 3 i)), (1, .int what)] := hl
  have Wd : WC D cI cT cB ad (va_A (gC cI cT cB ad g) s.heap.size) s.heap g s.heap [] := Wd
  refine lv_iload_n hx hb d_Tank_told_0 rfl (lv_at hl 1 rfl) ?_
  by_cases c_1 : what = 0
  · skip
    refine lv_tableIn (tgt := 60) hx hb d_Tank_told_1 (by rw [c_1]; decide) (by rw [c_1]; decide) (by rw [c_1]; rfl) (by decide) ?_
    refine lv_aload_n hx hb d_Tank_told_60 rfl (lv_at hl 0 rfl) ?_
    refine kx_geti (k := 3) (i := i) X Wd (ix3 hi) cell3 fg_Tank_58 5 rfl (by decide) rfl d_Tank_told_61 ?_
    exact kx_iret (u := g) X rfl Wd ⟨by rw [f_told, if_pos c_1], rfl⟩ d_Tank_told_64
  by_cases c_2 : what = 1
  · skip
    refine lv_tableIn (tgt := 65) hx hb d_Tank_told_1 (by rw [c_2]; decide) (by rw [c_2]; decide) (by rw [c_2]; rfl) (by decide) ?_
    refine lv_aload_n hx hb d_Tank_told_65 rfl (lv_at hl 0 rfl) ?_
    refine kx_geti (k := 3) (i := i) X Wd (ix3 hi) cell3 fg_Tank_61 6 rfl (by decide) rfl d_Tank_told_66 ?_
    exact kx_iret (u := g) X rfl Wd ⟨by rw [f_told, if_neg c_1, if_pos c_2], rfl⟩ d_Tank_told_69
  by_cases c_3 : what = 2
  · skip
    refine lv_tableIn (tgt := 70) hx hb d_Tank_told_1 (by rw [c_3]; decide) (by rw [c_3]; decide) (by rw [c_3]; rfl) (by decide) ?_
    refine lv_aload_n hx hb d_Tank_told_70 rfl (lv_at hl 0 rfl) ?_
    refine kx_geti (k := 3) (i := i) X Wd (ix3 hi) cell3 fg_Tank_64 7 rfl (by decide) rfl d_Tank_told_71 ?_
    exact kx_iret (u := g) X rfl Wd ⟨by rw [f_told, if_neg c_1, if_neg c_2, if_pos c_3], rfl⟩ d_Tank_told_74
  by_cases c_4 : what = 3
  · skip
    refine lv_tableIn (tgt := 75) hx hb d_Tank_told_1 (by rw [c_4]; decide) (by rw [c_4]; decide) (by rw [c_4]; rfl) (by decide) ?_
    refine lv_aload_n hx hb d_Tank_told_75 rfl (lv_at hl 0 rfl) ?_
    refine kx_geti (k := 3) (i := i) X Wd (ix3 hi) cell3 fg_Tank_82 13 rfl (by decide) rfl d_Tank_told_76 ?_
    refine lv_if_eq (tgt := 86) hx hb d_Tank_told_79 (by decide) (fun c_5 => ?_) (fun c_5 => ?_)
    · skip
      refine lv_iconst (v := 0) hx hb d_Tank_told_86 (by decide) ?_
      exact kx_iret (u := g) X rfl Wd ⟨by rw [f_told, if_neg c_1, if_neg c_2, if_neg c_3, if_pos c_4, if_pos c_5], rfl⟩ d_Tank_told_87
    · skip
      refine lv_iconst (v := 1) hx hb d_Tank_told_82 (by decide) ?_
      refine lv_goto (tgt := 87) hx hb d_Tank_told_83 (by decide) ?_
      exact kx_iret (u := g) X rfl Wd ⟨by rw [f_told, if_neg c_1, if_neg c_2, if_neg c_3, if_pos c_4, if_neg c_5], rfl⟩ d_Tank_told_87
  by_cases c_6 : what = 4
  · skip
    refine lv_tableIn (tgt := 88) hx hb d_Tank_told_1 (by rw [c_6]; decide) (by rw [c_6]; decide) (by rw [c_6]; rfl) (by decide) ?_
    refine lv_aload_n hx hb d_Tank_told_88 rfl (lv_at hl 0 rfl) ?_
    refine kx_get (k := 3) (i := i) (v := .ref (ad 8 i)) X Wd (ix3 hi) rfl fg_Tank_21 rfl d_Tank_told_89 ?_
    refine kx_geti (k := 8) (i := i) X Wd (ix8 hi) cell8 fg_Tank_91 1 rfl (by decide) rfl d_Tank_told_92 ?_
    exact kx_iret (u := g) X rfl Wd ⟨by rw [f_told, if_neg c_1, if_neg c_2, if_neg c_3, if_neg c_4, if_pos c_6], rfl⟩ d_Tank_told_95
  by_cases c_7 : what = 5
  · skip
    refine lv_tableIn (tgt := 96) hx hb d_Tank_told_1 (by rw [c_7]; decide) (by rw [c_7]; decide) (by rw [c_7]; rfl) (by decide) ?_
    refine lv_aload_n hx hb d_Tank_told_96 rfl (lv_at hl 0 rfl) ?_
    refine kx_get (k := 3) (i := i) (v := .ref (ad 8 i)) X Wd (ix3 hi) rfl fg_Tank_21 rfl d_Tank_told_97 ?_
    refine kx_geti (k := 8) (i := i) X Wd (ix8 hi) cell8 fg_Tank_137 0 rfl (by decide) rfl d_Tank_told_100 ?_
    exact kx_iret (u := g) X rfl Wd ⟨by rw [f_told, if_neg c_1, if_neg c_2, if_neg c_3, if_neg c_4, if_neg c_6, if_pos c_7], rfl⟩ d_Tank_told_103
  by_cases c_8 : what = 6
  · skip
    refine lv_tableIn (tgt := 104) hx hb d_Tank_told_1 (by rw [c_8]; decide) (by rw [c_8]; decide) (by rw [c_8]; rfl) (by decide) ?_
    refine lv_aload_n hx hb d_Tank_told_104 rfl (lv_at hl 0 rfl) ?_
    refine kx_get (k := 3) (i := i) (v := .ref (ad 8 i)) X Wd (ix3 hi) rfl fg_Tank_21 rfl d_Tank_told_105 ?_
    refine kx_get (k := 8) (i := i) (v := .ref (ad 9 i)) X Wd (ix8 hi) rfl fg_Tank_140 rfl d_Tank_told_108 ?_
    refine lv_iconst (v := 0) hx hb d_Tank_told_111 (by decide) ?_
    refine kx_iald (k := 9) (i := i) (j := 0) (t0 := 0) X Wd (ix9 hi) cell9 rfl (by decide) (by decide) (by decide) d_Tank_told_112 ?_
    exact kx_iret (u := g) X rfl Wd ⟨by rw [f_told, if_neg c_1, if_neg c_2, if_neg c_3, if_neg c_4, if_neg c_6, if_neg c_7, if_pos c_8], rfl⟩ d_Tank_told_113
  by_cases c_9 : what = 7
  · skip
    refine lv_tableIn (tgt := 114) hx hb d_Tank_told_1 (by rw [c_9]; decide) (by rw [c_9]; decide) (by rw [c_9]; rfl) (by decide) ?_
    refine lv_aload_n hx hb d_Tank_told_114 rfl (lv_at hl 0 rfl) ?_
    refine kx_get (k := 3) (i := i) (v := .ref (ad 8 i)) X Wd (ix3 hi) rfl fg_Tank_21 rfl d_Tank_told_115 ?_
    refine kx_get (k := 8) (i := i) (v := .ref (ad 9 i)) X Wd (ix8 hi) rfl fg_Tank_140 rfl d_Tank_told_118 ?_
    refine lv_iconst (v := 1) hx hb d_Tank_told_121 (by decide) ?_
    refine kx_iald (k := 9) (i := i) (j := 1) (t0 := 0) X Wd (ix9 hi) cell9 rfl (by decide) (by decide) (by decide) d_Tank_told_122 ?_
    exact kx_iret (u := g) X rfl Wd ⟨by rw [f_told, if_neg c_1, if_neg c_2, if_neg c_3, if_neg c_4, if_neg c_6, if_neg c_7, if_neg c_8, if_pos c_9], rfl⟩ d_Tank_told_123
  by_cases c_10 : what = 8
  · skip
    refine lv_tableIn (tgt := 124) hx hb d_Tank_told_1 (by rw [c_10]; decide) (by rw [c_10]; decide) (by rw [c_10]; rfl) (by decide) ?_
    refine lv_aload_n hx hb d_Tank_told_124 rfl (lv_at hl 0 rfl) ?_
    refine kx_get (k := 3) (i := i) (v := .ref (ad 11 i)) X Wd (ix3 hi) rfl fg_Tank_35 rfl d_Tank_told_125 ?_
    refine kx_geti (k := 11) (i := i) X Wd (ix11 hi) cell11 fg_Tank_143 2 rfl (by decide) rfl d_Tank_told_128 ?_
    exact kx_iret (u := g) X rfl Wd ⟨by rw [f_told, if_neg c_1, if_neg c_2, if_neg c_3, if_neg c_4, if_neg c_6, if_neg c_7, if_neg c_8, if_neg c_9, if_pos c_10], rfl⟩ d_Tank_told_131
  by_cases c_11 : what = 9
  · skip
    refine lv_tableIn (tgt := 132) hx hb d_Tank_told_1 (by rw [c_11]; decide) (by rw [c_11]; decide) (by rw [c_11]; rfl) (by decide) ?_
    refine lv_aload_n hx hb d_Tank_told_132 rfl (lv_at hl 0 rfl) ?_
    refine kx_get (k := 3) (i := i) (v := .ref (ad 11 i)) X Wd (ix3 hi) rfl fg_Tank_35 rfl d_Tank_told_133 ?_
    refine kx_geti (k := 11) (i := i) X Wd (ix11 hi) cell11 fg_Tank_124 0 rfl (by decide) rfl d_Tank_told_136 ?_
    refine lv_if_eq (tgt := 146) hx hb d_Tank_told_139 (by decide) (fun c_12 => ?_) (fun c_12 => ?_)
    · skip
      refine lv_iconst (v := 0) hx hb d_Tank_told_146 (by decide) ?_
      exact kx_iret (u := g) X rfl Wd ⟨by rw [f_told, if_neg c_1, if_neg c_2, if_neg c_3, if_neg c_4, if_neg c_6, if_neg c_7, if_neg c_8, if_neg c_9, if_neg c_10, if_pos c_11, if_pos c_12], rfl⟩ d_Tank_told_147
    · skip
      refine lv_iconst (v := 1) hx hb d_Tank_told_142 (by decide) ?_
      refine lv_goto (tgt := 147) hx hb d_Tank_told_143 (by decide) ?_
      exact kx_iret (u := g) X rfl Wd ⟨by rw [f_told, if_neg c_1, if_neg c_2, if_neg c_3, if_neg c_4, if_neg c_6, if_neg c_7, if_neg c_8, if_neg c_9, if_neg c_10, if_pos c_11, if_neg c_12], rfl⟩ d_Tank_told_147
  by_cases c_13 : what = 10
  · skip
    refine lv_tableIn (tgt := 148) hx hb d_Tank_told_1 (by rw [c_13]; decide) (by rw [c_13]; decide) (by rw [c_13]; rfl) (by decide) ?_
    refine lv_aload_n hx hb d_Tank_told_148 rfl (lv_at hl 0 rfl) ?_
    refine kx_get (k := 3) (i := i) (v := .ref (ad 11 i)) X Wd (ix3 hi) rfl fg_Tank_35 rfl d_Tank_told_149 ?_
    refine kx_geti (k := 11) (i := i) X Wd (ix11 hi) cell11 fg_Tank_146 1 rfl (by decide) rfl d_Tank_told_152 ?_
    refine lv_if_eq (tgt := 162) hx hb d_Tank_told_155 (by decide) (fun c_14 => ?_) (fun c_14 => ?_)
    · skip
      refine lv_iconst (v := 0) hx hb d_Tank_told_162 (by decide) ?_
      exact kx_iret (u := g) X rfl Wd ⟨by rw [f_told, if_neg c_1, if_neg c_2, if_neg c_3, if_neg c_4, if_neg c_6, if_neg c_7, if_neg c_8, if_neg c_9, if_neg c_10, if_neg c_11, if_pos c_13, if_pos c_14], rfl⟩ d_Tank_told_163
    · skip
      refine lv_iconst (v := 1) hx hb d_Tank_told_158 (by decide) ?_
      refine lv_goto (tgt := 163) hx hb d_Tank_told_159 (by decide) ?_
      exact kx_iret (u := g) X rfl Wd ⟨by rw [f_told, if_neg c_1, if_neg c_2, if_neg c_3, if_neg c_4, if_neg c_6, if_neg c_7, if_neg c_8, if_neg c_9, if_neg c_10, if_neg c_11, if_pos c_13, if_neg c_14], rfl⟩ d_Tank_told_163
  refine lv_tableOut (tgt := 164) hx hb d_Tank_told_1 (by have q0 := neI (0) rfl c_1; have q1 := neI (1) rfl c_2; have q2 := neI (2) rfl c_3; have q3 := neI (3) rfl c_4; have q4 := neI (4) rfl c_6; have q5 := neI (5) rfl c_7; have q6 := neI (6) rfl c_8; have q7 := neI (7) rfl c_9; have q8 := neI (8) rfl c_10; have q9 := neI (9) rfl c_11; have q10 := neI (10) rfl c_13; omega) (by decide) ?_
  refine lv_ldc (v := -1000000) hx hb hown (hts _ w_de71773bb3) d_Tank_told_164 ?_
  exact kx_iret (u := g) X rfl Wd ⟨by rw [f_told, if_neg c_1, if_neg c_2, if_neg c_3, if_neg c_4, if_neg c_6, if_neg c_7, if_neg c_8, if_neg c_9, if_neg c_10, if_neg c_11, if_neg c_13], rfl⟩ d_Tank_told_166
abbrev RM_g_anew : Room := { frames := 1, cells := 0, slots := 0, locals := 20 }
set_option maxHeartbeats 1000000 in
set_option maxRecDepth 100000 in
theorem k_g_anew (l : Launch) (D : va_G) (cI cT cB : ClassId) (ad : Nat → Nat → Nat) (tX tY : Nat) (g : SG) (i : Nat) (hi : i < 4) : KV l y_Tank_startAnew b_Tank_startAnew 1 none RM_g_anew D cI cT cB ad tX tY [.ref (ad 3 i)] g (fun (u : SG) => u = g_anew g i) := by
  refine met_of (cc := b_Tank_startAnew) (nL := 1) (ret := none) (by decide) rfl (Nat.le_of_ble_eq_true rfl) ?_
  intro p e s m below meth c X hnm Wd ls hl
  have X := X.tt
  have hx := X.1
  have hb := X.2.1
  have hown := X.2.2.2.1
  have hts := X.2.2.2.2.1
  have hl : lv_has ls 1 [(0, .ref (ad 3 i))] := hl
  have Wd : WC D cI cT cB ad (va_A (gC cI cT cB ad g) s.heap.size) s.heap g s.heap [] := Wd
  refine lv_aload_n hx hb d_Tank_startAnew_0 rfl (lv_at hl 0 rfl) ?_
  refine lv_aload_n hx hb d_Tank_startAnew_1 rfl (lv_at hl 0 rfl) ?_
  refine kx_geti (k := 3) (i := i) X Wd (ix3 hi) cell3 fg_Tank_39 0 rfl (by decide) rfl d_Tank_startAnew_2 ?_
  refine kx_puti (k := 3) (i := i) (v := g 3 i 0) X Wd (ix3 hi) cell3 fp_Tank_52 3 rfl (by decide) rfl rfl rfl d_Tank_startAnew_5 (fun H locs Wd => ?_)
  refine lv_aload_n hx hb d_Tank_startAnew_8 rfl (lv_at hl 0 rfl) ?_
  refine lv_aload_n hx hb d_Tank_startAnew_9 rfl (lv_at hl 0 rfl) ?_
  refine kx_geti2 (k := 3) (i := i) (g 3 i 1) X Wd (ix3 hi) cell3 fg_Tank_43 1 rfl (by decide) rfl (by simp [up3]) d_Tank_startAnew_10 ?_
  refine kx_puti (k := 3) (i := i) (v := g 3 i 1) X Wd (ix3 hi) cell3 fp_Tank_55 4 rfl (by decide) rfl rfl rfl d_Tank_startAnew_13 (fun H locs Wd => ?_)
  refine lv_aload_n hx hb d_Tank_startAnew_16 rfl (lv_at hl 0 rfl) ?_
  refine lv_aload_n hx hb d_Tank_startAnew_17 rfl (lv_at hl 0 rfl) ?_
  refine kx_geti2 (k := 3) (i := i) (g 3 i 2) X Wd (ix3 hi) cell3 fg_Tank_46 2 rfl (by decide) rfl (by simp [up3]) d_Tank_startAnew_18 ?_
  refine kx_puti (k := 3) (i := i) (v := g 3 i 2) X Wd (ix3 hi) cell3 fp_Tank_58 5 rfl (by decide) rfl rfl rfl d_Tank_startAnew_21 (fun H locs Wd => ?_)
  refine lv_aload_n hx hb d_Tank_startAnew_24 rfl (lv_at hl 0 rfl) ?_
  refine lv_aload_n hx hb d_Tank_startAnew_25 rfl (lv_at hl 0 rfl) ?_
  refine kx_geti2 (k := 3) (i := i) (g 3 i 2) X Wd (ix3 hi) cell3 fg_Tank_46 2 rfl (by decide) rfl (by simp [up3]) d_Tank_startAnew_26 ?_
  refine kx_puti (k := 3) (i := i) (v := g 3 i 2) X Wd (ix3 hi) cell3 fp_Tank_61 6 rfl (by decide) rfl rfl rfl d_Tank_startAnew_29 (fun H locs Wd => ?_)
  refine lv_aload_n hx hb d_Tank_startAnew_32 rfl (lv_at hl 0 rfl) ?_
  refine lv_aload_n hx hb d_Tank_startAnew_33 rfl (lv_at hl 0 rfl) ?_
  refine kx_geti2 (k := 3) (i := i) (g 3 i 2) X Wd (ix3 hi) cell3 fg_Tank_46 2 rfl (by decide) rfl (by simp [up3]) d_Tank_startAnew_34 ?_
  refine kx_puti (k := 3) (i := i) (v := g 3 i 2) X Wd (ix3 hi) cell3 fp_Tank_64 7 rfl (by decide) rfl rfl rfl d_Tank_startAnew_37 (fun H locs Wd => ?_)
  refine lv_aload_n hx hb d_Tank_startAnew_40 rfl (lv_at hl 0 rfl) ?_
  refine lv_iconst (v := 0) hx hb d_Tank_startAnew_41 (by decide) ?_
  refine kx_puti (k := 3) (i := i) (v := 0) X Wd (ix3 hi) cell3 fp_Tank_67 8 rfl (by decide) rfl rfl rfl d_Tank_startAnew_42 (fun H locs Wd => ?_)
  refine lv_aload_n hx hb d_Tank_startAnew_45 rfl (lv_at hl 0 rfl) ?_
  refine lv_iconst (v := 0) hx hb d_Tank_startAnew_46 (by decide) ?_
  refine kx_puti (k := 3) (i := i) (v := 0) X Wd (ix3 hi) cell3 fp_Tank_70 9 rfl (by decide) rfl rfl rfl d_Tank_startAnew_47 (fun H locs Wd => ?_)
  refine lv_aload_n hx hb d_Tank_startAnew_50 rfl (lv_at hl 0 rfl) ?_
  refine lv_sipush (v := 800) hx hb d_Tank_startAnew_51 (by decide) ?_
  refine kx_puti (k := 3) (i := i) (v := 800) X Wd (ix3 hi) cell3 fp_Tank_73 10 rfl (by decide) rfl rfl rfl d_Tank_startAnew_54 (fun H locs Wd => ?_)
  refine lv_aload_n hx hb d_Tank_startAnew_57 rfl (lv_at hl 0 rfl) ?_
  refine lv_bipush (v := 24) hx hb d_Tank_startAnew_58 (by decide) ?_
  refine kx_puti (k := 3) (i := i) (v := 24) X Wd (ix3 hi) cell3 fp_Tank_76 11 rfl (by decide) rfl rfl rfl d_Tank_startAnew_60 (fun H locs Wd => ?_)
  refine lv_aload_n hx hb d_Tank_startAnew_63 rfl (lv_at hl 0 rfl) ?_
  refine lv_iconst (v := 0) hx hb d_Tank_startAnew_64 (by decide) ?_
  refine kx_puti (k := 3) (i := i) (v := 0) X Wd (ix3 hi) cell3 fp_Tank_79 12 rfl (by decide) rfl rfl rfl d_Tank_startAnew_65 (fun H locs Wd => ?_)
  refine lv_aload_n hx hb d_Tank_startAnew_68 rfl (lv_at hl 0 rfl) ?_
  refine lv_iconst (v := 1) hx hb d_Tank_startAnew_69 (by decide) ?_
  refine kx_puti (k := 3) (i := i) (v := 1) X Wd (ix3 hi) cell3 fp_Tank_82 13 rfl (by decide) rfl rfl rfl d_Tank_startAnew_70 (fun H locs Wd => ?_)
  refine lv_aload_n hx hb d_Tank_startAnew_73 rfl (lv_at hl 0 rfl) ?_
  refine kx_get (k := 3) (i := i) (v := .ref (ad 8 i)) X Wd (ix3 hi) rfl fg_Tank_21 rfl d_Tank_startAnew_74 ?_
  refine kc_Vv (As := []) [] X Wd (k_g_pclear l D cI cT cB ad tX tY (up3 (up3 (up3 (up3 (up3 (up3 (up3 (up3 (up3 (up3 (up3 g 3 i 3 (g 3 i 0)) 3 i 4 (g 3 i 1)) 3 i 5 (g 3 i 2)) 3 i 6 (g 3 i 2)) 3 i 7 (g 3 i 2)) 3 i 8 0) 3 i 9 0) 3 i 10 800) 3 i 11 24) 3 i 12 0) 3 i 13 1) i hi) cV_Tank_86 (kx_recv (k := 8) (i := i) X Wd (ix8 hi) rfl rfl) rfl rfl hl.1 ⟨rfl, rfl⟩ ⟨Nat.le_of_ble_eq_true rfl, Nat.le_of_ble_eq_true rfl⟩ (Nat.le_of_ble_eq_true rfl) ⟨Nat.zero_le _, Nat.zero_le _⟩ d_Tank_startAnew_77 (fun u H locs hp Wd => ?_)
  rw [hp] at Wd
  clear hp
  have Wd : WC D cI cT cB ad _ s.heap (g_pclear (up3 (up3 (up3 (up3 (up3 (up3 (up3 (up3 (up3 (up3 (up3 g 3 i 3 (g 3 i 0)) 3 i 4 (g 3 i 1)) 3 i 5 (g 3 i 2)) 3 i 6 (g 3 i 2)) 3 i 7 (g 3 i 2)) 3 i 8 0) 3 i 9 0) 3 i 10 800) 3 i 11 24) 3 i 12 0) 3 i 13 1) i) H locs := Wd
  refine lv_aload_n hx hb d_Tank_startAnew_80 rfl (lv_at hl 0 rfl) ?_
  refine kx_get (k := 3) (i := i) (v := .ref (ad 10 i)) X Wd (ix3 hi) rfl fg_Tank_28 rfl d_Tank_startAnew_81 ?_
  refine kc_Vv (As := []) [] X Wd (k_g_oclear l D cI cT cB ad tX tY (g_pclear (up3 (up3 (up3 (up3 (up3 (up3 (up3 (up3 (up3 (up3 (up3 g 3 i 3 (g 3 i 0)) 3 i 4 (g 3 i 1)) 3 i 5 (g 3 i 2)) 3 i 6 (g 3 i 2)) 3 i 7 (g 3 i 2)) 3 i 8 0) 3 i 9 0) 3 i 10 800) 3 i 11 24) 3 i 12 0) 3 i 13 1) i) i hi) cV_Tank_89 (kx_recv (k := 10) (i := i) X Wd (ix10 hi) rfl rfl) rfl rfl hl.1 ⟨rfl, rfl⟩ ⟨Nat.le_of_ble_eq_true rfl, Nat.le_of_ble_eq_true rfl⟩ (Nat.le_of_ble_eq_true rfl) ⟨Nat.zero_le _, Nat.zero_le _⟩ d_Tank_startAnew_84 (fun u H locs hp Wd => ?_)
  rw [hp] at Wd
  clear hp
  have Wd : WC D cI cT cB ad _ s.heap (g_oclear (g_pclear (up3 (up3 (up3 (up3 (up3 (up3 (up3 (up3 (up3 (up3 (up3 g 3 i 3 (g 3 i 0)) 3 i 4 (g 3 i 1)) 3 i 5 (g 3 i 2)) 3 i 6 (g 3 i 2)) 3 i 7 (g 3 i 2)) 3 i 8 0) 3 i 9 0) 3 i 10 800) 3 i 11 24) 3 i 12 0) 3 i 13 1) i) i) H locs := Wd
  refine lv_aload_n hx hb d_Tank_startAnew_87 rfl (lv_at hl 0 rfl) ?_
  refine kx_get (k := 3) (i := i) (v := .ref (ad 11 i)) X Wd (ix3 hi) rfl fg_Tank_35 rfl d_Tank_startAnew_88 ?_
  refine kc_Vv (As := []) [] X Wd (k_g_rclear l D cI cT cB ad tX tY (g_oclear (g_pclear (up3 (up3 (up3 (up3 (up3 (up3 (up3 (up3 (up3 (up3 (up3 g 3 i 3 (g 3 i 0)) 3 i 4 (g 3 i 1)) 3 i 5 (g 3 i 2)) 3 i 6 (g 3 i 2)) 3 i 7 (g 3 i 2)) 3 i 8 0) 3 i 9 0) 3 i 10 800) 3 i 11 24) 3 i 12 0) 3 i 13 1) i) i) i hi) cV_Tank_90 (kx_recv (k := 11) (i := i) X Wd (ix11 hi) rfl rfl) rfl rfl hl.1 ⟨rfl, rfl⟩ ⟨Nat.le_of_ble_eq_true rfl, Nat.le_of_ble_eq_true rfl⟩ (Nat.le_of_ble_eq_true rfl) ⟨Nat.zero_le _, Nat.zero_le _⟩ d_Tank_startAnew_91 (fun u H locs hp Wd => ?_)
  rw [hp] at Wd
  clear hp
  have Wd : WC D cI cT cB ad _ s.heap (g_rclear (g_oclear (g_pclear (up3 (up3 (up3 (up3 (up3 (up3 (up3 (up3 (up3 (up3 (up3 g 3 i 3 (g 3 i 0)) 3 i 4 (g 3 i 1)) 3 i 5 (g 3 i 2)) 3 i 6 (g 3 i 2)) 3 i 7 (g 3 i 2)) 3 i 8 0) 3 i 9 0) 3 i 10 800) 3 i 11 24) 3 i 12 0) 3 i 13 1) i) i) i) H locs := Wd
  exact kx_vret (u := g_rclear (g_oclear (g_pclear (up3 (up3 (up3 (up3 (up3 (up3 (up3 (up3 (up3 (up3 (up3 g 3 i 3 (g 3 i 0)) 3 i 4 (g 3 i 1)) 3 i 5 (g 3 i 2)) 3 i 6 (g 3 i 2)) 3 i 7 (g 3 i 2)) 3 i 8 0) 3 i 9 0) 3 i 10 800) 3 i 11 24) 3 i 12 0) 3 i 13 1) i) i) i) X Wd (by rw [g_anew]) d_Tank_startAnew_94
abbrev RM_g_stand : Room := { frames := 2, cells := 0, slots := 0, locals := 40 }
set_option maxHeartbeats 1000000 in
set_option maxRecDepth 100000 in
theorem k_g_stand (l : Launch) (D : va_G) (cI cT cB : ClassId) (ad : Nat → Nat → Nat) (tX tY : Nat) (g : SG) (i : Nat) (hi : i < 4) (px : Int32) (py : Int32) (dir : Int32) : KV l y_Tank_standAt b_Tank_standAt 4 none RM_g_stand D cI cT cB ad tX tY [.ref (ad 3 i), .int px, .int py, .int dir] g (fun (u : SG) => u = g_stand g i px py dir) := by
  refine met_of (cc := b_Tank_standAt) (nL := 4) (ret := none) (by decide) rfl (Nat.le_of_ble_eq_true rfl) ?_
  intro p e s m below meth c X hnm Wd ls hl
  have X := X.tt
  have hx := X.1
  have hb := X.2.1
  have hown := X.2.2.2.1
  have hts := X.2.2.2.2.1
  have hl : lv_has ls 4 [(0, .ref (ad 3 i)), (1, .int px), (2, .int py), (3, .int dir)] := hl
  have Wd : WC D cI cT cB ad (va_A (gC cI cT cB ad g) s.heap.size) s.heap g s.heap [] := Wd
  refine lv_aload_n hx hb d_Tank_standAt_0 rfl (lv_at hl 0 rfl) ?_
  refine lv_iload_n hx hb d_Tank_standAt_1 rfl (lv_at hl 1 rfl) ?_
  refine kx_puti (k := 3) (i := i) (v := px) X Wd (ix3 hi) cell3 fp_Tank_39 0 rfl (by decide) rfl rfl rfl d_Tank_standAt_2 (fun H locs Wd => ?_)
  refine lv_aload_n hx hb d_Tank_standAt_5 rfl (lv_at hl 0 rfl) ?_
  refine lv_iload_n hx hb d_Tank_standAt_6 rfl (lv_at hl 2 rfl) ?_
  refine kx_puti (k := 3) (i := i) (v := py) X Wd (ix3 hi) cell3 fp_Tank_43 1 rfl (by decide) rfl rfl rfl d_Tank_standAt_7 (fun H locs Wd => ?_)
  refine lv_aload_n hx hb d_Tank_standAt_10 rfl (lv_at hl 0 rfl) ?_
  refine lv_iload_n hx hb d_Tank_standAt_11 rfl (lv_at hl 3 rfl) ?_
  refine kx_puti (k := 3) (i := i) (v := dir) X Wd (ix3 hi) cell3 fp_Tank_46 2 rfl (by decide) rfl rfl rfl d_Tank_standAt_12 (fun H locs Wd => ?_)
  refine lv_aload_n hx hb d_Tank_standAt_15 rfl (lv_at hl 0 rfl) ?_
  refine kc_Vv (As := []) [] X Wd (k_g_anew l D cI cT cB ad tX tY (up3 (up3 (up3 g 3 i 0 px) 3 i 1 py) 3 i 2 dir) i hi) cV_Tank_49 (kx_recv (k := 3) (i := i) X Wd (ix3 hi) rfl rfl) rfl rfl hl.1 ⟨rfl, rfl⟩ ⟨Nat.le_of_ble_eq_true rfl, Nat.le_of_ble_eq_true rfl⟩ (Nat.le_of_ble_eq_true rfl) ⟨Nat.zero_le _, Nat.zero_le _⟩ d_Tank_standAt_16 (fun u H locs hp Wd => ?_)
  rw [hp] at Wd
  clear hp
  have Wd : WC D cI cT cB ad _ s.heap (g_anew (up3 (up3 (up3 g 3 i 0 px) 3 i 1 py) 3 i 2 dir) i) H locs := Wd
  exact kx_vret (u := g_anew (up3 (up3 (up3 g 3 i 0 px) 3 i 1 py) 3 i 2 dir) i) X Wd (by rw [g_stand]) d_Tank_standAt_19
