/-! CONTRACTS of the reference (printed by gen/all_r.py) -/
abbrev RM_f_Racross : Room := { frames := 0, cells := 0, slots := 0, locals := 0 }
set_option maxHeartbeats 1000000 in
set_option maxRecDepth 100000 in
theorem k_f_Racross (l : Launch) (D : va_G) (cI cZ : ClassId) (ad : Nat → Nat → Nat) (g : SG) (d : Int32) : RI l y_TankArenaModel_across b_TankArenaModel_across 1 (some .int) RM_f_Racross D cI cZ ad [.int d] g (fun (r : Int32) (u : SG) => r = f_Racross d ∧ u = g) := by
  refine met_of (cc := b_TankArenaModel_across) (nL := 1) (ret := (some .int)) (by decide) rfl (Nat.le_of_ble_eq_true rfl) ?_
  intro p e s m below meth c X hnm Wd ls hl
  have X := X.tt
  have hx := X.1
  have hb := X.2.1
  have hown := X.2.2.2.1
  have hts := X.2.2.2.2.1
  have hl : lv_has ls 1 [(0, .int d)] := hl
  have Wd : WR D cI cZ ad (va_A (gR cI cZ ad g) s.heap.size) s.heap g s.heap [] := Wd
  refine lv_iload_n hx hb d_TankArenaModel_across_0 rfl (lv_at hl 0 rfl) ?_
  refine lv_bipush (v := 7) hx hb d_TankArenaModel_across_1 (by decide) ?_
  refine lv_icmp_eq (tgt := 11) hx hb d_TankArenaModel_across_3 (by decide) (fun c_1 => ?_) (fun c_1 => ?_)
  · skip
    refine lv_iconst (v := 1) hx hb d_TankArenaModel_across_11 (by decide) ?_
    refine lv_goto (tgt := 31) hx hb d_TankArenaModel_across_12 (by decide) ?_
    exact kx_iret (u := g) X rfl Wd ⟨by rw [f_Racross, if_pos c_1], rfl⟩ d_TankArenaModel_across_31
  · skip
    refine lv_iload_n hx hb d_TankArenaModel_across_6 rfl (lv_at hl 0 rfl) ?_
    refine lv_iconst (v := 2) hx hb d_TankArenaModel_across_7 (by decide) ?_
    refine lv_icmp_ge (tgt := 15) hx hb d_TankArenaModel_across_8 (by decide) (fun c_2 => ?_) (fun c_2 => ?_)
    · skip
      refine lv_iload_n hx hb d_TankArenaModel_across_15 rfl (lv_at hl 0 rfl) ?_
      refine lv_iconst (v := 2) hx hb d_TankArenaModel_across_16 (by decide) ?_
      refine lv_icmp_le (tgt := 30) hx hb d_TankArenaModel_across_17 (by decide) (fun c_3 => ?_) (fun c_3 => ?_)
      · skip
        refine lv_iconst (v := 0) hx hb d_TankArenaModel_across_30 (by decide) ?_
        exact kx_iret (u := g) X rfl Wd ⟨by rw [f_Racross, if_neg c_1, if_pos c_2, if_pos c_3], rfl⟩ d_TankArenaModel_across_31
      · skip
        refine lv_iload_n hx hb d_TankArenaModel_across_20 rfl (lv_at hl 0 rfl) ?_
        refine lv_bipush (v := 6) hx hb d_TankArenaModel_across_21 (by decide) ?_
        refine lv_icmp_ge (tgt := 30) hx hb d_TankArenaModel_across_23 (by decide) (fun c_4 => ?_) (fun c_4 => ?_)
        · skip
          refine lv_iconst (v := 0) hx hb d_TankArenaModel_across_30 (by decide) ?_
          exact kx_iret (u := g) X rfl Wd ⟨by rw [f_Racross, if_neg c_1, if_pos c_2, if_neg c_3, if_pos c_4], rfl⟩ d_TankArenaModel_across_31
        · skip
          refine lv_iconst (v := -1) hx hb d_TankArenaModel_across_26 (by decide) ?_
          refine lv_goto (tgt := 31) hx hb d_TankArenaModel_across_27 (by decide) ?_
          exact kx_iret (u := g) X rfl Wd ⟨by rw [f_Racross, if_neg c_1, if_pos c_2, if_neg c_3, if_neg c_4], rfl⟩ d_TankArenaModel_across_31
    · skip
      refine lv_iconst (v := 1) hx hb d_TankArenaModel_across_11 (by decide) ?_
      refine lv_goto (tgt := 31) hx hb d_TankArenaModel_across_12 (by decide) ?_
      exact kx_iret (u := g) X rfl Wd ⟨by rw [f_Racross, if_neg c_1, if_neg c_2], rfl⟩ d_TankArenaModel_across_31
abbrev RM_f_Rup : Room := { frames := 0, cells := 0, slots := 0, locals := 0 }
set_option maxHeartbeats 1000000 in
set_option maxRecDepth 100000 in
theorem k_f_Rup (l : Launch) (D : va_G) (cI cZ : ClassId) (ad : Nat → Nat → Nat) (g : SG) (d : Int32) : RI l y_TankArenaModel_up b_TankArenaModel_up 1 (some .int) RM_f_Rup D cI cZ ad [.int d] g (fun (r : Int32) (u : SG) => r = f_Rup d ∧ u = g) := by
  refine met_of (cc := b_TankArenaModel_up) (nL := 1) (ret := (some .int)) (by decide) rfl (Nat.le_of_ble_eq_true rfl) ?_
  intro p e s m below meth c X hnm Wd ls hl
  have X := X.tt
  have hx := X.1
  have hb := X.2.1
  have hown := X.2.2.2.1
  have hts := X.2.2.2.2.1
  have hl : lv_has ls 1 [(0, .int d)] := hl
  have Wd : WR D cI cZ ad (va_A (gR cI cZ ad g) s.heap.size) s.heap g s.heap [] := Wd
  refine lv_iload_n hx hb d_TankArenaModel_up_0 rfl (lv_at hl 0 rfl) ?_
  refine lv_if_le (tgt := 13) hx hb d_TankArenaModel_up_1 (by decide) (fun c_1 => ?_) (fun c_1 => ?_)
  · skip
    refine lv_iload_n hx hb d_TankArenaModel_up_13 rfl (lv_at hl 0 rfl) ?_
    refine lv_iconst (v := 4) hx hb d_TankArenaModel_up_14 (by decide) ?_
    refine lv_icmp_le (tgt := 22) hx hb d_TankArenaModel_up_15 (by decide) (fun c_2 => ?_) (fun c_2 => ?_)
    · skip
      refine lv_iconst (v := 0) hx hb d_TankArenaModel_up_22 (by decide) ?_
      exact kx_iret (u := g) X rfl Wd ⟨by rw [f_Rup, if_pos c_1, if_pos c_2], rfl⟩ d_TankArenaModel_up_23
    · skip
      refine lv_iconst (v := -1) hx hb d_TankArenaModel_up_18 (by decide) ?_
      refine lv_goto (tgt := 23) hx hb d_TankArenaModel_up_19 (by decide) ?_
      exact kx_iret (u := g) X rfl Wd ⟨by rw [f_Rup, if_pos c_1, if_neg c_2], rfl⟩ d_TankArenaModel_up_23
  · skip
    refine lv_iload_n hx hb d_TankArenaModel_up_4 rfl (lv_at hl 0 rfl) ?_
    refine lv_iconst (v := 4) hx hb d_TankArenaModel_up_5 (by decide) ?_
    refine lv_icmp_ge (tgt := 13) hx hb d_TankArenaModel_up_6 (by decide) (fun c_3 => ?_) (fun c_3 => ?_)
    · skip
      refine lv_iload_n hx hb d_TankArenaModel_up_13 rfl (lv_at hl 0 rfl) ?_
      refine lv_iconst (v := 4) hx hb d_TankArenaModel_up_14 (by decide) ?_
      refine lv_icmp_le (tgt := 22) hx hb d_TankArenaModel_up_15 (by decide) (fun c_4 => ?_) (fun c_4 => ?_)
      · skip
        refine lv_iconst (v := 0) hx hb d_TankArenaModel_up_22 (by decide) ?_
        exact kx_iret (u := g) X rfl Wd ⟨by rw [f_Rup, if_neg c_1, if_pos c_3, if_pos c_4], rfl⟩ d_TankArenaModel_up_23
      · skip
        refine lv_iconst (v := -1) hx hb d_TankArenaModel_up_18 (by decide) ?_
        refine lv_goto (tgt := 23) hx hb d_TankArenaModel_up_19 (by decide) ?_
        exact kx_iret (u := g) X rfl Wd ⟨by rw [f_Rup, if_neg c_1, if_pos c_3, if_neg c_4], rfl⟩ d_TankArenaModel_up_23
    · skip
      refine lv_iconst (v := 1) hx hb d_TankArenaModel_up_9 (by decide) ?_
      refine lv_goto (tgt := 23) hx hb d_TankArenaModel_up_10 (by decide) ?_
      exact kx_iret (u := g) X rfl Wd ⟨by rw [f_Rup, if_neg c_1, if_neg c_3], rfl⟩ d_TankArenaModel_up_23
abbrev RM_f_Rabs : Room := { frames := 0, cells := 0, slots := 0, locals := 0 }
set_option maxHeartbeats 1000000 in
set_option maxRecDepth 100000 in
theorem k_f_Rabs (l : Launch) (D : va_G) (cI cZ : ClassId) (ad : Nat → Nat → Nat) (g : SG) (v : Int32) : RI l y_TankArenaModel_abs b_TankArenaModel_abs 1 (some .int) RM_f_Rabs D cI cZ ad [.int v] g (fun (r : Int32) (u : SG) => r = f_Rabs v ∧ u = g) := by
  refine met_of (cc := b_TankArenaModel_abs) (nL := 1) (ret := (some .int)) (by decide) rfl (Nat.le_of_ble_eq_true rfl) ?_
  intro p e s m below meth c X hnm Wd ls hl
  have X := X.tt
  have hx := X.1
  have hb := X.2.1
  have hown := X.2.2.2.1
  have hts := X.2.2.2.2.1
  have hl : lv_has ls 1 [(0, .int v)] := hl
  have Wd : WR D cI cZ ad (va_A (gR cI cZ ad g) s.heap.size) s.heap g s.heap [] := Wd
  refine lv_iload_n hx hb d_TankArenaModel_abs_0 rfl (lv_at hl 0 rfl) ?_
  refine lv_if_ge (tgt := 9) hx hb d_TankArenaModel_abs_1 (by decide) (fun c_1 => ?_) (fun c_1 => ?_)
  · skip
    refine lv_iload_n hx hb d_TankArenaModel_abs_9 rfl (lv_at hl 0 rfl) ?_
    exact kx_iret (u := g) X rfl Wd ⟨by rw [f_Rabs, if_pos c_1], rfl⟩ d_TankArenaModel_abs_10
  · skip
    refine lv_iload_n hx hb d_TankArenaModel_abs_4 rfl (lv_at hl 0 rfl) ?_
    refine lv_ineg hx hb d_TankArenaModel_abs_5 ?_
    refine lv_goto (tgt := 10) hx hb d_TankArenaModel_abs_6 (by decide) ?_
    exact kx_iret (u := g) X rfl Wd ⟨by rw [f_Rabs, if_neg c_1], rfl⟩ d_TankArenaModel_abs_10
abbrev RM_f_Rsector : Room := { frames := 1, cells := 0, slots := 0, locals := 20 }
set_option maxHeartbeats 1000000 in
set_option maxRecDepth 100000 in
theorem k_f_Rsector (l : Launch) (D : va_G) (cI cZ : ClassId) (ad : Nat → Nat → Nat) (g : SG) (dx : Int32) (dy : Int32) : RI l y_TankArenaModel_sector b_TankArenaModel_sector 2 (some .int) RM_f_Rsector D cI cZ ad [.int dx, .int dy] g (fun (r : Int32) (u : SG) => r = f_Rsector dx dy ∧ u = g) := by
  refine met_of (cc := b_TankArenaModel_sector) (nL := 2) (ret := (some .int)) (by decide) rfl (Nat.le_of_ble_eq_true rfl) ?_
  intro p e s m below meth c X hnm Wd ls hl
  have X := X.tt
  have hx := X.1
  have hb := X.2.1
  have hown := X.2.2.2.1
  have hts := X.2.2.2.2.1
  have hl : lv_has ls 2 [(0, .int dx), (1, .int dy)] := hl
  have Wd : WR D cI cZ ad (va_A (gR cI cZ ad g) s.heap.size) s.heap g s.heap [] := Wd
  refine lv_iconst (v := 2) hx hb d_TankArenaModel_sector_0 (by decide) ?_
  refine lv_iload_n hx hb d_TankArenaModel_sector_1 rfl (lv_at hl 1 rfl) ?_
  refine kc_Si (As := [.int dy]) [.int 2] X Wd (k_f_Rabs l D cI cZ ad g dy) cS_TankArenaModel_110 rfl rfl hl.1 ⟨rfl, rfl⟩ ⟨Nat.le_of_ble_eq_true rfl, Nat.le_of_ble_eq_true rfl⟩ (Nat.le_of_ble_eq_true rfl) ⟨Nat.zero_le _, Nat.zero_le _⟩ d_TankArenaModel_sector_2 (fun r u H locs hp Wd => ?_)
  obtain ⟨hr, hu⟩ := hp
  rw [hu] at Wd
  rw [hr]
  clear hr hu
  refine lv_imul hx hb d_TankArenaModel_sector_5 ?_
  refine lv_iload_n hx hb d_TankArenaModel_sector_6 rfl (lv_at hl 0 rfl) ?_
  refine kc_Si (As := [.int dx]) [.int (2 * (f_Rabs dy))] X Wd (k_f_Rabs l D cI cZ ad g dx) cS_TankArenaModel_110 rfl rfl hl.1 ⟨rfl, rfl⟩ ⟨Nat.le_of_ble_eq_true rfl, Nat.le_of_ble_eq_true rfl⟩ (Nat.le_of_ble_eq_true rfl) ⟨Nat.zero_le _, Nat.zero_le _⟩ d_TankArenaModel_sector_7 (fun r u H locs hp Wd => ?_)
  obtain ⟨hr, hu⟩ := hp
  rw [hu] at Wd
  rw [hr]
  clear hr hu
  refine lv_icmp_gt (tgt := 23) hx hb d_TankArenaModel_sector_10 (by decide) (fun c_1 => ?_) (fun c_1 => ?_)
  · skip
    refine lv_iconst (v := 2) hx hb d_TankArenaModel_sector_23 (by decide) ?_
    refine lv_iload_n hx hb d_TankArenaModel_sector_24 rfl (lv_at hl 0 rfl) ?_
    refine kc_Si (As := [.int dx]) [.int 2] X Wd (k_f_Rabs l D cI cZ ad g dx) cS_TankArenaModel_110 rfl rfl hl.1 ⟨rfl, rfl⟩ ⟨Nat.le_of_ble_eq_true rfl, Nat.le_of_ble_eq_true rfl⟩ (Nat.le_of_ble_eq_true rfl) ⟨Nat.zero_le _, Nat.zero_le _⟩ d_TankArenaModel_sector_25 (fun r u H locs hp Wd => ?_)
    obtain ⟨hr, hu⟩ := hp
    rw [hu] at Wd
    rw [hr]
    clear hr hu
    refine lv_imul hx hb d_TankArenaModel_sector_28 ?_
    refine lv_iload_n hx hb d_TankArenaModel_sector_29 rfl (lv_at hl 1 rfl) ?_
    refine kc_Si (As := [.int dy]) [.int (2 * (f_Rabs dx))] X Wd (k_f_Rabs l D cI cZ ad g dy) cS_TankArenaModel_110 rfl rfl hl.1 ⟨rfl, rfl⟩ ⟨Nat.le_of_ble_eq_true rfl, Nat.le_of_ble_eq_true rfl⟩ (Nat.le_of_ble_eq_true rfl) ⟨Nat.zero_le _, Nat.zero_le _⟩ d_TankArenaModel_sector_30 (fun r u H locs hp Wd => ?_)
    obtain ⟨hr, hu⟩ := hp
    rw [hu] at Wd
    rw [hr]
    clear hr hu
    refine lv_icmp_gt (tgt := 47) hx hb d_TankArenaModel_sector_33 (by decide) (fun c_2 => ?_) (fun c_2 => ?_)
    · skip
      refine lv_iload_n hx hb d_TankArenaModel_sector_47 rfl (lv_at hl 1 rfl) ?_
      refine lv_if_le (tgt := 61) hx hb d_TankArenaModel_sector_48 (by decide) (fun c_3 => ?_) (fun c_3 => ?_)
      · skip
        refine lv_iload_n hx hb d_TankArenaModel_sector_61 rfl (lv_at hl 0 rfl) ?_
        refine lv_if_le (tgt := 70) hx hb d_TankArenaModel_sector_62 (by decide) (fun c_4 => ?_) (fun c_4 => ?_)
        · skip
          refine lv_iconst (v := 5) hx hb d_TankArenaModel_sector_70 (by decide) ?_
          exact kx_iret (u := g) X rfl Wd ⟨by rw [f_Rsector, if_pos c_1, if_pos c_2, if_pos c_3, if_pos c_4], rfl⟩ d_TankArenaModel_sector_71
        · skip
          refine lv_bipush (v := 7) hx hb d_TankArenaModel_sector_65 (by decide) ?_
          refine lv_goto (tgt := 71) hx hb d_TankArenaModel_sector_67 (by decide) ?_
          exact kx_iret (u := g) X rfl Wd ⟨by rw [f_Rsector, if_pos c_1, if_pos c_2, if_pos c_3, if_neg c_4], rfl⟩ d_TankArenaModel_sector_71
      · skip
        refine lv_iload_n hx hb d_TankArenaModel_sector_51 rfl (lv_at hl 0 rfl) ?_
        refine lv_if_le (tgt := 59) hx hb d_TankArenaModel_sector_52 (by decide) (fun c_5 => ?_) (fun c_5 => ?_)
        · skip
          refine lv_iconst (v := 3) hx hb d_TankArenaModel_sector_59 (by decide) ?_
          exact kx_iret (u := g) X rfl Wd ⟨by rw [f_Rsector, if_pos c_1, if_pos c_2, if_neg c_3, if_pos c_5], rfl⟩ d_TankArenaModel_sector_60
        · skip
          refine lv_iconst (v := 1) hx hb d_TankArenaModel_sector_55 (by decide) ?_
          refine lv_goto (tgt := 60) hx hb d_TankArenaModel_sector_56 (by decide) ?_
          exact kx_iret (u := g) X rfl Wd ⟨by rw [f_Rsector, if_pos c_1, if_pos c_2, if_neg c_3, if_neg c_5], rfl⟩ d_TankArenaModel_sector_60
    · skip
      refine lv_iload_n hx hb d_TankArenaModel_sector_36 rfl (lv_at hl 1 rfl) ?_
      refine lv_if_ge (tgt := 45) hx hb d_TankArenaModel_sector_37 (by decide) (fun c_6 => ?_) (fun c_6 => ?_)
      · skip
        refine lv_iconst (v := 2) hx hb d_TankArenaModel_sector_45 (by decide) ?_
        exact kx_iret (u := g) X rfl Wd ⟨by rw [f_Rsector, if_pos c_1, if_neg c_2, if_pos c_6], rfl⟩ d_TankArenaModel_sector_46
      · skip
        refine lv_bipush (v := 6) hx hb d_TankArenaModel_sector_40 (by decide) ?_
        refine lv_goto (tgt := 46) hx hb d_TankArenaModel_sector_42 (by decide) ?_
        exact kx_iret (u := g) X rfl Wd ⟨by rw [f_Rsector, if_pos c_1, if_neg c_2, if_neg c_6], rfl⟩ d_TankArenaModel_sector_46
  · skip
    refine lv_iload_n hx hb d_TankArenaModel_sector_13 rfl (lv_at hl 0 rfl) ?_
    refine lv_if_ge (tgt := 21) hx hb d_TankArenaModel_sector_14 (by decide) (fun c_7 => ?_) (fun c_7 => ?_)
    · skip
      refine lv_iconst (v := 0) hx hb d_TankArenaModel_sector_21 (by decide) ?_
      exact kx_iret (u := g) X rfl Wd ⟨by rw [f_Rsector, if_neg c_1, if_pos c_7], rfl⟩ d_TankArenaModel_sector_22
    · skip
      refine lv_iconst (v := 4) hx hb d_TankArenaModel_sector_17 (by decide) ?_
      refine lv_goto (tgt := 22) hx hb d_TankArenaModel_sector_18 (by decide) ?_
      exact kx_iret (u := g) X rfl Wd ⟨by rw [f_Rsector, if_neg c_1, if_neg c_7], rfl⟩ d_TankArenaModel_sector_22
abbrev RM_f_Rtouch : Room := { frames := 1, cells := 0, slots := 0, locals := 20 }
set_option maxHeartbeats 1000000 in
set_option maxRecDepth 100000 in
theorem k_f_Rtouch (l : Launch) (D : va_G) (cI cZ : ClassId) (ad : Nat → Nat → Nat) (g : SG) (ai : Nat) (hai : ai < 4) (vai : Int32) (eai : vai = nI ai) (bi : Nat) (hbi : bi < 4) (vbi : Int32) (ebi : vbi = nI bi) : RI l y_TankArenaModel_touch b_TankArenaModel_touch 3 (some .boolean) RM_f_Rtouch D cI cZ ad [.ref (ad 0 0), .int vai, .int vbi] g (fun (r : Int32) (u : SG) => r = f_Rtouch g ai bi ∧ u = g) := by
  subst eai
  subst ebi
  refine met_of (cc := b_TankArenaModel_touch) (nL := 3) (ret := (some .boolean)) (by decide) rfl (Nat.le_of_ble_eq_true rfl) ?_
  intro p e s m below meth c X hnm Wd ls hl
  have X := X.tt
  have hx := X.1
  have hb := X.2.1
  have hown := X.2.2.2.1
  have hts := X.2.2.2.2.1
  have hl : lv_has ls 3 [(0, .ref (ad 0 0)), (1, .int (nI ai)), (2, .int (nI bi))] := hl
  have Wd : WR D cI cZ ad (va_A (gR cI cZ ad g) s.heap.size) s.heap g s.heap [] := Wd
  refine lv_aload_n hx hb d_TankArenaModel_touch_0 rfl (lv_at hl 0 rfl) ?_
  refine kx_get (k := 0) (i := 0) (v := .ref (ad 8 0)) X Wd (iy 0 (by decide)) rfl fg_TankArenaModel_31 rfl d_TankArenaModel_touch_1 ?_
  refine lv_iload_n hx hb d_TankArenaModel_touch_4 rfl (lv_at hl 1 rfl) ?_
  refine kx_iald (k := 8) (i := 0) (j := ai) (t0 := 0) X Wd (iy 8 (by decide)) rell8 rfl rfl hai (by decide) d_TankArenaModel_touch_5 ?_
  refine lv_aload_n hx hb d_TankArenaModel_touch_6 rfl (lv_at hl 0 rfl) ?_
  refine kx_get (k := 0) (i := 0) (v := .ref (ad 8 0)) X Wd (iy 0 (by decide)) rfl fg_TankArenaModel_31 rfl d_TankArenaModel_touch_7 ?_
  refine lv_iload_n hx hb d_TankArenaModel_touch_10 rfl (lv_at hl 2 rfl) ?_
  refine kx_iald (k := 8) (i := 0) (j := bi) (t0 := 0) X Wd (iy 8 (by decide)) rell8 rfl rfl hbi (by decide) d_TankArenaModel_touch_11 ?_
  refine lv_isub hx hb d_TankArenaModel_touch_12 ?_
  refine kc_Si (As := [.int ((g 8 0 ai) - (g 8 0 bi))]) [] X Wd (k_f_Rabs l D cI cZ ad g ((g 8 0 ai) - (g 8 0 bi))) cS_TankArenaModel_110 rfl rfl hl.1 ⟨rfl, rfl⟩ ⟨Nat.le_of_ble_eq_true rfl, Nat.le_of_ble_eq_true rfl⟩ (Nat.le_of_ble_eq_true rfl) ⟨Nat.zero_le _, Nat.zero_le _⟩ d_TankArenaModel_touch_13 (fun r u H locs hp Wd => ?_)
  obtain ⟨hr, hu⟩ := hp
  rw [hu] at Wd
  rw [hr]
  clear hr hu
  refine lv_bipush (v := 32) hx hb d_TankArenaModel_touch_16 (by decide) ?_
  refine lv_icmp_ge (tgt := 46) hx hb d_TankArenaModel_touch_18 (by decide) (fun c_1 => ?_) (fun c_1 => ?_)
  · skip
    refine lv_iconst (v := 0) hx hb d_TankArenaModel_touch_46 (by decide) ?_
    exact kx_iret (u := g) X rfl Wd ⟨by rw [f_Rtouch, if_pos c_1], rfl⟩ d_TankArenaModel_touch_47
  · skip
    refine lv_aload_n hx hb d_TankArenaModel_touch_21 rfl (lv_at hl 0 rfl) ?_
    refine kx_get (k := 0) (i := 0) (v := .ref (ad 9 0)) X Wd (iy 0 (by decide)) rfl fg_TankArenaModel_34 rfl d_TankArenaModel_touch_22 ?_
    refine lv_iload_n hx hb d_TankArenaModel_touch_25 rfl (lv_at hl 1 rfl) ?_
    refine kx_iald (k := 9) (i := 0) (j := ai) (t0 := 0) X Wd (iy 9 (by decide)) rell9 rfl rfl hai (by decide) d_TankArenaModel_touch_26 ?_
    refine lv_aload_n hx hb d_TankArenaModel_touch_27 rfl (lv_at hl 0 rfl) ?_
    refine kx_get (k := 0) (i := 0) (v := .ref (ad 9 0)) X Wd (iy 0 (by decide)) rfl fg_TankArenaModel_34 rfl d_TankArenaModel_touch_28 ?_
    refine lv_iload_n hx hb d_TankArenaModel_touch_31 rfl (lv_at hl 2 rfl) ?_
    refine kx_iald (k := 9) (i := 0) (j := bi) (t0 := 0) X Wd (iy 9 (by decide)) rell9 rfl rfl hbi (by decide) d_TankArenaModel_touch_32 ?_
    refine lv_isub hx hb d_TankArenaModel_touch_33 ?_
    refine kc_Si (As := [.int ((g 9 0 ai) - (g 9 0 bi))]) [] X Wd (k_f_Rabs l D cI cZ ad g ((g 9 0 ai) - (g 9 0 bi))) cS_TankArenaModel_110 rfl rfl hl.1 ⟨rfl, rfl⟩ ⟨Nat.le_of_ble_eq_true rfl, Nat.le_of_ble_eq_true rfl⟩ (Nat.le_of_ble_eq_true rfl) ⟨Nat.zero_le _, Nat.zero_le _⟩ d_TankArenaModel_touch_34 (fun r u H locs hp Wd => ?_)
    obtain ⟨hr, hu⟩ := hp
    rw [hu] at Wd
    rw [hr]
    clear hr hu
    refine lv_bipush (v := 32) hx hb d_TankArenaModel_touch_37 (by decide) ?_
    refine lv_icmp_ge (tgt := 46) hx hb d_TankArenaModel_touch_39 (by decide) (fun c_2 => ?_) (fun c_2 => ?_)
    · skip
      refine lv_iconst (v := 0) hx hb d_TankArenaModel_touch_46 (by decide) ?_
      exact kx_iret (u := g) X rfl Wd ⟨by rw [f_Rtouch, if_neg c_1, if_pos c_2], rfl⟩ d_TankArenaModel_touch_47
    · skip
      refine lv_iconst (v := 1) hx hb d_TankArenaModel_touch_42 (by decide) ?_
      refine lv_goto (tgt := 47) hx hb d_TankArenaModel_touch_43 (by decide) ?_
      exact kx_iret (u := g) X rfl Wd ⟨by rw [f_Rtouch, if_neg c_1, if_neg c_2], rfl⟩ d_TankArenaModel_touch_47
abbrev RM_g_Rforget : Room := { frames := 0, cells := 0, slots := 0, locals := 0 }
set_option maxHeartbeats 1000000 in
set_option maxRecDepth 100000 in
theorem k_g_Rforget (l : Launch) (D : va_G) (cI cZ : ClassId) (ad : Nat → Nat → Nat) (g : SG) (t : Nat) (ht : t < 4) (vt : Int32) (et : vt = nI t) : RV l y_TankArenaModel_forget b_TankArenaModel_forget 2 none RM_g_Rforget D cI cZ ad [.ref (ad 0 0), .int vt] g (fun (u : SG) => u = g_Rforget g t) := by
  subst et
  refine met_of (cc := b_TankArenaModel_forget) (nL := 2) (ret := none) (by decide) rfl (Nat.le_of_ble_eq_true rfl) ?_
  intro p e s m below meth c X hnm Wd ls hl
  have X := X.tt
  have hx := X.1
  have hb := X.2.1
  have hown := X.2.2.2.1
  have hts := X.2.2.2.2.1
  have hl : lv_has ls 2 [(0, .ref (ad 0 0)), (1, .int (nI t))] := hl
  have Wd : WR D cI cZ ad (va_A (gR cI cZ ad g) s.heap.size) s.heap g s.heap [] := Wd
  refine lv_aload_n hx hb d_TankArenaModel_forget_0 rfl (lv_at hl 0 rfl) ?_
  refine kx_get (k := 0) (i := 0) (v := .ref (ad 22 0)) X Wd (iy 0 (by decide)) rfl fg_TankArenaModel_74 rfl d_TankArenaModel_forget_1 ?_
  refine lv_iload_n hx hb d_TankArenaModel_forget_4 rfl (lv_at hl 1 rfl) ?_
  refine lv_iconst (v := 0) hx hb d_TankArenaModel_forget_5 (by decide) ?_
  refine kx_zast (k := 22) (i := 0) (j := t) (t0 := 1) X Wd (iy 22 (by decide)) rell22 rfl rfl ht (by decide) rfl d_TankArenaModel_forget_6 (fun H locs Wd => ?_)
  refine lv_aload_n hx hb d_TankArenaModel_forget_7 rfl (lv_at hl 0 rfl) ?_
  refine kx_get (k := 0) (i := 0) (v := .ref (ad 23 0)) X Wd (iy 0 (by decide)) rfl fg_TankArenaModel_77 rfl d_TankArenaModel_forget_8 ?_
  refine lv_iload_n hx hb d_TankArenaModel_forget_11 rfl (lv_at hl 1 rfl) ?_
  refine lv_iconst (v := 0) hx hb d_TankArenaModel_forget_12 (by decide) ?_
  refine kx_zast (k := 23) (i := 0) (j := t) (t0 := 1) X Wd (iy 23 (by decide)) rell23 rfl rfl ht (by decide) rfl d_TankArenaModel_forget_13 (fun H locs Wd => ?_)
  refine lv_aload_n hx hb d_TankArenaModel_forget_14 rfl (lv_at hl 0 rfl) ?_
  refine kx_get (k := 0) (i := 0) (v := .ref (ad 24 0)) X Wd (iy 0 (by decide)) rfl fg_TankArenaModel_80 rfl d_TankArenaModel_forget_15 ?_
  refine lv_iload_n hx hb d_TankArenaModel_forget_18 rfl (lv_at hl 1 rfl) ?_
  refine lv_iconst (v := 4) hx hb d_TankArenaModel_forget_19 (by decide) ?_
  refine kx_iast (k := 24) (i := 0) (j := t) (t0 := 0) X Wd (iy 24 (by decide)) rell24 rfl rfl ht (by decide) d_TankArenaModel_forget_20 (fun H locs Wd => ?_)
  refine lv_aload_n hx hb d_TankArenaModel_forget_21 rfl (lv_at hl 0 rfl) ?_
  refine kx_get (k := 0) (i := 0) (v := .ref (ad 25 0)) X Wd (iy 0 (by decide)) rfl fg_TankArenaModel_83 rfl d_TankArenaModel_forget_22 ?_
  refine lv_iload_n hx hb d_TankArenaModel_forget_25 rfl (lv_at hl 1 rfl) ?_
  refine lv_iconst (v := 0) hx hb d_TankArenaModel_forget_26 (by decide) ?_
  refine kx_iast (k := 25) (i := 0) (j := t) (t0 := 0) X Wd (iy 25 (by decide)) rell25 rfl rfl ht (by decide) d_TankArenaModel_forget_27 (fun H locs Wd => ?_)
  exact kx_vret (u := up3 (up3 (up3 (up3 g 22 0 t 0) 23 0 t 0) 24 0 t 4) 25 0 t 0) X Wd (by rw [g_Rforget]) d_TankArenaModel_forget_28
abbrev RM_g_Rreset : Room := { frames := 1, cells := 0, slots := 0, locals := 21 }
set_option maxHeartbeats 1000000 in
set_option maxRecDepth 100000 in
theorem k_g_Rreset (l : Launch) (D : va_G) (cI cZ : ClassId) (ad : Nat → Nat → Nat) (g : SG) (t : Nat) (ht : t < 4) (vt : Int32) (et : vt = nI t) : RV l y_TankArenaModel_reset b_TankArenaModel_reset 2 none RM_g_Rreset D cI cZ ad [.ref (ad 0 0), .int vt] g (fun (u : SG) => u = g_Rreset g t) := by
  subst et
  refine met_of (cc := b_TankArenaModel_reset) (nL := 2) (ret := none) (by decide) rfl (Nat.le_of_ble_eq_true rfl) ?_
  intro p e s m below meth c X hnm Wd ls hl
  have X := X.tt
  have hx := X.1
  have hb := X.2.1
  have hown := X.2.2.2.1
  have hts := X.2.2.2.2.1
  have hl : lv_has ls 2 [(0, .ref (ad 0 0)), (1, .int (nI t))] := hl
  have Wd : WR D cI cZ ad (va_A (gR cI cZ ad g) s.heap.size) s.heap g s.heap [] := Wd
  refine lv_aload_n hx hb d_TankArenaModel_reset_0 rfl (lv_at hl 0 rfl) ?_
  refine kx_get (k := 0) (i := 0) (v := .ref (ad 8 0)) X Wd (iy 0 (by decide)) rfl fg_TankArenaModel_31 rfl d_TankArenaModel_reset_1 ?_
  refine lv_iload_n hx hb d_TankArenaModel_reset_4 rfl (lv_at hl 1 rfl) ?_
  refine lv_aload_n hx hb d_TankArenaModel_reset_5 rfl (lv_at hl 0 rfl) ?_
  refine kx_get (k := 0) (i := 0) (v := .ref (ad 1 0)) X Wd (iy 0 (by decide)) rfl fg_TankArenaModel_7 rfl d_TankArenaModel_reset_6 ?_
  refine lv_iload_n hx hb d_TankArenaModel_reset_9 rfl (lv_at hl 1 rfl) ?_
  refine kx_iald (k := 1) (i := 0) (j := t) (t0 := 0) X Wd (iy 1 (by decide)) rell1 rfl rfl ht (by decide) d_TankArenaModel_reset_10 ?_
  refine kx_iast (k := 8) (i := 0) (j := t) (t0 := 0) X Wd (iy 8 (by decide)) rell8 rfl rfl ht (by decide) d_TankArenaModel_reset_11 (fun H locs Wd => ?_)
  refine lv_aload_n hx hb d_TankArenaModel_reset_12 rfl (lv_at hl 0 rfl) ?_
  refine kx_get (k := 0) (i := 0) (v := .ref (ad 9 0)) X Wd (iy 0 (by decide)) rfl fg_TankArenaModel_34 rfl d_TankArenaModel_reset_13 ?_
  refine lv_iload_n hx hb d_TankArenaModel_reset_16 rfl (lv_at hl 1 rfl) ?_
  refine lv_aload_n hx hb d_TankArenaModel_reset_17 rfl (lv_at hl 0 rfl) ?_
  refine kx_get (k := 0) (i := 0) (v := .ref (ad 2 0)) X Wd (iy 0 (by decide)) rfl fg_TankArenaModel_13 rfl d_TankArenaModel_reset_18 ?_
  refine lv_iload_n hx hb d_TankArenaModel_reset_21 rfl (lv_at hl 1 rfl) ?_
  refine kx_iald2 (k := 2) (i := 0) (j := t) (t0 := 0) (g 2 0 t) X Wd (iy 2 (by decide)) rell2 rfl rfl ht (by decide) (by simp [up3]) d_TankArenaModel_reset_22 ?_
  refine kx_iast (k := 9) (i := 0) (j := t) (t0 := 0) X Wd (iy 9 (by decide)) rell9 rfl rfl ht (by decide) d_TankArenaModel_reset_23 (fun H locs Wd => ?_)
  refine lv_aload_n hx hb d_TankArenaModel_reset_24 rfl (lv_at hl 0 rfl) ?_
  refine kx_get (k := 0) (i := 0) (v := .ref (ad 10 0)) X Wd (iy 0 (by decide)) rfl fg_TankArenaModel_37 rfl d_TankArenaModel_reset_25 ?_
  refine lv_iload_n hx hb d_TankArenaModel_reset_28 rfl (lv_at hl 1 rfl) ?_
  refine lv_aload_n hx hb d_TankArenaModel_reset_29 rfl (lv_at hl 0 rfl) ?_
  refine kx_get (k := 0) (i := 0) (v := .ref (ad 3 0)) X Wd (iy 0 (by decide)) rfl fg_TankArenaModel_16 rfl d_TankArenaModel_reset_30 ?_
  refine lv_iload_n hx hb d_TankArenaModel_reset_33 rfl (lv_at hl 1 rfl) ?_
  refine kx_iald2 (k := 3) (i := 0) (j := t) (t0 := 0) (g 3 0 t) X Wd (iy 3 (by decide)) rell3 rfl rfl ht (by decide) (by simp [up3]) d_TankArenaModel_reset_34 ?_
  refine kx_iast (k := 10) (i := 0) (j := t) (t0 := 0) X Wd (iy 10 (by decide)) rell10 rfl rfl ht (by decide) d_TankArenaModel_reset_35 (fun H locs Wd => ?_)
  refine lv_aload_n hx hb d_TankArenaModel_reset_36 rfl (lv_at hl 0 rfl) ?_
  refine kx_get (k := 0) (i := 0) (v := .ref (ad 11 0)) X Wd (iy 0 (by decide)) rfl fg_TankArenaModel_40 rfl d_TankArenaModel_reset_37 ?_
  refine lv_iload_n hx hb d_TankArenaModel_reset_40 rfl (lv_at hl 1 rfl) ?_
  refine lv_aload_n hx hb d_TankArenaModel_reset_41 rfl (lv_at hl 0 rfl) ?_
  refine kx_get (k := 0) (i := 0) (v := .ref (ad 3 0)) X Wd (iy 0 (by decide)) rfl fg_TankArenaModel_16 rfl d_TankArenaModel_reset_42 ?_
  refine lv_iload_n hx hb d_TankArenaModel_reset_45 rfl (lv_at hl 1 rfl) ?_
  refine kx_iald2 (k := 3) (i := 0) (j := t) (t0 := 0) (g 3 0 t) X Wd (iy 3 (by decide)) rell3 rfl rfl ht (by decide) (by simp [up3]) d_TankArenaModel_reset_46 ?_
  refine kx_iast (k := 11) (i := 0) (j := t) (t0 := 0) X Wd (iy 11 (by decide)) rell11 rfl rfl ht (by decide) d_TankArenaModel_reset_47 (fun H locs Wd => ?_)
  refine lv_aload_n hx hb d_TankArenaModel_reset_48 rfl (lv_at hl 0 rfl) ?_
  refine kx_get (k := 0) (i := 0) (v := .ref (ad 12 0)) X Wd (iy 0 (by decide)) rfl fg_TankArenaModel_43 rfl d_TankArenaModel_reset_49 ?_
  refine lv_iload_n hx hb d_TankArenaModel_reset_52 rfl (lv_at hl 1 rfl) ?_
  refine lv_aload_n hx hb d_TankArenaModel_reset_53 rfl (lv_at hl 0 rfl) ?_
  refine kx_get (k := 0) (i := 0) (v := .ref (ad 3 0)) X Wd (iy 0 (by decide)) rfl fg_TankArenaModel_16 rfl d_TankArenaModel_reset_54 ?_
  refine lv_iload_n hx hb d_TankArenaModel_reset_57 rfl (lv_at hl 1 rfl) ?_
  refine kx_iald2 (k := 3) (i := 0) (j := t) (t0 := 0) (g 3 0 t) X Wd (iy 3 (by decide)) rell3 rfl rfl ht (by decide) (by simp [up3]) d_TankArenaModel_reset_58 ?_
  refine kx_iast (k := 12) (i := 0) (j := t) (t0 := 0) X Wd (iy 12 (by decide)) rell12 rfl rfl ht (by decide) d_TankArenaModel_reset_59 (fun H locs Wd => ?_)
  refine lv_aload_n hx hb d_TankArenaModel_reset_60 rfl (lv_at hl 0 rfl) ?_
  refine kx_get (k := 0) (i := 0) (v := .ref (ad 13 0)) X Wd (iy 0 (by decide)) rfl fg_TankArenaModel_46 rfl d_TankArenaModel_reset_61 ?_
  refine lv_iload_n hx hb d_TankArenaModel_reset_64 rfl (lv_at hl 1 rfl) ?_
  refine lv_iconst (v := 0) hx hb d_TankArenaModel_reset_65 (by decide) ?_
  refine kx_iast (k := 13) (i := 0) (j := t) (t0 := 0) X Wd (iy 13 (by decide)) rell13 rfl rfl ht (by decide) d_TankArenaModel_reset_66 (fun H locs Wd => ?_)
  refine lv_aload_n hx hb d_TankArenaModel_reset_67 rfl (lv_at hl 0 rfl) ?_
  refine kx_get (k := 0) (i := 0) (v := .ref (ad 14 0)) X Wd (iy 0 (by decide)) rfl fg_TankArenaModel_49 rfl d_TankArenaModel_reset_68 ?_
  refine lv_iload_n hx hb d_TankArenaModel_reset_71 rfl (lv_at hl 1 rfl) ?_
  refine lv_iconst (v := 0) hx hb d_TankArenaModel_reset_72 (by decide) ?_
  refine kx_iast (k := 14) (i := 0) (j := t) (t0 := 0) X Wd (iy 14 (by decide)) rell14 rfl rfl ht (by decide) d_TankArenaModel_reset_73 (fun H locs Wd => ?_)
  refine lv_aload_n hx hb d_TankArenaModel_reset_74 rfl (lv_at hl 0 rfl) ?_
  refine kx_get (k := 0) (i := 0) (v := .ref (ad 15 0)) X Wd (iy 0 (by decide)) rfl fg_TankArenaModel_52 rfl d_TankArenaModel_reset_75 ?_
  refine lv_iload_n hx hb d_TankArenaModel_reset_78 rfl (lv_at hl 1 rfl) ?_
  refine lv_sipush (v := 800) hx hb d_TankArenaModel_reset_79 (by decide) ?_
  refine kx_iast (k := 15) (i := 0) (j := t) (t0 := 0) X Wd (iy 15 (by decide)) rell15 rfl rfl ht (by decide) d_TankArenaModel_reset_82 (fun H locs Wd => ?_)
  refine lv_aload_n hx hb d_TankArenaModel_reset_83 rfl (lv_at hl 0 rfl) ?_
  refine kx_get (k := 0) (i := 0) (v := .ref (ad 16 0)) X Wd (iy 0 (by decide)) rfl fg_TankArenaModel_55 rfl d_TankArenaModel_reset_84 ?_
  refine lv_iload_n hx hb d_TankArenaModel_reset_87 rfl (lv_at hl 1 rfl) ?_
  refine lv_bipush (v := 24) hx hb d_TankArenaModel_reset_88 (by decide) ?_
  refine kx_iast (k := 16) (i := 0) (j := t) (t0 := 0) X Wd (iy 16 (by decide)) rell16 rfl rfl ht (by decide) d_TankArenaModel_reset_90 (fun H locs Wd => ?_)
  refine lv_aload_n hx hb d_TankArenaModel_reset_91 rfl (lv_at hl 0 rfl) ?_
  refine kx_get (k := 0) (i := 0) (v := .ref (ad 17 0)) X Wd (iy 0 (by decide)) rfl fg_TankArenaModel_58 rfl d_TankArenaModel_reset_92 ?_
  refine lv_iload_n hx hb d_TankArenaModel_reset_95 rfl (lv_at hl 1 rfl) ?_
  refine lv_iconst (v := 0) hx hb d_TankArenaModel_reset_96 (by decide) ?_
  refine kx_iast (k := 17) (i := 0) (j := t) (t0 := 0) X Wd (iy 17 (by decide)) rell17 rfl rfl ht (by decide) d_TankArenaModel_reset_97 (fun H locs Wd => ?_)
  refine lv_aload_n hx hb d_TankArenaModel_reset_98 rfl (lv_at hl 0 rfl) ?_
  refine kx_get (k := 0) (i := 0) (v := .ref (ad 18 0)) X Wd (iy 0 (by decide)) rfl fg_TankArenaModel_61 rfl d_TankArenaModel_reset_99 ?_
  refine lv_iconst (v := 2) hx hb d_TankArenaModel_reset_102 (by decide) ?_
  refine lv_iload_n hx hb d_TankArenaModel_reset_103 rfl (lv_at hl 1 rfl) ?_
  refine lv_imul hx hb d_TankArenaModel_reset_104 ?_
  refine lv_iconst (v := 0) hx hb d_TankArenaModel_reset_105 (by decide) ?_
  refine kx_iast (k := 18) (i := 0) (j := 2 * t) (t0 := 0) X Wd (iy 18 (by decide)) rell18 rfl (nI_two rfl) (by omega) (by decide) d_TankArenaModel_reset_106 (fun H locs Wd => ?_)
  refine lv_aload_n hx hb d_TankArenaModel_reset_107 rfl (lv_at hl 0 rfl) ?_
  refine kx_get (k := 0) (i := 0) (v := .ref (ad 18 0)) X Wd (iy 0 (by decide)) rfl fg_TankArenaModel_61 rfl d_TankArenaModel_reset_108 ?_
  refine lv_iconst (v := 2) hx hb d_TankArenaModel_reset_111 (by decide) ?_
  refine lv_iload_n hx hb d_TankArenaModel_reset_112 rfl (lv_at hl 1 rfl) ?_
  refine lv_imul hx hb d_TankArenaModel_reset_113 ?_
  refine lv_iconst (v := 1) hx hb d_TankArenaModel_reset_114 (by decide) ?_
  refine lv_iadd hx hb d_TankArenaModel_reset_115 ?_
  refine lv_iconst (v := 0) hx hb d_TankArenaModel_reset_116 (by decide) ?_
  refine kx_iast (k := 18) (i := 0) (j := 2 * t + 1) (t0 := 0) X Wd (iy 18 (by decide)) rell18 rfl (nI_lin 2 rfl rfl) (by omega) (by decide) d_TankArenaModel_reset_117 (fun H locs Wd => ?_)
  refine lv_aload_n hx hb d_TankArenaModel_reset_118 rfl (lv_at hl 0 rfl) ?_
  refine kx_get (k := 0) (i := 0) (v := .ref (ad 19 0)) X Wd (iy 0 (by decide)) rfl fg_TankArenaModel_64 rfl d_TankArenaModel_reset_119 ?_
  refine lv_iload_n hx hb d_TankArenaModel_reset_122 rfl (lv_at hl 1 rfl) ?_
  refine lv_iconst (v := 0) hx hb d_TankArenaModel_reset_123 (by decide) ?_
  refine kx_iast (k := 19) (i := 0) (j := t) (t0 := 0) X Wd (iy 19 (by decide)) rell19 rfl rfl ht (by decide) d_TankArenaModel_reset_124 (fun H locs Wd => ?_)
  refine lv_aload_n hx hb d_TankArenaModel_reset_125 rfl (lv_at hl 0 rfl) ?_
  refine kx_get (k := 0) (i := 0) (v := .ref (ad 20 0)) X Wd (iy 0 (by decide)) rfl fg_TankArenaModel_67 rfl d_TankArenaModel_reset_126 ?_
  refine lv_iload_n hx hb d_TankArenaModel_reset_129 rfl (lv_at hl 1 rfl) ?_
  refine lv_iconst (v := 0) hx hb d_TankArenaModel_reset_130 (by decide) ?_
  refine kx_iast (k := 20) (i := 0) (j := t) (t0 := 0) X Wd (iy 20 (by decide)) rell20 rfl rfl ht (by decide) d_TankArenaModel_reset_131 (fun H locs Wd => ?_)
  refine lv_aload_n hx hb d_TankArenaModel_reset_132 rfl (lv_at hl 0 rfl) ?_
  refine kx_get (k := 0) (i := 0) (v := .ref (ad 21 0)) X Wd (iy 0 (by decide)) rfl fg_TankArenaModel_70 rfl d_TankArenaModel_reset_133 ?_
  refine lv_iload_n hx hb d_TankArenaModel_reset_136 rfl (lv_at hl 1 rfl) ?_
  refine lv_iconst (v := 1) hx hb d_TankArenaModel_reset_137 (by decide) ?_
  refine kx_zast (k := 21) (i := 0) (j := t) (t0 := 1) X Wd (iy 21 (by decide)) rell21 rfl rfl ht (by decide) rfl d_TankArenaModel_reset_138 (fun H locs Wd => ?_)
  refine lv_aload_n hx hb d_TankArenaModel_reset_139 rfl (lv_at hl 0 rfl) ?_
  refine lv_iload_n hx hb d_TankArenaModel_reset_140 rfl (lv_at hl 1 rfl) ?_
  refine kc_Vv (As := [.int (nI t)]) [] X Wd (k_g_Rforget l D cI cZ ad (up3 (up3 (up3 (up3 (up3 (up3 (up3 (up3 (up3 (up3 (up3 (up3 (up3 (up3 (up3 g 8 0 t (g 1 0 t)) 9 0 t (g 2 0 t)) 10 0 t (g 3 0 t)) 11 0 t (g 3 0 t)) 12 0 t (g 3 0 t)) 13 0 t 0) 14 0 t 0) 15 0 t 800) 16 0 t 24) 17 0 t 0) 18 0 (2 * t) 0) 18 0 (2 * t + 1) 0) 19 0 t 0) 20 0 t 0) 21 0 t 1) t ht (nI t) rfl) cV_TankArenaModel_114 (kx_recv (k := 0) (i := 0) X Wd (iy 0 (by decide)) rfl rfl) rfl rfl hl.1 ⟨rfl, rfl⟩ ⟨Nat.le_of_ble_eq_true rfl, Nat.le_of_ble_eq_true rfl⟩ (Nat.le_of_ble_eq_true rfl) ⟨Nat.zero_le _, Nat.zero_le _⟩ d_TankArenaModel_reset_141 (fun u H locs hp Wd => ?_)
  rw [hp] at Wd
  clear hp
  have Wd : WR D cI cZ ad _ s.heap (g_Rforget (up3 (up3 (up3 (up3 (up3 (up3 (up3 (up3 (up3 (up3 (up3 (up3 (up3 (up3 (up3 g 8 0 t (g 1 0 t)) 9 0 t (g 2 0 t)) 10 0 t (g 3 0 t)) 11 0 t (g 3 0 t)) 12 0 t (g 3 0 t)) 13 0 t 0) 14 0 t 0) 15 0 t 800) 16 0 t 24) 17 0 t 0) 18 0 (2 * t) 0) 18 0 (2 * t + 1) 0) 19 0 t 0) 20 0 t 0) 21 0 t 1) t) H locs := Wd
  exact kx_vret (u := g_Rforget (up3 (up3 (up3 (up3 (up3 (up3 (up3 (up3 (up3 (up3 (up3 (up3 (up3 (up3 (up3 g 8 0 t (g 1 0 t)) 9 0 t (g 2 0 t)) 10 0 t (g 3 0 t)) 11 0 t (g 3 0 t)) 12 0 t (g 3 0 t)) 13 0 t 0) 14 0 t 0) 15 0 t 800) 16 0 t 24) 17 0 t 0) 18 0 (2 * t) 0) 18 0 (2 * t + 1) 0) 19 0 t 0) 20 0 t 0) 21 0 t 1) t) X Wd (by rw [g_Rreset]) d_TankArenaModel_reset_144
abbrev RM_f_Rin : Room := { frames := 0, cells := 0, slots := 0, locals := 0 }
set_option maxHeartbeats 1000000 in
set_option maxRecDepth 100000 in
theorem k_f_Rin (l : Launch) (D : va_G) (cI cZ : ClassId) (ad : Nat → Nat → Nat) (g : SG) (v : Int32) (lo : Int32) (hi : Int32) : RI l y_TankArenaModel_in b_TankArenaModel_in 3 (some .boolean) RM_f_Rin D cI cZ ad [.int v, .int lo, .int hi] g (fun (r : Int32) (u : SG) => r = f_Rin v lo hi ∧ u = g) := by
  refine met_of (cc := b_TankArenaModel_in) (nL := 3) (ret := (some .boolean)) (by decide) rfl (Nat.le_of_ble_eq_true rfl) ?_
  intro p e s m below meth c X hnm Wd ls hl
  have X := X.tt
  have hx := X.1
  have hb := X.2.1
  have hown := X.2.2.2.1
  have hts := X.2.2.2.2.1
  have hl : lv_has ls 3 [(0, .int v), (1, .int lo), (2, .int hi)] := hl
  have Wd : WR D cI cZ ad (va_A (gR cI cZ ad g) s.heap.size) s.heap g s.heap [] := Wd
  refine lv_iload_n hx hb d_TankArenaModel_in_0 rfl (lv_at hl 0 rfl) ?_
  refine lv_iload_n hx hb d_TankArenaModel_in_1 rfl (lv_at hl 1 rfl) ?_
  refine lv_icmp_lt (tgt := 14) hx hb d_TankArenaModel_in_2 (by decide) (fun c_1 => ?_) (fun c_1 => ?_)
  · skip
    refine lv_iconst (v := 0) hx hb d_TankArenaModel_in_14 (by decide) ?_
    exact kx_iret (u := g) X rfl Wd ⟨by rw [f_Rin, if_pos c_1], rfl⟩ d_TankArenaModel_in_15
  · skip
    refine lv_iload_n hx hb d_TankArenaModel_in_5 rfl (lv_at hl 0 rfl) ?_
    refine lv_iload_n hx hb d_TankArenaModel_in_6 rfl (lv_at hl 2 rfl) ?_
    refine lv_icmp_gt (tgt := 14) hx hb d_TankArenaModel_in_7 (by decide) (fun c_2 => ?_) (fun c_2 => ?_)
    · skip
      refine lv_iconst (v := 0) hx hb d_TankArenaModel_in_14 (by decide) ?_
      exact kx_iret (u := g) X rfl Wd ⟨by rw [f_Rin, if_neg c_1, if_pos c_2], rfl⟩ d_TankArenaModel_in_15
    · skip
      refine lv_iconst (v := 1) hx hb d_TankArenaModel_in_10 (by decide) ?_
      refine lv_goto (tgt := 15) hx hb d_TankArenaModel_in_11 (by decide) ?_
      exact kx_iret (u := g) X rfl Wd ⟨by rw [f_Rin, if_neg c_1, if_neg c_2], rfl⟩ d_TankArenaModel_in_15
abbrev RM_f_Rfits : Room := { frames := 1, cells := 0, slots := 0, locals := 22 }
set_option maxHeartbeats 1000000 in
set_option maxRecDepth 100000 in
theorem k_f_Rfits (l : Launch) (D : va_G) (cI cZ : ClassId) (ad : Nat → Nat → Nat) (g : SG) (op : Int32) (a : Int32) (b : Int32) : RI l y_TankArenaModel_fits b_TankArenaModel_fits 3 (some .boolean) RM_f_Rfits D cI cZ ad [.int op, .int a, .int b] g (fun (r : Int32) (u : SG) => r = f_Rfits op a b ∧ u = g) := by
  refine met_of (cc := b_TankArenaModel_fits) (nL := 3) (ret := (some .boolean)) (by decide) rfl (Nat.le_of_ble_eq_true rfl) ?_
  intro p e s m below meth c X hnm Wd ls hl
  have X := X.tt
  have hx := X.1
  have hb := X.2.1
  have hown := X.2.2.2.1
  have hts := X.2.2.2.2.1
  have hl : lv_has ls 3 [(0, .int op), (1, .int a), (2, .int b)] := hl
  have Wd : WR D cI cZ ad (va_A (gR cI cZ ad g) s.heap.size) s.heap g s.heap [] := Wd
  refine lv_iload_n hx hb d_TankArenaModel_fits_0 rfl (lv_at hl 0 rfl) ?_
  refine lv_if_ne (tgt := 6) hx hb d_TankArenaModel_fits_1 (by decide) (fun c_1 => ?_) (fun c_1 => ?_)
  · skip
    refine lv_iload_n hx hb d_TankArenaModel_fits_6 rfl (lv_at hl 0 rfl) ?_
    refine lv_iconst (v := 1) hx hb d_TankArenaModel_fits_7 (by decide) ?_
    refine lv_icmp_ne (tgt := 19) hx hb d_TankArenaModel_fits_8 (by decide) (fun c_2 => ?_) (fun c_2 => ?_)
    · skip
      refine lv_iload_n hx hb d_TankArenaModel_fits_19 rfl (lv_at hl 0 rfl) ?_
      refine lv_iconst (v := 5) hx hb d_TankArenaModel_fits_20 (by decide) ?_
      refine lv_icmp_ge (tgt := 31) hx hb d_TankArenaModel_fits_21 (by decide) (fun c_3 => ?_) (fun c_3 => ?_)
      · skip
        refine lv_iload_n hx hb d_TankArenaModel_fits_31 rfl (lv_at hl 0 rfl) ?_
        refine lv_iconst (v := 5) hx hb d_TankArenaModel_fits_32 (by decide) ?_
        refine lv_icmp_ne (tgt := 43) hx hb d_TankArenaModel_fits_33 (by decide) (fun c_4 => ?_) (fun c_4 => ?_)
        · skip
          refine lv_iload_n hx hb d_TankArenaModel_fits_43 rfl (lv_at hl 0 rfl) ?_
          refine lv_bipush (v := 11) hx hb d_TankArenaModel_fits_44 (by decide) ?_
          refine lv_icmp_ge (tgt := 57) hx hb d_TankArenaModel_fits_46 (by decide) (fun c_5 => ?_) (fun c_5 => ?_)
          · skip
            refine lv_iload_n hx hb d_TankArenaModel_fits_57 rfl (lv_at hl 0 rfl) ?_
            refine lv_bipush (v := 11) hx hb d_TankArenaModel_fits_58 (by decide) ?_
            refine lv_icmp_ne (tgt := 90) hx hb d_TankArenaModel_fits_60 (by decide) (fun c_6 => ?_) (fun c_6 => ?_)
            · skip
              refine lv_iload_n hx hb d_TankArenaModel_fits_90 rfl (lv_at hl 1 rfl) ?_
              refine lv_iconst (v := 0) hx hb d_TankArenaModel_fits_91 (by decide) ?_
              refine lv_bipush (v := 15) hx hb d_TankArenaModel_fits_92 (by decide) ?_
              refine kc_Si (As := [.int a, .int 0, .int 15]) [] X Wd (k_f_Rin l D cI cZ ad g a 0 15) cS_TankArenaModel_129 rfl rfl hl.1 ⟨rfl, rfl⟩ ⟨Nat.le_of_ble_eq_true rfl, Nat.le_of_ble_eq_true rfl⟩ (Nat.le_of_ble_eq_true rfl) ⟨Nat.zero_le _, Nat.zero_le _⟩ d_TankArenaModel_fits_94 (fun r u H locs hp Wd => ?_)
              obtain ⟨hr, hu⟩ := hp
              rw [hu] at Wd
              rw [hr]
              clear hr hu
              refine lv_if_eq (tgt := 113) hx hb d_TankArenaModel_fits_97 (by decide) (fun c_7 => ?_) (fun c_7 => ?_)
              · skip
                refine lv_iconst (v := 0) hx hb d_TankArenaModel_fits_113 (by decide) ?_
                exact kx_iret (u := g) X rfl Wd ⟨by rw [f_Rfits, if_neg c_1, if_neg c_2, if_pos c_3, if_neg c_4, if_pos c_5, if_neg c_6, if_pos c_7], rfl⟩ d_TankArenaModel_fits_114
              · skip
                refine lv_iload_n hx hb d_TankArenaModel_fits_100 rfl (lv_at hl 2 rfl) ?_
                refine lv_iconst (v := 0) hx hb d_TankArenaModel_fits_101 (by decide) ?_
                refine lv_iconst (v := 1) hx hb d_TankArenaModel_fits_102 (by decide) ?_
                refine kc_Si (As := [.int b, .int 0, .int 1]) [] X Wd (k_f_Rin l D cI cZ ad g b 0 1) cS_TankArenaModel_129 rfl rfl hl.1 ⟨rfl, rfl⟩ ⟨Nat.le_of_ble_eq_true rfl, Nat.le_of_ble_eq_true rfl⟩ (Nat.le_of_ble_eq_true rfl) ⟨Nat.zero_le _, Nat.zero_le _⟩ d_TankArenaModel_fits_103 (fun r u H locs hp Wd => ?_)
                obtain ⟨hr, hu⟩ := hp
                rw [hu] at Wd
                rw [hr]
                clear hr hu
                refine lv_if_eq (tgt := 113) hx hb d_TankArenaModel_fits_106 (by decide) (fun c_8 => ?_) (fun c_8 => ?_)
                · skip
                  refine lv_iconst (v := 0) hx hb d_TankArenaModel_fits_113 (by decide) ?_
                  exact kx_iret (u := g) X rfl Wd ⟨by rw [f_Rfits, if_neg c_1, if_neg c_2, if_pos c_3, if_neg c_4, if_pos c_5, if_neg c_6, if_neg c_7, if_pos c_8], rfl⟩ d_TankArenaModel_fits_114
                · skip
                  refine lv_iconst (v := 1) hx hb d_TankArenaModel_fits_109 (by decide) ?_
                  refine lv_goto (tgt := 114) hx hb d_TankArenaModel_fits_110 (by decide) ?_
                  exact kx_iret (u := g) X rfl Wd ⟨by rw [f_Rfits, if_neg c_1, if_neg c_2, if_pos c_3, if_neg c_4, if_pos c_5, if_neg c_6, if_neg c_7, if_neg c_8], rfl⟩ d_TankArenaModel_fits_114
            · skip
              refine lv_iload_n hx hb d_TankArenaModel_fits_63 rfl (lv_at hl 1 rfl) ?_
              refine lv_iconst (v := 0) hx hb d_TankArenaModel_fits_64 (by decide) ?_
              refine lv_iconst (v := 1) hx hb d_TankArenaModel_fits_65 (by decide) ?_
              refine kc_Si (As := [.int a, .int 0, .int 1]) [] X Wd (k_f_Rin l D cI cZ ad g a 0 1) cS_TankArenaModel_129 rfl rfl hl.1 ⟨rfl, rfl⟩ ⟨Nat.le_of_ble_eq_true rfl, Nat.le_of_ble_eq_true rfl⟩ (Nat.le_of_ble_eq_true rfl) ⟨Nat.zero_le _, Nat.zero_le _⟩ d_TankArenaModel_fits_66 (fun r u H locs hp Wd => ?_)
              obtain ⟨hr, hu⟩ := hp
              rw [hu] at Wd
              rw [hr]
              clear hr hu
              refine lv_if_eq (tgt := 86) hx hb d_TankArenaModel_fits_69 (by decide) (fun c_9 => ?_) (fun c_9 => ?_)
              · skip
                refine lv_iconst (v := 0) hx hb d_TankArenaModel_fits_86 (by decide) ?_
                refine lv_goto (tgt := 114) hx hb d_TankArenaModel_fits_87 (by decide) ?_
                exact kx_iret (u := g) X rfl Wd ⟨by rw [f_Rfits, if_neg c_1, if_neg c_2, if_pos c_3, if_neg c_4, if_pos c_5, if_pos c_6, if_pos c_9], rfl⟩ d_TankArenaModel_fits_114
              · skip
                refine lv_iload_n hx hb d_TankArenaModel_fits_72 rfl (lv_at hl 2 rfl) ?_
                refine lv_iconst (v := 0) hx hb d_TankArenaModel_fits_73 (by decide) ?_
                refine lv_bipush (v := 100) hx hb d_TankArenaModel_fits_74 (by decide) ?_
                refine kc_Si (As := [.int b, .int 0, .int 100]) [] X Wd (k_f_Rin l D cI cZ ad g b 0 100) cS_TankArenaModel_129 rfl rfl hl.1 ⟨rfl, rfl⟩ ⟨Nat.le_of_ble_eq_true rfl, Nat.le_of_ble_eq_true rfl⟩ (Nat.le_of_ble_eq_true rfl) ⟨Nat.zero_le _, Nat.zero_le _⟩ d_TankArenaModel_fits_76 (fun r u H locs hp Wd => ?_)
                obtain ⟨hr, hu⟩ := hp
                rw [hu] at Wd
                rw [hr]
                clear hr hu
                refine lv_if_eq (tgt := 86) hx hb d_TankArenaModel_fits_79 (by decide) (fun c_10 => ?_) (fun c_10 => ?_)
                · skip
                  refine lv_iconst (v := 0) hx hb d_TankArenaModel_fits_86 (by decide) ?_
                  refine lv_goto (tgt := 114) hx hb d_TankArenaModel_fits_87 (by decide) ?_
                  exact kx_iret (u := g) X rfl Wd ⟨by rw [f_Rfits, if_neg c_1, if_neg c_2, if_pos c_3, if_neg c_4, if_pos c_5, if_pos c_6, if_neg c_9, if_pos c_10], rfl⟩ d_TankArenaModel_fits_114
                · skip
                  refine lv_iconst (v := 1) hx hb d_TankArenaModel_fits_82 (by decide) ?_
                  refine lv_goto (tgt := 114) hx hb d_TankArenaModel_fits_83 (by decide) ?_
                  exact kx_iret (u := g) X rfl Wd ⟨by rw [f_Rfits, if_neg c_1, if_neg c_2, if_pos c_3, if_neg c_4, if_pos c_5, if_pos c_6, if_neg c_9, if_neg c_10], rfl⟩ d_TankArenaModel_fits_114
          · skip
            refine lv_iload_n hx hb d_TankArenaModel_fits_49 rfl (lv_at hl 1 rfl) ?_
            refine lv_iconst (v := 0) hx hb d_TankArenaModel_fits_50 (by decide) ?_
            refine lv_bipush (v := 15) hx hb d_TankArenaModel_fits_51 (by decide) ?_
            refine kc_Si (As := [.int a, .int 0, .int 15]) [] X Wd (k_f_Rin l D cI cZ ad g a 0 15) cS_TankArenaModel_129 rfl rfl hl.1 ⟨rfl, rfl⟩ ⟨Nat.le_of_ble_eq_true rfl, Nat.le_of_ble_eq_true rfl⟩ (Nat.le_of_ble_eq_true rfl) ⟨Nat.zero_le _, Nat.zero_le _⟩ d_TankArenaModel_fits_53 (fun r u H locs hp Wd => ?_)
            obtain ⟨hr, hu⟩ := hp
            rw [hu] at Wd
            rw [hr]
            clear hr hu
            exact kx_iret (u := g) X (nar01 (z_Rin ..)) Wd ⟨by rw [f_Rfits, if_neg c_1, if_neg c_2, if_pos c_3, if_neg c_4, if_neg c_5], rfl⟩ d_TankArenaModel_fits_56
        · skip
          refine lv_iload_n hx hb d_TankArenaModel_fits_36 rfl (lv_at hl 1 rfl) ?_
          refine lv_iconst (v := 1) hx hb d_TankArenaModel_fits_37 (by decide) ?_
          refine lv_iconst (v := 3) hx hb d_TankArenaModel_fits_38 (by decide) ?_
          refine kc_Si (As := [.int a, .int 1, .int 3]) [] X Wd (k_f_Rin l D cI cZ ad g a 1 3) cS_TankArenaModel_129 rfl rfl hl.1 ⟨rfl, rfl⟩ ⟨Nat.le_of_ble_eq_true rfl, Nat.le_of_ble_eq_true rfl⟩ (Nat.le_of_ble_eq_true rfl) ⟨Nat.zero_le _, Nat.zero_le _⟩ d_TankArenaModel_fits_39 (fun r u H locs hp Wd => ?_)
          obtain ⟨hr, hu⟩ := hp
          rw [hu] at Wd
          rw [hr]
          clear hr hu
          exact kx_iret (u := g) X (nar01 (z_Rin ..)) Wd ⟨by rw [f_Rfits, if_neg c_1, if_neg c_2, if_pos c_3, if_pos c_4], rfl⟩ d_TankArenaModel_fits_42
      · skip
        refine lv_iload_n hx hb d_TankArenaModel_fits_24 rfl (lv_at hl 1 rfl) ?_
        refine lv_iconst (v := -1) hx hb d_TankArenaModel_fits_25 (by decide) ?_
        refine lv_iconst (v := 1) hx hb d_TankArenaModel_fits_26 (by decide) ?_
        refine kc_Si (As := [.int a, .int (-1), .int 1]) [] X Wd (k_f_Rin l D cI cZ ad g a (-1) 1) cS_TankArenaModel_129 rfl rfl hl.1 ⟨rfl, rfl⟩ ⟨Nat.le_of_ble_eq_true rfl, Nat.le_of_ble_eq_true rfl⟩ (Nat.le_of_ble_eq_true rfl) ⟨Nat.zero_le _, Nat.zero_le _⟩ d_TankArenaModel_fits_27 (fun r u H locs hp Wd => ?_)
        obtain ⟨hr, hu⟩ := hp
        rw [hu] at Wd
        rw [hr]
        clear hr hu
        exact kx_iret (u := g) X (nar01 (z_Rin ..)) Wd ⟨by rw [f_Rfits, if_neg c_1, if_neg c_2, if_neg c_3], rfl⟩ d_TankArenaModel_fits_30
    · skip
      refine lv_iload_n hx hb d_TankArenaModel_fits_11 rfl (lv_at hl 1 rfl) ?_
      refine lv_iconst (v := 0) hx hb d_TankArenaModel_fits_12 (by decide) ?_
      refine lv_bipush (v := 8) hx hb d_TankArenaModel_fits_13 (by decide) ?_
      refine kc_Si (As := [.int a, .int 0, .int 8]) [] X Wd (k_f_Rin l D cI cZ ad g a 0 8) cS_TankArenaModel_129 rfl rfl hl.1 ⟨rfl, rfl⟩ ⟨Nat.le_of_ble_eq_true rfl, Nat.le_of_ble_eq_true rfl⟩ (Nat.le_of_ble_eq_true rfl) ⟨Nat.zero_le _, Nat.zero_le _⟩ d_TankArenaModel_fits_15 (fun r u H locs hp Wd => ?_)
      obtain ⟨hr, hu⟩ := hp
      rw [hu] at Wd
      rw [hr]
      clear hr hu
      exact kx_iret (u := g) X (nar01 (z_Rin ..)) Wd ⟨by rw [f_Rfits, if_neg c_1, if_pos c_2], rfl⟩ d_TankArenaModel_fits_18
  · skip
    refine lv_iconst (v := 1) hx hb d_TankArenaModel_fits_4 (by decide) ?_
    exact kx_iret (u := g) X rfl Wd ⟨by rw [f_Rfits, if_pos c_1], rfl⟩ d_TankArenaModel_fits_5
abbrev RM_x_Renter : Room := { frames := 2, cells := 0, slots := 0, locals := 42 }
set_option maxHeartbeats 1000000 in
set_option maxRecDepth 100000 in
theorem k_x_Renter (l : Launch) (D : va_G) (cI cZ : ClassId) (ad : Nat → Nat → Nat) (g : SG) (px : Int32) (py : Int32) (hd : Int32) (N : Nat) (ok : RokN N g) : RI l y_TankArenaModel_enter b_TankArenaModel_enter 5 (some .int) RM_x_Renter D cI cZ ad [.ref (ad 0 0), .int px, .int py, .int hd] g (fun (r : Int32) (u : SG) => r = (x_Renter g px py hd).1 ∧ u = (x_Renter g px py hd).2) := by
  refine met_of (cc := b_TankArenaModel_enter) (nL := 5) (ret := (some .int)) (by decide) rfl (Nat.le_of_ble_eq_true rfl) ?_
  intro p e s m below meth c X hnm Wd ls hl
  have X := X.tt
  have hx := X.1
  have hb := X.2.1
  have hown := X.2.2.2.1
  have hts := X.2.2.2.2.1
  have hl : lv_has ls 5 [(0, .ref (ad 0 0)), (1, .int px), (2, .int py), (3, .int hd)] := hl
  have Wd : WR D cI cZ ad (va_A (gR cI cZ ad g) s.heap.size) s.heap g s.heap [] := Wd
  obtain ⟨hN4, eN⟩ := ok.N
  refine lv_iload_n hx hb d_TankArenaModel_enter_0 rfl (lv_at hl 1 rfl) ?_
  refine lv_iconst (v := 2) hx hb d_TankArenaModel_enter_1 (by decide) ?_
  refine lv_icmp_lt (tgt := 47) hx hb d_TankArenaModel_enter_2 (by decide) (fun c_1 => ?_) (fun c_1 => ?_)
  · skip
    refine lv_ldc (v := -1000000) hx hb hown (hts _ w_bc879909c1) d_TankArenaModel_enter_47 ?_
    exact kx_iret (u := g) X rfl Wd (by rw [x_Renter, if_pos c_1]; dsimp only; exact ⟨rfl, rfl⟩) d_TankArenaModel_enter_49
  · skip
    refine lv_iload_n hx hb d_TankArenaModel_enter_5 rfl (lv_at hl 1 rfl) ?_
    refine lv_bipush (v := 62) hx hb d_TankArenaModel_enter_6 (by decide) ?_
    refine lv_icmp_gt (tgt := 47) hx hb d_TankArenaModel_enter_8 (by decide) (fun c_2 => ?_) (fun c_2 => ?_)
    · skip
      refine lv_ldc (v := -1000000) hx hb hown (hts _ w_bc879909c1) d_TankArenaModel_enter_47 ?_
      exact kx_iret (u := g) X rfl Wd (by rw [x_Renter, if_neg c_1, if_pos c_2]; dsimp only; exact ⟨rfl, rfl⟩) d_TankArenaModel_enter_49
    · skip
      refine lv_iload_n hx hb d_TankArenaModel_enter_11 rfl (lv_at hl 2 rfl) ?_
      refine lv_iconst (v := 2) hx hb d_TankArenaModel_enter_12 (by decide) ?_
      refine lv_icmp_lt (tgt := 47) hx hb d_TankArenaModel_enter_13 (by decide) (fun c_3 => ?_) (fun c_3 => ?_)
      · skip
        refine lv_ldc (v := -1000000) hx hb hown (hts _ w_bc879909c1) d_TankArenaModel_enter_47 ?_
        exact kx_iret (u := g) X rfl Wd (by rw [x_Renter, if_neg c_1, if_neg c_2, if_pos c_3]; dsimp only; exact ⟨rfl, rfl⟩) d_TankArenaModel_enter_49
      · skip
        refine lv_iload_n hx hb d_TankArenaModel_enter_16 rfl (lv_at hl 2 rfl) ?_
        refine lv_bipush (v := 62) hx hb d_TankArenaModel_enter_17 (by decide) ?_
        refine lv_icmp_gt (tgt := 47) hx hb d_TankArenaModel_enter_19 (by decide) (fun c_4 => ?_) (fun c_4 => ?_)
        · skip
          refine lv_ldc (v := -1000000) hx hb hown (hts _ w_bc879909c1) d_TankArenaModel_enter_47 ?_
          exact kx_iret (u := g) X rfl Wd (by rw [x_Renter, if_neg c_1, if_neg c_2, if_neg c_3, if_pos c_4]; dsimp only; exact ⟨rfl, rfl⟩) d_TankArenaModel_enter_49
        · skip
          refine lv_iload_n hx hb d_TankArenaModel_enter_22 rfl (lv_at hl 3 rfl) ?_
          refine lv_if_lt (tgt := 47) hx hb d_TankArenaModel_enter_23 (by decide) (fun c_5 => ?_) (fun c_5 => ?_)
          · skip
            refine lv_ldc (v := -1000000) hx hb hown (hts _ w_bc879909c1) d_TankArenaModel_enter_47 ?_
            exact kx_iret (u := g) X rfl Wd (by rw [x_Renter, if_neg c_1, if_neg c_2, if_neg c_3, if_neg c_4, if_pos c_5]; dsimp only; exact ⟨rfl, rfl⟩) d_TankArenaModel_enter_49
          · skip
            refine lv_iload_n hx hb d_TankArenaModel_enter_26 rfl (lv_at hl 3 rfl) ?_
            refine lv_bipush (v := 7) hx hb d_TankArenaModel_enter_27 (by decide) ?_
            refine lv_icmp_gt (tgt := 47) hx hb d_TankArenaModel_enter_29 (by decide) (fun c_6 => ?_) (fun c_6 => ?_)
            · skip
              refine lv_ldc (v := -1000000) hx hb hown (hts _ w_bc879909c1) d_TankArenaModel_enter_47 ?_
              exact kx_iret (u := g) X rfl Wd (by rw [x_Renter, if_neg c_1, if_neg c_2, if_neg c_3, if_neg c_4, if_neg c_5, if_pos c_6]; dsimp only; exact ⟨rfl, rfl⟩) d_TankArenaModel_enter_49
            · skip
              refine lv_aload_n hx hb d_TankArenaModel_enter_32 rfl (lv_at hl 0 rfl) ?_
              refine kx_geto (k := 0) (i := 0) 1 (g 0 0 1) X Wd (iy 0 (by decide)) rell0 fg_TankArenaModel_118 (fun _ => rfl) rfl d_TankArenaModel_enter_33 ?_
              refine lv_if_gt (tgt := 47) hx hb d_TankArenaModel_enter_36 (by decide) (fun c_7 => ?_) (fun c_7 => ?_)
              · skip
                refine lv_ldc (v := -1000000) hx hb hown (hts _ w_bc879909c1) d_TankArenaModel_enter_47 ?_
                exact kx_iret (u := g) X rfl Wd (by rw [x_Renter, if_neg c_1, if_neg c_2, if_neg c_3, if_neg c_4, if_neg c_5, if_neg c_6, if_pos c_7]; dsimp only; exact ⟨rfl, rfl⟩) d_TankArenaModel_enter_49
              · skip
                refine lv_aload_n hx hb d_TankArenaModel_enter_39 rfl (lv_at hl 0 rfl) ?_
                refine kx_geto (k := 0) (i := 0) 0 (g 0 0 0) X Wd (iy 0 (by decide)) rell0 fg_TankArenaModel_122 (fun _ => rfl) rfl d_TankArenaModel_enter_40 ?_
                refine lv_iconst (v := 4) hx hb d_TankArenaModel_enter_43 (by decide) ?_
                refine lv_icmp_ne (tgt := 50) hx hb d_TankArenaModel_enter_44 (by decide) (fun c_8 => ?_) (fun c_8 => ?_)
                · skip
                  obtain ⟨es, hs⟩ := ne4_j (ok.1.1 0 0 0) c_8
                  refine lv_iconst (v := 0) hx hb d_TankArenaModel_enter_50 (by decide) ?_
                  refine lv_istore (lv' := [(4, .int 0), (0, .ref (ad 0 0)), (1, .int px), (2, .int py), (3, .int hd)]) hx hb d_TankArenaModel_enter_51 hl (by decide) rfl (fun ls hl => ?_)
                  have loop : ∀ (n : Nat) (i : Nat), i ≤ N → N + 1 ≤ i + n → x_Renter g px py hd = L_Renter g px py hd n i → ∀ (H : Heap) (locs : List Loc), WR D cI cZ ad (va_A (gR cI cZ ad g) s.heap.size) s.heap g H locs → ∀ ls : Array Slot, lv_has ls 5 [(0, .ref (ad 0 0)), (1, .int px), (2, .int py), (3, .int hd), (4, .int (nI i))] → W p l e RM_x_Renter s m [.ref (ad 0 0), .int px, .int py, .int hd].toArray below meth c H locs 0 0 (YI D cI cZ ad below [.ref (ad 0 0), .int px, .int py, .int hd] s g (fun (r : Int32) (u : SG) => r = (x_Renter g px py hd).1 ∧ u = (x_Renter g px py hd).2)) (F0 m 53 ls []) := by
                    intro n
                    induction n with
                    | zero =>
                      intro i hv0 hv1
                      exfalso
                      omega
                    | succ n ih =>
                      intro i hv0 hv1 htg H locs Wd ls hl
                      refine lv_iload hx hb d_TankArenaModel_enter_53 (lv_at hl 4 rfl) ?_
                      refine lv_aload_n hx hb d_TankArenaModel_enter_55 rfl (lv_at hl 0 rfl) ?_
                      refine kx_geto (k := 0) (i := 0) 0 (g 0 0 0) X Wd (iy 0 (by decide)) rell0 fg_TankArenaModel_122 (fun _ => rfl) rfl d_TankArenaModel_enter_56 ?_
                      refine lv_icmp_ge (tgt := 111) hx hb d_TankArenaModel_enter_59 (by decide) (fun c_9 => ?_) (fun c_9 => ?_)
                      · skip
                        refine lv_aload_n hx hb d_TankArenaModel_enter_111 rfl (lv_at hl 0 rfl) ?_
                        refine kx_get (k := 0) (i := 0) (v := .ref (ad 1 0)) X Wd (iy 0 (by decide)) rfl fg_TankArenaModel_7 rfl d_TankArenaModel_enter_112 ?_
                        refine lv_aload_n hx hb d_TankArenaModel_enter_115 rfl (lv_at hl 0 rfl) ?_
                        refine kx_geto (k := 0) (i := 0) 0 (g 0 0 0) X Wd (iy 0 (by decide)) rell0 fg_TankArenaModel_122 (fun _ => rfl) rfl d_TankArenaModel_enter_116 ?_
                        refine lv_bipush (v := 8) hx hb d_TankArenaModel_enter_119 (by decide) ?_
                        refine lv_iload_n hx hb d_TankArenaModel_enter_121 rfl (lv_at hl 1 rfl) ?_
                        refine lv_imul hx hb d_TankArenaModel_enter_122 ?_
                        refine kx_iast (k := 1) (i := 0) (j := (g 0 0 0).toNatClampNeg) (t0 := 0) X Wd (iy 1 (by decide)) rell1 rfl es hs (by decide) d_TankArenaModel_enter_123 (fun H locs Wd => ?_)
                        refine lv_aload_n hx hb d_TankArenaModel_enter_124 rfl (lv_at hl 0 rfl) ?_
                        refine kx_get (k := 0) (i := 0) (v := .ref (ad 2 0)) X Wd (iy 0 (by decide)) rfl fg_TankArenaModel_13 rfl d_TankArenaModel_enter_125 ?_
                        refine lv_aload_n hx hb d_TankArenaModel_enter_128 rfl (lv_at hl 0 rfl) ?_
                        refine kx_geto (k := 0) (i := 0) 0 (g 0 0 0) X Wd (iy 0 (by decide)) rell0 fg_TankArenaModel_122 (fun _ => rfl) (by simp [up3]) d_TankArenaModel_enter_129 ?_
                        refine lv_bipush (v := 8) hx hb d_TankArenaModel_enter_132 (by decide) ?_
                        refine lv_iload_n hx hb d_TankArenaModel_enter_134 rfl (lv_at hl 2 rfl) ?_
                        refine lv_imul hx hb d_TankArenaModel_enter_135 ?_
                        refine kx_iast (k := 2) (i := 0) (j := (g 0 0 0).toNatClampNeg) (t0 := 0) X Wd (iy 2 (by decide)) rell2 rfl es hs (by decide) d_TankArenaModel_enter_136 (fun H locs Wd => ?_)
                        refine lv_aload_n hx hb d_TankArenaModel_enter_137 rfl (lv_at hl 0 rfl) ?_
                        refine kx_get (k := 0) (i := 0) (v := .ref (ad 3 0)) X Wd (iy 0 (by decide)) rfl fg_TankArenaModel_16 rfl d_TankArenaModel_enter_138 ?_
                        refine lv_aload_n hx hb d_TankArenaModel_enter_141 rfl (lv_at hl 0 rfl) ?_
                        refine kx_geto (k := 0) (i := 0) 0 (g 0 0 0) X Wd (iy 0 (by decide)) rell0 fg_TankArenaModel_122 (fun _ => rfl) (by simp [up3]) d_TankArenaModel_enter_142 ?_
                        refine lv_iload_n hx hb d_TankArenaModel_enter_145 rfl (lv_at hl 3 rfl) ?_
                        refine kx_iast (k := 3) (i := 0) (j := (g 0 0 0).toNatClampNeg) (t0 := 0) X Wd (iy 3 (by decide)) rell3 rfl es hs (by decide) d_TankArenaModel_enter_146 (fun H locs Wd => ?_)
                        refine lv_aload_n hx hb d_TankArenaModel_enter_147 rfl (lv_at hl 0 rfl) ?_
                        refine lv_aload_n hx hb d_TankArenaModel_enter_148 rfl (lv_at hl 0 rfl) ?_
                        refine kx_geto (k := 0) (i := 0) 0 (g 0 0 0) X Wd (iy 0 (by decide)) rell0 fg_TankArenaModel_122 (fun _ => rfl) (by simp [up3]) d_TankArenaModel_enter_149 ?_
                        refine kc_Vv (As := [.int (g 0 0 0)]) [] X Wd (k_g_Rreset l D cI cZ ad (up3 (up3 (up3 g 1 0 ((g 0 0 0).toNatClampNeg) (8 * px)) 2 0 ((g 0 0 0).toNatClampNeg) (8 * py)) 3 0 ((g 0 0 0).toNatClampNeg) hd) ((g 0 0 0).toNatClampNeg) hs (g 0 0 0) es) cV_TankArenaModel_126 (kx_recv (k := 0) (i := 0) X Wd (iy 0 (by decide)) rfl rfl) rfl rfl hl.1 ⟨rfl, rfl⟩ ⟨Nat.le_of_ble_eq_true rfl, Nat.le_of_ble_eq_true rfl⟩ (Nat.le_of_ble_eq_true rfl) ⟨Nat.zero_le _, Nat.zero_le _⟩ d_TankArenaModel_enter_152 (fun u H locs hp Wd => ?_)
                        rw [hp] at Wd
                        clear hp
                        have Wd : WR D cI cZ ad _ s.heap (g_Rreset (up3 (up3 (up3 g 1 0 ((g 0 0 0).toNatClampNeg) (8 * px)) 2 0 ((g 0 0 0).toNatClampNeg) (8 * py)) 3 0 ((g 0 0 0).toNatClampNeg) hd) ((g 0 0 0).toNatClampNeg)) H locs := Wd
                        refine lv_aload_n hx hb d_TankArenaModel_enter_155 rfl (lv_at hl 0 rfl) ?_
                        refine lv_dup hx hb d_TankArenaModel_enter_156 rfl ?_
                        refine kx_geto (k := 0) (i := 0) 0 ((g_Rreset (up3 (up3 (up3 g 1 0 ((g 0 0 0).toNatClampNeg) (8 * px)) 2 0 ((g 0 0 0).toNatClampNeg) (8 * py)) 3 0 ((g 0 0 0).toNatClampNeg) hd) ((g 0 0 0).toNatClampNeg)) 0 0 0) X Wd (iy 0 (by decide)) rell0 fg_TankArenaModel_122 (fun _ => rfl) rfl d_TankArenaModel_enter_157 ?_
                        refine lv_iconst (v := 1) hx hb d_TankArenaModel_enter_160 (by decide) ?_
                        refine lv_iadd hx hb d_TankArenaModel_enter_161 ?_
                        refine kx_puto (k := 0) (i := 0) (v := ((g_Rreset (up3 (up3 (up3 g 1 0 ((g 0 0 0).toNatClampNeg) (8 * px)) 2 0 ((g 0 0 0).toNatClampNeg) (8 * py)) 3 0 ((g 0 0 0).toNatClampNeg) hd) ((g 0 0 0).toNatClampNeg)) 0 0 0) + 1) 0 X Wd (iy 0 (by decide)) rell0 fp_TankArenaModel_122 (fun _ => rfl) (fun _ => Nat.le_of_ble_eq_true rfl) rfl rfl d_TankArenaModel_enter_162 (fun H locs Wd => ?_)
                        refine lv_aload_n hx hb d_TankArenaModel_enter_165 rfl (lv_at hl 0 rfl) ?_
                        refine kx_geto (k := 0) (i := 0) 0 (((g_Rreset (up3 (up3 (up3 g 1 0 ((g 0 0 0).toNatClampNeg) (8 * px)) 2 0 ((g 0 0 0).toNatClampNeg) (8 * py)) 3 0 ((g 0 0 0).toNatClampNeg) hd) ((g 0 0 0).toNatClampNeg)) 0 0 0) + 1) X Wd (iy 0 (by decide)) rell0 fg_TankArenaModel_122 (fun _ => rfl) (by simp [up3]) d_TankArenaModel_enter_166 ?_
                        refine lv_iconst (v := 1) hx hb d_TankArenaModel_enter_169 (by decide) ?_
                        refine lv_isub hx hb d_TankArenaModel_enter_170 ?_
                        exact kx_iret (u := up3 (g_Rreset (up3 (up3 (up3 g 1 0 ((g 0 0 0).toNatClampNeg) (8 * px)) 2 0 ((g 0 0 0).toNatClampNeg) (8 * py)) 3 0 ((g 0 0 0).toNatClampNeg) hd) ((g 0 0 0).toNatClampNeg)) 0 0 0 (((g_Rreset (up3 (up3 (up3 g 1 0 ((g 0 0 0).toNatClampNeg) (8 * px)) 2 0 ((g 0 0 0).toNatClampNeg) (8 * py)) 3 0 ((g 0 0 0).toNatClampNeg) hd) ((g 0 0 0).toNatClampNeg)) 0 0 0) + 1)) X rfl Wd (by rw [htg, L_Renter, if_pos c_9]; dsimp only; exact ⟨rfl, rfl⟩) d_TankArenaModel_enter_171
                      · skip
                        have hiN : i < N := nlt_of eN (by omega) (by omega) c_9
                        have hi : i < 4 := by omega
                        refine lv_aload_n hx hb d_TankArenaModel_enter_62 rfl (lv_at hl 0 rfl) ?_
                        refine kx_get (k := 0) (i := 0) (v := .ref (ad 1 0)) X Wd (iy 0 (by decide)) rfl fg_TankArenaModel_7 rfl d_TankArenaModel_enter_63 ?_
                        refine lv_iload hx hb d_TankArenaModel_enter_66 (lv_at hl 4 rfl) ?_
                        refine kx_iald (k := 1) (i := 0) (j := i) (t0 := 0) X Wd (iy 1 (by decide)) rell1 rfl rfl (by omega) (by decide) d_TankArenaModel_enter_68 ?_
                        refine lv_bipush (v := 8) hx hb d_TankArenaModel_enter_69 (by decide) ?_
                        refine lv_iload_n hx hb d_TankArenaModel_enter_71 rfl (lv_at hl 1 rfl) ?_
                        refine lv_imul hx hb d_TankArenaModel_enter_72 ?_
                        refine lv_isub hx hb d_TankArenaModel_enter_73 ?_
                        refine kc_Si (As := [.int ((g 1 0 i) - (8 * px))]) [] X Wd (k_f_Rabs l D cI cZ ad g ((g 1 0 i) - (8 * px))) cS_TankArenaModel_110 rfl rfl hl.1 ⟨rfl, rfl⟩ ⟨Nat.le_of_ble_eq_true rfl, Nat.le_of_ble_eq_true rfl⟩ (Nat.le_of_ble_eq_true rfl) ⟨Nat.zero_le _, Nat.zero_le _⟩ d_TankArenaModel_enter_74 (fun r u H locs hp Wd => ?_)
                        obtain ⟨hr, hu⟩ := hp
                        rw [hu] at Wd
                        rw [hr]
                        clear hr hu
                        refine lv_bipush (v := 32) hx hb d_TankArenaModel_enter_77 (by decide) ?_
                        refine lv_icmp_ge (tgt := 105) hx hb d_TankArenaModel_enter_79 (by decide) (fun c_10 => ?_) (fun c_10 => ?_)
                        · skip
                          refine lv_iinc (v := nI (i + 1)) (lv' := [(4, .int (nI (i + 1))), (0, .ref (ad 0 0)), (1, .int px), (2, .int py), (3, .int hd)]) hx hb d_TankArenaModel_enter_105 hl (k := 4) rfl (nI_1 i) (by decide) rfl (fun ls hl => ?_)
                          refine lv_goto (tgt := 53) hx hb d_TankArenaModel_enter_108 (by decide) ?_
                          exact ih (i + 1) (by omega) (by omega) (by rw [htg, L_Renter, if_neg c_9, if_pos c_10]) _ _ Wd _ (lv_sub hl [1, 2, 3, 4, 0] rfl)
                        · skip
                          refine lv_aload_n hx hb d_TankArenaModel_enter_82 rfl (lv_at hl 0 rfl) ?_
                          refine kx_get (k := 0) (i := 0) (v := .ref (ad 2 0)) X Wd (iy 0 (by decide)) rfl fg_TankArenaModel_13 rfl d_TankArenaModel_enter_83 ?_
                          refine lv_iload hx hb d_TankArenaModel_enter_86 (lv_at hl 4 rfl) ?_
                          refine kx_iald (k := 2) (i := 0) (j := i) (t0 := 0) X Wd (iy 2 (by decide)) rell2 rfl rfl (by omega) (by decide) d_TankArenaModel_enter_88 ?_
                          refine lv_bipush (v := 8) hx hb d_TankArenaModel_enter_89 (by decide) ?_
                          refine lv_iload_n hx hb d_TankArenaModel_enter_91 rfl (lv_at hl 2 rfl) ?_
                          refine lv_imul hx hb d_TankArenaModel_enter_92 ?_
                          refine lv_isub hx hb d_TankArenaModel_enter_93 ?_
                          refine kc_Si (As := [.int ((g 2 0 i) - (8 * py))]) [] X Wd (k_f_Rabs l D cI cZ ad g ((g 2 0 i) - (8 * py))) cS_TankArenaModel_110 rfl rfl hl.1 ⟨rfl, rfl⟩ ⟨Nat.le_of_ble_eq_true rfl, Nat.le_of_ble_eq_true rfl⟩ (Nat.le_of_ble_eq_true rfl) ⟨Nat.zero_le _, Nat.zero_le _⟩ d_TankArenaModel_enter_94 (fun r u H locs hp Wd => ?_)
                          obtain ⟨hr, hu⟩ := hp
                          rw [hu] at Wd
                          rw [hr]
                          clear hr hu
                          refine lv_bipush (v := 32) hx hb d_TankArenaModel_enter_97 (by decide) ?_
                          refine lv_icmp_ge (tgt := 105) hx hb d_TankArenaModel_enter_99 (by decide) (fun c_11 => ?_) (fun c_11 => ?_)
                          · skip
                            refine lv_iinc (v := nI (i + 1)) (lv' := [(4, .int (nI (i + 1))), (0, .ref (ad 0 0)), (1, .int px), (2, .int py), (3, .int hd)]) hx hb d_TankArenaModel_enter_105 hl (k := 4) rfl (nI_1 i) (by decide) rfl (fun ls hl => ?_)
                            refine lv_goto (tgt := 53) hx hb d_TankArenaModel_enter_108 (by decide) ?_
                            exact ih (i + 1) (by omega) (by omega) (by rw [htg, L_Renter, if_neg c_9, if_neg c_10, if_pos c_11]) _ _ Wd _ (lv_sub hl [1, 2, 3, 4, 0] rfl)
                          · skip
                            refine lv_ldc (v := -1000000) hx hb hown (hts _ w_bc879909c1) d_TankArenaModel_enter_102 ?_
                            exact kx_iret (u := g) X rfl Wd (by rw [htg, L_Renter, if_neg c_9, if_neg c_10, if_neg c_11]; dsimp only; exact ⟨rfl, rfl⟩) d_TankArenaModel_enter_104
                  exact loop 5 0 (by omega) (by omega) (by rw [x_Renter, if_neg c_1, if_neg c_2, if_neg c_3, if_neg c_4, if_neg c_5, if_neg c_6, if_neg c_7, if_neg c_8]) _ _ Wd _ (lv_sub hl [1, 2, 3, 4, 0] rfl)
                · skip
                  refine lv_ldc (v := -1000000) hx hb hown (hts _ w_bc879909c1) d_TankArenaModel_enter_47 ?_
                  exact kx_iret (u := g) X rfl Wd (by rw [x_Renter, if_neg c_1, if_neg c_2, if_neg c_3, if_neg c_4, if_neg c_5, if_neg c_6, if_neg c_7, if_pos c_8]; dsimp only; exact ⟨rfl, rfl⟩) d_TankArenaModel_enter_49
abbrev RM_x_Rinstr : Room := { frames := 2, cells := 0, slots := 0, locals := 44 }
set_option maxHeartbeats 1000000 in
set_option maxRecDepth 100000 in
theorem k_x_Rinstr (l : Launch) (D : va_G) (cI cZ : ClassId) (ad : Nat → Nat → Nat) (g : SG) (tank : Int32) (op : Int32) (a : Int32) (b : Int32) (N : Nat) (ok : RokN N g) : RI l y_TankArenaModel_instr b_TankArenaModel_instr 6 (some .int) RM_x_Rinstr D cI cZ ad [.ref (ad 0 0), .int tank, .int op, .int a, .int b] g (fun (r : Int32) (u : SG) => r = (x_Rinstr g tank op a b).1 ∧ u = (x_Rinstr g tank op a b).2) := by
  refine met_of (cc := b_TankArenaModel_instr) (nL := 6) (ret := (some .int)) (by decide) rfl (Nat.le_of_ble_eq_true rfl) ?_
  intro p e s m below meth c X hnm Wd ls hl
  have X := X.tt
  have hx := X.1
  have hb := X.2.1
  have hown := X.2.2.2.1
  have hts := X.2.2.2.2.1
  have hl : lv_has ls 6 [(0, .ref (ad 0 0)), (1, .int tank), (2, .int op), (3, .int a), (4, .int b)] := hl
  have Wd : WR D cI cZ ad (va_A (gR cI cZ ad g) s.heap.size) s.heap g s.heap [] := Wd
  refine lv_iload_n hx hb d_TankArenaModel_instr_0 rfl (lv_at hl 1 rfl) ?_
  refine lv_if_lt (tgt := 50) hx hb d_TankArenaModel_instr_1 (by decide) (fun c_1 => ?_) (fun c_1 => ?_)
  · skip
    refine lv_ldc (v := -1000000) hx hb hown (hts _ w_bc879909c1) d_TankArenaModel_instr_50 ?_
    exact kx_iret (u := g) X rfl Wd (by rw [x_Rinstr, if_pos c_1]; dsimp only; exact ⟨rfl, rfl⟩) d_TankArenaModel_instr_52
  · skip
    refine lv_iload_n hx hb d_TankArenaModel_instr_4 rfl (lv_at hl 1 rfl) ?_
    refine lv_aload_n hx hb d_TankArenaModel_instr_5 rfl (lv_at hl 0 rfl) ?_
    refine kx_geto (k := 0) (i := 0) 0 (g 0 0 0) X Wd (iy 0 (by decide)) rell0 fg_TankArenaModel_122 (fun _ => rfl) rfl d_TankArenaModel_instr_6 ?_
    refine lv_icmp_ge (tgt := 50) hx hb d_TankArenaModel_instr_9 (by decide) (fun c_2 => ?_) (fun c_2 => ?_)
    · skip
      refine lv_ldc (v := -1000000) hx hb hown (hts _ w_bc879909c1) d_TankArenaModel_instr_50 ?_
      exact kx_iret (u := g) X rfl Wd (by rw [x_Rinstr, if_neg c_1, if_pos c_2]; dsimp only; exact ⟨rfl, rfl⟩) d_TankArenaModel_instr_52
    · skip
      obtain ⟨es, hs⟩ := tank_j ok c_1 c_2
      refine lv_aload_n hx hb d_TankArenaModel_instr_12 rfl (lv_at hl 0 rfl) ?_
      refine kx_geto (k := 0) (i := 0) 1 (g 0 0 1) X Wd (iy 0 (by decide)) rell0 fg_TankArenaModel_118 (fun _ => rfl) rfl d_TankArenaModel_instr_13 ?_
      refine lv_if_gt (tgt := 50) hx hb d_TankArenaModel_instr_16 (by decide) (fun c_3 => ?_) (fun c_3 => ?_)
      · skip
        refine lv_ldc (v := -1000000) hx hb hown (hts _ w_bc879909c1) d_TankArenaModel_instr_50 ?_
        exact kx_iret (u := g) X rfl Wd (by rw [x_Rinstr, if_neg c_1, if_neg c_2, if_pos c_3]; dsimp only; exact ⟨rfl, rfl⟩) d_TankArenaModel_instr_52
      · skip
        refine lv_iload_n hx hb d_TankArenaModel_instr_19 rfl (lv_at hl 2 rfl) ?_
        refine lv_iconst (v := 0) hx hb d_TankArenaModel_instr_20 (by decide) ?_
        refine lv_bipush (v := 12) hx hb d_TankArenaModel_instr_21 (by decide) ?_
        refine kc_Si (As := [.int op, .int 0, .int 12]) [] X Wd (k_f_Rin l D cI cZ ad g op 0 12) cS_TankArenaModel_129 rfl rfl hl.1 ⟨rfl, rfl⟩ ⟨Nat.le_of_ble_eq_true rfl, Nat.le_of_ble_eq_true rfl⟩ (Nat.le_of_ble_eq_true rfl) ⟨Nat.zero_le _, Nat.zero_le _⟩ d_TankArenaModel_instr_23 (fun r u H locs hp Wd => ?_)
        obtain ⟨hr, hu⟩ := hp
        rw [hu] at Wd
        rw [hr]
        clear hr hu
        refine lv_if_eq (tgt := 50) hx hb d_TankArenaModel_instr_26 (by decide) (fun c_4 => ?_) (fun c_4 => ?_)
        · skip
          refine lv_ldc (v := -1000000) hx hb hown (hts _ w_bc879909c1) d_TankArenaModel_instr_50 ?_
          exact kx_iret (u := g) X rfl Wd (by rw [x_Rinstr, if_neg c_1, if_neg c_2, if_neg c_3, if_pos c_4]; dsimp only; exact ⟨rfl, rfl⟩) d_TankArenaModel_instr_52
        · skip
          refine lv_iload_n hx hb d_TankArenaModel_instr_29 rfl (lv_at hl 2 rfl) ?_
          refine lv_iload_n hx hb d_TankArenaModel_instr_30 rfl (lv_at hl 3 rfl) ?_
          refine lv_iload hx hb d_TankArenaModel_instr_31 (lv_at hl 4 rfl) ?_
          refine kc_Si (As := [.int op, .int a, .int b]) [] X Wd (k_f_Rfits l D cI cZ ad g op a b) cS_TankArenaModel_133 rfl rfl hl.1 ⟨rfl, rfl⟩ ⟨Nat.le_of_ble_eq_true rfl, Nat.le_of_ble_eq_true rfl⟩ (Nat.le_of_ble_eq_true rfl) ⟨Nat.zero_le _, Nat.zero_le _⟩ d_TankArenaModel_instr_33 (fun r u H locs hp Wd => ?_)
          obtain ⟨hr, hu⟩ := hp
          rw [hu] at Wd
          rw [hr]
          clear hr hu
          refine lv_if_eq (tgt := 50) hx hb d_TankArenaModel_instr_36 (by decide) (fun c_5 => ?_) (fun c_5 => ?_)
          · skip
            refine lv_ldc (v := -1000000) hx hb hown (hts _ w_bc879909c1) d_TankArenaModel_instr_50 ?_
            exact kx_iret (u := g) X rfl Wd (by rw [x_Rinstr, if_neg c_1, if_neg c_2, if_neg c_3, if_neg c_4, if_pos c_5]; dsimp only; exact ⟨rfl, rfl⟩) d_TankArenaModel_instr_52
          · skip
            refine lv_aload_n hx hb d_TankArenaModel_instr_39 rfl (lv_at hl 0 rfl) ?_
            refine kx_get (k := 0) (i := 0) (v := .ref (ad 4 0)) X Wd (iy 0 (by decide)) rfl fg_TankArenaModel_19 rfl d_TankArenaModel_instr_40 ?_
            refine lv_iload_n hx hb d_TankArenaModel_instr_43 rfl (lv_at hl 1 rfl) ?_
            refine kx_iald (k := 4) (i := 0) (j := tank.toNatClampNeg) (t0 := 0) X Wd (iy 4 (by decide)) rell4 rfl es hs (by decide) d_TankArenaModel_instr_44 ?_
            refine lv_bipush (v := 16) hx hb d_TankArenaModel_instr_45 (by decide) ?_
            refine lv_icmp_ne (tgt := 53) hx hb d_TankArenaModel_instr_47 (by decide) (fun c_6 => ?_) (fun c_6 => ?_)
            · skip
              obtain ⟨ez, hz⟩ := ne16_j (ok.1.1 4 0 tank.toNatClampNeg) c_6
              have ea : 16 * tank + g 4 0 tank.toNatClampNeg = nI (16 * tank.toNatClampNeg + (g 4 0 tank.toNatClampNeg).toNatClampNeg) := nI_lin 16 es ez
              have ha : 16 * tank.toNatClampNeg + (g 4 0 tank.toNatClampNeg).toNatClampNeg < 64 := by omega
              refine lv_bipush (v := 16) hx hb d_TankArenaModel_instr_53 (by decide) ?_
              refine lv_iload_n hx hb d_TankArenaModel_instr_55 rfl (lv_at hl 1 rfl) ?_
              refine lv_imul hx hb d_TankArenaModel_instr_56 ?_
              refine lv_aload_n hx hb d_TankArenaModel_instr_57 rfl (lv_at hl 0 rfl) ?_
              refine kx_get (k := 0) (i := 0) (v := .ref (ad 4 0)) X Wd (iy 0 (by decide)) rfl fg_TankArenaModel_19 rfl d_TankArenaModel_instr_58 ?_
              refine lv_iload_n hx hb d_TankArenaModel_instr_61 rfl (lv_at hl 1 rfl) ?_
              refine kx_iald (k := 4) (i := 0) (j := tank.toNatClampNeg) (t0 := 0) X Wd (iy 4 (by decide)) rell4 rfl es hs (by decide) d_TankArenaModel_instr_62 ?_
              refine lv_iadd hx hb d_TankArenaModel_instr_63 ?_
              refine lv_istore (lv' := [(5, .int ((16 * tank) + (g 4 0 tank.toNatClampNeg))), (0, .ref (ad 0 0)), (1, .int tank), (2, .int op), (3, .int a), (4, .int b)]) hx hb d_TankArenaModel_instr_64 hl (by decide) rfl (fun ls hl => ?_)
              refine lv_aload_n hx hb d_TankArenaModel_instr_66 rfl (lv_at hl 1 rfl) ?_
              refine kx_get (k := 0) (i := 0) (v := .ref (ad 5 0)) X Wd (iy 0 (by decide)) rfl fg_TankArenaModel_22 rfl d_TankArenaModel_instr_67 ?_
              refine lv_iload hx hb d_TankArenaModel_instr_70 (lv_at hl 0 rfl) ?_
              refine lv_iload_n hx hb d_TankArenaModel_instr_72 rfl (lv_at hl 3 rfl) ?_
              refine kx_iast (k := 5) (i := 0) (j := 16 * tank.toNatClampNeg + (g 4 0 tank.toNatClampNeg).toNatClampNeg) (t0 := 0) X Wd (iy 5 (by decide)) rell5 rfl ea ha (by decide) d_TankArenaModel_instr_73 (fun H locs Wd => ?_)
              refine lv_aload_n hx hb d_TankArenaModel_instr_74 rfl (lv_at hl 1 rfl) ?_
              refine kx_get (k := 0) (i := 0) (v := .ref (ad 6 0)) X Wd (iy 0 (by decide)) rfl fg_TankArenaModel_25 rfl d_TankArenaModel_instr_75 ?_
              refine lv_iload hx hb d_TankArenaModel_instr_78 (lv_at hl 0 rfl) ?_
              refine lv_iload_n hx hb d_TankArenaModel_instr_80 rfl (lv_at hl 4 rfl) ?_
              refine kx_iast (k := 6) (i := 0) (j := 16 * tank.toNatClampNeg + (g 4 0 tank.toNatClampNeg).toNatClampNeg) (t0 := 0) X Wd (iy 6 (by decide)) rell6 rfl ea ha (by decide) d_TankArenaModel_instr_81 (fun H locs Wd => ?_)
              refine lv_aload_n hx hb d_TankArenaModel_instr_82 rfl (lv_at hl 1 rfl) ?_
              refine kx_get (k := 0) (i := 0) (v := .ref (ad 7 0)) X Wd (iy 0 (by decide)) rfl fg_TankArenaModel_28 rfl d_TankArenaModel_instr_83 ?_
              refine lv_iload hx hb d_TankArenaModel_instr_86 (lv_at hl 0 rfl) ?_
              refine lv_iload hx hb d_TankArenaModel_instr_88 (lv_at hl 5 rfl) ?_
              refine kx_iast (k := 7) (i := 0) (j := 16 * tank.toNatClampNeg + (g 4 0 tank.toNatClampNeg).toNatClampNeg) (t0 := 0) X Wd (iy 7 (by decide)) rell7 rfl ea ha (by decide) d_TankArenaModel_instr_90 (fun H locs Wd => ?_)
              refine lv_aload_n hx hb d_TankArenaModel_instr_91 rfl (lv_at hl 1 rfl) ?_
              refine kx_get (k := 0) (i := 0) (v := .ref (ad 4 0)) X Wd (iy 0 (by decide)) rfl fg_TankArenaModel_19 rfl d_TankArenaModel_instr_92 ?_
              refine lv_iload_n hx hb d_TankArenaModel_instr_95 rfl (lv_at hl 2 rfl) ?_
              refine lv_dup2_11 hx hb d_TankArenaModel_instr_96 rfl rfl ?_
              refine kx_iald2 (k := 4) (i := 0) (j := tank.toNatClampNeg) (t0 := 0) (g 4 0 tank.toNatClampNeg) X Wd (iy 4 (by decide)) rell4 rfl es hs (by decide) (by simp [up3]) d_TankArenaModel_instr_97 ?_
              refine lv_iconst (v := 1) hx hb d_TankArenaModel_instr_98 (by decide) ?_
              refine lv_iadd hx hb d_TankArenaModel_instr_99 ?_
              refine kx_iast (k := 4) (i := 0) (j := tank.toNatClampNeg) (t0 := 0) X Wd (iy 4 (by decide)) rell4 rfl es hs (by decide) d_TankArenaModel_instr_100 (fun H locs Wd => ?_)
              refine lv_aload_n hx hb d_TankArenaModel_instr_101 rfl (lv_at hl 1 rfl) ?_
              refine kx_get (k := 0) (i := 0) (v := .ref (ad 4 0)) X Wd (iy 0 (by decide)) rfl fg_TankArenaModel_19 rfl d_TankArenaModel_instr_102 ?_
              refine lv_iload_n hx hb d_TankArenaModel_instr_105 rfl (lv_at hl 2 rfl) ?_
              refine kx_iald2 (k := 4) (i := 0) (j := tank.toNatClampNeg) (t0 := 0) ((g 4 0 tank.toNatClampNeg) + 1) X Wd (iy 4 (by decide)) rell4 rfl es hs (by decide) (by simp [up3]) d_TankArenaModel_instr_106 ?_
              exact kx_iret (u := up3 (up3 (up3 (up3 g 5 0 (16 * tank.toNatClampNeg + (g 4 0 tank.toNatClampNeg).toNatClampNeg) op) 6 0 (16 * tank.toNatClampNeg + (g 4 0 tank.toNatClampNeg).toNatClampNeg) a) 7 0 (16 * tank.toNatClampNeg + (g 4 0 tank.toNatClampNeg).toNatClampNeg) b) 4 0 tank.toNatClampNeg ((g 4 0 tank.toNatClampNeg) + 1)) X rfl Wd (by rw [x_Rinstr, if_neg c_1, if_neg c_2, if_neg c_3, if_neg c_4, if_neg c_5, if_neg c_6]; dsimp only; exact ⟨rfl, rfl⟩) d_TankArenaModel_instr_107
            · skip
              refine lv_ldc (v := -1000000) hx hb hown (hts _ w_bc879909c1) d_TankArenaModel_instr_50 ?_
              exact kx_iret (u := g) X rfl Wd (by rw [x_Rinstr, if_neg c_1, if_neg c_2, if_neg c_3, if_neg c_4, if_neg c_5, if_pos c_6]; dsimp only; exact ⟨rfl, rfl⟩) d_TankArenaModel_instr_52
abbrev RM_f_Rliving : Room := { frames := 0, cells := 0, slots := 0, locals := 0 }
set_option maxHeartbeats 1000000 in
set_option maxRecDepth 100000 in
theorem k_f_Rliving (l : Launch) (D : va_G) (cI cZ : ClassId) (ad : Nat → Nat → Nat) (g : SG) (N : Nat) (ok : RokN N g) : RI l y_TankArenaModel_living b_TankArenaModel_living 3 (some .int) RM_f_Rliving D cI cZ ad [.ref (ad 0 0)] g (fun (r : Int32) (u : SG) => r = f_Rliving g ∧ u = g) := by
  refine met_of (cc := b_TankArenaModel_living) (nL := 3) (ret := (some .int)) (by decide) rfl (Nat.le_of_ble_eq_true rfl) ?_
  intro p e s m below meth c X hnm Wd ls hl
  have X := X.tt
  have hx := X.1
  have hb := X.2.1
  have hown := X.2.2.2.1
  have hts := X.2.2.2.2.1
  have hl : lv_has ls 3 [(0, .ref (ad 0 0))] := hl
  have Wd : WR D cI cZ ad (va_A (gR cI cZ ad g) s.heap.size) s.heap g s.heap [] := Wd
  obtain ⟨hN4, eN⟩ := ok.N
  refine lv_iconst (v := 0) hx hb d_TankArenaModel_living_0 (by decide) ?_
  refine lv_istore_n (lv' := [(1, .int 0), (0, .ref (ad 0 0))]) hx hb d_TankArenaModel_living_1 rfl hl (by decide) rfl (fun ls hl => ?_)
  refine lv_iconst (v := 0) hx hb d_TankArenaModel_living_2 (by decide) ?_
  refine lv_istore_n (lv' := [(2, .int 0), (1, .int 0), (0, .ref (ad 0 0))]) hx hb d_TankArenaModel_living_3 rfl hl (by decide) rfl (fun ls hl => ?_)
  have loop : ∀ (n : Nat) (al : Int32) (i : Nat), i ≤ N → N + 1 ≤ i + n → f_Rliving g = L_Rliving g n al i → ∀ (H : Heap) (locs : List Loc), WR D cI cZ ad (va_A (gR cI cZ ad g) s.heap.size) s.heap g H locs → ∀ ls : Array Slot, lv_has ls 3 [(0, .ref (ad 0 0)), (1, .int al), (2, .int (nI i))] → W p l e RM_f_Rliving s m [.ref (ad 0 0)].toArray below meth c H locs 0 0 (YI D cI cZ ad below [.ref (ad 0 0)] s g (fun (r : Int32) (u : SG) => r = f_Rliving g ∧ u = g)) (F0 m 4 ls []) := by
    intro n
    induction n with
    | zero =>
      intro al i hv0 hv1
      exfalso
      omega
    | succ n ih =>
      intro al i hv0 hv1 htg H locs Wd ls hl
      refine lv_iload_n hx hb d_TankArenaModel_living_4 rfl (lv_at hl 2 rfl) ?_
      refine lv_aload_n hx hb d_TankArenaModel_living_5 rfl (lv_at hl 0 rfl) ?_
      refine kx_geto (k := 0) (i := 0) 0 (g 0 0 0) X Wd (iy 0 (by decide)) rell0 fg_TankArenaModel_122 (fun _ => rfl) rfl d_TankArenaModel_living_6 ?_
      refine lv_icmp_ge (tgt := 30) hx hb d_TankArenaModel_living_9 (by decide) (fun c_1 => ?_) (fun c_1 => ?_)
      · skip
        refine lv_iload_n hx hb d_TankArenaModel_living_30 rfl (lv_at hl 1 rfl) ?_
        exact kx_iret (u := g) X rfl Wd ⟨by rw [htg, L_Rliving, if_pos c_1], rfl⟩ d_TankArenaModel_living_31
      · skip
        have hiN : i < N := nlt_of eN (by omega) (by omega) c_1
        have hi : i < 4 := by omega
        refine lv_aload_n hx hb d_TankArenaModel_living_12 rfl (lv_at hl 0 rfl) ?_
        refine kx_get (k := 0) (i := 0) (v := .ref (ad 21 0)) X Wd (iy 0 (by decide)) rfl fg_TankArenaModel_70 rfl d_TankArenaModel_living_13 ?_
        refine lv_iload_n hx hb d_TankArenaModel_living_16 rfl (lv_at hl 2 rfl) ?_
        refine kx_zald2 (k := 21) (i := 0) (j := i) (t0 := 1) (g 21 0 i) X Wd (iy 21 (by decide)) rell21 rfl rfl (by omega) (by decide) rfl d_TankArenaModel_living_17 ?_
        refine lv_if_eq (tgt := 24) hx hb d_TankArenaModel_living_18 (by decide) (fun c_2 => ?_) (fun c_2 => ?_)
        · skip
          refine lv_iinc (v := nI (i + 1)) (lv' := [(2, .int (nI (i + 1))), (0, .ref (ad 0 0)), (1, .int al)]) hx hb d_TankArenaModel_living_24 hl (k := 2) rfl (nI_1 i) (by decide) rfl (fun ls hl => ?_)
          refine lv_goto (tgt := 4) hx hb d_TankArenaModel_living_27 (by decide) ?_
          exact ih al (i + 1) (by omega) (by omega) (by rw [htg, L_Rliving, if_neg c_1, if_pos c_2]) _ _ Wd _ (lv_sub hl [1, 2, 0] rfl)
        · skip
          refine lv_iinc (v := al + 1) (lv' := [(1, .int (al + 1)), (0, .ref (ad 0 0)), (2, .int (nI i))]) hx hb d_TankArenaModel_living_21 hl (k := 1) rfl rfl (by decide) rfl (fun ls hl => ?_)
          refine lv_iinc (v := nI (i + 1)) (lv' := [(2, .int (nI (i + 1))), (1, .int (al + 1)), (0, .ref (ad 0 0))]) hx hb d_TankArenaModel_living_24 hl (k := 2) rfl (nI_1 i) (by decide) rfl (fun ls hl => ?_)
          refine lv_goto (tgt := 4) hx hb d_TankArenaModel_living_27 (by decide) ?_
          exact ih (al + 1) (i + 1) (by omega) (by omega) (by rw [htg, L_Rliving, if_neg c_1, if_neg c_2]) _ _ Wd _ (lv_sub hl [2, 1, 0] rfl)
  exact loop 5 0 0 (by omega) (by omega) (by rw [f_Rliving]) _ _ Wd _ (lv_sub hl [2, 1, 0] rfl)
abbrev RM_x_Rjumps : Room := { frames := 2, cells := 0, slots := 0, locals := 41 }
set_option maxHeartbeats 1000000 in
set_option maxRecDepth 100000 in
theorem k_x_Rjumps (l : Launch) (D : va_G) (cI cZ : ClassId) (ad : Nat → Nat → Nat) (g : SG) (t : Nat) (ht : t < 4) (vt : Int32) (et : vt = nI t) (op : Int32) (b : Int32) (N : Nat) (ok : RokN N g) (hio : op = 12 → rng b 2) : RI l y_TankArenaModel_jumps b_TankArenaModel_jumps 4 (some .boolean) RM_x_Rjumps D cI cZ ad [.ref (ad 0 0), .int vt, .int op, .int b] g (fun (r : Int32) (u : SG) => r = (x_Rjumps g t op b).1 ∧ u = (x_Rjumps g t op b).2) := by
  subst et
  refine met_of (cc := b_TankArenaModel_jumps) (nL := 4) (ret := (some .boolean)) (by decide) rfl (Nat.le_of_ble_eq_true rfl) ?_
  intro p e s m below meth c X hnm Wd ls hl
  have X := X.tt
  have hx := X.1
  have hb := X.2.1
  have hown := X.2.2.2.1
  have hts := X.2.2.2.2.1
  have hl : lv_has ls 4 [(0, .ref (ad 0 0)), (1, .int (nI t)), (2, .int op), (3, .int b)] := hl
  have Wd : WR D cI cZ ad (va_A (gR cI cZ ad g) s.heap.size) s.heap g s.heap [] := Wd
  refine lv_iload_n hx hb d_TankArenaModel_jumps_0 rfl (lv_at hl 2 rfl) ?_
  by_cases c_1 : op = 6
  · skip
    refine lv_tableIn (tgt := 44) hx hb d_TankArenaModel_jumps_1 (by rw [c_1]; decide) (by rw [c_1]; decide) (by rw [c_1]; rfl) (by decide) ?_
    refine lv_iconst (v := 1) hx hb d_TankArenaModel_jumps_44 (by decide) ?_
    exact kx_iret (u := g) X rfl Wd (by rw [x_Rjumps, if_pos c_1]; dsimp only; exact ⟨rfl, rfl⟩) d_TankArenaModel_jumps_45
  by_cases c_2 : op = 7
  · skip
    refine lv_tableIn (tgt := 46) hx hb d_TankArenaModel_jumps_1 (by rw [c_2]; decide) (by rw [c_2]; decide) (by rw [c_2]; rfl) (by decide) ?_
    refine lv_aload_n hx hb d_TankArenaModel_jumps_46 rfl (lv_at hl 0 rfl) ?_
    refine kx_get (k := 0) (i := 0) (v := .ref (ad 24 0)) X Wd (iy 0 (by decide)) rfl fg_TankArenaModel_80 rfl d_TankArenaModel_jumps_47 ?_
    refine lv_iload_n hx hb d_TankArenaModel_jumps_50 rfl (lv_at hl 1 rfl) ?_
    refine kx_iald (k := 24) (i := 0) (j := t) (t0 := 0) X Wd (iy 24 (by decide)) rell24 rfl rfl ht (by decide) d_TankArenaModel_jumps_51 ?_
    refine lv_iconst (v := 4) hx hb d_TankArenaModel_jumps_52 (by decide) ?_
    refine lv_icmp_ge (tgt := 60) hx hb d_TankArenaModel_jumps_53 (by decide) (fun c_3 => ?_) (fun c_3 => ?_)
    · skip
      refine lv_iconst (v := 0) hx hb d_TankArenaModel_jumps_60 (by decide) ?_
      exact kx_iret (u := g) X rfl Wd (by rw [x_Rjumps, if_neg c_1, if_pos c_2, if_pos c_3]; dsimp only; exact ⟨rfl, rfl⟩) d_TankArenaModel_jumps_61
    · skip
      refine lv_iconst (v := 1) hx hb d_TankArenaModel_jumps_56 (by decide) ?_
      refine lv_goto (tgt := 61) hx hb d_TankArenaModel_jumps_57 (by decide) ?_
      exact kx_iret (u := g) X rfl Wd (by rw [x_Rjumps, if_neg c_1, if_pos c_2, if_neg c_3]; dsimp only; exact ⟨rfl, rfl⟩) d_TankArenaModel_jumps_61
  by_cases c_4 : op = 8
  · skip
    refine lv_tableIn (tgt := 62) hx hb d_TankArenaModel_jumps_1 (by rw [c_4]; decide) (by rw [c_4]; decide) (by rw [c_4]; rfl) (by decide) ?_
    refine lv_aload_n hx hb d_TankArenaModel_jumps_62 rfl (lv_at hl 0 rfl) ?_
    refine kx_get (k := 0) (i := 0) (v := .ref (ad 22 0)) X Wd (iy 0 (by decide)) rfl fg_TankArenaModel_74 rfl d_TankArenaModel_jumps_63 ?_
    refine lv_iload_n hx hb d_TankArenaModel_jumps_66 rfl (lv_at hl 1 rfl) ?_
    refine kx_zald2 (k := 22) (i := 0) (j := t) (t0 := 1) (g 22 0 t) X Wd (iy 22 (by decide)) rell22 rfl rfl ht (by decide) rfl d_TankArenaModel_jumps_67 ?_
    exact kx_iret (u := g) X (nar01 (ok.1.1 22 0 t)) Wd (by rw [x_Rjumps, if_neg c_1, if_neg c_2, if_pos c_4]; dsimp only; exact ⟨rfl, rfl⟩) d_TankArenaModel_jumps_68
  by_cases c_5 : op = 9
  · skip
    refine lv_tableIn (tgt := 69) hx hb d_TankArenaModel_jumps_1 (by rw [c_5]; decide) (by rw [c_5]; decide) (by rw [c_5]; rfl) (by decide) ?_
    refine lv_aload_n hx hb d_TankArenaModel_jumps_69 rfl (lv_at hl 0 rfl) ?_
    refine kx_get (k := 0) (i := 0) (v := .ref (ad 23 0)) X Wd (iy 0 (by decide)) rfl fg_TankArenaModel_77 rfl d_TankArenaModel_jumps_70 ?_
    refine lv_iload_n hx hb d_TankArenaModel_jumps_73 rfl (lv_at hl 1 rfl) ?_
    refine kx_zald2 (k := 23) (i := 0) (j := t) (t0 := 1) (g 23 0 t) X Wd (iy 23 (by decide)) rell23 rfl rfl ht (by decide) rfl d_TankArenaModel_jumps_74 ?_
    exact kx_iret (u := g) X (nar01 (ok.1.1 23 0 t)) Wd (by rw [x_Rjumps, if_neg c_1, if_neg c_2, if_neg c_4, if_pos c_5]; dsimp only; exact ⟨rfl, rfl⟩) d_TankArenaModel_jumps_75
  by_cases c_6 : op = 10
  · skip
    refine lv_tableIn (tgt := 76) hx hb d_TankArenaModel_jumps_1 (by rw [c_6]; decide) (by rw [c_6]; decide) (by rw [c_6]; rfl) (by decide) ?_
    refine lv_aload_n hx hb d_TankArenaModel_jumps_76 rfl (lv_at hl 0 rfl) ?_
    refine kx_get (k := 0) (i := 0) (v := .ref (ad 24 0)) X Wd (iy 0 (by decide)) rfl fg_TankArenaModel_80 rfl d_TankArenaModel_jumps_77 ?_
    refine lv_iload_n hx hb d_TankArenaModel_jumps_80 rfl (lv_at hl 1 rfl) ?_
    refine kx_iald (k := 24) (i := 0) (j := t) (t0 := 0) X Wd (iy 24 (by decide)) rell24 rfl rfl ht (by decide) d_TankArenaModel_jumps_81 ?_
    refine lv_iconst (v := 4) hx hb d_TankArenaModel_jumps_82 (by decide) ?_
    refine lv_icmp_ge (tgt := 138) hx hb d_TankArenaModel_jumps_83 (by decide) (fun c_7 => ?_) (fun c_7 => ?_)
    · skip
      refine lv_iconst (v := 0) hx hb d_TankArenaModel_jumps_138 (by decide) ?_
      exact kx_iret (u := g) X rfl Wd (by rw [x_Rjumps, if_neg c_1, if_neg c_2, if_neg c_4, if_neg c_5, if_pos c_6, if_pos c_7]; dsimp only; exact ⟨rfl, rfl⟩) d_TankArenaModel_jumps_139
    · skip
      obtain ⟨es, hs⟩ := lt4_j (ok.1.1 24 0 t) c_7
      refine lv_aload_n hx hb d_TankArenaModel_jumps_86 rfl (lv_at hl 0 rfl) ?_
      refine kx_get (k := 0) (i := 0) (v := .ref (ad 8 0)) X Wd (iy 0 (by decide)) rfl fg_TankArenaModel_31 rfl d_TankArenaModel_jumps_87 ?_
      refine lv_aload_n hx hb d_TankArenaModel_jumps_90 rfl (lv_at hl 0 rfl) ?_
      refine kx_get (k := 0) (i := 0) (v := .ref (ad 24 0)) X Wd (iy 0 (by decide)) rfl fg_TankArenaModel_80 rfl d_TankArenaModel_jumps_91 ?_
      refine lv_iload_n hx hb d_TankArenaModel_jumps_94 rfl (lv_at hl 1 rfl) ?_
      refine kx_iald (k := 24) (i := 0) (j := t) (t0 := 0) X Wd (iy 24 (by decide)) rell24 rfl rfl ht (by decide) d_TankArenaModel_jumps_95 ?_
      refine kx_iald (k := 8) (i := 0) (j := (g 24 0 t).toNatClampNeg) (t0 := 0) X Wd (iy 8 (by decide)) rell8 rfl es hs (by decide) d_TankArenaModel_jumps_96 ?_
      refine lv_aload_n hx hb d_TankArenaModel_jumps_97 rfl (lv_at hl 0 rfl) ?_
      refine kx_get (k := 0) (i := 0) (v := .ref (ad 8 0)) X Wd (iy 0 (by decide)) rfl fg_TankArenaModel_31 rfl d_TankArenaModel_jumps_98 ?_
      refine lv_iload_n hx hb d_TankArenaModel_jumps_101 rfl (lv_at hl 1 rfl) ?_
      refine kx_iald (k := 8) (i := 0) (j := t) (t0 := 0) X Wd (iy 8 (by decide)) rell8 rfl rfl ht (by decide) d_TankArenaModel_jumps_102 ?_
      refine lv_isub hx hb d_TankArenaModel_jumps_103 ?_
      refine lv_aload_n hx hb d_TankArenaModel_jumps_104 rfl (lv_at hl 0 rfl) ?_
      refine kx_get (k := 0) (i := 0) (v := .ref (ad 9 0)) X Wd (iy 0 (by decide)) rfl fg_TankArenaModel_34 rfl d_TankArenaModel_jumps_105 ?_
      refine lv_aload_n hx hb d_TankArenaModel_jumps_108 rfl (lv_at hl 0 rfl) ?_
      refine kx_get (k := 0) (i := 0) (v := .ref (ad 24 0)) X Wd (iy 0 (by decide)) rfl fg_TankArenaModel_80 rfl d_TankArenaModel_jumps_109 ?_
      refine lv_iload_n hx hb d_TankArenaModel_jumps_112 rfl (lv_at hl 1 rfl) ?_
      refine kx_iald (k := 24) (i := 0) (j := t) (t0 := 0) X Wd (iy 24 (by decide)) rell24 rfl rfl ht (by decide) d_TankArenaModel_jumps_113 ?_
      refine kx_iald (k := 9) (i := 0) (j := (g 24 0 t).toNatClampNeg) (t0 := 0) X Wd (iy 9 (by decide)) rell9 rfl es hs (by decide) d_TankArenaModel_jumps_114 ?_
      refine lv_aload_n hx hb d_TankArenaModel_jumps_115 rfl (lv_at hl 0 rfl) ?_
      refine kx_get (k := 0) (i := 0) (v := .ref (ad 9 0)) X Wd (iy 0 (by decide)) rfl fg_TankArenaModel_34 rfl d_TankArenaModel_jumps_116 ?_
      refine lv_iload_n hx hb d_TankArenaModel_jumps_119 rfl (lv_at hl 1 rfl) ?_
      refine kx_iald (k := 9) (i := 0) (j := t) (t0 := 0) X Wd (iy 9 (by decide)) rell9 rfl rfl ht (by decide) d_TankArenaModel_jumps_120 ?_
      refine lv_isub hx hb d_TankArenaModel_jumps_121 ?_
      refine kc_Si (As := [.int ((g 8 0 ((g 24 0 t).toNatClampNeg)) - (g 8 0 t)), .int ((g 9 0 ((g 24 0 t).toNatClampNeg)) - (g 9 0 t))]) [] X Wd (k_f_Rsector l D cI cZ ad g ((g 8 0 ((g 24 0 t).toNatClampNeg)) - (g 8 0 t)) ((g 9 0 ((g 24 0 t).toNatClampNeg)) - (g 9 0 t))) cS_TankArenaModel_136 rfl rfl hl.1 ⟨rfl, rfl⟩ ⟨Nat.le_of_ble_eq_true rfl, Nat.le_of_ble_eq_true rfl⟩ (Nat.le_of_ble_eq_true rfl) ⟨Nat.zero_le _, Nat.zero_le _⟩ d_TankArenaModel_jumps_122 (fun r u H locs hp Wd => ?_)
      obtain ⟨hr, hu⟩ := hp
      rw [hu] at Wd
      rw [hr]
      clear hr hu
      refine lv_aload_n hx hb d_TankArenaModel_jumps_125 rfl (lv_at hl 0 rfl) ?_
      refine kx_get (k := 0) (i := 0) (v := .ref (ad 11 0)) X Wd (iy 0 (by decide)) rfl fg_TankArenaModel_40 rfl d_TankArenaModel_jumps_126 ?_
      refine lv_iload_n hx hb d_TankArenaModel_jumps_129 rfl (lv_at hl 1 rfl) ?_
      refine kx_iald (k := 11) (i := 0) (j := t) (t0 := 0) X Wd (iy 11 (by decide)) rell11 rfl rfl ht (by decide) d_TankArenaModel_jumps_130 ?_
      refine lv_icmp_ne (tgt := 138) hx hb d_TankArenaModel_jumps_131 (by decide) (fun c_8 => ?_) (fun c_8 => ?_)
      · skip
        refine lv_iconst (v := 0) hx hb d_TankArenaModel_jumps_138 (by decide) ?_
        exact kx_iret (u := g) X rfl Wd (by rw [x_Rjumps, if_neg c_1, if_neg c_2, if_neg c_4, if_neg c_5, if_pos c_6, if_neg c_7, if_neg c_8]; dsimp only; exact ⟨rfl, rfl⟩) d_TankArenaModel_jumps_139
      · skip
        refine lv_iconst (v := 1) hx hb d_TankArenaModel_jumps_134 (by decide) ?_
        refine lv_goto (tgt := 139) hx hb d_TankArenaModel_jumps_135 (by decide) ?_
        exact kx_iret (u := g) X rfl Wd (by rw [x_Rjumps, if_neg c_1, if_neg c_2, if_neg c_4, if_neg c_5, if_pos c_6, if_neg c_7, if_pos c_8]; dsimp only; exact ⟨rfl, rfl⟩) d_TankArenaModel_jumps_139
  by_cases c_9 : op = 11
  · skip
    refine lv_tableIn (tgt := 173) hx hb d_TankArenaModel_jumps_1 (by rw [c_9]; decide) (by rw [c_9]; decide) (by rw [c_9]; rfl) (by decide) ?_
    refine lv_iconst (v := 0) hx hb d_TankArenaModel_jumps_173 (by decide) ?_
    exact kx_iret (u := g) X rfl Wd (by rw [x_Rjumps, if_neg c_1, if_neg c_2, if_neg c_4, if_neg c_5, if_neg c_6, if_pos c_9]; dsimp only; exact ⟨rfl, rfl⟩) d_TankArenaModel_jumps_174
  by_cases c_10 : op = 12
  · skip
    refine lv_tableIn (tgt := 140) hx hb d_TankArenaModel_jumps_1 (by rw [c_10]; decide) (by rw [c_10]; decide) (by rw [c_10]; rfl) (by decide) ?_
    obtain ⟨eb, hb2⟩ := rng_j (hio c_10) (by decide)
    have er : 2 * nI t + b = nI (2 * t + b.toNatClampNeg) := nI_lin 2 rfl eb
    have hrg : 2 * t + b.toNatClampNeg < 8 := by omega
    refine lv_aload_n hx hb d_TankArenaModel_jumps_140 rfl (lv_at hl 0 rfl) ?_
    refine kx_get (k := 0) (i := 0) (v := .ref (ad 18 0)) X Wd (iy 0 (by decide)) rfl fg_TankArenaModel_61 rfl d_TankArenaModel_jumps_141 ?_
    refine lv_iconst (v := 2) hx hb d_TankArenaModel_jumps_144 (by decide) ?_
    refine lv_iload_n hx hb d_TankArenaModel_jumps_145 rfl (lv_at hl 1 rfl) ?_
    refine lv_imul hx hb d_TankArenaModel_jumps_146 ?_
    refine lv_iload_n hx hb d_TankArenaModel_jumps_147 rfl (lv_at hl 3 rfl) ?_
    refine lv_iadd hx hb d_TankArenaModel_jumps_148 ?_
    refine lv_dup2_11 hx hb d_TankArenaModel_jumps_149 rfl rfl ?_
    refine kx_iald (k := 18) (i := 0) (j := 2 * t + b.toNatClampNeg) (t0 := 0) X Wd (iy 18 (by decide)) rell18 rfl er hrg (by decide) d_TankArenaModel_jumps_150 ?_
    refine lv_iconst (v := 1) hx hb d_TankArenaModel_jumps_151 (by decide) ?_
    refine lv_isub hx hb d_TankArenaModel_jumps_152 ?_
    refine kx_iast (k := 18) (i := 0) (j := 2 * t + b.toNatClampNeg) (t0 := 0) X Wd (iy 18 (by decide)) rell18 rfl er hrg (by decide) d_TankArenaModel_jumps_153 (fun H locs Wd => ?_)
    refine lv_aload_n hx hb d_TankArenaModel_jumps_154 rfl (lv_at hl 0 rfl) ?_
    refine kx_get (k := 0) (i := 0) (v := .ref (ad 18 0)) X Wd (iy 0 (by decide)) rfl fg_TankArenaModel_61 rfl d_TankArenaModel_jumps_155 ?_
    refine lv_iconst (v := 2) hx hb d_TankArenaModel_jumps_158 (by decide) ?_
    refine lv_iload_n hx hb d_TankArenaModel_jumps_159 rfl (lv_at hl 1 rfl) ?_
    refine lv_imul hx hb d_TankArenaModel_jumps_160 ?_
    refine lv_iload_n hx hb d_TankArenaModel_jumps_161 rfl (lv_at hl 3 rfl) ?_
    refine lv_iadd hx hb d_TankArenaModel_jumps_162 ?_
    refine kx_iald2 (k := 18) (i := 0) (j := 2 * t + b.toNatClampNeg) (t0 := 0) ((g 18 0 (2 * t + b.toNatClampNeg)) - 1) X Wd (iy 18 (by decide)) rell18 rfl er hrg (by decide) (by simp [up3]) d_TankArenaModel_jumps_163 ?_
    refine lv_if_le (tgt := 171) hx hb d_TankArenaModel_jumps_164 (by decide) (fun c_11 => ?_) (fun c_11 => ?_)
    · skip
      refine lv_iconst (v := 0) hx hb d_TankArenaModel_jumps_171 (by decide) ?_
      exact kx_iret (u := up3 g 18 0 (2 * t + b.toNatClampNeg) ((g 18 0 (2 * t + b.toNatClampNeg)) - 1)) X rfl Wd (by rw [x_Rjumps, if_neg c_1, if_neg c_2, if_neg c_4, if_neg c_5, if_neg c_6, if_neg c_9, if_pos c_10, if_pos c_11]; dsimp only; exact ⟨rfl, rfl⟩) d_TankArenaModel_jumps_172
    · skip
      refine lv_iconst (v := 1) hx hb d_TankArenaModel_jumps_167 (by decide) ?_
      refine lv_goto (tgt := 172) hx hb d_TankArenaModel_jumps_168 (by decide) ?_
      exact kx_iret (u := up3 g 18 0 (2 * t + b.toNatClampNeg) ((g 18 0 (2 * t + b.toNatClampNeg)) - 1)) X rfl Wd (by rw [x_Rjumps, if_neg c_1, if_neg c_2, if_neg c_4, if_neg c_5, if_neg c_6, if_neg c_9, if_pos c_10, if_neg c_11]; dsimp only; exact ⟨rfl, rfl⟩) d_TankArenaModel_jumps_172
  refine lv_tableOut (tgt := 173) hx hb d_TankArenaModel_jumps_1 (by have q0 := neI (6) rfl c_1; have q1 := neI (7) rfl c_2; have q2 := neI (8) rfl c_4; have q3 := neI (9) rfl c_5; have q4 := neI (10) rfl c_6; have q5 := neI (11) rfl c_9; have q6 := neI (12) rfl c_10; omega) (by decide) ?_
  refine lv_iconst (v := 0) hx hb d_TankArenaModel_jumps_173 (by decide) ?_
  exact kx_iret (u := g) X rfl Wd (by rw [x_Rjumps, if_neg c_1, if_neg c_2, if_neg c_4, if_neg c_5, if_neg c_6, if_neg c_9, if_neg c_10]; dsimp only; exact ⟨rfl, rfl⟩) d_TankArenaModel_jumps_174
