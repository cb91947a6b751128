/-! CONTRACTS (printed by gen/all.py) -/
abbrev RM_f_sector : Room := { frames := 1, cells := 0, slots := 0, locals := 21 }
set_option maxHeartbeats 1000000 in
set_option maxRecDepth 100000 in
theorem k_f_sector (l : Launch) (D : va_G) (cI cT cB : ClassId) (ad : Nat → Nat → Nat) (tX tY : Nat) (g : SG) (i : Nat) (hi : i < 4) (j : Nat) (hj : j < 4) : KI l y_TankArena_sector b_TankArena_sector 6 (some .int) RM_f_sector D cI cT cB ad tX tY [.ref (ad 3 i), .ref (ad 3 j)] g (fun (r : Int32) (u : SG) => r = f_sector g i j ∧ u = g) := by
  refine met_of (cc := b_TankArena_sector) (nL := 6) (ret := (some .int)) (by decide) rfl (Nat.le_of_ble_eq_true rfl) ?_
  intro p e s m below meth c X hnm Wd ls hl
  have X := X.tt
  have hx := X.1
  have hb := X.2.1
  have hown := X.2.2.2.1
  have hts := X.2.2.2.2.1
  have hl : lv_has ls 6 [(0, .ref (ad 3 i)), (1, .ref (ad 3 j))] := hl
  have Wd : WC D cI cT cB ad (va_A (gC cI cT cB ad g) s.heap.size) s.heap g s.heap [] := Wd
  refine lv_aload_n hx hb d_TankArena_sector_0 rfl (lv_at hl 1 rfl) ?_
  refine kx_geti (k := 3) (i := j) X Wd (ix3 hj) cell3 fg_TankArena_110 3 rfl (by decide) rfl d_TankArena_sector_1 ?_
  refine lv_aload_n hx hb d_TankArena_sector_4 rfl (lv_at hl 0 rfl) ?_
  refine kx_geti (k := 3) (i := i) X Wd (ix3 hi) cell3 fg_TankArena_110 3 rfl (by decide) rfl d_TankArena_sector_5 ?_
  refine lv_isub hx hb d_TankArena_sector_8 ?_
  refine lv_istore_n (lv' := [(2, .int ((g 3 j 3) - (g 3 i 3))), (0, .ref (ad 3 i)), (1, .ref (ad 3 j))]) hx hb d_TankArena_sector_9 rfl hl (by decide) rfl (fun ls hl => ?_)
  refine lv_aload_n hx hb d_TankArena_sector_10 rfl (lv_at hl 2 rfl) ?_
  refine kx_geti (k := 3) (i := j) X Wd (ix3 hj) cell3 fg_TankArena_113 4 rfl (by decide) rfl d_TankArena_sector_11 ?_
  refine lv_aload_n hx hb d_TankArena_sector_14 rfl (lv_at hl 1 rfl) ?_
  refine kx_geti (k := 3) (i := i) X Wd (ix3 hi) cell3 fg_TankArena_113 4 rfl (by decide) rfl d_TankArena_sector_15 ?_
  refine lv_isub hx hb d_TankArena_sector_18 ?_
  refine lv_istore_n (lv' := [(3, .int ((g 3 j 4) - (g 3 i 4))), (2, .int ((g 3 j 3) - (g 3 i 3))), (0, .ref (ad 3 i)), (1, .ref (ad 3 j))]) hx hb d_TankArena_sector_19 rfl hl (by decide) rfl (fun ls hl => ?_)
  refine lv_iload_n hx hb d_TankArena_sector_20 rfl (lv_at hl 1 rfl) ?_
  refine kx_abs X mabs_TankArena_116 hl.1 (Nat.le_of_ble_eq_true rfl) (Nat.le_of_ble_eq_true rfl) (Nat.zero_le _) (Nat.zero_le _) d_TankArena_sector_21 ?_
  refine lv_istore (lv' := [(4, .int (iabs ((g 3 j 3) - (g 3 i 3)))), (3, .int ((g 3 j 4) - (g 3 i 4))), (2, .int ((g 3 j 3) - (g 3 i 3))), (0, .ref (ad 3 i)), (1, .ref (ad 3 j))]) hx hb d_TankArena_sector_24 hl (by decide) rfl (fun ls hl => ?_)
  refine lv_iload_n hx hb d_TankArena_sector_26 rfl (lv_at hl 1 rfl) ?_
  refine kx_abs X mabs_TankArena_116 hl.1 (Nat.le_of_ble_eq_true rfl) (Nat.le_of_ble_eq_true rfl) (Nat.zero_le _) (Nat.zero_le _) d_TankArena_sector_27 ?_
  refine lv_istore (lv' := [(5, .int (iabs ((g 3 j 4) - (g 3 i 4)))), (4, .int (iabs ((g 3 j 3) - (g 3 i 3)))), (3, .int ((g 3 j 4) - (g 3 i 4))), (2, .int ((g 3 j 3) - (g 3 i 3))), (0, .ref (ad 3 i)), (1, .ref (ad 3 j))]) hx hb d_TankArena_sector_30 hl (by decide) rfl (fun ls hl => ?_)
  refine lv_iconst (v := 2) hx hb d_TankArena_sector_32 (by decide) ?_
  refine lv_iload hx hb d_TankArena_sector_33 (lv_at hl 0 rfl) ?_
  refine lv_imul hx hb d_TankArena_sector_35 ?_
  refine lv_iload hx hb d_TankArena_sector_36 (lv_at hl 1 rfl) ?_
  refine lv_icmp_gt (tgt := 51) hx hb d_TankArena_sector_38 (by decide) (fun c_1 => ?_) (fun c_1 => ?_)
  · skip
    refine lv_iconst (v := 2) hx hb d_TankArena_sector_51 (by decide) ?_
    refine lv_iload hx hb d_TankArena_sector_52 (lv_at hl 1 rfl) ?_
    refine lv_imul hx hb d_TankArena_sector_54 ?_
    refine lv_iload hx hb d_TankArena_sector_55 (lv_at hl 0 rfl) ?_
    refine lv_icmp_gt (tgt := 71) hx hb d_TankArena_sector_57 (by decide) (fun c_2 => ?_) (fun c_2 => ?_)
    · skip
      refine lv_iload_n hx hb d_TankArena_sector_71 rfl (lv_at hl 3 rfl) ?_
      refine lv_if_le (tgt := 86) hx hb d_TankArena_sector_72 (by decide) (fun c_3 => ?_) (fun c_3 => ?_)
      · skip
        refine lv_iload_n hx hb d_TankArena_sector_86 rfl (lv_at hl 2 rfl) ?_
        refine lv_if_le (tgt := 94) hx hb d_TankArena_sector_87 (by decide) (fun c_4 => ?_) (fun c_4 => ?_)
        · skip
          refine lv_iconst (v := 5) hx hb d_TankArena_sector_94 (by decide) ?_
          exact kx_iret (u := g) X rfl Wd ⟨by rw [f_sector, if_pos c_1, if_pos c_2, if_pos c_3, if_pos c_4], rfl⟩ d_TankArena_sector_95
        · skip
          refine lv_iconst (v := 3) hx hb d_TankArena_sector_90 (by decide) ?_
          refine lv_goto (tgt := 95) hx hb d_TankArena_sector_91 (by decide) ?_
          exact kx_iret (u := g) X rfl Wd ⟨by rw [f_sector, if_pos c_1, if_pos c_2, if_pos c_3, if_neg c_4], rfl⟩ d_TankArena_sector_95
      · skip
        refine lv_iload_n hx hb d_TankArena_sector_75 rfl (lv_at hl 2 rfl) ?_
        refine lv_if_le (tgt := 83) hx hb d_TankArena_sector_76 (by decide) (fun c_5 => ?_) (fun c_5 => ?_)
        · skip
          refine lv_bipush (v := 7) hx hb d_TankArena_sector_83 (by decide) ?_
          exact kx_iret (u := g) X rfl Wd ⟨by rw [f_sector, if_pos c_1, if_pos c_2, if_neg c_3, if_pos c_5], rfl⟩ d_TankArena_sector_85
        · skip
          refine lv_iconst (v := 1) hx hb d_TankArena_sector_79 (by decide) ?_
          refine lv_goto (tgt := 85) hx hb d_TankArena_sector_80 (by decide) ?_
          exact kx_iret (u := g) X rfl Wd ⟨by rw [f_sector, if_pos c_1, if_pos c_2, if_neg c_3, if_neg c_5], rfl⟩ d_TankArena_sector_85
    · skip
      refine lv_iload_n hx hb d_TankArena_sector_60 rfl (lv_at hl 2 rfl) ?_
      refine lv_if_le (tgt := 68) hx hb d_TankArena_sector_61 (by decide) (fun c_6 => ?_) (fun c_6 => ?_)
      · skip
        refine lv_bipush (v := 6) hx hb d_TankArena_sector_68 (by decide) ?_
        exact kx_iret (u := g) X rfl Wd ⟨by rw [f_sector, if_pos c_1, if_neg c_2, if_pos c_6], rfl⟩ d_TankArena_sector_70
      · skip
        refine lv_iconst (v := 2) hx hb d_TankArena_sector_64 (by decide) ?_
        refine lv_goto (tgt := 70) hx hb d_TankArena_sector_65 (by decide) ?_
        exact kx_iret (u := g) X rfl Wd ⟨by rw [f_sector, if_pos c_1, if_neg c_2, if_neg c_6], rfl⟩ d_TankArena_sector_70
  · skip
    refine lv_iload_n hx hb d_TankArena_sector_41 rfl (lv_at hl 3 rfl) ?_
    refine lv_if_le (tgt := 49) hx hb d_TankArena_sector_42 (by decide) (fun c_7 => ?_) (fun c_7 => ?_)
    · skip
      refine lv_iconst (v := 4) hx hb d_TankArena_sector_49 (by decide) ?_
      exact kx_iret (u := g) X rfl Wd ⟨by rw [f_sector, if_neg c_1, if_pos c_7], rfl⟩ d_TankArena_sector_50
    · skip
      refine lv_iconst (v := 0) hx hb d_TankArena_sector_45 (by decide) ?_
      refine lv_goto (tgt := 50) hx hb d_TankArena_sector_46 (by decide) ?_
      exact kx_iret (u := g) X rfl Wd ⟨by rw [f_sector, if_neg c_1, if_neg c_7], rfl⟩ d_TankArena_sector_50
abbrev RM_f_isTank : Room := { frames := 1, cells := 0, slots := 0, locals := 22 }
set_option maxHeartbeats 1000000 in
set_option maxRecDepth 100000 in
theorem k_f_isTank (l : Launch) (D : va_G) (cI cT cB : ClassId) (ad : Nat → Nat → Nat) (tX tY : Nat) (g : SG) (num : Int32) : KI l y_TankArena_isTank b_TankArena_isTank 2 (some .boolean) RM_f_isTank D cI cT cB ad tX tY [.ref (ad 0 0), .int num] g (fun (r : Int32) (u : SG) => r = f_isTank g num ∧ u = g) := by
  refine met_of (cc := b_TankArena_isTank) (nL := 2) (ret := (some .boolean)) (by decide) rfl (Nat.le_of_ble_eq_true rfl) ?_
  intro p e s m below meth c X hnm Wd ls hl
  have X := X.tt
  have hx := X.1
  have hb := X.2.1
  have hown := X.2.2.2.1
  have hts := X.2.2.2.2.1
  have hl : lv_has ls 2 [(0, .ref (ad 0 0)), (1, .int num)] := hl
  have Wd : WC D cI cT cB ad (va_A (gC cI cT cB ad g) s.heap.size) s.heap g s.heap [] := Wd
  refine lv_iload_n hx hb d_TankArena_isTank_0 rfl (lv_at hl 1 rfl) ?_
  refine lv_iconst (v := 0) hx hb d_TankArena_isTank_1 (by decide) ?_
  refine lv_aload_n hx hb d_TankArena_isTank_2 rfl (lv_at hl 0 rfl) ?_
  refine kx_geti (k := 0) (i := 0) X Wd ix0 cell0 fg_TankArena_27 0 rfl (by decide) rfl d_TankArena_isTank_3 ?_
  refine lv_iconst (v := 1) hx hb d_TankArena_isTank_6 (by decide) ?_
  refine lv_isub hx hb d_TankArena_isTank_7 ?_
  refine kc_Si (As := [.int num, .int 0, .int ((g 0 0 0) - 1)]) [] X Wd (k_f_within l D cI cT cB ad tX tY g num 0 ((g 0 0 0) - 1)) cS_TankArena_30 rfl rfl hl.1 ⟨rfl, rfl⟩ ⟨Nat.le_of_ble_eq_true rfl, Nat.le_of_ble_eq_true rfl⟩ (Nat.le_of_ble_eq_true rfl) ⟨Nat.zero_le _, Nat.zero_le _⟩ d_TankArena_isTank_8 (fun r u H locs hp Wd => ?_)
  obtain ⟨hr, hu⟩ := hp
  rw [hu] at Wd
  rw [hr]
  clear hr hu
  exact kx_iret (u := g) X (nar01 (z_within ..)) Wd ⟨by rw [f_isTank], rfl⟩ d_TankArena_isTank_11
abbrev RM_f_alive : Room := { frames := 0, cells := 0, slots := 0, locals := 0 }
set_option maxHeartbeats 1000000 in
set_option maxRecDepth 100000 in
theorem k_f_alive (l : Launch) (D : va_G) (cI cT cB : ClassId) (ad : Nat → Nat → Nat) (tX tY : Nat) (g : SG) (N : Nat) (ok : OkN N g) : KI l y_TankArena_countAlive b_TankArena_countAlive 3 (some .int) RM_f_alive D cI cT cB ad tX tY [.ref (ad 0 0)] g (fun (r : Int32) (u : SG) => r = f_alive g ∧ u = g) := by
  refine met_of (cc := b_TankArena_countAlive) (nL := 3) (ret := (some .int)) (by decide) rfl (Nat.le_of_ble_eq_true rfl) ?_
  intro p e s m below meth c X hnm Wd ls hl
  have X := X.tt
  have hx := X.1
  have hb := X.2.1
  have hown := X.2.2.2.1
  have hts := X.2.2.2.2.1
  have hl : lv_has ls 3 [(0, .ref (ad 0 0))] := hl
  have Wd : WC D cI cT cB ad (va_A (gC cI cT cB ad g) s.heap.size) s.heap g s.heap [] := Wd
  obtain ⟨hN4, eN⟩ := ok.N
  refine lv_iconst (v := 0) hx hb d_TankArena_countAlive_0 (by decide) ?_
  refine lv_istore_n (lv' := [(1, .int 0), (0, .ref (ad 0 0))]) hx hb d_TankArena_countAlive_1 rfl hl (by decide) rfl (fun ls hl => ?_)
  refine lv_iconst (v := 0) hx hb d_TankArena_countAlive_2 (by decide) ?_
  refine lv_istore_n (lv' := [(2, .int 0), (1, .int 0), (0, .ref (ad 0 0))]) hx hb d_TankArena_countAlive_3 rfl hl (by decide) rfl (fun ls hl => ?_)
  have loop : ∀ (n : Nat) (al : Int32) (i : Nat), i ≤ N → N + 1 ≤ i + n → f_alive g = L_alive g n al i → ∀ (H : Heap) (locs : List Loc), WC D cI cT cB ad (va_A (gC cI cT cB ad g) s.heap.size) s.heap g H locs → ∀ ls : Array Slot, lv_has ls 3 [(0, .ref (ad 0 0)), (1, .int al), (2, .int (nI i))] → W p l e RM_f_alive s m [.ref (ad 0 0)].toArray below meth c H locs 0 0 (QI D cI cT cB ad below [.ref (ad 0 0)] s g (fun (r : Int32) (u : SG) => r = f_alive g ∧ u = g)) (F0 m 4 ls []) := by
    intro n
    induction n with
    | zero =>
      intro al i hv0 hv1
      exfalso
      omega
    | succ n ih =>
      intro al i hv0 hv1 htg H locs Wd ls hl
      refine lv_iload_n hx hb d_TankArena_countAlive_4 rfl (lv_at hl 2 rfl) ?_
      refine lv_aload_n hx hb d_TankArena_countAlive_5 rfl (lv_at hl 0 rfl) ?_
      refine kx_geti (k := 0) (i := 0) X Wd ix0 cell0 fg_TankArena_27 0 rfl (by decide) rfl d_TankArena_countAlive_6 ?_
      refine lv_icmp_ge (tgt := 33) hx hb d_TankArena_countAlive_9 (by decide) (fun c_1 => ?_) (fun c_1 => ?_)
      · skip
        refine lv_iload_n hx hb d_TankArena_countAlive_33 rfl (lv_at hl 1 rfl) ?_
        exact kx_iret (u := g) X rfl Wd ⟨by rw [htg, L_alive, if_pos c_1], rfl⟩ d_TankArena_countAlive_34
      · skip
        have hiN : i < N := nlt_of eN (by omega) (by omega) c_1
        have hi : i < 4 := by omega
        refine lv_aload_n hx hb d_TankArena_countAlive_12 rfl (lv_at hl 0 rfl) ?_
        refine kx_get (k := 0) (i := 0) (v := .ref (ad 1 0)) X Wd ix0 rfl fg_TankArena_11 rfl d_TankArena_countAlive_13 ?_
        refine lv_iload_n hx hb d_TankArena_countAlive_16 rfl (lv_at hl 2 rfl) ?_
        refine kx_aald (k := 1) (i := 0) (j := i) (b := ad 3 i) (t0 := 1) X Wd ix1 cell1 rfl rfl (by omega) (by decide) rfl d_TankArena_countAlive_17 ?_
        refine kx_geti (k := 3) (i := i) X Wd (ix3 (by omega)) cell3 fg_TankArena_125 13 rfl (by decide) rfl d_TankArena_countAlive_18 ?_
        refine lv_if_eq (tgt := 27) hx hb d_TankArena_countAlive_21 (by decide) (fun c_2 => ?_) (fun c_2 => ?_)
        · skip
          refine lv_iinc (v := nI (i + 1)) (lv' := [(2, .int (nI (i + 1))), (0, .ref (ad 0 0)), (1, .int al)]) hx hb d_TankArena_countAlive_27 hl (k := 2) rfl (nI_1 i) (by decide) rfl (fun ls hl => ?_)
          refine lv_goto (tgt := 4) hx hb d_TankArena_countAlive_30 (by decide) ?_
          exact ih al (i + 1) (by omega) (by omega) (by rw [htg, L_alive, if_neg c_1, if_pos c_2]) _ _ Wd _ (lv_sub hl [1, 2, 0] rfl)
        · skip
          refine lv_iinc (v := al + 1) (lv' := [(1, .int (al + 1)), (0, .ref (ad 0 0)), (2, .int (nI i))]) hx hb d_TankArena_countAlive_24 hl (k := 1) rfl rfl (by decide) rfl (fun ls hl => ?_)
          refine lv_iinc (v := nI (i + 1)) (lv' := [(2, .int (nI (i + 1))), (1, .int (al + 1)), (0, .ref (ad 0 0))]) hx hb d_TankArena_countAlive_27 hl (k := 2) rfl (nI_1 i) (by decide) rfl (fun ls hl => ?_)
          refine lv_goto (tgt := 4) hx hb d_TankArena_countAlive_30 (by decide) ?_
          exact ih (al + 1) (i + 1) (by omega) (by omega) (by rw [htg, L_alive, if_neg c_1, if_neg c_2]) _ _ Wd _ (lv_sub hl [2, 1, 0] rfl)
  exact loop 5 0 0 (by omega) (by omega) (by rw [f_alive]) _ _ Wd _ (lv_sub hl [2, 1, 0] rfl)
abbrev RM_f_isAimed : Room := { frames := 2, cells := 0, slots := 0, locals := 46 }
set_option maxHeartbeats 1000000 in
set_option maxRecDepth 100000 in
theorem k_f_isAimed (l : Launch) (D : va_G) (cI cT cB : ClassId) (ad : Nat → Nat → Nat) (tX tY : Nat) (g : SG) (i : Nat) (hi : i < 4) (N : Nat) (ok : OkN N g) : KI l y_TankArena_isAimed b_TankArena_isAimed 2 (some .boolean) RM_f_isAimed D cI cT cB ad tX tY [.ref (ad 0 0), .ref (ad 3 i)] g (fun (r : Int32) (u : SG) => r = f_isAimed g i ∧ u = g) := by
  refine met_of (cc := b_TankArena_isAimed) (nL := 2) (ret := (some .boolean)) (by decide) rfl (Nat.le_of_ble_eq_true rfl) ?_
  intro p e s m below meth c X hnm Wd ls hl
  have X := X.tt
  have hx := X.1
  have hb := X.2.1
  have hown := X.2.2.2.1
  have hts := X.2.2.2.2.1
  have hl : lv_has ls 2 [(0, .ref (ad 0 0)), (1, .ref (ad 3 i))] := hl
  have Wd : WC D cI cT cB ad (va_A (gC cI cT cB ad g) s.heap.size) s.heap g s.heap [] := Wd
  refine lv_aload_n hx hb d_TankArena_isAimed_0 rfl (lv_at hl 1 rfl) ?_
  refine kx_get (k := 3) (i := i) (v := .ref (ad 11 i)) X Wd (ix3 hi) rfl fg_TankArena_197 rfl d_TankArena_isAimed_1 ?_
  refine kc_Vi (As := []) [] X Wd (k_f_sees l D cI cT cB ad tX tY g i hi) cV_TankArena_201 (kx_recv (k := 11) (i := i) X Wd (ix11 hi) rfl rfl) rfl rfl hl.1 ⟨rfl, rfl⟩ ⟨Nat.le_of_ble_eq_true rfl, Nat.le_of_ble_eq_true rfl⟩ (Nat.le_of_ble_eq_true rfl) ⟨Nat.zero_le _, Nat.zero_le _⟩ d_TankArena_isAimed_4 (fun r u H locs hp Wd => ?_)
  obtain ⟨hr, hu⟩ := hp
  rw [hu] at Wd
  rw [hr]
  clear hr hu
  refine lv_if_eq (tgt := 37) hx hb d_TankArena_isAimed_7 (by decide) (fun c_1 => ?_) (fun c_1 => ?_)
  · skip
    refine lv_iconst (v := 0) hx hb d_TankArena_isAimed_37 (by decide) ?_
    exact kx_iret (u := g) X rfl Wd ⟨by rw [f_isAimed, if_pos c_1], rfl⟩ d_TankArena_isAimed_38
  · skip
    obtain ⟨es, hs⟩ := sees_j ok c_1
    refine lv_aload_n hx hb d_TankArena_isAimed_10 rfl (lv_at hl 1 rfl) ?_
    refine lv_aload_n hx hb d_TankArena_isAimed_11 rfl (lv_at hl 0 rfl) ?_
    refine kx_get (k := 0) (i := 0) (v := .ref (ad 1 0)) X Wd ix0 rfl fg_TankArena_11 rfl d_TankArena_isAimed_12 ?_
    refine lv_aload_n hx hb d_TankArena_isAimed_15 rfl (lv_at hl 1 rfl) ?_
    refine kx_get (k := 3) (i := i) (v := .ref (ad 11 i)) X Wd (ix3 hi) rfl fg_TankArena_197 rfl d_TankArena_isAimed_16 ?_
    refine kx_geti (k := 11) (i := i) X Wd (ix11 hi) cell11 fg_TankArena_215 2 rfl (by decide) rfl d_TankArena_isAimed_19 ?_
    refine kx_aald (k := 1) (i := 0) (j := (g 11 i 2).toNatClampNeg) (b := ad 3 ((g 11 i 2).toNatClampNeg)) (t0 := 1) X Wd ix1 cell1 rfl es hs (by decide) rfl d_TankArena_isAimed_22 ?_
    refine kc_Si (As := [.ref (ad 3 i), .ref (ad 3 ((g 11 i 2).toNatClampNeg))]) [] X Wd (k_f_sector l D cI cT cB ad tX tY g i hi ((g 11 i 2).toNatClampNeg) hs) cS_TankArena_218 rfl rfl hl.1 ⟨rfl, rfl⟩ ⟨Nat.le_of_ble_eq_true rfl, Nat.le_of_ble_eq_true rfl⟩ (Nat.le_of_ble_eq_true rfl) ⟨Nat.zero_le _, Nat.zero_le _⟩ d_TankArena_isAimed_23 (fun r u H locs hp Wd => ?_)
    obtain ⟨hr, hu⟩ := hp
    rw [hu] at Wd
    rw [hr]
    clear hr hu
    refine lv_aload_n hx hb d_TankArena_isAimed_26 rfl (lv_at hl 1 rfl) ?_
    refine kx_geti (k := 3) (i := i) X Wd (ix3 hi) cell3 fg_TankArena_222 6 rfl (by decide) rfl d_TankArena_isAimed_27 ?_
    refine lv_icmp_ne (tgt := 37) hx hb d_TankArena_isAimed_30 (by decide) (fun c_2 => ?_) (fun c_2 => ?_)
    · skip
      refine lv_iconst (v := 0) hx hb d_TankArena_isAimed_37 (by decide) ?_
      exact kx_iret (u := g) X rfl Wd ⟨by rw [f_isAimed, if_neg c_1, if_neg c_2], rfl⟩ d_TankArena_isAimed_38
    · skip
      refine lv_iconst (v := 1) hx hb d_TankArena_isAimed_33 (by decide) ?_
      refine lv_goto (tgt := 38) hx hb d_TankArena_isAimed_34 (by decide) ?_
      exact kx_iret (u := g) X rfl Wd ⟨by rw [f_isAimed, if_neg c_1, if_pos c_2], rfl⟩ d_TankArena_isAimed_38
abbrev RM_g_obey : Room := { frames := 0, cells := 0, slots := 0, locals := 0 }
set_option maxHeartbeats 1000000 in
set_option maxRecDepth 100000 in
theorem k_g_obey (l : Launch) (D : va_G) (cI cT cB : ClassId) (ad : Nat → Nat → Nat) (tX tY : Nat) (g : SG) (i : Nat) (hi : i < 4) (op : Int32) (a : Int32) (b : Int32) (hio : insOk op a b) : KV l y_TankArena_obey b_TankArena_obey 4 none RM_g_obey D cI cT cB ad tX tY [.ref (ad 3 i), .int op, .int a, .int b] g (fun (u : SG) => u = g_obey g i op a b) := by
  refine met_of (cc := b_TankArena_obey) (nL := 4) (ret := none) (by decide) rfl (Nat.le_of_ble_eq_true rfl) ?_
  intro p e s m below meth c X hnm Wd ls hl
  have X := X.tt
  have hx := X.1
  have hb := X.2.1
  have hown := X.2.2.2.1
  have hts := X.2.2.2.2.1
  have hl : lv_has ls 4 [(0, .ref (ad 3 i)), (1, .int op), (2, .int a), (3, .int b)] := hl
  have Wd : WC D cI cT cB ad (va_A (gC cI cT cB ad g) s.heap.size) s.heap g s.heap [] := Wd
  refine lv_iload_n hx hb d_TankArena_obey_0 rfl (lv_at hl 1 rfl) ?_
  by_cases c_1 : op = 1
  · skip
    refine lv_tableIn (tgt := 64) hx hb d_TankArena_obey_1 (by rw [c_1]; decide) (by rw [c_1]; decide) (by rw [c_1]; rfl) (by decide) ?_
    refine lv_aload_n hx hb d_TankArena_obey_64 rfl (lv_at hl 0 rfl) ?_
    refine lv_iload_n hx hb d_TankArena_obey_65 rfl (lv_at hl 2 rfl) ?_
    refine lv_iconst (v := 4) hx hb d_TankArena_obey_66 (by decide) ?_
    refine lv_imul hx hb d_TankArena_obey_67 ?_
    refine kx_puti (k := 3) (i := i) (v := a * 4) X Wd (ix3 hi) cell3 fp_TankArena_145 9 rfl (by decide) rfl rfl rfl d_TankArena_obey_68 (fun H locs Wd => ?_)
    refine lv_goto (tgt := 147) hx hb d_TankArena_obey_71 (by decide) ?_
    exact kx_vret (u := up3 g 3 i 9 (a * 4)) X Wd (by rw [g_obey, if_pos c_1]) d_TankArena_obey_147
  by_cases c_2 : op = 2
  · skip
    refine lv_tableIn (tgt := 74) hx hb d_TankArena_obey_1 (by rw [c_2]; decide) (by rw [c_2]; decide) (by rw [c_2]; rfl) (by decide) ?_
    refine lv_aload_n hx hb d_TankArena_obey_74 rfl (lv_at hl 0 rfl) ?_
    refine kx_get (k := 3) (i := i) (v := .ref (ad 10 i)) X Wd (ix3 hi) rfl fg_TankArena_129 rfl d_TankArena_obey_75 ?_
    refine lv_iload_n hx hb d_TankArena_obey_78 rfl (lv_at hl 2 rfl) ?_
    refine kx_puti (k := 10) (i := i) (v := a) X Wd (ix10 hi) cell10 fp_TankArena_182 0 rfl (by decide) rfl rfl rfl d_TankArena_obey_79 (fun H locs Wd => ?_)
    refine lv_goto (tgt := 147) hx hb d_TankArena_obey_82 (by decide) ?_
    exact kx_vret (u := up3 g 10 i 0 a) X Wd (by rw [g_obey, if_neg c_1, if_pos c_2]) d_TankArena_obey_147
  by_cases c_3 : op = 3
  · skip
    refine lv_tableIn (tgt := 85) hx hb d_TankArena_obey_1 (by rw [c_3]; decide) (by rw [c_3]; decide) (by rw [c_3]; rfl) (by decide) ?_
    refine lv_aload_n hx hb d_TankArena_obey_85 rfl (lv_at hl 0 rfl) ?_
    refine kx_get (k := 3) (i := i) (v := .ref (ad 10 i)) X Wd (ix3 hi) rfl fg_TankArena_129 rfl d_TankArena_obey_86 ?_
    refine lv_iload_n hx hb d_TankArena_obey_89 rfl (lv_at hl 2 rfl) ?_
    refine kx_puti (k := 10) (i := i) (v := a) X Wd (ix10 hi) cell10 fp_TankArena_185 1 rfl (by decide) rfl rfl rfl d_TankArena_obey_90 (fun H locs Wd => ?_)
    refine lv_goto (tgt := 147) hx hb d_TankArena_obey_93 (by decide) ?_
    exact kx_vret (u := up3 g 10 i 1 a) X Wd (by rw [g_obey, if_neg c_1, if_neg c_2, if_pos c_3]) d_TankArena_obey_147
  by_cases c_4 : op = 4
  · skip
    refine lv_tableIn (tgt := 96) hx hb d_TankArena_obey_1 (by rw [c_4]; decide) (by rw [c_4]; decide) (by rw [c_4]; rfl) (by decide) ?_
    refine lv_aload_n hx hb d_TankArena_obey_96 rfl (lv_at hl 0 rfl) ?_
    refine kx_get (k := 3) (i := i) (v := .ref (ad 10 i)) X Wd (ix3 hi) rfl fg_TankArena_129 rfl d_TankArena_obey_97 ?_
    refine lv_iload_n hx hb d_TankArena_obey_100 rfl (lv_at hl 2 rfl) ?_
    refine kx_puti (k := 10) (i := i) (v := a) X Wd (ix10 hi) cell10 fp_TankArena_188 2 rfl (by decide) rfl rfl rfl d_TankArena_obey_101 (fun H locs Wd => ?_)
    refine lv_goto (tgt := 147) hx hb d_TankArena_obey_104 (by decide) ?_
    exact kx_vret (u := up3 g 10 i 2 a) X Wd (by rw [g_obey, if_neg c_1, if_neg c_2, if_neg c_3, if_pos c_4]) d_TankArena_obey_147
  by_cases c_5 : op = 5
  · skip
    refine lv_tableIn (tgt := 107) hx hb d_TankArena_obey_1 (by rw [c_5]; decide) (by rw [c_5]; decide) (by rw [c_5]; rfl) (by decide) ?_
    refine lv_aload_n hx hb d_TankArena_obey_107 rfl (lv_at hl 0 rfl) ?_
    refine kx_get (k := 3) (i := i) (v := .ref (ad 10 i)) X Wd (ix3 hi) rfl fg_TankArena_129 rfl d_TankArena_obey_108 ?_
    refine lv_iload_n hx hb d_TankArena_obey_111 rfl (lv_at hl 2 rfl) ?_
    refine kx_puti (k := 10) (i := i) (v := a) X Wd (ix10 hi) cell10 fp_TankArena_191 3 rfl (by decide) rfl rfl rfl d_TankArena_obey_112 (fun H locs Wd => ?_)
    refine lv_goto (tgt := 147) hx hb d_TankArena_obey_115 (by decide) ?_
    exact kx_vret (u := up3 g 10 i 3 a) X Wd (by rw [g_obey, if_neg c_1, if_neg c_2, if_neg c_3, if_neg c_4, if_pos c_5]) d_TankArena_obey_147
  by_cases c_6 : op = 6
  · skip
    refine lv_tableIn (tgt := 147) hx hb d_TankArena_obey_1 (by rw [c_6]; decide) (by rw [c_6]; decide) (by rw [c_6]; rfl) (by decide) ?_
    exact kx_vret (u := g) X Wd (by rw [g_obey, if_neg c_1, if_neg c_2, if_neg c_3, if_neg c_4, if_neg c_5, if_pos c_6]) d_TankArena_obey_147
  by_cases c_7 : op = 7
  · skip
    refine lv_tableIn (tgt := 147) hx hb d_TankArena_obey_1 (by rw [c_7]; decide) (by rw [c_7]; decide) (by rw [c_7]; rfl) (by decide) ?_
    exact kx_vret (u := g) X Wd (by rw [g_obey, if_neg c_1, if_neg c_2, if_neg c_3, if_neg c_4, if_neg c_5, if_neg c_6, if_pos c_7]) d_TankArena_obey_147
  by_cases c_8 : op = 8
  · skip
    refine lv_tableIn (tgt := 147) hx hb d_TankArena_obey_1 (by rw [c_8]; decide) (by rw [c_8]; decide) (by rw [c_8]; rfl) (by decide) ?_
    exact kx_vret (u := g) X Wd (by rw [g_obey, if_neg c_1, if_neg c_2, if_neg c_3, if_neg c_4, if_neg c_5, if_neg c_6, if_neg c_7, if_pos c_8]) d_TankArena_obey_147
  by_cases c_9 : op = 9
  · skip
    refine lv_tableIn (tgt := 147) hx hb d_TankArena_obey_1 (by rw [c_9]; decide) (by rw [c_9]; decide) (by rw [c_9]; rfl) (by decide) ?_
    exact kx_vret (u := g) X Wd (by rw [g_obey, if_neg c_1, if_neg c_2, if_neg c_3, if_neg c_4, if_neg c_5, if_neg c_6, if_neg c_7, if_neg c_8, if_pos c_9]) d_TankArena_obey_147
  by_cases c_10 : op = 10
  · skip
    refine lv_tableIn (tgt := 147) hx hb d_TankArena_obey_1 (by rw [c_10]; decide) (by rw [c_10]; decide) (by rw [c_10]; rfl) (by decide) ?_
    exact kx_vret (u := g) X Wd (by rw [g_obey, if_neg c_1, if_neg c_2, if_neg c_3, if_neg c_4, if_neg c_5, if_neg c_6, if_neg c_7, if_neg c_8, if_neg c_9, if_pos c_10]) d_TankArena_obey_147
  by_cases c_11 : op = 11
  · skip
    refine lv_tableIn (tgt := 118) hx hb d_TankArena_obey_1 (by rw [c_11]; decide) (by rw [c_11]; decide) (by rw [c_11]; rfl) (by decide) ?_
    obtain ⟨es, hs⟩ := rng_j (hio.1 c_11) (by decide)
    refine lv_aload_n hx hb d_TankArena_obey_118 rfl (lv_at hl 0 rfl) ?_
    refine kx_get (k := 3) (i := i) (v := .ref (ad 8 i)) X Wd (ix3 hi) rfl fg_TankArena_152 rfl d_TankArena_obey_119 ?_
    refine kx_get (k := 8) (i := i) (v := .ref (ad 9 i)) X Wd (ix8 hi) rfl fg_TankArena_194 rfl d_TankArena_obey_122 ?_
    refine lv_iload_n hx hb d_TankArena_obey_125 rfl (lv_at hl 2 rfl) ?_
    refine lv_iload_n hx hb d_TankArena_obey_126 rfl (lv_at hl 3 rfl) ?_
    refine kx_iast (k := 9) (i := i) (j := a.toNatClampNeg) (t0 := 0) X Wd (ix9 hi) cell9 rfl es hs (by decide) d_TankArena_obey_127 (fun H locs Wd => ?_)
    refine lv_goto (tgt := 147) hx hb d_TankArena_obey_128 (by decide) ?_
    exact kx_vret (u := up3 g 9 i a.toNatClampNeg b) X Wd (by rw [g_obey, if_neg c_1, if_neg c_2, if_neg c_3, if_neg c_4, if_neg c_5, if_neg c_6, if_neg c_7, if_neg c_8, if_neg c_9, if_neg c_10, if_pos c_11]) d_TankArena_obey_147
  by_cases c_12 : op = 12
  · skip
    refine lv_tableIn (tgt := 131) hx hb d_TankArena_obey_1 (by rw [c_12]; decide) (by rw [c_12]; decide) (by rw [c_12]; rfl) (by decide) ?_
    obtain ⟨es, hs⟩ := rng_j (hio.2.1 c_12) (by decide)
    refine lv_aload_n hx hb d_TankArena_obey_131 rfl (lv_at hl 0 rfl) ?_
    refine kx_get (k := 3) (i := i) (v := .ref (ad 8 i)) X Wd (ix3 hi) rfl fg_TankArena_152 rfl d_TankArena_obey_132 ?_
    refine kx_get (k := 8) (i := i) (v := .ref (ad 9 i)) X Wd (ix8 hi) rfl fg_TankArena_194 rfl d_TankArena_obey_135 ?_
    refine lv_iload_n hx hb d_TankArena_obey_138 rfl (lv_at hl 3 rfl) ?_
    refine lv_dup2_11 hx hb d_TankArena_obey_139 rfl rfl ?_
    refine kx_iald (k := 9) (i := i) (j := b.toNatClampNeg) (t0 := 0) X Wd (ix9 hi) cell9 rfl es hs (by decide) d_TankArena_obey_140 ?_
    refine lv_iconst (v := 1) hx hb d_TankArena_obey_141 (by decide) ?_
    refine lv_isub hx hb d_TankArena_obey_142 ?_
    refine kx_iast (k := 9) (i := i) (j := b.toNatClampNeg) (t0 := 0) X Wd (ix9 hi) cell9 rfl es hs (by decide) d_TankArena_obey_143 (fun H locs Wd => ?_)
    refine lv_goto (tgt := 147) hx hb d_TankArena_obey_144 (by decide) ?_
    exact kx_vret (u := up3 g 9 i b.toNatClampNeg ((g 9 i b.toNatClampNeg) - 1)) X Wd (by rw [g_obey, if_neg c_1, if_neg c_2, if_neg c_3, if_neg c_4, if_neg c_5, if_neg c_6, if_neg c_7, if_neg c_8, if_neg c_9, if_neg c_10, if_neg c_11, if_pos c_12]) d_TankArena_obey_147
  refine lv_tableOut (tgt := 147) hx hb d_TankArena_obey_1 (by have q0 := neI (1) rfl c_1; have q1 := neI (2) rfl c_2; have q2 := neI (3) rfl c_3; have q3 := neI (4) rfl c_4; have q4 := neI (5) rfl c_5; have q5 := neI (6) rfl c_6; have q6 := neI (7) rfl c_7; have q7 := neI (8) rfl c_8; have q8 := neI (9) rfl c_9; have q9 := neI (10) rfl c_10; have q10 := neI (11) rfl c_11; have q11 := neI (12) rfl c_12; omega) (by decide) ?_
  exact kx_vret (u := g) X Wd (by rw [g_obey, if_neg c_1, if_neg c_2, if_neg c_3, if_neg c_4, if_neg c_5, if_neg c_6, if_neg c_7, if_neg c_8, if_neg c_9, if_neg c_10, if_neg c_11, if_neg c_12]) d_TankArena_obey_147
abbrev RM_f_jumps : Room := { frames := 3, cells := 0, slots := 0, locals := 67 }
set_option maxHeartbeats 1000000 in
set_option maxRecDepth 100000 in
theorem k_f_jumps (l : Launch) (D : va_G) (cI cT cB : ClassId) (ad : Nat → Nat → Nat) (tX tY : Nat) (g : SG) (i : Nat) (hi : i < 4) (op : Int32) (b : Int32) (N : Nat) (ok : OkN N g) (hio : op = 12 → rng b 2) : KI l y_TankArena_jumps b_TankArena_jumps 4 (some .boolean) RM_f_jumps D cI cT cB ad tX tY [.ref (ad 0 0), .ref (ad 3 i), .int op, .int b] g (fun (r : Int32) (u : SG) => r = f_jumps g i op b ∧ u = g) := by
  refine met_of (cc := b_TankArena_jumps) (nL := 4) (ret := (some .boolean)) (by decide) rfl (Nat.le_of_ble_eq_true rfl) ?_
  intro p e s m below meth c X hnm Wd ls hl
  have X := X.tt
  have hx := X.1
  have hb := X.2.1
  have hown := X.2.2.2.1
  have hts := X.2.2.2.2.1
  have hl : lv_has ls 4 [(0, .ref (ad 0 0)), (1, .ref (ad 3 i)), (2, .int op), (3, .int b)] := hl
  have Wd : WC D cI cT cB ad (va_A (gC cI cT cB ad g) s.heap.size) s.heap g s.heap [] := Wd
  refine lv_iload_n hx hb d_TankArena_jumps_0 rfl (lv_at hl 2 rfl) ?_
  by_cases c_1 : op = 6
  · skip
    refine lv_tableIn (tgt := 44) hx hb d_TankArena_jumps_1 (by rw [c_1]; decide) (by rw [c_1]; decide) (by rw [c_1]; rfl) (by decide) ?_
    refine lv_iconst (v := 1) hx hb d_TankArena_jumps_44 (by decide) ?_
    exact kx_iret (u := g) X rfl Wd ⟨by rw [f_jumps, if_pos c_1], rfl⟩ d_TankArena_jumps_45
  by_cases c_2 : op = 7
  · skip
    refine lv_tableIn (tgt := 46) hx hb d_TankArena_jumps_1 (by rw [c_2]; decide) (by rw [c_2]; decide) (by rw [c_2]; rfl) (by decide) ?_
    refine lv_aload_n hx hb d_TankArena_jumps_46 rfl (lv_at hl 1 rfl) ?_
    refine kx_get (k := 3) (i := i) (v := .ref (ad 11 i)) X Wd (ix3 hi) rfl fg_TankArena_197 rfl d_TankArena_jumps_47 ?_
    refine kc_Vi (As := []) [] X Wd (k_f_sees l D cI cT cB ad tX tY g i hi) cV_TankArena_201 (kx_recv (k := 11) (i := i) X Wd (ix11 hi) rfl rfl) rfl rfl hl.1 ⟨rfl, rfl⟩ ⟨Nat.le_of_ble_eq_true rfl, Nat.le_of_ble_eq_true rfl⟩ (Nat.le_of_ble_eq_true rfl) ⟨Nat.zero_le _, Nat.zero_le _⟩ d_TankArena_jumps_50 (fun r u H locs hp Wd => ?_)
    obtain ⟨hr, hu⟩ := hp
    rw [hu] at Wd
    rw [hr]
    clear hr hu
    exact kx_iret (u := g) X (nar01 (z_sees ..)) Wd ⟨by rw [f_jumps, if_neg c_1, if_pos c_2], rfl⟩ d_TankArena_jumps_53
  by_cases c_3 : op = 8
  · skip
    refine lv_tableIn (tgt := 54) hx hb d_TankArena_jumps_1 (by rw [c_3]; decide) (by rw [c_3]; decide) (by rw [c_3]; rfl) (by decide) ?_
    refine lv_aload_n hx hb d_TankArena_jumps_54 rfl (lv_at hl 1 rfl) ?_
    refine kx_get (k := 3) (i := i) (v := .ref (ad 11 i)) X Wd (ix3 hi) rfl fg_TankArena_197 rfl d_TankArena_jumps_55 ?_
    refine kx_geti (k := 11) (i := i) X Wd (ix11 hi) cell11 fg_TankArena_206 0 rfl (by decide) rfl d_TankArena_jumps_58 ?_
    exact kx_iret (u := g) X (nar01 (ok.1.1 11 i 0)) Wd ⟨by rw [f_jumps, if_neg c_1, if_neg c_2, if_pos c_3], rfl⟩ d_TankArena_jumps_61
  by_cases c_4 : op = 9
  · skip
    refine lv_tableIn (tgt := 62) hx hb d_TankArena_jumps_1 (by rw [c_4]; decide) (by rw [c_4]; decide) (by rw [c_4]; rfl) (by decide) ?_
    refine lv_aload_n hx hb d_TankArena_jumps_62 rfl (lv_at hl 1 rfl) ?_
    refine kx_get (k := 3) (i := i) (v := .ref (ad 11 i)) X Wd (ix3 hi) rfl fg_TankArena_197 rfl d_TankArena_jumps_63 ?_
    refine kx_geti (k := 11) (i := i) X Wd (ix11 hi) cell11 fg_TankArena_209 1 rfl (by decide) rfl d_TankArena_jumps_66 ?_
    exact kx_iret (u := g) X (nar01 (ok.1.1 11 i 1)) Wd ⟨by rw [f_jumps, if_neg c_1, if_neg c_2, if_neg c_3, if_pos c_4], rfl⟩ d_TankArena_jumps_69
  by_cases c_5 : op = 10
  · skip
    refine lv_tableIn (tgt := 70) hx hb d_TankArena_jumps_1 (by rw [c_5]; decide) (by rw [c_5]; decide) (by rw [c_5]; rfl) (by decide) ?_
    refine lv_aload_n hx hb d_TankArena_jumps_70 rfl (lv_at hl 0 rfl) ?_
    refine lv_aload_n hx hb d_TankArena_jumps_71 rfl (lv_at hl 1 rfl) ?_
    refine kc_Vi (As := [.ref (ad 3 i)]) [] X Wd (k_f_isAimed l D cI cT cB ad tX tY g i hi N ok) cV_TankArena_212 (kx_recv (k := 0) (i := 0) X Wd ix0 rfl rfl) rfl rfl hl.1 ⟨rfl, rfl⟩ ⟨Nat.le_of_ble_eq_true rfl, Nat.le_of_ble_eq_true rfl⟩ (Nat.le_of_ble_eq_true rfl) ⟨Nat.zero_le _, Nat.zero_le _⟩ d_TankArena_jumps_72 (fun r u H locs hp Wd => ?_)
    obtain ⟨hr, hu⟩ := hp
    rw [hu] at Wd
    rw [hr]
    clear hr hu
    exact kx_iret (u := g) X (nar01 (z_isAimed ..)) Wd ⟨by rw [f_jumps, if_neg c_1, if_neg c_2, if_neg c_3, if_neg c_4, if_pos c_5], rfl⟩ d_TankArena_jumps_75
  by_cases c_6 : op = 11
  · skip
    refine lv_tableIn (tgt := 94) hx hb d_TankArena_jumps_1 (by rw [c_6]; decide) (by rw [c_6]; decide) (by rw [c_6]; rfl) (by decide) ?_
    refine lv_iconst (v := 0) hx hb d_TankArena_jumps_94 (by decide) ?_
    exact kx_iret (u := g) X rfl Wd ⟨by rw [f_jumps, if_neg c_1, if_neg c_2, if_neg c_3, if_neg c_4, if_neg c_5, if_pos c_6], rfl⟩ d_TankArena_jumps_95
  by_cases c_7 : op = 12
  · skip
    refine lv_tableIn (tgt := 76) hx hb d_TankArena_jumps_1 (by rw [c_7]; decide) (by rw [c_7]; decide) (by rw [c_7]; rfl) (by decide) ?_
    obtain ⟨es, hs⟩ := rng_j (hio c_7) (by decide)
    refine lv_aload_n hx hb d_TankArena_jumps_76 rfl (lv_at hl 1 rfl) ?_
    refine kx_get (k := 3) (i := i) (v := .ref (ad 8 i)) X Wd (ix3 hi) rfl fg_TankArena_152 rfl d_TankArena_jumps_77 ?_
    refine kx_get (k := 8) (i := i) (v := .ref (ad 9 i)) X Wd (ix8 hi) rfl fg_TankArena_194 rfl d_TankArena_jumps_80 ?_
    refine lv_iload_n hx hb d_TankArena_jumps_83 rfl (lv_at hl 3 rfl) ?_
    refine kx_iald (k := 9) (i := i) (j := b.toNatClampNeg) (t0 := 0) X Wd (ix9 hi) cell9 rfl es hs (by decide) d_TankArena_jumps_84 ?_
    refine lv_if_le (tgt := 92) hx hb d_TankArena_jumps_85 (by decide) (fun c_8 => ?_) (fun c_8 => ?_)
    · skip
      refine lv_iconst (v := 0) hx hb d_TankArena_jumps_92 (by decide) ?_
      exact kx_iret (u := g) X rfl Wd ⟨by rw [f_jumps, if_neg c_1, if_neg c_2, if_neg c_3, if_neg c_4, if_neg c_5, if_neg c_6, if_pos c_7, if_pos c_8], rfl⟩ d_TankArena_jumps_93
    · skip
      refine lv_iconst (v := 1) hx hb d_TankArena_jumps_88 (by decide) ?_
      refine lv_goto (tgt := 93) hx hb d_TankArena_jumps_89 (by decide) ?_
      exact kx_iret (u := g) X rfl Wd ⟨by rw [f_jumps, if_neg c_1, if_neg c_2, if_neg c_3, if_neg c_4, if_neg c_5, if_neg c_6, if_pos c_7, if_neg c_8], rfl⟩ d_TankArena_jumps_93
  refine lv_tableOut (tgt := 94) hx hb d_TankArena_jumps_1 (by have q0 := neI (6) rfl c_1; have q1 := neI (7) rfl c_2; have q2 := neI (8) rfl c_3; have q3 := neI (9) rfl c_4; have q4 := neI (10) rfl c_5; have q5 := neI (11) rfl c_6; have q6 := neI (12) rfl c_7; omega) (by decide) ?_
  refine lv_iconst (v := 0) hx hb d_TankArena_jumps_94 (by decide) ?_
  exact kx_iret (u := g) X rfl Wd ⟨by rw [f_jumps, if_neg c_1, if_neg c_2, if_neg c_3, if_neg c_4, if_neg c_5, if_neg c_6, if_neg c_7], rfl⟩ d_TankArena_jumps_95
abbrev RM_x_spends : Room := { frames := 4, cells := 0, slots := 0, locals := 90 }
set_option maxHeartbeats 1000000 in
set_option maxRecDepth 100000 in
theorem k_x_spends (l : Launch) (D : va_G) (cI cT cB : ClassId) (ad : Nat → Nat → Nat) (tX tY : Nat) (g : SG) (i : Nat) (hi : i < 4) (N : Nat) (ok : OkN N g) : KI l y_TankArena_spendsBudget b_TankArena_spendsBudget 9 (some .boolean) RM_x_spends D cI cT cB ad tX tY [.ref (ad 0 0), .ref (ad 3 i)] g (fun (r : Int32) (u : SG) => r = (x_spends g i).1 ∧ u = (x_spends g i).2) := by
  refine met_of (cc := b_TankArena_spendsBudget) (nL := 9) (ret := (some .boolean)) (by decide) rfl (Nat.le_of_ble_eq_true rfl) ?_
  intro p e s m below meth c X hnm Wd ls hl
  have X := X.tt
  have hx := X.1
  have hb := X.2.1
  have hown := X.2.2.2.1
  have hts := X.2.2.2.2.1
  have hl : lv_has ls 9 [(0, .ref (ad 0 0)), (1, .ref (ad 3 i))] := hl
  have Wd : WC D cI cT cB ad (va_A (gC cI cT cB ad g) s.heap.size) s.heap g s.heap [] := Wd
  refine lv_aload_n hx hb d_TankArena_spendsBudget_0 rfl (lv_at hl 1 rfl) ?_
  refine kx_get (k := 3) (i := i) (v := .ref (ad 4 i)) X Wd (ix3 hi) rfl fg_TankArena_52 rfl d_TankArena_spendsBudget_1 ?_
  refine lv_astore_n (lv' := [(2, .ref (ad 4 i)), (0, .ref (ad 0 0)), (1, .ref (ad 3 i))]) hx hb d_TankArena_spendsBudget_4 rfl hl (by decide) rfl (fun ls hl => ?_)
  refine lv_aload_n hx hb d_TankArena_spendsBudget_5 rfl (lv_at hl 2 rfl) ?_
  refine kx_get (k := 3) (i := i) (v := .ref (ad 8 i)) X Wd (ix3 hi) rfl fg_TankArena_152 rfl d_TankArena_spendsBudget_6 ?_
  refine lv_astore_n (lv' := [(3, .ref (ad 8 i)), (2, .ref (ad 4 i)), (0, .ref (ad 0 0)), (1, .ref (ad 3 i))]) hx hb d_TankArena_spendsBudget_9 rfl hl (by decide) rfl (fun ls hl => ?_)
  refine lv_iconst (v := 0) hx hb d_TankArena_spendsBudget_10 (by decide) ?_
  refine lv_istore (lv' := [(4, .int 0), (3, .ref (ad 8 i)), (2, .ref (ad 4 i)), (0, .ref (ad 0 0)), (1, .ref (ad 3 i))]) hx hb d_TankArena_spendsBudget_11 hl (by decide) rfl (fun ls hl => ?_)
  have loop : ∀ (n : Nat) (dn : Nat) (gl : SG), OkN N gl → dn ≤ 10 → 11 ≤ dn + n → x_spends g i = L_spends i n dn gl → ∀ (H : Heap) (locs : List Loc), WC D cI cT cB ad (va_A (gC cI cT cB ad g) s.heap.size) s.heap gl H locs → ∀ ls : Array Slot, lv_has ls 9 [(0, .ref (ad 0 0)), (1, .ref (ad 3 i)), (2, .ref (ad 4 i)), (3, .ref (ad 8 i)), (4, .int (nI dn))] → W p l e RM_x_spends s m [.ref (ad 0 0), .ref (ad 3 i)].toArray below meth c H locs 0 0 (QI D cI cT cB ad below [.ref (ad 0 0), .ref (ad 3 i)] s g (fun (r : Int32) (u : SG) => r = (x_spends g i).1 ∧ u = (x_spends g i).2)) (F0 m 13 ls []) := by
    intro n
    induction n with
    | zero =>
      intro dn gl hv0 hv1 hv2
      exfalso
      omega
    | succ n ih =>
      intro dn gl hv0 hv1 hv2 htg H locs Wd ls hl
      refine lv_iload hx hb d_TankArena_spendsBudget_13 (lv_at hl 4 rfl) ?_
      refine lv_bipush (v := 10) hx hb d_TankArena_spendsBudget_15 (by decide) ?_
      refine lv_icmp_ge (tgt := 117) hx hb d_TankArena_spendsBudget_17 (by decide) (fun c_1 => ?_) (fun c_1 => ?_)
      · skip
        refine lv_iconst (v := 1) hx hb d_TankArena_spendsBudget_117 (by decide) ?_
        exact kx_iret (u := gl) X rfl Wd (by rw [htg, L_spends, if_pos c_1]; dsimp only; exact ⟨rfl, rfl⟩) d_TankArena_spendsBudget_118
      · skip
        have hdn : dn < 10 := nlt_of (N := 10) rfl (by decide) (by omega) c_1
        refine lv_aload_n hx hb d_TankArena_spendsBudget_20 rfl (lv_at hl 3 rfl) ?_
        refine kx_geti (k := 8) (i := i) X Wd (ix8 hi) cell8 fg_TankArena_161 0 rfl (by decide) rfl d_TankArena_spendsBudget_21 ?_
        refine lv_istore (lv' := [(5, .int (gl 8 i 0)), (0, .ref (ad 0 0)), (1, .ref (ad 3 i)), (2, .ref (ad 4 i)), (3, .ref (ad 8 i)), (4, .int (nI dn))]) hx hb d_TankArena_spendsBudget_24 hl (by decide) rfl (fun ls hl => ?_)
        refine lv_iload hx hb d_TankArena_spendsBudget_26 (lv_at hl 0 rfl) ?_
        refine lv_aload_n hx hb d_TankArena_spendsBudget_28 rfl (lv_at hl 3 rfl) ?_
        refine kx_geti (k := 4) (i := i) X Wd (ix4 hi) cell4 fg_TankArena_63 0 rfl (by decide) rfl d_TankArena_spendsBudget_29 ?_
        refine lv_icmp_lt (tgt := 42) hx hb d_TankArena_spendsBudget_32 (by decide) (fun c_2 => ?_) (fun c_2 => ?_)
        · skip
          obtain ⟨es, hs⟩ := ctr_j hv0 c_2
          have hio := hv0.1.2 i (gl 8 i 0).toNatClampNeg
          refine lv_aload_n hx hb d_TankArena_spendsBudget_42 rfl (lv_at hl 3 rfl) ?_
          refine kx_get (k := 4) (i := i) (v := .ref (ad 5 i)) X Wd (ix4 hi) rfl fg_TankArena_164 rfl d_TankArena_spendsBudget_43 ?_
          refine lv_iload hx hb d_TankArena_spendsBudget_46 (lv_at hl 0 rfl) ?_
          refine kx_iald (k := 5) (i := i) (j := (gl 8 i 0).toNatClampNeg) (t0 := 0) X Wd (ix5 hi) cell5 rfl es hs (by decide) d_TankArena_spendsBudget_48 ?_
          refine lv_istore (lv' := [(6, .int (gl 5 i ((gl 8 i 0).toNatClampNeg))), (5, .int (gl 8 i 0)), (0, .ref (ad 0 0)), (1, .ref (ad 3 i)), (2, .ref (ad 4 i)), (3, .ref (ad 8 i)), (4, .int (nI dn))]) hx hb d_TankArena_spendsBudget_49 hl (by decide) rfl (fun ls hl => ?_)
          refine lv_aload_n hx hb d_TankArena_spendsBudget_51 rfl (lv_at hl 4 rfl) ?_
          refine kx_get (k := 4) (i := i) (v := .ref (ad 6 i)) X Wd (ix4 hi) rfl fg_TankArena_168 rfl d_TankArena_spendsBudget_52 ?_
          refine lv_iload hx hb d_TankArena_spendsBudget_55 (lv_at hl 1 rfl) ?_
          refine kx_iald (k := 6) (i := i) (j := (gl 8 i 0).toNatClampNeg) (t0 := 0) X Wd (ix6 hi) cell6 rfl es hs (by decide) d_TankArena_spendsBudget_57 ?_
          refine lv_istore (lv' := [(7, .int (gl 6 i ((gl 8 i 0).toNatClampNeg))), (6, .int (gl 5 i ((gl 8 i 0).toNatClampNeg))), (5, .int (gl 8 i 0)), (0, .ref (ad 0 0)), (1, .ref (ad 3 i)), (2, .ref (ad 4 i)), (3, .ref (ad 8 i)), (4, .int (nI dn))]) hx hb d_TankArena_spendsBudget_58 hl (by decide) rfl (fun ls hl => ?_)
          refine lv_aload_n hx hb d_TankArena_spendsBudget_60 rfl (lv_at hl 5 rfl) ?_
          refine kx_get (k := 4) (i := i) (v := .ref (ad 7 i)) X Wd (ix4 hi) rfl fg_TankArena_171 rfl d_TankArena_spendsBudget_61 ?_
          refine lv_iload hx hb d_TankArena_spendsBudget_64 (lv_at hl 2 rfl) ?_
          refine kx_iald (k := 7) (i := i) (j := (gl 8 i 0).toNatClampNeg) (t0 := 0) X Wd (ix7 hi) cell7 rfl es hs (by decide) d_TankArena_spendsBudget_66 ?_
          refine lv_istore (lv' := [(8, .int (gl 7 i ((gl 8 i 0).toNatClampNeg))), (7, .int (gl 6 i ((gl 8 i 0).toNatClampNeg))), (6, .int (gl 5 i ((gl 8 i 0).toNatClampNeg))), (5, .int (gl 8 i 0)), (0, .ref (ad 0 0)), (1, .ref (ad 3 i)), (2, .ref (ad 4 i)), (3, .ref (ad 8 i)), (4, .int (nI dn))]) hx hb d_TankArena_spendsBudget_67 hl (by decide) rfl (fun ls hl => ?_)
          refine lv_aload_n hx hb d_TankArena_spendsBudget_69 rfl (lv_at hl 5 rfl) ?_
          refine lv_iload hx hb d_TankArena_spendsBudget_70 (lv_at hl 2 rfl) ?_
          refine lv_iload hx hb d_TankArena_spendsBudget_72 (lv_at hl 1 rfl) ?_
          refine lv_iload hx hb d_TankArena_spendsBudget_74 (lv_at hl 0 rfl) ?_
          refine kc_Sv (As := [.ref (ad 3 i), .int (gl 5 i ((gl 8 i 0).toNatClampNeg)), .int (gl 6 i ((gl 8 i 0).toNatClampNeg)), .int (gl 7 i ((gl 8 i 0).toNatClampNeg))]) [] X Wd (k_g_obey l D cI cT cB ad tX tY gl i hi (gl 5 i ((gl 8 i 0).toNatClampNeg)) (gl 6 i ((gl 8 i 0).toNatClampNeg)) (gl 7 i ((gl 8 i 0).toNatClampNeg)) hio) cS_TankArena_174 rfl rfl hl.1 ⟨rfl, rfl⟩ ⟨Nat.le_of_ble_eq_true rfl, Nat.le_of_ble_eq_true rfl⟩ (Nat.le_of_ble_eq_true rfl) ⟨Nat.zero_le _, Nat.zero_le _⟩ d_TankArena_spendsBudget_76 (fun u H locs hp Wd => ?_)
          rw [hp] at Wd
          clear hp
          have Wd : WC D cI cT cB ad _ s.heap (g_obey gl i (gl 5 i ((gl 8 i 0).toNatClampNeg)) (gl 6 i ((gl 8 i 0).toNatClampNeg)) (gl 7 i ((gl 8 i 0).toNatClampNeg))) H locs := Wd
          refine lv_aload_n hx hb d_TankArena_spendsBudget_79 rfl (lv_at hl 7 rfl) ?_
          refine lv_aload_n hx hb d_TankArena_spendsBudget_80 rfl (lv_at hl 4 rfl) ?_
          refine lv_aload_n hx hb d_TankArena_spendsBudget_81 rfl (lv_at hl 5 rfl) ?_
          refine lv_iload hx hb d_TankArena_spendsBudget_82 (lv_at hl 2 rfl) ?_
          refine lv_iload hx hb d_TankArena_spendsBudget_84 (lv_at hl 0 rfl) ?_
          refine kc_Vi (As := [.ref (ad 3 i), .int (gl 5 i ((gl 8 i 0).toNatClampNeg)), .int (gl 7 i ((gl 8 i 0).toNatClampNeg))]) [.ref (ad 8 i)] X Wd (k_f_jumps l D cI cT cB ad tX tY (g_obey gl i (gl 5 i ((gl 8 i 0).toNatClampNeg)) (gl 6 i ((gl 8 i 0).toNatClampNeg)) (gl 7 i ((gl 8 i 0).toNatClampNeg))) i hi (gl 5 i ((gl 8 i 0).toNatClampNeg)) (gl 7 i ((gl 8 i 0).toNatClampNeg)) N (by refine ok_g_obey ?_ i (gl 5 i ((gl 8 i 0).toNatClampNeg)) (gl 6 i ((gl 8 i 0).toNatClampNeg)) (gl 7 i ((gl 8 i 0).toNatClampNeg)) hio; exact hv0) hio.2.1) cV_TankArena_178 (kx_recv (k := 0) (i := 0) X Wd ix0 rfl rfl) rfl rfl hl.1 ⟨rfl, rfl⟩ ⟨Nat.le_of_ble_eq_true rfl, Nat.le_of_ble_eq_true rfl⟩ (Nat.le_of_ble_eq_true rfl) ⟨Nat.zero_le _, Nat.zero_le _⟩ d_TankArena_spendsBudget_86 (fun r u H locs hp Wd => ?_)
          obtain ⟨hr, hu⟩ := hp
          rw [hu] at Wd
          rw [hr]
          clear hr hu
          refine lv_if_eq (tgt := 97) hx hb d_TankArena_spendsBudget_89 (by decide) (fun c_3 => ?_) (fun c_3 => ?_)
          · skip
            refine lv_iload hx hb d_TankArena_spendsBudget_97 (lv_at hl 3 rfl) ?_
            refine lv_iconst (v := 1) hx hb d_TankArena_spendsBudget_99 (by decide) ?_
            refine lv_iadd hx hb d_TankArena_spendsBudget_100 ?_
            refine kx_puti (k := 8) (i := i) (v := (gl 8 i 0) + 1) X Wd (ix8 hi) cell8 fp_TankArena_161 0 rfl (by decide) rfl rfl rfl d_TankArena_spendsBudget_101 (fun H locs Wd => ?_)
            refine lv_iload hx hb d_TankArena_spendsBudget_104 (lv_at hl 2 rfl) ?_
            refine lv_if_ne (tgt := 111) hx hb d_TankArena_spendsBudget_106 (by decide) (fun c_4 => ?_) (fun c_4 => ?_)
            · skip
              refine lv_iinc (v := nI (dn + 1)) (lv' := [(4, .int (nI (dn + 1))), (8, .int (gl 7 i ((gl 8 i 0).toNatClampNeg))), (7, .int (gl 6 i ((gl 8 i 0).toNatClampNeg))), (6, .int (gl 5 i ((gl 8 i 0).toNatClampNeg))), (5, .int (gl 8 i 0)), (0, .ref (ad 0 0)), (1, .ref (ad 3 i)), (2, .ref (ad 4 i)), (3, .ref (ad 8 i))]) hx hb d_TankArena_spendsBudget_111 hl (k := 8) rfl (nI_1 dn) (by decide) rfl (fun ls hl => ?_)
              refine lv_goto (tgt := 13) hx hb d_TankArena_spendsBudget_114 (by decide) ?_
              exact ih (dn + 1) (up3 (g_obey gl i (gl 5 i ((gl 8 i 0).toNatClampNeg)) (gl 6 i ((gl 8 i 0).toNatClampNeg)) (gl 7 i ((gl 8 i 0).toNatClampNeg))) 8 i 0 ((gl 8 i 0) + 1)) (by refine okU ?_ rfl (next_ty es hs); refine ok_g_obey ?_ i (gl 5 i ((gl 8 i 0).toNatClampNeg)) (gl 6 i ((gl 8 i 0).toNatClampNeg)) (gl 7 i ((gl 8 i 0).toNatClampNeg)) hio; exact hv0) (by omega) (by omega) (by rw [htg, L_spends, if_neg c_1, if_pos c_2, if_pos c_3, if_neg c_4]) _ _ Wd _ (lv_sub hl [5, 6, 7, 8, 0] rfl)
            · skip
              refine lv_iconst (v := 0) hx hb d_TankArena_spendsBudget_109 (by decide) ?_
              exact kx_iret (u := up3 (g_obey gl i (gl 5 i ((gl 8 i 0).toNatClampNeg)) (gl 6 i ((gl 8 i 0).toNatClampNeg)) (gl 7 i ((gl 8 i 0).toNatClampNeg))) 8 i 0 ((gl 8 i 0) + 1)) X rfl Wd (by rw [htg, L_spends, if_neg c_1, if_pos c_2, if_pos c_3, if_pos c_4]; dsimp only; exact ⟨rfl, rfl⟩) d_TankArena_spendsBudget_110
          · skip
            refine lv_iload hx hb d_TankArena_spendsBudget_92 (lv_at hl 1 rfl) ?_
            refine lv_goto (tgt := 101) hx hb d_TankArena_spendsBudget_94 (by decide) ?_
            refine kx_puti (k := 8) (i := i) (v := gl 6 i ((gl 8 i 0).toNatClampNeg)) X Wd (ix8 hi) cell8 fp_TankArena_161 0 rfl (by decide) rfl rfl rfl d_TankArena_spendsBudget_101 (fun H locs Wd => ?_)
            refine lv_iload hx hb d_TankArena_spendsBudget_104 (lv_at hl 2 rfl) ?_
            refine lv_if_ne (tgt := 111) hx hb d_TankArena_spendsBudget_106 (by decide) (fun c_5 => ?_) (fun c_5 => ?_)
            · skip
              refine lv_iinc (v := nI (dn + 1)) (lv' := [(4, .int (nI (dn + 1))), (8, .int (gl 7 i ((gl 8 i 0).toNatClampNeg))), (7, .int (gl 6 i ((gl 8 i 0).toNatClampNeg))), (6, .int (gl 5 i ((gl 8 i 0).toNatClampNeg))), (5, .int (gl 8 i 0)), (0, .ref (ad 0 0)), (1, .ref (ad 3 i)), (2, .ref (ad 4 i)), (3, .ref (ad 8 i))]) hx hb d_TankArena_spendsBudget_111 hl (k := 8) rfl (nI_1 dn) (by decide) rfl (fun ls hl => ?_)
              refine lv_goto (tgt := 13) hx hb d_TankArena_spendsBudget_114 (by decide) ?_
              exact ih (dn + 1) (up3 (g_obey gl i (gl 5 i ((gl 8 i 0).toNatClampNeg)) (gl 6 i ((gl 8 i 0).toNatClampNeg)) (gl 7 i ((gl 8 i 0).toNatClampNeg))) 8 i 0 (gl 6 i ((gl 8 i 0).toNatClampNeg))) (by refine okU ?_ rfl (jump_ty hio c_3); refine ok_g_obey ?_ i (gl 5 i ((gl 8 i 0).toNatClampNeg)) (gl 6 i ((gl 8 i 0).toNatClampNeg)) (gl 7 i ((gl 8 i 0).toNatClampNeg)) hio; exact hv0) (by omega) (by omega) (by rw [htg, L_spends, if_neg c_1, if_pos c_2, if_neg c_3, if_neg c_5]) _ _ Wd _ (lv_sub hl [5, 6, 7, 8, 0] rfl)
            · skip
              refine lv_iconst (v := 0) hx hb d_TankArena_spendsBudget_109 (by decide) ?_
              exact kx_iret (u := up3 (g_obey gl i (gl 5 i ((gl 8 i 0).toNatClampNeg)) (gl 6 i ((gl 8 i 0).toNatClampNeg)) (gl 7 i ((gl 8 i 0).toNatClampNeg))) 8 i 0 (gl 6 i ((gl 8 i 0).toNatClampNeg))) X rfl Wd (by rw [htg, L_spends, if_neg c_1, if_pos c_2, if_neg c_3, if_pos c_5]; dsimp only; exact ⟨rfl, rfl⟩) d_TankArena_spendsBudget_110
        · skip
          refine lv_aload_n hx hb d_TankArena_spendsBudget_35 rfl (lv_at hl 4 rfl) ?_
          refine lv_iconst (v := 0) hx hb d_TankArena_spendsBudget_36 (by decide) ?_
          refine kx_puti (k := 8) (i := i) (v := 0) X Wd (ix8 hi) cell8 fp_TankArena_161 0 rfl (by decide) rfl rfl rfl d_TankArena_spendsBudget_37 (fun H locs Wd => ?_)
          refine lv_iconst (v := 0) hx hb d_TankArena_spendsBudget_40 (by decide) ?_
          exact kx_iret (u := up3 gl 8 i 0 0) X rfl Wd (by rw [htg, L_spends, if_neg c_1, if_neg c_2]; dsimp only; exact ⟨rfl, rfl⟩) d_TankArena_spendsBudget_41
  exact loop 11 0 g ok (by decide) (by decide) (by rw [x_spends]) _ _ Wd _ (lv_sub hl [3, 4, 2, 1, 0] rfl)
abbrev RM_g_runProgram : Room := { frames := 5, cells := 0, slots := 0, locals := 118 }
set_option maxHeartbeats 1000000 in
set_option maxRecDepth 100000 in
theorem k_g_runProgram (l : Launch) (D : va_G) (cI cT cB : ClassId) (ad : Nat → Nat → Nat) (tX tY : Nat) (g : SG) (i : Nat) (hi : i < 4) (N : Nat) (ok : OkN N g) : KV l y_TankArena_runProgram b_TankArena_runProgram 3 none RM_g_runProgram D cI cT cB ad tX tY [.ref (ad 0 0), .ref (ad 3 i)] g (fun (u : SG) => u = g_runProgram g i) := by
  refine met_of (cc := b_TankArena_runProgram) (nL := 3) (ret := none) (by decide) rfl (Nat.le_of_ble_eq_true rfl) ?_
  intro p e s m below meth c X hnm Wd ls hl
  have X := X.tt
  have hx := X.1
  have hb := X.2.1
  have hown := X.2.2.2.1
  have hts := X.2.2.2.2.1
  have hl : lv_has ls 3 [(0, .ref (ad 0 0)), (1, .ref (ad 3 i))] := hl
  have Wd : WC D cI cT cB ad (va_A (gC cI cT cB ad g) s.heap.size) s.heap g s.heap [] := Wd
  refine lv_aload_n hx hb d_TankArena_runProgram_0 rfl (lv_at hl 1 rfl) ?_
  refine kx_geti (k := 3) (i := i) X Wd (ix3 hi) cell3 fg_TankArena_145 9 rfl (by decide) rfl d_TankArena_runProgram_1 ?_
  refine lv_istore_n (lv' := [(2, .int (g 3 i 9)), (0, .ref (ad 0 0)), (1, .ref (ad 3 i))]) hx hb d_TankArena_runProgram_4 rfl hl (by decide) rfl (fun ls hl => ?_)
  refine lv_aload_n hx hb d_TankArena_runProgram_5 rfl (lv_at hl 1 rfl) ?_
  refine lv_aload_n hx hb d_TankArena_runProgram_6 rfl (lv_at hl 2 rfl) ?_
  refine kc_Vi (As := [.ref (ad 3 i)]) [] X Wd (k_x_spends l D cI cT cB ad tX tY g i hi N ok) cV_TankArena_148 (kx_recv (k := 0) (i := 0) X Wd ix0 rfl rfl) rfl rfl hl.1 ⟨rfl, rfl⟩ ⟨Nat.le_of_ble_eq_true rfl, Nat.le_of_ble_eq_true rfl⟩ (Nat.le_of_ble_eq_true rfl) ⟨Nat.zero_le _, Nat.zero_le _⟩ d_TankArena_runProgram_7 (fun r u H locs hp Wd => ?_)
  obtain ⟨hr, hu⟩ := hp
  rw [hu] at Wd
  rw [hr]
  clear hr hu
  have Wd : WC D cI cT cB ad _ s.heap ((x_spends g i).2) H locs := Wd
  refine lv_if_eq (tgt := 38) hx hb d_TankArena_runProgram_10 (by decide) (fun c_1 => ?_) (fun c_1 => ?_)
  · skip
    exact kx_vret (u := (x_spends g i).2) X Wd (by rw [g_runProgram, if_pos c_1]) d_TankArena_runProgram_38
  · skip
    refine lv_aload_n hx hb d_TankArena_runProgram_13 rfl (lv_at hl 2 rfl) ?_
    refine kx_get (k := 3) (i := i) (v := .ref (ad 8 i)) X Wd (ix3 hi) rfl fg_TankArena_152 rfl d_TankArena_runProgram_14 ?_
    refine lv_dup hx hb d_TankArena_runProgram_17 rfl ?_
    refine kx_geti (k := 8) (i := i) X Wd (ix8 hi) cell8 fg_TankArena_156 1 rfl (by decide) rfl d_TankArena_runProgram_18 ?_
    refine lv_iconst (v := 1) hx hb d_TankArena_runProgram_21 (by decide) ?_
    refine lv_iadd hx hb d_TankArena_runProgram_22 ?_
    refine kx_puti (k := 8) (i := i) (v := (((x_spends g i).2) 8 i 1) + 1) X Wd (ix8 hi) cell8 fp_TankArena_156 1 rfl (by decide) rfl rfl rfl d_TankArena_runProgram_23 (fun H locs Wd => ?_)
    refine lv_aload_n hx hb d_TankArena_runProgram_26 rfl (lv_at hl 2 rfl) ?_
    refine kx_get (k := 3) (i := i) (v := .ref (ad 10 i)) X Wd (ix3 hi) rfl fg_TankArena_129 rfl d_TankArena_runProgram_27 ?_
    refine kc_Vv (As := []) [] X Wd (k_g_oclear l D cI cT cB ad tX tY (up3 ((x_spends g i).2) 8 i 1 ((((x_spends g i).2) 8 i 1) + 1)) i hi) cV_TankArena_133 (kx_recv (k := 10) (i := i) X Wd (ix10 hi) rfl rfl) rfl rfl hl.1 ⟨rfl, rfl⟩ ⟨Nat.le_of_ble_eq_true rfl, Nat.le_of_ble_eq_true rfl⟩ (Nat.le_of_ble_eq_true rfl) ⟨Nat.zero_le _, Nat.zero_le _⟩ d_TankArena_runProgram_30 (fun u H locs hp Wd => ?_)
    rw [hp] at Wd
    clear hp
    have Wd : WC D cI cT cB ad _ s.heap (g_oclear (up3 ((x_spends g i).2) 8 i 1 ((((x_spends g i).2) 8 i 1) + 1)) i) H locs := Wd
    refine lv_aload_n hx hb d_TankArena_runProgram_33 rfl (lv_at hl 2 rfl) ?_
    refine lv_iload_n hx hb d_TankArena_runProgram_34 rfl (lv_at hl 0 rfl) ?_
    refine kx_puti (k := 3) (i := i) (v := g 3 i 9) X Wd (ix3 hi) cell3 fp_TankArena_145 9 rfl (by decide) rfl rfl rfl d_TankArena_runProgram_35 (fun H locs Wd => ?_)
    exact kx_vret (u := up3 (g_oclear (up3 ((x_spends g i).2) 8 i 1 ((((x_spends g i).2) 8 i 1) + 1)) i) 3 i 9 (g 3 i 9)) X Wd (by rw [g_runProgram, if_neg c_1]) d_TankArena_runProgram_38
abbrev RM_g_runPrograms : Room := { frames := 6, cells := 0, slots := 0, locals := 140 }
set_option maxHeartbeats 1000000 in
set_option maxRecDepth 100000 in
theorem k_g_runPrograms (l : Launch) (D : va_G) (cI cT cB : ClassId) (ad : Nat → Nat → Nat) (tX tY : Nat) (g : SG) (N : Nat) (ok : OkN N g) : KV l y_TankArena_runPrograms b_TankArena_runPrograms 3 none RM_g_runPrograms D cI cT cB ad tX tY [.ref (ad 0 0)] g (fun (u : SG) => u = g_runPrograms g) := by
  refine met_of (cc := b_TankArena_runPrograms) (nL := 3) (ret := none) (by decide) rfl (Nat.le_of_ble_eq_true rfl) ?_
  intro p e s m below meth c X hnm Wd ls hl
  have X := X.tt
  have hx := X.1
  have hb := X.2.1
  have hown := X.2.2.2.1
  have hts := X.2.2.2.2.1
  have hl : lv_has ls 3 [(0, .ref (ad 0 0))] := hl
  have Wd : WC D cI cT cB ad (va_A (gC cI cT cB ad g) s.heap.size) s.heap g s.heap [] := Wd
  obtain ⟨hN4, eN⟩ := ok.N
  refine lv_iconst (v := 0) hx hb d_TankArena_runPrograms_0 (by decide) ?_
  refine lv_istore_n (lv' := [(1, .int 0), (0, .ref (ad 0 0))]) hx hb d_TankArena_runPrograms_1 rfl hl (by decide) rfl (fun ls hl => ?_)
  have loop : ∀ (n : Nat) (i : Nat) (gl : SG), OkN N gl → i ≤ N → N + 1 ≤ i + n → g_runPrograms g = L_runPrograms n i gl → ∀ (H : Heap) (locs : List Loc), WC D cI cT cB ad (va_A (gC cI cT cB ad g) s.heap.size) s.heap gl H locs → ∀ ls : Array Slot, lv_has ls 3 [(0, .ref (ad 0 0)), (1, .int (nI i))] → W p l e RM_g_runPrograms s m [.ref (ad 0 0)].toArray below meth c H locs 0 0 (QV D cI cT cB ad below [.ref (ad 0 0)] s g (fun (u : SG) => u = g_runPrograms g)) (F0 m 2 ls []) := by
    intro n
    induction n with
    | zero =>
      intro i gl hv0 hv1 hv2
      exfalso
      omega
    | succ n ih =>
      intro i gl hv0 hv1 hv2 htg H locs Wd ls hl
      obtain ⟨hN4, eN⟩ := hv0.N
      refine lv_iload_n hx hb d_TankArena_runPrograms_2 rfl (lv_at hl 1 rfl) ?_
      refine lv_aload_n hx hb d_TankArena_runPrograms_3 rfl (lv_at hl 0 rfl) ?_
      refine kx_geti (k := 0) (i := 0) X Wd ix0 cell0 fg_TankArena_27 0 rfl (by decide) rfl d_TankArena_runPrograms_4 ?_
      refine lv_icmp_ge (tgt := 49) hx hb d_TankArena_runPrograms_7 (by decide) (fun c_1 => ?_) (fun c_1 => ?_)
      · skip
        exact kx_vret (u := gl) X Wd (by rw [htg, L_runPrograms, if_pos c_1]) d_TankArena_runPrograms_49
      · skip
        have hiN : i < N := nlt_of eN (by omega) (by omega) c_1
        have hi : i < 4 := by omega
        refine lv_aload_n hx hb d_TankArena_runPrograms_10 rfl (lv_at hl 0 rfl) ?_
        refine kx_get (k := 0) (i := 0) (v := .ref (ad 1 0)) X Wd ix0 rfl fg_TankArena_11 rfl d_TankArena_runPrograms_11 ?_
        refine lv_iload_n hx hb d_TankArena_runPrograms_14 rfl (lv_at hl 1 rfl) ?_
        refine kx_aald (k := 1) (i := 0) (j := i) (b := ad 3 i) (t0 := 1) X Wd ix1 cell1 rfl rfl (by omega) (by decide) rfl d_TankArena_runPrograms_15 ?_
        refine lv_astore_n (lv' := [(2, .ref (ad 3 i)), (0, .ref (ad 0 0)), (1, .int (nI i))]) hx hb d_TankArena_runPrograms_16 rfl hl (by decide) rfl (fun ls hl => ?_)
        refine lv_aload_n hx hb d_TankArena_runPrograms_17 rfl (lv_at hl 0 rfl) ?_
        refine kx_get (k := 3) (i := i) (v := .ref (ad 10 i)) X Wd (ix3 (by omega)) rfl fg_TankArena_129 rfl d_TankArena_runPrograms_18 ?_
        refine kc_Vv (As := []) [] X Wd (k_g_oclear l D cI cT cB ad tX tY gl i (by omega)) cV_TankArena_133 (kx_recv (k := 10) (i := i) X Wd (ix10 (by omega)) rfl rfl) rfl rfl hl.1 ⟨rfl, rfl⟩ ⟨Nat.le_of_ble_eq_true rfl, Nat.le_of_ble_eq_true rfl⟩ (Nat.le_of_ble_eq_true rfl) ⟨Nat.zero_le _, Nat.zero_le _⟩ d_TankArena_runPrograms_21 (fun u H locs hp Wd => ?_)
        rw [hp] at Wd
        clear hp
        have Wd : WC D cI cT cB ad _ s.heap (g_oclear gl i) H locs := Wd
        refine lv_aload_n hx hb d_TankArena_runPrograms_24 rfl (lv_at hl 0 rfl) ?_
        refine kx_geti (k := 3) (i := i) X Wd (ix3 (by omega)) cell3 fg_TankArena_125 13 rfl (by decide) rfl d_TankArena_runPrograms_25 ?_
        refine lv_if_eq (tgt := 43) hx hb d_TankArena_runPrograms_28 (by decide) (fun c_2 => ?_) (fun c_2 => ?_)
        · skip
          refine lv_iinc (v := nI (i + 1)) (lv' := [(1, .int (nI (i + 1))), (2, .ref (ad 3 i)), (0, .ref (ad 0 0))]) hx hb d_TankArena_runPrograms_43 hl (k := 2) rfl (nI_1 i) (by decide) rfl (fun ls hl => ?_)
          refine lv_goto (tgt := 2) hx hb d_TankArena_runPrograms_46 (by decide) ?_
          exact ih (i + 1) (g_oclear gl i) (by refine ok_g_oclear ?_ i; exact hv0) (by omega) (by omega) (by rw [htg, L_runPrograms, if_neg c_1, if_pos c_2]) _ _ Wd _ (lv_sub hl [2, 0] rfl)
        · skip
          refine lv_aload_n hx hb d_TankArena_runPrograms_31 rfl (lv_at hl 0 rfl) ?_
          refine kc_Vi (As := []) [] X Wd (k_f_disabled l D cI cT cB ad tX tY (g_oclear gl i) i (by omega)) cV_TankArena_138 (kx_recv (k := 3) (i := i) X Wd (ix3 (by omega)) rfl rfl) rfl rfl hl.1 ⟨rfl, rfl⟩ ⟨Nat.le_of_ble_eq_true rfl, Nat.le_of_ble_eq_true rfl⟩ (Nat.le_of_ble_eq_true rfl) ⟨Nat.zero_le _, Nat.zero_le _⟩ d_TankArena_runPrograms_32 (fun r u H locs hp Wd => ?_)
          obtain ⟨hr, hu⟩ := hp
          rw [hu] at Wd
          rw [hr]
          clear hr hu
          refine lv_if_ne (tgt := 43) hx hb d_TankArena_runPrograms_35 (by decide) (fun c_3 => ?_) (fun c_3 => ?_)
          · skip
            refine lv_iinc (v := nI (i + 1)) (lv' := [(1, .int (nI (i + 1))), (2, .ref (ad 3 i)), (0, .ref (ad 0 0))]) hx hb d_TankArena_runPrograms_43 hl (k := 2) rfl (nI_1 i) (by decide) rfl (fun ls hl => ?_)
            refine lv_goto (tgt := 2) hx hb d_TankArena_runPrograms_46 (by decide) ?_
            exact ih (i + 1) (g_oclear gl i) (by refine ok_g_oclear ?_ i; exact hv0) (by omega) (by omega) (by rw [htg, L_runPrograms, if_neg c_1, if_neg c_2, if_neg c_3]) _ _ Wd _ (lv_sub hl [2, 0] rfl)
          · skip
            refine lv_aload_n hx hb d_TankArena_runPrograms_38 rfl (lv_at hl 1 rfl) ?_
            refine lv_aload_n hx hb d_TankArena_runPrograms_39 rfl (lv_at hl 0 rfl) ?_
            refine kc_Vv (As := [.ref (ad 3 i)]) [] X Wd (k_g_runProgram l D cI cT cB ad tX tY (g_oclear gl i) i (by omega) N (by refine ok_g_oclear ?_ i; exact hv0)) cV_TankArena_141 (kx_recv (k := 0) (i := 0) X Wd ix0 rfl rfl) rfl rfl hl.1 ⟨rfl, rfl⟩ ⟨Nat.le_of_ble_eq_true rfl, Nat.le_of_ble_eq_true rfl⟩ (Nat.le_of_ble_eq_true rfl) ⟨Nat.zero_le _, Nat.zero_le _⟩ d_TankArena_runPrograms_40 (fun u H locs hp Wd => ?_)
            rw [hp] at Wd
            clear hp
            have Wd : WC D cI cT cB ad _ s.heap (g_runProgram (g_oclear gl i) i) H locs := Wd
            refine lv_iinc (v := nI (i + 1)) (lv' := [(1, .int (nI (i + 1))), (2, .ref (ad 3 i)), (0, .ref (ad 0 0))]) hx hb d_TankArena_runPrograms_43 hl (k := 2) rfl (nI_1 i) (by decide) rfl (fun ls hl => ?_)
            refine lv_goto (tgt := 2) hx hb d_TankArena_runPrograms_46 (by decide) ?_
            exact ih (i + 1) (g_runProgram (g_oclear gl i) i) (by refine ok_g_runProgram ?_ i; refine ok_g_oclear ?_ i; exact hv0) (by omega) (by omega) (by rw [htg, L_runPrograms, if_neg c_1, if_neg c_2, if_pos c_3]) _ _ Wd _ (lv_sub hl [2, 0] rfl)
  exact loop 5 0 g ok (by omega) (by omega) (by rw [g_runPrograms]) _ _ Wd _ (lv_sub hl [1, 0] rfl)
abbrev RM_g_forget : Room := { frames := 1, cells := 0, slots := 0, locals := 20 }
set_option maxHeartbeats 1000000 in
set_option maxRecDepth 100000 in
theorem k_g_forget (l : Launch) (D : va_G) (cI cT cB : ClassId) (ad : Nat → Nat → Nat) (tX tY : Nat) (g : SG) (N : Nat) (ok : OkN N g) : KV l y_TankArena_forgetLastTurn b_TankArena_forgetLastTurn 2 none RM_g_forget D cI cT cB ad tX tY [.ref (ad 0 0)] g (fun (u : SG) => u = g_forget g) := by
  refine met_of (cc := b_TankArena_forgetLastTurn) (nL := 2) (ret := none) (by decide) rfl (Nat.le_of_ble_eq_true rfl) ?_
  intro p e s m below meth c X hnm Wd ls hl
  have X := X.tt
  have hx := X.1
  have hb := X.2.1
  have hown := X.2.2.2.1
  have hts := X.2.2.2.2.1
  have hl : lv_has ls 2 [(0, .ref (ad 0 0))] := hl
  have Wd : WC D cI cT cB ad (va_A (gC cI cT cB ad g) s.heap.size) s.heap g s.heap [] := Wd
  obtain ⟨hN4, eN⟩ := ok.N
  refine lv_iconst (v := 0) hx hb d_TankArena_forgetLastTurn_0 (by decide) ?_
  refine lv_istore_n (lv' := [(1, .int 0), (0, .ref (ad 0 0))]) hx hb d_TankArena_forgetLastTurn_1 rfl hl (by decide) rfl (fun ls hl => ?_)
  have loop : ∀ (n : Nat) (i : Nat) (gl : SG), OkN N gl → i ≤ N → N + 1 ≤ i + n → g_forget g = L_forget n i gl → ∀ (H : Heap) (locs : List Loc), WC D cI cT cB ad (va_A (gC cI cT cB ad g) s.heap.size) s.heap gl H locs → ∀ ls : Array Slot, lv_has ls 2 [(0, .ref (ad 0 0)), (1, .int (nI i))] → W p l e RM_g_forget s m [.ref (ad 0 0)].toArray below meth c H locs 0 0 (QV D cI cT cB ad below [.ref (ad 0 0)] s g (fun (u : SG) => u = g_forget g)) (F0 m 2 ls []) := by
    intro n
    induction n with
    | zero =>
      intro i gl hv0 hv1 hv2
      exfalso
      omega
    | succ n ih =>
      intro i gl hv0 hv1 hv2 htg H locs Wd ls hl
      obtain ⟨hN4, eN⟩ := hv0.N
      refine lv_iload_n hx hb d_TankArena_forgetLastTurn_2 rfl (lv_at hl 1 rfl) ?_
      refine lv_aload_n hx hb d_TankArena_forgetLastTurn_3 rfl (lv_at hl 0 rfl) ?_
      refine kx_geti (k := 0) (i := 0) X Wd ix0 cell0 fg_TankArena_27 0 rfl (by decide) rfl d_TankArena_forgetLastTurn_4 ?_
      refine lv_icmp_ge (tgt := 28) hx hb d_TankArena_forgetLastTurn_7 (by decide) (fun c_1 => ?_) (fun c_1 => ?_)
      · skip
        exact kx_vret (u := gl) X Wd (by rw [htg, L_forget, if_pos c_1]) d_TankArena_forgetLastTurn_28
      · skip
        have hiN : i < N := nlt_of eN (by omega) (by omega) c_1
        have hi : i < 4 := by omega
        refine lv_aload_n hx hb d_TankArena_forgetLastTurn_10 rfl (lv_at hl 0 rfl) ?_
        refine kx_get (k := 0) (i := 0) (v := .ref (ad 1 0)) X Wd ix0 rfl fg_TankArena_11 rfl d_TankArena_forgetLastTurn_11 ?_
        refine lv_iload_n hx hb d_TankArena_forgetLastTurn_14 rfl (lv_at hl 1 rfl) ?_
        refine kx_aald (k := 1) (i := 0) (j := i) (b := ad 3 i) (t0 := 1) X Wd ix1 cell1 rfl rfl (by omega) (by decide) rfl d_TankArena_forgetLastTurn_15 ?_
        refine kx_get (k := 3) (i := i) (v := .ref (ad 11 i)) X Wd (ix3 (by omega)) rfl fg_TankArena_197 rfl d_TankArena_forgetLastTurn_16 ?_
        refine kc_Vv (As := []) [] X Wd (k_g_rclear l D cI cT cB ad tX tY gl i (by omega)) cV_TankArena_223 (kx_recv (k := 11) (i := i) X Wd (ix11 (by omega)) rfl rfl) rfl rfl hl.1 ⟨rfl, rfl⟩ ⟨Nat.le_of_ble_eq_true rfl, Nat.le_of_ble_eq_true rfl⟩ (Nat.le_of_ble_eq_true rfl) ⟨Nat.zero_le _, Nat.zero_le _⟩ d_TankArena_forgetLastTurn_19 (fun u H locs hp Wd => ?_)
        rw [hp] at Wd
        clear hp
        have Wd : WC D cI cT cB ad _ s.heap (g_rclear gl i) H locs := Wd
        refine lv_iinc (v := nI (i + 1)) (lv' := [(1, .int (nI (i + 1))), (0, .ref (ad 0 0))]) hx hb d_TankArena_forgetLastTurn_22 hl (k := 1) rfl (nI_1 i) (by decide) rfl (fun ls hl => ?_)
        refine lv_goto (tgt := 2) hx hb d_TankArena_forgetLastTurn_25 (by decide) ?_
        exact ih (i + 1) (g_rclear gl i) (by refine ok_g_rclear ?_ i; exact hv0) (by omega) (by omega) (by rw [htg, L_forget, if_neg c_1]) _ _ Wd _ (lv_sub hl [1, 0] rfl)
  exact loop 5 0 g ok (by omega) (by omega) (by rw [g_forget]) _ _ Wd _ (lv_sub hl [1, 0] rfl)
