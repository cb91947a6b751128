/-! CONTRACTS (printed by gen/all.py) -/
abbrev RM_f_touched : Room := { frames := 2, cells := 0, slots := 0, locals := 43 }
set_option maxHeartbeats 1000000 in
set_option maxRecDepth 100000 in
theorem k_f_touched (l : Launch) (D : va_G) (cI cT cB : ClassId) (ad : Nat → Nat → Nat) (tX tY : Nat) (g : SG) (num : Int32) (px : Int32) (py : Int32) (N : Nat) (ok : OkN N g) : KI l y_TankArena_leastTouched b_TankArena_leastTouched 5 (some .int) RM_f_touched D cI cT cB ad tX tY [.ref (ad 0 0), .int num, .int px, .int py] g (fun (r : Int32) (u : SG) => r = f_touched g num px py ∧ u = g) := by
  refine met_of (cc := b_TankArena_leastTouched) (nL := 5) (ret := (some .int)) (by decide) rfl (Nat.le_of_ble_eq_true rfl) ?_
  intro p e s m below meth c X hnm Wd ls hl
  have X := X.tt
  have hx := X.1
  have hb := X.2.1
  have hown := X.2.2.2.1
  have hts := X.2.2.2.2.1
  have hl : lv_has ls 5 [(0, .ref (ad 0 0)), (1, .int num), (2, .int px), (3, .int py)] := hl
  have Wd : WC D cI cT cB ad (va_A (gC cI cT cB ad g) s.heap.size) s.heap g s.heap [] := Wd
  obtain ⟨hN4, eN⟩ := ok.N
  refine lv_iconst (v := 0) hx hb d_TankArena_leastTouched_0 (by decide) ?_
  refine lv_istore (lv' := [(4, .int 0), (0, .ref (ad 0 0)), (1, .int num), (2, .int px), (3, .int py)]) hx hb d_TankArena_leastTouched_1 hl (by decide) rfl (fun ls hl => ?_)
  have loop : ∀ (n : Nat) (i : Nat), i ≤ N → N + 1 ≤ i + n → f_touched g num px py = L_touched g num px py n i → ∀ (H : Heap) (locs : List Loc), WC D cI cT cB ad (va_A (gC cI cT cB ad g) s.heap.size) s.heap g H locs → ∀ ls : Array Slot, lv_has ls 5 [(0, .ref (ad 0 0)), (1, .int num), (2, .int px), (3, .int py), (4, .int (nI i))] → W p l e RM_f_touched s m [.ref (ad 0 0), .int num, .int px, .int py].toArray below meth c H locs 0 0 (QI D cI cT cB ad below [.ref (ad 0 0), .int num, .int px, .int py] s g (fun (r : Int32) (u : SG) => r = f_touched g num px py ∧ u = g)) (F0 m 3 ls []) := by
    intro n
    induction n with
    | zero =>
      intro i hv0 hv1
      exfalso
      omega
    | succ n ih =>
      intro i hv0 hv1 htg H locs Wd ls hl
      refine lv_iload hx hb d_TankArena_leastTouched_3 (lv_at hl 4 rfl) ?_
      refine lv_aload_n hx hb d_TankArena_leastTouched_5 rfl (lv_at hl 0 rfl) ?_
      refine kx_geti (k := 0) (i := 0) X Wd ix0 cell0 fg_TankArena_27 0 rfl (by decide) rfl d_TankArena_leastTouched_6 ?_
      refine lv_icmp_ge (tgt := 57) hx hb d_TankArena_leastTouched_9 (by decide) (fun c_1 => ?_) (fun c_1 => ?_)
      · skip
        refine lv_iconst (v := 4) hx hb d_TankArena_leastTouched_57 (by decide) ?_
        exact kx_iret (u := g) X rfl Wd ⟨by rw [htg, L_touched, if_pos c_1], rfl⟩ d_TankArena_leastTouched_58
      · skip
        have hiN : i < N := nlt_of eN (by omega) (by omega) c_1
        have hi : i < 4 := by omega
        refine lv_iload hx hb d_TankArena_leastTouched_12 (lv_at hl 4 rfl) ?_
        refine lv_iload_n hx hb d_TankArena_leastTouched_14 rfl (lv_at hl 1 rfl) ?_
        refine lv_icmp_eq (tgt := 51) hx hb d_TankArena_leastTouched_15 (by decide) (fun c_2 => ?_) (fun c_2 => ?_)
        · skip
          refine lv_iinc (v := nI (i + 1)) (lv' := [(4, .int (nI (i + 1))), (0, .ref (ad 0 0)), (1, .int num), (2, .int px), (3, .int py)]) hx hb d_TankArena_leastTouched_51 hl (k := 4) rfl (nI_1 i) (by decide) rfl (fun ls hl => ?_)
          refine lv_goto (tgt := 3) hx hb d_TankArena_leastTouched_54 (by decide) ?_
          exact ih (i + 1) (by omega) (by omega) (by rw [htg, L_touched, if_neg c_1, if_pos c_2]) _ _ Wd _ (lv_sub hl [1, 2, 3, 4, 0] rfl)
        · skip
          refine lv_aload_n hx hb d_TankArena_leastTouched_18 rfl (lv_at hl 0 rfl) ?_
          refine kx_get (k := 0) (i := 0) (v := .ref (ad 1 0)) X Wd ix0 rfl fg_TankArena_11 rfl d_TankArena_leastTouched_19 ?_
          refine lv_iload hx hb d_TankArena_leastTouched_22 (lv_at hl 4 rfl) ?_
          refine kx_aald (k := 1) (i := 0) (j := i) (b := ad 3 i) (t0 := 1) X Wd ix1 cell1 rfl rfl (by omega) (by decide) rfl d_TankArena_leastTouched_24 ?_
          refine kx_geti (k := 3) (i := i) X Wd (ix3 (by omega)) cell3 fg_TankArena_125 13 rfl (by decide) rfl d_TankArena_leastTouched_25 ?_
          refine lv_if_eq (tgt := 51) hx hb d_TankArena_leastTouched_28 (by decide) (fun c_3 => ?_) (fun c_3 => ?_)
          · skip
            refine lv_iinc (v := nI (i + 1)) (lv' := [(4, .int (nI (i + 1))), (0, .ref (ad 0 0)), (1, .int num), (2, .int px), (3, .int py)]) hx hb d_TankArena_leastTouched_51 hl (k := 4) rfl (nI_1 i) (by decide) rfl (fun ls hl => ?_)
            refine lv_goto (tgt := 3) hx hb d_TankArena_leastTouched_54 (by decide) ?_
            exact ih (i + 1) (by omega) (by omega) (by rw [htg, L_touched, if_neg c_1, if_neg c_2, if_pos c_3]) _ _ Wd _ (lv_sub hl [1, 2, 3, 4, 0] rfl)
          · skip
            refine lv_aload_n hx hb d_TankArena_leastTouched_31 rfl (lv_at hl 0 rfl) ?_
            refine kx_get (k := 0) (i := 0) (v := .ref (ad 1 0)) X Wd ix0 rfl fg_TankArena_11 rfl d_TankArena_leastTouched_32 ?_
            refine lv_iload hx hb d_TankArena_leastTouched_35 (lv_at hl 4 rfl) ?_
            refine kx_aald (k := 1) (i := 0) (j := i) (b := ad 3 i) (t0 := 1) X Wd ix1 cell1 rfl rfl (by omega) (by decide) rfl d_TankArena_leastTouched_37 ?_
            refine lv_iload_n hx hb d_TankArena_leastTouched_38 rfl (lv_at hl 2 rfl) ?_
            refine lv_iload_n hx hb d_TankArena_leastTouched_39 rfl (lv_at hl 3 rfl) ?_
            refine kc_Vi (As := [.int px, .int py]) [] X Wd (k_f_dist l D cI cT cB ad tX tY g i (by omega) px py) cV_TankArena_262 (kx_recv (k := 3) (i := i) X Wd (ix3 (by omega)) rfl rfl) rfl rfl hl.1 ⟨rfl, rfl⟩ ⟨Nat.le_of_ble_eq_true rfl, Nat.le_of_ble_eq_true rfl⟩ (Nat.le_of_ble_eq_true rfl) ⟨Nat.zero_le _, Nat.zero_le _⟩ d_TankArena_leastTouched_40 (fun r u H locs hp Wd => ?_)
            obtain ⟨hr, hu⟩ := hp
            rw [hu] at Wd
            rw [hr]
            clear hr hu
            refine lv_bipush (v := 32) hx hb d_TankArena_leastTouched_43 (by decide) ?_
            refine lv_icmp_ge (tgt := 51) hx hb d_TankArena_leastTouched_45 (by decide) (fun c_4 => ?_) (fun c_4 => ?_)
            · skip
              refine lv_iinc (v := nI (i + 1)) (lv' := [(4, .int (nI (i + 1))), (0, .ref (ad 0 0)), (1, .int num), (2, .int px), (3, .int py)]) hx hb d_TankArena_leastTouched_51 hl (k := 4) rfl (nI_1 i) (by decide) rfl (fun ls hl => ?_)
              refine lv_goto (tgt := 3) hx hb d_TankArena_leastTouched_54 (by decide) ?_
              exact ih (i + 1) (by omega) (by omega) (by rw [htg, L_touched, if_neg c_1, if_neg c_2, if_neg c_3, if_pos c_4]) _ _ Wd _ (lv_sub hl [1, 2, 3, 4, 0] rfl)
            · skip
              refine lv_iload hx hb d_TankArena_leastTouched_48 (lv_at hl 4 rfl) ?_
              exact kx_iret (u := g) X rfl Wd ⟨by rw [htg, L_touched, if_neg c_1, if_neg c_2, if_neg c_3, if_neg c_4], rfl⟩ d_TankArena_leastTouched_50
  exact loop 5 0 (by omega) (by omega) (by rw [f_touched]) _ _ Wd _ (lv_sub hl [1, 2, 3, 4, 0] rfl)
abbrev RM_g_drive : Room := { frames := 3, cells := 0, slots := 0, locals := 67 }
set_option maxHeartbeats 1000000 in
set_option maxRecDepth 100000 in
theorem k_g_drive (l : Launch) (D : va_G) (cI cT cB : ClassId) (ad : Nat → Nat → Nat) (tX tY : Nat) (g : SG) (j : Nat) (hj : j < 4) (vj : Int32) (ej : vj = nI j) (N : Nat) (ok : OkN N g) : KV l y_TankArena_drive b_TankArena_drive 6 none RM_g_drive D cI cT cB ad tX tY [.ref (ad 0 0), .int vj] g (fun (u : SG) => u = g_drive g j) := by
  subst ej
  refine met_of (cc := b_TankArena_drive) (nL := 6) (ret := none) (by decide) rfl (Nat.le_of_ble_eq_true rfl) ?_
  intro p e s m below meth c X hnm Wd ls hl
  have X := X.tt
  have hx := X.1
  have hb := X.2.1
  have hown := X.2.2.2.1
  have hts := X.2.2.2.2.1
  have hl : lv_has ls 6 [(0, .ref (ad 0 0)), (1, .int (nI j))] := hl
  have Wd : WC D cI cT cB ad (va_A (gC cI cT cB ad g) s.heap.size) s.heap g s.heap [] := Wd
  refine lv_aload_n hx hb d_TankArena_drive_0 rfl (lv_at hl 0 rfl) ?_
  refine kx_get (k := 0) (i := 0) (v := .ref (ad 1 0)) X Wd ix0 rfl fg_TankArena_11 rfl d_TankArena_drive_1 ?_
  refine lv_iload_n hx hb d_TankArena_drive_4 rfl (lv_at hl 1 rfl) ?_
  refine kx_aald (k := 1) (i := 0) (j := j) (b := ad 3 j) (t0 := 1) X Wd ix1 cell1 rfl rfl hj (by decide) rfl d_TankArena_drive_5 ?_
  refine lv_astore_n (lv' := [(2, .ref (ad 3 j)), (0, .ref (ad 0 0)), (1, .int (nI j))]) hx hb d_TankArena_drive_6 rfl hl (by decide) rfl (fun ls hl => ?_)
  refine lv_aload_n hx hb d_TankArena_drive_7 rfl (lv_at hl 0 rfl) ?_
  refine kx_geti (k := 3) (i := j) X Wd (ix3 hj) cell3 fg_TankArena_110 3 rfl (by decide) rfl d_TankArena_drive_8 ?_
  refine lv_istore_n (lv' := [(3, .int (g 3 j 3)), (2, .ref (ad 3 j)), (0, .ref (ad 0 0)), (1, .int (nI j))]) hx hb d_TankArena_drive_11 rfl hl (by decide) rfl (fun ls hl => ?_)
  refine lv_aload_n hx hb d_TankArena_drive_12 rfl (lv_at hl 1 rfl) ?_
  refine kx_geti (k := 3) (i := j) X Wd (ix3 hj) cell3 fg_TankArena_113 4 rfl (by decide) rfl d_TankArena_drive_13 ?_
  refine lv_istore (lv' := [(4, .int (g 3 j 4)), (3, .int (g 3 j 3)), (2, .ref (ad 3 j)), (0, .ref (ad 0 0)), (1, .int (nI j))]) hx hb d_TankArena_drive_16 hl (by decide) rfl (fun ls hl => ?_)
  refine lv_aload_n hx hb d_TankArena_drive_18 rfl (lv_at hl 2 rfl) ?_
  refine kc_Vv (As := []) [] X Wd (k_g_obeyTurns l D cI cT cB ad tX tY g j hj) cV_TankArena_280 (kx_recv (k := 3) (i := j) X Wd (ix3 hj) rfl rfl) rfl rfl hl.1 ⟨rfl, rfl⟩ ⟨Nat.le_of_ble_eq_true rfl, Nat.le_of_ble_eq_true rfl⟩ (Nat.le_of_ble_eq_true rfl) ⟨Nat.zero_le _, Nat.zero_le _⟩ d_TankArena_drive_19 (fun u H locs hp Wd => ?_)
  rw [hp] at Wd
  clear hp
  have Wd : WC D cI cT cB ad _ s.heap (g_obeyTurns g j) H locs := Wd
  refine lv_aload_n hx hb d_TankArena_drive_22 rfl (lv_at hl 2 rfl) ?_
  refine kc_Vv (As := []) [] X Wd (k_g_changeSpeed l D cI cT cB ad tX tY (g_obeyTurns g j) j hj) cV_TankArena_283 (kx_recv (k := 3) (i := j) X Wd (ix3 hj) rfl rfl) rfl rfl hl.1 ⟨rfl, rfl⟩ ⟨Nat.le_of_ble_eq_true rfl, Nat.le_of_ble_eq_true rfl⟩ (Nat.le_of_ble_eq_true rfl) ⟨Nat.zero_le _, Nat.zero_le _⟩ d_TankArena_drive_23 (fun u H locs hp Wd => ?_)
  rw [hp] at Wd
  clear hp
  have Wd : WC D cI cT cB ad _ s.heap (g_changeSpeed (g_obeyTurns g j) j) H locs := Wd
  refine lv_aload_n hx hb d_TankArena_drive_26 rfl (lv_at hl 2 rfl) ?_
  refine kc_Vv (As := []) [] X Wd (k_g_goOn l D cI cT cB ad tX tY (g_changeSpeed (g_obeyTurns g j) j) j hj (ok_hd (ok_g_changeSpeed (ok_g_obeyTurns ok j) j) j)) cV_TankArena_286 (kx_recv (k := 3) (i := j) X Wd (ix3 hj) rfl rfl) rfl rfl hl.1 ⟨rfl, rfl⟩ ⟨Nat.le_of_ble_eq_true rfl, Nat.le_of_ble_eq_true rfl⟩ (Nat.le_of_ble_eq_true rfl) ⟨Nat.zero_le _, Nat.zero_le _⟩ d_TankArena_drive_27 (fun u H locs hp Wd => ?_)
  rw [hp] at Wd
  clear hp
  have Wd : WC D cI cT cB ad _ s.heap (g_goOn (g_changeSpeed (g_obeyTurns g j) j) j) H locs := Wd
  obtain ⟨h3, eh3⟩ : ∃ z : SG, z = g_goOn (g_changeSpeed (g_obeyTurns g j) j) j := ⟨_, rfl⟩
  rw [← eh3] at Wd
  have okh3 : OkN N h3 := by rw [eh3]; refine ok_g_goOn ?_ j; refine ok_g_changeSpeed ?_ j; refine ok_g_obeyTurns ?_ j; exact ok
  refine lv_aload_n hx hb d_TankArena_drive_30 rfl (lv_at hl 3 rfl) ?_
  refine lv_iload_n hx hb d_TankArena_drive_31 rfl (lv_at hl 4 rfl) ?_
  refine lv_aload_n hx hb d_TankArena_drive_32 rfl (lv_at hl 2 rfl) ?_
  refine kx_geti (k := 3) (i := j) X Wd (ix3 hj) cell3 fg_TankArena_110 3 rfl (by decide) rfl d_TankArena_drive_33 ?_
  refine lv_aload_n hx hb d_TankArena_drive_36 rfl (lv_at hl 2 rfl) ?_
  refine kx_geti (k := 3) (i := j) X Wd (ix3 hj) cell3 fg_TankArena_113 4 rfl (by decide) rfl d_TankArena_drive_37 ?_
  refine kc_Vi (As := [.int (nI j), .int (h3 3 j 3), .int (h3 3 j 4)]) [] X Wd (k_f_touched l D cI cT cB ad tX tY h3 (nI j) (h3 3 j 3) (h3 3 j 4) N okh3) cV_TankArena_35 (kx_recv (k := 0) (i := 0) X Wd ix0 rfl rfl) rfl rfl hl.1 ⟨rfl, rfl⟩ ⟨Nat.le_of_ble_eq_true rfl, Nat.le_of_ble_eq_true rfl⟩ (Nat.le_of_ble_eq_true rfl) ⟨Nat.zero_le _, Nat.zero_le _⟩ d_TankArena_drive_40 (fun r u H locs hp Wd => ?_)
  obtain ⟨hr, hu⟩ := hp
  rw [hu] at Wd
  rw [hr]
  clear hr hu
  refine lv_istore (lv' := [(5, .int (f_touched h3 (nI j) (h3 3 j 3) (h3 3 j 4))), (4, .int (g 3 j 4)), (3, .int (g 3 j 3)), (2, .ref (ad 3 j)), (0, .ref (ad 0 0)), (1, .int (nI j))]) hx hb d_TankArena_drive_43 hl (by decide) rfl (fun ls hl => ?_)
  refine lv_iload hx hb d_TankArena_drive_45 (lv_at hl 0 rfl) ?_
  refine lv_iconst (v := 4) hx hb d_TankArena_drive_47 (by decide) ?_
  refine lv_icmp_eq (tgt := 96) hx hb d_TankArena_drive_48 (by decide) (fun c_1 => ?_) (fun c_1 => ?_)
  · skip
    refine lv_aload_n hx hb d_TankArena_drive_96 rfl (lv_at hl 3 rfl) ?_
    refine kx_get (k := 3) (i := j) (v := .ref (ad 11 j)) X Wd (ix3 hj) rfl fg_TankArena_197 rfl d_TankArena_drive_97 ?_
    refine kx_geti (k := 11) (i := j) X Wd (ix11 hj) cell11 fg_TankArena_206 0 rfl (by decide) rfl d_TankArena_drive_100 ?_
    refine lv_if_eq (tgt := 111) hx hb d_TankArena_drive_103 (by decide) (fun c_2 => ?_) (fun c_2 => ?_)
    · skip
      refine lv_iload hx hb d_TankArena_drive_111 (lv_at hl 0 rfl) ?_
      refine lv_iconst (v := 4) hx hb d_TankArena_drive_113 (by decide) ?_
      refine lv_icmp_eq (tgt := 123) hx hb d_TankArena_drive_114 (by decide) (fun c_3 => ?_) (fun c_3 => ?_)
      · skip
        refine lv_aload_n hx hb d_TankArena_drive_123 rfl (lv_at hl 4 rfl) ?_
        refine lv_iload_n hx hb d_TankArena_drive_124 rfl (lv_at hl 5 rfl) ?_
        refine kc_Vv (As := [.int (nI j)]) [] X Wd (k_g_die l D cI cT cB ad tX tY h3 j hj (nI j) rfl N okh3) cV_TankArena_274 (kx_recv (k := 0) (i := 0) X Wd ix0 rfl rfl) rfl rfl hl.1 ⟨rfl, rfl⟩ ⟨Nat.le_of_ble_eq_true rfl, Nat.le_of_ble_eq_true rfl⟩ (Nat.le_of_ble_eq_true rfl) ⟨Nat.zero_le _, Nat.zero_le _⟩ d_TankArena_drive_125 (fun u H locs hp Wd => ?_)
        rw [hp] at Wd
        clear hp
        have Wd : WC D cI cT cB ad _ s.heap (g_die h3 j) H locs := Wd
        refine lv_aload_n hx hb d_TankArena_drive_128 rfl (lv_at hl 3 rfl) ?_
        refine kc_Vv (As := []) [] X Wd (k_g_cool l D cI cT cB ad tX tY (g_die h3 j) j hj) cV_TankArena_290 (kx_recv (k := 3) (i := j) X Wd (ix3 hj) rfl rfl) rfl rfl hl.1 ⟨rfl, rfl⟩ ⟨Nat.le_of_ble_eq_true rfl, Nat.le_of_ble_eq_true rfl⟩ (Nat.le_of_ble_eq_true rfl) ⟨Nat.zero_le _, Nat.zero_le _⟩ d_TankArena_drive_129 (fun u H locs hp Wd => ?_)
        rw [hp] at Wd
        clear hp
        have Wd : WC D cI cT cB ad _ s.heap (g_cool (g_die h3 j) j) H locs := Wd
        exact kx_vret (u := g_cool (g_die h3 j) j) X Wd (by rw [g_drive, ← eh3, g_drive2, if_pos c_1, if_pos c_2]) d_TankArena_drive_132
      · skip
        exact absurd c_1 c_3
    · skip
      refine lv_aload_n hx hb d_TankArena_drive_106 rfl (lv_at hl 3 rfl) ?_
      refine lv_iconst (v := 0) hx hb d_TankArena_drive_107 (by decide) ?_
      refine kx_puti (k := 3) (i := j) (v := 0) X Wd (ix3 hj) cell3 fp_TankArena_287 8 rfl (by decide) rfl rfl rfl d_TankArena_drive_108 (fun H locs Wd => ?_)
      refine lv_iload hx hb d_TankArena_drive_111 (lv_at hl 0 rfl) ?_
      refine lv_iconst (v := 4) hx hb d_TankArena_drive_113 (by decide) ?_
      refine lv_icmp_eq (tgt := 123) hx hb d_TankArena_drive_114 (by decide) (fun c_4 => ?_) (fun c_4 => ?_)
      · skip
        refine lv_aload_n hx hb d_TankArena_drive_123 rfl (lv_at hl 4 rfl) ?_
        refine lv_iload_n hx hb d_TankArena_drive_124 rfl (lv_at hl 5 rfl) ?_
        refine kc_Vv (As := [.int (nI j)]) [] X Wd (k_g_die l D cI cT cB ad tX tY (up3 h3 3 j 8 0) j hj (nI j) rfl N (by refine okU ?_ rfl trivial; exact okh3)) cV_TankArena_274 (kx_recv (k := 0) (i := 0) X Wd ix0 rfl rfl) rfl rfl hl.1 ⟨rfl, rfl⟩ ⟨Nat.le_of_ble_eq_true rfl, Nat.le_of_ble_eq_true rfl⟩ (Nat.le_of_ble_eq_true rfl) ⟨Nat.zero_le _, Nat.zero_le _⟩ d_TankArena_drive_125 (fun u H locs hp Wd => ?_)
        rw [hp] at Wd
        clear hp
        have Wd : WC D cI cT cB ad _ s.heap (g_die (up3 h3 3 j 8 0) j) H locs := Wd
        refine lv_aload_n hx hb d_TankArena_drive_128 rfl (lv_at hl 3 rfl) ?_
        refine kc_Vv (As := []) [] X Wd (k_g_cool l D cI cT cB ad tX tY (g_die (up3 h3 3 j 8 0) j) j hj) cV_TankArena_290 (kx_recv (k := 3) (i := j) X Wd (ix3 hj) rfl rfl) rfl rfl hl.1 ⟨rfl, rfl⟩ ⟨Nat.le_of_ble_eq_true rfl, Nat.le_of_ble_eq_true rfl⟩ (Nat.le_of_ble_eq_true rfl) ⟨Nat.zero_le _, Nat.zero_le _⟩ d_TankArena_drive_129 (fun u H locs hp Wd => ?_)
        rw [hp] at Wd
        clear hp
        have Wd : WC D cI cT cB ad _ s.heap (g_cool (g_die (up3 h3 3 j 8 0) j) j) H locs := Wd
        exact kx_vret (u := g_cool (g_die (up3 h3 3 j 8 0) j) j) X Wd (by rw [g_drive, ← eh3, g_drive2, if_pos c_1, if_neg c_2]) d_TankArena_drive_132
      · skip
        exact absurd c_1 c_4
  · skip
    obtain ⟨et, ht⟩ := touched_j okh3 c_1
    refine lv_aload_n hx hb d_TankArena_drive_51 rfl (lv_at hl 3 rfl) ?_
    refine lv_iload_n hx hb d_TankArena_drive_52 rfl (lv_at hl 2 rfl) ?_
    refine kx_puti (k := 3) (i := j) (v := g 3 j 3) X Wd (ix3 hj) cell3 fp_TankArena_110 3 rfl (by decide) rfl rfl rfl d_TankArena_drive_53 (fun H locs Wd => ?_)
    refine lv_aload_n hx hb d_TankArena_drive_56 rfl (lv_at hl 3 rfl) ?_
    refine lv_iload hx hb d_TankArena_drive_57 (lv_at hl 1 rfl) ?_
    refine kx_puti (k := 3) (i := j) (v := g 3 j 4) X Wd (ix3 hj) cell3 fp_TankArena_113 4 rfl (by decide) rfl rfl rfl d_TankArena_drive_59 (fun H locs Wd => ?_)
    refine lv_aload_n hx hb d_TankArena_drive_62 rfl (lv_at hl 3 rfl) ?_
    refine kx_get (k := 3) (i := j) (v := .ref (ad 11 j)) X Wd (ix3 hj) rfl fg_TankArena_197 rfl d_TankArena_drive_63 ?_
    refine lv_iconst (v := 1) hx hb d_TankArena_drive_66 (by decide) ?_
    refine kx_puti (k := 11) (i := j) (v := 1) X Wd (ix11 hj) cell11 fp_TankArena_206 0 rfl (by decide) rfl rfl rfl d_TankArena_drive_67 (fun H locs Wd => ?_)
    refine lv_aload_n hx hb d_TankArena_drive_70 rfl (lv_at hl 3 rfl) ?_
    refine lv_dup hx hb d_TankArena_drive_71 rfl ?_
    refine kx_geti2 (k := 3) (i := j) (h3 3 j 10) X Wd (ix3 hj) cell3 fg_TankArena_231 10 rfl (by decide) rfl (by simp [up3]) d_TankArena_drive_72 ?_
    refine lv_iconst (v := 4) hx hb d_TankArena_drive_75 (by decide) ?_
    refine lv_isub hx hb d_TankArena_drive_76 ?_
    refine kx_puti (k := 3) (i := j) (v := (h3 3 j 10) - 4) X Wd (ix3 hj) cell3 fp_TankArena_231 10 rfl (by decide) rfl rfl rfl d_TankArena_drive_77 (fun H locs Wd => ?_)
    refine lv_aload_n hx hb d_TankArena_drive_80 rfl (lv_at hl 4 rfl) ?_
    refine kx_get (k := 0) (i := 0) (v := .ref (ad 1 0)) X Wd ix0 rfl fg_TankArena_11 rfl d_TankArena_drive_81 ?_
    refine lv_iload hx hb d_TankArena_drive_84 (lv_at hl 0 rfl) ?_
    refine kx_aald (k := 1) (i := 0) (j := (f_touched h3 (nI j) (h3 3 j 3) (h3 3 j 4)).toNatClampNeg) (b := ad 3 ((f_touched h3 (nI j) (h3 3 j 3) (h3 3 j 4)).toNatClampNeg)) (t0 := 1) X Wd ix1 cell1 rfl et ht (by decide) rfl d_TankArena_drive_86 ?_
    refine lv_dup hx hb d_TankArena_drive_87 rfl ?_
    refine kx_geti (k := 3) (i := (f_touched h3 (nI j) (h3 3 j 3) (h3 3 j 4)).toNatClampNeg) X Wd (ix3 ht) cell3 fg_TankArena_231 10 rfl (by decide) rfl d_TankArena_drive_88 ?_
    refine lv_iconst (v := 4) hx hb d_TankArena_drive_91 (by decide) ?_
    refine lv_isub hx hb d_TankArena_drive_92 ?_
    refine kx_puti (k := 3) (i := (f_touched h3 (nI j) (h3 3 j 3) (h3 3 j 4)).toNatClampNeg) (v := ((up3 (up3 (up3 (up3 h3 3 j 3 (g 3 j 3)) 3 j 4 (g 3 j 4)) 11 j 0 1) 3 j 10 ((h3 3 j 10) - 4)) 3 ((f_touched h3 (nI j) (h3 3 j 3) (h3 3 j 4)).toNatClampNeg) 10) - 4) X Wd (ix3 ht) cell3 fp_TankArena_231 10 rfl (by decide) rfl rfl rfl d_TankArena_drive_93 (fun H locs Wd => ?_)
    refine lv_aload_n hx hb d_TankArena_drive_96 rfl (lv_at hl 3 rfl) ?_
    refine kx_get (k := 3) (i := j) (v := .ref (ad 11 j)) X Wd (ix3 hj) rfl fg_TankArena_197 rfl d_TankArena_drive_97 ?_
    refine kx_geti2 (k := 11) (i := j) (1) X Wd (ix11 hj) cell11 fg_TankArena_206 0 rfl (by decide) rfl (by simp [up3]) d_TankArena_drive_100 ?_
    refine lv_if_eq (tgt := 111) hx hb d_TankArena_drive_103 (by decide) (fun c_5 => ?_) (fun c_5 => ?_)
    · skip
      exact absurd c_5 (by decide)
    · skip
      refine lv_aload_n hx hb d_TankArena_drive_106 rfl (lv_at hl 3 rfl) ?_
      refine lv_iconst (v := 0) hx hb d_TankArena_drive_107 (by decide) ?_
      refine kx_puti (k := 3) (i := j) (v := 0) X Wd (ix3 hj) cell3 fp_TankArena_287 8 rfl (by decide) rfl rfl rfl d_TankArena_drive_108 (fun H locs Wd => ?_)
      refine lv_iload hx hb d_TankArena_drive_111 (lv_at hl 0 rfl) ?_
      refine lv_iconst (v := 4) hx hb d_TankArena_drive_113 (by decide) ?_
      refine lv_icmp_eq (tgt := 123) hx hb d_TankArena_drive_114 (by decide) (fun c_6 => ?_) (fun c_6 => ?_)
      · skip
        exact absurd c_6 c_1
      · skip
        refine lv_aload_n hx hb d_TankArena_drive_117 rfl (lv_at hl 4 rfl) ?_
        refine lv_iload hx hb d_TankArena_drive_118 (lv_at hl 0 rfl) ?_
        refine kc_Vv (As := [.int (f_touched h3 (nI j) (h3 3 j 3) (h3 3 j 4))]) [] X Wd (k_g_die l D cI cT cB ad tX tY (up3 (up3 (up3 (up3 (up3 (up3 h3 3 j 3 (g 3 j 3)) 3 j 4 (g 3 j 4)) 11 j 0 1) 3 j 10 ((h3 3 j 10) - 4)) 3 ((f_touched h3 (nI j) (h3 3 j 3) (h3 3 j 4)).toNatClampNeg) 10 (((up3 (up3 (up3 (up3 h3 3 j 3 (g 3 j 3)) 3 j 4 (g 3 j 4)) 11 j 0 1) 3 j 10 ((h3 3 j 10) - 4)) 3 ((f_touched h3 (nI j) (h3 3 j 3) (h3 3 j 4)).toNatClampNeg) 10) - 4)) 3 j 8 0) ((f_touched h3 (nI j) (h3 3 j 3) (h3 3 j 4)).toNatClampNeg) ht (f_touched h3 (nI j) (h3 3 j 3) (h3 3 j 4)) et N (by refine okU ?_ rfl trivial; refine okU ?_ rfl trivial; refine okU ?_ rfl trivial; refine okU ?_ rfl (Or.inr rfl); refine okU ?_ rfl trivial; refine okU ?_ rfl trivial; exact okh3)) cV_TankArena_274 (kx_recv (k := 0) (i := 0) X Wd ix0 rfl rfl) rfl rfl hl.1 ⟨rfl, rfl⟩ ⟨Nat.le_of_ble_eq_true rfl, Nat.le_of_ble_eq_true rfl⟩ (Nat.le_of_ble_eq_true rfl) ⟨Nat.zero_le _, Nat.zero_le _⟩ d_TankArena_drive_120 (fun u H locs hp Wd => ?_)
        rw [hp] at Wd
        clear hp
        have Wd : WC D cI cT cB ad _ s.heap (g_die (up3 (up3 (up3 (up3 (up3 (up3 h3 3 j 3 (g 3 j 3)) 3 j 4 (g 3 j 4)) 11 j 0 1) 3 j 10 ((h3 3 j 10) - 4)) 3 ((f_touched h3 (nI j) (h3 3 j 3) (h3 3 j 4)).toNatClampNeg) 10 (((up3 (up3 (up3 (up3 h3 3 j 3 (g 3 j 3)) 3 j 4 (g 3 j 4)) 11 j 0 1) 3 j 10 ((h3 3 j 10) - 4)) 3 ((f_touched h3 (nI j) (h3 3 j 3) (h3 3 j 4)).toNatClampNeg) 10) - 4)) 3 j 8 0) ((f_touched h3 (nI j) (h3 3 j 3) (h3 3 j 4)).toNatClampNeg)) H locs := Wd
        refine lv_aload_n hx hb d_TankArena_drive_123 rfl (lv_at hl 4 rfl) ?_
        refine lv_iload_n hx hb d_TankArena_drive_124 rfl (lv_at hl 5 rfl) ?_
        refine kc_Vv (As := [.int (nI j)]) [] X Wd (k_g_die l D cI cT cB ad tX tY (g_die (up3 (up3 (up3 (up3 (up3 (up3 h3 3 j 3 (g 3 j 3)) 3 j 4 (g 3 j 4)) 11 j 0 1) 3 j 10 ((h3 3 j 10) - 4)) 3 ((f_touched h3 (nI j) (h3 3 j 3) (h3 3 j 4)).toNatClampNeg) 10 (((up3 (up3 (up3 (up3 h3 3 j 3 (g 3 j 3)) 3 j 4 (g 3 j 4)) 11 j 0 1) 3 j 10 ((h3 3 j 10) - 4)) 3 ((f_touched h3 (nI j) (h3 3 j 3) (h3 3 j 4)).toNatClampNeg) 10) - 4)) 3 j 8 0) ((f_touched h3 (nI j) (h3 3 j 3) (h3 3 j 4)).toNatClampNeg)) j hj (nI j) rfl N (by refine ok_g_die ?_ ((f_touched h3 (nI j) (h3 3 j 3) (h3 3 j 4)).toNatClampNeg); refine okU ?_ rfl trivial; refine okU ?_ rfl trivial; refine okU ?_ rfl trivial; refine okU ?_ rfl (Or.inr rfl); refine okU ?_ rfl trivial; refine okU ?_ rfl trivial; exact okh3)) cV_TankArena_274 (kx_recv (k := 0) (i := 0) X Wd ix0 rfl rfl) rfl rfl hl.1 ⟨rfl, rfl⟩ ⟨Nat.le_of_ble_eq_true rfl, Nat.le_of_ble_eq_true rfl⟩ (Nat.le_of_ble_eq_true rfl) ⟨Nat.zero_le _, Nat.zero_le _⟩ d_TankArena_drive_125 (fun u H locs hp Wd => ?_)
        rw [hp] at Wd
        clear hp
        have Wd : WC D cI cT cB ad _ s.heap (g_die (g_die (up3 (up3 (up3 (up3 (up3 (up3 h3 3 j 3 (g 3 j 3)) 3 j 4 (g 3 j 4)) 11 j 0 1) 3 j 10 ((h3 3 j 10) - 4)) 3 ((f_touched h3 (nI j) (h3 3 j 3) (h3 3 j 4)).toNatClampNeg) 10 (((up3 (up3 (up3 (up3 h3 3 j 3 (g 3 j 3)) 3 j 4 (g 3 j 4)) 11 j 0 1) 3 j 10 ((h3 3 j 10) - 4)) 3 ((f_touched h3 (nI j) (h3 3 j 3) (h3 3 j 4)).toNatClampNeg) 10) - 4)) 3 j 8 0) ((f_touched h3 (nI j) (h3 3 j 3) (h3 3 j 4)).toNatClampNeg)) j) H locs := Wd
        refine lv_aload_n hx hb d_TankArena_drive_128 rfl (lv_at hl 3 rfl) ?_
        refine kc_Vv (As := []) [] X Wd (k_g_cool l D cI cT cB ad tX tY (g_die (g_die (up3 (up3 (up3 (up3 (up3 (up3 h3 3 j 3 (g 3 j 3)) 3 j 4 (g 3 j 4)) 11 j 0 1) 3 j 10 ((h3 3 j 10) - 4)) 3 ((f_touched h3 (nI j) (h3 3 j 3) (h3 3 j 4)).toNatClampNeg) 10 (((up3 (up3 (up3 (up3 h3 3 j 3 (g 3 j 3)) 3 j 4 (g 3 j 4)) 11 j 0 1) 3 j 10 ((h3 3 j 10) - 4)) 3 ((f_touched h3 (nI j) (h3 3 j 3) (h3 3 j 4)).toNatClampNeg) 10) - 4)) 3 j 8 0) ((f_touched h3 (nI j) (h3 3 j 3) (h3 3 j 4)).toNatClampNeg)) j) j hj) cV_TankArena_290 (kx_recv (k := 3) (i := j) X Wd (ix3 hj) rfl rfl) rfl rfl hl.1 ⟨rfl, rfl⟩ ⟨Nat.le_of_ble_eq_true rfl, Nat.le_of_ble_eq_true rfl⟩ (Nat.le_of_ble_eq_true rfl) ⟨Nat.zero_le _, Nat.zero_le _⟩ d_TankArena_drive_129 (fun u H locs hp Wd => ?_)
        rw [hp] at Wd
        clear hp
        have Wd : WC D cI cT cB ad _ s.heap (g_cool (g_die (g_die (up3 (up3 (up3 (up3 (up3 (up3 h3 3 j 3 (g 3 j 3)) 3 j 4 (g 3 j 4)) 11 j 0 1) 3 j 10 ((h3 3 j 10) - 4)) 3 ((f_touched h3 (nI j) (h3 3 j 3) (h3 3 j 4)).toNatClampNeg) 10 (((up3 (up3 (up3 (up3 h3 3 j 3 (g 3 j 3)) 3 j 4 (g 3 j 4)) 11 j 0 1) 3 j 10 ((h3 3 j 10) - 4)) 3 ((f_touched h3 (nI j) (h3 3 j 3) (h3 3 j 4)).toNatClampNeg) 10) - 4)) 3 j 8 0) ((f_touched h3 (nI j) (h3 3 j 3) (h3 3 j 4)).toNatClampNeg)) j) j) H locs := Wd
        exact kx_vret (u := g_cool (g_die (g_die (up3 (up3 (up3 (up3 (up3 (up3 h3 3 j 3 (g 3 j 3)) 3 j 4 (g 3 j 4)) 11 j 0 1) 3 j 10 ((h3 3 j 10) - 4)) 3 ((f_touched h3 (nI j) (h3 3 j 3) (h3 3 j 4)).toNatClampNeg) 10 (((up3 (up3 (up3 (up3 h3 3 j 3 (g 3 j 3)) 3 j 4 (g 3 j 4)) 11 j 0 1) 3 j 10 ((h3 3 j 10) - 4)) 3 ((f_touched h3 (nI j) (h3 3 j 3) (h3 3 j 4)).toNatClampNeg) 10) - 4)) 3 j 8 0) ((f_touched h3 (nI j) (h3 3 j 3) (h3 3 j 4)).toNatClampNeg)) j) j) X Wd (by rw [g_drive, ← eh3, g_drive2, if_neg c_1]) d_TankArena_drive_132
abbrev RM_g_driveTanks : Room := { frames := 4, cells := 0, slots := 0, locals := 92 }
set_option maxHeartbeats 1000000 in
set_option maxRecDepth 100000 in
theorem k_g_driveTanks (l : Launch) (D : va_G) (cI cT cB : ClassId) (ad : Nat → Nat → Nat) (tX tY : Nat) (g : SG) (N : Nat) (ok : OkN N g) : KV l y_TankArena_driveTanks b_TankArena_driveTanks 2 none RM_g_driveTanks D cI cT cB ad tX tY [.ref (ad 0 0)] g (fun (u : SG) => u = g_driveTanks g) := by
  refine met_of (cc := b_TankArena_driveTanks) (nL := 2) (ret := none) (by decide) rfl (Nat.le_of_ble_eq_true rfl) ?_
  intro p e s m below meth c X hnm Wd ls hl
  have X := X.tt
  have hx := X.1
  have hb := X.2.1
  have hown := X.2.2.2.1
  have hts := X.2.2.2.2.1
  have hl : lv_has ls 2 [(0, .ref (ad 0 0))] := hl
  have Wd : WC D cI cT cB ad (va_A (gC cI cT cB ad g) s.heap.size) s.heap g s.heap [] := Wd
  obtain ⟨hN4, eN⟩ := ok.N
  refine lv_iconst (v := 0) hx hb d_TankArena_driveTanks_0 (by decide) ?_
  refine lv_istore_n (lv' := [(1, .int 0), (0, .ref (ad 0 0))]) hx hb d_TankArena_driveTanks_1 rfl hl (by decide) rfl (fun ls hl => ?_)
  have loop : ∀ (n : Nat) (i : Nat) (gl : SG), OkN N gl → i ≤ N → N + 1 ≤ i + n → g_driveTanks g = L_driveTanks n i gl → ∀ (H : Heap) (locs : List Loc), WC D cI cT cB ad (va_A (gC cI cT cB ad g) s.heap.size) s.heap gl H locs → ∀ ls : Array Slot, lv_has ls 2 [(0, .ref (ad 0 0)), (1, .int (nI i))] → W p l e RM_g_driveTanks s m [.ref (ad 0 0)].toArray below meth c H locs 0 0 (QV D cI cT cB ad below [.ref (ad 0 0)] s g (fun (u : SG) => u = g_driveTanks g)) (F0 m 2 ls []) := by
    intro n
    induction n with
    | zero =>
      intro i gl hv0 hv1 hv2
      exfalso
      omega
    | succ n ih =>
      intro i gl hv0 hv1 hv2 htg H locs Wd ls hl
      obtain ⟨hN4, eN⟩ := hv0.N
      refine lv_iload_n hx hb d_TankArena_driveTanks_2 rfl (lv_at hl 1 rfl) ?_
      refine lv_aload_n hx hb d_TankArena_driveTanks_3 rfl (lv_at hl 0 rfl) ?_
      refine kx_geti (k := 0) (i := 0) X Wd ix0 cell0 fg_TankArena_27 0 rfl (by decide) rfl d_TankArena_driveTanks_4 ?_
      refine lv_icmp_ge (tgt := 33) hx hb d_TankArena_driveTanks_7 (by decide) (fun c_1 => ?_) (fun c_1 => ?_)
      · skip
        exact kx_vret (u := gl) X Wd (by rw [htg, L_driveTanks, if_pos c_1]) d_TankArena_driveTanks_33
      · skip
        have hiN : i < N := nlt_of eN (by omega) (by omega) c_1
        have hi : i < 4 := by omega
        refine lv_aload_n hx hb d_TankArena_driveTanks_10 rfl (lv_at hl 0 rfl) ?_
        refine kx_get (k := 0) (i := 0) (v := .ref (ad 1 0)) X Wd ix0 rfl fg_TankArena_11 rfl d_TankArena_driveTanks_11 ?_
        refine lv_iload_n hx hb d_TankArena_driveTanks_14 rfl (lv_at hl 1 rfl) ?_
        refine kx_aald (k := 1) (i := 0) (j := i) (b := ad 3 i) (t0 := 1) X Wd ix1 cell1 rfl rfl (by omega) (by decide) rfl d_TankArena_driveTanks_15 ?_
        refine kx_geti (k := 3) (i := i) X Wd (ix3 (by omega)) cell3 fg_TankArena_125 13 rfl (by decide) rfl d_TankArena_driveTanks_16 ?_
        refine lv_if_eq (tgt := 27) hx hb d_TankArena_driveTanks_19 (by decide) (fun c_2 => ?_) (fun c_2 => ?_)
        · skip
          refine lv_iinc (v := nI (i + 1)) (lv' := [(1, .int (nI (i + 1))), (0, .ref (ad 0 0))]) hx hb d_TankArena_driveTanks_27 hl (k := 1) rfl (nI_1 i) (by decide) rfl (fun ls hl => ?_)
          refine lv_goto (tgt := 2) hx hb d_TankArena_driveTanks_30 (by decide) ?_
          exact ih (i + 1) gl hv0 (by omega) (by omega) (by rw [htg, L_driveTanks, if_neg c_1, if_pos c_2]) _ _ Wd _ (lv_sub hl [1, 0] rfl)
        · skip
          refine lv_aload_n hx hb d_TankArena_driveTanks_22 rfl (lv_at hl 0 rfl) ?_
          refine lv_iload_n hx hb d_TankArena_driveTanks_23 rfl (lv_at hl 1 rfl) ?_
          refine kc_Vv (As := [.int (nI i)]) [] X Wd (k_g_drive l D cI cT cB ad tX tY gl i (by omega) (nI i) rfl N hv0) cV_TankArena_277 (kx_recv (k := 0) (i := 0) X Wd ix0 rfl rfl) rfl rfl hl.1 ⟨rfl, rfl⟩ ⟨Nat.le_of_ble_eq_true rfl, Nat.le_of_ble_eq_true rfl⟩ (Nat.le_of_ble_eq_true rfl) ⟨Nat.zero_le _, Nat.zero_le _⟩ d_TankArena_driveTanks_24 (fun u H locs hp Wd => ?_)
          rw [hp] at Wd
          clear hp
          have Wd : WC D cI cT cB ad _ s.heap (g_drive gl i) H locs := Wd
          refine lv_iinc (v := nI (i + 1)) (lv' := [(1, .int (nI (i + 1))), (0, .ref (ad 0 0))]) hx hb d_TankArena_driveTanks_27 hl (k := 1) rfl (nI_1 i) (by decide) rfl (fun ls hl => ?_)
          refine lv_goto (tgt := 2) hx hb d_TankArena_driveTanks_30 (by decide) ?_
          exact ih (i + 1) (g_drive gl i) (by refine ok_g_drive ?_ i; exact hv0) (by omega) (by omega) (by rw [htg, L_driveTanks, if_neg c_1, if_neg c_2]) _ _ Wd _ (lv_sub hl [1, 0] rfl)
  exact loop 5 0 g ok (by omega) (by omega) (by rw [g_driveTanks]) _ _ Wd _ (lv_sub hl [1, 0] rfl)
abbrev RM_g_look : Room := { frames := 2, cells := 0, slots := 0, locals := 46 }
set_option maxHeartbeats 1000000 in
set_option maxRecDepth 100000 in
theorem k_g_look (l : Launch) (D : va_G) (cI cT cB : ClassId) (ad : Nat → Nat → Nat) (tX tY : Nat) (g : SG) (j : Nat) (hj : j < 4) (vj : Int32) (ej : vj = nI j) (N : Nat) (ok : OkN N g) : KV l y_TankArena_look b_TankArena_look 4 none RM_g_look D cI cT cB ad tX tY [.ref (ad 0 0), .int vj] g (fun (u : SG) => u = g_look g j) := by
  subst ej
  refine met_of (cc := b_TankArena_look) (nL := 4) (ret := none) (by decide) rfl (Nat.le_of_ble_eq_true rfl) ?_
  intro p e s m below meth c X hnm Wd ls hl
  have X := X.tt
  have hx := X.1
  have hb := X.2.1
  have hown := X.2.2.2.1
  have hts := X.2.2.2.2.1
  have hl : lv_has ls 4 [(0, .ref (ad 0 0)), (1, .int (nI j))] := hl
  have Wd : WC D cI cT cB ad (va_A (gC cI cT cB ad g) s.heap.size) s.heap g s.heap [] := Wd
  obtain ⟨hN4, eN⟩ := ok.N
  refine lv_aload_n hx hb d_TankArena_look_0 rfl (lv_at hl 0 rfl) ?_
  refine kx_get (k := 0) (i := 0) (v := .ref (ad 1 0)) X Wd ix0 rfl fg_TankArena_11 rfl d_TankArena_look_1 ?_
  refine lv_iload_n hx hb d_TankArena_look_4 rfl (lv_at hl 1 rfl) ?_
  refine kx_aald (k := 1) (i := 0) (j := j) (b := ad 3 j) (t0 := 1) X Wd ix1 cell1 rfl rfl hj (by decide) rfl d_TankArena_look_5 ?_
  refine lv_astore_n (lv' := [(2, .ref (ad 3 j)), (0, .ref (ad 0 0)), (1, .int (nI j))]) hx hb d_TankArena_look_6 rfl hl (by decide) rfl (fun ls hl => ?_)
  refine lv_iconst (v := 0) hx hb d_TankArena_look_7 (by decide) ?_
  refine lv_istore_n (lv' := [(3, .int 0), (2, .ref (ad 3 j)), (0, .ref (ad 0 0)), (1, .int (nI j))]) hx hb d_TankArena_look_8 rfl hl (by decide) rfl (fun ls hl => ?_)
  have loop : ∀ (n : Nat) (i : Nat) (gl : SG), OkN N gl → i ≤ N → N + 1 ≤ i + n → g_look g j = L_look j n i gl → ∀ (H : Heap) (locs : List Loc), WC D cI cT cB ad (va_A (gC cI cT cB ad g) s.heap.size) s.heap gl H locs → ∀ ls : Array Slot, lv_has ls 4 [(0, .ref (ad 0 0)), (1, .int (nI j)), (2, .ref (ad 3 j)), (3, .int (nI i))] → W p l e RM_g_look s m [.ref (ad 0 0), .int (nI j)].toArray below meth c H locs 0 0 (QV D cI cT cB ad below [.ref (ad 0 0), .int (nI j)] s g (fun (u : SG) => u = g_look g j)) (F0 m 9 ls []) := by
    intro n
    induction n with
    | zero =>
      intro i gl hv0 hv1 hv2
      exfalso
      omega
    | succ n ih =>
      intro i gl hv0 hv1 hv2 htg H locs Wd ls hl
      obtain ⟨hN4, eN⟩ := hv0.N
      refine lv_iload_n hx hb d_TankArena_look_9 rfl (lv_at hl 3 rfl) ?_
      refine lv_aload_n hx hb d_TankArena_look_10 rfl (lv_at hl 0 rfl) ?_
      refine kx_geti (k := 0) (i := 0) X Wd ix0 cell0 fg_TankArena_27 0 rfl (by decide) rfl d_TankArena_look_11 ?_
      refine lv_icmp_ge (tgt := 87) hx hb d_TankArena_look_14 (by decide) (fun c_1 => ?_) (fun c_1 => ?_)
      · skip
        exact kx_vret (u := gl) X Wd (by rw [htg, L_look, if_pos c_1]) d_TankArena_look_87
      · skip
        have hiN : i < N := nlt_of eN (by omega) (by omega) c_1
        have hi : i < 4 := by omega
        refine lv_iload_n hx hb d_TankArena_look_17 rfl (lv_at hl 3 rfl) ?_
        refine lv_iload_n hx hb d_TankArena_look_18 rfl (lv_at hl 1 rfl) ?_
        refine lv_icmp_eq (tgt := 81) hx hb d_TankArena_look_19 (by decide) (fun c_2 => ?_) (fun c_2 => ?_)
        · skip
          refine lv_iinc (v := nI (i + 1)) (lv' := [(3, .int (nI (i + 1))), (0, .ref (ad 0 0)), (1, .int (nI j)), (2, .ref (ad 3 j))]) hx hb d_TankArena_look_81 hl (k := 3) rfl (nI_1 i) (by decide) rfl (fun ls hl => ?_)
          refine lv_goto (tgt := 9) hx hb d_TankArena_look_84 (by decide) ?_
          exact ih (i + 1) gl hv0 (by omega) (by omega) (by rw [htg, L_look, if_neg c_1, if_pos c_2]) _ _ Wd _ (lv_sub hl [1, 2, 3, 0] rfl)
        · skip
          refine lv_aload_n hx hb d_TankArena_look_22 rfl (lv_at hl 0 rfl) ?_
          refine kx_get (k := 0) (i := 0) (v := .ref (ad 1 0)) X Wd ix0 rfl fg_TankArena_11 rfl d_TankArena_look_23 ?_
          refine lv_iload_n hx hb d_TankArena_look_26 rfl (lv_at hl 3 rfl) ?_
          refine kx_aald (k := 1) (i := 0) (j := i) (b := ad 3 i) (t0 := 1) X Wd ix1 cell1 rfl rfl (by omega) (by decide) rfl d_TankArena_look_27 ?_
          refine kx_geti (k := 3) (i := i) X Wd (ix3 (by omega)) cell3 fg_TankArena_125 13 rfl (by decide) rfl d_TankArena_look_28 ?_
          refine lv_if_eq (tgt := 81) hx hb d_TankArena_look_31 (by decide) (fun c_3 => ?_) (fun c_3 => ?_)
          · skip
            refine lv_iinc (v := nI (i + 1)) (lv' := [(3, .int (nI (i + 1))), (0, .ref (ad 0 0)), (1, .int (nI j)), (2, .ref (ad 3 j))]) hx hb d_TankArena_look_81 hl (k := 3) rfl (nI_1 i) (by decide) rfl (fun ls hl => ?_)
            refine lv_goto (tgt := 9) hx hb d_TankArena_look_84 (by decide) ?_
            exact ih (i + 1) gl hv0 (by omega) (by omega) (by rw [htg, L_look, if_neg c_1, if_neg c_2, if_pos c_3]) _ _ Wd _ (lv_sub hl [1, 2, 3, 0] rfl)
          · skip
            refine lv_aload_n hx hb d_TankArena_look_34 rfl (lv_at hl 2 rfl) ?_
            refine lv_aload_n hx hb d_TankArena_look_35 rfl (lv_at hl 0 rfl) ?_
            refine kx_get (k := 0) (i := 0) (v := .ref (ad 1 0)) X Wd ix0 rfl fg_TankArena_11 rfl d_TankArena_look_36 ?_
            refine lv_iload_n hx hb d_TankArena_look_39 rfl (lv_at hl 3 rfl) ?_
            refine kx_aald (k := 1) (i := 0) (j := i) (b := ad 3 i) (t0 := 1) X Wd ix1 cell1 rfl rfl (by omega) (by decide) rfl d_TankArena_look_40 ?_
            refine kc_Si (As := [.ref (ad 3 j), .ref (ad 3 i)]) [] X Wd (k_f_sector l D cI cT cB ad tX tY gl j hj i (by omega)) cS_TankArena_218 rfl rfl hl.1 ⟨rfl, rfl⟩ ⟨Nat.le_of_ble_eq_true rfl, Nat.le_of_ble_eq_true rfl⟩ (Nat.le_of_ble_eq_true rfl) ⟨Nat.zero_le _, Nat.zero_le _⟩ d_TankArena_look_41 (fun r u H locs hp Wd => ?_)
            obtain ⟨hr, hu⟩ := hp
            rw [hu] at Wd
            rw [hr]
            clear hr hu
            refine lv_aload_n hx hb d_TankArena_look_44 rfl (lv_at hl 2 rfl) ?_
            refine kx_geti (k := 3) (i := j) X Wd (ix3 hj) cell3 fg_TankArena_296 7 rfl (by decide) rfl d_TankArena_look_45 ?_
            refine lv_icmp_ne (tgt := 81) hx hb d_TankArena_look_48 (by decide) (fun c_4 => ?_) (fun c_4 => ?_)
            · skip
              refine lv_iinc (v := nI (i + 1)) (lv' := [(3, .int (nI (i + 1))), (0, .ref (ad 0 0)), (1, .int (nI j)), (2, .ref (ad 3 j))]) hx hb d_TankArena_look_81 hl (k := 3) rfl (nI_1 i) (by decide) rfl (fun ls hl => ?_)
              refine lv_goto (tgt := 9) hx hb d_TankArena_look_84 (by decide) ?_
              exact ih (i + 1) gl hv0 (by omega) (by omega) (by rw [htg, L_look, if_neg c_1, if_neg c_2, if_neg c_3, if_neg c_4]) _ _ Wd _ (lv_sub hl [1, 2, 3, 0] rfl)
            · skip
              refine lv_aload_n hx hb d_TankArena_look_51 rfl (lv_at hl 2 rfl) ?_
              refine kx_get (k := 3) (i := j) (v := .ref (ad 11 j)) X Wd (ix3 hj) rfl fg_TankArena_197 rfl d_TankArena_look_52 ?_
              refine lv_iload_n hx hb d_TankArena_look_55 rfl (lv_at hl 3 rfl) ?_
              refine lv_aload_n hx hb d_TankArena_look_56 rfl (lv_at hl 2 rfl) ?_
              refine lv_aload_n hx hb d_TankArena_look_57 rfl (lv_at hl 0 rfl) ?_
              refine kx_get (k := 0) (i := 0) (v := .ref (ad 1 0)) X Wd ix0 rfl fg_TankArena_11 rfl d_TankArena_look_58 ?_
              refine lv_iload_n hx hb d_TankArena_look_61 rfl (lv_at hl 3 rfl) ?_
              refine kx_aald (k := 1) (i := 0) (j := i) (b := ad 3 i) (t0 := 1) X Wd ix1 cell1 rfl rfl (by omega) (by decide) rfl d_TankArena_look_62 ?_
              refine kx_geti (k := 3) (i := i) X Wd (ix3 (by omega)) cell3 fg_TankArena_110 3 rfl (by decide) rfl d_TankArena_look_63 ?_
              refine lv_aload_n hx hb d_TankArena_look_66 rfl (lv_at hl 0 rfl) ?_
              refine kx_get (k := 0) (i := 0) (v := .ref (ad 1 0)) X Wd ix0 rfl fg_TankArena_11 rfl d_TankArena_look_67 ?_
              refine lv_iload_n hx hb d_TankArena_look_70 rfl (lv_at hl 3 rfl) ?_
              refine kx_aald (k := 1) (i := 0) (j := i) (b := ad 3 i) (t0 := 1) X Wd ix1 cell1 rfl rfl (by omega) (by decide) rfl d_TankArena_look_71 ?_
              refine kx_geti (k := 3) (i := i) X Wd (ix3 (by omega)) cell3 fg_TankArena_113 4 rfl (by decide) rfl d_TankArena_look_72 ?_
              refine kc_Vi (As := [.int (gl 3 i 3), .int (gl 3 i 4)]) [.int (nI i), .ref (ad 11 j)] X Wd (k_f_dist l D cI cT cB ad tX tY gl j hj (gl 3 i 3) (gl 3 i 4)) cV_TankArena_262 (kx_recv (k := 3) (i := j) X Wd (ix3 hj) rfl rfl) rfl rfl hl.1 ⟨rfl, rfl⟩ ⟨Nat.le_of_ble_eq_true rfl, Nat.le_of_ble_eq_true rfl⟩ (Nat.le_of_ble_eq_true rfl) ⟨Nat.zero_le _, Nat.zero_le _⟩ d_TankArena_look_75 (fun r u H locs hp Wd => ?_)
              obtain ⟨hr, hu⟩ := hp
              rw [hu] at Wd
              rw [hr]
              clear hr hu
              refine kc_Vv (As := [.int (nI i), .int (f_dist gl j (gl 3 i 3) (gl 3 i 4))]) [] X Wd (k_g_note l D cI cT cB ad tX tY gl j hj (nI i) (f_dist gl j (gl 3 i 3) (gl 3 i 4))) cV_TankArena_297 (kx_recv (k := 11) (i := j) X Wd (ix11 hj) rfl rfl) rfl rfl hl.1 ⟨rfl, rfl⟩ ⟨Nat.le_of_ble_eq_true rfl, Nat.le_of_ble_eq_true rfl⟩ (Nat.le_of_ble_eq_true rfl) ⟨Nat.zero_le _, Nat.zero_le _⟩ d_TankArena_look_78 (fun u H locs hp Wd => ?_)
              rw [hp] at Wd
              clear hp
              have Wd : WC D cI cT cB ad _ s.heap (g_note gl j (nI i) (f_dist gl j (gl 3 i 3) (gl 3 i 4))) H locs := Wd
              refine lv_iinc (v := nI (i + 1)) (lv' := [(3, .int (nI (i + 1))), (0, .ref (ad 0 0)), (1, .int (nI j)), (2, .ref (ad 3 j))]) hx hb d_TankArena_look_81 hl (k := 3) rfl (nI_1 i) (by decide) rfl (fun ls hl => ?_)
              refine lv_goto (tgt := 9) hx hb d_TankArena_look_84 (by decide) ?_
              exact ih (i + 1) (g_note gl j (nI i) (f_dist gl j (gl 3 i 3) (gl 3 i 4))) (by refine ok_g_note ?_ j (nI i) (f_dist gl j (gl 3 i 3) (gl 3 i 4)) ⟨i, by omega, rfl⟩; exact hv0) (by omega) (by omega) (by rw [htg, L_look, if_neg c_1, if_neg c_2, if_neg c_3, if_pos c_4]) _ _ Wd _ (lv_sub hl [1, 2, 3, 0] rfl)
  exact loop 5 0 g ok (by omega) (by omega) (by rw [g_look]) _ _ Wd _ (lv_sub hl [2, 3, 1, 0] rfl)
abbrev RM_g_sweep : Room := { frames := 3, cells := 0, slots := 0, locals := 69 }
set_option maxHeartbeats 1000000 in
set_option maxRecDepth 100000 in
theorem k_g_sweep (l : Launch) (D : va_G) (cI cT cB : ClassId) (ad : Nat → Nat → Nat) (tX tY : Nat) (g : SG) (N : Nat) (ok : OkN N g) : KV l y_TankArena_sweepRadars b_TankArena_sweepRadars 2 none RM_g_sweep D cI cT cB ad tX tY [.ref (ad 0 0)] g (fun (u : SG) => u = g_sweep g) := by
  refine met_of (cc := b_TankArena_sweepRadars) (nL := 2) (ret := none) (by decide) rfl (Nat.le_of_ble_eq_true rfl) ?_
  intro p e s m below meth c X hnm Wd ls hl
  have X := X.tt
  have hx := X.1
  have hb := X.2.1
  have hown := X.2.2.2.1
  have hts := X.2.2.2.2.1
  have hl : lv_has ls 2 [(0, .ref (ad 0 0))] := hl
  have Wd : WC D cI cT cB ad (va_A (gC cI cT cB ad g) s.heap.size) s.heap g s.heap [] := Wd
  obtain ⟨hN4, eN⟩ := ok.N
  refine lv_iconst (v := 0) hx hb d_TankArena_sweepRadars_0 (by decide) ?_
  refine lv_istore_n (lv' := [(1, .int 0), (0, .ref (ad 0 0))]) hx hb d_TankArena_sweepRadars_1 rfl hl (by decide) rfl (fun ls hl => ?_)
  have loop : ∀ (n : Nat) (i : Nat) (gl : SG), OkN N gl → i ≤ N → N + 1 ≤ i + n → g_sweep g = L_sweep n i gl → ∀ (H : Heap) (locs : List Loc), WC D cI cT cB ad (va_A (gC cI cT cB ad g) s.heap.size) s.heap gl H locs → ∀ ls : Array Slot, lv_has ls 2 [(0, .ref (ad 0 0)), (1, .int (nI i))] → W p l e RM_g_sweep s m [.ref (ad 0 0)].toArray below meth c H locs 0 0 (QV D cI cT cB ad below [.ref (ad 0 0)] s g (fun (u : SG) => u = g_sweep g)) (F0 m 2 ls []) := by
    intro n
    induction n with
    | zero =>
      intro i gl hv0 hv1 hv2
      exfalso
      omega
    | succ n ih =>
      intro i gl hv0 hv1 hv2 htg H locs Wd ls hl
      obtain ⟨hN4, eN⟩ := hv0.N
      refine lv_iload_n hx hb d_TankArena_sweepRadars_2 rfl (lv_at hl 1 rfl) ?_
      refine lv_aload_n hx hb d_TankArena_sweepRadars_3 rfl (lv_at hl 0 rfl) ?_
      refine kx_geti (k := 0) (i := 0) X Wd ix0 cell0 fg_TankArena_27 0 rfl (by decide) rfl d_TankArena_sweepRadars_4 ?_
      refine lv_icmp_ge (tgt := 33) hx hb d_TankArena_sweepRadars_7 (by decide) (fun c_1 => ?_) (fun c_1 => ?_)
      · skip
        exact kx_vret (u := gl) X Wd (by rw [htg, L_sweep, if_pos c_1]) d_TankArena_sweepRadars_33
      · skip
        have hiN : i < N := nlt_of eN (by omega) (by omega) c_1
        have hi : i < 4 := by omega
        refine lv_aload_n hx hb d_TankArena_sweepRadars_10 rfl (lv_at hl 0 rfl) ?_
        refine kx_get (k := 0) (i := 0) (v := .ref (ad 1 0)) X Wd ix0 rfl fg_TankArena_11 rfl d_TankArena_sweepRadars_11 ?_
        refine lv_iload_n hx hb d_TankArena_sweepRadars_14 rfl (lv_at hl 1 rfl) ?_
        refine kx_aald (k := 1) (i := 0) (j := i) (b := ad 3 i) (t0 := 1) X Wd ix1 cell1 rfl rfl (by omega) (by decide) rfl d_TankArena_sweepRadars_15 ?_
        refine kx_geti (k := 3) (i := i) X Wd (ix3 (by omega)) cell3 fg_TankArena_125 13 rfl (by decide) rfl d_TankArena_sweepRadars_16 ?_
        refine lv_if_eq (tgt := 27) hx hb d_TankArena_sweepRadars_19 (by decide) (fun c_2 => ?_) (fun c_2 => ?_)
        · skip
          refine lv_iinc (v := nI (i + 1)) (lv' := [(1, .int (nI (i + 1))), (0, .ref (ad 0 0))]) hx hb d_TankArena_sweepRadars_27 hl (k := 1) rfl (nI_1 i) (by decide) rfl (fun ls hl => ?_)
          refine lv_goto (tgt := 2) hx hb d_TankArena_sweepRadars_30 (by decide) ?_
          exact ih (i + 1) gl hv0 (by omega) (by omega) (by rw [htg, L_sweep, if_neg c_1, if_pos c_2]) _ _ Wd _ (lv_sub hl [1, 0] rfl)
        · skip
          refine lv_aload_n hx hb d_TankArena_sweepRadars_22 rfl (lv_at hl 0 rfl) ?_
          refine lv_iload_n hx hb d_TankArena_sweepRadars_23 rfl (lv_at hl 1 rfl) ?_
          refine kc_Vv (As := [.int (nI i)]) [] X Wd (k_g_look l D cI cT cB ad tX tY gl i (by omega) (nI i) rfl N hv0) cV_TankArena_293 (kx_recv (k := 0) (i := 0) X Wd ix0 rfl rfl) rfl rfl hl.1 ⟨rfl, rfl⟩ ⟨Nat.le_of_ble_eq_true rfl, Nat.le_of_ble_eq_true rfl⟩ (Nat.le_of_ble_eq_true rfl) ⟨Nat.zero_le _, Nat.zero_le _⟩ d_TankArena_sweepRadars_24 (fun u H locs hp Wd => ?_)
          rw [hp] at Wd
          clear hp
          have Wd : WC D cI cT cB ad _ s.heap (g_look gl i) H locs := Wd
          refine lv_iinc (v := nI (i + 1)) (lv' := [(1, .int (nI (i + 1))), (0, .ref (ad 0 0))]) hx hb d_TankArena_sweepRadars_27 hl (k := 1) rfl (nI_1 i) (by decide) rfl (fun ls hl => ?_)
          refine lv_goto (tgt := 2) hx hb d_TankArena_sweepRadars_30 (by decide) ?_
          exact ih (i + 1) (g_look gl i) (by refine ok_g_look ?_ i; exact hv0) (by omega) (by omega) (by rw [htg, L_sweep, if_neg c_1, if_neg c_2]) _ _ Wd _ (lv_sub hl [1, 0] rfl)
  exact loop 5 0 g ok (by omega) (by omega) (by rw [g_sweep]) _ _ Wd _ (lv_sub hl [1, 0] rfl)
