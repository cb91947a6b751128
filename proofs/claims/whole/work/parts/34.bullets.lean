/-! CONTRACTS (printed by gen/all.py) -/
abbrev RM_g_fire : Room := { frames := 1, cells := 0, slots := 0, locals := 22 }
set_option maxHeartbeats 1000000 in
set_option maxRecDepth 100000 in
theorem k_g_fire (l : Launch) (D : va_G) (cI cT cB : ClassId) (ad : Nat → Nat → Nat) (tX tY : Nat) (g : SG) (i : Nat) (hi : i < 4) (vi : Int32) (ei : vi = nI i) (N : Nat) (ok : OkN N g) (hfl : rng (g 0 0 2) 16) : KV l y_TankArena_fire b_TankArena_fire 4 none RM_g_fire D cI cT cB ad tX tY [.ref (ad 0 0), .int vi] g (fun (u : SG) => u = g_fire g i) := by
  subst ei
  refine met_of (cc := b_TankArena_fire) (nL := 4) (ret := none) (by decide) rfl (Nat.le_of_ble_eq_true rfl) ?_
  intro p e s m below meth c X hnm Wd ls hl
  have X := X.tt
  have hx := X.1
  have hb := X.2.1
  have hown := X.2.2.2.1
  have hts := X.2.2.2.2.1
  have hl : lv_has ls 4 [(0, .ref (ad 0 0)), (1, .int (nI i))] := hl
  have Wd : WC D cI cT cB ad (va_A (gC cI cT cB ad g) s.heap.size) s.heap g s.heap [] := Wd
  obtain ⟨es, hs⟩ := rng_j hfl (by decide)
  obtain ⟨eb, hbu⟩ := rng_j (ok.1.1 2 0 (g 0 0 2).toNatClampNeg) (by decide)
  refine lv_aload_n hx hb d_TankArena_fire_0 rfl (lv_at hl 0 rfl) ?_
  refine kx_get (k := 0) (i := 0) (v := .ref (ad 1 0)) X Wd ix0 rfl fg_TankArena_11 rfl d_TankArena_fire_1 ?_
  refine lv_iload_n hx hb d_TankArena_fire_4 rfl (lv_at hl 1 rfl) ?_
  refine kx_aald (k := 1) (i := 0) (j := i) (b := ad 3 i) (t0 := 1) X Wd ix1 cell1 rfl rfl hi (by decide) rfl d_TankArena_fire_5 ?_
  refine lv_astore_n (lv' := [(2, .ref (ad 3 i)), (0, .ref (ad 0 0)), (1, .int (nI i))]) hx hb d_TankArena_fire_6 rfl hl (by decide) rfl (fun ls hl => ?_)
  refine lv_aload_n hx hb d_TankArena_fire_7 rfl (lv_at hl 0 rfl) ?_
  refine kx_get (k := 3) (i := i) (v := .ref (ad 10 i)) X Wd (ix3 hi) rfl fg_TankArena_129 rfl d_TankArena_fire_8 ?_
  refine kx_geti (k := 10) (i := i) X Wd (ix10 hi) cell10 fg_TankArena_191 3 rfl (by decide) rfl d_TankArena_fire_11 ?_
  refine lv_istore_n (lv' := [(3, .int (g 10 i 3)), (2, .ref (ad 3 i)), (0, .ref (ad 0 0)), (1, .int (nI i))]) hx hb d_TankArena_fire_14 rfl hl (by decide) rfl (fun ls hl => ?_)
  refine lv_aload_n hx hb d_TankArena_fire_15 rfl (lv_at hl 1 rfl) ?_
  refine lv_dup hx hb d_TankArena_fire_16 rfl ?_
  refine kx_geti (k := 3) (i := i) X Wd (ix3 hi) cell3 fg_TankArena_231 10 rfl (by decide) rfl d_TankArena_fire_17 ?_
  refine lv_iload_n hx hb d_TankArena_fire_20 rfl (lv_at hl 0 rfl) ?_
  refine lv_bipush (v := 8) hx hb d_TankArena_fire_21 (by decide) ?_
  refine lv_imul hx hb d_TankArena_fire_23 ?_
  refine lv_isub hx hb d_TankArena_fire_24 ?_
  refine kx_puti (k := 3) (i := i) (v := (g 3 i 10) - ((g 10 i 3) * 8)) X Wd (ix3 hi) cell3 fp_TankArena_231 10 rfl (by decide) rfl rfl rfl d_TankArena_fire_25 (fun H locs Wd => ?_)
  refine lv_aload_n hx hb d_TankArena_fire_28 rfl (lv_at hl 1 rfl) ?_
  refine lv_bipush (v := 8) hx hb d_TankArena_fire_29 (by decide) ?_
  refine lv_iload_n hx hb d_TankArena_fire_31 rfl (lv_at hl 0 rfl) ?_
  refine lv_iconst (v := 2) hx hb d_TankArena_fire_32 (by decide) ?_
  refine lv_imul hx hb d_TankArena_fire_33 ?_
  refine lv_iadd hx hb d_TankArena_fire_34 ?_
  refine kx_puti (k := 3) (i := i) (v := 8 + ((g 10 i 3) * 2)) X Wd (ix3 hi) cell3 fp_TankArena_234 11 rfl (by decide) rfl rfl rfl d_TankArena_fire_35 (fun H locs Wd => ?_)
  refine lv_aload_n hx hb d_TankArena_fire_38 rfl (lv_at hl 2 rfl) ?_
  refine kx_get (k := 0) (i := 0) (v := .ref (ad 2 0)) X Wd ix0 rfl fg_TankArena_18 rfl d_TankArena_fire_39 ?_
  refine lv_aload_n hx hb d_TankArena_fire_42 rfl (lv_at hl 2 rfl) ?_
  refine kx_geti2 (k := 0) (i := 0) (g 0 0 2) X Wd ix0 cell0 fg_TankArena_91 2 rfl (by decide) rfl (by simp [up3]) d_TankArena_fire_43 ?_
  refine kx_aald (k := 2) (i := 0) (j := (g 0 0 2).toNatClampNeg) (b := ad 12 (g 2 0 ((g 0 0 2).toNatClampNeg)).toNatClampNeg) (t0 := 2) X Wd ix2 cell2 rfl es hs (by decide) (by simp [up3]) d_TankArena_fire_46 ?_
  refine lv_aload_n hx hb d_TankArena_fire_47 rfl (lv_at hl 1 rfl) ?_
  refine lv_iload_n hx hb d_TankArena_fire_48 rfl (lv_at hl 3 rfl) ?_
  refine kc_Vv (As := [.ref (ad 3 i), .int (nI i)]) [] X Wd (k_g_leave l D cI cT cB ad tX tY (up3 (up3 g 3 i 10 ((g 3 i 10) - ((g 10 i 3) * 8))) 3 i 11 (8 + ((g 10 i 3) * 2))) ((g 2 0 ((g 0 0 2).toNatClampNeg)).toNatClampNeg) hbu i hi (nI i)) cV_TankArena_237 (kx_recv (k := 12) (i := (g 2 0 ((g 0 0 2).toNatClampNeg)).toNatClampNeg) X Wd (ix12 hbu) rfl rfl) rfl rfl hl.1 ⟨rfl, rfl⟩ ⟨Nat.le_of_ble_eq_true rfl, Nat.le_of_ble_eq_true rfl⟩ (Nat.le_of_ble_eq_true rfl) ⟨Nat.zero_le _, Nat.zero_le _⟩ d_TankArena_fire_49 (fun u H locs hp Wd => ?_)
  rw [hp] at Wd
  clear hp
  have Wd : WC D cI cT cB ad _ s.heap (g_leave (up3 (up3 g 3 i 10 ((g 3 i 10) - ((g 10 i 3) * 8))) 3 i 11 (8 + ((g 10 i 3) * 2))) ((g 2 0 ((g 0 0 2).toNatClampNeg)).toNatClampNeg) i (nI i)) H locs := Wd
  refine lv_aload_n hx hb d_TankArena_fire_52 rfl (lv_at hl 2 rfl) ?_
  refine lv_dup hx hb d_TankArena_fire_53 rfl ?_
  refine kx_geti (k := 0) (i := 0) X Wd ix0 cell0 fg_TankArena_91 2 rfl (by decide) rfl d_TankArena_fire_54 ?_
  refine lv_iconst (v := 1) hx hb d_TankArena_fire_57 (by decide) ?_
  refine lv_iadd hx hb d_TankArena_fire_58 ?_
  refine kx_puti (k := 0) (i := 0) (v := ((g_leave (up3 (up3 g 3 i 10 ((g 3 i 10) - ((g 10 i 3) * 8))) 3 i 11 (8 + ((g 10 i 3) * 2))) ((g 2 0 ((g 0 0 2).toNatClampNeg)).toNatClampNeg) i (nI i)) 0 0 2) + 1) X Wd ix0 cell0 fp_TankArena_91 2 rfl (by decide) rfl rfl rfl d_TankArena_fire_59 (fun H locs Wd => ?_)
  refine lv_aload_n hx hb d_TankArena_fire_62 rfl (lv_at hl 2 rfl) ?_
  refine lv_dup hx hb d_TankArena_fire_63 rfl ?_
  refine kx_geti2 (k := 0) (i := 0) ((g_leave (up3 (up3 g 3 i 10 ((g 3 i 10) - ((g 10 i 3) * 8))) 3 i 11 (8 + ((g 10 i 3) * 2))) ((g 2 0 ((g 0 0 2).toNatClampNeg)).toNatClampNeg) i (nI i)) 0 0 3) X Wd ix0 cell0 fg_TankArena_94 3 rfl (by decide) rfl (by simp [up3]) d_TankArena_fire_64 ?_
  refine lv_iconst (v := 1) hx hb d_TankArena_fire_67 (by decide) ?_
  refine lv_iadd hx hb d_TankArena_fire_68 ?_
  refine kx_puti (k := 0) (i := 0) (v := ((g_leave (up3 (up3 g 3 i 10 ((g 3 i 10) - ((g 10 i 3) * 8))) 3 i 11 (8 + ((g 10 i 3) * 2))) ((g 2 0 ((g 0 0 2).toNatClampNeg)).toNatClampNeg) i (nI i)) 0 0 3) + 1) X Wd ix0 cell0 fp_TankArena_94 3 rfl (by decide) rfl rfl rfl d_TankArena_fire_69 (fun H locs Wd => ?_)
  exact kx_vret (u := up3 (up3 (g_leave (up3 (up3 g 3 i 10 ((g 3 i 10) - ((g 10 i 3) * 8))) 3 i 11 (8 + ((g 10 i 3) * 2))) ((g 2 0 ((g 0 0 2).toNatClampNeg)).toNatClampNeg) i (nI i)) 0 0 2 (((g_leave (up3 (up3 g 3 i 10 ((g 3 i 10) - ((g 10 i 3) * 8))) 3 i 11 (8 + ((g 10 i 3) * 2))) ((g 2 0 ((g 0 0 2).toNatClampNeg)).toNatClampNeg) i (nI i)) 0 0 2) + 1)) 0 0 3 (((g_leave (up3 (up3 g 3 i 10 ((g 3 i 10) - ((g 10 i 3) * 8))) 3 i 11 (8 + ((g 10 i 3) * 2))) ((g 2 0 ((g 0 0 2).toNatClampNeg)).toNatClampNeg) i (nI i)) 0 0 3) + 1)) X Wd (by rw [g_fire]) d_TankArena_fire_72
abbrev RM_g_fireGuns : Room := { frames := 2, cells := 0, slots := 0, locals := 45 }
set_option maxHeartbeats 1000000 in
set_option maxRecDepth 100000 in
theorem k_g_fireGuns (l : Launch) (D : va_G) (cI cT cB : ClassId) (ad : Nat → Nat → Nat) (tX tY : Nat) (g : SG) (N : Nat) (ok : OkN N g) : KV l y_TankArena_fireGuns b_TankArena_fireGuns 2 none RM_g_fireGuns D cI cT cB ad tX tY [.ref (ad 0 0)] g (fun (u : SG) => u = g_fireGuns g) := by
  refine met_of (cc := b_TankArena_fireGuns) (nL := 2) (ret := none) (by decide) rfl (Nat.le_of_ble_eq_true rfl) ?_
  intro p e s m below meth c X hnm Wd ls hl
  have X := X.tt
  have hx := X.1
  have hb := X.2.1
  have hown := X.2.2.2.1
  have hts := X.2.2.2.2.1
  have hl : lv_has ls 2 [(0, .ref (ad 0 0))] := hl
  have Wd : WC D cI cT cB ad (va_A (gC cI cT cB ad g) s.heap.size) s.heap g s.heap [] := Wd
  obtain ⟨hN4, eN⟩ := ok.N
  refine lv_iconst (v := 0) hx hb d_TankArena_fireGuns_0 (by decide) ?_
  refine lv_istore_n (lv' := [(1, .int 0), (0, .ref (ad 0 0))]) hx hb d_TankArena_fireGuns_1 rfl hl (by decide) rfl (fun ls hl => ?_)
  have loop : ∀ (n : Nat) (i : Nat) (gl : SG), OkN N gl → i ≤ N → N + 1 ≤ i + n → g_fireGuns g = L_fireGuns n i gl → ∀ (H : Heap) (locs : List Loc), WC D cI cT cB ad (va_A (gC cI cT cB ad g) s.heap.size) s.heap gl H locs → ∀ ls : Array Slot, lv_has ls 2 [(0, .ref (ad 0 0)), (1, .int (nI i))] → W p l e RM_g_fireGuns s m [.ref (ad 0 0)].toArray below meth c H locs 0 0 (QV D cI cT cB ad below [.ref (ad 0 0)] s g (fun (u : SG) => u = g_fireGuns g)) (F0 m 2 ls []) := by
    intro n
    induction n with
    | zero =>
      intro i gl hv0 hv1 hv2
      exfalso
      omega
    | succ n ih =>
      intro i gl hv0 hv1 hv2 htg H locs Wd ls hl
      obtain ⟨hN4, eN⟩ := hv0.N
      refine lv_iload_n hx hb d_TankArena_fireGuns_2 rfl (lv_at hl 1 rfl) ?_
      refine lv_aload_n hx hb d_TankArena_fireGuns_3 rfl (lv_at hl 0 rfl) ?_
      refine kx_geti (k := 0) (i := 0) X Wd ix0 cell0 fg_TankArena_27 0 rfl (by decide) rfl d_TankArena_fireGuns_4 ?_
      refine lv_icmp_ge (tgt := 54) hx hb d_TankArena_fireGuns_7 (by decide) (fun c_1 => ?_) (fun c_1 => ?_)
      · skip
        exact kx_vret (u := gl) X Wd (by rw [htg, L_fireGuns, if_pos c_1]) d_TankArena_fireGuns_54
      · skip
        have hiN : i < N := nlt_of eN (by omega) (by omega) c_1
        have hi : i < 4 := by omega
        refine lv_aload_n hx hb d_TankArena_fireGuns_10 rfl (lv_at hl 0 rfl) ?_
        refine kx_get (k := 0) (i := 0) (v := .ref (ad 1 0)) X Wd ix0 rfl fg_TankArena_11 rfl d_TankArena_fireGuns_11 ?_
        refine lv_iload_n hx hb d_TankArena_fireGuns_14 rfl (lv_at hl 1 rfl) ?_
        refine kx_aald (k := 1) (i := 0) (j := i) (b := ad 3 i) (t0 := 1) X Wd ix1 cell1 rfl rfl (by omega) (by decide) rfl d_TankArena_fireGuns_15 ?_
        refine kx_geti (k := 3) (i := i) X Wd (ix3 (by omega)) cell3 fg_TankArena_125 13 rfl (by decide) rfl d_TankArena_fireGuns_16 ?_
        refine lv_if_eq (tgt := 48) hx hb d_TankArena_fireGuns_19 (by decide) (fun c_2 => ?_) (fun c_2 => ?_)
        · skip
          refine lv_iinc (v := nI (i + 1)) (lv' := [(1, .int (nI (i + 1))), (0, .ref (ad 0 0))]) hx hb d_TankArena_fireGuns_48 hl (k := 1) rfl (nI_1 i) (by decide) rfl (fun ls hl => ?_)
          refine lv_goto (tgt := 2) hx hb d_TankArena_fireGuns_51 (by decide) ?_
          exact ih (i + 1) gl hv0 (by omega) (by omega) (by rw [htg, L_fireGuns, if_neg c_1, if_pos c_2]) _ _ Wd _ (lv_sub hl [1, 0] rfl)
        · skip
          refine lv_aload_n hx hb d_TankArena_fireGuns_22 rfl (lv_at hl 0 rfl) ?_
          refine kx_get (k := 0) (i := 0) (v := .ref (ad 1 0)) X Wd ix0 rfl fg_TankArena_11 rfl d_TankArena_fireGuns_23 ?_
          refine lv_iload_n hx hb d_TankArena_fireGuns_26 rfl (lv_at hl 1 rfl) ?_
          refine kx_aald (k := 1) (i := 0) (j := i) (b := ad 3 i) (t0 := 1) X Wd ix1 cell1 rfl rfl (by omega) (by decide) rfl d_TankArena_fireGuns_27 ?_
          refine kc_Vi (As := []) [] X Wd (k_f_canFire l D cI cT cB ad tX tY gl i (by omega)) cV_TankArena_224 (kx_recv (k := 3) (i := i) X Wd (ix3 (by omega)) rfl rfl) rfl rfl hl.1 ⟨rfl, rfl⟩ ⟨Nat.le_of_ble_eq_true rfl, Nat.le_of_ble_eq_true rfl⟩ (Nat.le_of_ble_eq_true rfl) ⟨Nat.zero_le _, Nat.zero_le _⟩ d_TankArena_fireGuns_28 (fun r u H locs hp Wd => ?_)
          obtain ⟨hr, hu⟩ := hp
          rw [hu] at Wd
          rw [hr]
          clear hr hu
          refine lv_if_eq (tgt := 48) hx hb d_TankArena_fireGuns_31 (by decide) (fun c_3 => ?_) (fun c_3 => ?_)
          · skip
            refine lv_iinc (v := nI (i + 1)) (lv' := [(1, .int (nI (i + 1))), (0, .ref (ad 0 0))]) hx hb d_TankArena_fireGuns_48 hl (k := 1) rfl (nI_1 i) (by decide) rfl (fun ls hl => ?_)
            refine lv_goto (tgt := 2) hx hb d_TankArena_fireGuns_51 (by decide) ?_
            exact ih (i + 1) gl hv0 (by omega) (by omega) (by rw [htg, L_fireGuns, if_neg c_1, if_neg c_2, if_pos c_3]) _ _ Wd _ (lv_sub hl [1, 0] rfl)
          · skip
            refine lv_aload_n hx hb d_TankArena_fireGuns_34 rfl (lv_at hl 0 rfl) ?_
            refine kx_geti (k := 0) (i := 0) X Wd ix0 cell0 fg_TankArena_91 2 rfl (by decide) rfl d_TankArena_fireGuns_35 ?_
            refine lv_bipush (v := 16) hx hb d_TankArena_fireGuns_38 (by decide) ?_
            refine lv_icmp_ge (tgt := 48) hx hb d_TankArena_fireGuns_40 (by decide) (fun c_4 => ?_) (fun c_4 => ?_)
            · skip
              refine lv_iinc (v := nI (i + 1)) (lv' := [(1, .int (nI (i + 1))), (0, .ref (ad 0 0))]) hx hb d_TankArena_fireGuns_48 hl (k := 1) rfl (nI_1 i) (by decide) rfl (fun ls hl => ?_)
              refine lv_goto (tgt := 2) hx hb d_TankArena_fireGuns_51 (by decide) ?_
              exact ih (i + 1) gl hv0 (by omega) (by omega) (by rw [htg, L_fireGuns, if_neg c_1, if_neg c_2, if_neg c_3, if_pos c_4]) _ _ Wd _ (lv_sub hl [1, 0] rfl)
            · skip
              have hfl := rng_lt (m := 16) (hv0.1.1 0 0 2) (by decide) (by decide) c_4
              refine lv_aload_n hx hb d_TankArena_fireGuns_43 rfl (lv_at hl 0 rfl) ?_
              refine lv_iload_n hx hb d_TankArena_fireGuns_44 rfl (lv_at hl 1 rfl) ?_
              refine kc_Vv (As := [.int (nI i)]) [] X Wd (k_g_fire l D cI cT cB ad tX tY gl i (by omega) (nI i) rfl N hv0 hfl) cV_TankArena_227 (kx_recv (k := 0) (i := 0) X Wd ix0 rfl rfl) rfl rfl hl.1 ⟨rfl, rfl⟩ ⟨Nat.le_of_ble_eq_true rfl, Nat.le_of_ble_eq_true rfl⟩ (Nat.le_of_ble_eq_true rfl) ⟨Nat.zero_le _, Nat.zero_le _⟩ d_TankArena_fireGuns_45 (fun u H locs hp Wd => ?_)
              rw [hp] at Wd
              clear hp
              have Wd : WC D cI cT cB ad _ s.heap (g_fire gl i) H locs := Wd
              refine lv_iinc (v := nI (i + 1)) (lv' := [(1, .int (nI (i + 1))), (0, .ref (ad 0 0))]) hx hb d_TankArena_fireGuns_48 hl (k := 1) rfl (nI_1 i) (by decide) rfl (fun ls hl => ?_)
              refine lv_goto (tgt := 2) hx hb d_TankArena_fireGuns_51 (by decide) ?_
              exact ih (i + 1) (g_fire gl i) (by refine ok_g_fire ?_ i hfl hi; exact hv0) (by omega) (by omega) (by rw [htg, L_fireGuns, if_neg c_1, if_neg c_2, if_neg c_3, if_neg c_4]) _ _ Wd _ (lv_sub hl [1, 0] rfl)
  exact loop 5 0 g ok (by omega) (by omega) (by rw [g_fireGuns]) _ _ Wd _ (lv_sub hl [1, 0] rfl)
abbrev RM_f_struck : Room := { frames := 2, cells := 0, slots := 0, locals := 43 }
set_option maxHeartbeats 1000000 in
set_option maxRecDepth 100000 in
theorem k_f_struck (l : Launch) (D : va_G) (cI cT cB : ClassId) (ad : Nat → Nat → Nat) (tX tY : Nat) (g : SG) (k : Nat) (hk : k < 16) (N : Nat) (ok : OkN N g) : KI l y_TankArena_leastStruck b_TankArena_leastStruck 4 (some .int) RM_f_struck D cI cT cB ad tX tY [.ref (ad 0 0), .ref (ad 12 k)] g (fun (r : Int32) (u : SG) => r = f_struck g k ∧ u = g) := by
  refine met_of (cc := b_TankArena_leastStruck) (nL := 4) (ret := (some .int)) (by decide) rfl (Nat.le_of_ble_eq_true rfl) ?_
  intro p e s m below meth c X hnm Wd ls hl
  have X := X.tt
  have hx := X.1
  have hb := X.2.1
  have hown := X.2.2.2.1
  have hts := X.2.2.2.2.1
  have hl : lv_has ls 4 [(0, .ref (ad 0 0)), (1, .ref (ad 12 k))] := hl
  have Wd : WC D cI cT cB ad (va_A (gC cI cT cB ad g) s.heap.size) s.heap g s.heap [] := Wd
  obtain ⟨hN4, eN⟩ := ok.N
  refine lv_iconst (v := 0) hx hb d_TankArena_leastStruck_0 (by decide) ?_
  refine lv_istore_n (lv' := [(2, .int 0), (0, .ref (ad 0 0)), (1, .ref (ad 12 k))]) hx hb d_TankArena_leastStruck_1 rfl hl (by decide) rfl (fun ls hl => ?_)
  have loop : ∀ (n : Nat) (i : Nat), i ≤ N → N + 1 ≤ i + n → f_struck g k = L_struck g k n i → ∀ (H : Heap) (locs : List Loc), WC D cI cT cB ad (va_A (gC cI cT cB ad g) s.heap.size) s.heap g H locs → ∀ ls : Array Slot, lv_has ls 4 [(0, .ref (ad 0 0)), (1, .ref (ad 12 k)), (2, .int (nI i))] → W p l e RM_f_struck s m [.ref (ad 0 0), .ref (ad 12 k)].toArray below meth c H locs 0 0 (QI D cI cT cB ad below [.ref (ad 0 0), .ref (ad 12 k)] s g (fun (r : Int32) (u : SG) => r = f_struck g k ∧ u = g)) (F0 m 2 ls []) := by
    intro n
    induction n with
    | zero =>
      intro i hv0 hv1
      exfalso
      omega
    | succ n ih =>
      intro i hv0 hv1 htg H locs Wd ls hl
      refine lv_iload_n hx hb d_TankArena_leastStruck_2 rfl (lv_at hl 2 rfl) ?_
      refine lv_aload_n hx hb d_TankArena_leastStruck_3 rfl (lv_at hl 0 rfl) ?_
      refine kx_geti (k := 0) (i := 0) X Wd ix0 cell0 fg_TankArena_27 0 rfl (by decide) rfl d_TankArena_leastStruck_4 ?_
      refine lv_icmp_ge (tgt := 70) hx hb d_TankArena_leastStruck_7 (by decide) (fun c_1 => ?_) (fun c_1 => ?_)
      · skip
        refine lv_iconst (v := 4) hx hb d_TankArena_leastStruck_70 (by decide) ?_
        exact kx_iret (u := g) X rfl Wd ⟨by rw [htg, L_struck, if_pos c_1], rfl⟩ d_TankArena_leastStruck_71
      · skip
        have hiN : i < N := nlt_of eN (by omega) (by omega) c_1
        have hi : i < 4 := by omega
        refine lv_aload_n hx hb d_TankArena_leastStruck_10 rfl (lv_at hl 0 rfl) ?_
        refine kx_get (k := 0) (i := 0) (v := .ref (ad 1 0)) X Wd ix0 rfl fg_TankArena_11 rfl d_TankArena_leastStruck_11 ?_
        refine lv_iload_n hx hb d_TankArena_leastStruck_14 rfl (lv_at hl 2 rfl) ?_
        refine kx_aald (k := 1) (i := 0) (j := i) (b := ad 3 i) (t0 := 1) X Wd ix1 cell1 rfl rfl (by omega) (by decide) rfl d_TankArena_leastStruck_15 ?_
        refine lv_aload_n hx hb d_TankArena_leastStruck_16 rfl (lv_at hl 1 rfl) ?_
        refine kx_geti (k := 12) (i := k) X Wd (ix12 hk) cell12 fg_TankArena_260 0 rfl (by decide) rfl d_TankArena_leastStruck_17 ?_
        refine lv_aload_n hx hb d_TankArena_leastStruck_20 rfl (lv_at hl 1 rfl) ?_
        refine kx_geti (k := 12) (i := k) X Wd (ix12 hk) cell12 fg_TankArena_261 1 rfl (by decide) rfl d_TankArena_leastStruck_21 ?_
        refine kc_Vi (As := [.int (g 12 k 0), .int (g 12 k 1)]) [] X Wd (k_f_dist l D cI cT cB ad tX tY g i (by omega) (g 12 k 0) (g 12 k 1)) cV_TankArena_262 (kx_recv (k := 3) (i := i) X Wd (ix3 (by omega)) rfl rfl) rfl rfl hl.1 ⟨rfl, rfl⟩ ⟨Nat.le_of_ble_eq_true rfl, Nat.le_of_ble_eq_true rfl⟩ (Nat.le_of_ble_eq_true rfl) ⟨Nat.zero_le _, Nat.zero_le _⟩ d_TankArena_leastStruck_24 (fun r u H locs hp Wd => ?_)
        obtain ⟨hr, hu⟩ := hp
        rw [hu] at Wd
        rw [hr]
        clear hr hu
        refine lv_bipush (v := 16) hx hb d_TankArena_leastStruck_27 (by decide) ?_
        refine lv_icmp_gt (tgt := 36) hx hb d_TankArena_leastStruck_29 (by decide) (fun c_2 => ?_) (fun c_2 => ?_)
        · skip
          refine lv_iconst (v := 0) hx hb d_TankArena_leastStruck_36 (by decide) ?_
          refine lv_istore_n (lv' := [(3, .int 0), (0, .ref (ad 0 0)), (1, .ref (ad 12 k)), (2, .int (nI i))]) hx hb d_TankArena_leastStruck_37 rfl hl (by decide) rfl (fun ls hl => ?_)
          refine lv_iload_n hx hb d_TankArena_leastStruck_38 rfl (lv_at hl 0 rfl) ?_
          refine lv_if_eq (tgt := 64) hx hb d_TankArena_leastStruck_39 (by decide) (fun c_3 => ?_) (fun c_3 => ?_)
          · skip
            refine lv_iinc (v := nI (i + 1)) (lv' := [(2, .int (nI (i + 1))), (3, .int 0), (0, .ref (ad 0 0)), (1, .ref (ad 12 k))]) hx hb d_TankArena_leastStruck_64 hl (k := 3) rfl (nI_1 i) (by decide) rfl (fun ls hl => ?_)
            refine lv_goto (tgt := 2) hx hb d_TankArena_leastStruck_67 (by decide) ?_
            exact ih (i + 1) (by omega) (by omega) (by rw [htg, L_struck, if_neg c_1, if_pos c_2]) _ _ Wd _ (lv_sub hl [2, 3, 0] rfl)
          · skip
            exact absurd c_3 (by decide)
        · skip
          refine lv_iconst (v := 1) hx hb d_TankArena_leastStruck_32 (by decide) ?_
          refine lv_goto (tgt := 37) hx hb d_TankArena_leastStruck_33 (by decide) ?_
          refine lv_istore_n (lv' := [(3, .int 1), (0, .ref (ad 0 0)), (1, .ref (ad 12 k)), (2, .int (nI i))]) hx hb d_TankArena_leastStruck_37 rfl hl (by decide) rfl (fun ls hl => ?_)
          refine lv_iload_n hx hb d_TankArena_leastStruck_38 rfl (lv_at hl 0 rfl) ?_
          refine lv_if_eq (tgt := 64) hx hb d_TankArena_leastStruck_39 (by decide) (fun c_4 => ?_) (fun c_4 => ?_)
          · skip
            exact absurd c_4 (by decide)
          · skip
            refine lv_iload_n hx hb d_TankArena_leastStruck_42 rfl (lv_at hl 3 rfl) ?_
            refine lv_aload_n hx hb d_TankArena_leastStruck_43 rfl (lv_at hl 2 rfl) ?_
            refine kx_geti (k := 12) (i := k) X Wd (ix12 hk) cell12 fg_TankArena_265 4 rfl (by decide) rfl d_TankArena_leastStruck_44 ?_
            refine lv_icmp_eq (tgt := 64) hx hb d_TankArena_leastStruck_47 (by decide) (fun c_5 => ?_) (fun c_5 => ?_)
            · skip
              refine lv_iinc (v := nI (i + 1)) (lv' := [(2, .int (nI (i + 1))), (3, .int 1), (0, .ref (ad 0 0)), (1, .ref (ad 12 k))]) hx hb d_TankArena_leastStruck_64 hl (k := 3) rfl (nI_1 i) (by decide) rfl (fun ls hl => ?_)
              refine lv_goto (tgt := 2) hx hb d_TankArena_leastStruck_67 (by decide) ?_
              exact ih (i + 1) (by omega) (by omega) (by rw [htg, L_struck, if_neg c_1, if_neg c_2, if_pos c_5]) _ _ Wd _ (lv_sub hl [2, 3, 0] rfl)
            · skip
              refine lv_aload_n hx hb d_TankArena_leastStruck_50 rfl (lv_at hl 1 rfl) ?_
              refine kx_get (k := 0) (i := 0) (v := .ref (ad 1 0)) X Wd ix0 rfl fg_TankArena_11 rfl d_TankArena_leastStruck_51 ?_
              refine lv_iload_n hx hb d_TankArena_leastStruck_54 rfl (lv_at hl 3 rfl) ?_
              refine kx_aald (k := 1) (i := 0) (j := i) (b := ad 3 i) (t0 := 1) X Wd ix1 cell1 rfl rfl (by omega) (by decide) rfl d_TankArena_leastStruck_55 ?_
              refine kx_geti (k := 3) (i := i) X Wd (ix3 (by omega)) cell3 fg_TankArena_125 13 rfl (by decide) rfl d_TankArena_leastStruck_56 ?_
              refine lv_if_eq (tgt := 64) hx hb d_TankArena_leastStruck_59 (by decide) (fun c_6 => ?_) (fun c_6 => ?_)
              · skip
                refine lv_iinc (v := nI (i + 1)) (lv' := [(2, .int (nI (i + 1))), (3, .int 1), (0, .ref (ad 0 0)), (1, .ref (ad 12 k))]) hx hb d_TankArena_leastStruck_64 hl (k := 3) rfl (nI_1 i) (by decide) rfl (fun ls hl => ?_)
                refine lv_goto (tgt := 2) hx hb d_TankArena_leastStruck_67 (by decide) ?_
                exact ih (i + 1) (by omega) (by omega) (by rw [htg, L_struck, if_neg c_1, if_neg c_2, if_neg c_5, if_pos c_6]) _ _ Wd _ (lv_sub hl [2, 3, 0] rfl)
              · skip
                refine lv_iload_n hx hb d_TankArena_leastStruck_62 rfl (lv_at hl 3 rfl) ?_
                exact kx_iret (u := g) X rfl Wd ⟨by rw [htg, L_struck, if_neg c_1, if_neg c_2, if_neg c_5, if_neg c_6], rfl⟩ d_TankArena_leastStruck_63
  exact loop 5 0 (by omega) (by omega) (by rw [f_struck]) _ _ Wd _ (lv_sub hl [1, 2, 0] rfl)
abbrev RM_g_die : Room := { frames := 0, cells := 0, slots := 0, locals := 0 }
set_option maxHeartbeats 1000000 in
set_option maxRecDepth 100000 in
theorem k_g_die (l : Launch) (D : va_G) (cI cT cB : ClassId) (ad : Nat → Nat → Nat) (tX tY : Nat) (g : SG) (j : Nat) (hj : j < 4) (vj : Int32) (ej : vj = nI j) (N : Nat) (ok : OkN N g) : KV l y_TankArena_dieIfSpent b_TankArena_dieIfSpent 3 none RM_g_die D cI cT cB ad tX tY [.ref (ad 0 0), .int vj] g (fun (u : SG) => u = g_die g j) := by
  subst ej
  refine met_of (cc := b_TankArena_dieIfSpent) (nL := 3) (ret := none) (by decide) rfl (Nat.le_of_ble_eq_true rfl) ?_
  intro p e s m below meth c X hnm Wd ls hl
  have X := X.tt
  have hx := X.1
  have hb := X.2.1
  have hown := X.2.2.2.1
  have hts := X.2.2.2.2.1
  have hl : lv_has ls 3 [(0, .ref (ad 0 0)), (1, .int (nI j))] := hl
  have Wd : WC D cI cT cB ad (va_A (gC cI cT cB ad g) s.heap.size) s.heap g s.heap [] := Wd
  obtain ⟨hN4, eN⟩ := ok.N
  refine lv_aload_n hx hb d_TankArena_dieIfSpent_0 rfl (lv_at hl 0 rfl) ?_
  refine kx_get (k := 0) (i := 0) (v := .ref (ad 1 0)) X Wd ix0 rfl fg_TankArena_11 rfl d_TankArena_dieIfSpent_1 ?_
  refine lv_iload_n hx hb d_TankArena_dieIfSpent_4 rfl (lv_at hl 1 rfl) ?_
  refine kx_aald (k := 1) (i := 0) (j := j) (b := ad 3 j) (t0 := 1) X Wd ix1 cell1 rfl rfl hj (by decide) rfl d_TankArena_dieIfSpent_5 ?_
  refine kx_geti (k := 3) (i := j) X Wd (ix3 hj) cell3 fg_TankArena_231 10 rfl (by decide) rfl d_TankArena_dieIfSpent_6 ?_
  refine lv_if_le (tgt := 13) hx hb d_TankArena_dieIfSpent_9 (by decide) (fun c_1 => ?_) (fun c_1 => ?_)
  · skip
    refine lv_aload_n hx hb d_TankArena_dieIfSpent_13 rfl (lv_at hl 0 rfl) ?_
    refine kx_get (k := 0) (i := 0) (v := .ref (ad 1 0)) X Wd ix0 rfl fg_TankArena_11 rfl d_TankArena_dieIfSpent_14 ?_
    refine lv_iload_n hx hb d_TankArena_dieIfSpent_17 rfl (lv_at hl 1 rfl) ?_
    refine kx_aald (k := 1) (i := 0) (j := j) (b := ad 3 j) (t0 := 1) X Wd ix1 cell1 rfl rfl hj (by decide) rfl d_TankArena_dieIfSpent_18 ?_
    refine lv_iconst (v := 0) hx hb d_TankArena_dieIfSpent_19 (by decide) ?_
    refine kx_puti (k := 3) (i := j) (v := 0) X Wd (ix3 hj) cell3 fp_TankArena_125 13 rfl (by decide) rfl rfl rfl d_TankArena_dieIfSpent_20 (fun H locs Wd => ?_)
    refine lv_iconst (v := 0) hx hb d_TankArena_dieIfSpent_23 (by decide) ?_
    refine lv_istore_n (lv' := [(2, .int 0), (0, .ref (ad 0 0)), (1, .int (nI j))]) hx hb d_TankArena_dieIfSpent_24 rfl hl (by decide) rfl (fun ls hl => ?_)
    have loop : ∀ (n : Nat) (i : Nat) (gl : SG), OkN N gl → i ≤ N → N + 1 ≤ i + n → g_die g j = L_die n i gl → ∀ (H : Heap) (locs : List Loc), WC D cI cT cB ad (va_A (gC cI cT cB ad g) s.heap.size) s.heap gl H locs → ∀ ls : Array Slot, lv_has ls 3 [(0, .ref (ad 0 0)), (2, .int (nI i))] → W p l e RM_g_die s m [.ref (ad 0 0), .int (nI j)].toArray below meth c H locs 0 0 (QV D cI cT cB ad below [.ref (ad 0 0), .int (nI j)] s g (fun (u : SG) => u = g_die g j)) (F0 m 25 ls []) := by
      intro n
      induction n with
      | zero =>
        intro i gl hv0 hv1 hv2
        exfalso
        omega
      | succ n ih =>
        intro i gl hv0 hv1 hv2 htg H locs Wd ls hl
        obtain ⟨hN4, eN⟩ := hv0.N
        refine lv_iload_n hx hb d_TankArena_dieIfSpent_25 rfl (lv_at hl 1 rfl) ?_
        refine lv_aload_n hx hb d_TankArena_dieIfSpent_26 rfl (lv_at hl 0 rfl) ?_
        refine kx_geti (k := 0) (i := 0) X Wd ix0 cell0 fg_TankArena_27 0 rfl (by decide) rfl d_TankArena_dieIfSpent_27 ?_
        refine lv_icmp_ge (tgt := 68) hx hb d_TankArena_dieIfSpent_30 (by decide) (fun c_2 => ?_) (fun c_2 => ?_)
        · skip
          exact kx_vret (u := gl) X Wd (by rw [htg, L_die, if_pos c_2]) d_TankArena_dieIfSpent_68
        · skip
          have hiN : i < N := nlt_of eN (by omega) (by omega) c_2
          have hi : i < 4 := by omega
          refine lv_aload_n hx hb d_TankArena_dieIfSpent_33 rfl (lv_at hl 0 rfl) ?_
          refine kx_get (k := 0) (i := 0) (v := .ref (ad 1 0)) X Wd ix0 rfl fg_TankArena_11 rfl d_TankArena_dieIfSpent_34 ?_
          refine lv_iload_n hx hb d_TankArena_dieIfSpent_37 rfl (lv_at hl 1 rfl) ?_
          refine kx_aald (k := 1) (i := 0) (j := i) (b := ad 3 i) (t0 := 1) X Wd ix1 cell1 rfl rfl (by omega) (by decide) rfl d_TankArena_dieIfSpent_38 ?_
          refine kx_geti (k := 3) (i := i) X Wd (ix3 (by omega)) cell3 fg_TankArena_125 13 rfl (by decide) rfl d_TankArena_dieIfSpent_39 ?_
          refine lv_if_eq (tgt := 62) hx hb d_TankArena_dieIfSpent_42 (by decide) (fun c_3 => ?_) (fun c_3 => ?_)
          · skip
            refine lv_iinc (v := nI (i + 1)) (lv' := [(2, .int (nI (i + 1))), (0, .ref (ad 0 0))]) hx hb d_TankArena_dieIfSpent_62 hl (k := 1) rfl (nI_1 i) (by decide) rfl (fun ls hl => ?_)
            refine lv_goto (tgt := 25) hx hb d_TankArena_dieIfSpent_65 (by decide) ?_
            exact ih (i + 1) gl hv0 (by omega) (by omega) (by rw [htg, L_die, if_neg c_2, if_pos c_3]) _ _ Wd _ (lv_sub hl [1, 0] rfl)
          · skip
            refine lv_aload_n hx hb d_TankArena_dieIfSpent_45 rfl (lv_at hl 0 rfl) ?_
            refine kx_get (k := 0) (i := 0) (v := .ref (ad 1 0)) X Wd ix0 rfl fg_TankArena_11 rfl d_TankArena_dieIfSpent_46 ?_
            refine lv_iload_n hx hb d_TankArena_dieIfSpent_49 rfl (lv_at hl 1 rfl) ?_
            refine kx_aald (k := 1) (i := 0) (j := i) (b := ad 3 i) (t0 := 1) X Wd ix1 cell1 rfl rfl (by omega) (by decide) rfl d_TankArena_dieIfSpent_50 ?_
            refine lv_dup hx hb d_TankArena_dieIfSpent_51 rfl ?_
            refine kx_geti (k := 3) (i := i) X Wd (ix3 (by omega)) cell3 fg_TankArena_271 12 rfl (by decide) rfl d_TankArena_dieIfSpent_52 ?_
            refine lv_sipush (v := 400) hx hb d_TankArena_dieIfSpent_55 (by decide) ?_
            refine lv_iadd hx hb d_TankArena_dieIfSpent_58 ?_
            refine kx_puti (k := 3) (i := i) (v := (gl 3 i 12) + 400) X Wd (ix3 (by omega)) cell3 fp_TankArena_271 12 rfl (by decide) rfl rfl rfl d_TankArena_dieIfSpent_59 (fun H locs Wd => ?_)
            refine lv_iinc (v := nI (i + 1)) (lv' := [(2, .int (nI (i + 1))), (0, .ref (ad 0 0))]) hx hb d_TankArena_dieIfSpent_62 hl (k := 1) rfl (nI_1 i) (by decide) rfl (fun ls hl => ?_)
            refine lv_goto (tgt := 25) hx hb d_TankArena_dieIfSpent_65 (by decide) ?_
            exact ih (i + 1) (up3 gl 3 i 12 ((gl 3 i 12) + 400)) (by refine okU ?_ rfl trivial; exact hv0) (by omega) (by omega) (by rw [htg, L_die, if_neg c_2, if_neg c_3]) _ _ Wd _ (lv_sub hl [1, 0] rfl)
    exact loop 5 0 (up3 g 3 j 13 0) (by refine okU ?_ rfl (Or.inl rfl); exact ok) (by omega) (by omega) (by rw [g_die, if_pos c_1]) _ _ Wd _ (lv_sub hl [1, 0] rfl)
  · skip
    exact kx_vret (u := g) X Wd (by rw [g_die, if_neg c_1]) d_TankArena_dieIfSpent_12
abbrev RM_g_strike : Room := { frames := 1, cells := 0, slots := 0, locals := 22 }
set_option maxHeartbeats 1000000 in
set_option maxRecDepth 100000 in
theorem k_g_strike (l : Launch) (D : va_G) (cI cT cB : ClassId) (ad : Nat → Nat → Nat) (tX tY : Nat) (g : SG) (k : Nat) (hk : k < 16) (j : Nat) (hj : j < 4) (vj : Int32) (ej : vj = nI j) (N : Nat) (ok : OkN N g) : KV l y_TankArena_strike b_TankArena_strike 6 none RM_g_strike D cI cT cB ad tX tY [.ref (ad 0 0), .ref (ad 12 k), .int vj] g (fun (u : SG) => u = g_strike g k j) := by
  subst ej
  refine met_of (cc := b_TankArena_strike) (nL := 6) (ret := none) (by decide) rfl (Nat.le_of_ble_eq_true rfl) ?_
  intro p e s m below meth c X hnm Wd ls hl
  have X := X.tt
  have hx := X.1
  have hb := X.2.1
  have hown := X.2.2.2.1
  have hts := X.2.2.2.2.1
  have hl : lv_has ls 6 [(0, .ref (ad 0 0)), (1, .ref (ad 12 k)), (2, .int (nI j))] := hl
  have Wd : WC D cI cT cB ad (va_A (gC cI cT cB ad g) s.heap.size) s.heap g s.heap [] := Wd
  obtain ⟨es, hs⟩ := rng_j (ok.1.1 12 k 4) (by decide)
  refine lv_aload_n hx hb d_TankArena_strike_0 rfl (lv_at hl 0 rfl) ?_
  refine kx_get (k := 0) (i := 0) (v := .ref (ad 1 0)) X Wd ix0 rfl fg_TankArena_11 rfl d_TankArena_strike_1 ?_
  refine lv_iload_n hx hb d_TankArena_strike_4 rfl (lv_at hl 2 rfl) ?_
  refine kx_aald (k := 1) (i := 0) (j := j) (b := ad 3 j) (t0 := 1) X Wd ix1 cell1 rfl rfl hj (by decide) rfl d_TankArena_strike_5 ?_
  refine lv_astore_n (lv' := [(3, .ref (ad 3 j)), (0, .ref (ad 0 0)), (1, .ref (ad 12 k)), (2, .int (nI j))]) hx hb d_TankArena_strike_6 rfl hl (by decide) rfl (fun ls hl => ?_)
  refine lv_aload_n hx hb d_TankArena_strike_7 rfl (lv_at hl 1 rfl) ?_
  refine kx_get (k := 0) (i := 0) (v := .ref (ad 1 0)) X Wd ix0 rfl fg_TankArena_11 rfl d_TankArena_strike_8 ?_
  refine lv_aload_n hx hb d_TankArena_strike_11 rfl (lv_at hl 2 rfl) ?_
  refine kx_geti (k := 12) (i := k) X Wd (ix12 hk) cell12 fg_TankArena_265 4 rfl (by decide) rfl d_TankArena_strike_12 ?_
  refine kx_aald (k := 1) (i := 0) (j := (g 12 k 4).toNatClampNeg) (b := ad 3 ((g 12 k 4).toNatClampNeg)) (t0 := 1) X Wd ix1 cell1 rfl es hs (by decide) rfl d_TankArena_strike_15 ?_
  refine lv_astore (lv' := [(4, .ref (ad 3 ((g 12 k 4).toNatClampNeg))), (3, .ref (ad 3 j)), (0, .ref (ad 0 0)), (1, .ref (ad 12 k)), (2, .int (nI j))]) hx hb d_TankArena_strike_16 hl (by decide) rfl (fun ls hl => ?_)
  refine lv_aload_n hx hb d_TankArena_strike_18 rfl (lv_at hl 3 rfl) ?_
  refine kc_Vi (As := []) [] X Wd (k_f_damage l D cI cT cB ad tX tY g k hk) cV_TankArena_268 (kx_recv (k := 12) (i := k) X Wd (ix12 hk) rfl rfl) rfl rfl hl.1 ⟨rfl, rfl⟩ ⟨Nat.le_of_ble_eq_true rfl, Nat.le_of_ble_eq_true rfl⟩ (Nat.le_of_ble_eq_true rfl) ⟨Nat.zero_le _, Nat.zero_le _⟩ d_TankArena_strike_19 (fun r u H locs hp Wd => ?_)
  obtain ⟨hr, hu⟩ := hp
  rw [hu] at Wd
  rw [hr]
  clear hr hu
  refine lv_istore (lv' := [(5, .int (f_damage g k)), (4, .ref (ad 3 ((g 12 k 4).toNatClampNeg))), (3, .ref (ad 3 j)), (0, .ref (ad 0 0)), (1, .ref (ad 12 k)), (2, .int (nI j))]) hx hb d_TankArena_strike_22 hl (by decide) rfl (fun ls hl => ?_)
  refine lv_aload_n hx hb d_TankArena_strike_24 rfl (lv_at hl 2 rfl) ?_
  refine lv_dup hx hb d_TankArena_strike_25 rfl ?_
  refine kx_geti (k := 3) (i := j) X Wd (ix3 hj) cell3 fg_TankArena_231 10 rfl (by decide) rfl d_TankArena_strike_26 ?_
  refine lv_iload hx hb d_TankArena_strike_29 (lv_at hl 0 rfl) ?_
  refine lv_isub hx hb d_TankArena_strike_31 ?_
  refine kx_puti (k := 3) (i := j) (v := (g 3 j 10) - (f_damage g k)) X Wd (ix3 hj) cell3 fp_TankArena_231 10 rfl (by decide) rfl rfl rfl d_TankArena_strike_32 (fun H locs Wd => ?_)
  refine lv_aload_n hx hb d_TankArena_strike_35 rfl (lv_at hl 2 rfl) ?_
  refine kx_get (k := 3) (i := j) (v := .ref (ad 11 j)) X Wd (ix3 hj) rfl fg_TankArena_197 rfl d_TankArena_strike_36 ?_
  refine lv_iconst (v := 1) hx hb d_TankArena_strike_39 (by decide) ?_
  refine kx_puti (k := 11) (i := j) (v := 1) X Wd (ix11 hj) cell11 fp_TankArena_209 1 rfl (by decide) rfl rfl rfl d_TankArena_strike_40 (fun H locs Wd => ?_)
  refine lv_aload hx hb d_TankArena_strike_43 (lv_at hl 1 rfl) ?_
  refine lv_dup hx hb d_TankArena_strike_45 rfl ?_
  refine kx_geti2 (k := 3) (i := (g 12 k 4).toNatClampNeg) (g 3 ((g 12 k 4).toNatClampNeg) 12) X Wd (ix3 hs) cell3 fg_TankArena_271 12 rfl (by decide) rfl (by simp [up3]) d_TankArena_strike_46 ?_
  refine lv_iload hx hb d_TankArena_strike_49 (lv_at hl 0 rfl) ?_
  refine lv_iadd hx hb d_TankArena_strike_51 ?_
  refine kx_puti (k := 3) (i := (g 12 k 4).toNatClampNeg) (v := (g 3 ((g 12 k 4).toNatClampNeg) 12) + (f_damage g k)) X Wd (ix3 hs) cell3 fp_TankArena_271 12 rfl (by decide) rfl rfl rfl d_TankArena_strike_52 (fun H locs Wd => ?_)
  refine lv_aload_n hx hb d_TankArena_strike_55 rfl (lv_at hl 3 rfl) ?_
  refine lv_dup hx hb d_TankArena_strike_56 rfl ?_
  refine kx_geti2 (k := 0) (i := 0) (g 0 0 4) X Wd ix0 cell0 fg_TankArena_97 4 rfl (by decide) rfl (by simp [up3]) d_TankArena_strike_57 ?_
  refine lv_iconst (v := 1) hx hb d_TankArena_strike_60 (by decide) ?_
  refine lv_iadd hx hb d_TankArena_strike_61 ?_
  refine kx_puti (k := 0) (i := 0) (v := (g 0 0 4) + 1) X Wd ix0 cell0 fp_TankArena_97 4 rfl (by decide) rfl rfl rfl d_TankArena_strike_62 (fun H locs Wd => ?_)
  refine lv_aload hx hb d_TankArena_strike_65 (lv_at hl 1 rfl) ?_
  refine kx_geti2 (k := 3) (i := (g 12 k 4).toNatClampNeg) (g 3 ((g 12 k 4).toNatClampNeg) 13) X Wd (ix3 hs) cell3 fg_TankArena_125 13 rfl (by decide) rfl (by simp [up3]) d_TankArena_strike_67 ?_
  refine lv_if_eq (tgt := 92) hx hb d_TankArena_strike_70 (by decide) (fun c_1 => ?_) (fun c_1 => ?_)
  · skip
    refine lv_aload_n hx hb d_TankArena_strike_92 rfl (lv_at hl 3 rfl) ?_
    refine lv_iload_n hx hb d_TankArena_strike_93 rfl (lv_at hl 5 rfl) ?_
    refine kc_Vv (As := [.int (nI j)]) [] X Wd (k_g_die l D cI cT cB ad tX tY (up3 (up3 (up3 (up3 g 3 j 10 ((g 3 j 10) - (f_damage g k))) 11 j 1 1) 3 ((g 12 k 4).toNatClampNeg) 12 ((g 3 ((g 12 k 4).toNatClampNeg) 12) + (f_damage g k))) 0 0 4 ((g 0 0 4) + 1)) j hj (nI j) rfl N (by refine okU ?_ rfl trivial; refine okU ?_ rfl trivial; refine okU ?_ rfl (Or.inr rfl); refine okU ?_ rfl trivial; exact ok)) cV_TankArena_274 (kx_recv (k := 0) (i := 0) X Wd ix0 rfl rfl) rfl rfl hl.1 ⟨rfl, rfl⟩ ⟨Nat.le_of_ble_eq_true rfl, Nat.le_of_ble_eq_true rfl⟩ (Nat.le_of_ble_eq_true rfl) ⟨Nat.zero_le _, Nat.zero_le _⟩ d_TankArena_strike_94 (fun u H locs hp Wd => ?_)
    rw [hp] at Wd
    clear hp
    have Wd : WC D cI cT cB ad _ s.heap (g_die (up3 (up3 (up3 (up3 g 3 j 10 ((g 3 j 10) - (f_damage g k))) 11 j 1 1) 3 ((g 12 k 4).toNatClampNeg) 12 ((g 3 ((g 12 k 4).toNatClampNeg) 12) + (f_damage g k))) 0 0 4 ((g 0 0 4) + 1)) j) H locs := Wd
    exact kx_vret (u := g_die (up3 (up3 (up3 (up3 g 3 j 10 ((g 3 j 10) - (f_damage g k))) 11 j 1 1) 3 ((g 12 k 4).toNatClampNeg) 12 ((g 3 ((g 12 k 4).toNatClampNeg) 12) + (f_damage g k))) 0 0 4 ((g 0 0 4) + 1)) j) X Wd (by rw [g_strike, if_pos c_1]) d_TankArena_strike_97
  · skip
    refine lv_aload hx hb d_TankArena_strike_73 (lv_at hl 1 rfl) ?_
    refine lv_dup hx hb d_TankArena_strike_75 rfl ?_
    refine kx_geti2 (k := 3) (i := (g 12 k 4).toNatClampNeg) ((up3 g 3 j 10 ((g 3 j 10) - (f_damage g k))) 3 ((g 12 k 4).toNatClampNeg) 10) X Wd (ix3 hs) cell3 fg_TankArena_231 10 rfl (by decide) rfl (by simp [up3]) d_TankArena_strike_76 ?_
    refine lv_iconst (v := 3) hx hb d_TankArena_strike_79 (by decide) ?_
    refine lv_aload_n hx hb d_TankArena_strike_80 rfl (lv_at hl 4 rfl) ?_
    refine kx_geti2 (k := 12) (i := k) (g 12 k 2) X Wd (ix12 hk) cell12 fg_TankArena_245 2 rfl (by decide) rfl (by simp [up3]) d_TankArena_strike_81 ?_
    refine lv_imul hx hb d_TankArena_strike_84 ?_
    refine lv_bipush (v := 8) hx hb d_TankArena_strike_85 (by decide) ?_
    refine lv_imul hx hb d_TankArena_strike_87 ?_
    refine lv_iadd hx hb d_TankArena_strike_88 ?_
    refine kx_puti (k := 3) (i := (g 12 k 4).toNatClampNeg) (v := ((up3 g 3 j 10 ((g 3 j 10) - (f_damage g k))) 3 ((g 12 k 4).toNatClampNeg) 10) + ((3 * (g 12 k 2)) * 8)) X Wd (ix3 hs) cell3 fp_TankArena_231 10 rfl (by decide) rfl rfl rfl d_TankArena_strike_89 (fun H locs Wd => ?_)
    refine lv_aload_n hx hb d_TankArena_strike_92 rfl (lv_at hl 3 rfl) ?_
    refine lv_iload_n hx hb d_TankArena_strike_93 rfl (lv_at hl 5 rfl) ?_
    refine kc_Vv (As := [.int (nI j)]) [] X Wd (k_g_die l D cI cT cB ad tX tY (up3 (up3 (up3 (up3 (up3 g 3 j 10 ((g 3 j 10) - (f_damage g k))) 11 j 1 1) 3 ((g 12 k 4).toNatClampNeg) 12 ((g 3 ((g 12 k 4).toNatClampNeg) 12) + (f_damage g k))) 0 0 4 ((g 0 0 4) + 1)) 3 ((g 12 k 4).toNatClampNeg) 10 (((up3 g 3 j 10 ((g 3 j 10) - (f_damage g k))) 3 ((g 12 k 4).toNatClampNeg) 10) + ((3 * (g 12 k 2)) * 8))) j hj (nI j) rfl N (by refine okU ?_ rfl trivial; refine okU ?_ rfl trivial; refine okU ?_ rfl trivial; refine okU ?_ rfl (Or.inr rfl); refine okU ?_ rfl trivial; exact ok)) cV_TankArena_274 (kx_recv (k := 0) (i := 0) X Wd ix0 rfl rfl) rfl rfl hl.1 ⟨rfl, rfl⟩ ⟨Nat.le_of_ble_eq_true rfl, Nat.le_of_ble_eq_true rfl⟩ (Nat.le_of_ble_eq_true rfl) ⟨Nat.zero_le _, Nat.zero_le _⟩ d_TankArena_strike_94 (fun u H locs hp Wd => ?_)
    rw [hp] at Wd
    clear hp
    have Wd : WC D cI cT cB ad _ s.heap (g_die (up3 (up3 (up3 (up3 (up3 g 3 j 10 ((g 3 j 10) - (f_damage g k))) 11 j 1 1) 3 ((g 12 k 4).toNatClampNeg) 12 ((g 3 ((g 12 k 4).toNatClampNeg) 12) + (f_damage g k))) 0 0 4 ((g 0 0 4) + 1)) 3 ((g 12 k 4).toNatClampNeg) 10 (((up3 g 3 j 10 ((g 3 j 10) - (f_damage g k))) 3 ((g 12 k 4).toNatClampNeg) 10) + ((3 * (g 12 k 2)) * 8))) j) H locs := Wd
    exact kx_vret (u := g_die (up3 (up3 (up3 (up3 (up3 g 3 j 10 ((g 3 j 10) - (f_damage g k))) 11 j 1 1) 3 ((g 12 k 4).toNatClampNeg) 12 ((g 3 ((g 12 k 4).toNatClampNeg) 12) + (f_damage g k))) 0 0 4 ((g 0 0 4) + 1)) 3 ((g 12 k 4).toNatClampNeg) 10 (((up3 g 3 j 10 ((g 3 j 10) - (f_damage g k))) 3 ((g 12 k 4).toNatClampNeg) 10) + ((3 * (g 12 k 2)) * 8))) j) X Wd (by rw [g_strike, if_neg c_1]) d_TankArena_strike_97
abbrev RM_x_stays : Room := { frames := 3, cells := 0, slots := 0, locals := 66 }
set_option maxHeartbeats 1000000 in
set_option maxRecDepth 100000 in
theorem k_x_stays (l : Launch) (D : va_G) (cI cT cB : ClassId) (ad : Nat → Nat → Nat) (tX tY : Nat) (g : SG) (k : Nat) (hk : k < 16) (N : Nat) (ok : OkN N g) : KI l y_TankArena_staysThere b_TankArena_staysThere 4 (some .boolean) RM_x_stays D cI cT cB ad tX tY [.ref (ad 0 0), .ref (ad 12 k)] g (fun (r : Int32) (u : SG) => r = (x_stays g k).1 ∧ u = (x_stays g k).2) := by
  refine met_of (cc := b_TankArena_staysThere) (nL := 4) (ret := (some .boolean)) (by decide) rfl (Nat.le_of_ble_eq_true rfl) ?_
  intro p e s m below meth c X hnm Wd ls hl
  have X := X.tt
  have hx := X.1
  have hb := X.2.1
  have hown := X.2.2.2.1
  have hts := X.2.2.2.2.1
  have hl : lv_has ls 4 [(0, .ref (ad 0 0)), (1, .ref (ad 12 k))] := hl
  have Wd : WC D cI cT cB ad (va_A (gC cI cT cB ad g) s.heap.size) s.heap g s.heap [] := Wd
  refine lv_iconst (v := 0) hx hb d_TankArena_staysThere_0 (by decide) ?_
  refine lv_istore_n (lv' := [(2, .int 0), (0, .ref (ad 0 0)), (1, .ref (ad 12 k))]) hx hb d_TankArena_staysThere_1 rfl hl (by decide) rfl (fun ls hl => ?_)
  have loop : ∀ (n : Nat) (gn : Nat) (gl : SG), OkN N gl → gn ≤ 8 → 9 ≤ gn + n → x_stays g k = L_stays k n gn gl → ∀ (H : Heap) (locs : List Loc), WC D cI cT cB ad (va_A (gC cI cT cB ad g) s.heap.size) s.heap gl H locs → ∀ ls : Array Slot, lv_has ls 4 [(0, .ref (ad 0 0)), (1, .ref (ad 12 k)), (2, .int (nI gn))] → W p l e RM_x_stays s m [.ref (ad 0 0), .ref (ad 12 k)].toArray below meth c H locs 0 0 (QI D cI cT cB ad below [.ref (ad 0 0), .ref (ad 12 k)] s g (fun (r : Int32) (u : SG) => r = (x_stays g k).1 ∧ u = (x_stays g k).2)) (F0 m 2 ls []) := by
    intro n
    induction n with
    | zero =>
      intro gn gl hv0 hv1 hv2
      exfalso
      omega
    | succ n ih =>
      intro gn gl hv0 hv1 hv2 htg H locs Wd ls hl
      refine lv_iload_n hx hb d_TankArena_staysThere_2 rfl (lv_at hl 2 rfl) ?_
      refine lv_bipush (v := 8) hx hb d_TankArena_staysThere_3 (by decide) ?_
      refine lv_aload_n hx hb d_TankArena_staysThere_5 rfl (lv_at hl 1 rfl) ?_
      refine kx_geti (k := 12) (i := k) X Wd (ix12 hk) cell12 fg_TankArena_245 2 rfl (by decide) rfl d_TankArena_staysThere_6 ?_
      refine lv_isub hx hb d_TankArena_staysThere_9 ?_
      refine lv_icmp_ge (tgt := 51) hx hb d_TankArena_staysThere_10 (by decide) (fun c_1 => ?_) (fun c_1 => ?_)
      · skip
        refine lv_iconst (v := 1) hx hb d_TankArena_staysThere_51 (by decide) ?_
        exact kx_iret (u := gl) X rfl Wd (by rw [htg, L_stays, if_pos c_1]; dsimp only; exact ⟨rfl, rfl⟩) d_TankArena_staysThere_52
      · skip
        have hgn : gn < 8 := pace_lt (hv0.1.1 12 k 2) (by omega) c_1
        refine lv_aload_n hx hb d_TankArena_staysThere_13 rfl (lv_at hl 1 rfl) ?_
        refine kc_Vv (As := []) [] X Wd (k_g_bgoOn l D cI cT cB ad tX tY gl k hk (ok_bd hv0 k)) cV_TankArena_246 (kx_recv (k := 12) (i := k) X Wd (ix12 hk) rfl rfl) rfl rfl hl.1 ⟨rfl, rfl⟩ ⟨Nat.le_of_ble_eq_true rfl, Nat.le_of_ble_eq_true rfl⟩ (Nat.le_of_ble_eq_true rfl) ⟨Nat.zero_le _, Nat.zero_le _⟩ d_TankArena_staysThere_14 (fun u H locs hp Wd => ?_)
        rw [hp] at Wd
        clear hp
        have Wd : WC D cI cT cB ad _ s.heap (g_bgoOn gl k) H locs := Wd
        refine lv_aload_n hx hb d_TankArena_staysThere_17 rfl (lv_at hl 1 rfl) ?_
        refine kc_Vi (As := []) [] X Wd (k_f_inField l D cI cT cB ad tX tY (g_bgoOn gl k) k hk) cV_TankArena_249 (kx_recv (k := 12) (i := k) X Wd (ix12 hk) rfl rfl) rfl rfl hl.1 ⟨rfl, rfl⟩ ⟨Nat.le_of_ble_eq_true rfl, Nat.le_of_ble_eq_true rfl⟩ (Nat.le_of_ble_eq_true rfl) ⟨Nat.zero_le _, Nat.zero_le _⟩ d_TankArena_staysThere_18 (fun r u H locs hp Wd => ?_)
        obtain ⟨hr, hu⟩ := hp
        rw [hu] at Wd
        rw [hr]
        clear hr hu
        refine lv_if_ne (tgt := 26) hx hb d_TankArena_staysThere_21 (by decide) (fun c_2 => ?_) (fun c_2 => ?_)
        · skip
          refine lv_aload_n hx hb d_TankArena_staysThere_26 rfl (lv_at hl 0 rfl) ?_
          refine lv_aload_n hx hb d_TankArena_staysThere_27 rfl (lv_at hl 1 rfl) ?_
          refine kc_Vi (As := [.ref (ad 12 k)]) [] X Wd (k_f_struck l D cI cT cB ad tX tY (g_bgoOn gl k) k hk N (by refine ok_g_bgoOn ?_ k; exact hv0)) cV_TankArena_252 (kx_recv (k := 0) (i := 0) X Wd ix0 rfl rfl) rfl rfl hl.1 ⟨rfl, rfl⟩ ⟨Nat.le_of_ble_eq_true rfl, Nat.le_of_ble_eq_true rfl⟩ (Nat.le_of_ble_eq_true rfl) ⟨Nat.zero_le _, Nat.zero_le _⟩ d_TankArena_staysThere_28 (fun r u H locs hp Wd => ?_)
          obtain ⟨hr, hu⟩ := hp
          rw [hu] at Wd
          rw [hr]
          clear hr hu
          refine lv_istore_n (lv' := [(3, .int (f_struck (g_bgoOn gl k) k)), (0, .ref (ad 0 0)), (1, .ref (ad 12 k)), (2, .int (nI gn))]) hx hb d_TankArena_staysThere_31 rfl hl (by decide) rfl (fun ls hl => ?_)
          refine lv_iload_n hx hb d_TankArena_staysThere_32 rfl (lv_at hl 0 rfl) ?_
          refine lv_iconst (v := 4) hx hb d_TankArena_staysThere_33 (by decide) ?_
          refine lv_icmp_eq (tgt := 45) hx hb d_TankArena_staysThere_34 (by decide) (fun c_3 => ?_) (fun c_3 => ?_)
          · skip
            refine lv_iinc (v := nI (gn + 1)) (lv' := [(2, .int (nI (gn + 1))), (3, .int (f_struck (g_bgoOn gl k) k)), (0, .ref (ad 0 0)), (1, .ref (ad 12 k))]) hx hb d_TankArena_staysThere_45 hl (k := 3) rfl (nI_1 gn) (by decide) rfl (fun ls hl => ?_)
            refine lv_goto (tgt := 2) hx hb d_TankArena_staysThere_48 (by decide) ?_
            exact ih (gn + 1) (g_bgoOn gl k) (by refine ok_g_bgoOn ?_ k; exact hv0) (by omega) (by omega) (by rw [htg, L_stays, if_neg c_1, if_neg c_2, if_pos c_3]) _ _ Wd _ (lv_sub hl [2, 3, 0] rfl)
          · skip
            obtain ⟨et, ht⟩ := struck_j (ok_g_bgoOn hv0 k) c_3
            refine lv_aload_n hx hb d_TankArena_staysThere_37 rfl (lv_at hl 1 rfl) ?_
            refine lv_aload_n hx hb d_TankArena_staysThere_38 rfl (lv_at hl 2 rfl) ?_
            refine lv_iload_n hx hb d_TankArena_staysThere_39 rfl (lv_at hl 0 rfl) ?_
            refine kc_Vv (As := [.ref (ad 12 k), .int (f_struck (g_bgoOn gl k) k)]) [] X Wd (k_g_strike l D cI cT cB ad tX tY (g_bgoOn gl k) k hk ((f_struck (g_bgoOn gl k) k).toNatClampNeg) ht (f_struck (g_bgoOn gl k) k) et N (by refine ok_g_bgoOn ?_ k; exact hv0)) cV_TankArena_256 (kx_recv (k := 0) (i := 0) X Wd ix0 rfl rfl) rfl rfl hl.1 ⟨rfl, rfl⟩ ⟨Nat.le_of_ble_eq_true rfl, Nat.le_of_ble_eq_true rfl⟩ (Nat.le_of_ble_eq_true rfl) ⟨Nat.zero_le _, Nat.zero_le _⟩ d_TankArena_staysThere_40 (fun u H locs hp Wd => ?_)
            rw [hp] at Wd
            clear hp
            have Wd : WC D cI cT cB ad _ s.heap (g_strike (g_bgoOn gl k) k ((f_struck (g_bgoOn gl k) k).toNatClampNeg)) H locs := Wd
            refine lv_iconst (v := 0) hx hb d_TankArena_staysThere_43 (by decide) ?_
            exact kx_iret (u := g_strike (g_bgoOn gl k) k ((f_struck (g_bgoOn gl k) k).toNatClampNeg)) X rfl Wd (by rw [htg, L_stays, if_neg c_1, if_neg c_2, if_neg c_3]; dsimp only; exact ⟨rfl, rfl⟩) d_TankArena_staysThere_44
        · skip
          refine lv_iconst (v := 0) hx hb d_TankArena_staysThere_24 (by decide) ?_
          exact kx_iret (u := g_bgoOn gl k) X rfl Wd (by rw [htg, L_stays, if_neg c_1, if_pos c_2]; dsimp only; exact ⟨rfl, rfl⟩) d_TankArena_staysThere_25
  exact loop 9 0 g ok (by decide) (by decide) (by rw [x_stays]) _ _ Wd _ (lv_sub hl [1, 2, 0] rfl)
abbrev RM_g_fly : Room := { frames := 4, cells := 0, slots := 0, locals := 89 }
set_option maxHeartbeats 1000000 in
set_option maxRecDepth 100000 in
theorem k_g_fly (l : Launch) (D : va_G) (cI cT cB : ClassId) (ad : Nat → Nat → Nat) (tX tY : Nat) (g : SG) (N : Nat) (ok : OkN N g) : KV l y_TankArena_flyBullets b_TankArena_flyBullets 4 none RM_g_fly D cI cT cB ad tX tY [.ref (ad 0 0)] g (fun (u : SG) => u = g_fly g) := by
  refine met_of (cc := b_TankArena_flyBullets) (nL := 4) (ret := none) (by decide) rfl (Nat.le_of_ble_eq_true rfl) ?_
  intro p e s m below meth c X hnm Wd ls hl
  have X := X.tt
  have hx := X.1
  have hb := X.2.1
  have hown := X.2.2.2.1
  have hts := X.2.2.2.2.1
  have hl : lv_has ls 4 [(0, .ref (ad 0 0))] := hl
  have Wd : WC D cI cT cB ad (va_A (gC cI cT cB ad g) s.heap.size) s.heap g s.heap [] := Wd
  obtain ⟨K, hK, eK⟩ : rng (g 0 0 2) 17 := ok.1.1 0 0 2
  refine lv_iconst (v := 0) hx hb d_TankArena_flyBullets_0 (by decide) ?_
  refine lv_istore_n (lv' := [(1, .int 0), (0, .ref (ad 0 0))]) hx hb d_TankArena_flyBullets_1 rfl hl (by decide) rfl (fun ls hl => ?_)
  refine lv_iconst (v := 0) hx hb d_TankArena_flyBullets_2 (by decide) ?_
  refine lv_istore_n (lv' := [(2, .int 0), (1, .int 0), (0, .ref (ad 0 0))]) hx hb d_TankArena_flyBullets_3 rfl hl (by decide) rfl (fun ls hl => ?_)
  have loop : ∀ (n : Nat) (kp : Nat) (i : Nat) (gl : SG), OkN N gl → gl 0 0 2 = nI K → K < 17 → kp ≤ i → i ≤ K → K + 1 ≤ i + n → g_fly g = L_fly n kp i gl → ∀ (H : Heap) (locs : List Loc), WC D cI cT cB ad (va_A (gC cI cT cB ad g) s.heap.size) s.heap gl H locs → ∀ ls : Array Slot, lv_has ls 4 [(0, .ref (ad 0 0)), (1, .int (nI kp)), (2, .int (nI i))] → W p l e RM_g_fly s m [.ref (ad 0 0)].toArray below meth c H locs 0 0 (QV D cI cT cB ad below [.ref (ad 0 0)] s g (fun (u : SG) => u = g_fly g)) (F0 m 4 ls []) := by
    intro n
    induction n with
    | zero =>
      intro kp i gl hv0 hv1 hv2 hv3 hv4 hv5
      exfalso
      omega
    | succ n ih =>
      intro kp i gl hv0 hv1 hv2 hv3 hv4 hv5 htg H locs Wd ls hl
      refine lv_iload_n hx hb d_TankArena_flyBullets_4 rfl (lv_at hl 2 rfl) ?_
      refine lv_aload_n hx hb d_TankArena_flyBullets_5 rfl (lv_at hl 0 rfl) ?_
      refine kx_geti (k := 0) (i := 0) X Wd ix0 cell0 fg_TankArena_91 2 rfl (by decide) rfl d_TankArena_flyBullets_6 ?_
      refine lv_icmp_ge (tgt := 55) hx hb d_TankArena_flyBullets_9 (by decide) (fun c_1 => ?_) (fun c_1 => ?_)
      · skip
        refine lv_aload_n hx hb d_TankArena_flyBullets_55 rfl (lv_at hl 0 rfl) ?_
        refine lv_iload_n hx hb d_TankArena_flyBullets_56 rfl (lv_at hl 1 rfl) ?_
        refine kx_puti (k := 0) (i := 0) (v := nI kp) X Wd ix0 cell0 fp_TankArena_91 2 rfl (by decide) rfl rfl rfl d_TankArena_flyBullets_57 (fun H locs Wd => ?_)
        exact kx_vret (u := up3 gl 0 0 2 (nI kp)) X Wd (by rw [htg, L_fly, if_pos c_1]) d_TankArena_flyBullets_60
      · skip
        have hiK : i < K := nlt_of hv1 (by omega) (by omega) c_1
        have hi : i < 16 := by omega
        obtain ⟨eb, hbu⟩ := rng_j (hv0.1.1 2 0 i) (by decide)
        refine lv_aload_n hx hb d_TankArena_flyBullets_12 rfl (lv_at hl 0 rfl) ?_
        refine kx_get (k := 0) (i := 0) (v := .ref (ad 2 0)) X Wd ix0 rfl fg_TankArena_18 rfl d_TankArena_flyBullets_13 ?_
        refine lv_iload_n hx hb d_TankArena_flyBullets_16 rfl (lv_at hl 2 rfl) ?_
        refine kx_aald (k := 2) (i := 0) (j := i) (b := ad 12 (gl 2 0 i).toNatClampNeg) (t0 := 2) X Wd ix2 cell2 rfl rfl hi (by decide) rfl d_TankArena_flyBullets_17 ?_
        refine lv_astore_n (lv' := [(3, .ref (ad 12 ((gl 2 0 i).toNatClampNeg))), (0, .ref (ad 0 0)), (1, .int (nI kp)), (2, .int (nI i))]) hx hb d_TankArena_flyBullets_18 rfl hl (by decide) rfl (fun ls hl => ?_)
        refine lv_aload_n hx hb d_TankArena_flyBullets_19 rfl (lv_at hl 1 rfl) ?_
        refine lv_aload_n hx hb d_TankArena_flyBullets_20 rfl (lv_at hl 0 rfl) ?_
        refine kc_Vi (As := [.ref (ad 12 ((gl 2 0 i).toNatClampNeg))]) [] X Wd (k_x_stays l D cI cT cB ad tX tY gl ((gl 2 0 i).toNatClampNeg) hbu N hv0) cV_TankArena_241 (kx_recv (k := 0) (i := 0) X Wd ix0 rfl rfl) rfl rfl hl.1 ⟨rfl, rfl⟩ ⟨Nat.le_of_ble_eq_true rfl, Nat.le_of_ble_eq_true rfl⟩ (Nat.le_of_ble_eq_true rfl) ⟨Nat.zero_le _, Nat.zero_le _⟩ d_TankArena_flyBullets_21 (fun r u H locs hp Wd => ?_)
        obtain ⟨hr, hu⟩ := hp
        rw [hu] at Wd
        rw [hr]
        clear hr hu
        have Wd : WC D cI cT cB ad _ s.heap ((x_stays gl ((gl 2 0 i).toNatClampNeg)).2) H locs := Wd
        refine lv_if_eq (tgt := 49) hx hb d_TankArena_flyBullets_24 (by decide) (fun c_2 => ?_) (fun c_2 => ?_)
        · skip
          refine lv_iinc (v := nI (i + 1)) (lv' := [(2, .int (nI (i + 1))), (3, .ref (ad 12 ((gl 2 0 i).toNatClampNeg))), (0, .ref (ad 0 0)), (1, .int (nI kp))]) hx hb d_TankArena_flyBullets_49 hl (k := 3) rfl (nI_1 i) (by decide) rfl (fun ls hl => ?_)
          refine lv_goto (tgt := 4) hx hb d_TankArena_flyBullets_52 (by decide) ?_
          exact ih kp (i + 1) ((x_stays gl ((gl 2 0 i).toNatClampNeg)).2) (by refine ok_x_stays ?_ ((gl 2 0 i).toNatClampNeg); exact hv0) (by first | exact (stays_fly hv0 _).trans hv1 | exact hv1) hv2 (by omega) (by omega) (by omega) (by rw [htg, L_fly, if_neg c_1, if_pos c_2]) _ _ Wd _ (lv_sub hl [2, 3, 0] rfl)
        · skip
          have ok2 := ok_x_stays hv0 (gl 2 0 i).toNatClampNeg
          obtain ⟨ec, hcu⟩ := rng_j (ok2.1.1 2 0 kp) (by decide)
          have hkp : kp < 16 := by omega
          refine lv_aload_n hx hb d_TankArena_flyBullets_27 rfl (lv_at hl 1 rfl) ?_
          refine kx_get (k := 0) (i := 0) (v := .ref (ad 2 0)) X Wd ix0 rfl fg_TankArena_18 rfl d_TankArena_flyBullets_28 ?_
          refine lv_iload_n hx hb d_TankArena_flyBullets_31 rfl (lv_at hl 3 rfl) ?_
          refine lv_aload_n hx hb d_TankArena_flyBullets_32 rfl (lv_at hl 1 rfl) ?_
          refine kx_get (k := 0) (i := 0) (v := .ref (ad 2 0)) X Wd ix0 rfl fg_TankArena_18 rfl d_TankArena_flyBullets_33 ?_
          refine lv_iload_n hx hb d_TankArena_flyBullets_36 rfl (lv_at hl 2 rfl) ?_
          refine kx_aald (k := 2) (i := 0) (j := kp) (b := ad 12 (((x_stays gl ((gl 2 0 i).toNatClampNeg)).2) 2 0 kp).toNatClampNeg) (t0 := 2) X Wd ix2 cell2 rfl rfl hkp (by decide) rfl d_TankArena_flyBullets_37 ?_
          refine kx_aast (k := 2) (i := 0) (j := i) (k2 := 12) (i2 := (((x_stays gl ((gl 2 0 i).toNatClampNeg)).2) 2 0 kp).toNatClampNeg) (w := nI ((((x_stays gl ((gl 2 0 i).toNatClampNeg)).2) 2 0 kp).toNatClampNeg)) (t0 := 2) X Wd ix2 cell2 rfl (ix12 hcu) rfl rfl rfl hi (by decide) (aast_up (by have := hcu; omega)) d_TankArena_flyBullets_38 (fun H locs Wd => ?_)
          refine lv_aload_n hx hb d_TankArena_flyBullets_39 rfl (lv_at hl 1 rfl) ?_
          refine kx_get (k := 0) (i := 0) (v := .ref (ad 2 0)) X Wd ix0 rfl fg_TankArena_18 rfl d_TankArena_flyBullets_40 ?_
          refine lv_iload_n hx hb d_TankArena_flyBullets_43 rfl (lv_at hl 2 rfl) ?_
          refine lv_aload_n hx hb d_TankArena_flyBullets_44 rfl (lv_at hl 0 rfl) ?_
          refine kx_aast (k := 2) (i := 0) (j := kp) (k2 := 12) (i2 := (gl 2 0 i).toNatClampNeg) (w := nI ((gl 2 0 i).toNatClampNeg)) (t0 := 2) X Wd ix2 cell2 rfl (ix12 hbu) rfl rfl rfl hkp (by decide) (aast_up (by have := hbu; omega)) d_TankArena_flyBullets_45 (fun H locs Wd => ?_)
          refine lv_iinc (v := nI (kp + 1)) (lv' := [(1, .int (nI (kp + 1))), (3, .ref (ad 12 ((gl 2 0 i).toNatClampNeg))), (0, .ref (ad 0 0)), (2, .int (nI i))]) hx hb d_TankArena_flyBullets_46 hl (k := 2) rfl (nI_1 kp) (by decide) rfl (fun ls hl => ?_)
          refine lv_iinc (v := nI (i + 1)) (lv' := [(2, .int (nI (i + 1))), (1, .int (nI (kp + 1))), (3, .ref (ad 12 ((gl 2 0 i).toNatClampNeg))), (0, .ref (ad 0 0))]) hx hb d_TankArena_flyBullets_49 hl (k := 3) rfl (nI_1 i) (by decide) rfl (fun ls hl => ?_)
          refine lv_goto (tgt := 4) hx hb d_TankArena_flyBullets_52 (by decide) ?_
          exact ih (kp + 1) (i + 1) (up3 (up3 ((x_stays gl ((gl 2 0 i).toNatClampNeg)).2) 2 0 i (nI ((((x_stays gl ((gl 2 0 i).toNatClampNeg)).2) 2 0 kp).toNatClampNeg))) 2 0 kp (nI ((gl 2 0 i).toNatClampNeg))) (by refine okU ?_ rfl ⟨_, hbu, rfl⟩; refine okU ?_ rfl ⟨_, hcu, rfl⟩; refine ok_x_stays ?_ ((gl 2 0 i).toNatClampNeg); exact hv0) (by first | exact (stays_fly hv0 _).trans hv1 | exact hv1) hv2 (by omega) (by omega) (by omega) (by rw [htg, L_fly, if_neg c_1, if_neg c_2]) _ _ Wd _ (lv_sub hl [3, 1, 0] rfl)
  exact loop 17 0 0 g ok eK hK (by omega) (by omega) (by omega) (by rw [g_fly]) _ _ Wd _ (lv_sub hl [2, 1, 0] rfl)
