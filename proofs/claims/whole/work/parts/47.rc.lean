/-! CONTRACTS of the reference (printed by gen/all_r.py) -/
abbrev RM_f_Rtouched : Room := { frames := 2, cells := 0, slots := 0, locals := 42 }
set_option maxHeartbeats 1000000 in
set_option maxRecDepth 100000 in
theorem k_f_Rtouched (l : Launch) (D : va_G) (cI cZ : ClassId) (ad : Nat → Nat → Nat) (g : SG) (t : Nat) (ht : t < 4) (vt : Int32) (et : vt = nI t) (N : Nat) (ok : RokN N g) : RI l y_TankArenaModel_touched b_TankArenaModel_touched 3 (some .int) RM_f_Rtouched D cI cZ ad [.ref (ad 0 0), .int vt] g (fun (r : Int32) (u : SG) => r = f_Rtouched g t ∧ u = g) := by
  subst et
  refine met_of (cc := b_TankArenaModel_touched) (nL := 3) (ret := (some .int)) (by decide) rfl (Nat.le_of_ble_eq_true rfl) ?_
  intro p e s m below meth c X hnm Wd ls hl
  have X := X.tt
  have hx := X.1
  have hb := X.2.1
  have hown := X.2.2.2.1
  have hts := X.2.2.2.2.1
  have hl : lv_has ls 3 [(0, .ref (ad 0 0)), (1, .int (nI t))] := hl
  have Wd : WR D cI cZ ad (va_A (gR cI cZ ad g) s.heap.size) s.heap g s.heap [] := Wd
  obtain ⟨hN4, eN⟩ := ok.N
  refine lv_iconst (v := 0) hx hb d_TankArenaModel_touched_0 (by decide) ?_
  refine lv_istore_n (lv' := [(2, .int 0), (0, .ref (ad 0 0)), (1, .int (nI t))]) hx hb d_TankArenaModel_touched_1 rfl hl (by decide) rfl (fun ls hl => ?_)
  have loop : ∀ (n : Nat) (i : Nat), i ≤ N → N + 1 ≤ i + n → f_Rtouched g t = L_Rtouched g t n i → ∀ (H : Heap) (locs : List Loc), WR D cI cZ ad (va_A (gR cI cZ ad g) s.heap.size) s.heap g H locs → ∀ ls : Array Slot, lv_has ls 3 [(0, .ref (ad 0 0)), (1, .int (nI t)), (2, .int (nI i))] → W p l e RM_f_Rtouched s m [.ref (ad 0 0), .int (nI t)].toArray below meth c H locs 0 0 (YI D cI cZ ad below [.ref (ad 0 0), .int (nI t)] s g (fun (r : Int32) (u : SG) => r = f_Rtouched g t ∧ u = g)) (F0 m 2 ls []) := by
    intro n
    induction n with
    | zero =>
      intro i hv0 hv1
      exfalso
      omega
    | succ n ih =>
      intro i hv0 hv1 htg H locs Wd ls hl
      refine lv_iload_n hx hb d_TankArenaModel_touched_2 rfl (lv_at hl 2 rfl) ?_
      refine lv_aload_n hx hb d_TankArenaModel_touched_3 rfl (lv_at hl 0 rfl) ?_
      refine kx_geto (k := 0) (i := 0) 0 (g 0 0 0) X Wd (iy 0 (by decide)) rell0 fg_TankArenaModel_122 (fun _ => rfl) rfl d_TankArenaModel_touched_4 ?_
      refine lv_icmp_ge (tgt := 41) hx hb d_TankArenaModel_touched_7 (by decide) (fun c_1 => ?_) (fun c_1 => ?_)
      · skip
        refine lv_iconst (v := 4) hx hb d_TankArenaModel_touched_41 (by decide) ?_
        exact kx_iret (u := g) X rfl Wd ⟨by rw [htg, L_Rtouched, if_pos c_1], rfl⟩ d_TankArenaModel_touched_42
      · skip
        have hiN : i < N := nlt_of eN (by omega) (by omega) c_1
        have hi : i < 4 := by omega
        refine lv_iload_n hx hb d_TankArenaModel_touched_10 rfl (lv_at hl 2 rfl) ?_
        refine lv_iload_n hx hb d_TankArenaModel_touched_11 rfl (lv_at hl 1 rfl) ?_
        refine lv_icmp_eq (tgt := 35) hx hb d_TankArenaModel_touched_12 (by decide) (fun c_2 => ?_) (fun c_2 => ?_)
        · skip
          refine lv_iinc (v := nI (i + 1)) (lv' := [(2, .int (nI (i + 1))), (0, .ref (ad 0 0)), (1, .int (nI t))]) hx hb d_TankArenaModel_touched_35 hl (k := 2) rfl (nI_1 i) (by decide) rfl (fun ls hl => ?_)
          refine lv_goto (tgt := 2) hx hb d_TankArenaModel_touched_38 (by decide) ?_
          exact ih (i + 1) (by omega) (by omega) (by rw [htg, L_Rtouched, if_neg c_1, if_pos c_2]) _ _ Wd _ (lv_sub hl [1, 2, 0] rfl)
        · skip
          refine lv_aload_n hx hb d_TankArenaModel_touched_15 rfl (lv_at hl 0 rfl) ?_
          refine kx_get (k := 0) (i := 0) (v := .ref (ad 21 0)) X Wd (iy 0 (by decide)) rfl fg_TankArenaModel_70 rfl d_TankArenaModel_touched_16 ?_
          refine lv_iload_n hx hb d_TankArenaModel_touched_19 rfl (lv_at hl 2 rfl) ?_
          refine kx_zald2 (k := 21) (i := 0) (j := i) (t0 := 1) (g 21 0 i) X Wd (iy 21 (by decide)) rell21 rfl rfl (by omega) (by decide) rfl d_TankArenaModel_touched_20 ?_
          refine lv_if_eq (tgt := 35) hx hb d_TankArenaModel_touched_21 (by decide) (fun c_3 => ?_) (fun c_3 => ?_)
          · skip
            refine lv_iinc (v := nI (i + 1)) (lv' := [(2, .int (nI (i + 1))), (0, .ref (ad 0 0)), (1, .int (nI t))]) hx hb d_TankArenaModel_touched_35 hl (k := 2) rfl (nI_1 i) (by decide) rfl (fun ls hl => ?_)
            refine lv_goto (tgt := 2) hx hb d_TankArenaModel_touched_38 (by decide) ?_
            exact ih (i + 1) (by omega) (by omega) (by rw [htg, L_Rtouched, if_neg c_1, if_neg c_2, if_pos c_3]) _ _ Wd _ (lv_sub hl [1, 2, 0] rfl)
          · skip
            refine lv_aload_n hx hb d_TankArenaModel_touched_24 rfl (lv_at hl 0 rfl) ?_
            refine lv_iload_n hx hb d_TankArenaModel_touched_25 rfl (lv_at hl 2 rfl) ?_
            refine lv_iload_n hx hb d_TankArenaModel_touched_26 rfl (lv_at hl 1 rfl) ?_
            refine kc_Vi (As := [.int (nI i), .int (nI t)]) [] X Wd (k_f_Rtouch l D cI cZ ad g i (by omega) (nI i) rfl t ht (nI t) rfl) cV_TankArenaModel_175 (kx_recv (k := 0) (i := 0) X Wd (iy 0 (by decide)) rfl rfl) rfl rfl hl.1 ⟨rfl, rfl⟩ ⟨Nat.le_of_ble_eq_true rfl, Nat.le_of_ble_eq_true rfl⟩ (Nat.le_of_ble_eq_true rfl) ⟨Nat.zero_le _, Nat.zero_le _⟩ d_TankArenaModel_touched_27 (fun r u H locs hp Wd => ?_)
            obtain ⟨hr, hu⟩ := hp
            rw [hu] at Wd
            rw [hr]
            clear hr hu
            refine lv_if_eq (tgt := 35) hx hb d_TankArenaModel_touched_30 (by decide) (fun c_4 => ?_) (fun c_4 => ?_)
            · skip
              refine lv_iinc (v := nI (i + 1)) (lv' := [(2, .int (nI (i + 1))), (0, .ref (ad 0 0)), (1, .int (nI t))]) hx hb d_TankArenaModel_touched_35 hl (k := 2) rfl (nI_1 i) (by decide) rfl (fun ls hl => ?_)
              refine lv_goto (tgt := 2) hx hb d_TankArenaModel_touched_38 (by decide) ?_
              exact ih (i + 1) (by omega) (by omega) (by rw [htg, L_Rtouched, if_neg c_1, if_neg c_2, if_neg c_3, if_pos c_4]) _ _ Wd _ (lv_sub hl [1, 2, 0] rfl)
            · skip
              refine lv_iload_n hx hb d_TankArenaModel_touched_33 rfl (lv_at hl 2 rfl) ?_
              exact kx_iret (u := g) X rfl Wd ⟨by rw [htg, L_Rtouched, if_neg c_1, if_neg c_2, if_neg c_3, if_neg c_4], rfl⟩ d_TankArenaModel_touched_34
  exact loop 5 0 (by omega) (by omega) (by rw [f_Rtouched]) _ _ Wd _ (lv_sub hl [1, 2, 0] rfl)
abbrev RM_g_Rlook : Room := { frames := 2, cells := 0, slots := 0, locals := 41 }
set_option maxHeartbeats 1000000 in
set_option maxRecDepth 100000 in
theorem k_g_Rlook (l : Launch) (D : va_G) (cI cZ : ClassId) (ad : Nat → Nat → Nat) (g : SG) (t : Nat) (ht : t < 4) (vt : Int32) (et : vt = nI t) (N : Nat) (ok : RokN N g) : RV l y_TankArenaModel_look b_TankArenaModel_look 6 none RM_g_Rlook D cI cZ ad [.ref (ad 0 0), .int vt] g (fun (u : SG) => u = g_Rlook g t) := by
  subst et
  refine met_of (cc := b_TankArenaModel_look) (nL := 6) (ret := none) (by decide) rfl (Nat.le_of_ble_eq_true rfl) ?_
  intro p e s m below meth c X hnm Wd ls hl
  have X := X.tt
  have hx := X.1
  have hb := X.2.1
  have hown := X.2.2.2.1
  have hts := X.2.2.2.2.1
  have hl : lv_has ls 6 [(0, .ref (ad 0 0)), (1, .int (nI t))] := hl
  have Wd : WR D cI cZ ad (va_A (gR cI cZ ad g) s.heap.size) s.heap g s.heap [] := Wd
  obtain ⟨hN4, eN⟩ := ok.N
  refine lv_iconst (v := 0) hx hb d_TankArenaModel_look_0 (by decide) ?_
  refine lv_istore_n (lv' := [(2, .int 0), (0, .ref (ad 0 0)), (1, .int (nI t))]) hx hb d_TankArenaModel_look_1 rfl hl (by decide) rfl (fun ls hl => ?_)
  have loop : ∀ (n : Nat) (i : Nat) (gl : SG), RokN N gl → i ≤ N → N + 1 ≤ i + n → g_Rlook g t = L_Rlook t n i gl → ∀ (H : Heap) (locs : List Loc), WR D cI cZ ad (va_A (gR cI cZ ad g) s.heap.size) s.heap gl H locs → ∀ ls : Array Slot, lv_has ls 6 [(0, .ref (ad 0 0)), (1, .int (nI t)), (2, .int (nI i))] → W p l e RM_g_Rlook s m [.ref (ad 0 0), .int (nI t)].toArray below meth c H locs 0 0 (YV D cI cZ ad below [.ref (ad 0 0), .int (nI t)] s g (fun (u : SG) => u = g_Rlook g t)) (F0 m 2 ls []) := by
    intro n
    induction n with
    | zero =>
      intro i gl hv0 hv1 hv2
      exfalso
      omega
    | succ n ih =>
      intro i gl hv0 hv1 hv2 htg H locs Wd ls hl
      obtain ⟨hN4, eN⟩ := hv0.N
      refine lv_iload_n hx hb d_TankArenaModel_look_2 rfl (lv_at hl 2 rfl) ?_
      refine lv_aload_n hx hb d_TankArenaModel_look_3 rfl (lv_at hl 0 rfl) ?_
      refine kx_geto (k := 0) (i := 0) 0 (gl 0 0 0) X Wd (iy 0 (by decide)) rell0 fg_TankArenaModel_122 (fun _ => rfl) rfl d_TankArenaModel_look_4 ?_
      refine lv_icmp_ge (tgt := 142) hx hb d_TankArenaModel_look_7 (by decide) (fun c_1 => ?_) (fun c_1 => ?_)
      · skip
        exact kx_vret (u := gl) X Wd (by rw [htg, L_Rlook, if_pos c_1]) d_TankArenaModel_look_142
      · skip
        have hiN : i < N := nlt_of eN (by omega) (by omega) c_1
        have hi : i < 4 := by omega
        refine lv_aload_n hx hb d_TankArenaModel_look_10 rfl (lv_at hl 0 rfl) ?_
        refine kx_get (k := 0) (i := 0) (v := .ref (ad 8 0)) X Wd (iy 0 (by decide)) rfl fg_TankArenaModel_31 rfl d_TankArenaModel_look_11 ?_
        refine lv_iload_n hx hb d_TankArenaModel_look_14 rfl (lv_at hl 2 rfl) ?_
        refine kx_iald (k := 8) (i := 0) (j := i) (t0 := 0) X Wd (iy 8 (by decide)) rell8 rfl rfl (by omega) (by decide) d_TankArenaModel_look_15 ?_
        refine lv_aload_n hx hb d_TankArenaModel_look_16 rfl (lv_at hl 0 rfl) ?_
        refine kx_get (k := 0) (i := 0) (v := .ref (ad 8 0)) X Wd (iy 0 (by decide)) rfl fg_TankArenaModel_31 rfl d_TankArenaModel_look_17 ?_
        refine lv_iload_n hx hb d_TankArenaModel_look_20 rfl (lv_at hl 1 rfl) ?_
        refine kx_iald (k := 8) (i := 0) (j := t) (t0 := 0) X Wd (iy 8 (by decide)) rell8 rfl rfl ht (by decide) d_TankArenaModel_look_21 ?_
        refine lv_isub hx hb d_TankArenaModel_look_22 ?_
        refine lv_istore_n (lv' := [(3, .int ((gl 8 0 i) - (gl 8 0 t))), (0, .ref (ad 0 0)), (1, .int (nI t)), (2, .int (nI i))]) hx hb d_TankArenaModel_look_23 rfl hl (by decide) rfl (fun ls hl => ?_)
        refine lv_aload_n hx hb d_TankArenaModel_look_24 rfl (lv_at hl 1 rfl) ?_
        refine kx_get (k := 0) (i := 0) (v := .ref (ad 9 0)) X Wd (iy 0 (by decide)) rfl fg_TankArenaModel_34 rfl d_TankArenaModel_look_25 ?_
        refine lv_iload_n hx hb d_TankArenaModel_look_28 rfl (lv_at hl 3 rfl) ?_
        refine kx_iald (k := 9) (i := 0) (j := i) (t0 := 0) X Wd (iy 9 (by decide)) rell9 rfl rfl (by omega) (by decide) d_TankArenaModel_look_29 ?_
        refine lv_aload_n hx hb d_TankArenaModel_look_30 rfl (lv_at hl 1 rfl) ?_
        refine kx_get (k := 0) (i := 0) (v := .ref (ad 9 0)) X Wd (iy 0 (by decide)) rfl fg_TankArenaModel_34 rfl d_TankArenaModel_look_31 ?_
        refine lv_iload_n hx hb d_TankArenaModel_look_34 rfl (lv_at hl 2 rfl) ?_
        refine kx_iald (k := 9) (i := 0) (j := t) (t0 := 0) X Wd (iy 9 (by decide)) rell9 rfl rfl ht (by decide) d_TankArenaModel_look_35 ?_
        refine lv_isub hx hb d_TankArenaModel_look_36 ?_
        refine lv_istore (lv' := [(4, .int ((gl 9 0 i) - (gl 9 0 t))), (3, .int ((gl 8 0 i) - (gl 8 0 t))), (0, .ref (ad 0 0)), (1, .int (nI t)), (2, .int (nI i))]) hx hb d_TankArenaModel_look_37 hl (by decide) rfl (fun ls hl => ?_)
        refine lv_iload_n hx hb d_TankArenaModel_look_39 rfl (lv_at hl 4 rfl) ?_
        refine lv_iload_n hx hb d_TankArenaModel_look_40 rfl (lv_at hl 3 rfl) ?_
        refine lv_icmp_eq (tgt := 136) hx hb d_TankArenaModel_look_41 (by decide) (fun c_2 => ?_) (fun c_2 => ?_)
        · skip
          refine lv_iinc (v := nI (i + 1)) (lv' := [(2, .int (nI (i + 1))), (4, .int ((gl 9 0 i) - (gl 9 0 t))), (3, .int ((gl 8 0 i) - (gl 8 0 t))), (0, .ref (ad 0 0)), (1, .int (nI t))]) hx hb d_TankArenaModel_look_136 hl (k := 4) rfl (nI_1 i) (by decide) rfl (fun ls hl => ?_)
          refine lv_goto (tgt := 2) hx hb d_TankArenaModel_look_139 (by decide) ?_
          exact ih (i + 1) gl hv0 (by omega) (by omega) (by rw [htg, L_Rlook, if_neg c_1, if_pos c_2]) _ _ Wd _ (lv_sub hl [3, 4, 0] rfl)
        · skip
          refine lv_aload_n hx hb d_TankArenaModel_look_44 rfl (lv_at hl 2 rfl) ?_
          refine kx_get (k := 0) (i := 0) (v := .ref (ad 21 0)) X Wd (iy 0 (by decide)) rfl fg_TankArenaModel_70 rfl d_TankArenaModel_look_45 ?_
          refine lv_iload_n hx hb d_TankArenaModel_look_48 rfl (lv_at hl 4 rfl) ?_
          refine kx_zald2 (k := 21) (i := 0) (j := i) (t0 := 1) (gl 21 0 i) X Wd (iy 21 (by decide)) rell21 rfl rfl (by omega) (by decide) rfl d_TankArenaModel_look_49 ?_
          refine lv_if_eq (tgt := 136) hx hb d_TankArenaModel_look_50 (by decide) (fun c_3 => ?_) (fun c_3 => ?_)
          · skip
            refine lv_iinc (v := nI (i + 1)) (lv' := [(2, .int (nI (i + 1))), (4, .int ((gl 9 0 i) - (gl 9 0 t))), (3, .int ((gl 8 0 i) - (gl 8 0 t))), (0, .ref (ad 0 0)), (1, .int (nI t))]) hx hb d_TankArenaModel_look_136 hl (k := 4) rfl (nI_1 i) (by decide) rfl (fun ls hl => ?_)
            refine lv_goto (tgt := 2) hx hb d_TankArenaModel_look_139 (by decide) ?_
            exact ih (i + 1) gl hv0 (by omega) (by omega) (by rw [htg, L_Rlook, if_neg c_1, if_neg c_2, if_pos c_3]) _ _ Wd _ (lv_sub hl [3, 4, 0] rfl)
          · skip
            refine lv_iload_n hx hb d_TankArenaModel_look_53 rfl (lv_at hl 1 rfl) ?_
            refine lv_iload hx hb d_TankArenaModel_look_54 (lv_at hl 0 rfl) ?_
            refine kc_Si (As := [.int ((gl 8 0 i) - (gl 8 0 t)), .int ((gl 9 0 i) - (gl 9 0 t))]) [] X Wd (k_f_Rsector l D cI cZ ad gl ((gl 8 0 i) - (gl 8 0 t)) ((gl 9 0 i) - (gl 9 0 t))) cS_TankArenaModel_136 rfl rfl hl.1 ⟨rfl, rfl⟩ ⟨Nat.le_of_ble_eq_true rfl, Nat.le_of_ble_eq_true rfl⟩ (Nat.le_of_ble_eq_true rfl) ⟨Nat.zero_le _, Nat.zero_le _⟩ d_TankArenaModel_look_56 (fun r u H locs hp Wd => ?_)
            obtain ⟨hr, hu⟩ := hp
            rw [hu] at Wd
            rw [hr]
            clear hr hu
            refine lv_aload_n hx hb d_TankArenaModel_look_59 rfl (lv_at hl 2 rfl) ?_
            refine kx_get (k := 0) (i := 0) (v := .ref (ad 12 0)) X Wd (iy 0 (by decide)) rfl fg_TankArenaModel_43 rfl d_TankArenaModel_look_60 ?_
            refine lv_iload_n hx hb d_TankArenaModel_look_63 rfl (lv_at hl 3 rfl) ?_
            refine kx_iald (k := 12) (i := 0) (j := t) (t0 := 0) X Wd (iy 12 (by decide)) rell12 rfl rfl ht (by decide) d_TankArenaModel_look_64 ?_
            refine lv_icmp_eq (tgt := 71) hx hb d_TankArenaModel_look_65 (by decide) (fun c_4 => ?_) (fun c_4 => ?_)
            · skip
              refine lv_iload_n hx hb d_TankArenaModel_look_71 rfl (lv_at hl 1 rfl) ?_
              refine kc_Si (As := [.int ((gl 8 0 i) - (gl 8 0 t))]) [] X Wd (k_f_Rabs l D cI cZ ad gl ((gl 8 0 i) - (gl 8 0 t))) cS_TankArenaModel_110 rfl rfl hl.1 ⟨rfl, rfl⟩ ⟨Nat.le_of_ble_eq_true rfl, Nat.le_of_ble_eq_true rfl⟩ (Nat.le_of_ble_eq_true rfl) ⟨Nat.zero_le _, Nat.zero_le _⟩ d_TankArenaModel_look_72 (fun r u H locs hp Wd => ?_)
              obtain ⟨hr, hu⟩ := hp
              rw [hu] at Wd
              rw [hr]
              clear hr hu
              refine lv_iload hx hb d_TankArenaModel_look_75 (lv_at hl 0 rfl) ?_
              refine kc_Si (As := [.int ((gl 9 0 i) - (gl 9 0 t))]) [.int (f_Rabs ((gl 8 0 i) - (gl 8 0 t)))] X Wd (k_f_Rabs l D cI cZ ad gl ((gl 9 0 i) - (gl 9 0 t))) cS_TankArenaModel_110 rfl rfl hl.1 ⟨rfl, rfl⟩ ⟨Nat.le_of_ble_eq_true rfl, Nat.le_of_ble_eq_true rfl⟩ (Nat.le_of_ble_eq_true rfl) ⟨Nat.zero_le _, Nat.zero_le _⟩ d_TankArenaModel_look_77 (fun r u H locs hp Wd => ?_)
              obtain ⟨hr, hu⟩ := hp
              rw [hu] at Wd
              rw [hr]
              clear hr hu
              refine lv_icmp_le (tgt := 90) hx hb d_TankArenaModel_look_80 (by decide) (fun c_5 => ?_) (fun c_5 => ?_)
              · skip
                refine lv_iload hx hb d_TankArenaModel_look_90 (lv_at hl 0 rfl) ?_
                refine kc_Si (As := [.int ((gl 9 0 i) - (gl 9 0 t))]) [] X Wd (k_f_Rabs l D cI cZ ad gl ((gl 9 0 i) - (gl 9 0 t))) cS_TankArenaModel_110 rfl rfl hl.1 ⟨rfl, rfl⟩ ⟨Nat.le_of_ble_eq_true rfl, Nat.le_of_ble_eq_true rfl⟩ (Nat.le_of_ble_eq_true rfl) ⟨Nat.zero_le _, Nat.zero_le _⟩ d_TankArenaModel_look_92 (fun r u H locs hp Wd => ?_)
                obtain ⟨hr, hu⟩ := hp
                rw [hu] at Wd
                rw [hr]
                clear hr hu
                refine lv_istore (lv' := [(5, .int (f_Rabs ((gl 9 0 i) - (gl 9 0 t)))), (4, .int ((gl 9 0 i) - (gl 9 0 t))), (3, .int ((gl 8 0 i) - (gl 8 0 t))), (0, .ref (ad 0 0)), (1, .int (nI t)), (2, .int (nI i))]) hx hb d_TankArenaModel_look_95 hl (by decide) rfl (fun ls hl => ?_)
                refine lv_aload_n hx hb d_TankArenaModel_look_97 rfl (lv_at hl 3 rfl) ?_
                refine kx_get (k := 0) (i := 0) (v := .ref (ad 24 0)) X Wd (iy 0 (by decide)) rfl fg_TankArenaModel_80 rfl d_TankArenaModel_look_98 ?_
                refine lv_iload_n hx hb d_TankArenaModel_look_101 rfl (lv_at hl 4 rfl) ?_
                refine kx_iald (k := 24) (i := 0) (j := t) (t0 := 0) X Wd (iy 24 (by decide)) rell24 rfl rfl ht (by decide) d_TankArenaModel_look_102 ?_
                refine lv_iconst (v := 4) hx hb d_TankArenaModel_look_103 (by decide) ?_
                refine lv_icmp_ge (tgt := 121) hx hb d_TankArenaModel_look_104 (by decide) (fun c_6 => ?_) (fun c_6 => ?_)
                · skip
                  refine lv_aload_n hx hb d_TankArenaModel_look_121 rfl (lv_at hl 3 rfl) ?_
                  refine kx_get (k := 0) (i := 0) (v := .ref (ad 24 0)) X Wd (iy 0 (by decide)) rfl fg_TankArenaModel_80 rfl d_TankArenaModel_look_122 ?_
                  refine lv_iload_n hx hb d_TankArenaModel_look_125 rfl (lv_at hl 4 rfl) ?_
                  refine lv_iload_n hx hb d_TankArenaModel_look_126 rfl (lv_at hl 5 rfl) ?_
                  refine kx_iast (k := 24) (i := 0) (j := t) (t0 := 0) X Wd (iy 24 (by decide)) rell24 rfl rfl ht (by decide) d_TankArenaModel_look_127 (fun H locs Wd => ?_)
                  refine lv_aload_n hx hb d_TankArenaModel_look_128 rfl (lv_at hl 3 rfl) ?_
                  refine kx_get (k := 0) (i := 0) (v := .ref (ad 25 0)) X Wd (iy 0 (by decide)) rfl fg_TankArenaModel_83 rfl d_TankArenaModel_look_129 ?_
                  refine lv_iload_n hx hb d_TankArenaModel_look_132 rfl (lv_at hl 4 rfl) ?_
                  refine lv_iload hx hb d_TankArenaModel_look_133 (lv_at hl 0 rfl) ?_
                  refine kx_iast (k := 25) (i := 0) (j := t) (t0 := 0) X Wd (iy 25 (by decide)) rell25 rfl rfl ht (by decide) d_TankArenaModel_look_135 (fun H locs Wd => ?_)
                  refine lv_iinc (v := nI (i + 1)) (lv' := [(2, .int (nI (i + 1))), (5, .int (f_Rabs ((gl 9 0 i) - (gl 9 0 t)))), (4, .int ((gl 9 0 i) - (gl 9 0 t))), (3, .int ((gl 8 0 i) - (gl 8 0 t))), (0, .ref (ad 0 0)), (1, .int (nI t))]) hx hb d_TankArenaModel_look_136 hl (k := 5) rfl (nI_1 i) (by decide) rfl (fun ls hl => ?_)
                  refine lv_goto (tgt := 2) hx hb d_TankArenaModel_look_139 (by decide) ?_
                  exact ih (i + 1) (up3 (up3 gl 24 0 t (nI i)) 25 0 t (f_Rabs ((gl 9 0 i) - (gl 9 0 t)))) (by refine rokU ?_ rfl trivial; refine rokU ?_ rfl ⟨i, by omega, rfl⟩; exact hv0) (by omega) (by omega) (by rw [htg, L_Rlook, if_neg c_1, if_neg c_2, if_neg c_3, if_pos c_4, if_pos c_5, if_pos c_6]) _ _ Wd _ (lv_sub hl [4, 5, 0] rfl)
                · skip
                  refine lv_aload_n hx hb d_TankArenaModel_look_107 rfl (lv_at hl 3 rfl) ?_
                  refine kx_get (k := 0) (i := 0) (v := .ref (ad 25 0)) X Wd (iy 0 (by decide)) rfl fg_TankArenaModel_83 rfl d_TankArenaModel_look_108 ?_
                  refine lv_iload_n hx hb d_TankArenaModel_look_111 rfl (lv_at hl 4 rfl) ?_
                  refine kx_iald (k := 25) (i := 0) (j := t) (t0 := 0) X Wd (iy 25 (by decide)) rell25 rfl rfl ht (by decide) d_TankArenaModel_look_112 ?_
                  refine lv_iload hx hb d_TankArenaModel_look_113 (lv_at hl 0 rfl) ?_
                  refine lv_icmp_gt (tgt := 121) hx hb d_TankArenaModel_look_115 (by decide) (fun c_7 => ?_) (fun c_7 => ?_)
                  · skip
                    refine lv_aload_n hx hb d_TankArenaModel_look_121 rfl (lv_at hl 3 rfl) ?_
                    refine kx_get (k := 0) (i := 0) (v := .ref (ad 24 0)) X Wd (iy 0 (by decide)) rfl fg_TankArenaModel_80 rfl d_TankArenaModel_look_122 ?_
                    refine lv_iload_n hx hb d_TankArenaModel_look_125 rfl (lv_at hl 4 rfl) ?_
                    refine lv_iload_n hx hb d_TankArenaModel_look_126 rfl (lv_at hl 5 rfl) ?_
                    refine kx_iast (k := 24) (i := 0) (j := t) (t0 := 0) X Wd (iy 24 (by decide)) rell24 rfl rfl ht (by decide) d_TankArenaModel_look_127 (fun H locs Wd => ?_)
                    refine lv_aload_n hx hb d_TankArenaModel_look_128 rfl (lv_at hl 3 rfl) ?_
                    refine kx_get (k := 0) (i := 0) (v := .ref (ad 25 0)) X Wd (iy 0 (by decide)) rfl fg_TankArenaModel_83 rfl d_TankArenaModel_look_129 ?_
                    refine lv_iload_n hx hb d_TankArenaModel_look_132 rfl (lv_at hl 4 rfl) ?_
                    refine lv_iload hx hb d_TankArenaModel_look_133 (lv_at hl 0 rfl) ?_
                    refine kx_iast (k := 25) (i := 0) (j := t) (t0 := 0) X Wd (iy 25 (by decide)) rell25 rfl rfl ht (by decide) d_TankArenaModel_look_135 (fun H locs Wd => ?_)
                    refine lv_iinc (v := nI (i + 1)) (lv' := [(2, .int (nI (i + 1))), (5, .int (f_Rabs ((gl 9 0 i) - (gl 9 0 t)))), (4, .int ((gl 9 0 i) - (gl 9 0 t))), (3, .int ((gl 8 0 i) - (gl 8 0 t))), (0, .ref (ad 0 0)), (1, .int (nI t))]) hx hb d_TankArenaModel_look_136 hl (k := 5) rfl (nI_1 i) (by decide) rfl (fun ls hl => ?_)
                    refine lv_goto (tgt := 2) hx hb d_TankArenaModel_look_139 (by decide) ?_
                    exact ih (i + 1) (up3 (up3 gl 24 0 t (nI i)) 25 0 t (f_Rabs ((gl 9 0 i) - (gl 9 0 t)))) (by refine rokU ?_ rfl trivial; refine rokU ?_ rfl ⟨i, by omega, rfl⟩; exact hv0) (by omega) (by omega) (by rw [htg, L_Rlook, if_neg c_1, if_neg c_2, if_neg c_3, if_pos c_4, if_pos c_5, if_neg c_6, if_pos c_7]) _ _ Wd _ (lv_sub hl [4, 5, 0] rfl)
                  · skip
                    refine lv_goto (tgt := 136) hx hb d_TankArenaModel_look_118 (by decide) ?_
                    refine lv_iinc (v := nI (i + 1)) (lv' := [(2, .int (nI (i + 1))), (5, .int (f_Rabs ((gl 9 0 i) - (gl 9 0 t)))), (4, .int ((gl 9 0 i) - (gl 9 0 t))), (3, .int ((gl 8 0 i) - (gl 8 0 t))), (0, .ref (ad 0 0)), (1, .int (nI t))]) hx hb d_TankArenaModel_look_136 hl (k := 5) rfl (nI_1 i) (by decide) rfl (fun ls hl => ?_)
                    refine lv_goto (tgt := 2) hx hb d_TankArenaModel_look_139 (by decide) ?_
                    exact ih (i + 1) gl hv0 (by omega) (by omega) (by rw [htg, L_Rlook, if_neg c_1, if_neg c_2, if_neg c_3, if_pos c_4, if_pos c_5, if_neg c_6, if_neg c_7]) _ _ Wd _ (lv_sub hl [4, 5, 0] rfl)
              · skip
                refine lv_iload_n hx hb d_TankArenaModel_look_83 rfl (lv_at hl 1 rfl) ?_
                refine kc_Si (As := [.int ((gl 8 0 i) - (gl 8 0 t))]) [] X Wd (k_f_Rabs l D cI cZ ad gl ((gl 8 0 i) - (gl 8 0 t))) cS_TankArenaModel_110 rfl rfl hl.1 ⟨rfl, rfl⟩ ⟨Nat.le_of_ble_eq_true rfl, Nat.le_of_ble_eq_true rfl⟩ (Nat.le_of_ble_eq_true rfl) ⟨Nat.zero_le _, Nat.zero_le _⟩ d_TankArenaModel_look_84 (fun r u H locs hp Wd => ?_)
                obtain ⟨hr, hu⟩ := hp
                rw [hu] at Wd
                rw [hr]
                clear hr hu
                refine lv_goto (tgt := 95) hx hb d_TankArenaModel_look_87 (by decide) ?_
                refine lv_istore (lv' := [(5, .int (f_Rabs ((gl 8 0 i) - (gl 8 0 t)))), (4, .int ((gl 9 0 i) - (gl 9 0 t))), (3, .int ((gl 8 0 i) - (gl 8 0 t))), (0, .ref (ad 0 0)), (1, .int (nI t)), (2, .int (nI i))]) hx hb d_TankArenaModel_look_95 hl (by decide) rfl (fun ls hl => ?_)
                refine lv_aload_n hx hb d_TankArenaModel_look_97 rfl (lv_at hl 3 rfl) ?_
                refine kx_get (k := 0) (i := 0) (v := .ref (ad 24 0)) X Wd (iy 0 (by decide)) rfl fg_TankArenaModel_80 rfl d_TankArenaModel_look_98 ?_
                refine lv_iload_n hx hb d_TankArenaModel_look_101 rfl (lv_at hl 4 rfl) ?_
                refine kx_iald (k := 24) (i := 0) (j := t) (t0 := 0) X Wd (iy 24 (by decide)) rell24 rfl rfl ht (by decide) d_TankArenaModel_look_102 ?_
                refine lv_iconst (v := 4) hx hb d_TankArenaModel_look_103 (by decide) ?_
                refine lv_icmp_ge (tgt := 121) hx hb d_TankArenaModel_look_104 (by decide) (fun c_8 => ?_) (fun c_8 => ?_)
                · skip
                  refine lv_aload_n hx hb d_TankArenaModel_look_121 rfl (lv_at hl 3 rfl) ?_
                  refine kx_get (k := 0) (i := 0) (v := .ref (ad 24 0)) X Wd (iy 0 (by decide)) rfl fg_TankArenaModel_80 rfl d_TankArenaModel_look_122 ?_
                  refine lv_iload_n hx hb d_TankArenaModel_look_125 rfl (lv_at hl 4 rfl) ?_
                  refine lv_iload_n hx hb d_TankArenaModel_look_126 rfl (lv_at hl 5 rfl) ?_
                  refine kx_iast (k := 24) (i := 0) (j := t) (t0 := 0) X Wd (iy 24 (by decide)) rell24 rfl rfl ht (by decide) d_TankArenaModel_look_127 (fun H locs Wd => ?_)
                  refine lv_aload_n hx hb d_TankArenaModel_look_128 rfl (lv_at hl 3 rfl) ?_
                  refine kx_get (k := 0) (i := 0) (v := .ref (ad 25 0)) X Wd (iy 0 (by decide)) rfl fg_TankArenaModel_83 rfl d_TankArenaModel_look_129 ?_
                  refine lv_iload_n hx hb d_TankArenaModel_look_132 rfl (lv_at hl 4 rfl) ?_
                  refine lv_iload hx hb d_TankArenaModel_look_133 (lv_at hl 0 rfl) ?_
                  refine kx_iast (k := 25) (i := 0) (j := t) (t0 := 0) X Wd (iy 25 (by decide)) rell25 rfl rfl ht (by decide) d_TankArenaModel_look_135 (fun H locs Wd => ?_)
                  refine lv_iinc (v := nI (i + 1)) (lv' := [(2, .int (nI (i + 1))), (5, .int (f_Rabs ((gl 8 0 i) - (gl 8 0 t)))), (4, .int ((gl 9 0 i) - (gl 9 0 t))), (3, .int ((gl 8 0 i) - (gl 8 0 t))), (0, .ref (ad 0 0)), (1, .int (nI t))]) hx hb d_TankArenaModel_look_136 hl (k := 5) rfl (nI_1 i) (by decide) rfl (fun ls hl => ?_)
                  refine lv_goto (tgt := 2) hx hb d_TankArenaModel_look_139 (by decide) ?_
                  exact ih (i + 1) (up3 (up3 gl 24 0 t (nI i)) 25 0 t (f_Rabs ((gl 8 0 i) - (gl 8 0 t)))) (by refine rokU ?_ rfl trivial; refine rokU ?_ rfl ⟨i, by omega, rfl⟩; exact hv0) (by omega) (by omega) (by rw [htg, L_Rlook, if_neg c_1, if_neg c_2, if_neg c_3, if_pos c_4, if_neg c_5, if_pos c_8]) _ _ Wd _ (lv_sub hl [4, 5, 0] rfl)
                · skip
                  refine lv_aload_n hx hb d_TankArenaModel_look_107 rfl (lv_at hl 3 rfl) ?_
                  refine kx_get (k := 0) (i := 0) (v := .ref (ad 25 0)) X Wd (iy 0 (by decide)) rfl fg_TankArenaModel_83 rfl d_TankArenaModel_look_108 ?_
                  refine lv_iload_n hx hb d_TankArenaModel_look_111 rfl (lv_at hl 4 rfl) ?_
                  refine kx_iald (k := 25) (i := 0) (j := t) (t0 := 0) X Wd (iy 25 (by decide)) rell25 rfl rfl ht (by decide) d_TankArenaModel_look_112 ?_
                  refine lv_iload hx hb d_TankArenaModel_look_113 (lv_at hl 0 rfl) ?_
                  refine lv_icmp_gt (tgt := 121) hx hb d_TankArenaModel_look_115 (by decide) (fun c_9 => ?_) (fun c_9 => ?_)
                  · skip
                    refine lv_aload_n hx hb d_TankArenaModel_look_121 rfl (lv_at hl 3 rfl) ?_
                    refine kx_get (k := 0) (i := 0) (v := .ref (ad 24 0)) X Wd (iy 0 (by decide)) rfl fg_TankArenaModel_80 rfl d_TankArenaModel_look_122 ?_
                    refine lv_iload_n hx hb d_TankArenaModel_look_125 rfl (lv_at hl 4 rfl) ?_
                    refine lv_iload_n hx hb d_TankArenaModel_look_126 rfl (lv_at hl 5 rfl) ?_
                    refine kx_iast (k := 24) (i := 0) (j := t) (t0 := 0) X Wd (iy 24 (by decide)) rell24 rfl rfl ht (by decide) d_TankArenaModel_look_127 (fun H locs Wd => ?_)
                    refine lv_aload_n hx hb d_TankArenaModel_look_128 rfl (lv_at hl 3 rfl) ?_
                    refine kx_get (k := 0) (i := 0) (v := .ref (ad 25 0)) X Wd (iy 0 (by decide)) rfl fg_TankArenaModel_83 rfl d_TankArenaModel_look_129 ?_
                    refine lv_iload_n hx hb d_TankArenaModel_look_132 rfl (lv_at hl 4 rfl) ?_
                    refine lv_iload hx hb d_TankArenaModel_look_133 (lv_at hl 0 rfl) ?_
                    refine kx_iast (k := 25) (i := 0) (j := t) (t0 := 0) X Wd (iy 25 (by decide)) rell25 rfl rfl ht (by decide) d_TankArenaModel_look_135 (fun H locs Wd => ?_)
                    refine lv_iinc (v := nI (i + 1)) (lv' := [(2, .int (nI (i + 1))), (5, .int (f_Rabs ((gl 8 0 i) - (gl 8 0 t)))), (4, .int ((gl 9 0 i) - (gl 9 0 t))), (3, .int ((gl 8 0 i) - (gl 8 0 t))), (0, .ref (ad 0 0)), (1, .int (nI t))]) hx hb d_TankArenaModel_look_136 hl (k := 5) rfl (nI_1 i) (by decide) rfl (fun ls hl => ?_)
                    refine lv_goto (tgt := 2) hx hb d_TankArenaModel_look_139 (by decide) ?_
                    exact ih (i + 1) (up3 (up3 gl 24 0 t (nI i)) 25 0 t (f_Rabs ((gl 8 0 i) - (gl 8 0 t)))) (by refine rokU ?_ rfl trivial; refine rokU ?_ rfl ⟨i, by omega, rfl⟩; exact hv0) (by omega) (by omega) (by rw [htg, L_Rlook, if_neg c_1, if_neg c_2, if_neg c_3, if_pos c_4, if_neg c_5, if_neg c_8, if_pos c_9]) _ _ Wd _ (lv_sub hl [4, 5, 0] rfl)
                  · skip
                    refine lv_goto (tgt := 136) hx hb d_TankArenaModel_look_118 (by decide) ?_
                    refine lv_iinc (v := nI (i + 1)) (lv' := [(2, .int (nI (i + 1))), (5, .int (f_Rabs ((gl 8 0 i) - (gl 8 0 t)))), (4, .int ((gl 9 0 i) - (gl 9 0 t))), (3, .int ((gl 8 0 i) - (gl 8 0 t))), (0, .ref (ad 0 0)), (1, .int (nI t))]) hx hb d_TankArenaModel_look_136 hl (k := 5) rfl (nI_1 i) (by decide) rfl (fun ls hl => ?_)
                    refine lv_goto (tgt := 2) hx hb d_TankArenaModel_look_139 (by decide) ?_
                    exact ih (i + 1) gl hv0 (by omega) (by omega) (by rw [htg, L_Rlook, if_neg c_1, if_neg c_2, if_neg c_3, if_pos c_4, if_neg c_5, if_neg c_8, if_neg c_9]) _ _ Wd _ (lv_sub hl [4, 5, 0] rfl)
            · skip
              refine lv_goto (tgt := 136) hx hb d_TankArenaModel_look_68 (by decide) ?_
              refine lv_iinc (v := nI (i + 1)) (lv' := [(2, .int (nI (i + 1))), (4, .int ((gl 9 0 i) - (gl 9 0 t))), (3, .int ((gl 8 0 i) - (gl 8 0 t))), (0, .ref (ad 0 0)), (1, .int (nI t))]) hx hb d_TankArenaModel_look_136 hl (k := 4) rfl (nI_1 i) (by decide) rfl (fun ls hl => ?_)
              refine lv_goto (tgt := 2) hx hb d_TankArenaModel_look_139 (by decide) ?_
              exact ih (i + 1) gl hv0 (by omega) (by omega) (by rw [htg, L_Rlook, if_neg c_1, if_neg c_2, if_neg c_3, if_neg c_4]) _ _ Wd _ (lv_sub hl [3, 4, 0] rfl)
  exact loop 5 0 g ok (by omega) (by omega) (by rw [g_Rlook]) _ _ Wd _ (lv_sub hl [1, 2, 0] rfl)
abbrev RM_x_Rrestart : Room := { frames := 2, cells := 0, slots := 0, locals := 42 }
set_option maxHeartbeats 1000000 in
set_option maxRecDepth 100000 in
theorem k_x_Rrestart (l : Launch) (D : va_G) (cI cZ : ClassId) (ad : Nat → Nat → Nat) (g : SG) (N : Nat) (ok : RokN N g) : RI l y_TankArenaModel_restart b_TankArenaModel_restart 3 (some .int) RM_x_Rrestart D cI cZ ad [.ref (ad 0 0)] g (fun (r : Int32) (u : SG) => r = (x_Rrestart g).1 ∧ u = (x_Rrestart g).2) := by
  refine met_of (cc := b_TankArenaModel_restart) (nL := 3) (ret := (some .int)) (by decide) rfl (Nat.le_of_ble_eq_true rfl) ?_
  intro p e s m below meth c X hnm Wd ls hl
  have X := X.tt
  have hx := X.1
  have hb := X.2.1
  have hown := X.2.2.2.1
  have hts := X.2.2.2.2.1
  have hl : lv_has ls 3 [(0, .ref (ad 0 0))] := hl
  have Wd : WR D cI cZ ad (va_A (gR cI cZ ad g) s.heap.size) s.heap g s.heap [] := Wd
  obtain ⟨hN4, eN⟩ := ok.N
  refine lv_aload_n hx hb d_TankArenaModel_restart_0 rfl (lv_at hl 0 rfl) ?_
  refine kx_geto (k := 0) (i := 0) 1 (g 0 0 1) X Wd (iy 0 (by decide)) rell0 fg_TankArenaModel_118 (fun _ => rfl) rfl d_TankArenaModel_restart_1 ?_
  refine lv_istore_n (lv' := [(1, .int (g 0 0 1)), (0, .ref (ad 0 0))]) hx hb d_TankArenaModel_restart_4 rfl hl (by decide) rfl (fun ls hl => ?_)
  refine lv_aload_n hx hb d_TankArenaModel_restart_5 rfl (lv_at hl 1 rfl) ?_
  refine lv_iconst (v := 0) hx hb d_TankArenaModel_restart_6 (by decide) ?_
  refine kx_puto (k := 0) (i := 0) (v := 0) 1 X Wd (iy 0 (by decide)) rell0 fp_TankArenaModel_118 (fun _ => rfl) (fun _ => Nat.le_of_ble_eq_true rfl) rfl rfl d_TankArenaModel_restart_7 (fun H locs Wd => ?_)
  refine lv_aload_n hx hb d_TankArenaModel_restart_10 rfl (lv_at hl 1 rfl) ?_
  refine lv_iconst (v := 0) hx hb d_TankArenaModel_restart_11 (by decide) ?_
  refine kx_puto (k := 0) (i := 0) (v := 0) 2 X Wd (iy 0 (by decide)) rell0 fp_TankArenaModel_153 (fun _ => rfl) (fun _ => Nat.le_of_ble_eq_true rfl) rfl rfl d_TankArenaModel_restart_12 (fun H locs Wd => ?_)
  refine lv_aload_n hx hb d_TankArenaModel_restart_15 rfl (lv_at hl 1 rfl) ?_
  refine lv_iconst (v := 0) hx hb d_TankArenaModel_restart_16 (by decide) ?_
  refine kx_puto (k := 0) (i := 0) (v := 0) 3 X Wd (iy 0 (by decide)) rell0 fp_TankArenaModel_156 (fun _ => rfl) (fun _ => Nat.le_of_ble_eq_true rfl) rfl rfl d_TankArenaModel_restart_17 (fun H locs Wd => ?_)
  refine lv_aload_n hx hb d_TankArenaModel_restart_20 rfl (lv_at hl 1 rfl) ?_
  refine lv_iconst (v := 0) hx hb d_TankArenaModel_restart_21 (by decide) ?_
  refine kx_puto (k := 0) (i := 0) (v := 0) 4 X Wd (iy 0 (by decide)) rell0 fp_TankArenaModel_150 (fun _ => rfl) (fun _ => Nat.le_of_ble_eq_true rfl) rfl rfl d_TankArenaModel_restart_22 (fun H locs Wd => ?_)
  refine lv_iconst (v := 0) hx hb d_TankArenaModel_restart_25 (by decide) ?_
  refine lv_istore_n (lv' := [(2, .int 0), (1, .int (g 0 0 1)), (0, .ref (ad 0 0))]) hx hb d_TankArenaModel_restart_26 rfl hl (by decide) rfl (fun ls hl => ?_)
  have loop : ∀ (n : Nat) (made : Int32) (i : Nat) (gl : SG), RokN N gl → i ≤ N → N + 1 ≤ i + n → x_Rrestart g = L_Rrestart n made i gl → ∀ (H : Heap) (locs : List Loc), WR D cI cZ ad (va_A (gR cI cZ ad g) s.heap.size) s.heap gl H locs → ∀ ls : Array Slot, lv_has ls 3 [(0, .ref (ad 0 0)), (1, .int made), (2, .int (nI i))] → W p l e RM_x_Rrestart s m [.ref (ad 0 0)].toArray below meth c H locs 0 0 (YI D cI cZ ad below [.ref (ad 0 0)] s g (fun (r : Int32) (u : SG) => r = (x_Rrestart g).1 ∧ u = (x_Rrestart g).2)) (F0 m 27 ls []) := by
    intro n
    induction n with
    | zero =>
      intro made i gl hv0 hv1 hv2
      exfalso
      omega
    | succ n ih =>
      intro made i gl hv0 hv1 hv2 htg H locs Wd ls hl
      obtain ⟨hN4, eN⟩ := hv0.N
      refine lv_iload_n hx hb d_TankArenaModel_restart_27 rfl (lv_at hl 2 rfl) ?_
      refine lv_aload_n hx hb d_TankArenaModel_restart_28 rfl (lv_at hl 0 rfl) ?_
      refine kx_geto (k := 0) (i := 0) 0 (gl 0 0 0) X Wd (iy 0 (by decide)) rell0 fg_TankArenaModel_122 (fun _ => rfl) rfl d_TankArenaModel_restart_29 ?_
      refine lv_icmp_ge (tgt := 46) hx hb d_TankArenaModel_restart_32 (by decide) (fun c_1 => ?_) (fun c_1 => ?_)
      · skip
        refine lv_iload_n hx hb d_TankArenaModel_restart_46 rfl (lv_at hl 1 rfl) ?_
        exact kx_iret (u := gl) X rfl Wd (by rw [htg, L_Rrestart, if_pos c_1]; dsimp only; exact ⟨rfl, rfl⟩) d_TankArenaModel_restart_47
      · skip
        have hiN : i < N := nlt_of eN (by omega) (by omega) c_1
        have hi : i < 4 := by omega
        refine lv_aload_n hx hb d_TankArenaModel_restart_35 rfl (lv_at hl 0 rfl) ?_
        refine lv_iload_n hx hb d_TankArenaModel_restart_36 rfl (lv_at hl 2 rfl) ?_
        refine kc_Vv (As := [.int (nI i)]) [] X Wd (k_g_Rreset l D cI cZ ad gl i (by omega) (nI i) rfl) cV_TankArenaModel_126 (kx_recv (k := 0) (i := 0) X Wd (iy 0 (by decide)) rfl rfl) rfl rfl hl.1 ⟨rfl, rfl⟩ ⟨Nat.le_of_ble_eq_true rfl, Nat.le_of_ble_eq_true rfl⟩ (Nat.le_of_ble_eq_true rfl) ⟨Nat.zero_le _, Nat.zero_le _⟩ d_TankArenaModel_restart_37 (fun u H locs hp Wd => ?_)
        rw [hp] at Wd
        clear hp
        have Wd : WR D cI cZ ad _ s.heap (g_Rreset gl i) H locs := Wd
        refine lv_iinc (v := nI (i + 1)) (lv' := [(2, .int (nI (i + 1))), (0, .ref (ad 0 0)), (1, .int made)]) hx hb d_TankArenaModel_restart_40 hl (k := 2) rfl (nI_1 i) (by decide) rfl (fun ls hl => ?_)
        refine lv_goto (tgt := 27) hx hb d_TankArenaModel_restart_43 (by decide) ?_
        exact ih made (i + 1) (g_Rreset gl i) (by refine ok_g_Rreset ?_ i; exact hv0) (by omega) (by omega) (by rw [htg, L_Rrestart, if_neg c_1]) _ _ Wd _ (lv_sub hl [1, 2, 0] rfl)
  exact loop 5 (g 0 0 1) 0 (up3 (up3 (up3 (up3 g 0 0 1 0) 0 0 2 0) 0 0 3 0) 0 0 4 0) (by refine rokU ?_ rfl trivial; refine rokU ?_ rfl trivial; refine rokU ?_ rfl trivial; refine rokU ?_ rfl trivial; exact ok) (by omega) (by omega) (by rw [x_Rrestart]) _ _ Wd _ (lv_sub hl [2, 1, 0] rfl)
abbrev RM_f_Rmeasure : Room := { frames := 0, cells := 0, slots := 0, locals := 0 }
set_option maxHeartbeats 1000000 in
set_option maxRecDepth 100000 in
theorem k_f_Rmeasure (l : Launch) (D : va_G) (cI cZ : ClassId) (ad : Nat → Nat → Nat) (g : SG) (tank : Int32) (what : Int32) (N : Nat) (ok : RokN N g) : RL l y_TankArenaModel_measure b_TankArenaModel_measure 3 (some .long) RM_f_Rmeasure D cI cZ ad [.ref (ad 0 0), .int tank, .int what] g (fun (r : Int64) (u : SG) => r = f_Rmeasure g tank what ∧ u = g) := by
  refine met_of (cc := b_TankArenaModel_measure) (nL := 3) (ret := (some .long)) (by decide) rfl (Nat.le_of_ble_eq_true rfl) ?_
  intro p e s m below meth c X hnm Wd ls hl
  have X := X.tt
  have hx := X.1
  have hb := X.2.1
  have hown := X.2.2.2.1
  have hts := X.2.2.2.2.1
  have hl : lv_has ls 3 [(0, .ref (ad 0 0)), (1, .int tank), (2, .int what)] := hl
  have Wd : WR D cI cZ ad (va_A (gR cI cZ ad g) s.heap.size) s.heap g s.heap [] := Wd
  refine lv_iload_n hx hb d_TankArenaModel_measure_0 rfl (lv_at hl 1 rfl) ?_
  refine lv_if_lt (tgt := 12) hx hb d_TankArenaModel_measure_1 (by decide) (fun c_1 => ?_) (fun c_1 => ?_)
  · skip
    refine lv_ldc2 (v := -1000000) hx hb hown (hts _ w_33acf5bc49) d_TankArenaModel_measure_12 ?_
    exact kx_lret (u := g) X Wd ⟨by rw [f_Rmeasure, if_pos c_1], rfl⟩ d_TankArenaModel_measure_15
  · skip
    refine lv_iload_n hx hb d_TankArenaModel_measure_4 rfl (lv_at hl 1 rfl) ?_
    refine lv_aload_n hx hb d_TankArenaModel_measure_5 rfl (lv_at hl 0 rfl) ?_
    refine kx_geto (k := 0) (i := 0) 0 (g 0 0 0) X Wd (iy 0 (by decide)) rell0 fg_TankArenaModel_122 (fun _ => rfl) rfl d_TankArenaModel_measure_6 ?_
    refine lv_icmp_lt (tgt := 16) hx hb d_TankArenaModel_measure_9 (by decide) (fun c_2 => ?_) (fun c_2 => ?_)
    · skip
      obtain ⟨es, hs⟩ := tank_j2 ok c_1 c_2
      refine lv_iload_n hx hb d_TankArenaModel_measure_16 rfl (lv_at hl 2 rfl) ?_
      by_cases c_3 : what = 0
      · skip
        refine lv_tableIn (tgt := 64) hx hb d_TankArenaModel_measure_17 (by rw [c_3]; decide) (by rw [c_3]; decide) (by rw [c_3]; rfl) (by decide) ?_
        refine lv_aload_n hx hb d_TankArenaModel_measure_64 rfl (lv_at hl 0 rfl) ?_
        refine kx_get (k := 0) (i := 0) (v := .ref (ad 8 0)) X Wd (iy 0 (by decide)) rfl fg_TankArenaModel_31 rfl d_TankArenaModel_measure_65 ?_
        refine lv_iload_n hx hb d_TankArenaModel_measure_68 rfl (lv_at hl 1 rfl) ?_
        refine kx_iald (k := 8) (i := 0) (j := tank.toNatClampNeg) (t0 := 0) X Wd (iy 8 (by decide)) rell8 rfl es hs (by decide) d_TankArenaModel_measure_69 ?_
        refine lv_i2l hx hb d_TankArenaModel_measure_70 rfl ?_
        exact kx_lret (u := g) X Wd ⟨by rw [f_Rmeasure, if_neg c_1, if_pos c_2, if_pos c_3], rfl⟩ d_TankArenaModel_measure_71
      by_cases c_4 : what = 1
      · skip
        refine lv_tableIn (tgt := 72) hx hb d_TankArenaModel_measure_17 (by rw [c_4]; decide) (by rw [c_4]; decide) (by rw [c_4]; rfl) (by decide) ?_
        refine lv_aload_n hx hb d_TankArenaModel_measure_72 rfl (lv_at hl 0 rfl) ?_
        refine kx_get (k := 0) (i := 0) (v := .ref (ad 9 0)) X Wd (iy 0 (by decide)) rfl fg_TankArenaModel_34 rfl d_TankArenaModel_measure_73 ?_
        refine lv_iload_n hx hb d_TankArenaModel_measure_76 rfl (lv_at hl 1 rfl) ?_
        refine kx_iald (k := 9) (i := 0) (j := tank.toNatClampNeg) (t0 := 0) X Wd (iy 9 (by decide)) rell9 rfl es hs (by decide) d_TankArenaModel_measure_77 ?_
        refine lv_i2l hx hb d_TankArenaModel_measure_78 rfl ?_
        exact kx_lret (u := g) X Wd ⟨by rw [f_Rmeasure, if_neg c_1, if_pos c_2, if_neg c_3, if_pos c_4], rfl⟩ d_TankArenaModel_measure_79
      by_cases c_5 : what = 2
      · skip
        refine lv_tableIn (tgt := 80) hx hb d_TankArenaModel_measure_17 (by rw [c_5]; decide) (by rw [c_5]; decide) (by rw [c_5]; rfl) (by decide) ?_
        refine lv_aload_n hx hb d_TankArenaModel_measure_80 rfl (lv_at hl 0 rfl) ?_
        refine kx_get (k := 0) (i := 0) (v := .ref (ad 13 0)) X Wd (iy 0 (by decide)) rfl fg_TankArenaModel_46 rfl d_TankArenaModel_measure_81 ?_
        refine lv_iload_n hx hb d_TankArenaModel_measure_84 rfl (lv_at hl 1 rfl) ?_
        refine kx_iald (k := 13) (i := 0) (j := tank.toNatClampNeg) (t0 := 0) X Wd (iy 13 (by decide)) rell13 rfl es hs (by decide) d_TankArenaModel_measure_85 ?_
        refine lv_i2l hx hb d_TankArenaModel_measure_86 rfl ?_
        exact kx_lret (u := g) X Wd ⟨by rw [f_Rmeasure, if_neg c_1, if_pos c_2, if_neg c_3, if_neg c_4, if_pos c_5], rfl⟩ d_TankArenaModel_measure_87
      by_cases c_6 : what = 3
      · skip
        refine lv_tableIn (tgt := 88) hx hb d_TankArenaModel_measure_17 (by rw [c_6]; decide) (by rw [c_6]; decide) (by rw [c_6]; rfl) (by decide) ?_
        refine lv_aload_n hx hb d_TankArenaModel_measure_88 rfl (lv_at hl 0 rfl) ?_
        refine kx_get (k := 0) (i := 0) (v := .ref (ad 15 0)) X Wd (iy 0 (by decide)) rfl fg_TankArenaModel_52 rfl d_TankArenaModel_measure_89 ?_
        refine lv_iload_n hx hb d_TankArenaModel_measure_92 rfl (lv_at hl 1 rfl) ?_
        refine kx_iald (k := 15) (i := 0) (j := tank.toNatClampNeg) (t0 := 0) X Wd (iy 15 (by decide)) rell15 rfl es hs (by decide) d_TankArenaModel_measure_93 ?_
        refine lv_i2l hx hb d_TankArenaModel_measure_94 rfl ?_
        exact kx_lret (u := g) X Wd ⟨by rw [f_Rmeasure, if_neg c_1, if_pos c_2, if_neg c_3, if_neg c_4, if_neg c_5, if_pos c_6], rfl⟩ d_TankArenaModel_measure_95
      by_cases c_7 : what = 4
      · skip
        refine lv_tableIn (tgt := 96) hx hb d_TankArenaModel_measure_17 (by rw [c_7]; decide) (by rw [c_7]; decide) (by rw [c_7]; rfl) (by decide) ?_
        refine lv_aload_n hx hb d_TankArenaModel_measure_96 rfl (lv_at hl 0 rfl) ?_
        refine kx_get (k := 0) (i := 0) (v := .ref (ad 16 0)) X Wd (iy 0 (by decide)) rfl fg_TankArenaModel_55 rfl d_TankArenaModel_measure_97 ?_
        refine lv_iload_n hx hb d_TankArenaModel_measure_100 rfl (lv_at hl 1 rfl) ?_
        refine kx_iald (k := 16) (i := 0) (j := tank.toNatClampNeg) (t0 := 0) X Wd (iy 16 (by decide)) rell16 rfl es hs (by decide) d_TankArenaModel_measure_101 ?_
        refine lv_i2l hx hb d_TankArenaModel_measure_102 rfl ?_
        exact kx_lret (u := g) X Wd ⟨by rw [f_Rmeasure, if_neg c_1, if_pos c_2, if_neg c_3, if_neg c_4, if_neg c_5, if_neg c_6, if_pos c_7], rfl⟩ d_TankArenaModel_measure_103
      by_cases c_8 : what = 5
      · skip
        refine lv_tableIn (tgt := 104) hx hb d_TankArenaModel_measure_17 (by rw [c_8]; decide) (by rw [c_8]; decide) (by rw [c_8]; rfl) (by decide) ?_
        refine lv_aload_n hx hb d_TankArenaModel_measure_104 rfl (lv_at hl 0 rfl) ?_
        refine kx_get (k := 0) (i := 0) (v := .ref (ad 14 0)) X Wd (iy 0 (by decide)) rfl fg_TankArenaModel_49 rfl d_TankArenaModel_measure_105 ?_
        refine lv_iload_n hx hb d_TankArenaModel_measure_108 rfl (lv_at hl 1 rfl) ?_
        refine kx_iald (k := 14) (i := 0) (j := tank.toNatClampNeg) (t0 := 0) X Wd (iy 14 (by decide)) rell14 rfl es hs (by decide) d_TankArenaModel_measure_109 ?_
        refine lv_i2l hx hb d_TankArenaModel_measure_110 rfl ?_
        exact kx_lret (u := g) X Wd ⟨by rw [f_Rmeasure, if_neg c_1, if_pos c_2, if_neg c_3, if_neg c_4, if_neg c_5, if_neg c_6, if_neg c_7, if_pos c_8], rfl⟩ d_TankArenaModel_measure_111
      by_cases c_9 : what = 6
      · skip
        refine lv_tableIn (tgt := 112) hx hb d_TankArenaModel_measure_17 (by rw [c_9]; decide) (by rw [c_9]; decide) (by rw [c_9]; rfl) (by decide) ?_
        refine lv_aload_n hx hb d_TankArenaModel_measure_112 rfl (lv_at hl 0 rfl) ?_
        refine kx_get (k := 0) (i := 0) (v := .ref (ad 20 0)) X Wd (iy 0 (by decide)) rfl fg_TankArenaModel_67 rfl d_TankArenaModel_measure_113 ?_
        refine lv_iload_n hx hb d_TankArenaModel_measure_116 rfl (lv_at hl 1 rfl) ?_
        refine kx_iald (k := 20) (i := 0) (j := tank.toNatClampNeg) (t0 := 0) X Wd (iy 20 (by decide)) rell20 rfl es hs (by decide) d_TankArenaModel_measure_117 ?_
        refine lv_i2l hx hb d_TankArenaModel_measure_118 rfl ?_
        exact kx_lret (u := g) X Wd ⟨by rw [f_Rmeasure, if_neg c_1, if_pos c_2, if_neg c_3, if_neg c_4, if_neg c_5, if_neg c_6, if_neg c_7, if_neg c_8, if_pos c_9], rfl⟩ d_TankArenaModel_measure_119
      by_cases c_10 : what = 7
      · skip
        refine lv_tableIn (tgt := 120) hx hb d_TankArenaModel_measure_17 (by rw [c_10]; decide) (by rw [c_10]; decide) (by rw [c_10]; rfl) (by decide) ?_
        refine lv_aload_n hx hb d_TankArenaModel_measure_120 rfl (lv_at hl 0 rfl) ?_
        refine kx_get (k := 0) (i := 0) (v := .ref (ad 25 0)) X Wd (iy 0 (by decide)) rfl fg_TankArenaModel_83 rfl d_TankArenaModel_measure_121 ?_
        refine lv_iload_n hx hb d_TankArenaModel_measure_124 rfl (lv_at hl 1 rfl) ?_
        refine kx_iald (k := 25) (i := 0) (j := tank.toNatClampNeg) (t0 := 0) X Wd (iy 25 (by decide)) rell25 rfl es hs (by decide) d_TankArenaModel_measure_125 ?_
        refine lv_i2l hx hb d_TankArenaModel_measure_126 rfl ?_
        exact kx_lret (u := g) X Wd ⟨by rw [f_Rmeasure, if_neg c_1, if_pos c_2, if_neg c_3, if_neg c_4, if_neg c_5, if_neg c_6, if_neg c_7, if_neg c_8, if_neg c_9, if_pos c_10], rfl⟩ d_TankArenaModel_measure_127
      refine lv_tableOut (tgt := 128) hx hb d_TankArenaModel_measure_17 (by have q0 := neI (0) rfl c_3; have q1 := neI (1) rfl c_4; have q2 := neI (2) rfl c_5; have q3 := neI (3) rfl c_6; have q4 := neI (4) rfl c_7; have q5 := neI (5) rfl c_8; have q6 := neI (6) rfl c_9; have q7 := neI (7) rfl c_10; omega) (by decide) ?_
      refine lv_ldc2 (v := -1000000) hx hb hown (hts _ w_33acf5bc49) d_TankArenaModel_measure_128 ?_
      exact kx_lret (u := g) X Wd ⟨by rw [f_Rmeasure, if_neg c_1, if_pos c_2, if_neg c_3, if_neg c_4, if_neg c_5, if_neg c_6, if_neg c_7, if_neg c_8, if_neg c_9, if_neg c_10], rfl⟩ d_TankArenaModel_measure_131
    · skip
      refine lv_ldc2 (v := -1000000) hx hb hown (hts _ w_33acf5bc49) d_TankArenaModel_measure_12 ?_
      exact kx_lret (u := g) X Wd ⟨by rw [f_Rmeasure, if_neg c_1, if_neg c_2], rfl⟩ d_TankArenaModel_measure_15
abbrev RM_f_Rstate : Room := { frames := 0, cells := 0, slots := 0, locals := 0 }
set_option maxHeartbeats 1000000 in
set_option maxRecDepth 100000 in
theorem k_f_Rstate (l : Launch) (D : va_G) (cI cZ : ClassId) (ad : Nat → Nat → Nat) (g : SG) (tank : Int32) (what : Int32) (N : Nat) (ok : RokN N g) : RI l y_TankArenaModel_state b_TankArenaModel_state 3 (some .int) RM_f_Rstate D cI cZ ad [.ref (ad 0 0), .int tank, .int what] g (fun (r : Int32) (u : SG) => r = f_Rstate g tank what ∧ u = g) := by
  refine met_of (cc := b_TankArenaModel_state) (nL := 3) (ret := (some .int)) (by decide) rfl (Nat.le_of_ble_eq_true rfl) ?_
  intro p e s m below meth c X hnm Wd ls hl
  have X := X.tt
  have hx := X.1
  have hb := X.2.1
  have hown := X.2.2.2.1
  have hts := X.2.2.2.2.1
  have hl : lv_has ls 3 [(0, .ref (ad 0 0)), (1, .int tank), (2, .int what)] := hl
  have Wd : WR D cI cZ ad (va_A (gR cI cZ ad g) s.heap.size) s.heap g s.heap [] := Wd
  refine lv_iload_n hx hb d_TankArenaModel_state_0 rfl (lv_at hl 1 rfl) ?_
  refine lv_if_lt (tgt := 12) hx hb d_TankArenaModel_state_1 (by decide) (fun c_1 => ?_) (fun c_1 => ?_)
  · skip
    refine lv_ldc (v := -1000000) hx hb hown (hts _ w_bc879909c1) d_TankArenaModel_state_12 ?_
    exact kx_iret (u := g) X rfl Wd ⟨by rw [f_Rstate, if_pos c_1], rfl⟩ d_TankArenaModel_state_14
  · skip
    refine lv_iload_n hx hb d_TankArenaModel_state_4 rfl (lv_at hl 1 rfl) ?_
    refine lv_aload_n hx hb d_TankArenaModel_state_5 rfl (lv_at hl 0 rfl) ?_
    refine kx_geto (k := 0) (i := 0) 0 (g 0 0 0) X Wd (iy 0 (by decide)) rell0 fg_TankArenaModel_122 (fun _ => rfl) rfl d_TankArenaModel_state_6 ?_
    refine lv_icmp_lt (tgt := 15) hx hb d_TankArenaModel_state_9 (by decide) (fun c_2 => ?_) (fun c_2 => ?_)
    · skip
      obtain ⟨es, hs⟩ := tank_j2 ok c_1 c_2
      refine lv_iload_n hx hb d_TankArenaModel_state_15 rfl (lv_at hl 2 rfl) ?_
      by_cases c_3 : what = 0
      · skip
        refine lv_tableIn (tgt := 76) hx hb d_TankArenaModel_state_16 (by rw [c_3]; decide) (by rw [c_3]; decide) (by rw [c_3]; rfl) (by decide) ?_
        refine lv_aload_n hx hb d_TankArenaModel_state_76 rfl (lv_at hl 0 rfl) ?_
        refine kx_get (k := 0) (i := 0) (v := .ref (ad 10 0)) X Wd (iy 0 (by decide)) rfl fg_TankArenaModel_37 rfl d_TankArenaModel_state_77 ?_
        refine lv_iload_n hx hb d_TankArenaModel_state_80 rfl (lv_at hl 1 rfl) ?_
        refine kx_iald (k := 10) (i := 0) (j := tank.toNatClampNeg) (t0 := 0) X Wd (iy 10 (by decide)) rell10 rfl es hs (by decide) d_TankArenaModel_state_81 ?_
        exact kx_iret (u := g) X rfl Wd ⟨by rw [f_Rstate, if_neg c_1, if_pos c_2, if_pos c_3], rfl⟩ d_TankArenaModel_state_82
      by_cases c_4 : what = 1
      · skip
        refine lv_tableIn (tgt := 83) hx hb d_TankArenaModel_state_16 (by rw [c_4]; decide) (by rw [c_4]; decide) (by rw [c_4]; rfl) (by decide) ?_
        refine lv_aload_n hx hb d_TankArenaModel_state_83 rfl (lv_at hl 0 rfl) ?_
        refine kx_get (k := 0) (i := 0) (v := .ref (ad 11 0)) X Wd (iy 0 (by decide)) rfl fg_TankArenaModel_40 rfl d_TankArenaModel_state_84 ?_
        refine lv_iload_n hx hb d_TankArenaModel_state_87 rfl (lv_at hl 1 rfl) ?_
        refine kx_iald (k := 11) (i := 0) (j := tank.toNatClampNeg) (t0 := 0) X Wd (iy 11 (by decide)) rell11 rfl es hs (by decide) d_TankArenaModel_state_88 ?_
        exact kx_iret (u := g) X rfl Wd ⟨by rw [f_Rstate, if_neg c_1, if_pos c_2, if_neg c_3, if_pos c_4], rfl⟩ d_TankArenaModel_state_89
      by_cases c_5 : what = 2
      · skip
        refine lv_tableIn (tgt := 90) hx hb d_TankArenaModel_state_16 (by rw [c_5]; decide) (by rw [c_5]; decide) (by rw [c_5]; rfl) (by decide) ?_
        refine lv_aload_n hx hb d_TankArenaModel_state_90 rfl (lv_at hl 0 rfl) ?_
        refine kx_get (k := 0) (i := 0) (v := .ref (ad 12 0)) X Wd (iy 0 (by decide)) rfl fg_TankArenaModel_43 rfl d_TankArenaModel_state_91 ?_
        refine lv_iload_n hx hb d_TankArenaModel_state_94 rfl (lv_at hl 1 rfl) ?_
        refine kx_iald (k := 12) (i := 0) (j := tank.toNatClampNeg) (t0 := 0) X Wd (iy 12 (by decide)) rell12 rfl es hs (by decide) d_TankArenaModel_state_95 ?_
        exact kx_iret (u := g) X rfl Wd ⟨by rw [f_Rstate, if_neg c_1, if_pos c_2, if_neg c_3, if_neg c_4, if_pos c_5], rfl⟩ d_TankArenaModel_state_96
      by_cases c_6 : what = 3
      · skip
        refine lv_tableIn (tgt := 97) hx hb d_TankArenaModel_state_16 (by rw [c_6]; decide) (by rw [c_6]; decide) (by rw [c_6]; rfl) (by decide) ?_
        refine lv_aload_n hx hb d_TankArenaModel_state_97 rfl (lv_at hl 0 rfl) ?_
        refine kx_get (k := 0) (i := 0) (v := .ref (ad 21 0)) X Wd (iy 0 (by decide)) rfl fg_TankArenaModel_70 rfl d_TankArenaModel_state_98 ?_
        refine lv_iload_n hx hb d_TankArenaModel_state_101 rfl (lv_at hl 1 rfl) ?_
        refine kx_zald2 (k := 21) (i := 0) (j := tank.toNatClampNeg) (t0 := 1) (g 21 0 tank.toNatClampNeg) X Wd (iy 21 (by decide)) rell21 rfl es hs (by decide) rfl d_TankArenaModel_state_102 ?_
        refine lv_if_eq (tgt := 110) hx hb d_TankArenaModel_state_103 (by decide) (fun c_7 => ?_) (fun c_7 => ?_)
        · skip
          refine lv_iconst (v := 0) hx hb d_TankArenaModel_state_110 (by decide) ?_
          exact kx_iret (u := g) X rfl Wd ⟨by rw [f_Rstate, if_neg c_1, if_pos c_2, if_neg c_3, if_neg c_4, if_neg c_5, if_pos c_6, if_pos c_7], rfl⟩ d_TankArenaModel_state_111
        · skip
          refine lv_iconst (v := 1) hx hb d_TankArenaModel_state_106 (by decide) ?_
          refine lv_goto (tgt := 111) hx hb d_TankArenaModel_state_107 (by decide) ?_
          exact kx_iret (u := g) X rfl Wd ⟨by rw [f_Rstate, if_neg c_1, if_pos c_2, if_neg c_3, if_neg c_4, if_neg c_5, if_pos c_6, if_neg c_7], rfl⟩ d_TankArenaModel_state_111
      by_cases c_8 : what = 4
      · skip
        refine lv_tableIn (tgt := 112) hx hb d_TankArenaModel_state_16 (by rw [c_8]; decide) (by rw [c_8]; decide) (by rw [c_8]; rfl) (by decide) ?_
        refine lv_aload_n hx hb d_TankArenaModel_state_112 rfl (lv_at hl 0 rfl) ?_
        refine kx_get (k := 0) (i := 0) (v := .ref (ad 19 0)) X Wd (iy 0 (by decide)) rfl fg_TankArenaModel_64 rfl d_TankArenaModel_state_113 ?_
        refine lv_iload_n hx hb d_TankArenaModel_state_116 rfl (lv_at hl 1 rfl) ?_
        refine kx_iald (k := 19) (i := 0) (j := tank.toNatClampNeg) (t0 := 0) X Wd (iy 19 (by decide)) rell19 rfl es hs (by decide) d_TankArenaModel_state_117 ?_
        exact kx_iret (u := g) X rfl Wd ⟨by rw [f_Rstate, if_neg c_1, if_pos c_2, if_neg c_3, if_neg c_4, if_neg c_5, if_neg c_6, if_pos c_8], rfl⟩ d_TankArenaModel_state_118
      by_cases c_9 : what = 5
      · skip
        refine lv_tableIn (tgt := 119) hx hb d_TankArenaModel_state_16 (by rw [c_9]; decide) (by rw [c_9]; decide) (by rw [c_9]; rfl) (by decide) ?_
        refine lv_aload_n hx hb d_TankArenaModel_state_119 rfl (lv_at hl 0 rfl) ?_
        refine kx_get (k := 0) (i := 0) (v := .ref (ad 17 0)) X Wd (iy 0 (by decide)) rfl fg_TankArenaModel_58 rfl d_TankArenaModel_state_120 ?_
        refine lv_iload_n hx hb d_TankArenaModel_state_123 rfl (lv_at hl 1 rfl) ?_
        refine kx_iald (k := 17) (i := 0) (j := tank.toNatClampNeg) (t0 := 0) X Wd (iy 17 (by decide)) rell17 rfl es hs (by decide) d_TankArenaModel_state_124 ?_
        exact kx_iret (u := g) X rfl Wd ⟨by rw [f_Rstate, if_neg c_1, if_pos c_2, if_neg c_3, if_neg c_4, if_neg c_5, if_neg c_6, if_neg c_8, if_pos c_9], rfl⟩ d_TankArenaModel_state_125
      by_cases c_10 : what = 6
      · skip
        refine lv_tableIn (tgt := 126) hx hb d_TankArenaModel_state_16 (by rw [c_10]; decide) (by rw [c_10]; decide) (by rw [c_10]; rfl) (by decide) ?_
        obtain ⟨er, hrg⟩ := regs_j (what := what) c_10 es hs
        refine lv_aload_n hx hb d_TankArenaModel_state_126 rfl (lv_at hl 0 rfl) ?_
        refine kx_get (k := 0) (i := 0) (v := .ref (ad 18 0)) X Wd (iy 0 (by decide)) rfl fg_TankArenaModel_61 rfl d_TankArenaModel_state_127 ?_
        refine lv_iconst (v := 2) hx hb d_TankArenaModel_state_130 (by decide) ?_
        refine lv_iload_n hx hb d_TankArenaModel_state_131 rfl (lv_at hl 1 rfl) ?_
        refine lv_imul hx hb d_TankArenaModel_state_132 ?_
        refine lv_iload_n hx hb d_TankArenaModel_state_133 rfl (lv_at hl 2 rfl) ?_
        refine lv_iadd hx hb d_TankArenaModel_state_134 ?_
        refine lv_bipush (v := 6) hx hb d_TankArenaModel_state_135 (by decide) ?_
        refine lv_isub hx hb d_TankArenaModel_state_137 ?_
        refine kx_iald (k := 18) (i := 0) (j := 2 * tank.toNatClampNeg + (what.toNatClampNeg - 6)) (t0 := 0) X Wd (iy 18 (by decide)) rell18 rfl er hrg (by decide) d_TankArenaModel_state_138 ?_
        exact kx_iret (u := g) X rfl Wd ⟨by rw [f_Rstate, if_neg c_1, if_pos c_2, if_neg c_3, if_neg c_4, if_neg c_5, if_neg c_6, if_neg c_8, if_neg c_9, if_pos c_10], rfl⟩ d_TankArenaModel_state_139
      by_cases c_11 : what = 7
      · skip
        refine lv_tableIn (tgt := 126) hx hb d_TankArenaModel_state_16 (by rw [c_11]; decide) (by rw [c_11]; decide) (by rw [c_11]; rfl) (by decide) ?_
        obtain ⟨er, hrg⟩ := regs_j (what := what) c_11 es hs
        refine lv_aload_n hx hb d_TankArenaModel_state_126 rfl (lv_at hl 0 rfl) ?_
        refine kx_get (k := 0) (i := 0) (v := .ref (ad 18 0)) X Wd (iy 0 (by decide)) rfl fg_TankArenaModel_61 rfl d_TankArenaModel_state_127 ?_
        refine lv_iconst (v := 2) hx hb d_TankArenaModel_state_130 (by decide) ?_
        refine lv_iload_n hx hb d_TankArenaModel_state_131 rfl (lv_at hl 1 rfl) ?_
        refine lv_imul hx hb d_TankArenaModel_state_132 ?_
        refine lv_iload_n hx hb d_TankArenaModel_state_133 rfl (lv_at hl 2 rfl) ?_
        refine lv_iadd hx hb d_TankArenaModel_state_134 ?_
        refine lv_bipush (v := 6) hx hb d_TankArenaModel_state_135 (by decide) ?_
        refine lv_isub hx hb d_TankArenaModel_state_137 ?_
        refine kx_iald (k := 18) (i := 0) (j := 2 * tank.toNatClampNeg + (what.toNatClampNeg - 6)) (t0 := 0) X Wd (iy 18 (by decide)) rell18 rfl er hrg (by decide) d_TankArenaModel_state_138 ?_
        exact kx_iret (u := g) X rfl Wd ⟨by rw [f_Rstate, if_neg c_1, if_pos c_2, if_neg c_3, if_neg c_4, if_neg c_5, if_neg c_6, if_neg c_8, if_neg c_9, if_neg c_10, if_pos c_11], rfl⟩ d_TankArenaModel_state_139
      by_cases c_12 : what = 8
      · skip
        refine lv_tableIn (tgt := 140) hx hb d_TankArenaModel_state_16 (by rw [c_12]; decide) (by rw [c_12]; decide) (by rw [c_12]; rfl) (by decide) ?_
        refine lv_aload_n hx hb d_TankArenaModel_state_140 rfl (lv_at hl 0 rfl) ?_
        refine kx_get (k := 0) (i := 0) (v := .ref (ad 24 0)) X Wd (iy 0 (by decide)) rfl fg_TankArenaModel_80 rfl d_TankArenaModel_state_141 ?_
        refine lv_iload_n hx hb d_TankArenaModel_state_144 rfl (lv_at hl 1 rfl) ?_
        refine kx_iald (k := 24) (i := 0) (j := tank.toNatClampNeg) (t0 := 0) X Wd (iy 24 (by decide)) rell24 rfl es hs (by decide) d_TankArenaModel_state_145 ?_
        exact kx_iret (u := g) X rfl Wd ⟨by rw [f_Rstate, if_neg c_1, if_pos c_2, if_neg c_3, if_neg c_4, if_neg c_5, if_neg c_6, if_neg c_8, if_neg c_9, if_neg c_10, if_neg c_11, if_pos c_12], rfl⟩ d_TankArenaModel_state_146
      by_cases c_13 : what = 9
      · skip
        refine lv_tableIn (tgt := 147) hx hb d_TankArenaModel_state_16 (by rw [c_13]; decide) (by rw [c_13]; decide) (by rw [c_13]; rfl) (by decide) ?_
        refine lv_aload_n hx hb d_TankArenaModel_state_147 rfl (lv_at hl 0 rfl) ?_
        refine kx_get (k := 0) (i := 0) (v := .ref (ad 22 0)) X Wd (iy 0 (by decide)) rfl fg_TankArenaModel_74 rfl d_TankArenaModel_state_148 ?_
        refine lv_iload_n hx hb d_TankArenaModel_state_151 rfl (lv_at hl 1 rfl) ?_
        refine kx_zald2 (k := 22) (i := 0) (j := tank.toNatClampNeg) (t0 := 1) (g 22 0 tank.toNatClampNeg) X Wd (iy 22 (by decide)) rell22 rfl es hs (by decide) rfl d_TankArenaModel_state_152 ?_
        refine lv_if_eq (tgt := 160) hx hb d_TankArenaModel_state_153 (by decide) (fun c_14 => ?_) (fun c_14 => ?_)
        · skip
          refine lv_iconst (v := 0) hx hb d_TankArenaModel_state_160 (by decide) ?_
          exact kx_iret (u := g) X rfl Wd ⟨by rw [f_Rstate, if_neg c_1, if_pos c_2, if_neg c_3, if_neg c_4, if_neg c_5, if_neg c_6, if_neg c_8, if_neg c_9, if_neg c_10, if_neg c_11, if_neg c_12, if_pos c_13, if_pos c_14], rfl⟩ d_TankArenaModel_state_161
        · skip
          refine lv_iconst (v := 1) hx hb d_TankArenaModel_state_156 (by decide) ?_
          refine lv_goto (tgt := 161) hx hb d_TankArenaModel_state_157 (by decide) ?_
          exact kx_iret (u := g) X rfl Wd ⟨by rw [f_Rstate, if_neg c_1, if_pos c_2, if_neg c_3, if_neg c_4, if_neg c_5, if_neg c_6, if_neg c_8, if_neg c_9, if_neg c_10, if_neg c_11, if_neg c_12, if_pos c_13, if_neg c_14], rfl⟩ d_TankArenaModel_state_161
      by_cases c_15 : what = 10
      · skip
        refine lv_tableIn (tgt := 162) hx hb d_TankArenaModel_state_16 (by rw [c_15]; decide) (by rw [c_15]; decide) (by rw [c_15]; rfl) (by decide) ?_
        refine lv_aload_n hx hb d_TankArenaModel_state_162 rfl (lv_at hl 0 rfl) ?_
        refine kx_get (k := 0) (i := 0) (v := .ref (ad 23 0)) X Wd (iy 0 (by decide)) rfl fg_TankArenaModel_77 rfl d_TankArenaModel_state_163 ?_
        refine lv_iload_n hx hb d_TankArenaModel_state_166 rfl (lv_at hl 1 rfl) ?_
        refine kx_zald2 (k := 23) (i := 0) (j := tank.toNatClampNeg) (t0 := 1) (g 23 0 tank.toNatClampNeg) X Wd (iy 23 (by decide)) rell23 rfl es hs (by decide) rfl d_TankArenaModel_state_167 ?_
        refine lv_if_eq (tgt := 175) hx hb d_TankArenaModel_state_168 (by decide) (fun c_16 => ?_) (fun c_16 => ?_)
        · skip
          refine lv_iconst (v := 0) hx hb d_TankArenaModel_state_175 (by decide) ?_
          exact kx_iret (u := g) X rfl Wd ⟨by rw [f_Rstate, if_neg c_1, if_pos c_2, if_neg c_3, if_neg c_4, if_neg c_5, if_neg c_6, if_neg c_8, if_neg c_9, if_neg c_10, if_neg c_11, if_neg c_12, if_neg c_13, if_pos c_15, if_pos c_16], rfl⟩ d_TankArenaModel_state_176
        · skip
          refine lv_iconst (v := 1) hx hb d_TankArenaModel_state_171 (by decide) ?_
          refine lv_goto (tgt := 176) hx hb d_TankArenaModel_state_172 (by decide) ?_
          exact kx_iret (u := g) X rfl Wd ⟨by rw [f_Rstate, if_neg c_1, if_pos c_2, if_neg c_3, if_neg c_4, if_neg c_5, if_neg c_6, if_neg c_8, if_neg c_9, if_neg c_10, if_neg c_11, if_neg c_12, if_neg c_13, if_pos c_15, if_neg c_16], rfl⟩ d_TankArenaModel_state_176
      refine lv_tableOut (tgt := 177) hx hb d_TankArenaModel_state_16 (by have q0 := neI (0) rfl c_3; have q1 := neI (1) rfl c_4; have q2 := neI (2) rfl c_5; have q3 := neI (3) rfl c_6; have q4 := neI (4) rfl c_8; have q5 := neI (5) rfl c_9; have q6 := neI (6) rfl c_10; have q7 := neI (7) rfl c_11; have q8 := neI (8) rfl c_12; have q9 := neI (9) rfl c_13; have q10 := neI (10) rfl c_15; omega) (by decide) ?_
      refine lv_ldc (v := -1000000) hx hb hown (hts _ w_bc879909c1) d_TankArenaModel_state_177 ?_
      exact kx_iret (u := g) X rfl Wd ⟨by rw [f_Rstate, if_neg c_1, if_pos c_2, if_neg c_3, if_neg c_4, if_neg c_5, if_neg c_6, if_neg c_8, if_neg c_9, if_neg c_10, if_neg c_11, if_neg c_12, if_neg c_13, if_neg c_15], rfl⟩ d_TankArenaModel_state_179
    · skip
      refine lv_ldc (v := -1000000) hx hb hown (hts _ w_bc879909c1) d_TankArenaModel_state_12 ?_
      exact kx_iret (u := g) X rfl Wd ⟨by rw [f_Rstate, if_neg c_1, if_neg c_2], rfl⟩ d_TankArenaModel_state_14
abbrev RM_f_Rthere : Room := { frames := 0, cells := 0, slots := 0, locals := 0 }
set_option maxHeartbeats 1000000 in
set_option maxRecDepth 100000 in
theorem k_f_Rthere (l : Launch) (D : va_G) (cI cZ : ClassId) (ad : Nat → Nat → Nat) (g : SG) (N : Nat) (ok : RokN N g) (hf : rng (g 0 0 4) 601) : RI l y_TankArenaModel_there b_TankArenaModel_there 3 (some .int) RM_f_Rthere D cI cZ ad [.ref (ad 0 0)] g (fun (r : Int32) (u : SG) => r = f_Rthere g ∧ u = g) := by
  refine met_of (cc := b_TankArenaModel_there) (nL := 3) (ret := (some .int)) (by decide) rfl (Nat.le_of_ble_eq_true rfl) ?_
  intro p e s m below meth c X hnm Wd ls hl
  have X := X.tt
  have hx := X.1
  have hb := X.2.1
  have hown := X.2.2.2.1
  have hts := X.2.2.2.2.1
  have hl : lv_has ls 3 [(0, .ref (ad 0 0))] := hl
  have Wd : WR D cI cZ ad (va_A (gR cI cZ ad g) s.heap.size) s.heap g s.heap [] := Wd
  obtain ⟨K, hK, eK⟩ := hf
  refine lv_iconst (v := 0) hx hb d_TankArenaModel_there_0 (by decide) ?_
  refine lv_istore_n (lv' := [(1, .int 0), (0, .ref (ad 0 0))]) hx hb d_TankArenaModel_there_1 rfl hl (by decide) rfl (fun ls hl => ?_)
  refine lv_iconst (v := 0) hx hb d_TankArenaModel_there_2 (by decide) ?_
  refine lv_istore_n (lv' := [(2, .int 0), (1, .int 0), (0, .ref (ad 0 0))]) hx hb d_TankArenaModel_there_3 rfl hl (by decide) rfl (fun ls hl => ?_)
  have loop : ∀ (n : Nat) (al : Int32) (i : Nat), i ≤ K → K + 1 ≤ i + n → f_Rthere g = L_Rthere g n al i → ∀ (H : Heap) (locs : List Loc), WR D cI cZ ad (va_A (gR cI cZ ad g) s.heap.size) s.heap g H locs → ∀ ls : Array Slot, lv_has ls 3 [(0, .ref (ad 0 0)), (1, .int al), (2, .int (nI i))] → W p l e RM_f_Rthere s m [.ref (ad 0 0)].toArray below meth c H locs 0 0 (YI D cI cZ ad below [.ref (ad 0 0)] s g (fun (r : Int32) (u : SG) => r = f_Rthere g ∧ u = g)) (F0 m 4 ls []) := by
    intro n
    induction n with
    | zero =>
      intro al i hv0 hv1
      exfalso
      omega
    | succ n ih =>
      intro al i hv0 hv1 htg H locs Wd ls hl
      refine lv_iload_n hx hb d_TankArenaModel_there_4 rfl (lv_at hl 2 rfl) ?_
      refine lv_aload_n hx hb d_TankArenaModel_there_5 rfl (lv_at hl 0 rfl) ?_
      refine kx_geto (k := 0) (i := 0) 4 (g 0 0 4) X Wd (iy 0 (by decide)) rell0 fg_TankArenaModel_150 (fun _ => rfl) rfl d_TankArenaModel_there_6 ?_
      refine lv_icmp_ge (tgt := 30) hx hb d_TankArenaModel_there_9 (by decide) (fun c_1 => ?_) (fun c_1 => ?_)
      · skip
        refine lv_iload_n hx hb d_TankArenaModel_there_30 rfl (lv_at hl 1 rfl) ?_
        exact kx_iret (u := g) X rfl Wd ⟨by rw [htg, L_Rthere, if_pos c_1], rfl⟩ d_TankArenaModel_there_31
      · skip
        have hi : i < K := nlt_of eK (by omega) (by omega) c_1
        refine lv_aload_n hx hb d_TankArenaModel_there_12 rfl (lv_at hl 0 rfl) ?_
        refine kx_get (k := 0) (i := 0) (v := .ref (ad 33 0)) X Wd (iy 0 (by decide)) rfl fg_TankArenaModel_107 rfl d_TankArenaModel_there_13 ?_
        refine lv_iload_n hx hb d_TankArenaModel_there_16 rfl (lv_at hl 2 rfl) ?_
        refine kx_zald2 (k := 33) (i := 0) (j := i) (t0 := 1) (g 33 0 i) X Wd (iy 33 (by decide)) rell33 rfl rfl (by omega) (by decide) rfl d_TankArenaModel_there_17 ?_
        refine lv_if_ne (tgt := 24) hx hb d_TankArenaModel_there_18 (by decide) (fun c_2 => ?_) (fun c_2 => ?_)
        · skip
          refine lv_iinc (v := nI (i + 1)) (lv' := [(2, .int (nI (i + 1))), (0, .ref (ad 0 0)), (1, .int al)]) hx hb d_TankArenaModel_there_24 hl (k := 2) rfl (nI_1 i) (by decide) rfl (fun ls hl => ?_)
          refine lv_goto (tgt := 4) hx hb d_TankArenaModel_there_27 (by decide) ?_
          exact ih al (i + 1) (by omega) (by omega) (by rw [htg, L_Rthere, if_neg c_1, if_neg c_2]) _ _ Wd _ (lv_sub hl [1, 2, 0] rfl)
        · skip
          refine lv_iinc (v := al + 1) (lv' := [(1, .int (al + 1)), (0, .ref (ad 0 0)), (2, .int (nI i))]) hx hb d_TankArenaModel_there_21 hl (k := 1) rfl rfl (by decide) rfl (fun ls hl => ?_)
          refine lv_iinc (v := nI (i + 1)) (lv' := [(2, .int (nI (i + 1))), (1, .int (al + 1)), (0, .ref (ad 0 0))]) hx hb d_TankArenaModel_there_24 hl (k := 2) rfl (nI_1 i) (by decide) rfl (fun ls hl => ?_)
          refine lv_goto (tgt := 4) hx hb d_TankArenaModel_there_27 (by decide) ?_
          exact ih (al + 1) (i + 1) (by omega) (by omega) (by rw [htg, L_Rthere, if_neg c_1, if_pos c_2]) _ _ Wd _ (lv_sub hl [2, 1, 0] rfl)
  exact loop 601 0 0 (by omega) (by omega) (by rw [f_Rthere]) _ _ Wd _ (lv_sub hl [2, 1, 0] rfl)
abbrev RM_f_Rbullet : Room := { frames := 0, cells := 0, slots := 0, locals := 0 }
set_option maxHeartbeats 1000000 in
set_option maxRecDepth 100000 in
theorem k_f_Rbullet (l : Launch) (D : va_G) (cI cZ : ClassId) (ad : Nat → Nat → Nat) (g : SG) (q : Int32) (what : Int32) (N : Nat) (ok : RokN N g) (hf : rng (g 0 0 4) 601) : RI l y_TankArenaModel_bullet b_TankArenaModel_bullet 5 (some .int) RM_f_Rbullet D cI cZ ad [.ref (ad 0 0), .int q, .int what] g (fun (r : Int32) (u : SG) => r = f_Rbullet g q what ∧ u = g) := by
  refine met_of (cc := b_TankArenaModel_bullet) (nL := 5) (ret := (some .int)) (by decide) rfl (Nat.le_of_ble_eq_true rfl) ?_
  intro p e s m below meth c X hnm Wd ls hl
  have X := X.tt
  have hx := X.1
  have hb := X.2.1
  have hown := X.2.2.2.1
  have hts := X.2.2.2.2.1
  have hl : lv_has ls 5 [(0, .ref (ad 0 0)), (1, .int q), (2, .int what)] := hl
  have Wd : WR D cI cZ ad (va_A (gR cI cZ ad g) s.heap.size) s.heap g s.heap [] := Wd
  obtain ⟨K, hK, eK⟩ := hf
  refine lv_iload_n hx hb d_TankArenaModel_bullet_0 rfl (lv_at hl 1 rfl) ?_
  refine lv_if_lt (tgt := 13) hx hb d_TankArenaModel_bullet_1 (by decide) (fun c_1 => ?_) (fun c_1 => ?_)
  · skip
    refine lv_ldc (v := -1000000) hx hb hown (hts _ w_bc879909c1) d_TankArenaModel_bullet_13 ?_
    exact kx_iret (u := g) X rfl Wd ⟨by rw [f_Rbullet, if_pos c_1], rfl⟩ d_TankArenaModel_bullet_15
  · skip
    refine lv_iload_n hx hb d_TankArenaModel_bullet_4 rfl (lv_at hl 2 rfl) ?_
    refine lv_if_lt (tgt := 13) hx hb d_TankArenaModel_bullet_5 (by decide) (fun c_2 => ?_) (fun c_2 => ?_)
    · skip
      refine lv_ldc (v := -1000000) hx hb hown (hts _ w_bc879909c1) d_TankArenaModel_bullet_13 ?_
      exact kx_iret (u := g) X rfl Wd ⟨by rw [f_Rbullet, if_neg c_1, if_pos c_2], rfl⟩ d_TankArenaModel_bullet_15
    · skip
      refine lv_iload_n hx hb d_TankArenaModel_bullet_8 rfl (lv_at hl 2 rfl) ?_
      refine lv_iconst (v := 4) hx hb d_TankArenaModel_bullet_9 (by decide) ?_
      refine lv_icmp_le (tgt := 16) hx hb d_TankArenaModel_bullet_10 (by decide) (fun c_3 => ?_) (fun c_3 => ?_)
      · skip
        refine lv_iload_n hx hb d_TankArenaModel_bullet_16 rfl (lv_at hl 1 rfl) ?_
        refine lv_istore_n (lv' := [(3, .int q), (0, .ref (ad 0 0)), (1, .int q), (2, .int what)]) hx hb d_TankArenaModel_bullet_17 rfl hl (by decide) rfl (fun ls hl => ?_)
        refine lv_iconst (v := 0) hx hb d_TankArenaModel_bullet_18 (by decide) ?_
        refine lv_istore (lv' := [(4, .int 0), (3, .int q), (0, .ref (ad 0 0)), (1, .int q), (2, .int what)]) hx hb d_TankArenaModel_bullet_19 hl (by decide) rfl (fun ls hl => ?_)
        have loop : ∀ (n : Nat) (lf : Int32) (i : Nat), i ≤ K → K + 1 ≤ i + n → f_Rbullet g q what = L_Rbullet g q what n lf i → ∀ (H : Heap) (locs : List Loc), WR D cI cZ ad (va_A (gR cI cZ ad g) s.heap.size) s.heap g H locs → ∀ ls : Array Slot, lv_has ls 5 [(0, .ref (ad 0 0)), (1, .int q), (2, .int what), (3, .int lf), (4, .int (nI i))] → W p l e RM_f_Rbullet s m [.ref (ad 0 0), .int q, .int what].toArray below meth c H locs 0 0 (YI D cI cZ ad below [.ref (ad 0 0), .int q, .int what] s g (fun (r : Int32) (u : SG) => r = f_Rbullet g q what ∧ u = g)) (F0 m 21 ls []) := by
          intro n
          induction n with
          | zero =>
            intro lf i hv0 hv1
            exfalso
            omega
          | succ n ih =>
            intro lf i hv0 hv1 htg H locs Wd ls hl
            refine lv_iload hx hb d_TankArenaModel_bullet_21 (lv_at hl 4 rfl) ?_
            refine lv_aload_n hx hb d_TankArenaModel_bullet_23 rfl (lv_at hl 0 rfl) ?_
            refine kx_geto (k := 0) (i := 0) 4 (g 0 0 4) X Wd (iy 0 (by decide)) rell0 fg_TankArenaModel_150 (fun _ => rfl) rfl d_TankArenaModel_bullet_24 ?_
            refine lv_icmp_ge (tgt := 123) hx hb d_TankArenaModel_bullet_27 (by decide) (fun c_4 => ?_) (fun c_4 => ?_)
            · skip
              refine lv_ldc (v := -1000000) hx hb hown (hts _ w_bc879909c1) d_TankArenaModel_bullet_123 ?_
              exact kx_iret (u := g) X rfl Wd ⟨by rw [htg, L_Rbullet, if_pos c_4], rfl⟩ d_TankArenaModel_bullet_125
            · skip
              have hi : i < K := nlt_of eK (by omega) (by omega) c_4
              refine lv_aload_n hx hb d_TankArenaModel_bullet_30 rfl (lv_at hl 0 rfl) ?_
              refine kx_get (k := 0) (i := 0) (v := .ref (ad 33 0)) X Wd (iy 0 (by decide)) rfl fg_TankArenaModel_107 rfl d_TankArenaModel_bullet_31 ?_
              refine lv_iload hx hb d_TankArenaModel_bullet_34 (lv_at hl 4 rfl) ?_
              refine kx_zald2 (k := 33) (i := 0) (j := i) (t0 := 1) (g 33 0 i) X Wd (iy 33 (by decide)) rell33 rfl rfl (by omega) (by decide) rfl d_TankArenaModel_bullet_36 ?_
              refine lv_if_eq (tgt := 43) hx hb d_TankArenaModel_bullet_37 (by decide) (fun c_5 => ?_) (fun c_5 => ?_)
              · skip
                refine lv_iload_n hx hb d_TankArenaModel_bullet_43 rfl (lv_at hl 3 rfl) ?_
                refine lv_if_ne (tgt := 114) hx hb d_TankArenaModel_bullet_44 (by decide) (fun c_6 => ?_) (fun c_6 => ?_)
                · skip
                  refine lv_iinc (v := lf + (-1)) (lv' := [(3, .int (lf + (-1))), (0, .ref (ad 0 0)), (1, .int q), (2, .int what), (4, .int (nI i))]) hx hb d_TankArenaModel_bullet_114 hl (k := 3) rfl rfl (by decide) rfl (fun ls hl => ?_)
                  refine lv_iinc (v := nI (i + 1)) (lv' := [(4, .int (nI (i + 1))), (3, .int (lf + (-1))), (0, .ref (ad 0 0)), (1, .int q), (2, .int what)]) hx hb d_TankArenaModel_bullet_117 hl (k := 4) rfl (nI_1 i) (by decide) rfl (fun ls hl => ?_)
                  refine lv_goto (tgt := 21) hx hb d_TankArenaModel_bullet_120 (by decide) ?_
                  exact ih (lf + (-1)) (i + 1) (by omega) (by omega) (by rw [htg, L_Rbullet, if_neg c_4, if_pos c_5, if_neg c_6]) _ _ Wd _ (lv_sub hl [2, 3, 4, 1, 0] rfl)
                · skip
                  refine lv_iload_n hx hb d_TankArenaModel_bullet_47 rfl (lv_at hl 2 rfl) ?_
                  refine lv_if_ne (tgt := 61) hx hb d_TankArenaModel_bullet_48 (by decide) (fun c_7 => ?_) (fun c_7 => ?_)
                  · skip
                    refine lv_iload_n hx hb d_TankArenaModel_bullet_61 rfl (lv_at hl 2 rfl) ?_
                    refine lv_iconst (v := 1) hx hb d_TankArenaModel_bullet_62 (by decide) ?_
                    refine lv_icmp_ne (tgt := 76) hx hb d_TankArenaModel_bullet_63 (by decide) (fun c_8 => ?_) (fun c_8 => ?_)
                    · skip
                      refine lv_iload_n hx hb d_TankArenaModel_bullet_76 rfl (lv_at hl 2 rfl) ?_
                      refine lv_iconst (v := 2) hx hb d_TankArenaModel_bullet_77 (by decide) ?_
                      refine lv_icmp_ne (tgt := 91) hx hb d_TankArenaModel_bullet_78 (by decide) (fun c_9 => ?_) (fun c_9 => ?_)
                      · skip
                        refine lv_iload_n hx hb d_TankArenaModel_bullet_91 rfl (lv_at hl 2 rfl) ?_
                        refine lv_iconst (v := 3) hx hb d_TankArenaModel_bullet_92 (by decide) ?_
                        refine lv_icmp_ne (tgt := 106) hx hb d_TankArenaModel_bullet_93 (by decide) (fun c_10 => ?_) (fun c_10 => ?_)
                        · skip
                          refine lv_aload_n hx hb d_TankArenaModel_bullet_106 rfl (lv_at hl 0 rfl) ?_
                          refine kx_get (k := 0) (i := 0) (v := .ref (ad 32 0)) X Wd (iy 0 (by decide)) rfl fg_TankArenaModel_104 rfl d_TankArenaModel_bullet_107 ?_
                          refine lv_iload hx hb d_TankArenaModel_bullet_110 (lv_at hl 4 rfl) ?_
                          refine kx_iald (k := 32) (i := 0) (j := i) (t0 := 0) X Wd (iy 32 (by decide)) rell32 rfl rfl (by omega) (by decide) d_TankArenaModel_bullet_112 ?_
                          exact kx_iret (u := g) X rfl Wd ⟨by rw [htg, L_Rbullet, if_neg c_4, if_pos c_5, if_pos c_6, if_neg c_7, if_neg c_8, if_neg c_9, if_neg c_10], rfl⟩ d_TankArenaModel_bullet_113
                        · skip
                          refine lv_aload_n hx hb d_TankArenaModel_bullet_96 rfl (lv_at hl 0 rfl) ?_
                          refine kx_get (k := 0) (i := 0) (v := .ref (ad 31 0)) X Wd (iy 0 (by decide)) rfl fg_TankArenaModel_101 rfl d_TankArenaModel_bullet_97 ?_
                          refine lv_iload hx hb d_TankArenaModel_bullet_100 (lv_at hl 4 rfl) ?_
                          refine kx_iald (k := 31) (i := 0) (j := i) (t0 := 0) X Wd (iy 31 (by decide)) rell31 rfl rfl (by omega) (by decide) d_TankArenaModel_bullet_102 ?_
                          refine lv_goto (tgt := 113) hx hb d_TankArenaModel_bullet_103 (by decide) ?_
                          exact kx_iret (u := g) X rfl Wd ⟨by rw [htg, L_Rbullet, if_neg c_4, if_pos c_5, if_pos c_6, if_neg c_7, if_neg c_8, if_neg c_9, if_pos c_10], rfl⟩ d_TankArenaModel_bullet_113
                      · skip
                        refine lv_aload_n hx hb d_TankArenaModel_bullet_81 rfl (lv_at hl 0 rfl) ?_
                        refine kx_get (k := 0) (i := 0) (v := .ref (ad 30 0)) X Wd (iy 0 (by decide)) rfl fg_TankArenaModel_98 rfl d_TankArenaModel_bullet_82 ?_
                        refine lv_iload hx hb d_TankArenaModel_bullet_85 (lv_at hl 4 rfl) ?_
                        refine kx_iald (k := 30) (i := 0) (j := i) (t0 := 0) X Wd (iy 30 (by decide)) rell30 rfl rfl (by omega) (by decide) d_TankArenaModel_bullet_87 ?_
                        refine lv_goto (tgt := 113) hx hb d_TankArenaModel_bullet_88 (by decide) ?_
                        exact kx_iret (u := g) X rfl Wd ⟨by rw [htg, L_Rbullet, if_neg c_4, if_pos c_5, if_pos c_6, if_neg c_7, if_neg c_8, if_pos c_9], rfl⟩ d_TankArenaModel_bullet_113
                    · skip
                      refine lv_aload_n hx hb d_TankArenaModel_bullet_66 rfl (lv_at hl 0 rfl) ?_
                      refine kx_get (k := 0) (i := 0) (v := .ref (ad 29 0)) X Wd (iy 0 (by decide)) rfl fg_TankArenaModel_95 rfl d_TankArenaModel_bullet_67 ?_
                      refine lv_iload hx hb d_TankArenaModel_bullet_70 (lv_at hl 4 rfl) ?_
                      refine kx_iald (k := 29) (i := 0) (j := i) (t0 := 0) X Wd (iy 29 (by decide)) rell29 rfl rfl (by omega) (by decide) d_TankArenaModel_bullet_72 ?_
                      refine lv_goto (tgt := 113) hx hb d_TankArenaModel_bullet_73 (by decide) ?_
                      exact kx_iret (u := g) X rfl Wd ⟨by rw [htg, L_Rbullet, if_neg c_4, if_pos c_5, if_pos c_6, if_neg c_7, if_pos c_8], rfl⟩ d_TankArenaModel_bullet_113
                  · skip
                    refine lv_aload_n hx hb d_TankArenaModel_bullet_51 rfl (lv_at hl 0 rfl) ?_
                    refine kx_get (k := 0) (i := 0) (v := .ref (ad 28 0)) X Wd (iy 0 (by decide)) rfl fg_TankArenaModel_92 rfl d_TankArenaModel_bullet_52 ?_
                    refine lv_iload hx hb d_TankArenaModel_bullet_55 (lv_at hl 4 rfl) ?_
                    refine kx_iald (k := 28) (i := 0) (j := i) (t0 := 0) X Wd (iy 28 (by decide)) rell28 rfl rfl (by omega) (by decide) d_TankArenaModel_bullet_57 ?_
                    refine lv_goto (tgt := 113) hx hb d_TankArenaModel_bullet_58 (by decide) ?_
                    exact kx_iret (u := g) X rfl Wd ⟨by rw [htg, L_Rbullet, if_neg c_4, if_pos c_5, if_pos c_6, if_pos c_7], rfl⟩ d_TankArenaModel_bullet_113
              · skip
                refine lv_goto (tgt := 117) hx hb d_TankArenaModel_bullet_40 (by decide) ?_
                refine lv_iinc (v := nI (i + 1)) (lv' := [(4, .int (nI (i + 1))), (0, .ref (ad 0 0)), (1, .int q), (2, .int what), (3, .int lf)]) hx hb d_TankArenaModel_bullet_117 hl (k := 4) rfl (nI_1 i) (by decide) rfl (fun ls hl => ?_)
                refine lv_goto (tgt := 21) hx hb d_TankArenaModel_bullet_120 (by decide) ?_
                exact ih lf (i + 1) (by omega) (by omega) (by rw [htg, L_Rbullet, if_neg c_4, if_neg c_5]) _ _ Wd _ (lv_sub hl [1, 2, 3, 4, 0] rfl)
        exact loop 601 q 0 (by omega) (by omega) (by rw [f_Rbullet, if_neg c_1, if_neg c_2, if_pos c_3]) _ _ Wd _ (lv_sub hl [2, 3, 4, 1, 0] rfl)
      · skip
        refine lv_ldc (v := -1000000) hx hb hown (hts _ w_bc879909c1) d_TankArenaModel_bullet_13 ?_
        exact kx_iret (u := g) X rfl Wd ⟨by rw [f_Rbullet, if_neg c_1, if_neg c_2, if_neg c_3], rfl⟩ d_TankArenaModel_bullet_15
abbrev RM_f_Rcount : Room := { frames := 1, cells := 0, slots := 0, locals := 22 }
set_option maxHeartbeats 1000000 in
set_option maxRecDepth 100000 in
theorem k_f_Rcount (l : Launch) (D : va_G) (cI cZ : ClassId) (ad : Nat → Nat → Nat) (g : SG) (what : Int32) (N : Nat) (ok : RokN N g) (hf : rng (g 0 0 4) 601) : RI l y_TankArenaModel_count b_TankArenaModel_count 2 (some .int) RM_f_Rcount D cI cZ ad [.ref (ad 0 0), .int what] g (fun (r : Int32) (u : SG) => r = f_Rcount g what ∧ u = g) := by
  refine met_of (cc := b_TankArenaModel_count) (nL := 2) (ret := (some .int)) (by decide) rfl (Nat.le_of_ble_eq_true rfl) ?_
  intro p e s m below meth c X hnm Wd ls hl
  have X := X.tt
  have hx := X.1
  have hb := X.2.1
  have hown := X.2.2.2.1
  have hts := X.2.2.2.2.1
  have hl : lv_has ls 2 [(0, .ref (ad 0 0)), (1, .int what)] := hl
  have Wd : WR D cI cZ ad (va_A (gR cI cZ ad g) s.heap.size) s.heap g s.heap [] := Wd
  refine lv_iload_n hx hb d_TankArenaModel_count_0 rfl (lv_at hl 1 rfl) ?_
  by_cases c_1 : what = 0
  · skip
    refine lv_tableIn (tgt := 40) hx hb d_TankArenaModel_count_1 (by rw [c_1]; decide) (by rw [c_1]; decide) (by rw [c_1]; rfl) (by decide) ?_
    refine lv_aload_n hx hb d_TankArenaModel_count_40 rfl (lv_at hl 0 rfl) ?_
    refine kx_geto (k := 0) (i := 0) 1 (g 0 0 1) X Wd (iy 0 (by decide)) rell0 fg_TankArenaModel_118 (fun _ => rfl) rfl d_TankArenaModel_count_41 ?_
    exact kx_iret (u := g) X rfl Wd ⟨by rw [f_Rcount, if_pos c_1], rfl⟩ d_TankArenaModel_count_44
  by_cases c_2 : what = 1
  · skip
    refine lv_tableIn (tgt := 45) hx hb d_TankArenaModel_count_1 (by rw [c_2]; decide) (by rw [c_2]; decide) (by rw [c_2]; rfl) (by decide) ?_
    refine lv_aload_n hx hb d_TankArenaModel_count_45 rfl (lv_at hl 0 rfl) ?_
    refine kx_geto (k := 0) (i := 0) 0 (g 0 0 0) X Wd (iy 0 (by decide)) rell0 fg_TankArenaModel_122 (fun _ => rfl) rfl d_TankArenaModel_count_46 ?_
    exact kx_iret (u := g) X rfl Wd ⟨by rw [f_Rcount, if_neg c_1, if_pos c_2], rfl⟩ d_TankArenaModel_count_49
  by_cases c_3 : what = 2
  · skip
    refine lv_tableIn (tgt := 50) hx hb d_TankArenaModel_count_1 (by rw [c_3]; decide) (by rw [c_3]; decide) (by rw [c_3]; rfl) (by decide) ?_
    refine lv_aload_n hx hb d_TankArenaModel_count_50 rfl (lv_at hl 0 rfl) ?_
    refine kc_Vi (As := []) [] X Wd (k_f_Rliving l D cI cZ ad g N ok) cV_TankArenaModel_185 (kx_recv (k := 0) (i := 0) X Wd (iy 0 (by decide)) rfl rfl) rfl rfl hl.1 ⟨rfl, rfl⟩ ⟨Nat.le_of_ble_eq_true rfl, Nat.le_of_ble_eq_true rfl⟩ (Nat.le_of_ble_eq_true rfl) ⟨Nat.zero_le _, Nat.zero_le _⟩ d_TankArenaModel_count_51 (fun r u H locs hp Wd => ?_)
    obtain ⟨hr, hu⟩ := hp
    rw [hu] at Wd
    rw [hr]
    clear hr hu
    exact kx_iret (u := g) X rfl Wd ⟨by rw [f_Rcount, if_neg c_1, if_neg c_2, if_pos c_3], rfl⟩ d_TankArenaModel_count_54
  by_cases c_4 : what = 3
  · skip
    refine lv_tableIn (tgt := 55) hx hb d_TankArenaModel_count_1 (by rw [c_4]; decide) (by rw [c_4]; decide) (by rw [c_4]; rfl) (by decide) ?_
    refine lv_aload_n hx hb d_TankArenaModel_count_55 rfl (lv_at hl 0 rfl) ?_
    refine kc_Vi (As := []) [] X Wd (k_f_Rthere l D cI cZ ad g N ok hf) cV_TankArenaModel_206 (kx_recv (k := 0) (i := 0) X Wd (iy 0 (by decide)) rfl rfl) rfl rfl hl.1 ⟨rfl, rfl⟩ ⟨Nat.le_of_ble_eq_true rfl, Nat.le_of_ble_eq_true rfl⟩ (Nat.le_of_ble_eq_true rfl) ⟨Nat.zero_le _, Nat.zero_le _⟩ d_TankArenaModel_count_56 (fun r u H locs hp Wd => ?_)
    obtain ⟨hr, hu⟩ := hp
    rw [hu] at Wd
    rw [hr]
    clear hr hu
    exact kx_iret (u := g) X rfl Wd ⟨by rw [f_Rcount, if_neg c_1, if_neg c_2, if_neg c_3, if_pos c_4], rfl⟩ d_TankArenaModel_count_59
  by_cases c_5 : what = 4
  · skip
    refine lv_tableIn (tgt := 60) hx hb d_TankArenaModel_count_1 (by rw [c_5]; decide) (by rw [c_5]; decide) (by rw [c_5]; rfl) (by decide) ?_
    refine lv_aload_n hx hb d_TankArenaModel_count_60 rfl (lv_at hl 0 rfl) ?_
    refine kx_geto (k := 0) (i := 0) 2 (g 0 0 2) X Wd (iy 0 (by decide)) rell0 fg_TankArenaModel_153 (fun _ => rfl) rfl d_TankArenaModel_count_61 ?_
    exact kx_iret (u := g) X rfl Wd ⟨by rw [f_Rcount, if_neg c_1, if_neg c_2, if_neg c_3, if_neg c_4, if_pos c_5], rfl⟩ d_TankArenaModel_count_64
  by_cases c_6 : what = 5
  · skip
    refine lv_tableIn (tgt := 65) hx hb d_TankArenaModel_count_1 (by rw [c_6]; decide) (by rw [c_6]; decide) (by rw [c_6]; rfl) (by decide) ?_
    refine lv_aload_n hx hb d_TankArenaModel_count_65 rfl (lv_at hl 0 rfl) ?_
    refine kx_geto (k := 0) (i := 0) 3 (g 0 0 3) X Wd (iy 0 (by decide)) rell0 fg_TankArenaModel_156 (fun _ => rfl) rfl d_TankArenaModel_count_66 ?_
    exact kx_iret (u := g) X rfl Wd ⟨by rw [f_Rcount, if_neg c_1, if_neg c_2, if_neg c_3, if_neg c_4, if_neg c_5, if_pos c_6], rfl⟩ d_TankArenaModel_count_69
  refine lv_tableOut (tgt := 70) hx hb d_TankArenaModel_count_1 (by have q0 := neI (0) rfl c_1; have q1 := neI (1) rfl c_2; have q2 := neI (2) rfl c_3; have q3 := neI (3) rfl c_4; have q4 := neI (4) rfl c_5; have q5 := neI (5) rfl c_6; omega) (by decide) ?_
  refine lv_ldc (v := -1000000) hx hb hown (hts _ w_bc879909c1) d_TankArenaModel_count_70 ?_
  exact kx_iret (u := g) X rfl Wd ⟨by rw [f_Rcount, if_neg c_1, if_neg c_2, if_neg c_3, if_neg c_4, if_neg c_5, if_neg c_6], rfl⟩ d_TankArenaModel_count_72
abbrev RM_g_Rdrive : Room := { frames := 3, cells := 0, slots := 0, locals := 64 }
set_option maxHeartbeats 1000000 in
set_option maxRecDepth 100000 in
theorem k_g_Rdrive (l : Launch) (D : va_G) (cI cZ : ClassId) (ad : Nat → Nat → Nat) (g : SG) (t : Nat) (ht : t < 4) (vt : Int32) (et : vt = nI t) (N : Nat) (ok : RokN N g) : RV l y_TankArenaModel_drive b_TankArenaModel_drive 8 none RM_g_Rdrive D cI cZ ad [.ref (ad 0 0), .int vt] g (fun (u : SG) => u = g_Rdrive g t) := by
  subst et
  refine met_of (cc := b_TankArenaModel_drive) (nL := 8) (ret := none) (by decide) rfl (Nat.le_of_ble_eq_true rfl) ?_
  intro p e s m below meth c X hnm Wd ls hl
  have X := X.tt
  have hx := X.1
  have hb := X.2.1
  have hown := X.2.2.2.1
  have hts := X.2.2.2.2.1
  have hl : lv_has ls 8 [(0, .ref (ad 0 0)), (1, .int (nI t))] := hl
  have Wd : WR D cI cZ ad (va_A (gR cI cZ ad g) s.heap.size) s.heap g s.heap [] := Wd
  have J370 : ∀ (gl : SG), RokN N gl → g_Rdrive g t = J_Rdrive370 t gl → ∀ (H : Heap) (locs : List Loc), WR D cI cZ ad (va_A (gR cI cZ ad g) s.heap.size) s.heap gl H locs → ∀ ls : Array Slot, lv_has ls 8 [(0, .ref (ad 0 0)), (1, .int (nI t))] → W p l e RM_g_Rdrive s m [.ref (ad 0 0), .int (nI t)].toArray below meth c H locs 0 0 (YV D cI cZ ad below [.ref (ad 0 0), .int (nI t)] s g (fun (u : SG) => u = g_Rdrive g t)) (F0 m 370 ls []) := by
    intro gl hv0 htg H locs Wd ls hl
    refine lv_aload_n hx hb d_TankArenaModel_drive_370 rfl (lv_at hl 0 rfl) ?_
    refine lv_iload_n hx hb d_TankArenaModel_drive_371 rfl (lv_at hl 1 rfl) ?_
    refine kc_Vv (As := [.int (nI t)]) [] X Wd (k_g_Rcheck l D cI cZ ad gl t ht (nI t) rfl N hv0) cV_TankArenaModel_159 (kx_recv (k := 0) (i := 0) X Wd (iy 0 (by decide)) rfl rfl) rfl rfl hl.1 ⟨rfl, rfl⟩ ⟨Nat.le_of_ble_eq_true rfl, Nat.le_of_ble_eq_true rfl⟩ (Nat.le_of_ble_eq_true rfl) ⟨Nat.zero_le _, Nat.zero_le _⟩ d_TankArenaModel_drive_372 (fun u H locs hp Wd => ?_)
    rw [hp] at Wd
    clear hp
    have Wd : WR D cI cZ ad _ s.heap (g_Rcheck gl t) H locs := Wd
    refine lv_aload_n hx hb d_TankArenaModel_drive_375 rfl (lv_at hl 0 rfl) ?_
    refine kx_get (k := 0) (i := 0) (v := .ref (ad 16 0)) X Wd (iy 0 (by decide)) rfl fg_TankArenaModel_55 rfl d_TankArenaModel_drive_376 ?_
    refine lv_iload_n hx hb d_TankArenaModel_drive_379 rfl (lv_at hl 1 rfl) ?_
    refine lv_aload_n hx hb d_TankArenaModel_drive_380 rfl (lv_at hl 0 rfl) ?_
    refine kx_get (k := 0) (i := 0) (v := .ref (ad 16 0)) X Wd (iy 0 (by decide)) rfl fg_TankArenaModel_55 rfl d_TankArenaModel_drive_381 ?_
    refine lv_iload_n hx hb d_TankArenaModel_drive_384 rfl (lv_at hl 1 rfl) ?_
    refine kx_iald (k := 16) (i := 0) (j := t) (t0 := 0) X Wd (iy 16 (by decide)) rell16 rfl rfl ht (by decide) d_TankArenaModel_drive_385 ?_
    refine lv_iconst (v := 2) hx hb d_TankArenaModel_drive_386 (by decide) ?_
    refine lv_icmp_ge (tgt := 394) hx hb d_TankArenaModel_drive_387 (by decide) (fun c_1 => ?_) (fun c_1 => ?_)
    · skip
      refine lv_aload_n hx hb d_TankArenaModel_drive_394 rfl (lv_at hl 0 rfl) ?_
      refine kx_get (k := 0) (i := 0) (v := .ref (ad 16 0)) X Wd (iy 0 (by decide)) rfl fg_TankArenaModel_55 rfl d_TankArenaModel_drive_395 ?_
      refine lv_iload_n hx hb d_TankArenaModel_drive_398 rfl (lv_at hl 1 rfl) ?_
      refine kx_iald (k := 16) (i := 0) (j := t) (t0 := 0) X Wd (iy 16 (by decide)) rell16 rfl rfl ht (by decide) d_TankArenaModel_drive_399 ?_
      refine lv_iconst (v := 2) hx hb d_TankArenaModel_drive_400 (by decide) ?_
      refine lv_isub hx hb d_TankArenaModel_drive_401 ?_
      refine kx_iast (k := 16) (i := 0) (j := t) (t0 := 0) X Wd (iy 16 (by decide)) rell16 rfl rfl ht (by decide) d_TankArenaModel_drive_402 (fun H locs Wd => ?_)
      exact kx_vret (u := up3 (g_Rcheck gl t) 16 0 t (((g_Rcheck gl t) 16 0 t) - 2)) X Wd (by rw [htg, J_Rdrive370, if_pos c_1]) d_TankArenaModel_drive_403
    · skip
      refine lv_iconst (v := 0) hx hb d_TankArenaModel_drive_390 (by decide) ?_
      refine lv_goto (tgt := 402) hx hb d_TankArenaModel_drive_391 (by decide) ?_
      refine kx_iast (k := 16) (i := 0) (j := t) (t0 := 0) X Wd (iy 16 (by decide)) rell16 rfl rfl ht (by decide) d_TankArenaModel_drive_402 (fun H locs Wd => ?_)
      exact kx_vret (u := up3 (g_Rcheck gl t) 16 0 t 0) X Wd (by rw [htg, J_Rdrive370, if_neg c_1]) d_TankArenaModel_drive_403
  have J354 : ∀ (gl : SG), RokN N gl → g_Rdrive g t = J_Rdrive354 t gl → ∀ (H : Heap) (locs : List Loc), WR D cI cZ ad (va_A (gR cI cZ ad g) s.heap.size) s.heap gl H locs → ∀ ls : Array Slot, lv_has ls 8 [(0, .ref (ad 0 0)), (1, .int (nI t))] → W p l e RM_g_Rdrive s m [.ref (ad 0 0), .int (nI t)].toArray below meth c H locs 0 0 (YV D cI cZ ad below [.ref (ad 0 0), .int (nI t)] s g (fun (u : SG) => u = g_Rdrive g t)) (F0 m 354 ls []) := by
    intro gl hv0 htg H locs Wd ls hl
    refine lv_aload_n hx hb d_TankArenaModel_drive_354 rfl (lv_at hl 0 rfl) ?_
    refine kx_get (k := 0) (i := 0) (v := .ref (ad 22 0)) X Wd (iy 0 (by decide)) rfl fg_TankArenaModel_74 rfl d_TankArenaModel_drive_355 ?_
    refine lv_iload_n hx hb d_TankArenaModel_drive_358 rfl (lv_at hl 1 rfl) ?_
    refine kx_zald2 (k := 22) (i := 0) (j := t) (t0 := 1) (gl 22 0 t) X Wd (iy 22 (by decide)) rell22 rfl rfl ht (by decide) rfl d_TankArenaModel_drive_359 ?_
    refine lv_if_eq (tgt := 370) hx hb d_TankArenaModel_drive_360 (by decide) (fun c_2 => ?_) (fun c_2 => ?_)
    · skip
      exact J370 gl hv0 (by rw [htg, J_Rdrive354, if_pos c_2]) _ _ Wd _ (lv_sub hl [0, 1] rfl)
    · skip
      refine lv_aload_n hx hb d_TankArenaModel_drive_363 rfl (lv_at hl 0 rfl) ?_
      refine kx_get (k := 0) (i := 0) (v := .ref (ad 13 0)) X Wd (iy 0 (by decide)) rfl fg_TankArenaModel_46 rfl d_TankArenaModel_drive_364 ?_
      refine lv_iload_n hx hb d_TankArenaModel_drive_367 rfl (lv_at hl 1 rfl) ?_
      refine lv_iconst (v := 0) hx hb d_TankArenaModel_drive_368 (by decide) ?_
      refine kx_iast (k := 13) (i := 0) (j := t) (t0 := 0) X Wd (iy 13 (by decide)) rell13 rfl rfl ht (by decide) d_TankArenaModel_drive_369 (fun H locs Wd => ?_)
      exact J370 (up3 gl 13 0 t 0) (by refine rokU ?_ rfl trivial; exact hv0) (by rw [htg, J_Rdrive354, if_neg c_2]) _ _ Wd _ (lv_sub hl [0, 1] rfl)
  have J292 : ∀ (ox : Int32) (oy : Int32) (gl : SG), RokN N gl → g_Rdrive g t = J_Rdrive292 t ox oy gl → ∀ (H : Heap) (locs : List Loc), WR D cI cZ ad (va_A (gR cI cZ ad g) s.heap.size) s.heap gl H locs → ∀ ls : Array Slot, lv_has ls 8 [(0, .ref (ad 0 0)), (1, .int (nI t)), (3, .int ox), (4, .int oy)] → W p l e RM_g_Rdrive s m [.ref (ad 0 0), .int (nI t)].toArray below meth c H locs 0 0 (YV D cI cZ ad below [.ref (ad 0 0), .int (nI t)] s g (fun (u : SG) => u = g_Rdrive g t)) (F0 m 292 ls []) := by
    intro ox oy gl hv0 htg H locs Wd ls hl
    refine lv_aload_n hx hb d_TankArenaModel_drive_292 rfl (lv_at hl 0 rfl) ?_
    refine lv_iload_n hx hb d_TankArenaModel_drive_293 rfl (lv_at hl 1 rfl) ?_
    refine kc_Vi (As := [.int (nI t)]) [] X Wd (k_f_Rtouched l D cI cZ ad gl t ht (nI t) rfl N hv0) cV_TankArenaModel_182 (kx_recv (k := 0) (i := 0) X Wd (iy 0 (by decide)) rfl rfl) rfl rfl hl.1 ⟨rfl, rfl⟩ ⟨Nat.le_of_ble_eq_true rfl, Nat.le_of_ble_eq_true rfl⟩ (Nat.le_of_ble_eq_true rfl) ⟨Nat.zero_le _, Nat.zero_le _⟩ d_TankArenaModel_drive_294 (fun r u H locs hp Wd => ?_)
    obtain ⟨hr, hu⟩ := hp
    rw [hu] at Wd
    rw [hr]
    clear hr hu
    refine lv_istore (lv' := [(7, .int (f_Rtouched gl t)), (0, .ref (ad 0 0)), (1, .int (nI t)), (3, .int ox), (4, .int oy)]) hx hb d_TankArenaModel_drive_297 hl (by decide) rfl (fun ls hl => ?_)
    refine lv_iload hx hb d_TankArenaModel_drive_299 (lv_at hl 0 rfl) ?_
    refine lv_iconst (v := 4) hx hb d_TankArenaModel_drive_301 (by decide) ?_
    refine lv_icmp_ge (tgt := 354) hx hb d_TankArenaModel_drive_302 (by decide) (fun c_3 => ?_) (fun c_3 => ?_)
    · skip
      exact J354 gl hv0 (by rw [htg, J_Rdrive292, if_pos c_3]) _ _ Wd _ (lv_sub hl [1, 2] rfl)
    · skip
      obtain ⟨et, hot⟩ := touchedR_j hv0 c_3
      refine lv_aload_n hx hb d_TankArenaModel_drive_305 rfl (lv_at hl 1 rfl) ?_
      refine kx_get (k := 0) (i := 0) (v := .ref (ad 8 0)) X Wd (iy 0 (by decide)) rfl fg_TankArenaModel_31 rfl d_TankArenaModel_drive_306 ?_
      refine lv_iload_n hx hb d_TankArenaModel_drive_309 rfl (lv_at hl 2 rfl) ?_
      refine lv_iload_n hx hb d_TankArenaModel_drive_310 rfl (lv_at hl 3 rfl) ?_
      refine kx_iast (k := 8) (i := 0) (j := t) (t0 := 0) X Wd (iy 8 (by decide)) rell8 rfl rfl ht (by decide) d_TankArenaModel_drive_311 (fun H locs Wd => ?_)
      refine lv_aload_n hx hb d_TankArenaModel_drive_312 rfl (lv_at hl 1 rfl) ?_
      refine kx_get (k := 0) (i := 0) (v := .ref (ad 9 0)) X Wd (iy 0 (by decide)) rfl fg_TankArenaModel_34 rfl d_TankArenaModel_drive_313 ?_
      refine lv_iload_n hx hb d_TankArenaModel_drive_316 rfl (lv_at hl 2 rfl) ?_
      refine lv_iload hx hb d_TankArenaModel_drive_317 (lv_at hl 4 rfl) ?_
      refine kx_iast (k := 9) (i := 0) (j := t) (t0 := 0) X Wd (iy 9 (by decide)) rell9 rfl rfl ht (by decide) d_TankArenaModel_drive_319 (fun H locs Wd => ?_)
      refine lv_aload_n hx hb d_TankArenaModel_drive_320 rfl (lv_at hl 1 rfl) ?_
      refine kx_get (k := 0) (i := 0) (v := .ref (ad 22 0)) X Wd (iy 0 (by decide)) rfl fg_TankArenaModel_74 rfl d_TankArenaModel_drive_321 ?_
      refine lv_iload_n hx hb d_TankArenaModel_drive_324 rfl (lv_at hl 2 rfl) ?_
      refine lv_iconst (v := 1) hx hb d_TankArenaModel_drive_325 (by decide) ?_
      refine kx_zast (k := 22) (i := 0) (j := t) (t0 := 1) X Wd (iy 22 (by decide)) rell22 rfl rfl ht (by decide) rfl d_TankArenaModel_drive_326 (fun H locs Wd => ?_)
      refine lv_aload_n hx hb d_TankArenaModel_drive_327 rfl (lv_at hl 1 rfl) ?_
      refine kx_get (k := 0) (i := 0) (v := .ref (ad 15 0)) X Wd (iy 0 (by decide)) rfl fg_TankArenaModel_52 rfl d_TankArenaModel_drive_328 ?_
      refine lv_iload_n hx hb d_TankArenaModel_drive_331 rfl (lv_at hl 2 rfl) ?_
      refine lv_dup2_11 hx hb d_TankArenaModel_drive_332 rfl rfl ?_
      refine kx_iald2 (k := 15) (i := 0) (j := t) (t0 := 0) (gl 15 0 t) X Wd (iy 15 (by decide)) rell15 rfl rfl ht (by decide) (by simp [up3]) d_TankArenaModel_drive_333 ?_
      refine lv_iconst (v := 4) hx hb d_TankArenaModel_drive_334 (by decide) ?_
      refine lv_isub hx hb d_TankArenaModel_drive_335 ?_
      refine kx_iast (k := 15) (i := 0) (j := t) (t0 := 0) X Wd (iy 15 (by decide)) rell15 rfl rfl ht (by decide) d_TankArenaModel_drive_336 (fun H locs Wd => ?_)
      refine lv_aload_n hx hb d_TankArenaModel_drive_337 rfl (lv_at hl 1 rfl) ?_
      refine kx_get (k := 0) (i := 0) (v := .ref (ad 15 0)) X Wd (iy 0 (by decide)) rfl fg_TankArenaModel_52 rfl d_TankArenaModel_drive_338 ?_
      refine lv_iload hx hb d_TankArenaModel_drive_341 (lv_at hl 0 rfl) ?_
      refine lv_dup2_11 hx hb d_TankArenaModel_drive_343 rfl rfl ?_
      refine kx_iald (k := 15) (i := 0) (j := (f_Rtouched gl t).toNatClampNeg) (t0 := 0) X Wd (iy 15 (by decide)) rell15 rfl et hot (by decide) d_TankArenaModel_drive_344 ?_
      refine lv_iconst (v := 4) hx hb d_TankArenaModel_drive_345 (by decide) ?_
      refine lv_isub hx hb d_TankArenaModel_drive_346 ?_
      refine kx_iast (k := 15) (i := 0) (j := (f_Rtouched gl t).toNatClampNeg) (t0 := 0) X Wd (iy 15 (by decide)) rell15 rfl et hot (by decide) d_TankArenaModel_drive_347 (fun H locs Wd => ?_)
      refine lv_aload_n hx hb d_TankArenaModel_drive_348 rfl (lv_at hl 1 rfl) ?_
      refine lv_iload hx hb d_TankArenaModel_drive_349 (lv_at hl 0 rfl) ?_
      refine kc_Vv (As := [.int (f_Rtouched gl t)]) [] X Wd (k_g_Rcheck l D cI cZ ad (up3 (up3 (up3 (up3 (up3 gl 8 0 t ox) 9 0 t oy) 22 0 t 1) 15 0 t ((gl 15 0 t) - 4)) 15 0 ((f_Rtouched gl t).toNatClampNeg) (((up3 (up3 (up3 (up3 gl 8 0 t ox) 9 0 t oy) 22 0 t 1) 15 0 t ((gl 15 0 t) - 4)) 15 0 ((f_Rtouched gl t).toNatClampNeg)) - 4)) ((f_Rtouched gl t).toNatClampNeg) hot (f_Rtouched gl t) et N (by refine rokU ?_ rfl trivial; refine rokU ?_ rfl trivial; refine rokU ?_ rfl (Or.inr rfl); refine rokU ?_ rfl trivial; refine rokU ?_ rfl trivial; exact hv0)) cV_TankArenaModel_159 (kx_recv (k := 0) (i := 0) X Wd (iy 0 (by decide)) rfl rfl) rfl rfl hl.1 ⟨rfl, rfl⟩ ⟨Nat.le_of_ble_eq_true rfl, Nat.le_of_ble_eq_true rfl⟩ (Nat.le_of_ble_eq_true rfl) ⟨Nat.zero_le _, Nat.zero_le _⟩ d_TankArenaModel_drive_351 (fun u H locs hp Wd => ?_)
      rw [hp] at Wd
      clear hp
      have Wd : WR D cI cZ ad _ s.heap (g_Rcheck (up3 (up3 (up3 (up3 (up3 gl 8 0 t ox) 9 0 t oy) 22 0 t 1) 15 0 t ((gl 15 0 t) - 4)) 15 0 ((f_Rtouched gl t).toNatClampNeg) (((up3 (up3 (up3 (up3 gl 8 0 t ox) 9 0 t oy) 22 0 t 1) 15 0 t ((gl 15 0 t) - 4)) 15 0 ((f_Rtouched gl t).toNatClampNeg)) - 4)) ((f_Rtouched gl t).toNatClampNeg)) H locs := Wd
      exact J354 (g_Rcheck (up3 (up3 (up3 (up3 (up3 gl 8 0 t ox) 9 0 t oy) 22 0 t 1) 15 0 t ((gl 15 0 t) - 4)) 15 0 ((f_Rtouched gl t).toNatClampNeg) (((up3 (up3 (up3 (up3 gl 8 0 t ox) 9 0 t oy) 22 0 t 1) 15 0 t ((gl 15 0 t) - 4)) 15 0 ((f_Rtouched gl t).toNatClampNeg)) - 4)) ((f_Rtouched gl t).toNatClampNeg)) (by refine ok_g_Rcheck ?_ ((f_Rtouched gl t).toNatClampNeg); refine rokU ?_ rfl trivial; refine rokU ?_ rfl trivial; refine rokU ?_ rfl (Or.inr rfl); refine rokU ?_ rfl trivial; refine rokU ?_ rfl trivial; exact hv0) (by rw [htg, J_Rdrive292, if_neg c_3]) _ _ Wd _ (lv_sub hl [1, 2] rfl)
  have J168 : ∀ (gl : SG), RokN N gl → g_Rdrive g t = J_Rdrive168 t gl → ∀ (H : Heap) (locs : List Loc), WR D cI cZ ad (va_A (gR cI cZ ad g) s.heap.size) s.heap gl H locs → ∀ ls : Array Slot, lv_has ls 8 [(0, .ref (ad 0 0)), (1, .int (nI t))] → W p l e RM_g_Rdrive s m [.ref (ad 0 0), .int (nI t)].toArray below meth c H locs 0 0 (YV D cI cZ ad below [.ref (ad 0 0), .int (nI t)] s g (fun (u : SG) => u = g_Rdrive g t)) (F0 m 168 ls []) := by
    intro gl hv0 htg H locs Wd ls hl
    refine lv_aload_n hx hb d_TankArenaModel_drive_168 rfl (lv_at hl 0 rfl) ?_
    refine kx_get (k := 0) (i := 0) (v := .ref (ad 8 0)) X Wd (iy 0 (by decide)) rfl fg_TankArenaModel_31 rfl d_TankArenaModel_drive_169 ?_
    refine lv_iload_n hx hb d_TankArenaModel_drive_172 rfl (lv_at hl 1 rfl) ?_
    refine kx_iald (k := 8) (i := 0) (j := t) (t0 := 0) X Wd (iy 8 (by decide)) rell8 rfl rfl ht (by decide) d_TankArenaModel_drive_173 ?_
    refine lv_istore_n (lv' := [(3, .int (gl 8 0 t)), (0, .ref (ad 0 0)), (1, .int (nI t))]) hx hb d_TankArenaModel_drive_174 rfl hl (by decide) rfl (fun ls hl => ?_)
    refine lv_aload_n hx hb d_TankArenaModel_drive_175 rfl (lv_at hl 1 rfl) ?_
    refine kx_get (k := 0) (i := 0) (v := .ref (ad 9 0)) X Wd (iy 0 (by decide)) rfl fg_TankArenaModel_34 rfl d_TankArenaModel_drive_176 ?_
    refine lv_iload_n hx hb d_TankArenaModel_drive_179 rfl (lv_at hl 2 rfl) ?_
    refine kx_iald (k := 9) (i := 0) (j := t) (t0 := 0) X Wd (iy 9 (by decide)) rell9 rfl rfl ht (by decide) d_TankArenaModel_drive_180 ?_
    refine lv_istore (lv' := [(4, .int (gl 9 0 t)), (3, .int (gl 8 0 t)), (0, .ref (ad 0 0)), (1, .int (nI t))]) hx hb d_TankArenaModel_drive_181 hl (by decide) rfl (fun ls hl => ?_)
    refine lv_iload_n hx hb d_TankArenaModel_drive_183 rfl (lv_at hl 1 rfl) ?_
    refine lv_aload_n hx hb d_TankArenaModel_drive_184 rfl (lv_at hl 2 rfl) ?_
    refine kx_get (k := 0) (i := 0) (v := .ref (ad 13 0)) X Wd (iy 0 (by decide)) rfl fg_TankArenaModel_46 rfl d_TankArenaModel_drive_185 ?_
    refine lv_iload_n hx hb d_TankArenaModel_drive_188 rfl (lv_at hl 3 rfl) ?_
    refine kx_iald (k := 13) (i := 0) (j := t) (t0 := 0) X Wd (iy 13 (by decide)) rell13 rfl rfl ht (by decide) d_TankArenaModel_drive_189 ?_
    refine lv_aload_n hx hb d_TankArenaModel_drive_190 rfl (lv_at hl 2 rfl) ?_
    refine kx_get (k := 0) (i := 0) (v := .ref (ad 10 0)) X Wd (iy 0 (by decide)) rfl fg_TankArenaModel_37 rfl d_TankArenaModel_drive_191 ?_
    refine lv_iload_n hx hb d_TankArenaModel_drive_194 rfl (lv_at hl 3 rfl) ?_
    refine kx_iald (k := 10) (i := 0) (j := t) (t0 := 0) X Wd (iy 10 (by decide)) rell10 rfl rfl ht (by decide) d_TankArenaModel_drive_195 ?_
    refine kc_Si (As := [.int (gl 10 0 t)]) [.int (gl 13 0 t), .int (gl 8 0 t)] X Wd (k_f_Racross l D cI cZ ad gl (gl 10 0 t)) cS_TankArenaModel_162 rfl rfl hl.1 ⟨rfl, rfl⟩ ⟨Nat.le_of_ble_eq_true rfl, Nat.le_of_ble_eq_true rfl⟩ (Nat.le_of_ble_eq_true rfl) ⟨Nat.zero_le _, Nat.zero_le _⟩ d_TankArenaModel_drive_196 (fun r u H locs hp Wd => ?_)
    obtain ⟨hr, hu⟩ := hp
    rw [hu] at Wd
    rw [hr]
    clear hr hu
    refine lv_imul hx hb d_TankArenaModel_drive_199 ?_
    refine lv_iadd hx hb d_TankArenaModel_drive_200 ?_
    refine lv_istore (lv' := [(5, .int ((gl 8 0 t) + ((gl 13 0 t) * (f_Racross (gl 10 0 t))))), (4, .int (gl 9 0 t)), (3, .int (gl 8 0 t)), (0, .ref (ad 0 0)), (1, .int (nI t))]) hx hb d_TankArenaModel_drive_201 hl (by decide) rfl (fun ls hl => ?_)
    refine lv_iload hx hb d_TankArenaModel_drive_203 (lv_at hl 1 rfl) ?_
    refine lv_aload_n hx hb d_TankArenaModel_drive_205 rfl (lv_at hl 3 rfl) ?_
    refine kx_get (k := 0) (i := 0) (v := .ref (ad 13 0)) X Wd (iy 0 (by decide)) rfl fg_TankArenaModel_46 rfl d_TankArenaModel_drive_206 ?_
    refine lv_iload_n hx hb d_TankArenaModel_drive_209 rfl (lv_at hl 4 rfl) ?_
    refine kx_iald (k := 13) (i := 0) (j := t) (t0 := 0) X Wd (iy 13 (by decide)) rell13 rfl rfl ht (by decide) d_TankArenaModel_drive_210 ?_
    refine lv_aload_n hx hb d_TankArenaModel_drive_211 rfl (lv_at hl 3 rfl) ?_
    refine kx_get (k := 0) (i := 0) (v := .ref (ad 10 0)) X Wd (iy 0 (by decide)) rfl fg_TankArenaModel_37 rfl d_TankArenaModel_drive_212 ?_
    refine lv_iload_n hx hb d_TankArenaModel_drive_215 rfl (lv_at hl 4 rfl) ?_
    refine kx_iald (k := 10) (i := 0) (j := t) (t0 := 0) X Wd (iy 10 (by decide)) rell10 rfl rfl ht (by decide) d_TankArenaModel_drive_216 ?_
    refine kc_Si (As := [.int (gl 10 0 t)]) [.int (gl 13 0 t), .int (gl 9 0 t)] X Wd (k_f_Rup l D cI cZ ad gl (gl 10 0 t)) cS_TankArenaModel_165 rfl rfl hl.1 ⟨rfl, rfl⟩ ⟨Nat.le_of_ble_eq_true rfl, Nat.le_of_ble_eq_true rfl⟩ (Nat.le_of_ble_eq_true rfl) ⟨Nat.zero_le _, Nat.zero_le _⟩ d_TankArenaModel_drive_217 (fun r u H locs hp Wd => ?_)
    obtain ⟨hr, hu⟩ := hp
    rw [hu] at Wd
    rw [hr]
    clear hr hu
    refine lv_imul hx hb d_TankArenaModel_drive_220 ?_
    refine lv_iadd hx hb d_TankArenaModel_drive_221 ?_
    refine lv_istore (lv' := [(6, .int ((gl 9 0 t) + ((gl 13 0 t) * (f_Rup (gl 10 0 t))))), (5, .int ((gl 8 0 t) + ((gl 13 0 t) * (f_Racross (gl 10 0 t))))), (4, .int (gl 9 0 t)), (3, .int (gl 8 0 t)), (0, .ref (ad 0 0)), (1, .int (nI t))]) hx hb d_TankArenaModel_drive_222 hl (by decide) rfl (fun ls hl => ?_)
    refine lv_aload_n hx hb d_TankArenaModel_drive_224 rfl (lv_at hl 4 rfl) ?_
    refine kx_get (k := 0) (i := 0) (v := .ref (ad 8 0)) X Wd (iy 0 (by decide)) rfl fg_TankArenaModel_31 rfl d_TankArenaModel_drive_225 ?_
    refine lv_iload_n hx hb d_TankArenaModel_drive_228 rfl (lv_at hl 5 rfl) ?_
    refine lv_iload hx hb d_TankArenaModel_drive_229 (lv_at hl 1 rfl) ?_
    refine kc_Si (As := [.int ((gl 8 0 t) + ((gl 13 0 t) * (f_Racross (gl 10 0 t))))]) [.int (nI t), .ref (ad 8 0)] X Wd (k_f_Rlimited l D cI cZ ad gl ((gl 8 0 t) + ((gl 13 0 t) * (f_Racross (gl 10 0 t))))) cS_TankArenaModel_179 rfl rfl hl.1 ⟨rfl, rfl⟩ ⟨Nat.le_of_ble_eq_true rfl, Nat.le_of_ble_eq_true rfl⟩ (Nat.le_of_ble_eq_true rfl) ⟨Nat.zero_le _, Nat.zero_le _⟩ d_TankArenaModel_drive_231 (fun r u H locs hp Wd => ?_)
    obtain ⟨hr, hu⟩ := hp
    rw [hu] at Wd
    rw [hr]
    clear hr hu
    refine kx_iast (k := 8) (i := 0) (j := t) (t0 := 0) X Wd (iy 8 (by decide)) rell8 rfl rfl ht (by decide) d_TankArenaModel_drive_234 (fun H locs Wd => ?_)
    refine lv_aload_n hx hb d_TankArenaModel_drive_235 rfl (lv_at hl 4 rfl) ?_
    refine kx_get (k := 0) (i := 0) (v := .ref (ad 9 0)) X Wd (iy 0 (by decide)) rfl fg_TankArenaModel_34 rfl d_TankArenaModel_drive_236 ?_
    refine lv_iload_n hx hb d_TankArenaModel_drive_239 rfl (lv_at hl 5 rfl) ?_
    refine lv_iload hx hb d_TankArenaModel_drive_240 (lv_at hl 0 rfl) ?_
    refine kc_Si (As := [.int ((gl 9 0 t) + ((gl 13 0 t) * (f_Rup (gl 10 0 t))))]) [.int (nI t), .ref (ad 9 0)] X Wd (k_f_Rlimited l D cI cZ ad (up3 gl 8 0 t (f_Rlimited ((gl 8 0 t) + ((gl 13 0 t) * (f_Racross (gl 10 0 t)))))) ((gl 9 0 t) + ((gl 13 0 t) * (f_Rup (gl 10 0 t))))) cS_TankArenaModel_179 rfl rfl hl.1 ⟨rfl, rfl⟩ ⟨Nat.le_of_ble_eq_true rfl, Nat.le_of_ble_eq_true rfl⟩ (Nat.le_of_ble_eq_true rfl) ⟨Nat.zero_le _, Nat.zero_le _⟩ d_TankArenaModel_drive_242 (fun r u H locs hp Wd => ?_)
    obtain ⟨hr, hu⟩ := hp
    rw [hu] at Wd
    rw [hr]
    clear hr hu
    refine kx_iast (k := 9) (i := 0) (j := t) (t0 := 0) X Wd (iy 9 (by decide)) rell9 rfl rfl ht (by decide) d_TankArenaModel_drive_245 (fun H locs Wd => ?_)
    refine lv_aload_n hx hb d_TankArenaModel_drive_246 rfl (lv_at hl 4 rfl) ?_
    refine kx_get (k := 0) (i := 0) (v := .ref (ad 8 0)) X Wd (iy 0 (by decide)) rfl fg_TankArenaModel_31 rfl d_TankArenaModel_drive_247 ?_
    refine lv_iload_n hx hb d_TankArenaModel_drive_250 rfl (lv_at hl 5 rfl) ?_
    refine kx_iald2 (k := 8) (i := 0) (j := t) (t0 := 0) (f_Rlimited ((gl 8 0 t) + ((gl 13 0 t) * (f_Racross (gl 10 0 t))))) X Wd (iy 8 (by decide)) rell8 rfl rfl ht (by decide) (by simp [up3]) d_TankArenaModel_drive_251 ?_
    refine lv_iload hx hb d_TankArenaModel_drive_252 (lv_at hl 1 rfl) ?_
    refine lv_icmp_ne (tgt := 268) hx hb d_TankArenaModel_drive_254 (by decide) (fun c_4 => ?_) (fun c_4 => ?_)
    · skip
      refine lv_aload_n hx hb d_TankArenaModel_drive_268 rfl (lv_at hl 4 rfl) ?_
      refine kx_get (k := 0) (i := 0) (v := .ref (ad 22 0)) X Wd (iy 0 (by decide)) rfl fg_TankArenaModel_74 rfl d_TankArenaModel_drive_269 ?_
      refine lv_iload_n hx hb d_TankArenaModel_drive_272 rfl (lv_at hl 5 rfl) ?_
      refine lv_iconst (v := 1) hx hb d_TankArenaModel_drive_273 (by decide) ?_
      refine kx_zast (k := 22) (i := 0) (j := t) (t0 := 1) X Wd (iy 22 (by decide)) rell22 rfl rfl ht (by decide) rfl d_TankArenaModel_drive_274 (fun H locs Wd => ?_)
      refine lv_aload_n hx hb d_TankArenaModel_drive_275 rfl (lv_at hl 4 rfl) ?_
      refine kx_get (k := 0) (i := 0) (v := .ref (ad 15 0)) X Wd (iy 0 (by decide)) rfl fg_TankArenaModel_52 rfl d_TankArenaModel_drive_276 ?_
      refine lv_iload_n hx hb d_TankArenaModel_drive_279 rfl (lv_at hl 5 rfl) ?_
      refine lv_dup2_11 hx hb d_TankArenaModel_drive_280 rfl rfl ?_
      refine kx_iald2 (k := 15) (i := 0) (j := t) (t0 := 0) (gl 15 0 t) X Wd (iy 15 (by decide)) rell15 rfl rfl ht (by decide) (by simp [up3]) d_TankArenaModel_drive_281 ?_
      refine lv_aload_n hx hb d_TankArenaModel_drive_282 rfl (lv_at hl 4 rfl) ?_
      refine kx_get (k := 0) (i := 0) (v := .ref (ad 13 0)) X Wd (iy 0 (by decide)) rfl fg_TankArenaModel_46 rfl d_TankArenaModel_drive_283 ?_
      refine lv_iload_n hx hb d_TankArenaModel_drive_286 rfl (lv_at hl 5 rfl) ?_
      refine kx_iald2 (k := 13) (i := 0) (j := t) (t0 := 0) (gl 13 0 t) X Wd (iy 13 (by decide)) rell13 rfl rfl ht (by decide) (by simp [up3]) d_TankArenaModel_drive_287 ?_
      refine lv_iconst (v := 2) hx hb d_TankArenaModel_drive_288 (by decide) ?_
      refine lv_idiv hx hb d_TankArenaModel_drive_289 (by decide) ?_
      refine lv_isub hx hb d_TankArenaModel_drive_290 ?_
      refine kx_iast (k := 15) (i := 0) (j := t) (t0 := 0) X Wd (iy 15 (by decide)) rell15 rfl rfl ht (by decide) d_TankArenaModel_drive_291 (fun H locs Wd => ?_)
      exact J292 (gl 8 0 t) (gl 9 0 t) (up3 (up3 (up3 (up3 gl 8 0 t (f_Rlimited ((gl 8 0 t) + ((gl 13 0 t) * (f_Racross (gl 10 0 t)))))) 9 0 t (f_Rlimited ((gl 9 0 t) + ((gl 13 0 t) * (f_Rup (gl 10 0 t)))))) 22 0 t 1) 15 0 t ((gl 15 0 t) - ((gl 13 0 t) / 2))) (by refine rokU ?_ rfl trivial; refine rokU ?_ rfl (Or.inr rfl); refine rokU ?_ rfl trivial; refine rokU ?_ rfl trivial; exact hv0) (by rw [htg, J_Rdrive168, if_neg c_4]) _ _ Wd _ (lv_sub hl [4, 5, 3, 2] rfl)
    · skip
      refine lv_aload_n hx hb d_TankArenaModel_drive_257 rfl (lv_at hl 4 rfl) ?_
      refine kx_get (k := 0) (i := 0) (v := .ref (ad 9 0)) X Wd (iy 0 (by decide)) rfl fg_TankArenaModel_34 rfl d_TankArenaModel_drive_258 ?_
      refine lv_iload_n hx hb d_TankArenaModel_drive_261 rfl (lv_at hl 5 rfl) ?_
      refine kx_iald2 (k := 9) (i := 0) (j := t) (t0 := 0) (f_Rlimited ((gl 9 0 t) + ((gl 13 0 t) * (f_Rup (gl 10 0 t))))) X Wd (iy 9 (by decide)) rell9 rfl rfl ht (by decide) (by simp [up3]) d_TankArenaModel_drive_262 ?_
      refine lv_iload hx hb d_TankArenaModel_drive_263 (lv_at hl 0 rfl) ?_
      refine lv_icmp_eq (tgt := 292) hx hb d_TankArenaModel_drive_265 (by decide) (fun c_5 => ?_) (fun c_5 => ?_)
      · skip
        exact J292 (gl 8 0 t) (gl 9 0 t) (up3 (up3 gl 8 0 t (f_Rlimited ((gl 8 0 t) + ((gl 13 0 t) * (f_Racross (gl 10 0 t)))))) 9 0 t (f_Rlimited ((gl 9 0 t) + ((gl 13 0 t) * (f_Rup (gl 10 0 t)))))) (by refine rokU ?_ rfl trivial; refine rokU ?_ rfl trivial; exact hv0) (by rw [htg, J_Rdrive168, if_pos c_4, if_pos c_5]) _ _ Wd _ (lv_sub hl [4, 5, 3, 2] rfl)
      · skip
        refine lv_aload_n hx hb d_TankArenaModel_drive_268 rfl (lv_at hl 4 rfl) ?_
        refine kx_get (k := 0) (i := 0) (v := .ref (ad 22 0)) X Wd (iy 0 (by decide)) rfl fg_TankArenaModel_74 rfl d_TankArenaModel_drive_269 ?_
        refine lv_iload_n hx hb d_TankArenaModel_drive_272 rfl (lv_at hl 5 rfl) ?_
        refine lv_iconst (v := 1) hx hb d_TankArenaModel_drive_273 (by decide) ?_
        refine kx_zast (k := 22) (i := 0) (j := t) (t0 := 1) X Wd (iy 22 (by decide)) rell22 rfl rfl ht (by decide) rfl d_TankArenaModel_drive_274 (fun H locs Wd => ?_)
        refine lv_aload_n hx hb d_TankArenaModel_drive_275 rfl (lv_at hl 4 rfl) ?_
        refine kx_get (k := 0) (i := 0) (v := .ref (ad 15 0)) X Wd (iy 0 (by decide)) rfl fg_TankArenaModel_52 rfl d_TankArenaModel_drive_276 ?_
        refine lv_iload_n hx hb d_TankArenaModel_drive_279 rfl (lv_at hl 5 rfl) ?_
        refine lv_dup2_11 hx hb d_TankArenaModel_drive_280 rfl rfl ?_
        refine kx_iald2 (k := 15) (i := 0) (j := t) (t0 := 0) (gl 15 0 t) X Wd (iy 15 (by decide)) rell15 rfl rfl ht (by decide) (by simp [up3]) d_TankArenaModel_drive_281 ?_
        refine lv_aload_n hx hb d_TankArenaModel_drive_282 rfl (lv_at hl 4 rfl) ?_
        refine kx_get (k := 0) (i := 0) (v := .ref (ad 13 0)) X Wd (iy 0 (by decide)) rfl fg_TankArenaModel_46 rfl d_TankArenaModel_drive_283 ?_
        refine lv_iload_n hx hb d_TankArenaModel_drive_286 rfl (lv_at hl 5 rfl) ?_
        refine kx_iald2 (k := 13) (i := 0) (j := t) (t0 := 0) (gl 13 0 t) X Wd (iy 13 (by decide)) rell13 rfl rfl ht (by decide) (by simp [up3]) d_TankArenaModel_drive_287 ?_
        refine lv_iconst (v := 2) hx hb d_TankArenaModel_drive_288 (by decide) ?_
        refine lv_idiv hx hb d_TankArenaModel_drive_289 (by decide) ?_
        refine lv_isub hx hb d_TankArenaModel_drive_290 ?_
        refine kx_iast (k := 15) (i := 0) (j := t) (t0 := 0) X Wd (iy 15 (by decide)) rell15 rfl rfl ht (by decide) d_TankArenaModel_drive_291 (fun H locs Wd => ?_)
        exact J292 (gl 8 0 t) (gl 9 0 t) (up3 (up3 (up3 (up3 gl 8 0 t (f_Rlimited ((gl 8 0 t) + ((gl 13 0 t) * (f_Racross (gl 10 0 t)))))) 9 0 t (f_Rlimited ((gl 9 0 t) + ((gl 13 0 t) * (f_Rup (gl 10 0 t)))))) 22 0 t 1) 15 0 t ((gl 15 0 t) - ((gl 13 0 t) / 2))) (by refine rokU ?_ rfl trivial; refine rokU ?_ rfl (Or.inr rfl); refine rokU ?_ rfl trivial; refine rokU ?_ rfl trivial; exact hv0) (by rw [htg, J_Rdrive168, if_pos c_4, if_neg c_5]) _ _ Wd _ (lv_sub hl [4, 5, 3, 2] rfl)
  have J103 : ∀ (w : Int32) (gl : SG), RokN N gl → g_Rdrive g t = J_Rdrive103 t w gl → ∀ (H : Heap) (locs : List Loc), WR D cI cZ ad (va_A (gR cI cZ ad g) s.heap.size) s.heap gl H locs → ∀ ls : Array Slot, lv_has ls 8 [(0, .ref (ad 0 0)), (1, .int (nI t)), (2, .int w)] → W p l e RM_g_Rdrive s m [.ref (ad 0 0), .int (nI t)].toArray below meth c H locs 0 0 (YV D cI cZ ad below [.ref (ad 0 0), .int (nI t)] s g (fun (u : SG) => u = g_Rdrive g t)) (F0 m 103 ls []) := by
    intro w gl hv0 htg H locs Wd ls hl
    refine lv_iload_n hx hb d_TankArenaModel_drive_103 rfl (lv_at hl 2 rfl) ?_
    refine lv_aload_n hx hb d_TankArenaModel_drive_104 rfl (lv_at hl 0 rfl) ?_
    refine kx_get (k := 0) (i := 0) (v := .ref (ad 13 0)) X Wd (iy 0 (by decide)) rfl fg_TankArenaModel_46 rfl d_TankArenaModel_drive_105 ?_
    refine lv_iload_n hx hb d_TankArenaModel_drive_108 rfl (lv_at hl 1 rfl) ?_
    refine kx_iald (k := 13) (i := 0) (j := t) (t0 := 0) X Wd (iy 13 (by decide)) rell13 rfl rfl ht (by decide) d_TankArenaModel_drive_109 ?_
    refine lv_icmp_le (tgt := 126) hx hb d_TankArenaModel_drive_110 (by decide) (fun c_6 => ?_) (fun c_6 => ?_)
    · skip
      refine lv_iload_n hx hb d_TankArenaModel_drive_126 rfl (lv_at hl 2 rfl) ?_
      refine lv_aload_n hx hb d_TankArenaModel_drive_127 rfl (lv_at hl 0 rfl) ?_
      refine kx_get (k := 0) (i := 0) (v := .ref (ad 13 0)) X Wd (iy 0 (by decide)) rfl fg_TankArenaModel_46 rfl d_TankArenaModel_drive_128 ?_
      refine lv_iload_n hx hb d_TankArenaModel_drive_131 rfl (lv_at hl 1 rfl) ?_
      refine kx_iald (k := 13) (i := 0) (j := t) (t0 := 0) X Wd (iy 13 (by decide)) rell13 rfl rfl ht (by decide) d_TankArenaModel_drive_132 ?_
      refine lv_icmp_ge (tgt := 168) hx hb d_TankArenaModel_drive_133 (by decide) (fun c_7 => ?_) (fun c_7 => ?_)
      · skip
        exact J168 gl hv0 (by rw [htg, J_Rdrive103, if_pos c_6, if_pos c_7]) _ _ Wd _ (lv_sub hl [0, 1] rfl)
      · skip
        refine lv_aload_n hx hb d_TankArenaModel_drive_136 rfl (lv_at hl 0 rfl) ?_
        refine kx_get (k := 0) (i := 0) (v := .ref (ad 13 0)) X Wd (iy 0 (by decide)) rfl fg_TankArenaModel_46 rfl d_TankArenaModel_drive_137 ?_
        refine lv_iload_n hx hb d_TankArenaModel_drive_140 rfl (lv_at hl 1 rfl) ?_
        refine lv_aload_n hx hb d_TankArenaModel_drive_141 rfl (lv_at hl 0 rfl) ?_
        refine kx_get (k := 0) (i := 0) (v := .ref (ad 13 0)) X Wd (iy 0 (by decide)) rfl fg_TankArenaModel_46 rfl d_TankArenaModel_drive_142 ?_
        refine lv_iload_n hx hb d_TankArenaModel_drive_145 rfl (lv_at hl 1 rfl) ?_
        refine kx_iald (k := 13) (i := 0) (j := t) (t0 := 0) X Wd (iy 13 (by decide)) rell13 rfl rfl ht (by decide) d_TankArenaModel_drive_146 ?_
        refine lv_bipush (v := 8) hx hb d_TankArenaModel_drive_147 (by decide) ?_
        refine lv_isub hx hb d_TankArenaModel_drive_149 ?_
        refine lv_iload_n hx hb d_TankArenaModel_drive_150 rfl (lv_at hl 2 rfl) ?_
        refine lv_icmp_ge (tgt := 158) hx hb d_TankArenaModel_drive_151 (by decide) (fun c_8 => ?_) (fun c_8 => ?_)
        · skip
          refine lv_aload_n hx hb d_TankArenaModel_drive_158 rfl (lv_at hl 0 rfl) ?_
          refine kx_get (k := 0) (i := 0) (v := .ref (ad 13 0)) X Wd (iy 0 (by decide)) rfl fg_TankArenaModel_46 rfl d_TankArenaModel_drive_159 ?_
          refine lv_iload_n hx hb d_TankArenaModel_drive_162 rfl (lv_at hl 1 rfl) ?_
          refine kx_iald (k := 13) (i := 0) (j := t) (t0 := 0) X Wd (iy 13 (by decide)) rell13 rfl rfl ht (by decide) d_TankArenaModel_drive_163 ?_
          refine lv_bipush (v := 8) hx hb d_TankArenaModel_drive_164 (by decide) ?_
          refine lv_isub hx hb d_TankArenaModel_drive_166 ?_
          refine kx_iast (k := 13) (i := 0) (j := t) (t0 := 0) X Wd (iy 13 (by decide)) rell13 rfl rfl ht (by decide) d_TankArenaModel_drive_167 (fun H locs Wd => ?_)
          exact J168 (up3 gl 13 0 t ((gl 13 0 t) - 8)) (by refine rokU ?_ rfl trivial; exact hv0) (by rw [htg, J_Rdrive103, if_pos c_6, if_neg c_7, if_pos c_8]) _ _ Wd _ (lv_sub hl [0, 1] rfl)
        · skip
          refine lv_iload_n hx hb d_TankArenaModel_drive_154 rfl (lv_at hl 2 rfl) ?_
          refine lv_goto (tgt := 167) hx hb d_TankArenaModel_drive_155 (by decide) ?_
          refine kx_iast (k := 13) (i := 0) (j := t) (t0 := 0) X Wd (iy 13 (by decide)) rell13 rfl rfl ht (by decide) d_TankArenaModel_drive_167 (fun H locs Wd => ?_)
          exact J168 (up3 gl 13 0 t w) (by refine rokU ?_ rfl trivial; exact hv0) (by rw [htg, J_Rdrive103, if_pos c_6, if_neg c_7, if_neg c_8]) _ _ Wd _ (lv_sub hl [0, 1] rfl)
    · skip
      refine lv_aload_n hx hb d_TankArenaModel_drive_113 rfl (lv_at hl 0 rfl) ?_
      refine kx_get (k := 0) (i := 0) (v := .ref (ad 13 0)) X Wd (iy 0 (by decide)) rfl fg_TankArenaModel_46 rfl d_TankArenaModel_drive_114 ?_
      refine lv_iload_n hx hb d_TankArenaModel_drive_117 rfl (lv_at hl 1 rfl) ?_
      refine lv_dup2_11 hx hb d_TankArenaModel_drive_118 rfl rfl ?_
      refine kx_iald (k := 13) (i := 0) (j := t) (t0 := 0) X Wd (iy 13 (by decide)) rell13 rfl rfl ht (by decide) d_TankArenaModel_drive_119 ?_
      refine lv_iconst (v := 4) hx hb d_TankArenaModel_drive_120 (by decide) ?_
      refine lv_iadd hx hb d_TankArenaModel_drive_121 ?_
      refine kx_iast (k := 13) (i := 0) (j := t) (t0 := 0) X Wd (iy 13 (by decide)) rell13 rfl rfl ht (by decide) d_TankArenaModel_drive_122 (fun H locs Wd => ?_)
      refine lv_goto (tgt := 168) hx hb d_TankArenaModel_drive_123 (by decide) ?_
      exact J168 (up3 gl 13 0 t ((gl 13 0 t) + 4)) (by refine rokU ?_ rfl trivial; exact hv0) (by rw [htg, J_Rdrive103, if_neg c_6]) _ _ Wd _ (lv_sub hl [0, 1] rfl)
  have J33 : ∀ (gl : SG), RokN N gl → g_Rdrive g t = J_Rdrive33 t gl → ∀ (H : Heap) (locs : List Loc), WR D cI cZ ad (va_A (gR cI cZ ad g) s.heap.size) s.heap gl H locs → ∀ ls : Array Slot, lv_has ls 8 [(0, .ref (ad 0 0)), (1, .int (nI t))] → W p l e RM_g_Rdrive s m [.ref (ad 0 0), .int (nI t)].toArray below meth c H locs 0 0 (YV D cI cZ ad below [.ref (ad 0 0), .int (nI t)] s g (fun (u : SG) => u = g_Rdrive g t)) (F0 m 33 ls []) := by
    intro gl hv0 htg H locs Wd ls hl
    refine lv_aload_n hx hb d_TankArenaModel_drive_33 rfl (lv_at hl 0 rfl) ?_
    refine kx_get (k := 0) (i := 0) (v := .ref (ad 11 0)) X Wd (iy 0 (by decide)) rfl fg_TankArenaModel_40 rfl d_TankArenaModel_drive_34 ?_
    refine lv_iload_n hx hb d_TankArenaModel_drive_37 rfl (lv_at hl 1 rfl) ?_
    refine lv_aload_n hx hb d_TankArenaModel_drive_38 rfl (lv_at hl 0 rfl) ?_
    refine kx_get (k := 0) (i := 0) (v := .ref (ad 11 0)) X Wd (iy 0 (by decide)) rfl fg_TankArenaModel_40 rfl d_TankArenaModel_drive_39 ?_
    refine lv_iload_n hx hb d_TankArenaModel_drive_42 rfl (lv_at hl 1 rfl) ?_
    refine kx_iald (k := 11) (i := 0) (j := t) (t0 := 0) X Wd (iy 11 (by decide)) rell11 rfl rfl ht (by decide) d_TankArenaModel_drive_43 ?_
    refine lv_aload_n hx hb d_TankArenaModel_drive_44 rfl (lv_at hl 0 rfl) ?_
    refine kx_get (k := 0) (i := 0) (v := .ref (ad 26 0)) X Wd (iy 0 (by decide)) rfl fg_TankArenaModel_86 rfl d_TankArenaModel_drive_45 ?_
    refine lv_iconst (v := 4) hx hb d_TankArenaModel_drive_48 (by decide) ?_
    refine lv_iload_n hx hb d_TankArenaModel_drive_49 rfl (lv_at hl 1 rfl) ?_
    refine lv_iadd hx hb d_TankArenaModel_drive_50 ?_
    refine kx_iald (k := 26) (i := 0) (j := 4 + t) (t0 := 0) X Wd (iy 26 (by decide)) rell26 rfl (nI_add 4 t) (by omega) (by decide) d_TankArenaModel_drive_51 ?_
    refine lv_iadd hx hb d_TankArenaModel_drive_52 ?_
    refine lv_bipush (v := 7) hx hb d_TankArenaModel_drive_53 (by decide) ?_
    refine lv_iand hx hb d_TankArenaModel_drive_55 ?_
    refine kx_iast (k := 11) (i := 0) (j := t) (t0 := 0) X Wd (iy 11 (by decide)) rell11 rfl rfl ht (by decide) d_TankArenaModel_drive_56 (fun H locs Wd => ?_)
    refine lv_aload_n hx hb d_TankArenaModel_drive_57 rfl (lv_at hl 0 rfl) ?_
    refine kx_get (k := 0) (i := 0) (v := .ref (ad 12 0)) X Wd (iy 0 (by decide)) rfl fg_TankArenaModel_43 rfl d_TankArenaModel_drive_58 ?_
    refine lv_iload_n hx hb d_TankArenaModel_drive_61 rfl (lv_at hl 1 rfl) ?_
    refine lv_aload_n hx hb d_TankArenaModel_drive_62 rfl (lv_at hl 0 rfl) ?_
    refine kx_get (k := 0) (i := 0) (v := .ref (ad 12 0)) X Wd (iy 0 (by decide)) rfl fg_TankArenaModel_43 rfl d_TankArenaModel_drive_63 ?_
    refine lv_iload_n hx hb d_TankArenaModel_drive_66 rfl (lv_at hl 1 rfl) ?_
    refine kx_iald2 (k := 12) (i := 0) (j := t) (t0 := 0) (gl 12 0 t) X Wd (iy 12 (by decide)) rell12 rfl rfl ht (by decide) (by simp [up3]) d_TankArenaModel_drive_67 ?_
    refine lv_aload_n hx hb d_TankArenaModel_drive_68 rfl (lv_at hl 0 rfl) ?_
    refine kx_get (k := 0) (i := 0) (v := .ref (ad 26 0)) X Wd (iy 0 (by decide)) rfl fg_TankArenaModel_86 rfl d_TankArenaModel_drive_69 ?_
    refine lv_bipush (v := 8) hx hb d_TankArenaModel_drive_72 (by decide) ?_
    refine lv_iload_n hx hb d_TankArenaModel_drive_74 rfl (lv_at hl 1 rfl) ?_
    refine lv_iadd hx hb d_TankArenaModel_drive_75 ?_
    refine kx_iald2 (k := 26) (i := 0) (j := 8 + t) (t0 := 0) (gl 26 0 (8 + t)) X Wd (iy 26 (by decide)) rell26 rfl (nI_add 8 t) (by omega) (by decide) (by simp [up3]) d_TankArenaModel_drive_76 ?_
    refine lv_iadd hx hb d_TankArenaModel_drive_77 ?_
    refine lv_bipush (v := 7) hx hb d_TankArenaModel_drive_78 (by decide) ?_
    refine lv_iand hx hb d_TankArenaModel_drive_80 ?_
    refine kx_iast (k := 12) (i := 0) (j := t) (t0 := 0) X Wd (iy 12 (by decide)) rell12 rfl rfl ht (by decide) d_TankArenaModel_drive_81 (fun H locs Wd => ?_)
    refine lv_aload_n hx hb d_TankArenaModel_drive_82 rfl (lv_at hl 0 rfl) ?_
    refine kx_get (k := 0) (i := 0) (v := .ref (ad 19 0)) X Wd (iy 0 (by decide)) rfl fg_TankArenaModel_64 rfl d_TankArenaModel_drive_83 ?_
    refine lv_iload_n hx hb d_TankArenaModel_drive_86 rfl (lv_at hl 1 rfl) ?_
    refine kx_iald2 (k := 19) (i := 0) (j := t) (t0 := 0) (gl 19 0 t) X Wd (iy 19 (by decide)) rell19 rfl rfl ht (by decide) (by simp [up3]) d_TankArenaModel_drive_87 ?_
    refine lv_iconst (v := 2) hx hb d_TankArenaModel_drive_88 (by decide) ?_
    refine lv_icmp_le (tgt := 96) hx hb d_TankArenaModel_drive_89 (by decide) (fun c_9 => ?_) (fun c_9 => ?_)
    · skip
      refine lv_aload_n hx hb d_TankArenaModel_drive_96 rfl (lv_at hl 0 rfl) ?_
      refine kx_get (k := 0) (i := 0) (v := .ref (ad 14 0)) X Wd (iy 0 (by decide)) rfl fg_TankArenaModel_49 rfl d_TankArenaModel_drive_97 ?_
      refine lv_iload_n hx hb d_TankArenaModel_drive_100 rfl (lv_at hl 1 rfl) ?_
      refine kx_iald2 (k := 14) (i := 0) (j := t) (t0 := 0) (gl 14 0 t) X Wd (iy 14 (by decide)) rell14 rfl rfl ht (by decide) (by simp [up3]) d_TankArenaModel_drive_101 ?_
      refine lv_istore_n (lv' := [(2, .int (gl 14 0 t)), (0, .ref (ad 0 0)), (1, .int (nI t))]) hx hb d_TankArenaModel_drive_102 rfl hl (by decide) rfl (fun ls hl => ?_)
      exact J103 (gl 14 0 t) (up3 (up3 gl 11 0 t (((gl 11 0 t) + (gl 26 0 (4 + t))) &&& 7)) 12 0 t (((gl 12 0 t) + (gl 26 0 (8 + t))) &&& 7)) (by refine rokU ?_ rfl trivial; refine rokU ?_ rfl trivial; exact hv0) (by rw [htg, J_Rdrive33, if_pos c_9]) _ _ Wd _ (lv_sub hl [1, 2, 0] rfl)
    · skip
      refine lv_iconst (v := 0) hx hb d_TankArenaModel_drive_92 (by decide) ?_
      refine lv_goto (tgt := 102) hx hb d_TankArenaModel_drive_93 (by decide) ?_
      refine lv_istore_n (lv' := [(2, .int 0), (0, .ref (ad 0 0)), (1, .int (nI t))]) hx hb d_TankArenaModel_drive_102 rfl hl (by decide) rfl (fun ls hl => ?_)
      exact J103 0 (up3 (up3 gl 11 0 t (((gl 11 0 t) + (gl 26 0 (4 + t))) &&& 7)) 12 0 t (((gl 12 0 t) + (gl 26 0 (8 + t))) &&& 7)) (by refine rokU ?_ rfl trivial; refine rokU ?_ rfl trivial; exact hv0) (by rw [htg, J_Rdrive33, if_neg c_9]) _ _ Wd _ (lv_sub hl [1, 2, 0] rfl)
  refine lv_aload_n hx hb d_TankArenaModel_drive_0 rfl (lv_at hl 0 rfl) ?_
  refine kx_get (k := 0) (i := 0) (v := .ref (ad 13 0)) X Wd (iy 0 (by decide)) rfl fg_TankArenaModel_46 rfl d_TankArenaModel_drive_1 ?_
  refine lv_iload_n hx hb d_TankArenaModel_drive_4 rfl (lv_at hl 1 rfl) ?_
  refine kx_iald (k := 13) (i := 0) (j := t) (t0 := 0) X Wd (iy 13 (by decide)) rell13 rfl rfl ht (by decide) d_TankArenaModel_drive_5 ?_
  refine lv_bipush (v := 16) hx hb d_TankArenaModel_drive_6 (by decide) ?_
  refine lv_icmp_gt (tgt := 33) hx hb d_TankArenaModel_drive_8 (by decide) (fun c_10 => ?_) (fun c_10 => ?_)
  · skip
    exact J33 g ok (by rw [g_Rdrive, if_pos c_10]) _ _ Wd _ (lv_sub hl [0, 1] rfl)
  · skip
    refine lv_aload_n hx hb d_TankArenaModel_drive_11 rfl (lv_at hl 0 rfl) ?_
    refine kx_get (k := 0) (i := 0) (v := .ref (ad 10 0)) X Wd (iy 0 (by decide)) rfl fg_TankArenaModel_37 rfl d_TankArenaModel_drive_12 ?_
    refine lv_iload_n hx hb d_TankArenaModel_drive_15 rfl (lv_at hl 1 rfl) ?_
    refine lv_aload_n hx hb d_TankArenaModel_drive_16 rfl (lv_at hl 0 rfl) ?_
    refine kx_get (k := 0) (i := 0) (v := .ref (ad 10 0)) X Wd (iy 0 (by decide)) rfl fg_TankArenaModel_37 rfl d_TankArenaModel_drive_17 ?_
    refine lv_iload_n hx hb d_TankArenaModel_drive_20 rfl (lv_at hl 1 rfl) ?_
    refine kx_iald (k := 10) (i := 0) (j := t) (t0 := 0) X Wd (iy 10 (by decide)) rell10 rfl rfl ht (by decide) d_TankArenaModel_drive_21 ?_
    refine lv_aload_n hx hb d_TankArenaModel_drive_22 rfl (lv_at hl 0 rfl) ?_
    refine kx_get (k := 0) (i := 0) (v := .ref (ad 26 0)) X Wd (iy 0 (by decide)) rfl fg_TankArenaModel_86 rfl d_TankArenaModel_drive_23 ?_
    refine lv_iload_n hx hb d_TankArenaModel_drive_26 rfl (lv_at hl 1 rfl) ?_
    refine kx_iald (k := 26) (i := 0) (j := t) (t0 := 0) X Wd (iy 26 (by decide)) rell26 rfl rfl (by omega) (by decide) d_TankArenaModel_drive_27 ?_
    refine lv_iadd hx hb d_TankArenaModel_drive_28 ?_
    refine lv_bipush (v := 7) hx hb d_TankArenaModel_drive_29 (by decide) ?_
    refine lv_iand hx hb d_TankArenaModel_drive_31 ?_
    refine kx_iast (k := 10) (i := 0) (j := t) (t0 := 0) X Wd (iy 10 (by decide)) rell10 rfl rfl ht (by decide) d_TankArenaModel_drive_32 (fun H locs Wd => ?_)
    exact J33 (up3 g 10 0 t (((g 10 0 t) + (g 26 0 t)) &&& 7)) (by refine rokU ?_ rfl trivial; exact ok) (by rw [g_Rdrive, if_neg c_10]) _ _ Wd _ (lv_sub hl [0, 1] rfl)
abbrev RM_x_Rturn : Room := { frames := 5, cells := 0, slots := 0, locals := 112 }
set_option maxHeartbeats 1000000 in
set_option maxRecDepth 100000 in
theorem k_x_Rturn (l : Launch) (D : va_G) (cI cZ : ClassId) (ad : Nat → Nat → Nat) (g : SG) (N : Nat) (ok : RokN N g) (hf : rng (g 0 0 4) 597) : RI l y_TankArenaModel_turn b_TankArenaModel_turn 2 (some .int) RM_x_Rturn D cI cZ ad [.ref (ad 0 0)] g (fun (r : Int32) (u : SG) => r = (x_Rturn g).1 ∧ u = (x_Rturn g).2) := by
  refine met_of (cc := b_TankArenaModel_turn) (nL := 2) (ret := (some .int)) (by decide) rfl (Nat.le_of_ble_eq_true rfl) ?_
  intro p e s m below meth c X hnm Wd ls hl
  have X := X.tt
  have hx := X.1
  have hb := X.2.1
  have hown := X.2.2.2.1
  have hts := X.2.2.2.2.1
  have hl : lv_has ls 2 [(0, .ref (ad 0 0))] := hl
  have Wd : WR D cI cZ ad (va_A (gR cI cZ ad g) s.heap.size) s.heap g s.heap [] := Wd
  obtain ⟨hN4, eN⟩ := ok.N
  refine lv_aload_n hx hb d_TankArenaModel_turn_0 rfl (lv_at hl 0 rfl) ?_
  refine kc_Vi (As := []) [] X Wd (k_f_Rliving l D cI cZ ad g N ok) cV_TankArenaModel_185 (kx_recv (k := 0) (i := 0) X Wd (iy 0 (by decide)) rfl rfl) rfl rfl hl.1 ⟨rfl, rfl⟩ ⟨Nat.le_of_ble_eq_true rfl, Nat.le_of_ble_eq_true rfl⟩ (Nat.le_of_ble_eq_true rfl) ⟨Nat.zero_le _, Nat.zero_le _⟩ d_TankArenaModel_turn_1 (fun r u H locs hp Wd => ?_)
  obtain ⟨hr, hu⟩ := hp
  rw [hu] at Wd
  rw [hr]
  clear hr hu
  refine lv_iconst (v := 2) hx hb d_TankArenaModel_turn_4 (by decide) ?_
  refine lv_icmp_ge (tgt := 11) hx hb d_TankArenaModel_turn_5 (by decide) (fun c_1 => ?_) (fun c_1 => ?_)
  · skip
    refine lv_aload_n hx hb d_TankArenaModel_turn_11 rfl (lv_at hl 0 rfl) ?_
    refine lv_dup hx hb d_TankArenaModel_turn_12 rfl ?_
    refine kx_geto (k := 0) (i := 0) 1 (g 0 0 1) X Wd (iy 0 (by decide)) rell0 fg_TankArenaModel_118 (fun _ => rfl) rfl d_TankArenaModel_turn_13 ?_
    refine lv_iconst (v := 1) hx hb d_TankArenaModel_turn_16 (by decide) ?_
    refine lv_iadd hx hb d_TankArenaModel_turn_17 ?_
    refine kx_puto (k := 0) (i := 0) (v := (g 0 0 1) + 1) 1 X Wd (iy 0 (by decide)) rell0 fp_TankArenaModel_118 (fun _ => rfl) (fun _ => Nat.le_of_ble_eq_true rfl) rfl rfl d_TankArenaModel_turn_18 (fun H locs Wd => ?_)
    refine lv_iconst (v := 0) hx hb d_TankArenaModel_turn_21 (by decide) ?_
    refine lv_istore_n (lv' := [(1, .int 0), (0, .ref (ad 0 0))]) hx hb d_TankArenaModel_turn_22 rfl hl (by decide) rfl (fun ls hl => ?_)
    have loopa : ∀ (na : Nat) (i1 : Nat) (gla : SG), RokN N gla → i1 ≤ N → N + 1 ≤ i1 + na → rng (gla 0 0 4) 597 → x_Rturn g = L_Rt1 na i1 gla → ∀ (H : Heap) (locs : List Loc), WR D cI cZ ad (va_A (gR cI cZ ad g) s.heap.size) s.heap gla H locs → ∀ ls : Array Slot, lv_has ls 2 [(0, .ref (ad 0 0)), (1, .int (nI i1))] → W p l e RM_x_Rturn s m [.ref (ad 0 0)].toArray below meth c H locs 0 0 (YI D cI cZ ad below [.ref (ad 0 0)] s g (fun (r : Int32) (u : SG) => r = (x_Rturn g).1 ∧ u = (x_Rturn g).2)) (F0 m 23 ls []) := by
      intro na
      induction na with
      | zero =>
        intro i1 gla hva0 hva1 hva2 hva3
        exfalso
        omega
      | succ na iha =>
        intro i1 gla hva0 hva1 hva2 hva3 htga H locs Wd ls hl
        obtain ⟨hN4, eN⟩ := hva0.N
        refine lv_iload_n hx hb d_TankArenaModel_turn_23 rfl (lv_at hl 1 rfl) ?_
        refine lv_aload_n hx hb d_TankArenaModel_turn_24 rfl (lv_at hl 0 rfl) ?_
        refine kx_geto (k := 0) (i := 0) 0 (gla 0 0 0) X Wd (iy 0 (by decide)) rell0 fg_TankArenaModel_122 (fun _ => rfl) rfl d_TankArenaModel_turn_25 ?_
        refine lv_icmp_ge (tgt := 66) hx hb d_TankArenaModel_turn_28 (by decide) (fun c_2 => ?_) (fun c_2 => ?_)
        · skip
          refine lv_iconst (v := 0) hx hb d_TankArenaModel_turn_66 (by decide) ?_
          refine lv_istore_n (lv' := [(1, .int 0), (0, .ref (ad 0 0))]) hx hb d_TankArenaModel_turn_67 rfl hl (by decide) rfl (fun ls hl => ?_)
          have loopb : ∀ (nb : Nat) (i2 : Nat) (glb : SG), RokN N glb → i2 ≤ N → N + 1 ≤ i2 + nb → rng (glb 0 0 4) 597 → x_Rturn g = L_Rt2 nb i2 glb → ∀ (H : Heap) (locs : List Loc), WR D cI cZ ad (va_A (gR cI cZ ad g) s.heap.size) s.heap glb H locs → ∀ ls : Array Slot, lv_has ls 2 [(0, .ref (ad 0 0)), (1, .int (nI i2))] → W p l e RM_x_Rturn s m [.ref (ad 0 0)].toArray below meth c H locs 0 0 (YI D cI cZ ad below [.ref (ad 0 0)] s g (fun (r : Int32) (u : SG) => r = (x_Rturn g).1 ∧ u = (x_Rturn g).2)) (F0 m 68 ls []) := by
            intro nb
            induction nb with
            | zero =>
              intro i2 glb hvb0 hvb1 hvb2 hvb3
              exfalso
              omega
            | succ nb ihb =>
              intro i2 glb hvb0 hvb1 hvb2 hvb3 htgb H locs Wd ls hl
              obtain ⟨hN4, eN⟩ := hvb0.N
              refine lv_iload_n hx hb d_TankArenaModel_turn_68 rfl (lv_at hl 1 rfl) ?_
              refine lv_aload_n hx hb d_TankArenaModel_turn_69 rfl (lv_at hl 0 rfl) ?_
              refine kx_geto (k := 0) (i := 0) 0 (glb 0 0 0) X Wd (iy 0 (by decide)) rell0 fg_TankArenaModel_122 (fun _ => rfl) rfl d_TankArenaModel_turn_70 ?_
              refine lv_icmp_ge (tgt := 87) hx hb d_TankArenaModel_turn_73 (by decide) (fun c_3 => ?_) (fun c_3 => ?_)
              · skip
                refine lv_iconst (v := 0) hx hb d_TankArenaModel_turn_87 (by decide) ?_
                refine lv_istore_n (lv' := [(1, .int 0), (0, .ref (ad 0 0))]) hx hb d_TankArenaModel_turn_88 rfl hl (by decide) rfl (fun ls hl => ?_)
                have loopc : ∀ (nc : Nat) (i3 : Nat) (glc : SG), RokN N glc → i3 ≤ N → N + 1 ≤ i3 + nc → rng (glc 0 0 4) (597 + i3) → x_Rturn g = L_Rt3 nc i3 glc → ∀ (H : Heap) (locs : List Loc), WR D cI cZ ad (va_A (gR cI cZ ad g) s.heap.size) s.heap glc H locs → ∀ ls : Array Slot, lv_has ls 2 [(0, .ref (ad 0 0)), (1, .int (nI i3))] → W p l e RM_x_Rturn s m [.ref (ad 0 0)].toArray below meth c H locs 0 0 (YI D cI cZ ad below [.ref (ad 0 0)] s g (fun (r : Int32) (u : SG) => r = (x_Rturn g).1 ∧ u = (x_Rturn g).2)) (F0 m 89 ls []) := by
                  intro nc
                  induction nc with
                  | zero =>
                    intro i3 glc hvc0 hvc1 hvc2 hvc3
                    exfalso
                    omega
                  | succ nc ihc =>
                    intro i3 glc hvc0 hvc1 hvc2 hvc3 htgc H locs Wd ls hl
                    obtain ⟨hN4, eN⟩ := hvc0.N
                    refine lv_iload_n hx hb d_TankArenaModel_turn_89 rfl (lv_at hl 1 rfl) ?_
                    refine lv_aload_n hx hb d_TankArenaModel_turn_90 rfl (lv_at hl 0 rfl) ?_
                    refine kx_geto (k := 0) (i := 0) 0 (glc 0 0 0) X Wd (iy 0 (by decide)) rell0 fg_TankArenaModel_122 (fun _ => rfl) rfl d_TankArenaModel_turn_91 ?_
                    refine lv_icmp_ge (tgt := 117) hx hb d_TankArenaModel_turn_94 (by decide) (fun c_4 => ?_) (fun c_4 => ?_)
                    · skip
                      obtain ⟨K, hK, eK⟩ : rng (glc 0 0 4) 601 := rng_mono hvc3 (by omega)
                      refine lv_iconst (v := 0) hx hb d_TankArenaModel_turn_117 (by decide) ?_
                      refine lv_istore_n (lv' := [(1, .int 0), (0, .ref (ad 0 0))]) hx hb d_TankArenaModel_turn_118 rfl hl (by decide) rfl (fun ls hl => ?_)
                      have loopd : ∀ (nd : Nat) (i4 : Nat) (gld : SG), RokN N gld → i4 ≤ K → K + 1 ≤ i4 + nd → gld 0 0 4 = nI K → K < 601 → x_Rturn g = L_Rt4 nd i4 gld → ∀ (H : Heap) (locs : List Loc), WR D cI cZ ad (va_A (gR cI cZ ad g) s.heap.size) s.heap gld H locs → ∀ ls : Array Slot, lv_has ls 2 [(0, .ref (ad 0 0)), (1, .int (nI i4))] → W p l e RM_x_Rturn s m [.ref (ad 0 0)].toArray below meth c H locs 0 0 (YI D cI cZ ad below [.ref (ad 0 0)] s g (fun (r : Int32) (u : SG) => r = (x_Rturn g).1 ∧ u = (x_Rturn g).2)) (F0 m 119 ls []) := by
                        intro nd
                        induction nd with
                        | zero =>
                          intro i4 gld hvd0 hvd1 hvd2 hvd3 hvd4
                          exfalso
                          omega
                        | succ nd ihd =>
                          intro i4 gld hvd0 hvd1 hvd2 hvd3 hvd4 htgd H locs Wd ls hl
                          obtain ⟨hN4, eN⟩ := hvd0.N
                          refine lv_iload_n hx hb d_TankArenaModel_turn_119 rfl (lv_at hl 1 rfl) ?_
                          refine lv_aload_n hx hb d_TankArenaModel_turn_120 rfl (lv_at hl 0 rfl) ?_
                          refine kx_geto (k := 0) (i := 0) 4 (gld 0 0 4) X Wd (iy 0 (by decide)) rell0 fg_TankArenaModel_150 (fun _ => rfl) rfl d_TankArenaModel_turn_121 ?_
                          refine lv_icmp_ge (tgt := 147) hx hb d_TankArenaModel_turn_124 (by decide) (fun c_5 => ?_) (fun c_5 => ?_)
                          · skip
                            refine lv_iconst (v := 0) hx hb d_TankArenaModel_turn_147 (by decide) ?_
                            refine lv_istore_n (lv' := [(1, .int 0), (0, .ref (ad 0 0))]) hx hb d_TankArenaModel_turn_148 rfl hl (by decide) rfl (fun ls hl => ?_)
                            have loope : ∀ (ne : Nat) (i5 : Nat) (gle : SG), RokN N gle → i5 ≤ N → N + 1 ≤ i5 + ne → x_Rturn g = L_Rt5 ne i5 gle → ∀ (H : Heap) (locs : List Loc), WR D cI cZ ad (va_A (gR cI cZ ad g) s.heap.size) s.heap gle H locs → ∀ ls : Array Slot, lv_has ls 2 [(0, .ref (ad 0 0)), (1, .int (nI i5))] → W p l e RM_x_Rturn s m [.ref (ad 0 0)].toArray below meth c H locs 0 0 (YI D cI cZ ad below [.ref (ad 0 0)] s g (fun (r : Int32) (u : SG) => r = (x_Rturn g).1 ∧ u = (x_Rturn g).2)) (F0 m 149 ls []) := by
                              intro ne
                              induction ne with
                              | zero =>
                                intro i5 gle hve0 hve1 hve2
                                exfalso
                                omega
                              | succ ne ihe =>
                                intro i5 gle hve0 hve1 hve2 htge H locs Wd ls hl
                                obtain ⟨hN4, eN⟩ := hve0.N
                                refine lv_iload_n hx hb d_TankArenaModel_turn_149 rfl (lv_at hl 1 rfl) ?_
                                refine lv_aload_n hx hb d_TankArenaModel_turn_150 rfl (lv_at hl 0 rfl) ?_
                                refine kx_geto (k := 0) (i := 0) 0 (gle 0 0 0) X Wd (iy 0 (by decide)) rell0 fg_TankArenaModel_122 (fun _ => rfl) rfl d_TankArenaModel_turn_151 ?_
                                refine lv_icmp_ge (tgt := 177) hx hb d_TankArenaModel_turn_154 (by decide) (fun c_6 => ?_) (fun c_6 => ?_)
                                · skip
                                  refine lv_iconst (v := 0) hx hb d_TankArenaModel_turn_177 (by decide) ?_
                                  refine lv_istore_n (lv' := [(1, .int 0), (0, .ref (ad 0 0))]) hx hb d_TankArenaModel_turn_178 rfl hl (by decide) rfl (fun ls hl => ?_)
                                  have loopf : ∀ (nf : Nat) (i6 : Nat) (glf : SG), RokN N glf → i6 ≤ N → N + 1 ≤ i6 + nf → x_Rturn g = L_Rt6 nf i6 glf → ∀ (H : Heap) (locs : List Loc), WR D cI cZ ad (va_A (gR cI cZ ad g) s.heap.size) s.heap glf H locs → ∀ ls : Array Slot, lv_has ls 2 [(0, .ref (ad 0 0)), (1, .int (nI i6))] → W p l e RM_x_Rturn s m [.ref (ad 0 0)].toArray below meth c H locs 0 0 (YI D cI cZ ad below [.ref (ad 0 0)] s g (fun (r : Int32) (u : SG) => r = (x_Rturn g).1 ∧ u = (x_Rturn g).2)) (F0 m 179 ls []) := by
                                    intro nf
                                    induction nf with
                                    | zero =>
                                      intro i6 glf hvf0 hvf1 hvf2
                                      exfalso
                                      omega
                                    | succ nf ihf =>
                                      intro i6 glf hvf0 hvf1 hvf2 htgf H locs Wd ls hl
                                      obtain ⟨hN4, eN⟩ := hvf0.N
                                      refine lv_iload_n hx hb d_TankArenaModel_turn_179 rfl (lv_at hl 1 rfl) ?_
                                      refine lv_aload_n hx hb d_TankArenaModel_turn_180 rfl (lv_at hl 0 rfl) ?_
                                      refine kx_geto (k := 0) (i := 0) 0 (glf 0 0 0) X Wd (iy 0 (by decide)) rell0 fg_TankArenaModel_122 (fun _ => rfl) rfl d_TankArenaModel_turn_181 ?_
                                      refine lv_icmp_ge (tgt := 207) hx hb d_TankArenaModel_turn_184 (by decide) (fun c_7 => ?_) (fun c_7 => ?_)
                                      · skip
                                        refine lv_aload_n hx hb d_TankArenaModel_turn_207 rfl (lv_at hl 0 rfl) ?_
                                        refine kc_Vi (As := []) [] X Wd (k_f_Rliving l D cI cZ ad glf N hvf0) cV_TankArenaModel_185 (kx_recv (k := 0) (i := 0) X Wd (iy 0 (by decide)) rfl rfl) rfl rfl hl.1 ⟨rfl, rfl⟩ ⟨Nat.le_of_ble_eq_true rfl, Nat.le_of_ble_eq_true rfl⟩ (Nat.le_of_ble_eq_true rfl) ⟨Nat.zero_le _, Nat.zero_le _⟩ d_TankArenaModel_turn_208 (fun r u H locs hp Wd => ?_)
                                        obtain ⟨hr, hu⟩ := hp
                                        rw [hu] at Wd
                                        rw [hr]
                                        clear hr hu
                                        exact kx_iret (u := glf) X rfl Wd (by rw [htgf, L_Rt6, if_pos c_7]; dsimp only; exact ⟨rfl, rfl⟩) d_TankArenaModel_turn_211
                                      · skip
                                        have hiN : i6 < N := nlt_of eN (by omega) (by omega) c_7
                                        have hi6 : i6 < 4 := by omega
                                        refine lv_aload_n hx hb d_TankArenaModel_turn_187 rfl (lv_at hl 0 rfl) ?_
                                        refine kx_get (k := 0) (i := 0) (v := .ref (ad 21 0)) X Wd (iy 0 (by decide)) rfl fg_TankArenaModel_70 rfl d_TankArenaModel_turn_188 ?_
                                        refine lv_iload_n hx hb d_TankArenaModel_turn_191 rfl (lv_at hl 1 rfl) ?_
                                        refine kx_zald2 (k := 21) (i := 0) (j := i6) (t0 := 1) (glf 21 0 i6) X Wd (iy 21 (by decide)) rell21 rfl rfl (by omega) (by decide) rfl d_TankArenaModel_turn_192 ?_
                                        refine lv_if_eq (tgt := 201) hx hb d_TankArenaModel_turn_193 (by decide) (fun c_8 => ?_) (fun c_8 => ?_)
                                        · skip
                                          refine lv_iinc (v := nI (i6 + 1)) (lv' := [(1, .int (nI (i6 + 1))), (0, .ref (ad 0 0))]) hx hb d_TankArenaModel_turn_201 hl (k := 1) rfl (nI_1 i6) (by decide) rfl (fun ls hl => ?_)
                                          refine lv_goto (tgt := 179) hx hb d_TankArenaModel_turn_204 (by decide) ?_
                                          exact ihf (i6 + 1) glf hvf0 (by omega) (by omega) (by rw [htgf, L_Rt6, if_neg c_7, if_pos c_8]) _ _ Wd _ (lv_sub hl [1, 0] rfl)
                                        · skip
                                          refine lv_aload_n hx hb d_TankArenaModel_turn_196 rfl (lv_at hl 0 rfl) ?_
                                          refine lv_iload_n hx hb d_TankArenaModel_turn_197 rfl (lv_at hl 1 rfl) ?_
                                          refine kc_Vv (As := [.int (nI i6)]) [] X Wd (k_g_Rlook l D cI cZ ad glf i6 (by omega) (nI i6) rfl N hvf0) cV_TankArenaModel_201 (kx_recv (k := 0) (i := 0) X Wd (iy 0 (by decide)) rfl rfl) rfl rfl hl.1 ⟨rfl, rfl⟩ ⟨Nat.le_of_ble_eq_true rfl, Nat.le_of_ble_eq_true rfl⟩ (Nat.le_of_ble_eq_true rfl) ⟨Nat.zero_le _, Nat.zero_le _⟩ d_TankArenaModel_turn_198 (fun u H locs hp Wd => ?_)
                                          rw [hp] at Wd
                                          clear hp
                                          have Wd : WR D cI cZ ad _ s.heap (g_Rlook glf i6) H locs := Wd
                                          refine lv_iinc (v := nI (i6 + 1)) (lv' := [(1, .int (nI (i6 + 1))), (0, .ref (ad 0 0))]) hx hb d_TankArenaModel_turn_201 hl (k := 1) rfl (nI_1 i6) (by decide) rfl (fun ls hl => ?_)
                                          refine lv_goto (tgt := 179) hx hb d_TankArenaModel_turn_204 (by decide) ?_
                                          exact ihf (i6 + 1) (g_Rlook glf i6) (by refine ok_g_Rlook ?_ i6; exact hvf0) (by omega) (by omega) (by rw [htgf, L_Rt6, if_neg c_7, if_neg c_8]) _ _ Wd _ (lv_sub hl [1, 0] rfl)
                                  exact loopf 5 0 gle hve0 (by omega) (by omega) (by rw [htge, L_Rt5, if_pos c_6]) _ _ Wd _ (lv_sub hl [1, 0] rfl)
                                · skip
                                  have hiN : i5 < N := nlt_of eN (by omega) (by omega) c_6
                                  have hi5 : i5 < 4 := by omega
                                  refine lv_aload_n hx hb d_TankArenaModel_turn_157 rfl (lv_at hl 0 rfl) ?_
                                  refine kx_get (k := 0) (i := 0) (v := .ref (ad 21 0)) X Wd (iy 0 (by decide)) rfl fg_TankArenaModel_70 rfl d_TankArenaModel_turn_158 ?_
                                  refine lv_iload_n hx hb d_TankArenaModel_turn_161 rfl (lv_at hl 1 rfl) ?_
                                  refine kx_zald2 (k := 21) (i := 0) (j := i5) (t0 := 1) (gle 21 0 i5) X Wd (iy 21 (by decide)) rell21 rfl rfl (by omega) (by decide) rfl d_TankArenaModel_turn_162 ?_
                                  refine lv_if_eq (tgt := 171) hx hb d_TankArenaModel_turn_163 (by decide) (fun c_9 => ?_) (fun c_9 => ?_)
                                  · skip
                                    refine lv_iinc (v := nI (i5 + 1)) (lv' := [(1, .int (nI (i5 + 1))), (0, .ref (ad 0 0))]) hx hb d_TankArenaModel_turn_171 hl (k := 1) rfl (nI_1 i5) (by decide) rfl (fun ls hl => ?_)
                                    refine lv_goto (tgt := 149) hx hb d_TankArenaModel_turn_174 (by decide) ?_
                                    exact ihe (i5 + 1) gle hve0 (by omega) (by omega) (by rw [htge, L_Rt5, if_neg c_6, if_pos c_9]) _ _ Wd _ (lv_sub hl [1, 0] rfl)
                                  · skip
                                    refine lv_aload_n hx hb d_TankArenaModel_turn_166 rfl (lv_at hl 0 rfl) ?_
                                    refine lv_iload_n hx hb d_TankArenaModel_turn_167 rfl (lv_at hl 1 rfl) ?_
                                    refine kc_Vv (As := [.int (nI i5)]) [] X Wd (k_g_Rdrive l D cI cZ ad gle i5 (by omega) (nI i5) rfl N hve0) cV_TankArenaModel_198 (kx_recv (k := 0) (i := 0) X Wd (iy 0 (by decide)) rfl rfl) rfl rfl hl.1 ⟨rfl, rfl⟩ ⟨Nat.le_of_ble_eq_true rfl, Nat.le_of_ble_eq_true rfl⟩ (Nat.le_of_ble_eq_true rfl) ⟨Nat.zero_le _, Nat.zero_le _⟩ d_TankArenaModel_turn_168 (fun u H locs hp Wd => ?_)
                                    rw [hp] at Wd
                                    clear hp
                                    have Wd : WR D cI cZ ad _ s.heap (g_Rdrive gle i5) H locs := Wd
                                    refine lv_iinc (v := nI (i5 + 1)) (lv' := [(1, .int (nI (i5 + 1))), (0, .ref (ad 0 0))]) hx hb d_TankArenaModel_turn_171 hl (k := 1) rfl (nI_1 i5) (by decide) rfl (fun ls hl => ?_)
                                    refine lv_goto (tgt := 149) hx hb d_TankArenaModel_turn_174 (by decide) ?_
                                    exact ihe (i5 + 1) (g_Rdrive gle i5) (by refine ok_g_Rdrive ?_ i5; exact hve0) (by omega) (by omega) (by rw [htge, L_Rt5, if_neg c_6, if_neg c_9]) _ _ Wd _ (lv_sub hl [1, 0] rfl)
                            exact loope 5 0 gld hvd0 (by omega) (by omega) (by rw [htgd, L_Rt4, if_pos c_5]) _ _ Wd _ (lv_sub hl [1, 0] rfl)
                          · skip
                            have hi4K : i4 < K := nlt_of hvd3 (by omega) (by omega) c_5
                            have hi4 : i4 < 600 := by omega
                            refine lv_aload_n hx hb d_TankArenaModel_turn_127 rfl (lv_at hl 0 rfl) ?_
                            refine kx_get (k := 0) (i := 0) (v := .ref (ad 33 0)) X Wd (iy 0 (by decide)) rfl fg_TankArenaModel_107 rfl d_TankArenaModel_turn_128 ?_
                            refine lv_iload_n hx hb d_TankArenaModel_turn_131 rfl (lv_at hl 1 rfl) ?_
                            refine kx_zald2 (k := 33) (i := 0) (j := i4) (t0 := 1) (gld 33 0 i4) X Wd (iy 33 (by decide)) rell33 rfl rfl (by omega) (by decide) rfl d_TankArenaModel_turn_132 ?_
                            refine lv_if_ne (tgt := 141) hx hb d_TankArenaModel_turn_133 (by decide) (fun c_10 => ?_) (fun c_10 => ?_)
                            · skip
                              refine lv_iinc (v := nI (i4 + 1)) (lv' := [(1, .int (nI (i4 + 1))), (0, .ref (ad 0 0))]) hx hb d_TankArenaModel_turn_141 hl (k := 1) rfl (nI_1 i4) (by decide) rfl (fun ls hl => ?_)
                              refine lv_goto (tgt := 119) hx hb d_TankArenaModel_turn_144 (by decide) ?_
                              exact ihd (i4 + 1) gld hvd0 (by omega) (by omega) (by first | exact hvd3 | exact (fr_fly).trans hvd3) hvd4 (by rw [htgd, L_Rt4, if_neg c_5, if_neg c_10]) _ _ Wd _ (lv_sub hl [1, 0] rfl)
                            · skip
                              refine lv_aload_n hx hb d_TankArenaModel_turn_136 rfl (lv_at hl 0 rfl) ?_
                              refine lv_iload_n hx hb d_TankArenaModel_turn_137 rfl (lv_at hl 1 rfl) ?_
                              refine kc_Vv (As := [.int (nI i4)]) [] X Wd (k_g_Rfly l D cI cZ ad gld i4 (by omega) (nI i4) rfl N hvd0) cV_TankArenaModel_195 (kx_recv (k := 0) (i := 0) X Wd (iy 0 (by decide)) rfl rfl) rfl rfl hl.1 ⟨rfl, rfl⟩ ⟨Nat.le_of_ble_eq_true rfl, Nat.le_of_ble_eq_true rfl⟩ (Nat.le_of_ble_eq_true rfl) ⟨Nat.zero_le _, Nat.zero_le _⟩ d_TankArenaModel_turn_138 (fun u H locs hp Wd => ?_)
                              rw [hp] at Wd
                              clear hp
                              have Wd : WR D cI cZ ad _ s.heap (g_Rfly gld i4) H locs := Wd
                              refine lv_iinc (v := nI (i4 + 1)) (lv' := [(1, .int (nI (i4 + 1))), (0, .ref (ad 0 0))]) hx hb d_TankArenaModel_turn_141 hl (k := 1) rfl (nI_1 i4) (by decide) rfl (fun ls hl => ?_)
                              refine lv_goto (tgt := 119) hx hb d_TankArenaModel_turn_144 (by decide) ?_
                              exact ihd (i4 + 1) (g_Rfly gld i4) (by refine ok_g_Rfly ?_ i4; exact hvd0) (by omega) (by omega) (by first | exact hvd3 | exact (fr_fly).trans hvd3) hvd4 (by rw [htgd, L_Rt4, if_neg c_5, if_pos c_10]) _ _ Wd _ (lv_sub hl [1, 0] rfl)
                      exact loopd 601 0 glc hvc0 (by omega) (by omega) eK hK (by rw [htgc, L_Rt3, if_pos c_4]) _ _ Wd _ (lv_sub hl [1, 0] rfl)
                    · skip
                      have hiN : i3 < N := nlt_of eN (by omega) (by omega) c_4
                      have hi3 : i3 < 4 := by omega
                      refine lv_aload_n hx hb d_TankArenaModel_turn_97 rfl (lv_at hl 0 rfl) ?_
                      refine kx_get (k := 0) (i := 0) (v := .ref (ad 21 0)) X Wd (iy 0 (by decide)) rfl fg_TankArenaModel_70 rfl d_TankArenaModel_turn_98 ?_
                      refine lv_iload_n hx hb d_TankArenaModel_turn_101 rfl (lv_at hl 1 rfl) ?_
                      refine kx_zald2 (k := 21) (i := 0) (j := i3) (t0 := 1) (glc 21 0 i3) X Wd (iy 21 (by decide)) rell21 rfl rfl (by omega) (by decide) rfl d_TankArenaModel_turn_102 ?_
                      refine lv_if_eq (tgt := 111) hx hb d_TankArenaModel_turn_103 (by decide) (fun c_11 => ?_) (fun c_11 => ?_)
                      · skip
                        refine lv_iinc (v := nI (i3 + 1)) (lv' := [(1, .int (nI (i3 + 1))), (0, .ref (ad 0 0))]) hx hb d_TankArenaModel_turn_111 hl (k := 1) rfl (nI_1 i3) (by decide) rfl (fun ls hl => ?_)
                        refine lv_goto (tgt := 89) hx hb d_TankArenaModel_turn_114 (by decide) ?_
                        exact ihc (i3 + 1) glc hvc0 (by omega) (by omega) (by first | exact rng_mono hvc3 (by omega) | exact fr_fire hvc3) (by rw [htgc, L_Rt3, if_neg c_4, if_pos c_11]) _ _ Wd _ (lv_sub hl [1, 0] rfl)
                      · skip
                        refine lv_aload_n hx hb d_TankArenaModel_turn_106 rfl (lv_at hl 0 rfl) ?_
                        refine lv_iload_n hx hb d_TankArenaModel_turn_107 rfl (lv_at hl 1 rfl) ?_
                        refine kc_Vv (As := [.int (nI i3)]) [] X Wd (k_g_Rfire l D cI cZ ad glc i3 (by omega) (nI i3) rfl N hvc0 (rng_mono hvc3 (by omega))) cV_TankArenaModel_192 (kx_recv (k := 0) (i := 0) X Wd (iy 0 (by decide)) rfl rfl) rfl rfl hl.1 ⟨rfl, rfl⟩ ⟨Nat.le_of_ble_eq_true rfl, Nat.le_of_ble_eq_true rfl⟩ (Nat.le_of_ble_eq_true rfl) ⟨Nat.zero_le _, Nat.zero_le _⟩ d_TankArenaModel_turn_108 (fun u H locs hp Wd => ?_)
                        rw [hp] at Wd
                        clear hp
                        have Wd : WR D cI cZ ad _ s.heap (g_Rfire glc i3) H locs := Wd
                        refine lv_iinc (v := nI (i3 + 1)) (lv' := [(1, .int (nI (i3 + 1))), (0, .ref (ad 0 0))]) hx hb d_TankArenaModel_turn_111 hl (k := 1) rfl (nI_1 i3) (by decide) rfl (fun ls hl => ?_)
                        refine lv_goto (tgt := 89) hx hb d_TankArenaModel_turn_114 (by decide) ?_
                        exact ihc (i3 + 1) (g_Rfire glc i3) (by refine ok_g_Rfire ?_ i3 (rng_mono hvc3 (by omega)) hi3; exact hvc0) (by omega) (by omega) (by first | exact rng_mono hvc3 (by omega) | exact fr_fire hvc3) (by rw [htgc, L_Rt3, if_neg c_4, if_neg c_11]) _ _ Wd _ (lv_sub hl [1, 0] rfl)
                exact loopc 5 0 glb hvb0 (by omega) (by omega) hvb3 (by rw [htgb, L_Rt2, if_pos c_3]) _ _ Wd _ (lv_sub hl [1, 0] rfl)
              · skip
                have hiN : i2 < N := nlt_of eN (by omega) (by omega) c_3
                have hi2 : i2 < 4 := by omega
                refine lv_aload_n hx hb d_TankArenaModel_turn_76 rfl (lv_at hl 0 rfl) ?_
                refine lv_iload_n hx hb d_TankArenaModel_turn_77 rfl (lv_at hl 1 rfl) ?_
                refine kc_Vv (As := [.int (nI i2)]) [] X Wd (k_g_Rforget l D cI cZ ad glb i2 (by omega) (nI i2) rfl) cV_TankArenaModel_114 (kx_recv (k := 0) (i := 0) X Wd (iy 0 (by decide)) rfl rfl) rfl rfl hl.1 ⟨rfl, rfl⟩ ⟨Nat.le_of_ble_eq_true rfl, Nat.le_of_ble_eq_true rfl⟩ (Nat.le_of_ble_eq_true rfl) ⟨Nat.zero_le _, Nat.zero_le _⟩ d_TankArenaModel_turn_78 (fun u H locs hp Wd => ?_)
                rw [hp] at Wd
                clear hp
                have Wd : WR D cI cZ ad _ s.heap (g_Rforget glb i2) H locs := Wd
                refine lv_iinc (v := nI (i2 + 1)) (lv' := [(1, .int (nI (i2 + 1))), (0, .ref (ad 0 0))]) hx hb d_TankArenaModel_turn_81 hl (k := 1) rfl (nI_1 i2) (by decide) rfl (fun ls hl => ?_)
                refine lv_goto (tgt := 68) hx hb d_TankArenaModel_turn_84 (by decide) ?_
                exact ihb (i2 + 1) (g_Rforget glb i2) (by refine ok_g_Rforget ?_ i2; exact hvb0) (by omega) (by omega) hvb3 (by rw [htgb, L_Rt2, if_neg c_3]) _ _ Wd _ (lv_sub hl [1, 0] rfl)
          exact loopb 5 0 gla hva0 (by omega) (by omega) hva3 (by rw [htga, L_Rt1, if_pos c_2]) _ _ Wd _ (lv_sub hl [1, 0] rfl)
        · skip
          have hiN : i1 < N := nlt_of eN (by omega) (by omega) c_2
          have hi1 : i1 < 4 := by omega
          refine lv_aload_n hx hb d_TankArenaModel_turn_31 rfl (lv_at hl 0 rfl) ?_
          refine lv_iload_n hx hb d_TankArenaModel_turn_32 rfl (lv_at hl 1 rfl) ?_
          refine kc_Vv (As := [.int (nI i1)]) [] X Wd (k_g_RnoAsking l D cI cZ ad gla i1 (by omega) (nI i1) rfl N hva0) cV_TankArenaModel_147 (kx_recv (k := 0) (i := 0) X Wd (iy 0 (by decide)) rfl rfl) rfl rfl hl.1 ⟨rfl, rfl⟩ ⟨Nat.le_of_ble_eq_true rfl, Nat.le_of_ble_eq_true rfl⟩ (Nat.le_of_ble_eq_true rfl) ⟨Nat.zero_le _, Nat.zero_le _⟩ d_TankArenaModel_turn_33 (fun u H locs hp Wd => ?_)
          rw [hp] at Wd
          clear hp
          have Wd : WR D cI cZ ad _ s.heap (g_RnoAsking gla i1) H locs := Wd
          refine lv_aload_n hx hb d_TankArenaModel_turn_36 rfl (lv_at hl 0 rfl) ?_
          refine kx_get (k := 0) (i := 0) (v := .ref (ad 21 0)) X Wd (iy 0 (by decide)) rfl fg_TankArenaModel_70 rfl d_TankArenaModel_turn_37 ?_
          refine lv_iload_n hx hb d_TankArenaModel_turn_40 rfl (lv_at hl 1 rfl) ?_
          refine kx_zald2 (k := 21) (i := 0) (j := i1) (t0 := 1) ((g_RnoAsking gla i1) 21 0 i1) X Wd (iy 21 (by decide)) rell21 rfl rfl (by omega) (by decide) rfl d_TankArenaModel_turn_41 ?_
          refine lv_if_eq (tgt := 60) hx hb d_TankArenaModel_turn_42 (by decide) (fun c_12 => ?_) (fun c_12 => ?_)
          · skip
            refine lv_iinc (v := nI (i1 + 1)) (lv' := [(1, .int (nI (i1 + 1))), (0, .ref (ad 0 0))]) hx hb d_TankArenaModel_turn_60 hl (k := 1) rfl (nI_1 i1) (by decide) rfl (fun ls hl => ?_)
            refine lv_goto (tgt := 23) hx hb d_TankArenaModel_turn_63 (by decide) ?_
            exact iha (i1 + 1) (g_RnoAsking gla i1) (by refine ok_g_RnoAsking ?_ i1; exact hva0) (by omega) (by omega) (by first | (rw [fr_program, fr_noAsking]; exact hva3) | (rw [fr_noAsking]; exact hva3)) (by rw [htga, L_Rt1, if_neg c_2, if_pos c_12]) _ _ Wd _ (lv_sub hl [1, 0] rfl)
          · skip
            refine lv_aload_n hx hb d_TankArenaModel_turn_45 rfl (lv_at hl 0 rfl) ?_
            refine kx_get (k := 0) (i := 0) (v := .ref (ad 19 0)) X Wd (iy 0 (by decide)) rfl fg_TankArenaModel_64 rfl d_TankArenaModel_turn_46 ?_
            refine lv_iload_n hx hb d_TankArenaModel_turn_49 rfl (lv_at hl 1 rfl) ?_
            refine kx_iald (k := 19) (i := 0) (j := i1) (t0 := 0) X Wd (iy 19 (by decide)) rell19 rfl rfl (by omega) (by decide) d_TankArenaModel_turn_50 ?_
            refine lv_iconst (v := 3) hx hb d_TankArenaModel_turn_51 (by decide) ?_
            refine lv_icmp_ge (tgt := 60) hx hb d_TankArenaModel_turn_52 (by decide) (fun c_13 => ?_) (fun c_13 => ?_)
            · skip
              refine lv_iinc (v := nI (i1 + 1)) (lv' := [(1, .int (nI (i1 + 1))), (0, .ref (ad 0 0))]) hx hb d_TankArenaModel_turn_60 hl (k := 1) rfl (nI_1 i1) (by decide) rfl (fun ls hl => ?_)
              refine lv_goto (tgt := 23) hx hb d_TankArenaModel_turn_63 (by decide) ?_
              exact iha (i1 + 1) (g_RnoAsking gla i1) (by refine ok_g_RnoAsking ?_ i1; exact hva0) (by omega) (by omega) (by first | (rw [fr_program, fr_noAsking]; exact hva3) | (rw [fr_noAsking]; exact hva3)) (by rw [htga, L_Rt1, if_neg c_2, if_neg c_12, if_pos c_13]) _ _ Wd _ (lv_sub hl [1, 0] rfl)
            · skip
              refine lv_aload_n hx hb d_TankArenaModel_turn_55 rfl (lv_at hl 0 rfl) ?_
              refine lv_iload_n hx hb d_TankArenaModel_turn_56 rfl (lv_at hl 1 rfl) ?_
              refine kc_Vv (As := [.int (nI i1)]) [] X Wd (k_g_Rprogram l D cI cZ ad (g_RnoAsking gla i1) i1 (by omega) (nI i1) rfl N (by refine ok_g_RnoAsking ?_ i1; exact hva0)) cV_TankArenaModel_189 (kx_recv (k := 0) (i := 0) X Wd (iy 0 (by decide)) rfl rfl) rfl rfl hl.1 ⟨rfl, rfl⟩ ⟨Nat.le_of_ble_eq_true rfl, Nat.le_of_ble_eq_true rfl⟩ (Nat.le_of_ble_eq_true rfl) ⟨Nat.zero_le _, Nat.zero_le _⟩ d_TankArenaModel_turn_57 (fun u H locs hp Wd => ?_)
              rw [hp] at Wd
              clear hp
              have Wd : WR D cI cZ ad _ s.heap (g_Rprogram (g_RnoAsking gla i1) i1) H locs := Wd
              refine lv_iinc (v := nI (i1 + 1)) (lv' := [(1, .int (nI (i1 + 1))), (0, .ref (ad 0 0))]) hx hb d_TankArenaModel_turn_60 hl (k := 1) rfl (nI_1 i1) (by decide) rfl (fun ls hl => ?_)
              refine lv_goto (tgt := 23) hx hb d_TankArenaModel_turn_63 (by decide) ?_
              exact iha (i1 + 1) (g_Rprogram (g_RnoAsking gla i1) i1) (by refine ok_g_Rprogram ?_ i1 hi1; refine ok_g_RnoAsking ?_ i1; exact hva0) (by omega) (by omega) (by first | (rw [fr_program, fr_noAsking]; exact hva3) | (rw [fr_noAsking]; exact hva3)) (by rw [htga, L_Rt1, if_neg c_2, if_neg c_12, if_neg c_13]) _ _ Wd _ (lv_sub hl [1, 0] rfl)
    exact loopa 5 0 (up3 g 0 0 1 ((g 0 0 1) + 1)) (by refine rokU ?_ rfl trivial; exact ok) (by omega) (by omega) hf (by rw [x_Rturn, if_pos c_1]) _ _ Wd _ (lv_sub hl [1, 0] rfl)
  · skip
    refine lv_ldc (v := -1000000) hx hb hown (hts _ w_bc879909c1) d_TankArenaModel_turn_8 ?_
    exact kx_iret (u := g) X rfl Wd (by rw [x_Rturn, if_neg c_1]; dsimp only; exact ⟨rfl, rfl⟩) d_TankArenaModel_turn_10
