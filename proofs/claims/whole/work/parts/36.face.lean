/-! CONTRACTS (printed by gen/all.py) -/
abbrev RM_x_turn : Room := { frames := 7, cells := 0, slots := 0, locals := 162 }
set_option maxHeartbeats 1000000 in
set_option maxRecDepth 100000 in
theorem k_x_turn (l : Launch) (D : va_G) (cI cT cB : ClassId) (ad : Nat → Nat → Nat) (tX tY : Nat) (g : SG) (N : Nat) (ok : OkN N g) : KI l y_TankArena_turn b_TankArena_turn 1 (some .int) RM_x_turn D cI cT cB ad tX tY [.ref (ad 0 0)] g (fun (r : Int32) (u : SG) => r = (x_turn g).1 ∧ u = (x_turn g).2) := by
  refine met_of (cc := b_TankArena_turn) (nL := 1) (ret := (some .int)) (by decide) rfl (Nat.le_of_ble_eq_true rfl) ?_
  intro p e s m below meth c X hnm Wd ls hl
  have X := X.tt
  have hx := X.1
  have hb := X.2.1
  have hown := X.2.2.2.1
  have hts := X.2.2.2.2.1
  have hl : lv_has ls 1 [(0, .ref (ad 0 0))] := hl
  have Wd : WC D cI cT cB ad (va_A (gC cI cT cB ad g) s.heap.size) s.heap g s.heap [] := Wd
  refine lv_aload_n hx hb d_TankArena_turn_0 rfl (lv_at hl 0 rfl) ?_
  refine kc_Vi (As := []) [] X Wd (k_f_alive l D cI cT cB ad tX tY g N ok) cV_TankArena_66 (kx_recv (k := 0) (i := 0) X Wd ix0 rfl rfl) rfl rfl hl.1 ⟨rfl, rfl⟩ ⟨Nat.le_of_ble_eq_true rfl, Nat.le_of_ble_eq_true rfl⟩ (Nat.le_of_ble_eq_true rfl) ⟨Nat.zero_le _, Nat.zero_le _⟩ d_TankArena_turn_1 (fun r u H locs hp Wd => ?_)
  obtain ⟨hr, hu⟩ := hp
  rw [hu] at Wd
  rw [hr]
  clear hr hu
  refine lv_iconst (v := 2) hx hb d_TankArena_turn_4 (by decide) ?_
  refine lv_icmp_ge (tgt := 11) hx hb d_TankArena_turn_5 (by decide) (fun c_1 => ?_) (fun c_1 => ?_)
  · skip
    refine lv_aload_n hx hb d_TankArena_turn_11 rfl (lv_at hl 0 rfl) ?_
    refine lv_dup hx hb d_TankArena_turn_12 rfl ?_
    refine kx_geti (k := 0) (i := 0) X Wd ix0 cell0 fg_TankArena_23 1 rfl (by decide) rfl d_TankArena_turn_13 ?_
    refine lv_iconst (v := 1) hx hb d_TankArena_turn_16 (by decide) ?_
    refine lv_iadd hx hb d_TankArena_turn_17 ?_
    refine kx_puti (k := 0) (i := 0) (v := (g 0 0 1) + 1) X Wd ix0 cell0 fp_TankArena_23 1 rfl (by decide) rfl rfl rfl d_TankArena_turn_18 (fun H locs Wd => ?_)
    refine lv_aload_n hx hb d_TankArena_turn_21 rfl (lv_at hl 0 rfl) ?_
    refine kc_Vv (As := []) [] X Wd (k_g_runPrograms l D cI cT cB ad tX tY (up3 g 0 0 1 ((g 0 0 1) + 1)) N (by refine okU ?_ rfl trivial; exact ok)) cV_TankArena_70 (kx_recv (k := 0) (i := 0) X Wd ix0 rfl rfl) rfl rfl hl.1 ⟨rfl, rfl⟩ ⟨Nat.le_of_ble_eq_true rfl, Nat.le_of_ble_eq_true rfl⟩ (Nat.le_of_ble_eq_true rfl) ⟨Nat.zero_le _, Nat.zero_le _⟩ d_TankArena_turn_22 (fun u H locs hp Wd => ?_)
    rw [hp] at Wd
    clear hp
    have Wd : WC D cI cT cB ad _ s.heap (g_runPrograms (up3 g 0 0 1 ((g 0 0 1) + 1))) H locs := Wd
    refine lv_aload_n hx hb d_TankArena_turn_25 rfl (lv_at hl 0 rfl) ?_
    refine kc_Vv (As := []) [] X Wd (k_g_forget l D cI cT cB ad tX tY (g_runPrograms (up3 g 0 0 1 ((g 0 0 1) + 1))) N (by refine ok_g_runPrograms ?_; refine okU ?_ rfl trivial; exact ok)) cV_TankArena_73 (kx_recv (k := 0) (i := 0) X Wd ix0 rfl rfl) rfl rfl hl.1 ⟨rfl, rfl⟩ ⟨Nat.le_of_ble_eq_true rfl, Nat.le_of_ble_eq_true rfl⟩ (Nat.le_of_ble_eq_true rfl) ⟨Nat.zero_le _, Nat.zero_le _⟩ d_TankArena_turn_26 (fun u H locs hp Wd => ?_)
    rw [hp] at Wd
    clear hp
    have Wd : WC D cI cT cB ad _ s.heap (g_forget (g_runPrograms (up3 g 0 0 1 ((g 0 0 1) + 1)))) H locs := Wd
    refine lv_aload_n hx hb d_TankArena_turn_29 rfl (lv_at hl 0 rfl) ?_
    refine kc_Vv (As := []) [] X Wd (k_g_fireGuns l D cI cT cB ad tX tY (g_forget (g_runPrograms (up3 g 0 0 1 ((g 0 0 1) + 1)))) N (by refine ok_g_forget ?_; refine ok_g_runPrograms ?_; refine okU ?_ rfl trivial; exact ok)) cV_TankArena_76 (kx_recv (k := 0) (i := 0) X Wd ix0 rfl rfl) rfl rfl hl.1 ⟨rfl, rfl⟩ ⟨Nat.le_of_ble_eq_true rfl, Nat.le_of_ble_eq_true rfl⟩ (Nat.le_of_ble_eq_true rfl) ⟨Nat.zero_le _, Nat.zero_le _⟩ d_TankArena_turn_30 (fun u H locs hp Wd => ?_)
    rw [hp] at Wd
    clear hp
    have Wd : WC D cI cT cB ad _ s.heap (g_fireGuns (g_forget (g_runPrograms (up3 g 0 0 1 ((g 0 0 1) + 1))))) H locs := Wd
    refine lv_aload_n hx hb d_TankArena_turn_33 rfl (lv_at hl 0 rfl) ?_
    refine kc_Vv (As := []) [] X Wd (k_g_fly l D cI cT cB ad tX tY (g_fireGuns (g_forget (g_runPrograms (up3 g 0 0 1 ((g 0 0 1) + 1))))) N (by refine ok_g_fireGuns ?_; refine ok_g_forget ?_; refine ok_g_runPrograms ?_; refine okU ?_ rfl trivial; exact ok)) cV_TankArena_79 (kx_recv (k := 0) (i := 0) X Wd ix0 rfl rfl) rfl rfl hl.1 ⟨rfl, rfl⟩ ⟨Nat.le_of_ble_eq_true rfl, Nat.le_of_ble_eq_true rfl⟩ (Nat.le_of_ble_eq_true rfl) ⟨Nat.zero_le _, Nat.zero_le _⟩ d_TankArena_turn_34 (fun u H locs hp Wd => ?_)
    rw [hp] at Wd
    clear hp
    have Wd : WC D cI cT cB ad _ s.heap (g_fly (g_fireGuns (g_forget (g_runPrograms (up3 g 0 0 1 ((g 0 0 1) + 1)))))) H locs := Wd
    refine lv_aload_n hx hb d_TankArena_turn_37 rfl (lv_at hl 0 rfl) ?_
    refine kc_Vv (As := []) [] X Wd (k_g_driveTanks l D cI cT cB ad tX tY (g_fly (g_fireGuns (g_forget (g_runPrograms (up3 g 0 0 1 ((g 0 0 1) + 1)))))) N (by refine ok_g_fly ?_; refine ok_g_fireGuns ?_; refine ok_g_forget ?_; refine ok_g_runPrograms ?_; refine okU ?_ rfl trivial; exact ok)) cV_TankArena_82 (kx_recv (k := 0) (i := 0) X Wd ix0 rfl rfl) rfl rfl hl.1 ⟨rfl, rfl⟩ ⟨Nat.le_of_ble_eq_true rfl, Nat.le_of_ble_eq_true rfl⟩ (Nat.le_of_ble_eq_true rfl) ⟨Nat.zero_le _, Nat.zero_le _⟩ d_TankArena_turn_38 (fun u H locs hp Wd => ?_)
    rw [hp] at Wd
    clear hp
    have Wd : WC D cI cT cB ad _ s.heap (g_driveTanks (g_fly (g_fireGuns (g_forget (g_runPrograms (up3 g 0 0 1 ((g 0 0 1) + 1))))))) H locs := Wd
    refine lv_aload_n hx hb d_TankArena_turn_41 rfl (lv_at hl 0 rfl) ?_
    refine kc_Vv (As := []) [] X Wd (k_g_sweep l D cI cT cB ad tX tY (g_driveTanks (g_fly (g_fireGuns (g_forget (g_runPrograms (up3 g 0 0 1 ((g 0 0 1) + 1))))))) N (by refine ok_g_driveTanks ?_; refine ok_g_fly ?_; refine ok_g_fireGuns ?_; refine ok_g_forget ?_; refine ok_g_runPrograms ?_; refine okU ?_ rfl trivial; exact ok)) cV_TankArena_85 (kx_recv (k := 0) (i := 0) X Wd ix0 rfl rfl) rfl rfl hl.1 ⟨rfl, rfl⟩ ⟨Nat.le_of_ble_eq_true rfl, Nat.le_of_ble_eq_true rfl⟩ (Nat.le_of_ble_eq_true rfl) ⟨Nat.zero_le _, Nat.zero_le _⟩ d_TankArena_turn_42 (fun u H locs hp Wd => ?_)
    rw [hp] at Wd
    clear hp
    have Wd : WC D cI cT cB ad _ s.heap (g_sweep (g_driveTanks (g_fly (g_fireGuns (g_forget (g_runPrograms (up3 g 0 0 1 ((g 0 0 1) + 1)))))))) H locs := Wd
    refine lv_aload_n hx hb d_TankArena_turn_45 rfl (lv_at hl 0 rfl) ?_
    refine kc_Vi (As := []) [] X Wd (k_f_alive l D cI cT cB ad tX tY (g_sweep (g_driveTanks (g_fly (g_fireGuns (g_forget (g_runPrograms (up3 g 0 0 1 ((g 0 0 1) + 1)))))))) N (by refine ok_g_sweep ?_; refine ok_g_driveTanks ?_; refine ok_g_fly ?_; refine ok_g_fireGuns ?_; refine ok_g_forget ?_; refine ok_g_runPrograms ?_; refine okU ?_ rfl trivial; exact ok)) cV_TankArena_66 (kx_recv (k := 0) (i := 0) X Wd ix0 rfl rfl) rfl rfl hl.1 ⟨rfl, rfl⟩ ⟨Nat.le_of_ble_eq_true rfl, Nat.le_of_ble_eq_true rfl⟩ (Nat.le_of_ble_eq_true rfl) ⟨Nat.zero_le _, Nat.zero_le _⟩ d_TankArena_turn_46 (fun r u H locs hp Wd => ?_)
    obtain ⟨hr, hu⟩ := hp
    rw [hu] at Wd
    rw [hr]
    clear hr hu
    exact kx_iret (u := g_sweep (g_driveTanks (g_fly (g_fireGuns (g_forget (g_runPrograms (up3 g 0 0 1 ((g 0 0 1) + 1)))))))) X rfl Wd (by rw [x_turn, if_pos c_1]; dsimp only; exact ⟨rfl, rfl⟩) d_TankArena_turn_49
  · skip
    refine lv_ldc (v := -1000000) hx hb hown (hts _ w_48413c7019) d_TankArena_turn_8 ?_
    exact kx_iret (u := g) X rfl Wd (by rw [x_turn, if_neg c_1]; dsimp only; exact ⟨rfl, rfl⟩) d_TankArena_turn_10
abbrev RM_x_restart : Room := { frames := 2, cells := 0, slots := 0, locals := 40 }
set_option maxHeartbeats 1000000 in
set_option maxRecDepth 100000 in
theorem k_x_restart (l : Launch) (D : va_G) (cI cT cB : ClassId) (ad : Nat → Nat → Nat) (tX tY : Nat) (g : SG) (N : Nat) (ok : OkN N g) : KI l y_TankArena_restart b_TankArena_restart 3 (some .int) RM_x_restart D cI cT cB ad tX tY [.ref (ad 0 0)] g (fun (r : Int32) (u : SG) => r = (x_restart g).1 ∧ u = (x_restart g).2) := by
  refine met_of (cc := b_TankArena_restart) (nL := 3) (ret := (some .int)) (by decide) rfl (Nat.le_of_ble_eq_true rfl) ?_
  intro p e s m below meth c X hnm Wd ls hl
  have X := X.tt
  have hx := X.1
  have hb := X.2.1
  have hown := X.2.2.2.1
  have hts := X.2.2.2.2.1
  have hl : lv_has ls 3 [(0, .ref (ad 0 0))] := hl
  have Wd : WC D cI cT cB ad (va_A (gC cI cT cB ad g) s.heap.size) s.heap g s.heap [] := Wd
  obtain ⟨hN4, eN⟩ := ok.N
  refine lv_aload_n hx hb d_TankArena_restart_0 rfl (lv_at hl 0 rfl) ?_
  refine kx_geti (k := 0) (i := 0) X Wd ix0 cell0 fg_TankArena_23 1 rfl (by decide) rfl d_TankArena_restart_1 ?_
  refine lv_istore_n (lv' := [(1, .int (g 0 0 1)), (0, .ref (ad 0 0))]) hx hb d_TankArena_restart_4 rfl hl (by decide) rfl (fun ls hl => ?_)
  refine lv_iconst (v := 0) hx hb d_TankArena_restart_5 (by decide) ?_
  refine lv_istore_n (lv' := [(2, .int 0), (1, .int (g 0 0 1)), (0, .ref (ad 0 0))]) hx hb d_TankArena_restart_6 rfl hl (by decide) rfl (fun ls hl => ?_)
  have loop : ∀ (n : Nat) (made : Int32) (i : Nat) (gl : SG), OkN N gl → i ≤ N → N + 1 ≤ i + n → x_restart g = L_restart n made i gl → ∀ (H : Heap) (locs : List Loc), WC D cI cT cB ad (va_A (gC cI cT cB ad g) s.heap.size) s.heap gl H locs → ∀ ls : Array Slot, lv_has ls 3 [(0, .ref (ad 0 0)), (1, .int made), (2, .int (nI i))] → W p l e RM_x_restart s m [.ref (ad 0 0)].toArray below meth c H locs 0 0 (QI D cI cT cB ad below [.ref (ad 0 0)] s g (fun (r : Int32) (u : SG) => r = (x_restart g).1 ∧ u = (x_restart g).2)) (F0 m 7 ls []) := by
    intro n
    induction n with
    | zero =>
      intro made i gl hv0 hv1 hv2
      exfalso
      omega
    | succ n ih =>
      intro made i gl hv0 hv1 hv2 htg H locs Wd ls hl
      obtain ⟨hN4, eN⟩ := hv0.N
      refine lv_iload_n hx hb d_TankArena_restart_7 rfl (lv_at hl 2 rfl) ?_
      refine lv_aload_n hx hb d_TankArena_restart_8 rfl (lv_at hl 0 rfl) ?_
      refine kx_geti (k := 0) (i := 0) X Wd ix0 cell0 fg_TankArena_27 0 rfl (by decide) rfl d_TankArena_restart_9 ?_
      refine lv_icmp_ge (tgt := 30) hx hb d_TankArena_restart_12 (by decide) (fun c_1 => ?_) (fun c_1 => ?_)
      · skip
        refine lv_aload_n hx hb d_TankArena_restart_30 rfl (lv_at hl 0 rfl) ?_
        refine lv_iconst (v := 0) hx hb d_TankArena_restart_31 (by decide) ?_
        refine kx_puti (k := 0) (i := 0) (v := 0) X Wd ix0 cell0 fp_TankArena_23 1 rfl (by decide) rfl rfl rfl d_TankArena_restart_32 (fun H locs Wd => ?_)
        refine lv_aload_n hx hb d_TankArena_restart_35 rfl (lv_at hl 0 rfl) ?_
        refine lv_iconst (v := 0) hx hb d_TankArena_restart_36 (by decide) ?_
        refine kx_puti (k := 0) (i := 0) (v := 0) X Wd ix0 cell0 fp_TankArena_91 2 rfl (by decide) rfl rfl rfl d_TankArena_restart_37 (fun H locs Wd => ?_)
        refine lv_aload_n hx hb d_TankArena_restart_40 rfl (lv_at hl 0 rfl) ?_
        refine lv_iconst (v := 0) hx hb d_TankArena_restart_41 (by decide) ?_
        refine kx_puti (k := 0) (i := 0) (v := 0) X Wd ix0 cell0 fp_TankArena_94 3 rfl (by decide) rfl rfl rfl d_TankArena_restart_42 (fun H locs Wd => ?_)
        refine lv_aload_n hx hb d_TankArena_restart_45 rfl (lv_at hl 0 rfl) ?_
        refine lv_iconst (v := 0) hx hb d_TankArena_restart_46 (by decide) ?_
        refine kx_puti (k := 0) (i := 0) (v := 0) X Wd ix0 cell0 fp_TankArena_97 4 rfl (by decide) rfl rfl rfl d_TankArena_restart_47 (fun H locs Wd => ?_)
        refine lv_iload_n hx hb d_TankArena_restart_50 rfl (lv_at hl 1 rfl) ?_
        exact kx_iret (u := up3 (up3 (up3 (up3 gl 0 0 1 0) 0 0 2 0) 0 0 3 0) 0 0 4 0) X rfl Wd (by rw [htg, L_restart, if_pos c_1]; dsimp only; exact ⟨rfl, rfl⟩) d_TankArena_restart_51
      · skip
        have hiN : i < N := nlt_of eN (by omega) (by omega) c_1
        have hi : i < 4 := by omega
        refine lv_aload_n hx hb d_TankArena_restart_15 rfl (lv_at hl 0 rfl) ?_
        refine kx_get (k := 0) (i := 0) (v := .ref (ad 1 0)) X Wd ix0 rfl fg_TankArena_11 rfl d_TankArena_restart_16 ?_
        refine lv_iload_n hx hb d_TankArena_restart_19 rfl (lv_at hl 2 rfl) ?_
        refine kx_aald (k := 1) (i := 0) (j := i) (b := ad 3 i) (t0 := 1) X Wd ix1 cell1 rfl rfl (by omega) (by decide) rfl d_TankArena_restart_20 ?_
        refine kc_Vv (As := []) [] X Wd (k_g_anew l D cI cT cB ad tX tY gl i (by omega)) cV_TankArena_88 (kx_recv (k := 3) (i := i) X Wd (ix3 (by omega)) rfl rfl) rfl rfl hl.1 ⟨rfl, rfl⟩ ⟨Nat.le_of_ble_eq_true rfl, Nat.le_of_ble_eq_true rfl⟩ (Nat.le_of_ble_eq_true rfl) ⟨Nat.zero_le _, Nat.zero_le _⟩ d_TankArena_restart_21 (fun u H locs hp Wd => ?_)
        rw [hp] at Wd
        clear hp
        have Wd : WC D cI cT cB ad _ s.heap (g_anew gl i) H locs := Wd
        refine lv_iinc (v := nI (i + 1)) (lv' := [(2, .int (nI (i + 1))), (0, .ref (ad 0 0)), (1, .int made)]) hx hb d_TankArena_restart_24 hl (k := 2) rfl (nI_1 i) (by decide) rfl (fun ls hl => ?_)
        refine lv_goto (tgt := 7) hx hb d_TankArena_restart_27 (by decide) ?_
        exact ih made (i + 1) (g_anew gl i) (by refine ok_g_anew ?_ i; exact hv0) (by omega) (by omega) (by rw [htg, L_restart, if_neg c_1]) _ _ Wd _ (lv_sub hl [1, 2, 0] rfl)
  exact loop 5 (g 0 0 1) 0 g ok (by omega) (by omega) (by rw [x_restart]) _ _ Wd _ (lv_sub hl [2, 1, 0] rfl)
abbrev RM_x_enter : Room := { frames := 3, cells := 0, slots := 0, locals := 67 }
set_option maxHeartbeats 1000000 in
set_option maxRecDepth 100000 in
theorem k_x_enter (l : Launch) (D : va_G) (cI cT cB : ClassId) (ad : Nat → Nat → Nat) (tX tY : Nat) (g : SG) (px : Int32) (py : Int32) (hd : Int32) (N : Nat) (ok : OkN N g) : KI l y_TankArena_enter b_TankArena_enter 4 (some .int) RM_x_enter D cI cT cB ad tX tY [.ref (ad 0 0), .int px, .int py, .int hd] g (fun (r : Int32) (u : SG) => r = (x_enter g px py hd).1 ∧ u = (x_enter g px py hd).2) := by
  refine met_of (cc := b_TankArena_enter) (nL := 4) (ret := (some .int)) (by decide) rfl (Nat.le_of_ble_eq_true rfl) ?_
  intro p e s m below meth c X hnm Wd ls hl
  have X := X.tt
  have hx := X.1
  have hb := X.2.1
  have hown := X.2.2.2.1
  have hts := X.2.2.2.2.1
  have hl : lv_has ls 4 [(0, .ref (ad 0 0)), (1, .int px), (2, .int py), (3, .int hd)] := hl
  have Wd : WC D cI cT cB ad (va_A (gC cI cT cB ad g) s.heap.size) s.heap g s.heap [] := Wd
  refine lv_aload_n hx hb d_TankArena_enter_0 rfl (lv_at hl 0 rfl) ?_
  refine kx_geti (k := 0) (i := 0) X Wd ix0 cell0 fg_TankArena_23 1 rfl (by decide) rfl d_TankArena_enter_1 ?_
  refine lv_if_gt (tgt := 25) hx hb d_TankArena_enter_4 (by decide) (fun c_1 => ?_) (fun c_1 => ?_)
  · skip
    refine lv_ldc (v := -1000000) hx hb hown (hts _ w_48413c7019) d_TankArena_enter_25 ?_
    exact kx_iret (u := g) X rfl Wd (by rw [x_enter, if_pos c_1]; dsimp only; exact ⟨rfl, rfl⟩) d_TankArena_enter_27
  · skip
    refine lv_aload_n hx hb d_TankArena_enter_7 rfl (lv_at hl 0 rfl) ?_
    refine kx_geti (k := 0) (i := 0) X Wd ix0 cell0 fg_TankArena_27 0 rfl (by decide) rfl d_TankArena_enter_8 ?_
    refine lv_iconst (v := 4) hx hb d_TankArena_enter_11 (by decide) ?_
    refine lv_icmp_ge (tgt := 25) hx hb d_TankArena_enter_12 (by decide) (fun c_2 => ?_) (fun c_2 => ?_)
    · skip
      refine lv_ldc (v := -1000000) hx hb hown (hts _ w_48413c7019) d_TankArena_enter_25 ?_
      exact kx_iret (u := g) X rfl Wd (by rw [x_enter, if_neg c_1, if_pos c_2]; dsimp only; exact ⟨rfl, rfl⟩) d_TankArena_enter_27
    · skip
      obtain ⟨es, hs⟩ := rng_j (rng_lt (m := 4) (ok.1.1 0 0 0) (by decide) (by decide) c_2) (by decide)
      refine lv_iload_n hx hb d_TankArena_enter_15 rfl (lv_at hl 3 rfl) ?_
      refine lv_iconst (v := 0) hx hb d_TankArena_enter_16 (by decide) ?_
      refine lv_bipush (v := 7) hx hb d_TankArena_enter_17 (by decide) ?_
      refine kc_Si (As := [.int hd, .int 0, .int 7]) [] X Wd (k_f_within l D cI cT cB ad tX tY g hd 0 7) cS_TankArena_30 rfl rfl hl.1 ⟨rfl, rfl⟩ ⟨Nat.le_of_ble_eq_true rfl, Nat.le_of_ble_eq_true rfl⟩ (Nat.le_of_ble_eq_true rfl) ⟨Nat.zero_le _, Nat.zero_le _⟩ d_TankArena_enter_19 (fun r u H locs hp Wd => ?_)
      obtain ⟨hr, hu⟩ := hp
      rw [hu] at Wd
      rw [hr]
      clear hr hu
      refine lv_if_ne (tgt := 28) hx hb d_TankArena_enter_22 (by decide) (fun c_3 => ?_) (fun c_3 => ?_)
      · skip
        refine lv_iload_n hx hb d_TankArena_enter_28 rfl (lv_at hl 1 rfl) ?_
        refine lv_iconst (v := 2) hx hb d_TankArena_enter_29 (by decide) ?_
        refine lv_bipush (v := 62) hx hb d_TankArena_enter_30 (by decide) ?_
        refine kc_Si (As := [.int px, .int 2, .int 62]) [] X Wd (k_f_within l D cI cT cB ad tX tY g px 2 62) cS_TankArena_30 rfl rfl hl.1 ⟨rfl, rfl⟩ ⟨Nat.le_of_ble_eq_true rfl, Nat.le_of_ble_eq_true rfl⟩ (Nat.le_of_ble_eq_true rfl) ⟨Nat.zero_le _, Nat.zero_le _⟩ d_TankArena_enter_32 (fun r u H locs hp Wd => ?_)
        obtain ⟨hr, hu⟩ := hp
        rw [hu] at Wd
        rw [hr]
        clear hr hu
        refine lv_if_eq (tgt := 48) hx hb d_TankArena_enter_35 (by decide) (fun c_4 => ?_) (fun c_4 => ?_)
        · skip
          refine lv_ldc (v := -1000000) hx hb hown (hts _ w_48413c7019) d_TankArena_enter_48 ?_
          exact kx_iret (u := g) X rfl Wd (by rw [x_enter, if_neg c_1, if_neg c_2, if_neg c_3, if_pos c_4]; dsimp only; exact ⟨rfl, rfl⟩) d_TankArena_enter_50
        · skip
          refine lv_iload_n hx hb d_TankArena_enter_38 rfl (lv_at hl 2 rfl) ?_
          refine lv_iconst (v := 2) hx hb d_TankArena_enter_39 (by decide) ?_
          refine lv_bipush (v := 62) hx hb d_TankArena_enter_40 (by decide) ?_
          refine kc_Si (As := [.int py, .int 2, .int 62]) [] X Wd (k_f_within l D cI cT cB ad tX tY g py 2 62) cS_TankArena_30 rfl rfl hl.1 ⟨rfl, rfl⟩ ⟨Nat.le_of_ble_eq_true rfl, Nat.le_of_ble_eq_true rfl⟩ (Nat.le_of_ble_eq_true rfl) ⟨Nat.zero_le _, Nat.zero_le _⟩ d_TankArena_enter_42 (fun r u H locs hp Wd => ?_)
          obtain ⟨hr, hu⟩ := hp
          rw [hu] at Wd
          rw [hr]
          clear hr hu
          refine lv_if_ne (tgt := 51) hx hb d_TankArena_enter_45 (by decide) (fun c_5 => ?_) (fun c_5 => ?_)
          · skip
            refine lv_aload_n hx hb d_TankArena_enter_51 rfl (lv_at hl 0 rfl) ?_
            refine lv_aload_n hx hb d_TankArena_enter_52 rfl (lv_at hl 0 rfl) ?_
            refine kx_geti (k := 0) (i := 0) X Wd ix0 cell0 fg_TankArena_27 0 rfl (by decide) rfl d_TankArena_enter_53 ?_
            refine lv_iload_n hx hb d_TankArena_enter_56 rfl (lv_at hl 1 rfl) ?_
            refine lv_bipush (v := 8) hx hb d_TankArena_enter_57 (by decide) ?_
            refine lv_imul hx hb d_TankArena_enter_59 ?_
            refine lv_iload_n hx hb d_TankArena_enter_60 rfl (lv_at hl 2 rfl) ?_
            refine lv_bipush (v := 8) hx hb d_TankArena_enter_61 (by decide) ?_
            refine lv_imul hx hb d_TankArena_enter_63 ?_
            refine kc_Vi (As := [.int (g 0 0 0), .int (px * 8), .int (py * 8)]) [] X Wd (k_f_touched l D cI cT cB ad tX tY g (g 0 0 0) (px * 8) (py * 8) N ok) cV_TankArena_35 (kx_recv (k := 0) (i := 0) X Wd ix0 rfl rfl) rfl rfl hl.1 ⟨rfl, rfl⟩ ⟨Nat.le_of_ble_eq_true rfl, Nat.le_of_ble_eq_true rfl⟩ (Nat.le_of_ble_eq_true rfl) ⟨Nat.zero_le _, Nat.zero_le _⟩ d_TankArena_enter_64 (fun r u H locs hp Wd => ?_)
            obtain ⟨hr, hu⟩ := hp
            rw [hu] at Wd
            rw [hr]
            clear hr hu
            refine lv_iconst (v := 4) hx hb d_TankArena_enter_67 (by decide) ?_
            refine lv_icmp_eq (tgt := 74) hx hb d_TankArena_enter_68 (by decide) (fun c_6 => ?_) (fun c_6 => ?_)
            · skip
              refine lv_aload_n hx hb d_TankArena_enter_74 rfl (lv_at hl 0 rfl) ?_
              refine kx_get (k := 0) (i := 0) (v := .ref (ad 1 0)) X Wd ix0 rfl fg_TankArena_11 rfl d_TankArena_enter_75 ?_
              refine lv_aload_n hx hb d_TankArena_enter_78 rfl (lv_at hl 0 rfl) ?_
              refine kx_geti (k := 0) (i := 0) X Wd ix0 cell0 fg_TankArena_27 0 rfl (by decide) rfl d_TankArena_enter_79 ?_
              refine kx_aald (k := 1) (i := 0) (j := (g 0 0 0).toNatClampNeg) (b := ad 3 ((g 0 0 0).toNatClampNeg)) (t0 := 1) X Wd ix1 cell1 rfl es hs (by decide) rfl d_TankArena_enter_82 ?_
              refine lv_iload_n hx hb d_TankArena_enter_83 rfl (lv_at hl 1 rfl) ?_
              refine lv_bipush (v := 8) hx hb d_TankArena_enter_84 (by decide) ?_
              refine lv_imul hx hb d_TankArena_enter_86 ?_
              refine lv_iload_n hx hb d_TankArena_enter_87 rfl (lv_at hl 2 rfl) ?_
              refine lv_bipush (v := 8) hx hb d_TankArena_enter_88 (by decide) ?_
              refine lv_imul hx hb d_TankArena_enter_90 ?_
              refine lv_iload_n hx hb d_TankArena_enter_91 rfl (lv_at hl 3 rfl) ?_
              refine kc_Vv (As := [.int (px * 8), .int (py * 8), .int hd]) [] X Wd (k_g_stand l D cI cT cB ad tX tY g ((g 0 0 0).toNatClampNeg) hs (px * 8) (py * 8) hd) cV_TankArena_39 (kx_recv (k := 3) (i := (g 0 0 0).toNatClampNeg) X Wd (ix3 hs) rfl rfl) rfl rfl hl.1 ⟨rfl, rfl⟩ ⟨Nat.le_of_ble_eq_true rfl, Nat.le_of_ble_eq_true rfl⟩ (Nat.le_of_ble_eq_true rfl) ⟨Nat.zero_le _, Nat.zero_le _⟩ d_TankArena_enter_92 (fun u H locs hp Wd => ?_)
              rw [hp] at Wd
              clear hp
              have Wd : WC D cI cT cB ad _ s.heap (g_stand g ((g 0 0 0).toNatClampNeg) (px * 8) (py * 8) hd) H locs := Wd
              refine lv_aload_n hx hb d_TankArena_enter_95 rfl (lv_at hl 0 rfl) ?_
              refine lv_dup hx hb d_TankArena_enter_96 rfl ?_
              refine kx_geti (k := 0) (i := 0) X Wd ix0 cell0 fg_TankArena_27 0 rfl (by decide) rfl d_TankArena_enter_97 ?_
              refine lv_iconst (v := 1) hx hb d_TankArena_enter_100 (by decide) ?_
              refine lv_iadd hx hb d_TankArena_enter_101 ?_
              refine kx_puti (k := 0) (i := 0) (v := ((g_stand g ((g 0 0 0).toNatClampNeg) (px * 8) (py * 8) hd) 0 0 0) + 1) X Wd ix0 cell0 fp_TankArena_27 0 rfl (by decide) rfl rfl rfl d_TankArena_enter_102 (fun H locs Wd => ?_)
              refine lv_aload_n hx hb d_TankArena_enter_105 rfl (lv_at hl 0 rfl) ?_
              refine kx_geti2 (k := 0) (i := 0) (((g_stand g ((g 0 0 0).toNatClampNeg) (px * 8) (py * 8) hd) 0 0 0) + 1) X Wd ix0 cell0 fg_TankArena_27 0 rfl (by decide) rfl (by simp [up3]) d_TankArena_enter_106 ?_
              refine lv_iconst (v := 1) hx hb d_TankArena_enter_109 (by decide) ?_
              refine lv_isub hx hb d_TankArena_enter_110 ?_
              exact kx_iret (u := up3 (g_stand g ((g 0 0 0).toNatClampNeg) (px * 8) (py * 8) hd) 0 0 0 (((g_stand g ((g 0 0 0).toNatClampNeg) (px * 8) (py * 8) hd) 0 0 0) + 1)) X rfl Wd (by rw [x_enter, if_neg c_1, if_neg c_2, if_neg c_3, if_neg c_4, if_neg c_5, if_pos c_6]; dsimp only; exact ⟨rfl, rfl⟩) d_TankArena_enter_111
            · skip
              refine lv_ldc (v := -1000000) hx hb hown (hts _ w_48413c7019) d_TankArena_enter_71 ?_
              exact kx_iret (u := g) X rfl Wd (by rw [x_enter, if_neg c_1, if_neg c_2, if_neg c_3, if_neg c_4, if_neg c_5, if_neg c_6]; dsimp only; exact ⟨rfl, rfl⟩) d_TankArena_enter_73
          · skip
            refine lv_ldc (v := -1000000) hx hb hown (hts _ w_48413c7019) d_TankArena_enter_48 ?_
            exact kx_iret (u := g) X rfl Wd (by rw [x_enter, if_neg c_1, if_neg c_2, if_neg c_3, if_neg c_4, if_pos c_5]; dsimp only; exact ⟨rfl, rfl⟩) d_TankArena_enter_50
      · skip
        refine lv_ldc (v := -1000000) hx hb hown (hts _ w_48413c7019) d_TankArena_enter_25 ?_
        exact kx_iret (u := g) X rfl Wd (by rw [x_enter, if_neg c_1, if_neg c_2, if_pos c_3]; dsimp only; exact ⟨rfl, rfl⟩) d_TankArena_enter_27
abbrev RM_x_instr : Room := { frames := 2, cells := 0, slots := 0, locals := 44 }
set_option maxHeartbeats 1000000 in
set_option maxRecDepth 100000 in
theorem k_x_instr (l : Launch) (D : va_G) (cI cT cB : ClassId) (ad : Nat → Nat → Nat) (tX tY : Nat) (g : SG) (tank : Int32) (op : Int32) (a : Int32) (b : Int32) (N : Nat) (ok : OkN N g) : KI l y_TankArena_instr b_TankArena_instr 6 (some .int) RM_x_instr D cI cT cB ad tX tY [.ref (ad 0 0), .int tank, .int op, .int a, .int b] g (fun (r : Int32) (u : SG) => r = (x_instr g tank op a b).1 ∧ u = (x_instr g tank op a b).2) := by
  refine met_of (cc := b_TankArena_instr) (nL := 6) (ret := (some .int)) (by decide) rfl (Nat.le_of_ble_eq_true rfl) ?_
  intro p e s m below meth c X hnm Wd ls hl
  have X := X.tt
  have hx := X.1
  have hb := X.2.1
  have hown := X.2.2.2.1
  have hts := X.2.2.2.2.1
  have hl : lv_has ls 6 [(0, .ref (ad 0 0)), (1, .int tank), (2, .int op), (3, .int a), (4, .int b)] := hl
  have Wd : WC D cI cT cB ad (va_A (gC cI cT cB ad g) s.heap.size) s.heap g s.heap [] := Wd
  refine lv_aload_n hx hb d_TankArena_instr_0 rfl (lv_at hl 0 rfl) ?_
  refine lv_iload_n hx hb d_TankArena_instr_1 rfl (lv_at hl 1 rfl) ?_
  refine kc_Vi (As := [.int tank]) [] X Wd (k_f_isTank l D cI cT cB ad tX tY g tank) cV_TankArena_43 (kx_recv (k := 0) (i := 0) X Wd ix0 rfl rfl) rfl rfl hl.1 ⟨rfl, rfl⟩ ⟨Nat.le_of_ble_eq_true rfl, Nat.le_of_ble_eq_true rfl⟩ (Nat.le_of_ble_eq_true rfl) ⟨Nat.zero_le _, Nat.zero_le _⟩ d_TankArena_instr_2 (fun r u H locs hp Wd => ?_)
  obtain ⟨hr, hu⟩ := hp
  rw [hu] at Wd
  rw [hr]
  clear hr hu
  refine lv_if_eq (tgt := 25) hx hb d_TankArena_instr_5 (by decide) (fun c_1 => ?_) (fun c_1 => ?_)
  · skip
    refine lv_ldc (v := -1000000) hx hb hown (hts _ w_48413c7019) d_TankArena_instr_25 ?_
    exact kx_iret (u := g) X rfl Wd (by rw [x_instr, if_pos c_1]; dsimp only; exact ⟨rfl, rfl⟩) d_TankArena_instr_27
  · skip
    obtain ⟨es, hs⟩ := isTank_j ok c_1
    refine lv_aload_n hx hb d_TankArena_instr_8 rfl (lv_at hl 0 rfl) ?_
    refine kx_geti (k := 0) (i := 0) X Wd ix0 cell0 fg_TankArena_23 1 rfl (by decide) rfl d_TankArena_instr_9 ?_
    refine lv_if_gt (tgt := 25) hx hb d_TankArena_instr_12 (by decide) (fun c_2 => ?_) (fun c_2 => ?_)
    · skip
      refine lv_ldc (v := -1000000) hx hb hown (hts _ w_48413c7019) d_TankArena_instr_25 ?_
      exact kx_iret (u := g) X rfl Wd (by rw [x_instr, if_neg c_1, if_pos c_2]; dsimp only; exact ⟨rfl, rfl⟩) d_TankArena_instr_27
    · skip
      refine lv_iload_n hx hb d_TankArena_instr_15 rfl (lv_at hl 2 rfl) ?_
      refine lv_iload_n hx hb d_TankArena_instr_16 rfl (lv_at hl 3 rfl) ?_
      refine lv_iload hx hb d_TankArena_instr_17 (lv_at hl 4 rfl) ?_
      refine kc_Si (As := [.int op, .int a, .int b]) [] X Wd (k_f_allows l D cI cT cB ad tX tY g op a b) cS_TankArena_47 rfl rfl hl.1 ⟨rfl, rfl⟩ ⟨Nat.le_of_ble_eq_true rfl, Nat.le_of_ble_eq_true rfl⟩ (Nat.le_of_ble_eq_true rfl) ⟨Nat.zero_le _, Nat.zero_le _⟩ d_TankArena_instr_19 (fun r u H locs hp Wd => ?_)
      obtain ⟨hr, hu⟩ := hp
      rw [hu] at Wd
      rw [hr]
      clear hr hu
      refine lv_if_ne (tgt := 28) hx hb d_TankArena_instr_22 (by decide) (fun c_3 => ?_) (fun c_3 => ?_)
      · skip
        refine lv_aload_n hx hb d_TankArena_instr_28 rfl (lv_at hl 0 rfl) ?_
        refine kx_get (k := 0) (i := 0) (v := .ref (ad 1 0)) X Wd ix0 rfl fg_TankArena_11 rfl d_TankArena_instr_29 ?_
        refine lv_iload_n hx hb d_TankArena_instr_32 rfl (lv_at hl 1 rfl) ?_
        refine kx_aald (k := 1) (i := 0) (j := tank.toNatClampNeg) (b := ad 3 tank.toNatClampNeg) (t0 := 1) X Wd ix1 cell1 rfl es hs (by decide) rfl d_TankArena_instr_33 ?_
        refine kx_get (k := 3) (i := tank.toNatClampNeg) (v := .ref (ad 4 tank.toNatClampNeg)) X Wd (ix3 hs) rfl fg_TankArena_52 rfl d_TankArena_instr_34 ?_
        refine lv_astore (lv' := [(5, .ref (ad 4 tank.toNatClampNeg)), (0, .ref (ad 0 0)), (1, .int tank), (2, .int op), (3, .int a), (4, .int b)]) hx hb d_TankArena_instr_37 hl (by decide) rfl (fun ls hl => ?_)
        refine lv_aload hx hb d_TankArena_instr_39 (lv_at hl 0 rfl) ?_
        refine kc_Vi (As := []) [] X Wd (k_f_full l D cI cT cB ad tX tY g tank.toNatClampNeg hs) cV_TankArena_56 (kx_recv (k := 4) (i := tank.toNatClampNeg) X Wd (ix4 hs) rfl rfl) rfl rfl hl.1 ⟨rfl, rfl⟩ ⟨Nat.le_of_ble_eq_true rfl, Nat.le_of_ble_eq_true rfl⟩ (Nat.le_of_ble_eq_true rfl) ⟨Nat.zero_le _, Nat.zero_le _⟩ d_TankArena_instr_41 (fun r u H locs hp Wd => ?_)
        obtain ⟨hr, hu⟩ := hp
        rw [hu] at Wd
        rw [hr]
        clear hr hu
        refine lv_if_eq (tgt := 50) hx hb d_TankArena_instr_44 (by decide) (fun c_4 => ?_) (fun c_4 => ?_)
        · skip
          have hsz : rng (g 4 tank.toNatClampNeg 0) 16 := full_j ok c_4
          refine lv_aload hx hb d_TankArena_instr_50 (lv_at hl 0 rfl) ?_
          refine lv_iload_n hx hb d_TankArena_instr_52 rfl (lv_at hl 3 rfl) ?_
          refine lv_iload_n hx hb d_TankArena_instr_53 rfl (lv_at hl 4 rfl) ?_
          refine lv_iload hx hb d_TankArena_instr_54 (lv_at hl 5 rfl) ?_
          refine kc_Vv (As := [.int op, .int a, .int b]) [] X Wd (k_g_add l D cI cT cB ad tX tY g tank.toNatClampNeg hs op a b hsz) cV_TankArena_60 (kx_recv (k := 4) (i := tank.toNatClampNeg) X Wd (ix4 hs) rfl rfl) rfl rfl hl.1 ⟨rfl, rfl⟩ ⟨Nat.le_of_ble_eq_true rfl, Nat.le_of_ble_eq_true rfl⟩ (Nat.le_of_ble_eq_true rfl) ⟨Nat.zero_le _, Nat.zero_le _⟩ d_TankArena_instr_56 (fun u H locs hp Wd => ?_)
          rw [hp] at Wd
          clear hp
          have Wd : WC D cI cT cB ad _ s.heap (g_add g tank.toNatClampNeg op a b) H locs := Wd
          refine lv_aload hx hb d_TankArena_instr_59 (lv_at hl 0 rfl) ?_
          refine kx_geti (k := 4) (i := tank.toNatClampNeg) X Wd (ix4 hs) cell4 fg_TankArena_63 0 rfl (by decide) rfl d_TankArena_instr_61 ?_
          exact kx_iret (u := g_add g tank.toNatClampNeg op a b) X rfl Wd (by rw [x_instr, if_neg c_1, if_neg c_2, if_neg c_3, if_pos c_4]; dsimp only; exact ⟨rfl, rfl⟩) d_TankArena_instr_64
        · skip
          refine lv_ldc (v := -1000000) hx hb hown (hts _ w_48413c7019) d_TankArena_instr_47 ?_
          exact kx_iret (u := g) X rfl Wd (by rw [x_instr, if_neg c_1, if_neg c_2, if_neg c_3, if_neg c_4]; dsimp only; exact ⟨rfl, rfl⟩) d_TankArena_instr_49
      · skip
        refine lv_ldc (v := -1000000) hx hb hown (hts _ w_48413c7019) d_TankArena_instr_25 ?_
        exact kx_iret (u := g) X rfl Wd (by rw [x_instr, if_neg c_1, if_neg c_2, if_pos c_3]; dsimp only; exact ⟨rfl, rfl⟩) d_TankArena_instr_27
abbrev RM_f_measure : Room := { frames := 2, cells := 0, slots := 0, locals := 43 }
set_option maxHeartbeats 1000000 in
set_option maxRecDepth 100000 in
theorem k_f_measure (l : Launch) (D : va_G) (cI cT cB : ClassId) (ad : Nat → Nat → Nat) (tX tY : Nat) (g : SG) (tank : Int32) (what : Int32) (N : Nat) (ok : OkN N g) : KL l y_TankArena_measure b_TankArena_measure 3 (some .long) RM_f_measure D cI cT cB ad tX tY [.ref (ad 0 0), .int tank, .int what] g (fun (r : Int64) (u : SG) => r = f_measure g tank what ∧ u = g) := by
  refine met_of (cc := b_TankArena_measure) (nL := 3) (ret := (some .long)) (by decide) rfl (Nat.le_of_ble_eq_true rfl) ?_
  intro p e s m below meth c X hnm Wd ls hl
  have X := X.tt
  have hx := X.1
  have hb := X.2.1
  have hown := X.2.2.2.1
  have hts := X.2.2.2.2.1
  have hl : lv_has ls 3 [(0, .ref (ad 0 0)), (1, .int tank), (2, .int what)] := hl
  have Wd : WC D cI cT cB ad (va_A (gC cI cT cB ad g) s.heap.size) s.heap g s.heap [] := Wd
  refine lv_aload_n hx hb d_TankArena_measure_0 rfl (lv_at hl 0 rfl) ?_
  refine lv_iload_n hx hb d_TankArena_measure_1 rfl (lv_at hl 1 rfl) ?_
  refine kc_Vi (As := [.int tank]) [] X Wd (k_f_isTank l D cI cT cB ad tX tY g tank) cV_TankArena_43 (kx_recv (k := 0) (i := 0) X Wd ix0 rfl rfl) rfl rfl hl.1 ⟨rfl, rfl⟩ ⟨Nat.le_of_ble_eq_true rfl, Nat.le_of_ble_eq_true rfl⟩ (Nat.le_of_ble_eq_true rfl) ⟨Nat.zero_le _, Nat.zero_le _⟩ d_TankArena_measure_2 (fun r u H locs hp Wd => ?_)
  obtain ⟨hr, hu⟩ := hp
  rw [hu] at Wd
  rw [hr]
  clear hr hu
  refine lv_if_eq (tgt := 22) hx hb d_TankArena_measure_5 (by decide) (fun c_1 => ?_) (fun c_1 => ?_)
  · skip
    refine lv_ldc2 (v := -1000000) hx hb hown (hts _ w_22c828d738) d_TankArena_measure_22 ?_
    exact kx_lret (u := g) X Wd ⟨by rw [f_measure, if_pos c_1], rfl⟩ d_TankArena_measure_25
  · skip
    obtain ⟨es, hs⟩ := isTank_j ok c_1
    refine lv_aload_n hx hb d_TankArena_measure_8 rfl (lv_at hl 0 rfl) ?_
    refine kx_get (k := 0) (i := 0) (v := .ref (ad 1 0)) X Wd ix0 rfl fg_TankArena_11 rfl d_TankArena_measure_9 ?_
    refine lv_iload_n hx hb d_TankArena_measure_12 rfl (lv_at hl 1 rfl) ?_
    refine kx_aald (k := 1) (i := 0) (j := tank.toNatClampNeg) (b := ad 3 tank.toNatClampNeg) (t0 := 1) X Wd ix1 cell1 rfl es hs (by decide) rfl d_TankArena_measure_13 ?_
    refine lv_iload_n hx hb d_TankArena_measure_14 rfl (lv_at hl 2 rfl) ?_
    refine kc_Vi (As := [.int what]) [] X Wd (k_f_measured l D cI cT cB ad tX tY g tank.toNatClampNeg hs what) cV_TankArena_100 (kx_recv (k := 3) (i := tank.toNatClampNeg) X Wd (ix3 hs) rfl rfl) rfl rfl hl.1 ⟨rfl, rfl⟩ ⟨Nat.le_of_ble_eq_true rfl, Nat.le_of_ble_eq_true rfl⟩ (Nat.le_of_ble_eq_true rfl) ⟨Nat.zero_le _, Nat.zero_le _⟩ d_TankArena_measure_15 (fun r u H locs hp Wd => ?_)
    obtain ⟨hr, hu⟩ := hp
    rw [hu] at Wd
    rw [hr]
    clear hr hu
    refine lv_i2l hx hb d_TankArena_measure_18 rfl ?_
    refine lv_goto (tgt := 25) hx hb d_TankArena_measure_19 (by decide) ?_
    exact kx_lret (u := g) X Wd ⟨by rw [f_measure, if_neg c_1], rfl⟩ d_TankArena_measure_25
abbrev RM_f_state : Room := { frames := 2, cells := 0, slots := 0, locals := 43 }
set_option maxHeartbeats 1000000 in
set_option maxRecDepth 100000 in
theorem k_f_state (l : Launch) (D : va_G) (cI cT cB : ClassId) (ad : Nat → Nat → Nat) (tX tY : Nat) (g : SG) (tank : Int32) (what : Int32) (N : Nat) (ok : OkN N g) : KI l y_TankArena_state b_TankArena_state 3 (some .int) RM_f_state D cI cT cB ad tX tY [.ref (ad 0 0), .int tank, .int what] g (fun (r : Int32) (u : SG) => r = f_state g tank what ∧ u = g) := by
  refine met_of (cc := b_TankArena_state) (nL := 3) (ret := (some .int)) (by decide) rfl (Nat.le_of_ble_eq_true rfl) ?_
  intro p e s m below meth c X hnm Wd ls hl
  have X := X.tt
  have hx := X.1
  have hb := X.2.1
  have hown := X.2.2.2.1
  have hts := X.2.2.2.2.1
  have hl : lv_has ls 3 [(0, .ref (ad 0 0)), (1, .int tank), (2, .int what)] := hl
  have Wd : WC D cI cT cB ad (va_A (gC cI cT cB ad g) s.heap.size) s.heap g s.heap [] := Wd
  refine lv_aload_n hx hb d_TankArena_state_0 rfl (lv_at hl 0 rfl) ?_
  refine lv_iload_n hx hb d_TankArena_state_1 rfl (lv_at hl 1 rfl) ?_
  refine kc_Vi (As := [.int tank]) [] X Wd (k_f_isTank l D cI cT cB ad tX tY g tank) cV_TankArena_43 (kx_recv (k := 0) (i := 0) X Wd ix0 rfl rfl) rfl rfl hl.1 ⟨rfl, rfl⟩ ⟨Nat.le_of_ble_eq_true rfl, Nat.le_of_ble_eq_true rfl⟩ (Nat.le_of_ble_eq_true rfl) ⟨Nat.zero_le _, Nat.zero_le _⟩ d_TankArena_state_2 (fun r u H locs hp Wd => ?_)
  obtain ⟨hr, hu⟩ := hp
  rw [hu] at Wd
  rw [hr]
  clear hr hu
  refine lv_if_eq (tgt := 21) hx hb d_TankArena_state_5 (by decide) (fun c_1 => ?_) (fun c_1 => ?_)
  · skip
    refine lv_ldc (v := -1000000) hx hb hown (hts _ w_48413c7019) d_TankArena_state_21 ?_
    exact kx_iret (u := g) X rfl Wd ⟨by rw [f_state, if_pos c_1], rfl⟩ d_TankArena_state_23
  · skip
    obtain ⟨es, hs⟩ := isTank_j ok c_1
    refine lv_aload_n hx hb d_TankArena_state_8 rfl (lv_at hl 0 rfl) ?_
    refine kx_get (k := 0) (i := 0) (v := .ref (ad 1 0)) X Wd ix0 rfl fg_TankArena_11 rfl d_TankArena_state_9 ?_
    refine lv_iload_n hx hb d_TankArena_state_12 rfl (lv_at hl 1 rfl) ?_
    refine kx_aald (k := 1) (i := 0) (j := tank.toNatClampNeg) (b := ad 3 tank.toNatClampNeg) (t0 := 1) X Wd ix1 cell1 rfl es hs (by decide) rfl d_TankArena_state_13 ?_
    refine lv_iload_n hx hb d_TankArena_state_14 rfl (lv_at hl 2 rfl) ?_
    refine kc_Vi (As := [.int what]) [] X Wd (k_f_told l D cI cT cB ad tX tY g tank.toNatClampNeg hs what) cV_TankArena_106 (kx_recv (k := 3) (i := tank.toNatClampNeg) X Wd (ix3 hs) rfl rfl) rfl rfl hl.1 ⟨rfl, rfl⟩ ⟨Nat.le_of_ble_eq_true rfl, Nat.le_of_ble_eq_true rfl⟩ (Nat.le_of_ble_eq_true rfl) ⟨Nat.zero_le _, Nat.zero_le _⟩ d_TankArena_state_15 (fun r u H locs hp Wd => ?_)
    obtain ⟨hr, hu⟩ := hp
    rw [hu] at Wd
    rw [hr]
    clear hr hu
    refine lv_goto (tgt := 23) hx hb d_TankArena_state_18 (by decide) ?_
    exact kx_iret (u := g) X rfl Wd ⟨by rw [f_state, if_neg c_1], rfl⟩ d_TankArena_state_23
abbrev RM_f_bullet : Room := { frames := 1, cells := 0, slots := 0, locals := 22 }
set_option maxHeartbeats 1000000 in
set_option maxRecDepth 100000 in
theorem k_f_bullet (l : Launch) (D : va_G) (cI cT cB : ClassId) (ad : Nat → Nat → Nat) (tX tY : Nat) (g : SG) (q : Int32) (what : Int32) (N : Nat) (ok : OkN N g) : KI l y_TankArena_bullet b_TankArena_bullet 3 (some .int) RM_f_bullet D cI cT cB ad tX tY [.ref (ad 0 0), .int q, .int what] g (fun (r : Int32) (u : SG) => r = f_bullet g q what ∧ u = g) := by
  refine met_of (cc := b_TankArena_bullet) (nL := 3) (ret := (some .int)) (by decide) rfl (Nat.le_of_ble_eq_true rfl) ?_
  intro p e s m below meth c X hnm Wd ls hl
  have X := X.tt
  have hx := X.1
  have hb := X.2.1
  have hown := X.2.2.2.1
  have hts := X.2.2.2.2.1
  have hl : lv_has ls 3 [(0, .ref (ad 0 0)), (1, .int q), (2, .int what)] := hl
  have Wd : WC D cI cT cB ad (va_A (gC cI cT cB ad g) s.heap.size) s.heap g s.heap [] := Wd
  refine lv_iload_n hx hb d_TankArena_bullet_0 rfl (lv_at hl 1 rfl) ?_
  refine lv_iconst (v := 0) hx hb d_TankArena_bullet_1 (by decide) ?_
  refine lv_aload_n hx hb d_TankArena_bullet_2 rfl (lv_at hl 0 rfl) ?_
  refine kx_geti (k := 0) (i := 0) X Wd ix0 cell0 fg_TankArena_91 2 rfl (by decide) rfl d_TankArena_bullet_3 ?_
  refine lv_iconst (v := 1) hx hb d_TankArena_bullet_6 (by decide) ?_
  refine lv_isub hx hb d_TankArena_bullet_7 ?_
  refine kc_Si (As := [.int q, .int 0, .int ((g 0 0 2) - 1)]) [] X Wd (k_f_within l D cI cT cB ad tX tY g q 0 ((g 0 0 2) - 1)) cS_TankArena_30 rfl rfl hl.1 ⟨rfl, rfl⟩ ⟨Nat.le_of_ble_eq_true rfl, Nat.le_of_ble_eq_true rfl⟩ (Nat.le_of_ble_eq_true rfl) ⟨Nat.zero_le _, Nat.zero_le _⟩ d_TankArena_bullet_8 (fun r u H locs hp Wd => ?_)
  obtain ⟨hr, hu⟩ := hp
  rw [hu] at Wd
  rw [hr]
  clear hr hu
  refine lv_if_eq (tgt := 27) hx hb d_TankArena_bullet_11 (by decide) (fun c_1 => ?_) (fun c_1 => ?_)
  · skip
    refine lv_ldc (v := -1000000) hx hb hown (hts _ w_48413c7019) d_TankArena_bullet_27 ?_
    exact kx_iret (u := g) X rfl Wd ⟨by rw [f_bullet, if_pos c_1], rfl⟩ d_TankArena_bullet_29
  · skip
    obtain ⟨es, hs⟩ := flying_j ok c_1
    obtain ⟨eb, hbu⟩ := rng_j (ok.1.1 2 0 q.toNatClampNeg) (by decide)
    refine lv_aload_n hx hb d_TankArena_bullet_14 rfl (lv_at hl 0 rfl) ?_
    refine kx_get (k := 0) (i := 0) (v := .ref (ad 2 0)) X Wd ix0 rfl fg_TankArena_18 rfl d_TankArena_bullet_15 ?_
    refine lv_iload_n hx hb d_TankArena_bullet_18 rfl (lv_at hl 1 rfl) ?_
    refine kx_aald (k := 2) (i := 0) (j := q.toNatClampNeg) (b := ad 12 (g 2 0 q.toNatClampNeg).toNatClampNeg) (t0 := 2) X Wd ix2 cell2 rfl es hs (by decide) rfl d_TankArena_bullet_19 ?_
    refine lv_iload_n hx hb d_TankArena_bullet_20 rfl (lv_at hl 2 rfl) ?_
    refine kc_Vi (As := [.int what]) [] X Wd (k_f_btold l D cI cT cB ad tX tY g ((g 2 0 q.toNatClampNeg).toNatClampNeg) hbu what) cV_TankArena_109 (kx_recv (k := 12) (i := (g 2 0 q.toNatClampNeg).toNatClampNeg) X Wd (ix12 hbu) rfl rfl) rfl rfl hl.1 ⟨rfl, rfl⟩ ⟨Nat.le_of_ble_eq_true rfl, Nat.le_of_ble_eq_true rfl⟩ (Nat.le_of_ble_eq_true rfl) ⟨Nat.zero_le _, Nat.zero_le _⟩ d_TankArena_bullet_21 (fun r u H locs hp Wd => ?_)
    obtain ⟨hr, hu⟩ := hp
    rw [hu] at Wd
    rw [hr]
    clear hr hu
    refine lv_goto (tgt := 29) hx hb d_TankArena_bullet_24 (by decide) ?_
    exact kx_iret (u := g) X rfl Wd ⟨by rw [f_bullet, if_neg c_1], rfl⟩ d_TankArena_bullet_29
abbrev RM_f_count : Room := { frames := 1, cells := 0, slots := 0, locals := 22 }
set_option maxHeartbeats 1000000 in
set_option maxRecDepth 100000 in
theorem k_f_count (l : Launch) (D : va_G) (cI cT cB : ClassId) (ad : Nat → Nat → Nat) (tX tY : Nat) (g : SG) (what : Int32) (N : Nat) (ok : OkN N g) : KI l y_TankArena_count b_TankArena_count 2 (some .int) RM_f_count D cI cT cB ad tX tY [.ref (ad 0 0), .int what] g (fun (r : Int32) (u : SG) => r = f_count g what ∧ u = g) := by
  refine met_of (cc := b_TankArena_count) (nL := 2) (ret := (some .int)) (by decide) rfl (Nat.le_of_ble_eq_true rfl) ?_
  intro p e s m below meth c X hnm Wd ls hl
  have X := X.tt
  have hx := X.1
  have hb := X.2.1
  have hown := X.2.2.2.1
  have hts := X.2.2.2.2.1
  have hl : lv_has ls 2 [(0, .ref (ad 0 0)), (1, .int what)] := hl
  have Wd : WC D cI cT cB ad (va_A (gC cI cT cB ad g) s.heap.size) s.heap g s.heap [] := Wd
  refine lv_iload_n hx hb d_TankArena_count_0 rfl (lv_at hl 1 rfl) ?_
  by_cases c_1 : what = 0
  · skip
    refine lv_tableIn (tgt := 40) hx hb d_TankArena_count_1 (by rw [c_1]; decide) (by rw [c_1]; decide) (by rw [c_1]; rfl) (by decide) ?_
    refine lv_aload_n hx hb d_TankArena_count_40 rfl (lv_at hl 0 rfl) ?_
    refine kx_geti (k := 0) (i := 0) X Wd ix0 cell0 fg_TankArena_23 1 rfl (by decide) rfl d_TankArena_count_41 ?_
    exact kx_iret (u := g) X rfl Wd ⟨by rw [f_count, if_pos c_1], rfl⟩ d_TankArena_count_44
  by_cases c_2 : what = 1
  · skip
    refine lv_tableIn (tgt := 45) hx hb d_TankArena_count_1 (by rw [c_2]; decide) (by rw [c_2]; decide) (by rw [c_2]; rfl) (by decide) ?_
    refine lv_aload_n hx hb d_TankArena_count_45 rfl (lv_at hl 0 rfl) ?_
    refine kx_geti (k := 0) (i := 0) X Wd ix0 cell0 fg_TankArena_27 0 rfl (by decide) rfl d_TankArena_count_46 ?_
    exact kx_iret (u := g) X rfl Wd ⟨by rw [f_count, if_neg c_1, if_pos c_2], rfl⟩ d_TankArena_count_49
  by_cases c_3 : what = 2
  · skip
    refine lv_tableIn (tgt := 50) hx hb d_TankArena_count_1 (by rw [c_3]; decide) (by rw [c_3]; decide) (by rw [c_3]; rfl) (by decide) ?_
    refine lv_aload_n hx hb d_TankArena_count_50 rfl (lv_at hl 0 rfl) ?_
    refine kc_Vi (As := []) [] X Wd (k_f_alive l D cI cT cB ad tX tY g N ok) cV_TankArena_66 (kx_recv (k := 0) (i := 0) X Wd ix0 rfl rfl) rfl rfl hl.1 ⟨rfl, rfl⟩ ⟨Nat.le_of_ble_eq_true rfl, Nat.le_of_ble_eq_true rfl⟩ (Nat.le_of_ble_eq_true rfl) ⟨Nat.zero_le _, Nat.zero_le _⟩ d_TankArena_count_51 (fun r u H locs hp Wd => ?_)
    obtain ⟨hr, hu⟩ := hp
    rw [hu] at Wd
    rw [hr]
    clear hr hu
    exact kx_iret (u := g) X rfl Wd ⟨by rw [f_count, if_neg c_1, if_neg c_2, if_pos c_3], rfl⟩ d_TankArena_count_54
  by_cases c_4 : what = 3
  · skip
    refine lv_tableIn (tgt := 55) hx hb d_TankArena_count_1 (by rw [c_4]; decide) (by rw [c_4]; decide) (by rw [c_4]; rfl) (by decide) ?_
    refine lv_aload_n hx hb d_TankArena_count_55 rfl (lv_at hl 0 rfl) ?_
    refine kx_geti (k := 0) (i := 0) X Wd ix0 cell0 fg_TankArena_91 2 rfl (by decide) rfl d_TankArena_count_56 ?_
    exact kx_iret (u := g) X rfl Wd ⟨by rw [f_count, if_neg c_1, if_neg c_2, if_neg c_3, if_pos c_4], rfl⟩ d_TankArena_count_59
  by_cases c_5 : what = 4
  · skip
    refine lv_tableIn (tgt := 60) hx hb d_TankArena_count_1 (by rw [c_5]; decide) (by rw [c_5]; decide) (by rw [c_5]; rfl) (by decide) ?_
    refine lv_aload_n hx hb d_TankArena_count_60 rfl (lv_at hl 0 rfl) ?_
    refine kx_geti (k := 0) (i := 0) X Wd ix0 cell0 fg_TankArena_94 3 rfl (by decide) rfl d_TankArena_count_61 ?_
    exact kx_iret (u := g) X rfl Wd ⟨by rw [f_count, if_neg c_1, if_neg c_2, if_neg c_3, if_neg c_4, if_pos c_5], rfl⟩ d_TankArena_count_64
  by_cases c_6 : what = 5
  · skip
    refine lv_tableIn (tgt := 65) hx hb d_TankArena_count_1 (by rw [c_6]; decide) (by rw [c_6]; decide) (by rw [c_6]; rfl) (by decide) ?_
    refine lv_aload_n hx hb d_TankArena_count_65 rfl (lv_at hl 0 rfl) ?_
    refine kx_geti (k := 0) (i := 0) X Wd ix0 cell0 fg_TankArena_97 4 rfl (by decide) rfl d_TankArena_count_66 ?_
    exact kx_iret (u := g) X rfl Wd ⟨by rw [f_count, if_neg c_1, if_neg c_2, if_neg c_3, if_neg c_4, if_neg c_5, if_pos c_6], rfl⟩ d_TankArena_count_69
  refine lv_tableOut (tgt := 70) hx hb d_TankArena_count_1 (by have q0 := neI (0) rfl c_1; have q1 := neI (1) rfl c_2; have q2 := neI (2) rfl c_3; have q3 := neI (3) rfl c_4; have q4 := neI (4) rfl c_5; have q5 := neI (5) rfl c_6; omega) (by decide) ?_
  refine lv_ldc (v := -1000000) hx hb hown (hts _ w_48413c7019) d_TankArena_count_70 ?_
  exact kx_iret (u := g) X rfl Wd ⟨by rw [f_count, if_neg c_1, if_neg c_2, if_neg c_3, if_neg c_4, if_neg c_5, if_neg c_6], rfl⟩ d_TankArena_count_72
