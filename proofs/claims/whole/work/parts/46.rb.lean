/-! CONTRACTS of the reference (printed by gen/all_r.py) -/
abbrev RM_g_Rperform : Room := { frames := 3, cells := 0, slots := 0, locals := 64 }
set_option maxHeartbeats 1000000 in
set_option maxRecDepth 100000 in
theorem k_g_Rperform (l : Launch) (D : va_G) (cI cZ : ClassId) (ad : Nat → Nat → Nat) (g : SG) (t : Nat) (ht : t < 4) (vt : Int32) (et : vt = nI t) (op : Int32) (a : Int32) (b : Int32) (N : Nat) (ok : RokN N g) (hio : insOk op a b) (hc : rng (g 17 0 t) 16) : RV l y_TankArenaModel_perform b_TankArenaModel_perform 5 none RM_g_Rperform D cI cZ ad [.ref (ad 0 0), .int vt, .int op, .int a, .int b] g (fun (u : SG) => u = g_Rperform g t op a b) := by
  subst et
  refine met_of (cc := b_TankArenaModel_perform) (nL := 5) (ret := none) (by decide) rfl (Nat.le_of_ble_eq_true rfl) ?_
  intro p e s m below meth c X hnm Wd ls hl
  have X := X.tt
  have hx := X.1
  have hb := X.2.1
  have hown := X.2.2.2.1
  have hts := X.2.2.2.2.1
  have hl : lv_has ls 5 [(0, .ref (ad 0 0)), (1, .int (nI t)), (2, .int op), (3, .int a), (4, .int b)] := hl
  have Wd : WR D cI cZ ad (va_A (gR cI cZ ad g) s.heap.size) s.heap g s.heap [] := Wd
  have J67 : ∀ (gl : SG), RokN N gl → rng (gl 17 0 t) 16 → insOk op a b → t < 4 → g_Rperform g t op a b = J_Rperf67 t op a b gl → ∀ (H : Heap) (locs : List Loc), WR D cI cZ ad (va_A (gR cI cZ ad g) s.heap.size) s.heap gl H locs → ∀ ls : Array Slot, lv_has ls 5 [(0, .ref (ad 0 0)), (1, .int (nI t)), (2, .int op), (3, .int a), (4, .int b)] → W p l e RM_g_Rperform s m [.ref (ad 0 0), .int (nI t), .int op, .int a, .int b].toArray below meth c H locs 0 0 (YV D cI cZ ad below [.ref (ad 0 0), .int (nI t), .int op, .int a, .int b] s g (fun (u : SG) => u = g_Rperform g t op a b)) (F0 m 67 ls []) := by
    intro gl hv0 hv1 hv2 hv3 htg H locs Wd ls hl
    have hc := hv1
    have hio := hv2
    have ht := hv3
    refine lv_aload_n hx hb d_TankArenaModel_perform_67 rfl (lv_at hl 0 rfl) ?_
    refine kx_get (k := 0) (i := 0) (v := .ref (ad 17 0)) X Wd (iy 0 (by decide)) rfl fg_TankArenaModel_58 rfl d_TankArenaModel_perform_68 ?_
    refine lv_iload_n hx hb d_TankArenaModel_perform_71 rfl (lv_at hl 1 rfl) ?_
    refine lv_aload_n hx hb d_TankArenaModel_perform_72 rfl (lv_at hl 0 rfl) ?_
    refine lv_iload_n hx hb d_TankArenaModel_perform_73 rfl (lv_at hl 1 rfl) ?_
    refine lv_iload_n hx hb d_TankArenaModel_perform_74 rfl (lv_at hl 2 rfl) ?_
    refine lv_iload hx hb d_TankArenaModel_perform_75 (lv_at hl 4 rfl) ?_
    refine kc_Vi (As := [.int (nI t), .int op, .int b]) [.int (nI t), .ref (ad 17 0)] X Wd (k_x_Rjumps l D cI cZ ad gl t ht (nI t) rfl op b N hv0 hio.2.1) cV_TankArenaModel_140 (kx_recv (k := 0) (i := 0) X Wd (iy 0 (by decide)) rfl rfl) rfl rfl hl.1 ⟨rfl, rfl⟩ ⟨Nat.le_of_ble_eq_true rfl, Nat.le_of_ble_eq_true rfl⟩ (Nat.le_of_ble_eq_true rfl) ⟨Nat.zero_le _, Nat.zero_le _⟩ d_TankArenaModel_perform_77 (fun r u H locs hp Wd => ?_)
    obtain ⟨hr, hu⟩ := hp
    rw [hu] at Wd
    rw [hr]
    clear hr hu
    have Wd : WR D cI cZ ad _ s.heap ((x_Rjumps gl t op b).2) H locs := Wd
    refine lv_if_eq (tgt := 87) hx hb d_TankArenaModel_perform_80 (by decide) (fun c_1 => ?_) (fun c_1 => ?_)
    · skip
      refine lv_aload_n hx hb d_TankArenaModel_perform_87 rfl (lv_at hl 0 rfl) ?_
      refine kx_get (k := 0) (i := 0) (v := .ref (ad 17 0)) X Wd (iy 0 (by decide)) rfl fg_TankArenaModel_58 rfl d_TankArenaModel_perform_88 ?_
      refine lv_iload_n hx hb d_TankArenaModel_perform_91 rfl (lv_at hl 1 rfl) ?_
      refine kx_iald (k := 17) (i := 0) (j := t) (t0 := 0) X Wd (iy 17 (by decide)) rell17 rfl rfl ht (by decide) d_TankArenaModel_perform_92 ?_
      refine lv_iconst (v := 1) hx hb d_TankArenaModel_perform_93 (by decide) ?_
      refine lv_iadd hx hb d_TankArenaModel_perform_94 ?_
      refine kx_iast (k := 17) (i := 0) (j := t) (t0 := 0) X Wd (iy 17 (by decide)) rell17 rfl rfl ht (by decide) d_TankArenaModel_perform_95 (fun H locs Wd => ?_)
      exact kx_vret (u := up3 ((x_Rjumps gl t op b).2) 17 0 t ((((x_Rjumps gl t op b).2) 17 0 t) + 1)) X Wd (by rw [htg, J_Rperf67, if_pos c_1]) d_TankArenaModel_perform_96
    · skip
      refine lv_iload_n hx hb d_TankArenaModel_perform_83 rfl (lv_at hl 3 rfl) ?_
      refine lv_goto (tgt := 95) hx hb d_TankArenaModel_perform_84 (by decide) ?_
      refine kx_iast (k := 17) (i := 0) (j := t) (t0 := 0) X Wd (iy 17 (by decide)) rell17 rfl rfl ht (by decide) d_TankArenaModel_perform_95 (fun H locs Wd => ?_)
      exact kx_vret (u := up3 ((x_Rjumps gl t op b).2) 17 0 t a) X Wd (by rw [htg, J_Rperf67, if_neg c_1]) d_TankArenaModel_perform_96
  have J49 : ∀ (gl : SG), RokN N gl → rng (gl 17 0 t) 16 → insOk op a b → t < 4 → g_Rperform g t op a b = J_Rperf49 t op a b gl → ∀ (H : Heap) (locs : List Loc), WR D cI cZ ad (va_A (gR cI cZ ad g) s.heap.size) s.heap gl H locs → ∀ ls : Array Slot, lv_has ls 5 [(0, .ref (ad 0 0)), (1, .int (nI t)), (2, .int op), (3, .int a), (4, .int b)] → W p l e RM_g_Rperform s m [.ref (ad 0 0), .int (nI t), .int op, .int a, .int b].toArray below meth c H locs 0 0 (YV D cI cZ ad below [.ref (ad 0 0), .int (nI t), .int op, .int a, .int b] s g (fun (u : SG) => u = g_Rperform g t op a b)) (F0 m 49 ls []) := by
    intro gl hv0 hv1 hv2 hv3 htg H locs Wd ls hl
    have hc := hv1
    have hio := hv2
    have ht := hv3
    refine lv_iload_n hx hb d_TankArenaModel_perform_49 rfl (lv_at hl 2 rfl) ?_
    refine lv_bipush (v := 11) hx hb d_TankArenaModel_perform_50 (by decide) ?_
    refine lv_icmp_ne (tgt := 67) hx hb d_TankArenaModel_perform_52 (by decide) (fun c_2 => ?_) (fun c_2 => ?_)
    · skip
      exact J67 gl hv0 hv1 hio ht (by rw [htg, J_Rperf49, if_neg c_2]) _ _ Wd _ (lv_sub hl [0, 1, 2, 3, 4] rfl)
    · skip
      obtain ⟨eb, hb2⟩ := rng_j (hio.1 c_2) (by decide)
      have er : 2 * nI t + a = nI (2 * t + a.toNatClampNeg) := nI_lin 2 rfl eb
      have hrg : 2 * t + a.toNatClampNeg < 8 := by omega
      refine lv_aload_n hx hb d_TankArenaModel_perform_55 rfl (lv_at hl 0 rfl) ?_
      refine kx_get (k := 0) (i := 0) (v := .ref (ad 18 0)) X Wd (iy 0 (by decide)) rfl fg_TankArenaModel_61 rfl d_TankArenaModel_perform_56 ?_
      refine lv_iconst (v := 2) hx hb d_TankArenaModel_perform_59 (by decide) ?_
      refine lv_iload_n hx hb d_TankArenaModel_perform_60 rfl (lv_at hl 1 rfl) ?_
      refine lv_imul hx hb d_TankArenaModel_perform_61 ?_
      refine lv_iload_n hx hb d_TankArenaModel_perform_62 rfl (lv_at hl 3 rfl) ?_
      refine lv_iadd hx hb d_TankArenaModel_perform_63 ?_
      refine lv_iload hx hb d_TankArenaModel_perform_64 (lv_at hl 4 rfl) ?_
      refine kx_iast (k := 18) (i := 0) (j := 2 * t + a.toNatClampNeg) (t0 := 0) X Wd (iy 18 (by decide)) rell18 rfl er hrg (by decide) d_TankArenaModel_perform_66 (fun H locs Wd => ?_)
      exact J67 (up3 gl 18 0 (2 * t + a.toNatClampNeg) b) (by refine rokU ?_ rfl trivial; exact hv0) hv1 hio ht (by rw [htg, J_Rperf49, if_pos c_2]) _ _ Wd _ (lv_sub hl [0, 1, 2, 3, 4] rfl)
  have J37 : ∀ (gl : SG), RokN N gl → rng (gl 17 0 t) 16 → insOk op a b → t < 4 → g_Rperform g t op a b = J_Rperf37 t op a b gl → ∀ (H : Heap) (locs : List Loc), WR D cI cZ ad (va_A (gR cI cZ ad g) s.heap.size) s.heap gl H locs → ∀ ls : Array Slot, lv_has ls 5 [(0, .ref (ad 0 0)), (1, .int (nI t)), (2, .int op), (3, .int a), (4, .int b)] → W p l e RM_g_Rperform s m [.ref (ad 0 0), .int (nI t), .int op, .int a, .int b].toArray below meth c H locs 0 0 (YV D cI cZ ad below [.ref (ad 0 0), .int (nI t), .int op, .int a, .int b] s g (fun (u : SG) => u = g_Rperform g t op a b)) (F0 m 37 ls []) := by
    intro gl hv0 hv1 hv2 hv3 htg H locs Wd ls hl
    have hc := hv1
    have hio := hv2
    have ht := hv3
    refine lv_iload_n hx hb d_TankArenaModel_perform_37 rfl (lv_at hl 2 rfl) ?_
    refine lv_iconst (v := 5) hx hb d_TankArenaModel_perform_38 (by decide) ?_
    refine lv_icmp_ne (tgt := 49) hx hb d_TankArenaModel_perform_39 (by decide) (fun c_3 => ?_) (fun c_3 => ?_)
    · skip
      exact J49 gl hv0 hv1 hio ht (by rw [htg, J_Rperf37, if_neg c_3]) _ _ Wd _ (lv_sub hl [0, 1, 2, 3, 4] rfl)
    · skip
      refine lv_aload_n hx hb d_TankArenaModel_perform_42 rfl (lv_at hl 0 rfl) ?_
      refine kx_get (k := 0) (i := 0) (v := .ref (ad 27 0)) X Wd (iy 0 (by decide)) rfl fg_TankArenaModel_89 rfl d_TankArenaModel_perform_43 ?_
      refine lv_iload_n hx hb d_TankArenaModel_perform_46 rfl (lv_at hl 1 rfl) ?_
      refine lv_iload_n hx hb d_TankArenaModel_perform_47 rfl (lv_at hl 3 rfl) ?_
      refine kx_iast (k := 27) (i := 0) (j := t) (t0 := 0) X Wd (iy 27 (by decide)) rell27 rfl rfl ht (by decide) d_TankArenaModel_perform_48 (fun H locs Wd => ?_)
      exact J49 (up3 gl 27 0 t a) (by refine rokU ?_ rfl (hio.2.2.1 c_3); exact hv0) hv1 hio ht (by rw [htg, J_Rperf37, if_pos c_3]) _ _ Wd _ (lv_sub hl [0, 1, 2, 3, 4] rfl)
  have J14 : ∀ (gl : SG), RokN N gl → rng (gl 17 0 t) 16 → insOk op a b → t < 4 → g_Rperform g t op a b = J_Rperf14 t op a b gl → ∀ (H : Heap) (locs : List Loc), WR D cI cZ ad (va_A (gR cI cZ ad g) s.heap.size) s.heap gl H locs → ∀ ls : Array Slot, lv_has ls 5 [(0, .ref (ad 0 0)), (1, .int (nI t)), (2, .int op), (3, .int a), (4, .int b)] → W p l e RM_g_Rperform s m [.ref (ad 0 0), .int (nI t), .int op, .int a, .int b].toArray below meth c H locs 0 0 (YV D cI cZ ad below [.ref (ad 0 0), .int (nI t), .int op, .int a, .int b] s g (fun (u : SG) => u = g_Rperform g t op a b)) (F0 m 14 ls []) := by
    intro gl hv0 hv1 hv2 hv3 htg H locs Wd ls hl
    have hc := hv1
    have hio := hv2
    have ht := hv3
    refine lv_iload_n hx hb d_TankArenaModel_perform_14 rfl (lv_at hl 2 rfl) ?_
    refine lv_iconst (v := 1) hx hb d_TankArenaModel_perform_15 (by decide) ?_
    refine lv_icmp_le (tgt := 37) hx hb d_TankArenaModel_perform_16 (by decide) (fun c_4 => ?_) (fun c_4 => ?_)
    · skip
      exact J37 gl hv0 hv1 hio ht (by rw [htg, J_Rperf14, if_pos c_4]) _ _ Wd _ (lv_sub hl [0, 1, 2, 3, 4] rfl)
    · skip
      refine lv_iload_n hx hb d_TankArenaModel_perform_19 rfl (lv_at hl 2 rfl) ?_
      refine lv_iconst (v := 5) hx hb d_TankArenaModel_perform_20 (by decide) ?_
      refine lv_icmp_ge (tgt := 37) hx hb d_TankArenaModel_perform_21 (by decide) (fun c_5 => ?_) (fun c_5 => ?_)
      · skip
        exact J37 gl hv0 hv1 hio ht (by rw [htg, J_Rperf14, if_neg c_4, if_pos c_5]) _ _ Wd _ (lv_sub hl [0, 1, 2, 3, 4] rfl)
      · skip
        obtain ⟨ei, hi2⟩ := turn_j (t := t) c_4 c_5 ht
        refine lv_aload_n hx hb d_TankArenaModel_perform_24 rfl (lv_at hl 0 rfl) ?_
        refine kx_get (k := 0) (i := 0) (v := .ref (ad 26 0)) X Wd (iy 0 (by decide)) rfl fg_TankArenaModel_86 rfl d_TankArenaModel_perform_25 ?_
        refine lv_iconst (v := 4) hx hb d_TankArenaModel_perform_28 (by decide) ?_
        refine lv_iload_n hx hb d_TankArenaModel_perform_29 rfl (lv_at hl 2 rfl) ?_
        refine lv_iconst (v := 2) hx hb d_TankArenaModel_perform_30 (by decide) ?_
        refine lv_isub hx hb d_TankArenaModel_perform_31 ?_
        refine lv_imul hx hb d_TankArenaModel_perform_32 ?_
        refine lv_iload_n hx hb d_TankArenaModel_perform_33 rfl (lv_at hl 1 rfl) ?_
        refine lv_iadd hx hb d_TankArenaModel_perform_34 ?_
        refine lv_iload_n hx hb d_TankArenaModel_perform_35 rfl (lv_at hl 3 rfl) ?_
        refine kx_iast (k := 26) (i := 0) (j := 4 * (op.toNatClampNeg - 2) + t) (t0 := 0) X Wd (iy 26 (by decide)) rell26 rfl ei hi2 (by decide) d_TankArenaModel_perform_36 (fun H locs Wd => ?_)
        exact J37 (up3 gl 26 0 (4 * (op.toNatClampNeg - 2) + t) a) (by refine rokU ?_ rfl trivial; exact hv0) hv1 hio ht (by rw [htg, J_Rperf14, if_neg c_4, if_neg c_5]) _ _ Wd _ (lv_sub hl [0, 1, 2, 3, 4] rfl)
  refine lv_iload_n hx hb d_TankArenaModel_perform_0 rfl (lv_at hl 2 rfl) ?_
  refine lv_iconst (v := 1) hx hb d_TankArenaModel_perform_1 (by decide) ?_
  refine lv_icmp_ne (tgt := 14) hx hb d_TankArenaModel_perform_2 (by decide) (fun c_6 => ?_) (fun c_6 => ?_)
  · skip
    exact J14 g ok hc hio ht (by rw [g_Rperform, if_neg c_6]) _ _ Wd _ (lv_sub hl [0, 1, 2, 3, 4] rfl)
  · skip
    refine lv_aload_n hx hb d_TankArenaModel_perform_5 rfl (lv_at hl 0 rfl) ?_
    refine kx_get (k := 0) (i := 0) (v := .ref (ad 14 0)) X Wd (iy 0 (by decide)) rfl fg_TankArenaModel_49 rfl d_TankArenaModel_perform_6 ?_
    refine lv_iload_n hx hb d_TankArenaModel_perform_9 rfl (lv_at hl 1 rfl) ?_
    refine lv_iconst (v := 4) hx hb d_TankArenaModel_perform_10 (by decide) ?_
    refine lv_iload_n hx hb d_TankArenaModel_perform_11 rfl (lv_at hl 3 rfl) ?_
    refine lv_imul hx hb d_TankArenaModel_perform_12 ?_
    refine kx_iast (k := 14) (i := 0) (j := t) (t0 := 0) X Wd (iy 14 (by decide)) rell14 rfl rfl ht (by decide) d_TankArenaModel_perform_13 (fun H locs Wd => ?_)
    exact J14 (up3 g 14 0 t (4 * a)) (by refine rokU ?_ rfl trivial; exact ok) hc hio ht (by rw [g_Rperform, if_pos c_6]) _ _ Wd _ (lv_sub hl [0, 1, 2, 3, 4] rfl)
abbrev RM_g_RnoAsking : Room := { frames := 0, cells := 0, slots := 0, locals := 0 }
set_option maxHeartbeats 1000000 in
set_option maxRecDepth 100000 in
theorem k_g_RnoAsking (l : Launch) (D : va_G) (cI cZ : ClassId) (ad : Nat → Nat → Nat) (g : SG) (t : Nat) (ht : t < 4) (vt : Int32) (et : vt = nI t) (N : Nat) (ok : RokN N g) : RV l y_TankArenaModel_noAsking b_TankArenaModel_noAsking 3 none RM_g_RnoAsking D cI cZ ad [.ref (ad 0 0), .int vt] g (fun (u : SG) => u = g_RnoAsking g t) := by
  subst et
  refine met_of (cc := b_TankArenaModel_noAsking) (nL := 3) (ret := none) (by decide) rfl (Nat.le_of_ble_eq_true rfl) ?_
  intro p e s m below meth c X hnm Wd ls hl
  have X := X.tt
  have hx := X.1
  have hb := X.2.1
  have hown := X.2.2.2.1
  have hts := X.2.2.2.2.1
  have hl : lv_has ls 3 [(0, .ref (ad 0 0)), (1, .int (nI t))] := hl
  have Wd : WR D cI cZ ad (va_A (gR cI cZ ad g) s.heap.size) s.heap g s.heap [] := Wd
  refine lv_iconst (v := 0) hx hb d_TankArenaModel_noAsking_0 (by decide) ?_
  refine lv_istore_n (lv' := [(2, .int 0), (0, .ref (ad 0 0)), (1, .int (nI t))]) hx hb d_TankArenaModel_noAsking_1 rfl hl (by decide) rfl (fun ls hl => ?_)
  have loop : ∀ (n : Nat) (k : Nat) (gl : SG), RokN N gl → k ≤ 3 → 4 ≤ k + n → g_RnoAsking g t = L_RnoAsking t n k gl → ∀ (H : Heap) (locs : List Loc), WR D cI cZ ad (va_A (gR cI cZ ad g) s.heap.size) s.heap gl H locs → ∀ ls : Array Slot, lv_has ls 3 [(0, .ref (ad 0 0)), (1, .int (nI t)), (2, .int (nI k))] → W p l e RM_g_RnoAsking s m [.ref (ad 0 0), .int (nI t)].toArray below meth c H locs 0 0 (YV D cI cZ ad below [.ref (ad 0 0), .int (nI t)] s g (fun (u : SG) => u = g_RnoAsking g t)) (F0 m 2 ls []) := by
    intro n
    induction n with
    | zero =>
      intro k gl hv0 hv1 hv2
      exfalso
      omega
    | succ n ih =>
      intro k gl hv0 hv1 hv2 htg H locs Wd ls hl
      refine lv_iload_n hx hb d_TankArenaModel_noAsking_2 rfl (lv_at hl 2 rfl) ?_
      refine lv_iconst (v := 3) hx hb d_TankArenaModel_noAsking_3 (by decide) ?_
      refine lv_icmp_ge (tgt := 24) hx hb d_TankArenaModel_noAsking_4 (by decide) (fun c_1 => ?_) (fun c_1 => ?_)
      · skip
        refine lv_aload_n hx hb d_TankArenaModel_noAsking_24 rfl (lv_at hl 0 rfl) ?_
        refine kx_get (k := 0) (i := 0) (v := .ref (ad 27 0)) X Wd (iy 0 (by decide)) rfl fg_TankArenaModel_89 rfl d_TankArenaModel_noAsking_25 ?_
        refine lv_iload_n hx hb d_TankArenaModel_noAsking_28 rfl (lv_at hl 1 rfl) ?_
        refine lv_iconst (v := 0) hx hb d_TankArenaModel_noAsking_29 (by decide) ?_
        refine kx_iast (k := 27) (i := 0) (j := t) (t0 := 0) X Wd (iy 27 (by decide)) rell27 rfl rfl ht (by decide) d_TankArenaModel_noAsking_30 (fun H locs Wd => ?_)
        exact kx_vret (u := up3 gl 27 0 t 0) X Wd (by rw [htg, L_RnoAsking, if_pos c_1]) d_TankArenaModel_noAsking_31
      · skip
        have hk : k < 3 := nlt_of (N := 3) rfl (by decide) (by omega) c_1
        refine lv_aload_n hx hb d_TankArenaModel_noAsking_7 rfl (lv_at hl 0 rfl) ?_
        refine kx_get (k := 0) (i := 0) (v := .ref (ad 26 0)) X Wd (iy 0 (by decide)) rfl fg_TankArenaModel_86 rfl d_TankArenaModel_noAsking_8 ?_
        refine lv_iconst (v := 4) hx hb d_TankArenaModel_noAsking_11 (by decide) ?_
        refine lv_iload_n hx hb d_TankArenaModel_noAsking_12 rfl (lv_at hl 2 rfl) ?_
        refine lv_imul hx hb d_TankArenaModel_noAsking_13 ?_
        refine lv_iload_n hx hb d_TankArenaModel_noAsking_14 rfl (lv_at hl 1 rfl) ?_
        refine lv_iadd hx hb d_TankArenaModel_noAsking_15 ?_
        refine lv_iconst (v := 0) hx hb d_TankArenaModel_noAsking_16 (by decide) ?_
        refine kx_iast (k := 26) (i := 0) (j := 4 * k + t) (t0 := 0) X Wd (iy 26 (by decide)) rell26 rfl (nI_lin 4 rfl rfl) (by omega) (by decide) d_TankArenaModel_noAsking_17 (fun H locs Wd => ?_)
        refine lv_iinc (v := nI (k + 1)) (lv' := [(2, .int (nI (k + 1))), (0, .ref (ad 0 0)), (1, .int (nI t))]) hx hb d_TankArenaModel_noAsking_18 hl (k := 2) rfl (nI_1 k) (by decide) rfl (fun ls hl => ?_)
        refine lv_goto (tgt := 2) hx hb d_TankArenaModel_noAsking_21 (by decide) ?_
        exact ih (k + 1) (up3 gl 26 0 (4 * k + t) 0) (by refine rokU ?_ rfl trivial; exact hv0) (by omega) (by omega) (by rw [htg, L_RnoAsking, if_neg c_1]) _ _ Wd _ (lv_sub hl [1, 2, 0] rfl)
  exact loop 4 0 g ok (by decide) (by decide) (by rw [g_RnoAsking]) _ _ Wd _ (lv_sub hl [1, 2, 0] rfl)
abbrev RM_g_Rprogram : Room := { frames := 4, cells := 0, slots := 0, locals := 88 }
set_option maxHeartbeats 1000000 in
set_option maxRecDepth 100000 in
theorem k_g_Rprogram (l : Launch) (D : va_G) (cI cZ : ClassId) (ad : Nat → Nat → Nat) (g : SG) (t : Nat) (ht : t < 4) (vt : Int32) (et : vt = nI t) (N : Nat) (ok : RokN N g) : RV l y_TankArenaModel_program b_TankArenaModel_program 5 none RM_g_Rprogram D cI cZ ad [.ref (ad 0 0), .int vt] g (fun (u : SG) => u = g_Rprogram g t) := by
  subst et
  refine met_of (cc := b_TankArenaModel_program) (nL := 5) (ret := none) (by decide) rfl (Nat.le_of_ble_eq_true rfl) ?_
  intro p e s m below meth c X hnm Wd ls hl
  have X := X.tt
  have hx := X.1
  have hb := X.2.1
  have hown := X.2.2.2.1
  have hts := X.2.2.2.2.1
  have hl : lv_has ls 5 [(0, .ref (ad 0 0)), (1, .int (nI t))] := hl
  have Wd : WR D cI cZ ad (va_A (gR cI cZ ad g) s.heap.size) s.heap g s.heap [] := Wd
  refine lv_aload_n hx hb d_TankArenaModel_program_0 rfl (lv_at hl 0 rfl) ?_
  refine kx_get (k := 0) (i := 0) (v := .ref (ad 14 0)) X Wd (iy 0 (by decide)) rfl fg_TankArenaModel_49 rfl d_TankArenaModel_program_1 ?_
  refine lv_iload_n hx hb d_TankArenaModel_program_4 rfl (lv_at hl 1 rfl) ?_
  refine kx_iald (k := 14) (i := 0) (j := t) (t0 := 0) X Wd (iy 14 (by decide)) rell14 rfl rfl ht (by decide) d_TankArenaModel_program_5 ?_
  refine lv_istore_n (lv' := [(2, .int (g 14 0 t)), (0, .ref (ad 0 0)), (1, .int (nI t))]) hx hb d_TankArenaModel_program_6 rfl hl (by decide) rfl (fun ls hl => ?_)
  refine lv_iconst (v := 0) hx hb d_TankArenaModel_program_7 (by decide) ?_
  refine lv_istore_n (lv' := [(3, .int 0), (2, .int (g 14 0 t)), (0, .ref (ad 0 0)), (1, .int (nI t))]) hx hb d_TankArenaModel_program_8 rfl hl (by decide) rfl (fun ls hl => ?_)
  have loop : ∀ (n : Nat) (bf : Int32) (dn : Nat) (gl : SG), RokN N gl → dn ≤ 10 → 11 ≤ dn + n → g_Rprogram g t = L_Rprogram t n bf dn gl → ∀ (H : Heap) (locs : List Loc), WR D cI cZ ad (va_A (gR cI cZ ad g) s.heap.size) s.heap gl H locs → ∀ ls : Array Slot, lv_has ls 5 [(0, .ref (ad 0 0)), (1, .int (nI t)), (2, .int bf), (3, .int (nI dn))] → W p l e RM_g_Rprogram s m [.ref (ad 0 0), .int (nI t)].toArray below meth c H locs 0 0 (YV D cI cZ ad below [.ref (ad 0 0), .int (nI t)] s g (fun (u : SG) => u = g_Rprogram g t)) (F0 m 9 ls []) := by
    intro n
    induction n with
    | zero =>
      intro bf dn gl hv0 hv1 hv2
      exfalso
      omega
    | succ n ih =>
      intro bf dn gl hv0 hv1 hv2 htg H locs Wd ls hl
      refine lv_iload_n hx hb d_TankArenaModel_program_9 rfl (lv_at hl 3 rfl) ?_
      refine lv_bipush (v := 10) hx hb d_TankArenaModel_program_10 (by decide) ?_
      refine lv_icmp_ge (tgt := 94) hx hb d_TankArenaModel_program_12 (by decide) (fun c_1 => ?_) (fun c_1 => ?_)
      · skip
        refine lv_aload_n hx hb d_TankArenaModel_program_94 rfl (lv_at hl 0 rfl) ?_
        refine kx_get (k := 0) (i := 0) (v := .ref (ad 19 0)) X Wd (iy 0 (by decide)) rfl fg_TankArenaModel_64 rfl d_TankArenaModel_program_95 ?_
        refine lv_iload_n hx hb d_TankArenaModel_program_98 rfl (lv_at hl 1 rfl) ?_
        refine lv_dup2_11 hx hb d_TankArenaModel_program_99 rfl rfl ?_
        refine kx_iald (k := 19) (i := 0) (j := t) (t0 := 0) X Wd (iy 19 (by decide)) rell19 rfl rfl ht (by decide) d_TankArenaModel_program_100 ?_
        refine lv_iconst (v := 1) hx hb d_TankArenaModel_program_101 (by decide) ?_
        refine lv_iadd hx hb d_TankArenaModel_program_102 ?_
        refine kx_iast (k := 19) (i := 0) (j := t) (t0 := 0) X Wd (iy 19 (by decide)) rell19 rfl rfl ht (by decide) d_TankArenaModel_program_103 (fun H locs Wd => ?_)
        refine lv_aload_n hx hb d_TankArenaModel_program_104 rfl (lv_at hl 0 rfl) ?_
        refine lv_iload_n hx hb d_TankArenaModel_program_105 rfl (lv_at hl 1 rfl) ?_
        refine kc_Vv (As := [.int (nI t)]) [] X Wd (k_g_RnoAsking l D cI cZ ad (up3 gl 19 0 t ((gl 19 0 t) + 1)) t ht (nI t) rfl N (by refine rokU ?_ rfl trivial; exact hv0)) cV_TankArenaModel_147 (kx_recv (k := 0) (i := 0) X Wd (iy 0 (by decide)) rfl rfl) rfl rfl hl.1 ⟨rfl, rfl⟩ ⟨Nat.le_of_ble_eq_true rfl, Nat.le_of_ble_eq_true rfl⟩ (Nat.le_of_ble_eq_true rfl) ⟨Nat.zero_le _, Nat.zero_le _⟩ d_TankArenaModel_program_106 (fun u H locs hp Wd => ?_)
        rw [hp] at Wd
        clear hp
        have Wd : WR D cI cZ ad _ s.heap (g_RnoAsking (up3 gl 19 0 t ((gl 19 0 t) + 1)) t) H locs := Wd
        refine lv_aload_n hx hb d_TankArenaModel_program_109 rfl (lv_at hl 0 rfl) ?_
        refine kx_get (k := 0) (i := 0) (v := .ref (ad 14 0)) X Wd (iy 0 (by decide)) rfl fg_TankArenaModel_49 rfl d_TankArenaModel_program_110 ?_
        refine lv_iload_n hx hb d_TankArenaModel_program_113 rfl (lv_at hl 1 rfl) ?_
        refine lv_iload_n hx hb d_TankArenaModel_program_114 rfl (lv_at hl 2 rfl) ?_
        refine kx_iast (k := 14) (i := 0) (j := t) (t0 := 0) X Wd (iy 14 (by decide)) rell14 rfl rfl ht (by decide) d_TankArenaModel_program_115 (fun H locs Wd => ?_)
        exact kx_vret (u := up3 (g_RnoAsking (up3 gl 19 0 t ((gl 19 0 t) + 1)) t) 14 0 t bf) X Wd (by rw [htg, L_Rprogram, if_pos c_1]) d_TankArenaModel_program_116
      · skip
        have hdn : dn < 10 := nlt_of (N := 10) rfl (by decide) (by omega) c_1
        refine lv_aload_n hx hb d_TankArenaModel_program_15 rfl (lv_at hl 0 rfl) ?_
        refine kx_get (k := 0) (i := 0) (v := .ref (ad 17 0)) X Wd (iy 0 (by decide)) rfl fg_TankArenaModel_58 rfl d_TankArenaModel_program_16 ?_
        refine lv_iload_n hx hb d_TankArenaModel_program_19 rfl (lv_at hl 1 rfl) ?_
        refine kx_iald (k := 17) (i := 0) (j := t) (t0 := 0) X Wd (iy 17 (by decide)) rell17 rfl rfl ht (by decide) d_TankArenaModel_program_20 ?_
        refine lv_aload_n hx hb d_TankArenaModel_program_21 rfl (lv_at hl 0 rfl) ?_
        refine kx_get (k := 0) (i := 0) (v := .ref (ad 4 0)) X Wd (iy 0 (by decide)) rfl fg_TankArenaModel_19 rfl d_TankArenaModel_program_22 ?_
        refine lv_iload_n hx hb d_TankArenaModel_program_25 rfl (lv_at hl 1 rfl) ?_
        refine kx_iald (k := 4) (i := 0) (j := t) (t0 := 0) X Wd (iy 4 (by decide)) rell4 rfl rfl ht (by decide) d_TankArenaModel_program_26 ?_
        refine lv_icmp_lt (tgt := 38) hx hb d_TankArenaModel_program_27 (by decide) (fun c_2 => ?_) (fun c_2 => ?_)
        · skip
          obtain ⟨es, hs⟩ := ctrR_j hv0 c_2
          have hc : rng (gl 17 0 t) 16 := ⟨(gl 17 0 t).toNatClampNeg, hs, es⟩
          have ea : 16 * nI t + gl 17 0 t = nI (16 * t + (gl 17 0 t).toNatClampNeg) := nI_lin 16 rfl es
          have ha : 16 * t + (gl 17 0 t).toNatClampNeg < 64 := by omega
          have hio := hv0.1.2 (16 * t + (gl 17 0 t).toNatClampNeg)
          refine lv_bipush (v := 16) hx hb d_TankArenaModel_program_38 (by decide) ?_
          refine lv_iload_n hx hb d_TankArenaModel_program_40 rfl (lv_at hl 1 rfl) ?_
          refine lv_imul hx hb d_TankArenaModel_program_41 ?_
          refine lv_aload_n hx hb d_TankArenaModel_program_42 rfl (lv_at hl 0 rfl) ?_
          refine kx_get (k := 0) (i := 0) (v := .ref (ad 17 0)) X Wd (iy 0 (by decide)) rfl fg_TankArenaModel_58 rfl d_TankArenaModel_program_43 ?_
          refine lv_iload_n hx hb d_TankArenaModel_program_46 rfl (lv_at hl 1 rfl) ?_
          refine kx_iald (k := 17) (i := 0) (j := t) (t0 := 0) X Wd (iy 17 (by decide)) rell17 rfl rfl ht (by decide) d_TankArenaModel_program_47 ?_
          refine lv_iadd hx hb d_TankArenaModel_program_48 ?_
          refine lv_istore (lv' := [(4, .int ((16 * (nI t)) + (gl 17 0 t))), (0, .ref (ad 0 0)), (1, .int (nI t)), (2, .int bf), (3, .int (nI dn))]) hx hb d_TankArenaModel_program_49 hl (by decide) rfl (fun ls hl => ?_)
          refine lv_aload_n hx hb d_TankArenaModel_program_51 rfl (lv_at hl 1 rfl) ?_
          refine lv_iload_n hx hb d_TankArenaModel_program_52 rfl (lv_at hl 2 rfl) ?_
          refine lv_aload_n hx hb d_TankArenaModel_program_53 rfl (lv_at hl 1 rfl) ?_
          refine kx_get (k := 0) (i := 0) (v := .ref (ad 5 0)) X Wd (iy 0 (by decide)) rfl fg_TankArenaModel_22 rfl d_TankArenaModel_program_54 ?_
          refine lv_iload hx hb d_TankArenaModel_program_57 (lv_at hl 0 rfl) ?_
          refine kx_iald (k := 5) (i := 0) (j := 16 * t + (gl 17 0 t).toNatClampNeg) (t0 := 0) X Wd (iy 5 (by decide)) rell5 rfl ea ha (by decide) d_TankArenaModel_program_59 ?_
          refine lv_aload_n hx hb d_TankArenaModel_program_60 rfl (lv_at hl 1 rfl) ?_
          refine kx_get (k := 0) (i := 0) (v := .ref (ad 6 0)) X Wd (iy 0 (by decide)) rfl fg_TankArenaModel_25 rfl d_TankArenaModel_program_61 ?_
          refine lv_iload hx hb d_TankArenaModel_program_64 (lv_at hl 0 rfl) ?_
          refine kx_iald (k := 6) (i := 0) (j := 16 * t + (gl 17 0 t).toNatClampNeg) (t0 := 0) X Wd (iy 6 (by decide)) rell6 rfl ea ha (by decide) d_TankArenaModel_program_66 ?_
          refine lv_aload_n hx hb d_TankArenaModel_program_67 rfl (lv_at hl 1 rfl) ?_
          refine kx_get (k := 0) (i := 0) (v := .ref (ad 7 0)) X Wd (iy 0 (by decide)) rfl fg_TankArenaModel_28 rfl d_TankArenaModel_program_68 ?_
          refine lv_iload hx hb d_TankArenaModel_program_71 (lv_at hl 0 rfl) ?_
          refine kx_iald (k := 7) (i := 0) (j := 16 * t + (gl 17 0 t).toNatClampNeg) (t0 := 0) X Wd (iy 7 (by decide)) rell7 rfl ea ha (by decide) d_TankArenaModel_program_73 ?_
          refine kc_Vv (As := [.int (nI t), .int (gl 5 0 (16 * t + (gl 17 0 t).toNatClampNeg)), .int (gl 6 0 (16 * t + (gl 17 0 t).toNatClampNeg)), .int (gl 7 0 (16 * t + (gl 17 0 t).toNatClampNeg))]) [] X Wd (k_g_Rperform l D cI cZ ad gl t ht (nI t) rfl (gl 5 0 (16 * t + (gl 17 0 t).toNatClampNeg)) (gl 6 0 (16 * t + (gl 17 0 t).toNatClampNeg)) (gl 7 0 (16 * t + (gl 17 0 t).toNatClampNeg)) N hv0 hio hc) cV_TankArenaModel_143 (kx_recv (k := 0) (i := 0) X Wd (iy 0 (by decide)) rfl rfl) rfl rfl hl.1 ⟨rfl, rfl⟩ ⟨Nat.le_of_ble_eq_true rfl, Nat.le_of_ble_eq_true rfl⟩ (Nat.le_of_ble_eq_true rfl) ⟨Nat.zero_le _, Nat.zero_le _⟩ d_TankArenaModel_program_74 (fun u H locs hp Wd => ?_)
          rw [hp] at Wd
          clear hp
          have Wd : WR D cI cZ ad _ s.heap (g_Rperform gl t (gl 5 0 (16 * t + (gl 17 0 t).toNatClampNeg)) (gl 6 0 (16 * t + (gl 17 0 t).toNatClampNeg)) (gl 7 0 (16 * t + (gl 17 0 t).toNatClampNeg))) H locs := Wd
          refine lv_iinc (v := nI (dn + 1)) (lv' := [(3, .int (nI (dn + 1))), (4, .int ((16 * (nI t)) + (gl 17 0 t))), (0, .ref (ad 0 0)), (1, .int (nI t)), (2, .int bf)]) hx hb d_TankArenaModel_program_77 hl (k := 4) rfl (nI_1 dn) (by decide) rfl (fun ls hl => ?_)
          refine lv_aload_n hx hb d_TankArenaModel_program_80 rfl (lv_at hl 2 rfl) ?_
          refine kx_get (k := 0) (i := 0) (v := .ref (ad 5 0)) X Wd (iy 0 (by decide)) rfl fg_TankArenaModel_22 rfl d_TankArenaModel_program_81 ?_
          refine lv_iload hx hb d_TankArenaModel_program_84 (lv_at hl 1 rfl) ?_
          refine kx_iald (k := 5) (i := 0) (j := 16 * t + (gl 17 0 t).toNatClampNeg) (t0 := 0) X Wd (iy 5 (by decide)) rell5 rfl ea ha (by decide) d_TankArenaModel_program_86 ?_
          refine lv_if_ne (tgt := 91) hx hb d_TankArenaModel_program_87 (by decide) (fun c_3 => ?_) (fun c_3 => ?_)
          · skip
            refine lv_goto (tgt := 9) hx hb d_TankArenaModel_program_91 (by decide) ?_
            exact ih bf (dn + 1) (g_Rperform gl t (gl 5 0 (16 * t + (gl 17 0 t).toNatClampNeg)) (gl 6 0 (16 * t + (gl 17 0 t).toNatClampNeg)) (gl 7 0 (16 * t + (gl 17 0 t).toNatClampNeg))) (by refine ok_g_Rperform ?_ t (gl 5 0 (16 * t + (gl 17 0 t).toNatClampNeg)) (gl 6 0 (16 * t + (gl 17 0 t).toNatClampNeg)) (gl 7 0 (16 * t + (gl 17 0 t).toNatClampNeg)) hio hc ht; exact hv0) (by omega) (by omega) (by rw [htg, L_Rprogram, if_neg c_1, if_pos c_2, if_neg c_3]) _ _ Wd _ (lv_sub hl [2, 3, 4, 0] rfl)
          · skip
            exact kx_vret (u := g_Rperform gl t (gl 5 0 (16 * t + (gl 17 0 t).toNatClampNeg)) (gl 6 0 (16 * t + (gl 17 0 t).toNatClampNeg)) (gl 7 0 (16 * t + (gl 17 0 t).toNatClampNeg))) X Wd (by rw [htg, L_Rprogram, if_neg c_1, if_pos c_2, if_pos c_3]) d_TankArenaModel_program_90
        · skip
          refine lv_aload_n hx hb d_TankArenaModel_program_30 rfl (lv_at hl 0 rfl) ?_
          refine kx_get (k := 0) (i := 0) (v := .ref (ad 17 0)) X Wd (iy 0 (by decide)) rfl fg_TankArenaModel_58 rfl d_TankArenaModel_program_31 ?_
          refine lv_iload_n hx hb d_TankArenaModel_program_34 rfl (lv_at hl 1 rfl) ?_
          refine lv_iconst (v := 0) hx hb d_TankArenaModel_program_35 (by decide) ?_
          refine kx_iast (k := 17) (i := 0) (j := t) (t0 := 0) X Wd (iy 17 (by decide)) rell17 rfl rfl ht (by decide) d_TankArenaModel_program_36 (fun H locs Wd => ?_)
          exact kx_vret (u := up3 gl 17 0 t 0) X Wd (by rw [htg, L_Rprogram, if_neg c_1, if_neg c_2]) d_TankArenaModel_program_37
  exact loop 11 (g 14 0 t) 0 g ok (by decide) (by decide) (by rw [g_Rprogram]) _ _ Wd _ (lv_sub hl [2, 3, 1, 0] rfl)
abbrev RM_g_Rfire : Room := { frames := 0, cells := 0, slots := 0, locals := 0 }
set_option maxHeartbeats 1000000 in
set_option maxRecDepth 100000 in
theorem k_g_Rfire (l : Launch) (D : va_G) (cI cZ : ClassId) (ad : Nat → Nat → Nat) (g : SG) (t : Nat) (ht : t < 4) (vt : Int32) (et : vt = nI t) (N : Nat) (ok : RokN N g) (hf : rng (g 0 0 4) 600) : RV l y_TankArenaModel_fire b_TankArenaModel_fire 3 none RM_g_Rfire D cI cZ ad [.ref (ad 0 0), .int vt] g (fun (u : SG) => u = g_Rfire g t) := by
  subst et
  refine met_of (cc := b_TankArenaModel_fire) (nL := 3) (ret := none) (by decide) rfl (Nat.le_of_ble_eq_true rfl) ?_
  intro p e s m below meth c X hnm Wd ls hl
  have X := X.tt
  have hx := X.1
  have hb := X.2.1
  have hown := X.2.2.2.1
  have hts := X.2.2.2.2.1
  have hl : lv_has ls 3 [(0, .ref (ad 0 0)), (1, .int (nI t))] := hl
  have Wd : WR D cI cZ ad (va_A (gR cI cZ ad g) s.heap.size) s.heap g s.heap [] := Wd
  obtain ⟨es, hs⟩ := rng_j hf (by decide)
  refine lv_aload_n hx hb d_TankArenaModel_fire_0 rfl (lv_at hl 0 rfl) ?_
  refine kx_get (k := 0) (i := 0) (v := .ref (ad 27 0)) X Wd (iy 0 (by decide)) rfl fg_TankArenaModel_89 rfl d_TankArenaModel_fire_1 ?_
  refine lv_iload_n hx hb d_TankArenaModel_fire_4 rfl (lv_at hl 1 rfl) ?_
  refine kx_iald (k := 27) (i := 0) (j := t) (t0 := 0) X Wd (iy 27 (by decide)) rell27 rfl rfl ht (by decide) d_TankArenaModel_fire_5 ?_
  refine lv_istore_n (lv' := [(2, .int (g 27 0 t)), (0, .ref (ad 0 0)), (1, .int (nI t))]) hx hb d_TankArenaModel_fire_6 rfl hl (by decide) rfl (fun ls hl => ?_)
  refine lv_iload_n hx hb d_TankArenaModel_fire_7 rfl (lv_at hl 0 rfl) ?_
  refine lv_if_eq (tgt := 33) hx hb d_TankArenaModel_fire_8 (by decide) (fun c_1 => ?_) (fun c_1 => ?_)
  · skip
    exact kx_vret (u := g) X Wd (by rw [g_Rfire, if_pos c_1]) d_TankArenaModel_fire_33
  · skip
    refine lv_aload_n hx hb d_TankArenaModel_fire_11 rfl (lv_at hl 1 rfl) ?_
    refine kx_get (k := 0) (i := 0) (v := .ref (ad 16 0)) X Wd (iy 0 (by decide)) rfl fg_TankArenaModel_55 rfl d_TankArenaModel_fire_12 ?_
    refine lv_iload_n hx hb d_TankArenaModel_fire_15 rfl (lv_at hl 2 rfl) ?_
    refine kx_iald (k := 16) (i := 0) (j := t) (t0 := 0) X Wd (iy 16 (by decide)) rell16 rfl rfl ht (by decide) d_TankArenaModel_fire_16 ?_
    refine lv_if_gt (tgt := 33) hx hb d_TankArenaModel_fire_17 (by decide) (fun c_2 => ?_) (fun c_2 => ?_)
    · skip
      exact kx_vret (u := g) X Wd (by rw [g_Rfire, if_neg c_1, if_pos c_2]) d_TankArenaModel_fire_33
    · skip
      refine lv_aload_n hx hb d_TankArenaModel_fire_20 rfl (lv_at hl 1 rfl) ?_
      refine kx_get (k := 0) (i := 0) (v := .ref (ad 15 0)) X Wd (iy 0 (by decide)) rfl fg_TankArenaModel_52 rfl d_TankArenaModel_fire_21 ?_
      refine lv_iload_n hx hb d_TankArenaModel_fire_24 rfl (lv_at hl 2 rfl) ?_
      refine kx_iald (k := 15) (i := 0) (j := t) (t0 := 0) X Wd (iy 15 (by decide)) rell15 rfl rfl ht (by decide) d_TankArenaModel_fire_25 ?_
      refine lv_bipush (v := 8) hx hb d_TankArenaModel_fire_26 (by decide) ?_
      refine lv_iload_n hx hb d_TankArenaModel_fire_28 rfl (lv_at hl 0 rfl) ?_
      refine lv_imul hx hb d_TankArenaModel_fire_29 ?_
      refine lv_icmp_gt (tgt := 34) hx hb d_TankArenaModel_fire_30 (by decide) (fun c_3 => ?_) (fun c_3 => ?_)
      · skip
        refine lv_aload_n hx hb d_TankArenaModel_fire_34 rfl (lv_at hl 1 rfl) ?_
        refine kx_get (k := 0) (i := 0) (v := .ref (ad 15 0)) X Wd (iy 0 (by decide)) rfl fg_TankArenaModel_52 rfl d_TankArenaModel_fire_35 ?_
        refine lv_iload_n hx hb d_TankArenaModel_fire_38 rfl (lv_at hl 2 rfl) ?_
        refine lv_dup2_11 hx hb d_TankArenaModel_fire_39 rfl rfl ?_
        refine kx_iald (k := 15) (i := 0) (j := t) (t0 := 0) X Wd (iy 15 (by decide)) rell15 rfl rfl ht (by decide) d_TankArenaModel_fire_40 ?_
        refine lv_bipush (v := 8) hx hb d_TankArenaModel_fire_41 (by decide) ?_
        refine lv_iload_n hx hb d_TankArenaModel_fire_43 rfl (lv_at hl 0 rfl) ?_
        refine lv_imul hx hb d_TankArenaModel_fire_44 ?_
        refine lv_isub hx hb d_TankArenaModel_fire_45 ?_
        refine kx_iast (k := 15) (i := 0) (j := t) (t0 := 0) X Wd (iy 15 (by decide)) rell15 rfl rfl ht (by decide) d_TankArenaModel_fire_46 (fun H locs Wd => ?_)
        refine lv_aload_n hx hb d_TankArenaModel_fire_47 rfl (lv_at hl 1 rfl) ?_
        refine kx_get (k := 0) (i := 0) (v := .ref (ad 16 0)) X Wd (iy 0 (by decide)) rfl fg_TankArenaModel_55 rfl d_TankArenaModel_fire_48 ?_
        refine lv_iload_n hx hb d_TankArenaModel_fire_51 rfl (lv_at hl 2 rfl) ?_
        refine lv_bipush (v := 8) hx hb d_TankArenaModel_fire_52 (by decide) ?_
        refine lv_iconst (v := 2) hx hb d_TankArenaModel_fire_54 (by decide) ?_
        refine lv_iload_n hx hb d_TankArenaModel_fire_55 rfl (lv_at hl 0 rfl) ?_
        refine lv_imul hx hb d_TankArenaModel_fire_56 ?_
        refine lv_iadd hx hb d_TankArenaModel_fire_57 ?_
        refine kx_iast (k := 16) (i := 0) (j := t) (t0 := 0) X Wd (iy 16 (by decide)) rell16 rfl rfl ht (by decide) d_TankArenaModel_fire_58 (fun H locs Wd => ?_)
        refine lv_aload_n hx hb d_TankArenaModel_fire_59 rfl (lv_at hl 1 rfl) ?_
        refine kx_get (k := 0) (i := 0) (v := .ref (ad 28 0)) X Wd (iy 0 (by decide)) rfl fg_TankArenaModel_92 rfl d_TankArenaModel_fire_60 ?_
        refine lv_aload_n hx hb d_TankArenaModel_fire_63 rfl (lv_at hl 1 rfl) ?_
        refine kx_geto (k := 0) (i := 0) 4 (g 0 0 4) X Wd (iy 0 (by decide)) rell0 fg_TankArenaModel_150 (fun _ => rfl) (by simp [up3]) d_TankArenaModel_fire_64 ?_
        refine lv_aload_n hx hb d_TankArenaModel_fire_67 rfl (lv_at hl 1 rfl) ?_
        refine kx_get (k := 0) (i := 0) (v := .ref (ad 8 0)) X Wd (iy 0 (by decide)) rfl fg_TankArenaModel_31 rfl d_TankArenaModel_fire_68 ?_
        refine lv_iload_n hx hb d_TankArenaModel_fire_71 rfl (lv_at hl 2 rfl) ?_
        refine kx_iald2 (k := 8) (i := 0) (j := t) (t0 := 0) (g 8 0 t) X Wd (iy 8 (by decide)) rell8 rfl rfl ht (by decide) (by simp [up3]) d_TankArenaModel_fire_72 ?_
        refine kx_iast (k := 28) (i := 0) (j := (g 0 0 4).toNatClampNeg) (t0 := 0) X Wd (iy 28 (by decide)) rell28 rfl es hs (by decide) d_TankArenaModel_fire_73 (fun H locs Wd => ?_)
        refine lv_aload_n hx hb d_TankArenaModel_fire_74 rfl (lv_at hl 1 rfl) ?_
        refine kx_get (k := 0) (i := 0) (v := .ref (ad 29 0)) X Wd (iy 0 (by decide)) rfl fg_TankArenaModel_95 rfl d_TankArenaModel_fire_75 ?_
        refine lv_aload_n hx hb d_TankArenaModel_fire_78 rfl (lv_at hl 1 rfl) ?_
        refine kx_geto (k := 0) (i := 0) 4 (g 0 0 4) X Wd (iy 0 (by decide)) rell0 fg_TankArenaModel_150 (fun _ => rfl) (by simp [up3]) d_TankArenaModel_fire_79 ?_
        refine lv_aload_n hx hb d_TankArenaModel_fire_82 rfl (lv_at hl 1 rfl) ?_
        refine kx_get (k := 0) (i := 0) (v := .ref (ad 9 0)) X Wd (iy 0 (by decide)) rfl fg_TankArenaModel_34 rfl d_TankArenaModel_fire_83 ?_
        refine lv_iload_n hx hb d_TankArenaModel_fire_86 rfl (lv_at hl 2 rfl) ?_
        refine kx_iald2 (k := 9) (i := 0) (j := t) (t0 := 0) (g 9 0 t) X Wd (iy 9 (by decide)) rell9 rfl rfl ht (by decide) (by simp [up3]) d_TankArenaModel_fire_87 ?_
        refine kx_iast (k := 29) (i := 0) (j := (g 0 0 4).toNatClampNeg) (t0 := 0) X Wd (iy 29 (by decide)) rell29 rfl es hs (by decide) d_TankArenaModel_fire_88 (fun H locs Wd => ?_)
        refine lv_aload_n hx hb d_TankArenaModel_fire_89 rfl (lv_at hl 1 rfl) ?_
        refine kx_get (k := 0) (i := 0) (v := .ref (ad 30 0)) X Wd (iy 0 (by decide)) rfl fg_TankArenaModel_98 rfl d_TankArenaModel_fire_90 ?_
        refine lv_aload_n hx hb d_TankArenaModel_fire_93 rfl (lv_at hl 1 rfl) ?_
        refine kx_geto (k := 0) (i := 0) 4 (g 0 0 4) X Wd (iy 0 (by decide)) rell0 fg_TankArenaModel_150 (fun _ => rfl) (by simp [up3]) d_TankArenaModel_fire_94 ?_
        refine lv_iload_n hx hb d_TankArenaModel_fire_97 rfl (lv_at hl 0 rfl) ?_
        refine kx_iast (k := 30) (i := 0) (j := (g 0 0 4).toNatClampNeg) (t0 := 0) X Wd (iy 30 (by decide)) rell30 rfl es hs (by decide) d_TankArenaModel_fire_98 (fun H locs Wd => ?_)
        refine lv_aload_n hx hb d_TankArenaModel_fire_99 rfl (lv_at hl 1 rfl) ?_
        refine kx_get (k := 0) (i := 0) (v := .ref (ad 31 0)) X Wd (iy 0 (by decide)) rfl fg_TankArenaModel_101 rfl d_TankArenaModel_fire_100 ?_
        refine lv_aload_n hx hb d_TankArenaModel_fire_103 rfl (lv_at hl 1 rfl) ?_
        refine kx_geto (k := 0) (i := 0) 4 (g 0 0 4) X Wd (iy 0 (by decide)) rell0 fg_TankArenaModel_150 (fun _ => rfl) (by simp [up3]) d_TankArenaModel_fire_104 ?_
        refine lv_aload_n hx hb d_TankArenaModel_fire_107 rfl (lv_at hl 1 rfl) ?_
        refine kx_get (k := 0) (i := 0) (v := .ref (ad 11 0)) X Wd (iy 0 (by decide)) rfl fg_TankArenaModel_40 rfl d_TankArenaModel_fire_108 ?_
        refine lv_iload_n hx hb d_TankArenaModel_fire_111 rfl (lv_at hl 2 rfl) ?_
        refine kx_iald2 (k := 11) (i := 0) (j := t) (t0 := 0) (g 11 0 t) X Wd (iy 11 (by decide)) rell11 rfl rfl ht (by decide) (by simp [up3]) d_TankArenaModel_fire_112 ?_
        refine kx_iast (k := 31) (i := 0) (j := (g 0 0 4).toNatClampNeg) (t0 := 0) X Wd (iy 31 (by decide)) rell31 rfl es hs (by decide) d_TankArenaModel_fire_113 (fun H locs Wd => ?_)
        refine lv_aload_n hx hb d_TankArenaModel_fire_114 rfl (lv_at hl 1 rfl) ?_
        refine kx_get (k := 0) (i := 0) (v := .ref (ad 32 0)) X Wd (iy 0 (by decide)) rfl fg_TankArenaModel_104 rfl d_TankArenaModel_fire_115 ?_
        refine lv_aload_n hx hb d_TankArenaModel_fire_118 rfl (lv_at hl 1 rfl) ?_
        refine kx_geto (k := 0) (i := 0) 4 (g 0 0 4) X Wd (iy 0 (by decide)) rell0 fg_TankArenaModel_150 (fun _ => rfl) (by simp [up3]) d_TankArenaModel_fire_119 ?_
        refine lv_iload_n hx hb d_TankArenaModel_fire_122 rfl (lv_at hl 2 rfl) ?_
        refine kx_iast (k := 32) (i := 0) (j := (g 0 0 4).toNatClampNeg) (t0 := 0) X Wd (iy 32 (by decide)) rell32 rfl es hs (by decide) d_TankArenaModel_fire_123 (fun H locs Wd => ?_)
        refine lv_aload_n hx hb d_TankArenaModel_fire_124 rfl (lv_at hl 1 rfl) ?_
        refine kx_get (k := 0) (i := 0) (v := .ref (ad 33 0)) X Wd (iy 0 (by decide)) rfl fg_TankArenaModel_107 rfl d_TankArenaModel_fire_125 ?_
        refine lv_aload_n hx hb d_TankArenaModel_fire_128 rfl (lv_at hl 1 rfl) ?_
        refine kx_geto (k := 0) (i := 0) 4 (g 0 0 4) X Wd (iy 0 (by decide)) rell0 fg_TankArenaModel_150 (fun _ => rfl) (by simp [up3]) d_TankArenaModel_fire_129 ?_
        refine lv_iconst (v := 0) hx hb d_TankArenaModel_fire_132 (by decide) ?_
        refine kx_zast (k := 33) (i := 0) (j := (g 0 0 4).toNatClampNeg) (t0 := 1) X Wd (iy 33 (by decide)) rell33 rfl es hs (by decide) rfl d_TankArenaModel_fire_133 (fun H locs Wd => ?_)
        refine lv_aload_n hx hb d_TankArenaModel_fire_134 rfl (lv_at hl 1 rfl) ?_
        refine lv_dup hx hb d_TankArenaModel_fire_135 rfl ?_
        refine kx_geto (k := 0) (i := 0) 4 (g 0 0 4) X Wd (iy 0 (by decide)) rell0 fg_TankArenaModel_150 (fun _ => rfl) (by simp [up3]) d_TankArenaModel_fire_136 ?_
        refine lv_iconst (v := 1) hx hb d_TankArenaModel_fire_139 (by decide) ?_
        refine lv_iadd hx hb d_TankArenaModel_fire_140 ?_
        refine kx_puto (k := 0) (i := 0) (v := (g 0 0 4) + 1) 4 X Wd (iy 0 (by decide)) rell0 fp_TankArenaModel_150 (fun _ => rfl) (fun _ => Nat.le_of_ble_eq_true rfl) rfl rfl d_TankArenaModel_fire_141 (fun H locs Wd => ?_)
        refine lv_aload_n hx hb d_TankArenaModel_fire_144 rfl (lv_at hl 1 rfl) ?_
        refine lv_dup hx hb d_TankArenaModel_fire_145 rfl ?_
        refine kx_geto (k := 0) (i := 0) 2 (g 0 0 2) X Wd (iy 0 (by decide)) rell0 fg_TankArenaModel_153 (fun _ => rfl) (by simp [up3]) d_TankArenaModel_fire_146 ?_
        refine lv_iconst (v := 1) hx hb d_TankArenaModel_fire_149 (by decide) ?_
        refine lv_iadd hx hb d_TankArenaModel_fire_150 ?_
        refine kx_puto (k := 0) (i := 0) (v := (g 0 0 2) + 1) 2 X Wd (iy 0 (by decide)) rell0 fp_TankArenaModel_153 (fun _ => rfl) (fun _ => Nat.le_of_ble_eq_true rfl) rfl rfl d_TankArenaModel_fire_151 (fun H locs Wd => ?_)
        exact kx_vret (u := up3 (up3 (up3 (up3 (up3 (up3 (up3 (up3 (up3 (up3 g 15 0 t ((g 15 0 t) - (8 * (g 27 0 t)))) 16 0 t (8 + (2 * (g 27 0 t)))) 28 0 ((g 0 0 4).toNatClampNeg) (g 8 0 t)) 29 0 ((g 0 0 4).toNatClampNeg) (g 9 0 t)) 30 0 ((g 0 0 4).toNatClampNeg) (g 27 0 t)) 31 0 ((g 0 0 4).toNatClampNeg) (g 11 0 t)) 32 0 ((g 0 0 4).toNatClampNeg) (nI t)) 33 0 ((g 0 0 4).toNatClampNeg) 0) 0 0 4 ((g 0 0 4) + 1)) 0 0 2 ((g 0 0 2) + 1)) X Wd (by rw [g_Rfire, if_neg c_1, if_neg c_2, if_pos c_3]) d_TankArenaModel_fire_154
      · skip
        exact kx_vret (u := g) X Wd (by rw [g_Rfire, if_neg c_1, if_neg c_2, if_neg c_3]) d_TankArenaModel_fire_33
abbrev RM_g_Rcheck : Room := { frames := 0, cells := 0, slots := 0, locals := 0 }
set_option maxHeartbeats 1000000 in
set_option maxRecDepth 100000 in
theorem k_g_Rcheck (l : Launch) (D : va_G) (cI cZ : ClassId) (ad : Nat → Nat → Nat) (g : SG) (t : Nat) (ht : t < 4) (vt : Int32) (et : vt = nI t) (N : Nat) (ok : RokN N g) : RV l y_TankArenaModel_check b_TankArenaModel_check 3 none RM_g_Rcheck D cI cZ ad [.ref (ad 0 0), .int vt] g (fun (u : SG) => u = g_Rcheck g t) := by
  subst et
  refine met_of (cc := b_TankArenaModel_check) (nL := 3) (ret := none) (by decide) rfl (Nat.le_of_ble_eq_true rfl) ?_
  intro p e s m below meth c X hnm Wd ls hl
  have X := X.tt
  have hx := X.1
  have hb := X.2.1
  have hown := X.2.2.2.1
  have hts := X.2.2.2.2.1
  have hl : lv_has ls 3 [(0, .ref (ad 0 0)), (1, .int (nI t))] := hl
  have Wd : WR D cI cZ ad (va_A (gR cI cZ ad g) s.heap.size) s.heap g s.heap [] := Wd
  obtain ⟨hN4, eN⟩ := ok.N
  refine lv_aload_n hx hb d_TankArenaModel_check_0 rfl (lv_at hl 0 rfl) ?_
  refine kx_get (k := 0) (i := 0) (v := .ref (ad 21 0)) X Wd (iy 0 (by decide)) rfl fg_TankArenaModel_70 rfl d_TankArenaModel_check_1 ?_
  refine lv_iload_n hx hb d_TankArenaModel_check_4 rfl (lv_at hl 1 rfl) ?_
  refine kx_zald2 (k := 21) (i := 0) (j := t) (t0 := 1) (g 21 0 t) X Wd (iy 21 (by decide)) rell21 rfl rfl ht (by decide) rfl d_TankArenaModel_check_5 ?_
  refine lv_if_eq (tgt := 18) hx hb d_TankArenaModel_check_6 (by decide) (fun c_1 => ?_) (fun c_1 => ?_)
  · skip
    exact kx_vret (u := g) X Wd (by rw [g_Rcheck, if_pos c_1]) d_TankArenaModel_check_18
  · skip
    refine lv_aload_n hx hb d_TankArenaModel_check_9 rfl (lv_at hl 0 rfl) ?_
    refine kx_get (k := 0) (i := 0) (v := .ref (ad 15 0)) X Wd (iy 0 (by decide)) rfl fg_TankArenaModel_52 rfl d_TankArenaModel_check_10 ?_
    refine lv_iload_n hx hb d_TankArenaModel_check_13 rfl (lv_at hl 1 rfl) ?_
    refine kx_iald (k := 15) (i := 0) (j := t) (t0 := 0) X Wd (iy 15 (by decide)) rell15 rfl rfl ht (by decide) d_TankArenaModel_check_14 ?_
    refine lv_if_le (tgt := 19) hx hb d_TankArenaModel_check_15 (by decide) (fun c_2 => ?_) (fun c_2 => ?_)
    · skip
      refine lv_aload_n hx hb d_TankArenaModel_check_19 rfl (lv_at hl 0 rfl) ?_
      refine kx_get (k := 0) (i := 0) (v := .ref (ad 21 0)) X Wd (iy 0 (by decide)) rfl fg_TankArenaModel_70 rfl d_TankArenaModel_check_20 ?_
      refine lv_iload_n hx hb d_TankArenaModel_check_23 rfl (lv_at hl 1 rfl) ?_
      refine lv_iconst (v := 0) hx hb d_TankArenaModel_check_24 (by decide) ?_
      refine kx_zast (k := 21) (i := 0) (j := t) (t0 := 1) X Wd (iy 21 (by decide)) rell21 rfl rfl ht (by decide) rfl d_TankArenaModel_check_25 (fun H locs Wd => ?_)
      refine lv_iconst (v := 0) hx hb d_TankArenaModel_check_26 (by decide) ?_
      refine lv_istore_n (lv' := [(2, .int 0), (0, .ref (ad 0 0)), (1, .int (nI t))]) hx hb d_TankArenaModel_check_27 rfl hl (by decide) rfl (fun ls hl => ?_)
      have loop : ∀ (n : Nat) (i : Nat) (gl : SG), RokN N gl → i ≤ N → N + 1 ≤ i + n → g_Rcheck g t = L_Rcheck n i gl → ∀ (H : Heap) (locs : List Loc), WR D cI cZ ad (va_A (gR cI cZ ad g) s.heap.size) s.heap gl H locs → ∀ ls : Array Slot, lv_has ls 3 [(0, .ref (ad 0 0)), (2, .int (nI i))] → W p l e RM_g_Rcheck s m [.ref (ad 0 0), .int (nI t)].toArray below meth c H locs 0 0 (YV D cI cZ ad below [.ref (ad 0 0), .int (nI t)] s g (fun (u : SG) => u = g_Rcheck g t)) (F0 m 28 ls []) := by
        intro n
        induction n with
        | zero =>
          intro i gl hv0 hv1 hv2
          exfalso
          omega
        | succ n ih =>
          intro i gl hv0 hv1 hv2 htg H locs Wd ls hl
          obtain ⟨hN4, eN⟩ := hv0.N
          refine lv_iload_n hx hb d_TankArenaModel_check_28 rfl (lv_at hl 1 rfl) ?_
          refine lv_aload_n hx hb d_TankArenaModel_check_29 rfl (lv_at hl 0 rfl) ?_
          refine kx_geto (k := 0) (i := 0) 0 (gl 0 0 0) X Wd (iy 0 (by decide)) rell0 fg_TankArenaModel_122 (fun _ => rfl) rfl d_TankArenaModel_check_30 ?_
          refine lv_icmp_ge (tgt := 63) hx hb d_TankArenaModel_check_33 (by decide) (fun c_3 => ?_) (fun c_3 => ?_)
          · skip
            exact kx_vret (u := gl) X Wd (by rw [htg, L_Rcheck, if_pos c_3]) d_TankArenaModel_check_63
          · skip
            have hiN : i < N := nlt_of eN (by omega) (by omega) c_3
            have hi : i < 4 := by omega
            refine lv_aload_n hx hb d_TankArenaModel_check_36 rfl (lv_at hl 0 rfl) ?_
            refine kx_get (k := 0) (i := 0) (v := .ref (ad 21 0)) X Wd (iy 0 (by decide)) rfl fg_TankArenaModel_70 rfl d_TankArenaModel_check_37 ?_
            refine lv_iload_n hx hb d_TankArenaModel_check_40 rfl (lv_at hl 1 rfl) ?_
            refine kx_zald2 (k := 21) (i := 0) (j := i) (t0 := 1) (gl 21 0 i) X Wd (iy 21 (by decide)) rell21 rfl rfl (by omega) (by decide) rfl d_TankArenaModel_check_41 ?_
            refine lv_if_eq (tgt := 57) hx hb d_TankArenaModel_check_42 (by decide) (fun c_4 => ?_) (fun c_4 => ?_)
            · skip
              refine lv_iinc (v := nI (i + 1)) (lv' := [(2, .int (nI (i + 1))), (0, .ref (ad 0 0))]) hx hb d_TankArenaModel_check_57 hl (k := 1) rfl (nI_1 i) (by decide) rfl (fun ls hl => ?_)
              refine lv_goto (tgt := 28) hx hb d_TankArenaModel_check_60 (by decide) ?_
              exact ih (i + 1) gl hv0 (by omega) (by omega) (by rw [htg, L_Rcheck, if_neg c_3, if_pos c_4]) _ _ Wd _ (lv_sub hl [1, 0] rfl)
            · skip
              refine lv_aload_n hx hb d_TankArenaModel_check_45 rfl (lv_at hl 0 rfl) ?_
              refine kx_get (k := 0) (i := 0) (v := .ref (ad 20 0)) X Wd (iy 0 (by decide)) rfl fg_TankArenaModel_67 rfl d_TankArenaModel_check_46 ?_
              refine lv_iload_n hx hb d_TankArenaModel_check_49 rfl (lv_at hl 1 rfl) ?_
              refine lv_dup2_11 hx hb d_TankArenaModel_check_50 rfl rfl ?_
              refine kx_iald (k := 20) (i := 0) (j := i) (t0 := 0) X Wd (iy 20 (by decide)) rell20 rfl rfl (by omega) (by decide) d_TankArenaModel_check_51 ?_
              refine lv_sipush (v := 400) hx hb d_TankArenaModel_check_52 (by decide) ?_
              refine lv_iadd hx hb d_TankArenaModel_check_55 ?_
              refine kx_iast (k := 20) (i := 0) (j := i) (t0 := 0) X Wd (iy 20 (by decide)) rell20 rfl rfl (by omega) (by decide) d_TankArenaModel_check_56 (fun H locs Wd => ?_)
              refine lv_iinc (v := nI (i + 1)) (lv' := [(2, .int (nI (i + 1))), (0, .ref (ad 0 0))]) hx hb d_TankArenaModel_check_57 hl (k := 1) rfl (nI_1 i) (by decide) rfl (fun ls hl => ?_)
              refine lv_goto (tgt := 28) hx hb d_TankArenaModel_check_60 (by decide) ?_
              exact ih (i + 1) (up3 gl 20 0 i ((gl 20 0 i) + 400)) (by refine rokU ?_ rfl trivial; exact hv0) (by omega) (by omega) (by rw [htg, L_Rcheck, if_neg c_3, if_neg c_4]) _ _ Wd _ (lv_sub hl [1, 0] rfl)
      exact loop 5 0 (up3 g 21 0 t 0) (by refine rokU ?_ rfl (Or.inl rfl); exact ok) (by omega) (by omega) (by rw [g_Rcheck, if_neg c_1, if_pos c_2]) _ _ Wd _ (lv_sub hl [1, 0] rfl)
    · skip
      exact kx_vret (u := g) X Wd (by rw [g_Rcheck, if_neg c_1, if_neg c_2]) d_TankArenaModel_check_18
abbrev RM_g_Rstrike : Room := { frames := 1, cells := 0, slots := 0, locals := 22 }
set_option maxHeartbeats 1000000 in
set_option maxRecDepth 100000 in
theorem k_g_Rstrike (l : Launch) (D : va_G) (cI cZ : ClassId) (ad : Nat → Nat → Nat) (g : SG) (bi : Nat) (hbi : bi < 600) (vbi : Int32) (ebi : vbi = nI bi) (t : Nat) (ht : t < 4) (vt : Int32) (et : vt = nI t) (N : Nat) (ok : RokN N g) : RV l y_TankArenaModel_strike b_TankArenaModel_strike 6 none RM_g_Rstrike D cI cZ ad [.ref (ad 0 0), .int vbi, .int vt] g (fun (u : SG) => u = g_Rstrike g bi t) := by
  subst ebi
  subst et
  refine met_of (cc := b_TankArenaModel_strike) (nL := 6) (ret := none) (by decide) rfl (Nat.le_of_ble_eq_true rfl) ?_
  intro p e s m below meth c X hnm Wd ls hl
  have X := X.tt
  have hx := X.1
  have hb := X.2.1
  have hown := X.2.2.2.1
  have hts := X.2.2.2.2.1
  have hl : lv_has ls 6 [(0, .ref (ad 0 0)), (1, .int (nI bi)), (2, .int (nI t))] := hl
  have Wd : WR D cI cZ ad (va_A (gR cI cZ ad g) s.heap.size) s.heap g s.heap [] := Wd
  obtain ⟨es, hs⟩ := rng_j (ok.1.1 32 0 bi) (by decide)
  refine lv_aload_n hx hb d_TankArenaModel_strike_0 rfl (lv_at hl 0 rfl) ?_
  refine kx_get (k := 0) (i := 0) (v := .ref (ad 30 0)) X Wd (iy 0 (by decide)) rfl fg_TankArenaModel_98 rfl d_TankArenaModel_strike_1 ?_
  refine lv_iload_n hx hb d_TankArenaModel_strike_4 rfl (lv_at hl 1 rfl) ?_
  refine kx_iald (k := 30) (i := 0) (j := bi) (t0 := 0) X Wd (iy 30 (by decide)) rell30 rfl rfl hbi (by decide) d_TankArenaModel_strike_5 ?_
  refine lv_istore_n (lv' := [(3, .int (g 30 0 bi)), (0, .ref (ad 0 0)), (1, .int (nI bi)), (2, .int (nI t))]) hx hb d_TankArenaModel_strike_6 rfl hl (by decide) rfl (fun ls hl => ?_)
  refine lv_aload_n hx hb d_TankArenaModel_strike_7 rfl (lv_at hl 1 rfl) ?_
  refine kx_get (k := 0) (i := 0) (v := .ref (ad 32 0)) X Wd (iy 0 (by decide)) rfl fg_TankArenaModel_104 rfl d_TankArenaModel_strike_8 ?_
  refine lv_iload_n hx hb d_TankArenaModel_strike_11 rfl (lv_at hl 2 rfl) ?_
  refine kx_iald (k := 32) (i := 0) (j := bi) (t0 := 0) X Wd (iy 32 (by decide)) rell32 rfl rfl hbi (by decide) d_TankArenaModel_strike_12 ?_
  refine lv_istore (lv' := [(4, .int (g 32 0 bi)), (3, .int (g 30 0 bi)), (0, .ref (ad 0 0)), (1, .int (nI bi)), (2, .int (nI t))]) hx hb d_TankArenaModel_strike_13 hl (by decide) rfl (fun ls hl => ?_)
  refine lv_bipush (v := 32) hx hb d_TankArenaModel_strike_15 (by decide) ?_
  refine lv_iload_n hx hb d_TankArenaModel_strike_17 rfl (lv_at hl 1 rfl) ?_
  refine lv_imul hx hb d_TankArenaModel_strike_18 ?_
  refine lv_bipush (v := 16) hx hb d_TankArenaModel_strike_19 (by decide) ?_
  refine lv_iload_n hx hb d_TankArenaModel_strike_21 rfl (lv_at hl 1 rfl) ?_
  refine lv_iconst (v := 1) hx hb d_TankArenaModel_strike_22 (by decide) ?_
  refine lv_isub hx hb d_TankArenaModel_strike_23 ?_
  refine lv_imul hx hb d_TankArenaModel_strike_24 ?_
  refine lv_iadd hx hb d_TankArenaModel_strike_25 ?_
  refine lv_istore (lv' := [(5, .int ((32 * (g 30 0 bi)) + (16 * ((g 30 0 bi) - 1)))), (4, .int (g 32 0 bi)), (3, .int (g 30 0 bi)), (0, .ref (ad 0 0)), (1, .int (nI bi)), (2, .int (nI t))]) hx hb d_TankArenaModel_strike_26 hl (by decide) rfl (fun ls hl => ?_)
  refine lv_aload_n hx hb d_TankArenaModel_strike_28 rfl (lv_at hl 3 rfl) ?_
  refine lv_dup hx hb d_TankArenaModel_strike_29 rfl ?_
  refine kx_geto (k := 0) (i := 0) 3 (g 0 0 3) X Wd (iy 0 (by decide)) rell0 fg_TankArenaModel_156 (fun _ => rfl) rfl d_TankArenaModel_strike_30 ?_
  refine lv_iconst (v := 1) hx hb d_TankArenaModel_strike_33 (by decide) ?_
  refine lv_iadd hx hb d_TankArenaModel_strike_34 ?_
  refine kx_puto (k := 0) (i := 0) (v := (g 0 0 3) + 1) 3 X Wd (iy 0 (by decide)) rell0 fp_TankArenaModel_156 (fun _ => rfl) (fun _ => Nat.le_of_ble_eq_true rfl) rfl rfl d_TankArenaModel_strike_35 (fun H locs Wd => ?_)
  refine lv_aload_n hx hb d_TankArenaModel_strike_38 rfl (lv_at hl 3 rfl) ?_
  refine kx_get (k := 0) (i := 0) (v := .ref (ad 23 0)) X Wd (iy 0 (by decide)) rfl fg_TankArenaModel_77 rfl d_TankArenaModel_strike_39 ?_
  refine lv_iload_n hx hb d_TankArenaModel_strike_42 rfl (lv_at hl 5 rfl) ?_
  refine lv_iconst (v := 1) hx hb d_TankArenaModel_strike_43 (by decide) ?_
  refine kx_zast (k := 23) (i := 0) (j := t) (t0 := 1) X Wd (iy 23 (by decide)) rell23 rfl rfl ht (by decide) rfl d_TankArenaModel_strike_44 (fun H locs Wd => ?_)
  refine lv_aload_n hx hb d_TankArenaModel_strike_45 rfl (lv_at hl 3 rfl) ?_
  refine kx_get (k := 0) (i := 0) (v := .ref (ad 15 0)) X Wd (iy 0 (by decide)) rfl fg_TankArenaModel_52 rfl d_TankArenaModel_strike_46 ?_
  refine lv_iload_n hx hb d_TankArenaModel_strike_49 rfl (lv_at hl 5 rfl) ?_
  refine lv_dup2_11 hx hb d_TankArenaModel_strike_50 rfl rfl ?_
  refine kx_iald2 (k := 15) (i := 0) (j := t) (t0 := 0) (g 15 0 t) X Wd (iy 15 (by decide)) rell15 rfl rfl ht (by decide) (by simp [up3]) d_TankArenaModel_strike_51 ?_
  refine lv_iload hx hb d_TankArenaModel_strike_52 (lv_at hl 0 rfl) ?_
  refine lv_isub hx hb d_TankArenaModel_strike_54 ?_
  refine kx_iast (k := 15) (i := 0) (j := t) (t0 := 0) X Wd (iy 15 (by decide)) rell15 rfl rfl ht (by decide) d_TankArenaModel_strike_55 (fun H locs Wd => ?_)
  refine lv_aload_n hx hb d_TankArenaModel_strike_56 rfl (lv_at hl 3 rfl) ?_
  refine kx_get (k := 0) (i := 0) (v := .ref (ad 20 0)) X Wd (iy 0 (by decide)) rfl fg_TankArenaModel_67 rfl d_TankArenaModel_strike_57 ?_
  refine lv_iload hx hb d_TankArenaModel_strike_60 (lv_at hl 1 rfl) ?_
  refine lv_dup2_11 hx hb d_TankArenaModel_strike_62 rfl rfl ?_
  refine kx_iald2 (k := 20) (i := 0) (j := (g 32 0 bi).toNatClampNeg) (t0 := 0) (g 20 0 ((g 32 0 bi).toNatClampNeg)) X Wd (iy 20 (by decide)) rell20 rfl es hs (by decide) (by simp [up3]) d_TankArenaModel_strike_63 ?_
  refine lv_iload hx hb d_TankArenaModel_strike_64 (lv_at hl 0 rfl) ?_
  refine lv_iadd hx hb d_TankArenaModel_strike_66 ?_
  refine kx_iast (k := 20) (i := 0) (j := (g 32 0 bi).toNatClampNeg) (t0 := 0) X Wd (iy 20 (by decide)) rell20 rfl es hs (by decide) d_TankArenaModel_strike_67 (fun H locs Wd => ?_)
  refine lv_aload_n hx hb d_TankArenaModel_strike_68 rfl (lv_at hl 3 rfl) ?_
  refine kx_get (k := 0) (i := 0) (v := .ref (ad 21 0)) X Wd (iy 0 (by decide)) rfl fg_TankArenaModel_70 rfl d_TankArenaModel_strike_69 ?_
  refine lv_iload hx hb d_TankArenaModel_strike_72 (lv_at hl 1 rfl) ?_
  refine kx_zald2 (k := 21) (i := 0) (j := (g 32 0 bi).toNatClampNeg) (t0 := 1) (g 21 0 ((g 32 0 bi).toNatClampNeg)) X Wd (iy 21 (by decide)) rell21 rfl es hs (by decide) (by simp [up3]) d_TankArenaModel_strike_74 ?_
  refine lv_if_eq (tgt := 92) hx hb d_TankArenaModel_strike_75 (by decide) (fun c_1 => ?_) (fun c_1 => ?_)
  · skip
    refine lv_aload_n hx hb d_TankArenaModel_strike_92 rfl (lv_at hl 3 rfl) ?_
    refine kx_get (k := 0) (i := 0) (v := .ref (ad 33 0)) X Wd (iy 0 (by decide)) rfl fg_TankArenaModel_107 rfl d_TankArenaModel_strike_93 ?_
    refine lv_iload_n hx hb d_TankArenaModel_strike_96 rfl (lv_at hl 4 rfl) ?_
    refine lv_iconst (v := 1) hx hb d_TankArenaModel_strike_97 (by decide) ?_
    refine kx_zast (k := 33) (i := 0) (j := bi) (t0 := 1) X Wd (iy 33 (by decide)) rell33 rfl rfl hbi (by decide) rfl d_TankArenaModel_strike_98 (fun H locs Wd => ?_)
    refine lv_aload_n hx hb d_TankArenaModel_strike_99 rfl (lv_at hl 3 rfl) ?_
    refine lv_iload_n hx hb d_TankArenaModel_strike_100 rfl (lv_at hl 5 rfl) ?_
    refine kc_Vv (As := [.int (nI t)]) [] X Wd (k_g_Rcheck l D cI cZ ad (up3 (up3 (up3 (up3 (up3 g 0 0 3 ((g 0 0 3) + 1)) 23 0 t 1) 15 0 t ((g 15 0 t) - ((32 * (g 30 0 bi)) + (16 * ((g 30 0 bi) - 1))))) 20 0 ((g 32 0 bi).toNatClampNeg) ((g 20 0 ((g 32 0 bi).toNatClampNeg)) + ((32 * (g 30 0 bi)) + (16 * ((g 30 0 bi) - 1))))) 33 0 bi 1) t ht (nI t) rfl N (by refine rokU ?_ rfl (Or.inr rfl); refine rokU ?_ rfl trivial; refine rokU ?_ rfl trivial; refine rokU ?_ rfl (Or.inr rfl); refine rokU ?_ rfl trivial; exact ok)) cV_TankArenaModel_159 (kx_recv (k := 0) (i := 0) X Wd (iy 0 (by decide)) rfl rfl) rfl rfl hl.1 ⟨rfl, rfl⟩ ⟨Nat.le_of_ble_eq_true rfl, Nat.le_of_ble_eq_true rfl⟩ (Nat.le_of_ble_eq_true rfl) ⟨Nat.zero_le _, Nat.zero_le _⟩ d_TankArenaModel_strike_101 (fun u H locs hp Wd => ?_)
    rw [hp] at Wd
    clear hp
    have Wd : WR D cI cZ ad _ s.heap (g_Rcheck (up3 (up3 (up3 (up3 (up3 g 0 0 3 ((g 0 0 3) + 1)) 23 0 t 1) 15 0 t ((g 15 0 t) - ((32 * (g 30 0 bi)) + (16 * ((g 30 0 bi) - 1))))) 20 0 ((g 32 0 bi).toNatClampNeg) ((g 20 0 ((g 32 0 bi).toNatClampNeg)) + ((32 * (g 30 0 bi)) + (16 * ((g 30 0 bi) - 1))))) 33 0 bi 1) t) H locs := Wd
    exact kx_vret (u := g_Rcheck (up3 (up3 (up3 (up3 (up3 g 0 0 3 ((g 0 0 3) + 1)) 23 0 t 1) 15 0 t ((g 15 0 t) - ((32 * (g 30 0 bi)) + (16 * ((g 30 0 bi) - 1))))) 20 0 ((g 32 0 bi).toNatClampNeg) ((g 20 0 ((g 32 0 bi).toNatClampNeg)) + ((32 * (g 30 0 bi)) + (16 * ((g 30 0 bi) - 1))))) 33 0 bi 1) t) X Wd (by rw [g_Rstrike, if_pos c_1]) d_TankArenaModel_strike_104
  · skip
    refine lv_aload_n hx hb d_TankArenaModel_strike_78 rfl (lv_at hl 3 rfl) ?_
    refine kx_get (k := 0) (i := 0) (v := .ref (ad 15 0)) X Wd (iy 0 (by decide)) rfl fg_TankArenaModel_52 rfl d_TankArenaModel_strike_79 ?_
    refine lv_iload hx hb d_TankArenaModel_strike_82 (lv_at hl 1 rfl) ?_
    refine lv_dup2_11 hx hb d_TankArenaModel_strike_84 rfl rfl ?_
    refine kx_iald2 (k := 15) (i := 0) (j := (g 32 0 bi).toNatClampNeg) (t0 := 0) ((up3 (up3 (up3 g 0 0 3 ((g 0 0 3) + 1)) 23 0 t 1) 15 0 t ((g 15 0 t) - ((32 * (g 30 0 bi)) + (16 * ((g 30 0 bi) - 1))))) 15 0 ((g 32 0 bi).toNatClampNeg)) X Wd (iy 15 (by decide)) rell15 rfl es hs (by decide) (by simp [up3]) d_TankArenaModel_strike_85 ?_
    refine lv_bipush (v := 24) hx hb d_TankArenaModel_strike_86 (by decide) ?_
    refine lv_iload_n hx hb d_TankArenaModel_strike_88 rfl (lv_at hl 2 rfl) ?_
    refine lv_imul hx hb d_TankArenaModel_strike_89 ?_
    refine lv_iadd hx hb d_TankArenaModel_strike_90 ?_
    refine kx_iast (k := 15) (i := 0) (j := (g 32 0 bi).toNatClampNeg) (t0 := 0) X Wd (iy 15 (by decide)) rell15 rfl es hs (by decide) d_TankArenaModel_strike_91 (fun H locs Wd => ?_)
    refine lv_aload_n hx hb d_TankArenaModel_strike_92 rfl (lv_at hl 3 rfl) ?_
    refine kx_get (k := 0) (i := 0) (v := .ref (ad 33 0)) X Wd (iy 0 (by decide)) rfl fg_TankArenaModel_107 rfl d_TankArenaModel_strike_93 ?_
    refine lv_iload_n hx hb d_TankArenaModel_strike_96 rfl (lv_at hl 4 rfl) ?_
    refine lv_iconst (v := 1) hx hb d_TankArenaModel_strike_97 (by decide) ?_
    refine kx_zast (k := 33) (i := 0) (j := bi) (t0 := 1) X Wd (iy 33 (by decide)) rell33 rfl rfl hbi (by decide) rfl d_TankArenaModel_strike_98 (fun H locs Wd => ?_)
    refine lv_aload_n hx hb d_TankArenaModel_strike_99 rfl (lv_at hl 3 rfl) ?_
    refine lv_iload_n hx hb d_TankArenaModel_strike_100 rfl (lv_at hl 5 rfl) ?_
    refine kc_Vv (As := [.int (nI t)]) [] X Wd (k_g_Rcheck l D cI cZ ad (up3 (up3 (up3 (up3 (up3 (up3 g 0 0 3 ((g 0 0 3) + 1)) 23 0 t 1) 15 0 t ((g 15 0 t) - ((32 * (g 30 0 bi)) + (16 * ((g 30 0 bi) - 1))))) 20 0 ((g 32 0 bi).toNatClampNeg) ((g 20 0 ((g 32 0 bi).toNatClampNeg)) + ((32 * (g 30 0 bi)) + (16 * ((g 30 0 bi) - 1))))) 15 0 ((g 32 0 bi).toNatClampNeg) (((up3 (up3 (up3 g 0 0 3 ((g 0 0 3) + 1)) 23 0 t 1) 15 0 t ((g 15 0 t) - ((32 * (g 30 0 bi)) + (16 * ((g 30 0 bi) - 1))))) 15 0 ((g 32 0 bi).toNatClampNeg)) + (24 * (g 30 0 bi)))) 33 0 bi 1) t ht (nI t) rfl N (by refine rokU ?_ rfl (Or.inr rfl); refine rokU ?_ rfl trivial; refine rokU ?_ rfl trivial; refine rokU ?_ rfl trivial; refine rokU ?_ rfl (Or.inr rfl); refine rokU ?_ rfl trivial; exact ok)) cV_TankArenaModel_159 (kx_recv (k := 0) (i := 0) X Wd (iy 0 (by decide)) rfl rfl) rfl rfl hl.1 ⟨rfl, rfl⟩ ⟨Nat.le_of_ble_eq_true rfl, Nat.le_of_ble_eq_true rfl⟩ (Nat.le_of_ble_eq_true rfl) ⟨Nat.zero_le _, Nat.zero_le _⟩ d_TankArenaModel_strike_101 (fun u H locs hp Wd => ?_)
    rw [hp] at Wd
    clear hp
    have Wd : WR D cI cZ ad _ s.heap (g_Rcheck (up3 (up3 (up3 (up3 (up3 (up3 g 0 0 3 ((g 0 0 3) + 1)) 23 0 t 1) 15 0 t ((g 15 0 t) - ((32 * (g 30 0 bi)) + (16 * ((g 30 0 bi) - 1))))) 20 0 ((g 32 0 bi).toNatClampNeg) ((g 20 0 ((g 32 0 bi).toNatClampNeg)) + ((32 * (g 30 0 bi)) + (16 * ((g 30 0 bi) - 1))))) 15 0 ((g 32 0 bi).toNatClampNeg) (((up3 (up3 (up3 g 0 0 3 ((g 0 0 3) + 1)) 23 0 t 1) 15 0 t ((g 15 0 t) - ((32 * (g 30 0 bi)) + (16 * ((g 30 0 bi) - 1))))) 15 0 ((g 32 0 bi).toNatClampNeg)) + (24 * (g 30 0 bi)))) 33 0 bi 1) t) H locs := Wd
    exact kx_vret (u := g_Rcheck (up3 (up3 (up3 (up3 (up3 (up3 g 0 0 3 ((g 0 0 3) + 1)) 23 0 t 1) 15 0 t ((g 15 0 t) - ((32 * (g 30 0 bi)) + (16 * ((g 30 0 bi) - 1))))) 20 0 ((g 32 0 bi).toNatClampNeg) ((g 20 0 ((g 32 0 bi).toNatClampNeg)) + ((32 * (g 30 0 bi)) + (16 * ((g 30 0 bi) - 1))))) 15 0 ((g 32 0 bi).toNatClampNeg) (((up3 (up3 (up3 g 0 0 3 ((g 0 0 3) + 1)) 23 0 t 1) 15 0 t ((g 15 0 t) - ((32 * (g 30 0 bi)) + (16 * ((g 30 0 bi) - 1))))) 15 0 ((g 32 0 bi).toNatClampNeg)) + (24 * (g 30 0 bi)))) 33 0 bi 1) t) X Wd (by rw [g_Rstrike, if_neg c_1]) d_TankArenaModel_strike_104
abbrev RM_f_Rstruck : Room := { frames := 1, cells := 0, slots := 0, locals := 20 }
set_option maxHeartbeats 1000000 in
set_option maxRecDepth 100000 in
theorem k_f_Rstruck (l : Launch) (D : va_G) (cI cZ : ClassId) (ad : Nat → Nat → Nat) (g : SG) (bi : Nat) (hbi : bi < 600) (vbi : Int32) (ebi : vbi = nI bi) (N : Nat) (ok : RokN N g) : RI l y_TankArenaModel_struck b_TankArenaModel_struck 3 (some .int) RM_f_Rstruck D cI cZ ad [.ref (ad 0 0), .int vbi] g (fun (r : Int32) (u : SG) => r = f_Rstruck g bi ∧ u = g) := by
  subst ebi
  refine met_of (cc := b_TankArenaModel_struck) (nL := 3) (ret := (some .int)) (by decide) rfl (Nat.le_of_ble_eq_true rfl) ?_
  intro p e s m below meth c X hnm Wd ls hl
  have X := X.tt
  have hx := X.1
  have hb := X.2.1
  have hown := X.2.2.2.1
  have hts := X.2.2.2.2.1
  have hl : lv_has ls 3 [(0, .ref (ad 0 0)), (1, .int (nI bi))] := hl
  have Wd : WR D cI cZ ad (va_A (gR cI cZ ad g) s.heap.size) s.heap g s.heap [] := Wd
  obtain ⟨hN4, eN⟩ := ok.N
  refine lv_iconst (v := 0) hx hb d_TankArenaModel_struck_0 (by decide) ?_
  refine lv_istore_n (lv' := [(2, .int 0), (0, .ref (ad 0 0)), (1, .int (nI bi))]) hx hb d_TankArenaModel_struck_1 rfl hl (by decide) rfl (fun ls hl => ?_)
  have loop : ∀ (n : Nat) (i : Nat), i ≤ N → N + 1 ≤ i + n → f_Rstruck g bi = L_Rstruck g bi n i → ∀ (H : Heap) (locs : List Loc), WR D cI cZ ad (va_A (gR cI cZ ad g) s.heap.size) s.heap g H locs → ∀ ls : Array Slot, lv_has ls 3 [(0, .ref (ad 0 0)), (1, .int (nI bi)), (2, .int (nI i))] → W p l e RM_f_Rstruck s m [.ref (ad 0 0), .int (nI bi)].toArray below meth c H locs 0 0 (YI D cI cZ ad below [.ref (ad 0 0), .int (nI bi)] s g (fun (r : Int32) (u : SG) => r = f_Rstruck g bi ∧ u = g)) (F0 m 2 ls []) := by
    intro n
    induction n with
    | zero =>
      intro i hv0 hv1
      exfalso
      omega
    | succ n ih =>
      intro i hv0 hv1 htg H locs Wd ls hl
      refine lv_iload_n hx hb d_TankArenaModel_struck_2 rfl (lv_at hl 2 rfl) ?_
      refine lv_aload_n hx hb d_TankArenaModel_struck_3 rfl (lv_at hl 0 rfl) ?_
      refine kx_geto (k := 0) (i := 0) 0 (g 0 0 0) X Wd (iy 0 (by decide)) rell0 fg_TankArenaModel_122 (fun _ => rfl) rfl d_TankArenaModel_struck_4 ?_
      refine lv_icmp_ge (tgt := 79) hx hb d_TankArenaModel_struck_7 (by decide) (fun c_1 => ?_) (fun c_1 => ?_)
      · skip
        refine lv_iconst (v := 4) hx hb d_TankArenaModel_struck_79 (by decide) ?_
        exact kx_iret (u := g) X rfl Wd ⟨by rw [htg, L_Rstruck, if_pos c_1], rfl⟩ d_TankArenaModel_struck_80
      · skip
        have hiN : i < N := nlt_of eN (by omega) (by omega) c_1
        have hi : i < 4 := by omega
        refine lv_aload_n hx hb d_TankArenaModel_struck_10 rfl (lv_at hl 0 rfl) ?_
        refine kx_get (k := 0) (i := 0) (v := .ref (ad 21 0)) X Wd (iy 0 (by decide)) rfl fg_TankArenaModel_70 rfl d_TankArenaModel_struck_11 ?_
        refine lv_iload_n hx hb d_TankArenaModel_struck_14 rfl (lv_at hl 2 rfl) ?_
        refine kx_zald2 (k := 21) (i := 0) (j := i) (t0 := 1) (g 21 0 i) X Wd (iy 21 (by decide)) rell21 rfl rfl (by omega) (by decide) rfl d_TankArenaModel_struck_15 ?_
        refine lv_if_eq (tgt := 73) hx hb d_TankArenaModel_struck_16 (by decide) (fun c_2 => ?_) (fun c_2 => ?_)
        · skip
          refine lv_iinc (v := nI (i + 1)) (lv' := [(2, .int (nI (i + 1))), (0, .ref (ad 0 0)), (1, .int (nI bi))]) hx hb d_TankArenaModel_struck_73 hl (k := 2) rfl (nI_1 i) (by decide) rfl (fun ls hl => ?_)
          refine lv_goto (tgt := 2) hx hb d_TankArenaModel_struck_76 (by decide) ?_
          exact ih (i + 1) (by omega) (by omega) (by rw [htg, L_Rstruck, if_neg c_1, if_pos c_2]) _ _ Wd _ (lv_sub hl [1, 2, 0] rfl)
        · skip
          refine lv_iload_n hx hb d_TankArenaModel_struck_19 rfl (lv_at hl 2 rfl) ?_
          refine lv_aload_n hx hb d_TankArenaModel_struck_20 rfl (lv_at hl 0 rfl) ?_
          refine kx_get (k := 0) (i := 0) (v := .ref (ad 32 0)) X Wd (iy 0 (by decide)) rfl fg_TankArenaModel_104 rfl d_TankArenaModel_struck_21 ?_
          refine lv_iload_n hx hb d_TankArenaModel_struck_24 rfl (lv_at hl 1 rfl) ?_
          refine kx_iald (k := 32) (i := 0) (j := bi) (t0 := 0) X Wd (iy 32 (by decide)) rell32 rfl rfl hbi (by decide) d_TankArenaModel_struck_25 ?_
          refine lv_icmp_eq (tgt := 73) hx hb d_TankArenaModel_struck_26 (by decide) (fun c_3 => ?_) (fun c_3 => ?_)
          · skip
            refine lv_iinc (v := nI (i + 1)) (lv' := [(2, .int (nI (i + 1))), (0, .ref (ad 0 0)), (1, .int (nI bi))]) hx hb d_TankArenaModel_struck_73 hl (k := 2) rfl (nI_1 i) (by decide) rfl (fun ls hl => ?_)
            refine lv_goto (tgt := 2) hx hb d_TankArenaModel_struck_76 (by decide) ?_
            exact ih (i + 1) (by omega) (by omega) (by rw [htg, L_Rstruck, if_neg c_1, if_neg c_2, if_pos c_3]) _ _ Wd _ (lv_sub hl [1, 2, 0] rfl)
          · skip
            refine lv_aload_n hx hb d_TankArenaModel_struck_29 rfl (lv_at hl 0 rfl) ?_
            refine kx_get (k := 0) (i := 0) (v := .ref (ad 8 0)) X Wd (iy 0 (by decide)) rfl fg_TankArenaModel_31 rfl d_TankArenaModel_struck_30 ?_
            refine lv_iload_n hx hb d_TankArenaModel_struck_33 rfl (lv_at hl 2 rfl) ?_
            refine kx_iald (k := 8) (i := 0) (j := i) (t0 := 0) X Wd (iy 8 (by decide)) rell8 rfl rfl (by omega) (by decide) d_TankArenaModel_struck_34 ?_
            refine lv_aload_n hx hb d_TankArenaModel_struck_35 rfl (lv_at hl 0 rfl) ?_
            refine kx_get (k := 0) (i := 0) (v := .ref (ad 28 0)) X Wd (iy 0 (by decide)) rfl fg_TankArenaModel_92 rfl d_TankArenaModel_struck_36 ?_
            refine lv_iload_n hx hb d_TankArenaModel_struck_39 rfl (lv_at hl 1 rfl) ?_
            refine kx_iald (k := 28) (i := 0) (j := bi) (t0 := 0) X Wd (iy 28 (by decide)) rell28 rfl rfl hbi (by decide) d_TankArenaModel_struck_40 ?_
            refine lv_isub hx hb d_TankArenaModel_struck_41 ?_
            refine kc_Si (As := [.int ((g 8 0 i) - (g 28 0 bi))]) [] X Wd (k_f_Rabs l D cI cZ ad g ((g 8 0 i) - (g 28 0 bi))) cS_TankArenaModel_110 rfl rfl hl.1 ⟨rfl, rfl⟩ ⟨Nat.le_of_ble_eq_true rfl, Nat.le_of_ble_eq_true rfl⟩ (Nat.le_of_ble_eq_true rfl) ⟨Nat.zero_le _, Nat.zero_le _⟩ d_TankArenaModel_struck_42 (fun r u H locs hp Wd => ?_)
            obtain ⟨hr, hu⟩ := hp
            rw [hu] at Wd
            rw [hr]
            clear hr hu
            refine lv_bipush (v := 16) hx hb d_TankArenaModel_struck_45 (by decide) ?_
            refine lv_icmp_gt (tgt := 73) hx hb d_TankArenaModel_struck_47 (by decide) (fun c_4 => ?_) (fun c_4 => ?_)
            · skip
              refine lv_iinc (v := nI (i + 1)) (lv' := [(2, .int (nI (i + 1))), (0, .ref (ad 0 0)), (1, .int (nI bi))]) hx hb d_TankArenaModel_struck_73 hl (k := 2) rfl (nI_1 i) (by decide) rfl (fun ls hl => ?_)
              refine lv_goto (tgt := 2) hx hb d_TankArenaModel_struck_76 (by decide) ?_
              exact ih (i + 1) (by omega) (by omega) (by rw [htg, L_Rstruck, if_neg c_1, if_neg c_2, if_neg c_3, if_pos c_4]) _ _ Wd _ (lv_sub hl [1, 2, 0] rfl)
            · skip
              refine lv_aload_n hx hb d_TankArenaModel_struck_50 rfl (lv_at hl 0 rfl) ?_
              refine kx_get (k := 0) (i := 0) (v := .ref (ad 9 0)) X Wd (iy 0 (by decide)) rfl fg_TankArenaModel_34 rfl d_TankArenaModel_struck_51 ?_
              refine lv_iload_n hx hb d_TankArenaModel_struck_54 rfl (lv_at hl 2 rfl) ?_
              refine kx_iald (k := 9) (i := 0) (j := i) (t0 := 0) X Wd (iy 9 (by decide)) rell9 rfl rfl (by omega) (by decide) d_TankArenaModel_struck_55 ?_
              refine lv_aload_n hx hb d_TankArenaModel_struck_56 rfl (lv_at hl 0 rfl) ?_
              refine kx_get (k := 0) (i := 0) (v := .ref (ad 29 0)) X Wd (iy 0 (by decide)) rfl fg_TankArenaModel_95 rfl d_TankArenaModel_struck_57 ?_
              refine lv_iload_n hx hb d_TankArenaModel_struck_60 rfl (lv_at hl 1 rfl) ?_
              refine kx_iald (k := 29) (i := 0) (j := bi) (t0 := 0) X Wd (iy 29 (by decide)) rell29 rfl rfl hbi (by decide) d_TankArenaModel_struck_61 ?_
              refine lv_isub hx hb d_TankArenaModel_struck_62 ?_
              refine kc_Si (As := [.int ((g 9 0 i) - (g 29 0 bi))]) [] X Wd (k_f_Rabs l D cI cZ ad g ((g 9 0 i) - (g 29 0 bi))) cS_TankArenaModel_110 rfl rfl hl.1 ⟨rfl, rfl⟩ ⟨Nat.le_of_ble_eq_true rfl, Nat.le_of_ble_eq_true rfl⟩ (Nat.le_of_ble_eq_true rfl) ⟨Nat.zero_le _, Nat.zero_le _⟩ d_TankArenaModel_struck_63 (fun r u H locs hp Wd => ?_)
              obtain ⟨hr, hu⟩ := hp
              rw [hu] at Wd
              rw [hr]
              clear hr hu
              refine lv_bipush (v := 16) hx hb d_TankArenaModel_struck_66 (by decide) ?_
              refine lv_icmp_gt (tgt := 73) hx hb d_TankArenaModel_struck_68 (by decide) (fun c_5 => ?_) (fun c_5 => ?_)
              · skip
                refine lv_iinc (v := nI (i + 1)) (lv' := [(2, .int (nI (i + 1))), (0, .ref (ad 0 0)), (1, .int (nI bi))]) hx hb d_TankArenaModel_struck_73 hl (k := 2) rfl (nI_1 i) (by decide) rfl (fun ls hl => ?_)
                refine lv_goto (tgt := 2) hx hb d_TankArenaModel_struck_76 (by decide) ?_
                exact ih (i + 1) (by omega) (by omega) (by rw [htg, L_Rstruck, if_neg c_1, if_neg c_2, if_neg c_3, if_neg c_4, if_pos c_5]) _ _ Wd _ (lv_sub hl [1, 2, 0] rfl)
              · skip
                refine lv_iload_n hx hb d_TankArenaModel_struck_71 rfl (lv_at hl 2 rfl) ?_
                exact kx_iret (u := g) X rfl Wd ⟨by rw [htg, L_Rstruck, if_neg c_1, if_neg c_2, if_neg c_3, if_neg c_4, if_neg c_5], rfl⟩ d_TankArenaModel_struck_72
  exact loop 5 0 (by omega) (by omega) (by rw [f_Rstruck]) _ _ Wd _ (lv_sub hl [1, 2, 0] rfl)
abbrev RM_g_Rfly : Room := { frames := 2, cells := 0, slots := 0, locals := 47 }
set_option maxHeartbeats 1000000 in
set_option maxRecDepth 100000 in
theorem k_g_Rfly (l : Launch) (D : va_G) (cI cZ : ClassId) (ad : Nat → Nat → Nat) (g : SG) (bi : Nat) (hbi : bi < 600) (vbi : Int32) (ebi : vbi = nI bi) (N : Nat) (ok : RokN N g) : RV l y_TankArenaModel_fly b_TankArenaModel_fly 4 none RM_g_Rfly D cI cZ ad [.ref (ad 0 0), .int vbi] g (fun (u : SG) => u = g_Rfly g bi) := by
  subst ebi
  refine met_of (cc := b_TankArenaModel_fly) (nL := 4) (ret := none) (by decide) rfl (Nat.le_of_ble_eq_true rfl) ?_
  intro p e s m below meth c X hnm Wd ls hl
  have X := X.tt
  have hx := X.1
  have hb := X.2.1
  have hown := X.2.2.2.1
  have hts := X.2.2.2.2.1
  have hl : lv_has ls 4 [(0, .ref (ad 0 0)), (1, .int (nI bi))] := hl
  have Wd : WR D cI cZ ad (va_A (gR cI cZ ad g) s.heap.size) s.heap g s.heap [] := Wd
  refine lv_iconst (v := 0) hx hb d_TankArenaModel_fly_0 (by decide) ?_
  refine lv_istore_n (lv' := [(2, .int 0), (0, .ref (ad 0 0)), (1, .int (nI bi))]) hx hb d_TankArenaModel_fly_1 rfl hl (by decide) rfl (fun ls hl => ?_)
  have loop : ∀ (n : Nat) (k : Nat) (gl : SG), RokN N gl → k ≤ 8 → 9 ≤ k + n → g_Rfly g bi = L_Rfly bi n k gl → ∀ (H : Heap) (locs : List Loc), WR D cI cZ ad (va_A (gR cI cZ ad g) s.heap.size) s.heap gl H locs → ∀ ls : Array Slot, lv_has ls 4 [(0, .ref (ad 0 0)), (1, .int (nI bi)), (2, .int (nI k))] → W p l e RM_g_Rfly s m [.ref (ad 0 0), .int (nI bi)].toArray below meth c H locs 0 0 (YV D cI cZ ad below [.ref (ad 0 0), .int (nI bi)] s g (fun (u : SG) => u = g_Rfly g bi)) (F0 m 2 ls []) := by
    intro n
    induction n with
    | zero =>
      intro k gl hv0 hv1 hv2
      exfalso
      omega
    | succ n ih =>
      intro k gl hv0 hv1 hv2 htg H locs Wd ls hl
      refine lv_iload_n hx hb d_TankArenaModel_fly_2 rfl (lv_at hl 2 rfl) ?_
      refine lv_bipush (v := 8) hx hb d_TankArenaModel_fly_3 (by decide) ?_
      refine lv_aload_n hx hb d_TankArenaModel_fly_5 rfl (lv_at hl 0 rfl) ?_
      refine kx_get (k := 0) (i := 0) (v := .ref (ad 30 0)) X Wd (iy 0 (by decide)) rfl fg_TankArenaModel_98 rfl d_TankArenaModel_fly_6 ?_
      refine lv_iload_n hx hb d_TankArenaModel_fly_9 rfl (lv_at hl 1 rfl) ?_
      refine kx_iald (k := 30) (i := 0) (j := bi) (t0 := 0) X Wd (iy 30 (by decide)) rell30 rfl rfl hbi (by decide) d_TankArenaModel_fly_10 ?_
      refine lv_isub hx hb d_TankArenaModel_fly_11 ?_
      refine lv_icmp_ge (tgt := 139) hx hb d_TankArenaModel_fly_12 (by decide) (fun c_1 => ?_) (fun c_1 => ?_)
      · skip
        exact kx_vret (u := gl) X Wd (by rw [htg, L_Rfly, if_pos c_1]) d_TankArenaModel_fly_139
      · skip
        have hk : k < 8 := pace_lt (hv0.1.1 30 0 bi) (by omega) c_1
        refine lv_aload_n hx hb d_TankArenaModel_fly_15 rfl (lv_at hl 0 rfl) ?_
        refine kx_get (k := 0) (i := 0) (v := .ref (ad 33 0)) X Wd (iy 0 (by decide)) rfl fg_TankArenaModel_107 rfl d_TankArenaModel_fly_16 ?_
        refine lv_iload_n hx hb d_TankArenaModel_fly_19 rfl (lv_at hl 1 rfl) ?_
        refine kx_zald2 (k := 33) (i := 0) (j := bi) (t0 := 1) (gl 33 0 bi) X Wd (iy 33 (by decide)) rell33 rfl rfl hbi (by decide) rfl d_TankArenaModel_fly_20 ?_
        refine lv_if_ne (tgt := 139) hx hb d_TankArenaModel_fly_21 (by decide) (fun c_2 => ?_) (fun c_2 => ?_)
        · skip
          exact kx_vret (u := gl) X Wd (by rw [htg, L_Rfly, if_neg c_1, if_neg c_2]) d_TankArenaModel_fly_139
        · skip
          refine lv_aload_n hx hb d_TankArenaModel_fly_24 rfl (lv_at hl 0 rfl) ?_
          refine kx_get (k := 0) (i := 0) (v := .ref (ad 28 0)) X Wd (iy 0 (by decide)) rfl fg_TankArenaModel_92 rfl d_TankArenaModel_fly_25 ?_
          refine lv_iload_n hx hb d_TankArenaModel_fly_28 rfl (lv_at hl 1 rfl) ?_
          refine lv_dup2_11 hx hb d_TankArenaModel_fly_29 rfl rfl ?_
          refine kx_iald (k := 28) (i := 0) (j := bi) (t0 := 0) X Wd (iy 28 (by decide)) rell28 rfl rfl hbi (by decide) d_TankArenaModel_fly_30 ?_
          refine lv_bipush (v := 8) hx hb d_TankArenaModel_fly_31 (by decide) ?_
          refine lv_aload_n hx hb d_TankArenaModel_fly_33 rfl (lv_at hl 0 rfl) ?_
          refine kx_get (k := 0) (i := 0) (v := .ref (ad 31 0)) X Wd (iy 0 (by decide)) rfl fg_TankArenaModel_101 rfl d_TankArenaModel_fly_34 ?_
          refine lv_iload_n hx hb d_TankArenaModel_fly_37 rfl (lv_at hl 1 rfl) ?_
          refine kx_iald (k := 31) (i := 0) (j := bi) (t0 := 0) X Wd (iy 31 (by decide)) rell31 rfl rfl hbi (by decide) d_TankArenaModel_fly_38 ?_
          refine kc_Si (As := [.int (gl 31 0 bi)]) [.int 8, .int (gl 28 0 bi), .int (nI bi), .ref (ad 28 0)] X Wd (k_f_Racross l D cI cZ ad gl (gl 31 0 bi)) cS_TankArenaModel_162 rfl rfl hl.1 ⟨rfl, rfl⟩ ⟨Nat.le_of_ble_eq_true rfl, Nat.le_of_ble_eq_true rfl⟩ (Nat.le_of_ble_eq_true rfl) ⟨Nat.zero_le _, Nat.zero_le _⟩ d_TankArenaModel_fly_39 (fun r u H locs hp Wd => ?_)
          obtain ⟨hr, hu⟩ := hp
          rw [hu] at Wd
          rw [hr]
          clear hr hu
          refine lv_imul hx hb d_TankArenaModel_fly_42 ?_
          refine lv_iadd hx hb d_TankArenaModel_fly_43 ?_
          refine kx_iast (k := 28) (i := 0) (j := bi) (t0 := 0) X Wd (iy 28 (by decide)) rell28 rfl rfl hbi (by decide) d_TankArenaModel_fly_44 (fun H locs Wd => ?_)
          refine lv_aload_n hx hb d_TankArenaModel_fly_45 rfl (lv_at hl 0 rfl) ?_
          refine kx_get (k := 0) (i := 0) (v := .ref (ad 29 0)) X Wd (iy 0 (by decide)) rfl fg_TankArenaModel_95 rfl d_TankArenaModel_fly_46 ?_
          refine lv_iload_n hx hb d_TankArenaModel_fly_49 rfl (lv_at hl 1 rfl) ?_
          refine lv_dup2_11 hx hb d_TankArenaModel_fly_50 rfl rfl ?_
          refine kx_iald2 (k := 29) (i := 0) (j := bi) (t0 := 0) (gl 29 0 bi) X Wd (iy 29 (by decide)) rell29 rfl rfl hbi (by decide) (by simp [up3]) d_TankArenaModel_fly_51 ?_
          refine lv_bipush (v := 8) hx hb d_TankArenaModel_fly_52 (by decide) ?_
          refine lv_aload_n hx hb d_TankArenaModel_fly_54 rfl (lv_at hl 0 rfl) ?_
          refine kx_get (k := 0) (i := 0) (v := .ref (ad 31 0)) X Wd (iy 0 (by decide)) rfl fg_TankArenaModel_101 rfl d_TankArenaModel_fly_55 ?_
          refine lv_iload_n hx hb d_TankArenaModel_fly_58 rfl (lv_at hl 1 rfl) ?_
          refine kx_iald2 (k := 31) (i := 0) (j := bi) (t0 := 0) (gl 31 0 bi) X Wd (iy 31 (by decide)) rell31 rfl rfl hbi (by decide) (by simp [up3]) d_TankArenaModel_fly_59 ?_
          refine kc_Si (As := [.int (gl 31 0 bi)]) [.int 8, .int (gl 29 0 bi), .int (nI bi), .ref (ad 29 0)] X Wd (k_f_Rup l D cI cZ ad (up3 gl 28 0 bi ((gl 28 0 bi) + (8 * (f_Racross (gl 31 0 bi))))) (gl 31 0 bi)) cS_TankArenaModel_165 rfl rfl hl.1 ⟨rfl, rfl⟩ ⟨Nat.le_of_ble_eq_true rfl, Nat.le_of_ble_eq_true rfl⟩ (Nat.le_of_ble_eq_true rfl) ⟨Nat.zero_le _, Nat.zero_le _⟩ d_TankArenaModel_fly_60 (fun r u H locs hp Wd => ?_)
          obtain ⟨hr, hu⟩ := hp
          rw [hu] at Wd
          rw [hr]
          clear hr hu
          refine lv_imul hx hb d_TankArenaModel_fly_63 ?_
          refine lv_iadd hx hb d_TankArenaModel_fly_64 ?_
          refine kx_iast (k := 29) (i := 0) (j := bi) (t0 := 0) X Wd (iy 29 (by decide)) rell29 rfl rfl hbi (by decide) d_TankArenaModel_fly_65 (fun H locs Wd => ?_)
          refine lv_aload_n hx hb d_TankArenaModel_fly_66 rfl (lv_at hl 0 rfl) ?_
          refine kx_get (k := 0) (i := 0) (v := .ref (ad 28 0)) X Wd (iy 0 (by decide)) rfl fg_TankArenaModel_92 rfl d_TankArenaModel_fly_67 ?_
          refine lv_iload_n hx hb d_TankArenaModel_fly_70 rfl (lv_at hl 1 rfl) ?_
          refine kx_iald2 (k := 28) (i := 0) (j := bi) (t0 := 0) ((gl 28 0 bi) + (8 * (f_Racross (gl 31 0 bi)))) X Wd (iy 28 (by decide)) rell28 rfl rfl hbi (by decide) (by simp [up3]) d_TankArenaModel_fly_71 ?_
          refine lv_if_lt (tgt := 108) hx hb d_TankArenaModel_fly_72 (by decide) (fun c_3 => ?_) (fun c_3 => ?_)
          · skip
            refine lv_aload_n hx hb d_TankArenaModel_fly_108 rfl (lv_at hl 0 rfl) ?_
            refine kx_get (k := 0) (i := 0) (v := .ref (ad 33 0)) X Wd (iy 0 (by decide)) rfl fg_TankArenaModel_107 rfl d_TankArenaModel_fly_109 ?_
            refine lv_iload_n hx hb d_TankArenaModel_fly_112 rfl (lv_at hl 1 rfl) ?_
            refine lv_iconst (v := 1) hx hb d_TankArenaModel_fly_113 (by decide) ?_
            refine kx_zast (k := 33) (i := 0) (j := bi) (t0 := 1) X Wd (iy 33 (by decide)) rell33 rfl rfl hbi (by decide) rfl d_TankArenaModel_fly_114 (fun H locs Wd => ?_)
            exact kx_vret (u := up3 (up3 (up3 gl 28 0 bi ((gl 28 0 bi) + (8 * (f_Racross (gl 31 0 bi))))) 29 0 bi ((gl 29 0 bi) + (8 * (f_Rup (gl 31 0 bi))))) 33 0 bi 1) X Wd (by rw [htg, L_Rfly, if_neg c_1, if_pos c_2, if_pos c_3]) d_TankArenaModel_fly_115
          · skip
            refine lv_aload_n hx hb d_TankArenaModel_fly_75 rfl (lv_at hl 0 rfl) ?_
            refine kx_get (k := 0) (i := 0) (v := .ref (ad 29 0)) X Wd (iy 0 (by decide)) rfl fg_TankArenaModel_95 rfl d_TankArenaModel_fly_76 ?_
            refine lv_iload_n hx hb d_TankArenaModel_fly_79 rfl (lv_at hl 1 rfl) ?_
            refine kx_iald2 (k := 29) (i := 0) (j := bi) (t0 := 0) ((gl 29 0 bi) + (8 * (f_Rup (gl 31 0 bi)))) X Wd (iy 29 (by decide)) rell29 rfl rfl hbi (by decide) (by simp [up3]) d_TankArenaModel_fly_80 ?_
            refine lv_if_lt (tgt := 108) hx hb d_TankArenaModel_fly_81 (by decide) (fun c_4 => ?_) (fun c_4 => ?_)
            · skip
              refine lv_aload_n hx hb d_TankArenaModel_fly_108 rfl (lv_at hl 0 rfl) ?_
              refine kx_get (k := 0) (i := 0) (v := .ref (ad 33 0)) X Wd (iy 0 (by decide)) rfl fg_TankArenaModel_107 rfl d_TankArenaModel_fly_109 ?_
              refine lv_iload_n hx hb d_TankArenaModel_fly_112 rfl (lv_at hl 1 rfl) ?_
              refine lv_iconst (v := 1) hx hb d_TankArenaModel_fly_113 (by decide) ?_
              refine kx_zast (k := 33) (i := 0) (j := bi) (t0 := 1) X Wd (iy 33 (by decide)) rell33 rfl rfl hbi (by decide) rfl d_TankArenaModel_fly_114 (fun H locs Wd => ?_)
              exact kx_vret (u := up3 (up3 (up3 gl 28 0 bi ((gl 28 0 bi) + (8 * (f_Racross (gl 31 0 bi))))) 29 0 bi ((gl 29 0 bi) + (8 * (f_Rup (gl 31 0 bi))))) 33 0 bi 1) X Wd (by rw [htg, L_Rfly, if_neg c_1, if_pos c_2, if_neg c_3, if_pos c_4]) d_TankArenaModel_fly_115
            · skip
              refine lv_aload_n hx hb d_TankArenaModel_fly_84 rfl (lv_at hl 0 rfl) ?_
              refine kx_get (k := 0) (i := 0) (v := .ref (ad 28 0)) X Wd (iy 0 (by decide)) rfl fg_TankArenaModel_92 rfl d_TankArenaModel_fly_85 ?_
              refine lv_iload_n hx hb d_TankArenaModel_fly_88 rfl (lv_at hl 1 rfl) ?_
              refine kx_iald2 (k := 28) (i := 0) (j := bi) (t0 := 0) ((gl 28 0 bi) + (8 * (f_Racross (gl 31 0 bi)))) X Wd (iy 28 (by decide)) rell28 rfl rfl hbi (by decide) (by simp [up3]) d_TankArenaModel_fly_89 ?_
              refine lv_sipush (v := 512) hx hb d_TankArenaModel_fly_90 (by decide) ?_
              refine lv_icmp_gt (tgt := 108) hx hb d_TankArenaModel_fly_93 (by decide) (fun c_5 => ?_) (fun c_5 => ?_)
              · skip
                refine lv_aload_n hx hb d_TankArenaModel_fly_108 rfl (lv_at hl 0 rfl) ?_
                refine kx_get (k := 0) (i := 0) (v := .ref (ad 33 0)) X Wd (iy 0 (by decide)) rfl fg_TankArenaModel_107 rfl d_TankArenaModel_fly_109 ?_
                refine lv_iload_n hx hb d_TankArenaModel_fly_112 rfl (lv_at hl 1 rfl) ?_
                refine lv_iconst (v := 1) hx hb d_TankArenaModel_fly_113 (by decide) ?_
                refine kx_zast (k := 33) (i := 0) (j := bi) (t0 := 1) X Wd (iy 33 (by decide)) rell33 rfl rfl hbi (by decide) rfl d_TankArenaModel_fly_114 (fun H locs Wd => ?_)
                exact kx_vret (u := up3 (up3 (up3 gl 28 0 bi ((gl 28 0 bi) + (8 * (f_Racross (gl 31 0 bi))))) 29 0 bi ((gl 29 0 bi) + (8 * (f_Rup (gl 31 0 bi))))) 33 0 bi 1) X Wd (by rw [htg, L_Rfly, if_neg c_1, if_pos c_2, if_neg c_3, if_neg c_4, if_pos c_5]) d_TankArenaModel_fly_115
              · skip
                refine lv_aload_n hx hb d_TankArenaModel_fly_96 rfl (lv_at hl 0 rfl) ?_
                refine kx_get (k := 0) (i := 0) (v := .ref (ad 29 0)) X Wd (iy 0 (by decide)) rfl fg_TankArenaModel_95 rfl d_TankArenaModel_fly_97 ?_
                refine lv_iload_n hx hb d_TankArenaModel_fly_100 rfl (lv_at hl 1 rfl) ?_
                refine kx_iald2 (k := 29) (i := 0) (j := bi) (t0 := 0) ((gl 29 0 bi) + (8 * (f_Rup (gl 31 0 bi)))) X Wd (iy 29 (by decide)) rell29 rfl rfl hbi (by decide) (by simp [up3]) d_TankArenaModel_fly_101 ?_
                refine lv_sipush (v := 512) hx hb d_TankArenaModel_fly_102 (by decide) ?_
                refine lv_icmp_le (tgt := 116) hx hb d_TankArenaModel_fly_105 (by decide) (fun c_6 => ?_) (fun c_6 => ?_)
                · skip
                  refine lv_aload_n hx hb d_TankArenaModel_fly_116 rfl (lv_at hl 0 rfl) ?_
                  refine lv_iload_n hx hb d_TankArenaModel_fly_117 rfl (lv_at hl 1 rfl) ?_
                  refine kc_Vi (As := [.int (nI bi)]) [] X Wd (k_f_Rstruck l D cI cZ ad (up3 (up3 gl 28 0 bi ((gl 28 0 bi) + (8 * (f_Racross (gl 31 0 bi))))) 29 0 bi ((gl 29 0 bi) + (8 * (f_Rup (gl 31 0 bi))))) bi hbi (nI bi) rfl N (by refine rokU ?_ rfl trivial; refine rokU ?_ rfl trivial; exact hv0)) cV_TankArenaModel_168 (kx_recv (k := 0) (i := 0) X Wd (iy 0 (by decide)) rfl rfl) rfl rfl hl.1 ⟨rfl, rfl⟩ ⟨Nat.le_of_ble_eq_true rfl, Nat.le_of_ble_eq_true rfl⟩ (Nat.le_of_ble_eq_true rfl) ⟨Nat.zero_le _, Nat.zero_le _⟩ d_TankArenaModel_fly_118 (fun r u H locs hp Wd => ?_)
                  obtain ⟨hr, hu⟩ := hp
                  rw [hu] at Wd
                  rw [hr]
                  clear hr hu
                  refine lv_istore_n (lv' := [(3, .int (f_Rstruck (up3 (up3 gl 28 0 bi ((gl 28 0 bi) + (8 * (f_Racross (gl 31 0 bi))))) 29 0 bi ((gl 29 0 bi) + (8 * (f_Rup (gl 31 0 bi))))) bi)), (0, .ref (ad 0 0)), (1, .int (nI bi)), (2, .int (nI k))]) hx hb d_TankArenaModel_fly_121 rfl hl (by decide) rfl (fun ls hl => ?_)
                  refine lv_iload_n hx hb d_TankArenaModel_fly_122 rfl (lv_at hl 0 rfl) ?_
                  refine lv_iconst (v := 4) hx hb d_TankArenaModel_fly_123 (by decide) ?_
                  refine lv_icmp_ge (tgt := 133) hx hb d_TankArenaModel_fly_124 (by decide) (fun c_7 => ?_) (fun c_7 => ?_)
                  · skip
                    refine lv_iinc (v := nI (k + 1)) (lv' := [(2, .int (nI (k + 1))), (3, .int (f_Rstruck (up3 (up3 gl 28 0 bi ((gl 28 0 bi) + (8 * (f_Racross (gl 31 0 bi))))) 29 0 bi ((gl 29 0 bi) + (8 * (f_Rup (gl 31 0 bi))))) bi)), (0, .ref (ad 0 0)), (1, .int (nI bi))]) hx hb d_TankArenaModel_fly_133 hl (k := 3) rfl (nI_1 k) (by decide) rfl (fun ls hl => ?_)
                    refine lv_goto (tgt := 2) hx hb d_TankArenaModel_fly_136 (by decide) ?_
                    exact ih (k + 1) (up3 (up3 gl 28 0 bi ((gl 28 0 bi) + (8 * (f_Racross (gl 31 0 bi))))) 29 0 bi ((gl 29 0 bi) + (8 * (f_Rup (gl 31 0 bi))))) (by refine rokU ?_ rfl trivial; refine rokU ?_ rfl trivial; exact hv0) (by omega) (by omega) (by rw [htg, L_Rfly, if_neg c_1, if_pos c_2, if_neg c_3, if_neg c_4, if_neg c_5, if_pos c_6, if_pos c_7]) _ _ Wd _ (lv_sub hl [2, 3, 0] rfl)
                  · skip
                    obtain ⟨et, ht⟩ := struckR_j (N := N) (g := up3 (up3 gl 28 0 bi ((gl 28 0 bi) + (8 * (f_Racross (gl 31 0 bi))))) 29 0 bi ((gl 29 0 bi) + (8 * (f_Rup (gl 31 0 bi))))) (by refine rokU ?_ rfl trivial; refine rokU ?_ rfl trivial; exact hv0) c_7
                    refine lv_aload_n hx hb d_TankArenaModel_fly_127 rfl (lv_at hl 1 rfl) ?_
                    refine lv_iload_n hx hb d_TankArenaModel_fly_128 rfl (lv_at hl 2 rfl) ?_
                    refine lv_iload_n hx hb d_TankArenaModel_fly_129 rfl (lv_at hl 0 rfl) ?_
                    refine kc_Vv (As := [.int (nI bi), .int (f_Rstruck (up3 (up3 gl 28 0 bi ((gl 28 0 bi) + (8 * (f_Racross (gl 31 0 bi))))) 29 0 bi ((gl 29 0 bi) + (8 * (f_Rup (gl 31 0 bi))))) bi)]) [] X Wd (k_g_Rstrike l D cI cZ ad (up3 (up3 gl 28 0 bi ((gl 28 0 bi) + (8 * (f_Racross (gl 31 0 bi))))) 29 0 bi ((gl 29 0 bi) + (8 * (f_Rup (gl 31 0 bi))))) bi hbi (nI bi) rfl ((f_Rstruck (up3 (up3 gl 28 0 bi ((gl 28 0 bi) + (8 * (f_Racross (gl 31 0 bi))))) 29 0 bi ((gl 29 0 bi) + (8 * (f_Rup (gl 31 0 bi))))) bi).toNatClampNeg) ht (f_Rstruck (up3 (up3 gl 28 0 bi ((gl 28 0 bi) + (8 * (f_Racross (gl 31 0 bi))))) 29 0 bi ((gl 29 0 bi) + (8 * (f_Rup (gl 31 0 bi))))) bi) et N (by refine rokU ?_ rfl trivial; refine rokU ?_ rfl trivial; exact hv0)) cV_TankArenaModel_171 (kx_recv (k := 0) (i := 0) X Wd (iy 0 (by decide)) rfl rfl) rfl rfl hl.1 ⟨rfl, rfl⟩ ⟨Nat.le_of_ble_eq_true rfl, Nat.le_of_ble_eq_true rfl⟩ (Nat.le_of_ble_eq_true rfl) ⟨Nat.zero_le _, Nat.zero_le _⟩ d_TankArenaModel_fly_130 (fun u H locs hp Wd => ?_)
                    rw [hp] at Wd
                    clear hp
                    have Wd : WR D cI cZ ad _ s.heap (g_Rstrike (up3 (up3 gl 28 0 bi ((gl 28 0 bi) + (8 * (f_Racross (gl 31 0 bi))))) 29 0 bi ((gl 29 0 bi) + (8 * (f_Rup (gl 31 0 bi))))) bi ((f_Rstruck (up3 (up3 gl 28 0 bi ((gl 28 0 bi) + (8 * (f_Racross (gl 31 0 bi))))) 29 0 bi ((gl 29 0 bi) + (8 * (f_Rup (gl 31 0 bi))))) bi).toNatClampNeg)) H locs := Wd
                    refine lv_iinc (v := nI (k + 1)) (lv' := [(2, .int (nI (k + 1))), (3, .int (f_Rstruck (up3 (up3 gl 28 0 bi ((gl 28 0 bi) + (8 * (f_Racross (gl 31 0 bi))))) 29 0 bi ((gl 29 0 bi) + (8 * (f_Rup (gl 31 0 bi))))) bi)), (0, .ref (ad 0 0)), (1, .int (nI bi))]) hx hb d_TankArenaModel_fly_133 hl (k := 3) rfl (nI_1 k) (by decide) rfl (fun ls hl => ?_)
                    refine lv_goto (tgt := 2) hx hb d_TankArenaModel_fly_136 (by decide) ?_
                    exact ih (k + 1) (g_Rstrike (up3 (up3 gl 28 0 bi ((gl 28 0 bi) + (8 * (f_Racross (gl 31 0 bi))))) 29 0 bi ((gl 29 0 bi) + (8 * (f_Rup (gl 31 0 bi))))) bi ((f_Rstruck (up3 (up3 gl 28 0 bi ((gl 28 0 bi) + (8 * (f_Racross (gl 31 0 bi))))) 29 0 bi ((gl 29 0 bi) + (8 * (f_Rup (gl 31 0 bi))))) bi).toNatClampNeg)) (by refine ok_g_Rstrike ?_ bi ((f_Rstruck (up3 (up3 gl 28 0 bi ((gl 28 0 bi) + (8 * (f_Racross (gl 31 0 bi))))) 29 0 bi ((gl 29 0 bi) + (8 * (f_Rup (gl 31 0 bi))))) bi).toNatClampNeg); refine rokU ?_ rfl trivial; refine rokU ?_ rfl trivial; exact hv0) (by omega) (by omega) (by rw [htg, L_Rfly, if_neg c_1, if_pos c_2, if_neg c_3, if_neg c_4, if_neg c_5, if_pos c_6, if_neg c_7]) _ _ Wd _ (lv_sub hl [2, 3, 0] rfl)
                · skip
                  refine lv_aload_n hx hb d_TankArenaModel_fly_108 rfl (lv_at hl 0 rfl) ?_
                  refine kx_get (k := 0) (i := 0) (v := .ref (ad 33 0)) X Wd (iy 0 (by decide)) rfl fg_TankArenaModel_107 rfl d_TankArenaModel_fly_109 ?_
                  refine lv_iload_n hx hb d_TankArenaModel_fly_112 rfl (lv_at hl 1 rfl) ?_
                  refine lv_iconst (v := 1) hx hb d_TankArenaModel_fly_113 (by decide) ?_
                  refine kx_zast (k := 33) (i := 0) (j := bi) (t0 := 1) X Wd (iy 33 (by decide)) rell33 rfl rfl hbi (by decide) rfl d_TankArenaModel_fly_114 (fun H locs Wd => ?_)
                  exact kx_vret (u := up3 (up3 (up3 gl 28 0 bi ((gl 28 0 bi) + (8 * (f_Racross (gl 31 0 bi))))) 29 0 bi ((gl 29 0 bi) + (8 * (f_Rup (gl 31 0 bi))))) 33 0 bi 1) X Wd (by rw [htg, L_Rfly, if_neg c_1, if_pos c_2, if_neg c_3, if_neg c_4, if_neg c_5, if_neg c_6]) d_TankArenaModel_fly_115
  exact loop 9 0 g ok (by decide) (by decide) (by rw [g_Rfly]) _ _ Wd _ (lv_sub hl [1, 2, 0] rfl)
abbrev RM_f_Rlimited : Room := { frames := 0, cells := 0, slots := 0, locals := 0 }
set_option maxHeartbeats 1000000 in
set_option maxRecDepth 100000 in
theorem k_f_Rlimited (l : Launch) (D : va_G) (cI cZ : ClassId) (ad : Nat → Nat → Nat) (g : SG) (v : Int32) : RI l y_TankArenaModel_limited b_TankArenaModel_limited 1 (some .int) RM_f_Rlimited D cI cZ ad [.int v] g (fun (r : Int32) (u : SG) => r = f_Rlimited v ∧ u = g) := by
  refine met_of (cc := b_TankArenaModel_limited) (nL := 1) (ret := (some .int)) (by decide) rfl (Nat.le_of_ble_eq_true rfl) ?_
  intro p e s m below meth c X hnm Wd ls hl
  have X := X.tt
  have hx := X.1
  have hb := X.2.1
  have hown := X.2.2.2.1
  have hts := X.2.2.2.2.1
  have hl : lv_has ls 1 [(0, .int v)] := hl
  have Wd : WR D cI cZ ad (va_A (gR cI cZ ad g) s.heap.size) s.heap g s.heap [] := Wd
  refine lv_iload_n hx hb d_TankArenaModel_limited_0 rfl (lv_at hl 0 rfl) ?_
  refine lv_bipush (v := 16) hx hb d_TankArenaModel_limited_1 (by decide) ?_
  refine lv_icmp_ge (tgt := 11) hx hb d_TankArenaModel_limited_3 (by decide) (fun c_1 => ?_) (fun c_1 => ?_)
  · skip
    refine lv_iload_n hx hb d_TankArenaModel_limited_11 rfl (lv_at hl 0 rfl) ?_
    refine lv_sipush (v := 496) hx hb d_TankArenaModel_limited_12 (by decide) ?_
    refine lv_icmp_le (tgt := 24) hx hb d_TankArenaModel_limited_15 (by decide) (fun c_2 => ?_) (fun c_2 => ?_)
    · skip
      refine lv_iload_n hx hb d_TankArenaModel_limited_24 rfl (lv_at hl 0 rfl) ?_
      exact kx_iret (u := g) X rfl Wd ⟨by rw [f_Rlimited, if_pos c_1, if_pos c_2], rfl⟩ d_TankArenaModel_limited_25
    · skip
      refine lv_sipush (v := 496) hx hb d_TankArenaModel_limited_18 (by decide) ?_
      refine lv_goto (tgt := 25) hx hb d_TankArenaModel_limited_21 (by decide) ?_
      exact kx_iret (u := g) X rfl Wd ⟨by rw [f_Rlimited, if_pos c_1, if_neg c_2], rfl⟩ d_TankArenaModel_limited_25
  · skip
    refine lv_bipush (v := 16) hx hb d_TankArenaModel_limited_6 (by decide) ?_
    refine lv_goto (tgt := 25) hx hb d_TankArenaModel_limited_8 (by decide) ?_
    exact kx_iret (u := g) X rfl Wd ⟨by rw [f_Rlimited, if_neg c_1], rfl⟩ d_TankArenaModel_limited_25
