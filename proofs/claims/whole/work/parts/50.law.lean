/-! THE LAW, over a simulation (printed by gen/law.py) -/
def SimOK (Sim : Nat → SG → SG → Prop) : Prop := Sim 0 g0 gz ∧ (∀ c g r, Sim c g r → ∃ N, OkN N g ∧ RokN N r ∧ rng (r 0 0 4) 597) ∧ (∀ c g r, Sim c g r → c + 5 ≤ 2560 → ∀ (x1 x2 x3 : Int32), (x_enter g x1 x2 x3).1 = (x_Renter r x1 x2 x3).1 ∧ Sim (c + 5) (x_enter g x1 x2 x3).2 (x_Renter r x1 x2 x3).2) ∧ (∀ c g r, Sim c g r → c + 5 ≤ 2560 → ∀ (x1 x2 x3 x4 : Int32), (x_instr g x1 x2 x3 x4).1 = (x_Rinstr r x1 x2 x3 x4).1 ∧ Sim (c + 5) (x_instr g x1 x2 x3 x4).2 (x_Rinstr r x1 x2 x3 x4).2) ∧ (∀ c g r, Sim c g r → c + 5 ≤ 2560 →  (x_turn g ).1 = (x_Rturn r ).1 ∧ Sim (c + 5) (x_turn g ).2 (x_Rturn r ).2) ∧ (∀ c g r, Sim c g r → c + 5 ≤ 2560 →  (x_restart g ).1 = (x_Rrestart r ).1 ∧ Sim (c + 5) (x_restart g ).2 (x_Rrestart r ).2) ∧ (∀ c g r, Sim c g r → c + 5 ≤ 2560 → ∀ (x1 x2 : Int32), f_measure g x1 x2 = f_Rmeasure r x1 x2 ∧ Sim (c + 5) g r) ∧ (∀ c g r, Sim c g r → c + 5 ≤ 2560 → ∀ (x1 x2 : Int32), f_state g x1 x2 = f_Rstate r x1 x2 ∧ Sim (c + 5) g r) ∧ (∀ c g r, Sim c g r → c + 5 ≤ 2560 → ∀ (x1 x2 : Int32), f_bullet g x1 x2 = f_Rbullet r x1 x2 ∧ Sim (c + 5) g r) ∧ (∀ c g r, Sim c g r → c + 5 ≤ 2560 → ∀ (x1 : Int32), f_count g x1 = f_Rcount r x1 ∧ Sim (c + 5) g r)
section KV
variable {p : Program} {l : Launch} {e : Env} {R : Room} {s : State} {m : MethodId} {args : Array Value} {below : List Frame} {meth : Method} {c : Code} {H : Heap} {locs : List Loc} {cells slots : Nat} {Q : State → Prop}
variable {cc : ByteArray} {nL : Nat} {ret : Option FieldType} {own : String} {Ts : List Cond} {D : va_G} {cl : List vw_C} {tys : List (ClassId × FieldType)} {A : Nat → Prop} {Zs : List Zt}
variable {pc : Nat} {ls : Array Slot} {wr wc : va_W} {y : MethodName} {bytes : ByteArray} {maxL idx n : Nat} {ret1 : Option FieldType} {ws1 : List Cond} {rm : Room} {S : Type} {wf : S → va_W} {C : String} {b : Nat} {st0 : List Value}
theorem kf_Vi {post : Int32 → S → Prop} {As : List Value} (rest : List Value) (X : Cx p s m args meth c cc nL ret own Ts D cl tys A Zs) (Wd : Wo D cl A s.heap (wr ++ wc) H locs) (M : Mi l y ws1 rm D cl tys Zs (.ref b :: As) wc wf post 0 0) (K : CV own idx C y bytes maxL ret1 ws1 Ts n) (hrec : ∃ cellB : Cell, H[b]? = some cellB ∧ cellB.vm.isStatics = false ∧ s.vm.findClass C = some cellB.cls) (hst : st0 = As.reverse ++ .ref b :: rest) (hn : As.length = n) (hl : ls.size = nL) (hrm : rm.cells = 0 ∧ rm.slots = 0) (hR : rm.frames + 1 ≤ R.frames ∧ 8 + (maxL + 11) + rm.locals ≤ R.locals) (hroom : (rest.map fun v => v.category).sum ≤ 8) (hcs : cells ≤ R.cells ∧ slots ≤ R.slots) (hd : decode cc pc = .ok (.invokevirtual idx, 3))
    (kk : ∀ (r : Int32) (u : S) (H1 : Heap) (locs1 : List Loc), post r u → Wo D cl A s.heap (wr ++ wf u) H1 locs1 → W p l e R s m args below meth c H1 locs1 cells slots Q (F0 m (pc + 3) ls (.int r :: rest))) : W p l e R s m args below meth c H locs cells slots Q (F0 m pc ls st0) := by
  subst hst
  have hpre := kx_pre X (kf_sub Wd)
  obtain ⟨hG, ⟨ws', hw⟩, hdd⟩ := K
  exact kf_goi X Wd (va_runV (As := As) (rest := rest) (C := C) (b := b) ⟨X.1, X.2.1, X.2.2.1, X.2.2.2.1, X.2.2.2.2.1⟩ (M H.size) (cwV n X.2.2.2.2.1 hG hw hrm.1 hrm.2 hdd hR) ⟨C0.blind, hrec, fun U hU hW => ⟨rfl, hpre U hU hW⟩⟩ rfl hn hl rfl (lv_room hroom) hd hcs) kk
theorem kf_Vl {post : Int64 → S → Prop} {As : List Value} (rest : List Value) (X : Cx p s m args meth c cc nL ret own Ts D cl tys A Zs) (Wd : Wo D cl A s.heap (wr ++ wc) H locs) (M : Ml l y ws1 rm D cl tys Zs (.ref b :: As) wc wf post 0 0) (K : CV own idx C y bytes maxL ret1 ws1 Ts n) (hrec : ∃ cellB : Cell, H[b]? = some cellB ∧ cellB.vm.isStatics = false ∧ s.vm.findClass C = some cellB.cls) (hst : st0 = As.reverse ++ .ref b :: rest) (hn : As.length = n) (hl : ls.size = nL) (hrm : rm.cells = 0 ∧ rm.slots = 0) (hR : rm.frames + 1 ≤ R.frames ∧ 8 + (maxL + 11) + rm.locals ≤ R.locals) (hroom : (rest.map fun v => v.category).sum ≤ 8) (hcs : cells ≤ R.cells ∧ slots ≤ R.slots) (hd : decode cc pc = .ok (.invokevirtual idx, 3))
    (kk : ∀ (r : Int64) (u : S) (H1 : Heap) (locs1 : List Loc), post r u → Wo D cl A s.heap (wr ++ wf u) H1 locs1 → W p l e R s m args below meth c H1 locs1 cells slots Q (F0 m (pc + 3) ls (.long r :: rest))) : W p l e R s m args below meth c H locs cells slots Q (F0 m pc ls st0) := by
  subst hst
  have hpre := kx_pre X (kf_sub Wd)
  obtain ⟨hG, ⟨ws', hw⟩, hdd⟩ := K
  exact kf_gol X Wd (va_runV (As := As) (rest := rest) (C := C) (b := b) ⟨X.1, X.2.1, X.2.2.1, X.2.2.2.1, X.2.2.2.2.1⟩ (M H.size) (cwV n X.2.2.2.2.1 hG hw hrm.1 hrm.2 hdd hR) ⟨C0.blind, hrec, fun U hU hW => ⟨rfl, hpre U hU hW⟩⟩ rfl hn hl rfl (lv_room hroom) hd hcs) kk
end KV
theorem lcmp_self (x : Int64) : lg_cmp x x = 0 := by
  unfold lg_cmp
  simp
set_option maxHeartbeats 4000000 in
set_option maxRecDepth 100000 in
theorem law_loop {Sim : Nat → SG → SG → Prop} (hSim : SimOK Sim) {p : Program} {l : Launch} {e : Env} {s : State} {m : MethodId} {below : List Frame} {meth : Method} {c : Code} {D : va_G} {cI cZ cT cB : ClassId} {tX tY : Nat} {b L : Nat} {xs : Nat → Int32} (hL : L ≤ 2560) (hX : va_X b L xs s s.heap) (hbl : b < s.heap.size) (X1 : Cx p s m #[Value.ref b] meth c code 4 ret "TankArenaLaw" TT D clA (tysC cI cT cB) (fun q => s.heap.size ≤ q) (ZsC tX tY)) (X2 : Cx p s m #[Value.ref b] meth c code 4 ret "TankArenaLaw" TT D clA (tysR cI cZ) (fun q => s.heap.size ≤ q) []) (ad1 ad2 : Nat → Nat → Nat) :
    ∀ (n i : Nat) (g r : SG), i ≤ L → L + 5 ≤ i + 5 * n → Sim i g r → ∀ (H : Heap) (locs : List Loc), Wo D clA (fun q => s.heap.size ≤ q) s.heap (gC cI cT cB ad1 g ++ gR cI cZ ad2 r) H locs → ∀ ls : Array Slot, lv_has ls 4 [(0, .ref b), (1, .ref (ad1 0 0)), (2, .ref (ad2 0 0)), (3, .int (nI i))] → W p l e room_1 s m #[Value.ref b] below meth c H locs 89 4377 (lw_Z below #[Value.ref b] s) (F0 m 18 ls []) := by
  have hx := X1.1
  have hb := X1.2.1
  have hbA : ¬ (fun q : Nat => s.heap.size ≤ q) b := Nat.not_le.mpr hbl
  obtain ⟨hs0, hsok, hs_enter, hs_instr, hs_turn, hs_restart, hs_measure, hs_state, hs_bullet, hs_count⟩ := hSim
  intro n
  induction n with
  | zero =>
    intro i g r h1 h2
    exfalso
    omega
  | succ n ih =>
    intro i g r hi hn hs H locs Wd ls hl
    obtain ⟨N, ok, rok, hf⟩ := hsok i g r hs
    refine lv_iload_n hx hb d_TankArenaLaw_law_18 rfl (lv_at hl 3 rfl) ?_
    refine lv_aload_n hx hb d_TankArenaLaw_law_19 rfl (lv_at hl 0 rfl) ?_
    refine va_slen hx hb hX hbl hbA Wd.2.2 d_TankArenaLaw_law_20 ?_
    refine lv_iconst (v := 5) hx hb d_TankArenaLaw_law_21 (by decide) ?_
    refine lv_isub hx hb d_TankArenaLaw_law_22 ?_
    refine lv_icmp_gt (tgt := 331) hx hb d_TankArenaLaw_law_23 (by decide) (fun c_0 => ?_) (fun c_0 => ?_)
    · skip
      refine lv_iconst (v := 1) hx hb d_TankArenaLaw_law_331 (by decide) ?_
      refine va_forget (fun q hq => Wd.2.2.2.2 q hq) ?_
      refine W.widen (k := 600000) (n := 7302250) (by decide) (by decide) ?_
      exact lw_ret hx hb X1.2.2.2.2.2.2.2.2.1 X1.2.2.2.2.2.2.2.2.2.1 d_TankArenaLaw_law_332
    · skip
      have hiL : i + 5 ≤ L := by
        have e5 : (Int32.ofNat L - 5).toInt = (L : Int) - 5 := pk_sub_toInt (b := 5) (by omega) (by decide)
        rw [Int32.lt_iff_toInt_lt, e5, nI_toInt (by omega)] at c_0
        omega
      have e1 : nI i + 1 = nI (i + 1) := nI_add i 1
      have v1 : vp_in (nI i + 1) L := by rw [e1]; exact vp_in_nI (by omega) (by omega)
      have e2 : nI i + 2 = nI (i + 2) := nI_add i 2
      have v2 : vp_in (nI i + 2) L := by rw [e2]; exact vp_in_nI (by omega) (by omega)
      have e3 : nI i + 3 = nI (i + 3) := nI_add i 3
      have v3 : vp_in (nI i + 3) L := by rw [e3]; exact vp_in_nI (by omega) (by omega)
      have e4 : nI i + 4 = nI (i + 4) := nI_add i 4
      have v4 : vp_in (nI i + 4) L := by rw [e4]; exact vp_in_nI (by omega) (by omega)
      have v0 : vp_in (nI i) L := vp_in_nI (by omega) (by omega)
      refine lv_aload_n hx hb d_TankArenaLaw_law_26 rfl (lv_at hl 0 rfl) ?_
      refine lv_iload_n hx hb d_TankArenaLaw_law_27 rfl (lv_at hl 3 rfl) ?_
      refine va_sld hx hb hX hbl hbA Wd.2.2 v0 d_TankArenaLaw_law_28 ?_
      refine lv_bipush (v := 7) hx hb d_TankArenaLaw_law_29 (by decide) ?_
      refine lv_iand hx hb d_TankArenaLaw_law_31 ?_
      obtain ⟨sel, hsel, esel⟩ := pk_andE (xs (nI i).toNatClampNeg) (m := 7) 3 rfl
      rw [esel]
      obtain ⟨x1, ex1⟩ : ∃ z : Int32, z = xs (nI i + 1).toNatClampNeg := ⟨_, rfl⟩
      obtain ⟨x2, ex2⟩ : ∃ z : Int32, z = xs (nI i + 2).toNatClampNeg := ⟨_, rfl⟩
      obtain ⟨x3, ex3⟩ : ∃ z : Int32, z = xs (nI i + 3).toNatClampNeg := ⟨_, rfl⟩
      obtain ⟨x4, ex4⟩ : ∃ z : Int32, z = xs (nI i + 4).toNatClampNeg := ⟨_, rfl⟩
      match sel, hsel with
      | 0, _ =>
        refine lv_tableIn (tgt := 80) hx hb d_TankArenaLaw_law_32 (by decide) (by decide) rfl (by decide) ?_
        refine lv_aload_n hx hb d_TankArenaLaw_law_80 rfl (lv_at hl 1 rfl) ?_
        refine lv_aload_n hx hb d_TankArenaLaw_law_81 rfl (lv_at hl 0 rfl) ?_
        refine lv_iload_n hx hb d_TankArenaLaw_law_82 rfl (lv_at hl 3 rfl) ?_
        refine lv_iconst (v := 1) hx hb d_TankArenaLaw_law_83 (by decide) ?_
        refine lv_iadd hx hb d_TankArenaLaw_law_84 ?_
        refine va_sld hx hb hX hbl hbA Wd.2.2 v1 d_TankArenaLaw_law_85 ?_
        rw [← ex1]
        refine lv_aload_n hx hb d_TankArenaLaw_law_86 rfl (lv_at hl 0 rfl) ?_
        refine lv_iload_n hx hb d_TankArenaLaw_law_87 rfl (lv_at hl 3 rfl) ?_
        refine lv_iconst (v := 2) hx hb d_TankArenaLaw_law_88 (by decide) ?_
        refine lv_iadd hx hb d_TankArenaLaw_law_89 ?_
        refine va_sld hx hb hX hbl hbA Wd.2.2 v2 d_TankArenaLaw_law_90 ?_
        rw [← ex2]
        refine lv_aload_n hx hb d_TankArenaLaw_law_91 rfl (lv_at hl 0 rfl) ?_
        refine lv_iload_n hx hb d_TankArenaLaw_law_92 rfl (lv_at hl 3 rfl) ?_
        refine lv_iconst (v := 3) hx hb d_TankArenaLaw_law_93 (by decide) ?_
        refine lv_iadd hx hb d_TankArenaLaw_law_94 ?_
        refine va_sld hx hb hX hbl hbA Wd.2.2 v3 d_TankArenaLaw_law_95 ?_
        rw [← ex3]
        have Wd := Wd.comm
        refine kf_Vi (As := [.int x1, .int x2, .int x3]) [] X1 Wd (k_x_enter l D cI cT cB ad1 tX tY g x1 x2 x3 N ok) cV_TankArenaLaw_13 (kx_recv (k := 0) (i := 0) X1 (kf_sub Wd) (ix0) rfl rfl) rfl rfl hl.1 ⟨rfl, rfl⟩ ⟨Nat.le_of_ble_eq_true rfl, Nat.le_of_ble_eq_true rfl⟩ (Nat.le_of_ble_eq_true rfl) ⟨Nat.le_of_ble_eq_true rfl, Nat.le_of_ble_eq_true rfl⟩ d_TankArenaLaw_law_96 (fun rr u H locs hp Wd => ?_)
        obtain ⟨hr, hu⟩ := hp
        rw [hu] at Wd
        rw [hr]
        clear hr hu
        refine lv_aload_n hx hb d_TankArenaLaw_law_99 rfl (lv_at hl 2 rfl) ?_
        refine lv_aload_n hx hb d_TankArenaLaw_law_100 rfl (lv_at hl 0 rfl) ?_
        refine lv_iload_n hx hb d_TankArenaLaw_law_101 rfl (lv_at hl 3 rfl) ?_
        refine lv_iconst (v := 1) hx hb d_TankArenaLaw_law_102 (by decide) ?_
        refine lv_iadd hx hb d_TankArenaLaw_law_103 ?_
        refine va_sld hx hb hX hbl hbA Wd.2.2 v1 d_TankArenaLaw_law_104 ?_
        rw [← ex1]
        refine lv_aload_n hx hb d_TankArenaLaw_law_105 rfl (lv_at hl 0 rfl) ?_
        refine lv_iload_n hx hb d_TankArenaLaw_law_106 rfl (lv_at hl 3 rfl) ?_
        refine lv_iconst (v := 2) hx hb d_TankArenaLaw_law_107 (by decide) ?_
        refine lv_iadd hx hb d_TankArenaLaw_law_108 ?_
        refine va_sld hx hb hX hbl hbA Wd.2.2 v2 d_TankArenaLaw_law_109 ?_
        rw [← ex2]
        refine lv_aload_n hx hb d_TankArenaLaw_law_110 rfl (lv_at hl 0 rfl) ?_
        refine lv_iload_n hx hb d_TankArenaLaw_law_111 rfl (lv_at hl 3 rfl) ?_
        refine lv_iconst (v := 3) hx hb d_TankArenaLaw_law_112 (by decide) ?_
        refine lv_iadd hx hb d_TankArenaLaw_law_113 ?_
        refine va_sld hx hb hX hbl hbA Wd.2.2 v3 d_TankArenaLaw_law_114 ?_
        rw [← ex3]
        have Wd := Wd.comm
        refine kf_Vi (As := [.int x1, .int x2, .int x3]) [.int ((x_enter g x1 x2 x3).1)] X2 Wd (k_x_Renter l D cI cZ ad2 r x1 x2 x3 N rok) cV_TankArenaLaw_17 (kx_recv (k := 0) (i := 0) X2 (kf_sub Wd) (iy 0 (by decide)) rfl rfl) rfl rfl hl.1 ⟨rfl, rfl⟩ ⟨Nat.le_of_ble_eq_true rfl, Nat.le_of_ble_eq_true rfl⟩ (Nat.le_of_ble_eq_true rfl) ⟨Nat.le_of_ble_eq_true rfl, Nat.le_of_ble_eq_true rfl⟩ d_TankArenaLaw_law_115 (fun rr u H locs hp Wd => ?_)
        obtain ⟨hr, hu⟩ := hp
        rw [hu] at Wd
        rw [hr]
        clear hr hu
        obtain ⟨hans, hs2⟩ := hs_enter i g r hs (by omega) x1 x2 x3
        have Wd : Wo D clA (fun q => s.heap.size ≤ q) s.heap (gC cI cT cB ad1 ((x_enter g x1 x2 x3).2) ++ gR cI cZ ad2 ((x_Renter r x1 x2 x3).2)) H locs := Wd
        refine lv_icmp_eq (tgt := 325) hx hb d_TankArenaLaw_law_118 (by decide) (fun c_1 => ?_) (fun c_1 => ?_)
        · skip
          refine lv_iinc (v := nI (i + 5)) (lv' := [(3, .int (nI (i + 5))), (0, .ref b), (1, .ref (ad1 0 0)), (2, .ref (ad2 0 0))]) hx hb d_TankArenaLaw_law_325 hl (k := 3) rfl (nI_add i 5) (by decide) rfl (fun ls hl => ?_)
          refine lv_goto (tgt := 18) hx hb d_TankArenaLaw_law_328 (by decide) ?_
          exact ih (i + 5) _ _ hiL (by omega) hs2 _ _ Wd _ (lv_sub hl [1, 2, 3, 0] rfl)
        · exact absurd hans c_1
      | 1, _ =>
        refine lv_tableIn (tgt := 123) hx hb d_TankArenaLaw_law_32 (by decide) (by decide) rfl (by decide) ?_
        refine lv_aload_n hx hb d_TankArenaLaw_law_123 rfl (lv_at hl 1 rfl) ?_
        refine lv_aload_n hx hb d_TankArenaLaw_law_124 rfl (lv_at hl 0 rfl) ?_
        refine lv_iload_n hx hb d_TankArenaLaw_law_125 rfl (lv_at hl 3 rfl) ?_
        refine lv_iconst (v := 1) hx hb d_TankArenaLaw_law_126 (by decide) ?_
        refine lv_iadd hx hb d_TankArenaLaw_law_127 ?_
        refine va_sld hx hb hX hbl hbA Wd.2.2 v1 d_TankArenaLaw_law_128 ?_
        rw [← ex1]
        refine lv_aload_n hx hb d_TankArenaLaw_law_129 rfl (lv_at hl 0 rfl) ?_
        refine lv_iload_n hx hb d_TankArenaLaw_law_130 rfl (lv_at hl 3 rfl) ?_
        refine lv_iconst (v := 2) hx hb d_TankArenaLaw_law_131 (by decide) ?_
        refine lv_iadd hx hb d_TankArenaLaw_law_132 ?_
        refine va_sld hx hb hX hbl hbA Wd.2.2 v2 d_TankArenaLaw_law_133 ?_
        rw [← ex2]
        refine lv_aload_n hx hb d_TankArenaLaw_law_134 rfl (lv_at hl 0 rfl) ?_
        refine lv_iload_n hx hb d_TankArenaLaw_law_135 rfl (lv_at hl 3 rfl) ?_
        refine lv_iconst (v := 3) hx hb d_TankArenaLaw_law_136 (by decide) ?_
        refine lv_iadd hx hb d_TankArenaLaw_law_137 ?_
        refine va_sld hx hb hX hbl hbA Wd.2.2 v3 d_TankArenaLaw_law_138 ?_
        rw [← ex3]
        refine lv_aload_n hx hb d_TankArenaLaw_law_139 rfl (lv_at hl 0 rfl) ?_
        refine lv_iload_n hx hb d_TankArenaLaw_law_140 rfl (lv_at hl 3 rfl) ?_
        refine lv_iconst (v := 4) hx hb d_TankArenaLaw_law_141 (by decide) ?_
        refine lv_iadd hx hb d_TankArenaLaw_law_142 ?_
        refine va_sld hx hb hX hbl hbA Wd.2.2 v4 d_TankArenaLaw_law_143 ?_
        rw [← ex4]
        have Wd := Wd.comm
        refine kf_Vi (As := [.int x1, .int x2, .int x3, .int x4]) [] X1 Wd (k_x_instr l D cI cT cB ad1 tX tY g x1 x2 x3 x4 N ok) cV_TankArenaLaw_18 (kx_recv (k := 0) (i := 0) X1 (kf_sub Wd) (ix0) rfl rfl) rfl rfl hl.1 ⟨rfl, rfl⟩ ⟨Nat.le_of_ble_eq_true rfl, Nat.le_of_ble_eq_true rfl⟩ (Nat.le_of_ble_eq_true rfl) ⟨Nat.le_of_ble_eq_true rfl, Nat.le_of_ble_eq_true rfl⟩ d_TankArenaLaw_law_144 (fun rr u H locs hp Wd => ?_)
        obtain ⟨hr, hu⟩ := hp
        rw [hu] at Wd
        rw [hr]
        clear hr hu
        refine lv_aload_n hx hb d_TankArenaLaw_law_147 rfl (lv_at hl 2 rfl) ?_
        refine lv_aload_n hx hb d_TankArenaLaw_law_148 rfl (lv_at hl 0 rfl) ?_
        refine lv_iload_n hx hb d_TankArenaLaw_law_149 rfl (lv_at hl 3 rfl) ?_
        refine lv_iconst (v := 1) hx hb d_TankArenaLaw_law_150 (by decide) ?_
        refine lv_iadd hx hb d_TankArenaLaw_law_151 ?_
        refine va_sld hx hb hX hbl hbA Wd.2.2 v1 d_TankArenaLaw_law_152 ?_
        rw [← ex1]
        refine lv_aload_n hx hb d_TankArenaLaw_law_153 rfl (lv_at hl 0 rfl) ?_
        refine lv_iload_n hx hb d_TankArenaLaw_law_154 rfl (lv_at hl 3 rfl) ?_
        refine lv_iconst (v := 2) hx hb d_TankArenaLaw_law_155 (by decide) ?_
        refine lv_iadd hx hb d_TankArenaLaw_law_156 ?_
        refine va_sld hx hb hX hbl hbA Wd.2.2 v2 d_TankArenaLaw_law_157 ?_
        rw [← ex2]
        refine lv_aload_n hx hb d_TankArenaLaw_law_158 rfl (lv_at hl 0 rfl) ?_
        refine lv_iload_n hx hb d_TankArenaLaw_law_159 rfl (lv_at hl 3 rfl) ?_
        refine lv_iconst (v := 3) hx hb d_TankArenaLaw_law_160 (by decide) ?_
        refine lv_iadd hx hb d_TankArenaLaw_law_161 ?_
        refine va_sld hx hb hX hbl hbA Wd.2.2 v3 d_TankArenaLaw_law_162 ?_
        rw [← ex3]
        refine lv_aload_n hx hb d_TankArenaLaw_law_163 rfl (lv_at hl 0 rfl) ?_
        refine lv_iload_n hx hb d_TankArenaLaw_law_164 rfl (lv_at hl 3 rfl) ?_
        refine lv_iconst (v := 4) hx hb d_TankArenaLaw_law_165 (by decide) ?_
        refine lv_iadd hx hb d_TankArenaLaw_law_166 ?_
        refine va_sld hx hb hX hbl hbA Wd.2.2 v4 d_TankArenaLaw_law_167 ?_
        rw [← ex4]
        have Wd := Wd.comm
        refine kf_Vi (As := [.int x1, .int x2, .int x3, .int x4]) [.int ((x_instr g x1 x2 x3 x4).1)] X2 Wd (k_x_Rinstr l D cI cZ ad2 r x1 x2 x3 x4 N rok) cV_TankArenaLaw_22 (kx_recv (k := 0) (i := 0) X2 (kf_sub Wd) (iy 0 (by decide)) rfl rfl) rfl rfl hl.1 ⟨rfl, rfl⟩ ⟨Nat.le_of_ble_eq_true rfl, Nat.le_of_ble_eq_true rfl⟩ (Nat.le_of_ble_eq_true rfl) ⟨Nat.le_of_ble_eq_true rfl, Nat.le_of_ble_eq_true rfl⟩ d_TankArenaLaw_law_168 (fun rr u H locs hp Wd => ?_)
        obtain ⟨hr, hu⟩ := hp
        rw [hu] at Wd
        rw [hr]
        clear hr hu
        obtain ⟨hans, hs2⟩ := hs_instr i g r hs (by omega) x1 x2 x3 x4
        have Wd : Wo D clA (fun q => s.heap.size ≤ q) s.heap (gC cI cT cB ad1 ((x_instr g x1 x2 x3 x4).2) ++ gR cI cZ ad2 ((x_Rinstr r x1 x2 x3 x4).2)) H locs := Wd
        refine lv_icmp_eq (tgt := 325) hx hb d_TankArenaLaw_law_171 (by decide) (fun c_1 => ?_) (fun c_1 => ?_)
        · skip
          refine lv_iinc (v := nI (i + 5)) (lv' := [(3, .int (nI (i + 5))), (0, .ref b), (1, .ref (ad1 0 0)), (2, .ref (ad2 0 0))]) hx hb d_TankArenaLaw_law_325 hl (k := 3) rfl (nI_add i 5) (by decide) rfl (fun ls hl => ?_)
          refine lv_goto (tgt := 18) hx hb d_TankArenaLaw_law_328 (by decide) ?_
          exact ih (i + 5) _ _ hiL (by omega) hs2 _ _ Wd _ (lv_sub hl [1, 2, 3, 0] rfl)
        · exact absurd hans c_1
      | 2, _ =>
        refine lv_tableIn (tgt := 176) hx hb d_TankArenaLaw_law_32 (by decide) (by decide) rfl (by decide) ?_
        refine lv_aload_n hx hb d_TankArenaLaw_law_176 rfl (lv_at hl 1 rfl) ?_
        have Wd := Wd.comm
        refine kf_Vi (As := []) [] X1 Wd (k_x_turn l D cI cT cB ad1 tX tY g  N ok) cV_TankArenaLaw_23 (kx_recv (k := 0) (i := 0) X1 (kf_sub Wd) (ix0) rfl rfl) rfl rfl hl.1 ⟨rfl, rfl⟩ ⟨Nat.le_of_ble_eq_true rfl, Nat.le_of_ble_eq_true rfl⟩ (Nat.le_of_ble_eq_true rfl) ⟨Nat.le_of_ble_eq_true rfl, Nat.le_of_ble_eq_true rfl⟩ d_TankArenaLaw_law_177 (fun rr u H locs hp Wd => ?_)
        obtain ⟨hr, hu⟩ := hp
        rw [hu] at Wd
        rw [hr]
        clear hr hu
        refine lv_aload_n hx hb d_TankArenaLaw_law_180 rfl (lv_at hl 2 rfl) ?_
        have Wd := Wd.comm
        refine kf_Vi (As := []) [.int ((x_turn g ).1)] X2 Wd (k_x_Rturn l D cI cZ ad2 r  N rok hf) cV_TankArenaLaw_27 (kx_recv (k := 0) (i := 0) X2 (kf_sub Wd) (iy 0 (by decide)) rfl rfl) rfl rfl hl.1 ⟨rfl, rfl⟩ ⟨Nat.le_of_ble_eq_true rfl, Nat.le_of_ble_eq_true rfl⟩ (Nat.le_of_ble_eq_true rfl) ⟨Nat.le_of_ble_eq_true rfl, Nat.le_of_ble_eq_true rfl⟩ d_TankArenaLaw_law_181 (fun rr u H locs hp Wd => ?_)
        obtain ⟨hr, hu⟩ := hp
        rw [hu] at Wd
        rw [hr]
        clear hr hu
        obtain ⟨hans, hs2⟩ := hs_turn i g r hs (by omega) 
        have Wd : Wo D clA (fun q => s.heap.size ≤ q) s.heap (gC cI cT cB ad1 ((x_turn g ).2) ++ gR cI cZ ad2 ((x_Rturn r ).2)) H locs := Wd
        refine lv_icmp_eq (tgt := 325) hx hb d_TankArenaLaw_law_184 (by decide) (fun c_1 => ?_) (fun c_1 => ?_)
        · skip
          refine lv_iinc (v := nI (i + 5)) (lv' := [(3, .int (nI (i + 5))), (0, .ref b), (1, .ref (ad1 0 0)), (2, .ref (ad2 0 0))]) hx hb d_TankArenaLaw_law_325 hl (k := 3) rfl (nI_add i 5) (by decide) rfl (fun ls hl => ?_)
          refine lv_goto (tgt := 18) hx hb d_TankArenaLaw_law_328 (by decide) ?_
          exact ih (i + 5) _ _ hiL (by omega) hs2 _ _ Wd _ (lv_sub hl [1, 2, 3, 0] rfl)
        · exact absurd hans c_1
      | 3, _ =>
        refine lv_tableIn (tgt := 189) hx hb d_TankArenaLaw_law_32 (by decide) (by decide) rfl (by decide) ?_
        refine lv_aload_n hx hb d_TankArenaLaw_law_189 rfl (lv_at hl 1 rfl) ?_
        have Wd := Wd.comm
        refine kf_Vi (As := []) [] X1 Wd (k_x_restart l D cI cT cB ad1 tX tY g  N ok) cV_TankArenaLaw_28 (kx_recv (k := 0) (i := 0) X1 (kf_sub Wd) (ix0) rfl rfl) rfl rfl hl.1 ⟨rfl, rfl⟩ ⟨Nat.le_of_ble_eq_true rfl, Nat.le_of_ble_eq_true rfl⟩ (Nat.le_of_ble_eq_true rfl) ⟨Nat.le_of_ble_eq_true rfl, Nat.le_of_ble_eq_true rfl⟩ d_TankArenaLaw_law_190 (fun rr u H locs hp Wd => ?_)
        obtain ⟨hr, hu⟩ := hp
        rw [hu] at Wd
        rw [hr]
        clear hr hu
        refine lv_aload_n hx hb d_TankArenaLaw_law_193 rfl (lv_at hl 2 rfl) ?_
        have Wd := Wd.comm
        refine kf_Vi (As := []) [.int ((x_restart g ).1)] X2 Wd (k_x_Rrestart l D cI cZ ad2 r  N rok) cV_TankArenaLaw_31 (kx_recv (k := 0) (i := 0) X2 (kf_sub Wd) (iy 0 (by decide)) rfl rfl) rfl rfl hl.1 ⟨rfl, rfl⟩ ⟨Nat.le_of_ble_eq_true rfl, Nat.le_of_ble_eq_true rfl⟩ (Nat.le_of_ble_eq_true rfl) ⟨Nat.le_of_ble_eq_true rfl, Nat.le_of_ble_eq_true rfl⟩ d_TankArenaLaw_law_194 (fun rr u H locs hp Wd => ?_)
        obtain ⟨hr, hu⟩ := hp
        rw [hu] at Wd
        rw [hr]
        clear hr hu
        obtain ⟨hans, hs2⟩ := hs_restart i g r hs (by omega) 
        have Wd : Wo D clA (fun q => s.heap.size ≤ q) s.heap (gC cI cT cB ad1 ((x_restart g ).2) ++ gR cI cZ ad2 ((x_Rrestart r ).2)) H locs := Wd
        refine lv_icmp_eq (tgt := 325) hx hb d_TankArenaLaw_law_197 (by decide) (fun c_1 => ?_) (fun c_1 => ?_)
        · skip
          refine lv_iinc (v := nI (i + 5)) (lv' := [(3, .int (nI (i + 5))), (0, .ref b), (1, .ref (ad1 0 0)), (2, .ref (ad2 0 0))]) hx hb d_TankArenaLaw_law_325 hl (k := 3) rfl (nI_add i 5) (by decide) rfl (fun ls hl => ?_)
          refine lv_goto (tgt := 18) hx hb d_TankArenaLaw_law_328 (by decide) ?_
          exact ih (i + 5) _ _ hiL (by omega) hs2 _ _ Wd _ (lv_sub hl [1, 2, 3, 0] rfl)
        · exact absurd hans c_1
      | 4, _ =>
        refine lv_tableIn (tgt := 202) hx hb d_TankArenaLaw_law_32 (by decide) (by decide) rfl (by decide) ?_
        refine lv_aload_n hx hb d_TankArenaLaw_law_202 rfl (lv_at hl 1 rfl) ?_
        refine lv_aload_n hx hb d_TankArenaLaw_law_203 rfl (lv_at hl 0 rfl) ?_
        refine lv_iload_n hx hb d_TankArenaLaw_law_204 rfl (lv_at hl 3 rfl) ?_
        refine lv_iconst (v := 1) hx hb d_TankArenaLaw_law_205 (by decide) ?_
        refine lv_iadd hx hb d_TankArenaLaw_law_206 ?_
        refine va_sld hx hb hX hbl hbA Wd.2.2 v1 d_TankArenaLaw_law_207 ?_
        rw [← ex1]
        refine lv_aload_n hx hb d_TankArenaLaw_law_208 rfl (lv_at hl 0 rfl) ?_
        refine lv_iload_n hx hb d_TankArenaLaw_law_209 rfl (lv_at hl 3 rfl) ?_
        refine lv_iconst (v := 2) hx hb d_TankArenaLaw_law_210 (by decide) ?_
        refine lv_iadd hx hb d_TankArenaLaw_law_211 ?_
        refine va_sld hx hb hX hbl hbA Wd.2.2 v2 d_TankArenaLaw_law_212 ?_
        rw [← ex2]
        have Wd := Wd.comm
        refine kf_Vl (As := [.int x1, .int x2]) [] X1 Wd (k_f_measure l D cI cT cB ad1 tX tY g x1 x2 N ok) cV_TankArenaLaw_32 (kx_recv (k := 0) (i := 0) X1 (kf_sub Wd) (ix0) rfl rfl) rfl rfl hl.1 ⟨rfl, rfl⟩ ⟨Nat.le_of_ble_eq_true rfl, Nat.le_of_ble_eq_true rfl⟩ (Nat.le_of_ble_eq_true rfl) ⟨Nat.le_of_ble_eq_true rfl, Nat.le_of_ble_eq_true rfl⟩ d_TankArenaLaw_law_213 (fun rr u H locs hp Wd => ?_)
        obtain ⟨hr, hu⟩ := hp
        rw [hu] at Wd
        rw [hr]
        clear hr hu
        refine lv_aload_n hx hb d_TankArenaLaw_law_216 rfl (lv_at hl 2 rfl) ?_
        refine lv_aload_n hx hb d_TankArenaLaw_law_217 rfl (lv_at hl 0 rfl) ?_
        refine lv_iload_n hx hb d_TankArenaLaw_law_218 rfl (lv_at hl 3 rfl) ?_
        refine lv_iconst (v := 1) hx hb d_TankArenaLaw_law_219 (by decide) ?_
        refine lv_iadd hx hb d_TankArenaLaw_law_220 ?_
        refine va_sld hx hb hX hbl hbA Wd.2.2 v1 d_TankArenaLaw_law_221 ?_
        rw [← ex1]
        refine lv_aload_n hx hb d_TankArenaLaw_law_222 rfl (lv_at hl 0 rfl) ?_
        refine lv_iload_n hx hb d_TankArenaLaw_law_223 rfl (lv_at hl 3 rfl) ?_
        refine lv_iconst (v := 2) hx hb d_TankArenaLaw_law_224 (by decide) ?_
        refine lv_iadd hx hb d_TankArenaLaw_law_225 ?_
        refine va_sld hx hb hX hbl hbA Wd.2.2 v2 d_TankArenaLaw_law_226 ?_
        rw [← ex2]
        have Wd := Wd.comm
        refine kf_Vl (As := [.int x1, .int x2]) [.long (f_measure g x1 x2)] X2 Wd (k_f_Rmeasure l D cI cZ ad2 r x1 x2 N rok) cV_TankArenaLaw_36 (kx_recv (k := 0) (i := 0) X2 (kf_sub Wd) (iy 0 (by decide)) rfl rfl) rfl rfl hl.1 ⟨rfl, rfl⟩ ⟨Nat.le_of_ble_eq_true rfl, Nat.le_of_ble_eq_true rfl⟩ (Nat.le_of_ble_eq_true rfl) ⟨Nat.le_of_ble_eq_true rfl, Nat.le_of_ble_eq_true rfl⟩ d_TankArenaLaw_law_227 (fun rr u H locs hp Wd => ?_)
        obtain ⟨hr, hu⟩ := hp
        rw [hu] at Wd
        rw [hr]
        clear hr hu
        obtain ⟨hans, hs2⟩ := hs_measure i g r hs (by omega) x1 x2
        have Wd : Wo D clA (fun q => s.heap.size ≤ q) s.heap (gC cI cT cB ad1 g ++ gR cI cZ ad2 r) H locs := Wd
        refine W.lcmp hx hb d_TankArenaLaw_law_230 ?_
        rw [hans, lcmp_self]
        refine lv_if_eq (tgt := 325) hx hb d_TankArenaLaw_law_231 (by decide) (fun c_1 => ?_) (fun c_1 => ?_)
        · skip
          refine lv_iinc (v := nI (i + 5)) (lv' := [(3, .int (nI (i + 5))), (0, .ref b), (1, .ref (ad1 0 0)), (2, .ref (ad2 0 0))]) hx hb d_TankArenaLaw_law_325 hl (k := 3) rfl (nI_add i 5) (by decide) rfl (fun ls hl => ?_)
          refine lv_goto (tgt := 18) hx hb d_TankArenaLaw_law_328 (by decide) ?_
          exact ih (i + 5) _ _ hiL (by omega) hs2 _ _ Wd _ (lv_sub hl [1, 2, 3, 0] rfl)
        · exact absurd rfl c_1
      | 5, _ =>
        refine lv_tableIn (tgt := 236) hx hb d_TankArenaLaw_law_32 (by decide) (by decide) rfl (by decide) ?_
        refine lv_aload_n hx hb d_TankArenaLaw_law_236 rfl (lv_at hl 1 rfl) ?_
        refine lv_aload_n hx hb d_TankArenaLaw_law_237 rfl (lv_at hl 0 rfl) ?_
        refine lv_iload_n hx hb d_TankArenaLaw_law_238 rfl (lv_at hl 3 rfl) ?_
        refine lv_iconst (v := 1) hx hb d_TankArenaLaw_law_239 (by decide) ?_
        refine lv_iadd hx hb d_TankArenaLaw_law_240 ?_
        refine va_sld hx hb hX hbl hbA Wd.2.2 v1 d_TankArenaLaw_law_241 ?_
        rw [← ex1]
        refine lv_aload_n hx hb d_TankArenaLaw_law_242 rfl (lv_at hl 0 rfl) ?_
        refine lv_iload_n hx hb d_TankArenaLaw_law_243 rfl (lv_at hl 3 rfl) ?_
        refine lv_iconst (v := 2) hx hb d_TankArenaLaw_law_244 (by decide) ?_
        refine lv_iadd hx hb d_TankArenaLaw_law_245 ?_
        refine va_sld hx hb hX hbl hbA Wd.2.2 v2 d_TankArenaLaw_law_246 ?_
        rw [← ex2]
        have Wd := Wd.comm
        refine kf_Vi (As := [.int x1, .int x2]) [] X1 Wd (k_f_state l D cI cT cB ad1 tX tY g x1 x2 N ok) cV_TankArenaLaw_37 (kx_recv (k := 0) (i := 0) X1 (kf_sub Wd) (ix0) rfl rfl) rfl rfl hl.1 ⟨rfl, rfl⟩ ⟨Nat.le_of_ble_eq_true rfl, Nat.le_of_ble_eq_true rfl⟩ (Nat.le_of_ble_eq_true rfl) ⟨Nat.le_of_ble_eq_true rfl, Nat.le_of_ble_eq_true rfl⟩ d_TankArenaLaw_law_247 (fun rr u H locs hp Wd => ?_)
        obtain ⟨hr, hu⟩ := hp
        rw [hu] at Wd
        rw [hr]
        clear hr hu
        refine lv_aload_n hx hb d_TankArenaLaw_law_250 rfl (lv_at hl 2 rfl) ?_
        refine lv_aload_n hx hb d_TankArenaLaw_law_251 rfl (lv_at hl 0 rfl) ?_
        refine lv_iload_n hx hb d_TankArenaLaw_law_252 rfl (lv_at hl 3 rfl) ?_
        refine lv_iconst (v := 1) hx hb d_TankArenaLaw_law_253 (by decide) ?_
        refine lv_iadd hx hb d_TankArenaLaw_law_254 ?_
        refine va_sld hx hb hX hbl hbA Wd.2.2 v1 d_TankArenaLaw_law_255 ?_
        rw [← ex1]
        refine lv_aload_n hx hb d_TankArenaLaw_law_256 rfl (lv_at hl 0 rfl) ?_
        refine lv_iload_n hx hb d_TankArenaLaw_law_257 rfl (lv_at hl 3 rfl) ?_
        refine lv_iconst (v := 2) hx hb d_TankArenaLaw_law_258 (by decide) ?_
        refine lv_iadd hx hb d_TankArenaLaw_law_259 ?_
        refine va_sld hx hb hX hbl hbA Wd.2.2 v2 d_TankArenaLaw_law_260 ?_
        rw [← ex2]
        have Wd := Wd.comm
        refine kf_Vi (As := [.int x1, .int x2]) [.int (f_state g x1 x2)] X2 Wd (k_f_Rstate l D cI cZ ad2 r x1 x2 N rok) cV_TankArenaLaw_41 (kx_recv (k := 0) (i := 0) X2 (kf_sub Wd) (iy 0 (by decide)) rfl rfl) rfl rfl hl.1 ⟨rfl, rfl⟩ ⟨Nat.le_of_ble_eq_true rfl, Nat.le_of_ble_eq_true rfl⟩ (Nat.le_of_ble_eq_true rfl) ⟨Nat.le_of_ble_eq_true rfl, Nat.le_of_ble_eq_true rfl⟩ d_TankArenaLaw_law_261 (fun rr u H locs hp Wd => ?_)
        obtain ⟨hr, hu⟩ := hp
        rw [hu] at Wd
        rw [hr]
        clear hr hu
        obtain ⟨hans, hs2⟩ := hs_state i g r hs (by omega) x1 x2
        have Wd : Wo D clA (fun q => s.heap.size ≤ q) s.heap (gC cI cT cB ad1 g ++ gR cI cZ ad2 r) H locs := Wd
        refine lv_icmp_eq (tgt := 325) hx hb d_TankArenaLaw_law_264 (by decide) (fun c_1 => ?_) (fun c_1 => ?_)
        · skip
          refine lv_iinc (v := nI (i + 5)) (lv' := [(3, .int (nI (i + 5))), (0, .ref b), (1, .ref (ad1 0 0)), (2, .ref (ad2 0 0))]) hx hb d_TankArenaLaw_law_325 hl (k := 3) rfl (nI_add i 5) (by decide) rfl (fun ls hl => ?_)
          refine lv_goto (tgt := 18) hx hb d_TankArenaLaw_law_328 (by decide) ?_
          exact ih (i + 5) _ _ hiL (by omega) hs2 _ _ Wd _ (lv_sub hl [1, 2, 3, 0] rfl)
        · exact absurd hans c_1
      | 6, _ =>
        refine lv_tableIn (tgt := 269) hx hb d_TankArenaLaw_law_32 (by decide) (by decide) rfl (by decide) ?_
        refine lv_aload_n hx hb d_TankArenaLaw_law_269 rfl (lv_at hl 1 rfl) ?_
        refine lv_aload_n hx hb d_TankArenaLaw_law_270 rfl (lv_at hl 0 rfl) ?_
        refine lv_iload_n hx hb d_TankArenaLaw_law_271 rfl (lv_at hl 3 rfl) ?_
        refine lv_iconst (v := 1) hx hb d_TankArenaLaw_law_272 (by decide) ?_
        refine lv_iadd hx hb d_TankArenaLaw_law_273 ?_
        refine va_sld hx hb hX hbl hbA Wd.2.2 v1 d_TankArenaLaw_law_274 ?_
        rw [← ex1]
        refine lv_aload_n hx hb d_TankArenaLaw_law_275 rfl (lv_at hl 0 rfl) ?_
        refine lv_iload_n hx hb d_TankArenaLaw_law_276 rfl (lv_at hl 3 rfl) ?_
        refine lv_iconst (v := 2) hx hb d_TankArenaLaw_law_277 (by decide) ?_
        refine lv_iadd hx hb d_TankArenaLaw_law_278 ?_
        refine va_sld hx hb hX hbl hbA Wd.2.2 v2 d_TankArenaLaw_law_279 ?_
        rw [← ex2]
        have Wd := Wd.comm
        refine kf_Vi (As := [.int x1, .int x2]) [] X1 Wd (k_f_bullet l D cI cT cB ad1 tX tY g x1 x2 N ok) cV_TankArenaLaw_42 (kx_recv (k := 0) (i := 0) X1 (kf_sub Wd) (ix0) rfl rfl) rfl rfl hl.1 ⟨rfl, rfl⟩ ⟨Nat.le_of_ble_eq_true rfl, Nat.le_of_ble_eq_true rfl⟩ (Nat.le_of_ble_eq_true rfl) ⟨Nat.le_of_ble_eq_true rfl, Nat.le_of_ble_eq_true rfl⟩ d_TankArenaLaw_law_280 (fun rr u H locs hp Wd => ?_)
        obtain ⟨hr, hu⟩ := hp
        rw [hu] at Wd
        rw [hr]
        clear hr hu
        refine lv_aload_n hx hb d_TankArenaLaw_law_283 rfl (lv_at hl 2 rfl) ?_
        refine lv_aload_n hx hb d_TankArenaLaw_law_284 rfl (lv_at hl 0 rfl) ?_
        refine lv_iload_n hx hb d_TankArenaLaw_law_285 rfl (lv_at hl 3 rfl) ?_
        refine lv_iconst (v := 1) hx hb d_TankArenaLaw_law_286 (by decide) ?_
        refine lv_iadd hx hb d_TankArenaLaw_law_287 ?_
        refine va_sld hx hb hX hbl hbA Wd.2.2 v1 d_TankArenaLaw_law_288 ?_
        rw [← ex1]
        refine lv_aload_n hx hb d_TankArenaLaw_law_289 rfl (lv_at hl 0 rfl) ?_
        refine lv_iload_n hx hb d_TankArenaLaw_law_290 rfl (lv_at hl 3 rfl) ?_
        refine lv_iconst (v := 2) hx hb d_TankArenaLaw_law_291 (by decide) ?_
        refine lv_iadd hx hb d_TankArenaLaw_law_292 ?_
        refine va_sld hx hb hX hbl hbA Wd.2.2 v2 d_TankArenaLaw_law_293 ?_
        rw [← ex2]
        have Wd := Wd.comm
        refine kf_Vi (As := [.int x1, .int x2]) [.int (f_bullet g x1 x2)] X2 Wd (k_f_Rbullet l D cI cZ ad2 r x1 x2 N rok (rng_mono hf (by decide))) cV_TankArenaLaw_45 (kx_recv (k := 0) (i := 0) X2 (kf_sub Wd) (iy 0 (by decide)) rfl rfl) rfl rfl hl.1 ⟨rfl, rfl⟩ ⟨Nat.le_of_ble_eq_true rfl, Nat.le_of_ble_eq_true rfl⟩ (Nat.le_of_ble_eq_true rfl) ⟨Nat.le_of_ble_eq_true rfl, Nat.le_of_ble_eq_true rfl⟩ d_TankArenaLaw_law_294 (fun rr u H locs hp Wd => ?_)
        obtain ⟨hr, hu⟩ := hp
        rw [hu] at Wd
        rw [hr]
        clear hr hu
        obtain ⟨hans, hs2⟩ := hs_bullet i g r hs (by omega) x1 x2
        have Wd : Wo D clA (fun q => s.heap.size ≤ q) s.heap (gC cI cT cB ad1 g ++ gR cI cZ ad2 r) H locs := Wd
        refine lv_icmp_eq (tgt := 325) hx hb d_TankArenaLaw_law_297 (by decide) (fun c_1 => ?_) (fun c_1 => ?_)
        · skip
          refine lv_iinc (v := nI (i + 5)) (lv' := [(3, .int (nI (i + 5))), (0, .ref b), (1, .ref (ad1 0 0)), (2, .ref (ad2 0 0))]) hx hb d_TankArenaLaw_law_325 hl (k := 3) rfl (nI_add i 5) (by decide) rfl (fun ls hl => ?_)
          refine lv_goto (tgt := 18) hx hb d_TankArenaLaw_law_328 (by decide) ?_
          exact ih (i + 5) _ _ hiL (by omega) hs2 _ _ Wd _ (lv_sub hl [1, 2, 3, 0] rfl)
        · exact absurd hans c_1
      | 7, _ =>
        refine lv_tableIn (tgt := 302) hx hb d_TankArenaLaw_law_32 (by decide) (by decide) rfl (by decide) ?_
        refine lv_aload_n hx hb d_TankArenaLaw_law_302 rfl (lv_at hl 1 rfl) ?_
        refine lv_aload_n hx hb d_TankArenaLaw_law_303 rfl (lv_at hl 0 rfl) ?_
        refine lv_iload_n hx hb d_TankArenaLaw_law_304 rfl (lv_at hl 3 rfl) ?_
        refine lv_iconst (v := 1) hx hb d_TankArenaLaw_law_305 (by decide) ?_
        refine lv_iadd hx hb d_TankArenaLaw_law_306 ?_
        refine va_sld hx hb hX hbl hbA Wd.2.2 v1 d_TankArenaLaw_law_307 ?_
        rw [← ex1]
        have Wd := Wd.comm
        refine kf_Vi (As := [.int x1]) [] X1 Wd (k_f_count l D cI cT cB ad1 tX tY g x1 N ok) cV_TankArenaLaw_46 (kx_recv (k := 0) (i := 0) X1 (kf_sub Wd) (ix0) rfl rfl) rfl rfl hl.1 ⟨rfl, rfl⟩ ⟨Nat.le_of_ble_eq_true rfl, Nat.le_of_ble_eq_true rfl⟩ (Nat.le_of_ble_eq_true rfl) ⟨Nat.le_of_ble_eq_true rfl, Nat.le_of_ble_eq_true rfl⟩ d_TankArenaLaw_law_308 (fun rr u H locs hp Wd => ?_)
        obtain ⟨hr, hu⟩ := hp
        rw [hu] at Wd
        rw [hr]
        clear hr hu
        refine lv_aload_n hx hb d_TankArenaLaw_law_311 rfl (lv_at hl 2 rfl) ?_
        refine lv_aload_n hx hb d_TankArenaLaw_law_312 rfl (lv_at hl 0 rfl) ?_
        refine lv_iload_n hx hb d_TankArenaLaw_law_313 rfl (lv_at hl 3 rfl) ?_
        refine lv_iconst (v := 1) hx hb d_TankArenaLaw_law_314 (by decide) ?_
        refine lv_iadd hx hb d_TankArenaLaw_law_315 ?_
        refine va_sld hx hb hX hbl hbA Wd.2.2 v1 d_TankArenaLaw_law_316 ?_
        rw [← ex1]
        have Wd := Wd.comm
        refine kf_Vi (As := [.int x1]) [.int (f_count g x1)] X2 Wd (k_f_Rcount l D cI cZ ad2 r x1 N rok (rng_mono hf (by decide))) cV_TankArenaLaw_50 (kx_recv (k := 0) (i := 0) X2 (kf_sub Wd) (iy 0 (by decide)) rfl rfl) rfl rfl hl.1 ⟨rfl, rfl⟩ ⟨Nat.le_of_ble_eq_true rfl, Nat.le_of_ble_eq_true rfl⟩ (Nat.le_of_ble_eq_true rfl) ⟨Nat.le_of_ble_eq_true rfl, Nat.le_of_ble_eq_true rfl⟩ d_TankArenaLaw_law_317 (fun rr u H locs hp Wd => ?_)
        obtain ⟨hr, hu⟩ := hp
        rw [hu] at Wd
        rw [hr]
        clear hr hu
        obtain ⟨hans, hs2⟩ := hs_count i g r hs (by omega) x1
        have Wd : Wo D clA (fun q => s.heap.size ≤ q) s.heap (gC cI cT cB ad1 g ++ gR cI cZ ad2 r) H locs := Wd
        refine lv_icmp_eq (tgt := 325) hx hb d_TankArenaLaw_law_320 (by decide) (fun c_1 => ?_) (fun c_1 => ?_)
        · skip
          refine lv_iinc (v := nI (i + 5)) (lv' := [(3, .int (nI (i + 5))), (0, .ref b), (1, .ref (ad1 0 0)), (2, .ref (ad2 0 0))]) hx hb d_TankArenaLaw_law_325 hl (k := 3) rfl (nI_add i 5) (by decide) rfl (fun ls hl => ?_)
          refine lv_goto (tgt := 18) hx hb d_TankArenaLaw_law_328 (by decide) ?_
          exact ih (i + 5) _ _ hiL (by omega) hs2 _ _ Wd _ (lv_sub hl [1, 2, 3, 0] rfl)
        · exact absurd hans c_1
      | k + 8, hk => exact absurd hk (by omega)

