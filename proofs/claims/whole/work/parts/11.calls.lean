/-! CALL ROWS (mine): the callee has the whole world -/
def CV (own : String) (idx : Nat) (C : String) (y : MethodName) (bytes : ByteArray) (maxL : Nat) (ret : Option FieldType) (ws Ts : List Cond) (n : Nat) : Prop := GoodIn Ts (wsV own idx C y ws) ∧ (∃ ws', ws = Cond.code y bytes maxL ret :: ws') ∧ y.cls = C ∧ y.cls ≠ "java/lang/invoke/MethodHandle" ∧ y.cls ≠ "java/lang/invoke/VarHandle" ∧ (parseMethodDescriptor y.desc).map (fun d => d.parameters.length) = some n
def CS (own : String) (idx : Nat) (y : MethodName) (bytes : ByteArray) (maxL : Nat) (ret : Option FieldType) (ws Ts : List Cond) (n : Nat) : Prop := GoodIn Ts (va_wsS own idx y ws) ∧ (∃ ws', ws = Cond.code y bytes maxL ret :: ws') ∧ y.cls ≠ "java/lang/invoke/MethodHandle" ∧ y.cls ≠ "java/lang/invoke/VarHandle" ∧ (parseMethodDescriptor y.desc).map (fun d => d.parameters.length) = some n
def CN (own : String) (idx : Nat) (y : MethodName) (host : String) (bytes : ByteArray) (maxL : Nat) (ret : Option FieldType) (ws Ts : List Cond) (n : Nat) : Prop := GoodIn Ts ws ∧ Cond.methodLinkNest own idx y host ∈ NWl ∧ Cond.static y ∈ Ts ∧ Cond.initialized y.cls ∈ Ts ∧ (∃ ws', ws = Cond.code y bytes maxL ret :: ws') ∧ y.cls ≠ "java/lang/invoke/MethodHandle" ∧ y.cls ≠ "java/lang/invoke/VarHandle" ∧ (parseMethodDescriptor y.desc).map (fun d => d.parameters.length) = some n
section KC
variable {p : Program} {l : Launch} {e : Env} {R : Room} {s : State} {m : MethodId} {args : Array Value} {below : List Frame} {meth : Method} {c : Code} {H : Heap} {locs : List Loc} {cells slots : Nat} {Q : State → Prop}
variable {cc : ByteArray} {nL : Nat} {ret : Option FieldType} {own : String} {Ts : List Cond} {D : va_G} {cl : List vw_C} {tys : List (ClassId × FieldType)} {A : Nat → Prop} {Zs : List Zt}
variable {pc : Nat} {ls : Array Slot} {wd : va_W} {y : MethodName} {bytes : ByteArray} {maxL idx n : Nat} {ret1 : Option FieldType} {ws1 : List Cond} {rm : Room} {S : Type} {wf : S → va_W} {C host : String} {b : Nat} {st0 : List Value}
theorem kc_Vi {post : Int32 → S → Prop} {As : List Value} (rest : List Value) (X : Cx p s m args meth c cc nL ret own Ts D cl tys A Zs) (Wd : Wo D cl A s.heap wd H locs) (M : Mi l y ws1 rm D cl tys Zs (.ref b :: As) wd wf post 0 0) (K : CV own idx C y bytes maxL ret1 ws1 Ts n) (hrec : ∃ cellB : Cell, H[b]? = some cellB ∧ cellB.vm.isStatics = false ∧ s.vm.findClass C = some cellB.cls) (hst : st0 = As.reverse ++ .ref b :: rest) (hn : As.length = n) (hl : ls.size = nL) (hrm : rm.cells = 0 ∧ rm.slots = 0) (hR : rm.frames + 1 ≤ R.frames ∧ 8 + (maxL + 11) + rm.locals ≤ R.locals) (hroom : (rest.map fun v => v.category).sum ≤ 8) (hcs : cells ≤ R.cells ∧ slots ≤ R.slots) (hd : decode cc pc = .ok (.invokevirtual idx, 3))
    (kk : ∀ (r : Int32) (u : S) (H1 : Heap) (locs1 : List Loc), post r u → Wo D cl A s.heap (wf u) H1 locs1 → W p l e R s m args below meth c H1 locs1 cells slots Q (F0 m (pc + 3) ls (.int r :: rest))) : W p l e R s m args below meth c H locs cells slots Q (F0 m pc ls st0) := by
  subst hst
  have hpre := kx_pre X Wd
  obtain ⟨hG, ⟨ws', hw⟩, hdd⟩ := K
  exact kx_goi X Wd (va_runV (As := As) (rest := rest) (C := C) (b := b) ⟨X.1, X.2.1, X.2.2.1, X.2.2.2.1, X.2.2.2.2.1⟩ (M H.size) (cwV n X.2.2.2.2.1 hG hw hrm.1 hrm.2 hdd hR) ⟨C0.blind, hrec, fun U hU hW => ⟨rfl, hpre U hU hW⟩⟩ rfl hn hl rfl (lv_room hroom) hd hcs) kk
theorem kc_Vv {post : S → Prop} {As : List Value} (rest : List Value) (X : Cx p s m args meth c cc nL ret own Ts D cl tys A Zs) (Wd : Wo D cl A s.heap wd H locs) (M : Mv l y ws1 rm D cl tys Zs (.ref b :: As) wd wf post 0 0) (K : CV own idx C y bytes maxL ret1 ws1 Ts n) (hrec : ∃ cellB : Cell, H[b]? = some cellB ∧ cellB.vm.isStatics = false ∧ s.vm.findClass C = some cellB.cls) (hst : st0 = As.reverse ++ .ref b :: rest) (hn : As.length = n) (hl : ls.size = nL) (hrm : rm.cells = 0 ∧ rm.slots = 0) (hR : rm.frames + 1 ≤ R.frames ∧ 8 + (maxL + 11) + rm.locals ≤ R.locals) (hroom : (rest.map fun v => v.category).sum ≤ 8) (hcs : cells ≤ R.cells ∧ slots ≤ R.slots) (hd : decode cc pc = .ok (.invokevirtual idx, 3))
    (kk : ∀ (u : S) (H1 : Heap) (locs1 : List Loc), post u → Wo D cl A s.heap (wf u) H1 locs1 → W p l e R s m args below meth c H1 locs1 cells slots Q (F0 m (pc + 3) ls rest)) : W p l e R s m args below meth c H locs cells slots Q (F0 m pc ls st0) := by
  subst hst
  have hpre := kx_pre X Wd
  obtain ⟨hG, ⟨ws', hw⟩, hdd⟩ := K
  exact kx_gov X Wd (va_runV (As := As) (rest := rest) (C := C) (b := b) ⟨X.1, X.2.1, X.2.2.1, X.2.2.2.1, X.2.2.2.2.1⟩ (M H.size) (cwV n X.2.2.2.2.1 hG hw hrm.1 hrm.2 hdd hR) ⟨C0.blind, hrec, fun U hU hW => ⟨rfl, hpre U hU hW⟩⟩ rfl hn hl rfl (lv_room hroom) hd hcs) kk
theorem kc_Vl {post : Int64 → S → Prop} {As : List Value} (rest : List Value) (X : Cx p s m args meth c cc nL ret own Ts D cl tys A Zs) (Wd : Wo D cl A s.heap wd H locs) (M : Ml l y ws1 rm D cl tys Zs (.ref b :: As) wd wf post 0 0) (K : CV own idx C y bytes maxL ret1 ws1 Ts n) (hrec : ∃ cellB : Cell, H[b]? = some cellB ∧ cellB.vm.isStatics = false ∧ s.vm.findClass C = some cellB.cls) (hst : st0 = As.reverse ++ .ref b :: rest) (hn : As.length = n) (hl : ls.size = nL) (hrm : rm.cells = 0 ∧ rm.slots = 0) (hR : rm.frames + 1 ≤ R.frames ∧ 8 + (maxL + 11) + rm.locals ≤ R.locals) (hroom : (rest.map fun v => v.category).sum ≤ 8) (hcs : cells ≤ R.cells ∧ slots ≤ R.slots) (hd : decode cc pc = .ok (.invokevirtual idx, 3))
    (kk : ∀ (r : Int64) (u : S) (H1 : Heap) (locs1 : List Loc), post r u → Wo D cl A s.heap (wf u) H1 locs1 → W p l e R s m args below meth c H1 locs1 cells slots Q (F0 m (pc + 3) ls (.long r :: rest))) : W p l e R s m args below meth c H locs cells slots Q (F0 m pc ls st0) := by
  subst hst
  have hpre := kx_pre X Wd
  obtain ⟨hG, ⟨ws', hw⟩, hdd⟩ := K
  exact kx_gol X Wd (va_runV (As := As) (rest := rest) (C := C) (b := b) ⟨X.1, X.2.1, X.2.2.1, X.2.2.2.1, X.2.2.2.2.1⟩ (M H.size) (cwV n X.2.2.2.2.1 hG hw hrm.1 hrm.2 hdd hR) ⟨C0.blind, hrec, fun U hU hW => ⟨rfl, hpre U hU hW⟩⟩ rfl hn hl rfl (lv_room hroom) hd hcs) kk
theorem kc_Si {post : Int32 → S → Prop} {As : List Value} (rest : List Value) (X : Cx p s m args meth c cc nL ret own Ts D cl tys A Zs) (Wd : Wo D cl A s.heap wd H locs) (M : Mi l y ws1 rm D cl tys Zs As wd wf post 0 0) (K : CS own idx y bytes maxL ret1 ws1 Ts n) (hst : st0 = As.reverse ++ rest) (hn : As.length = n) (hl : ls.size = nL) (hrm : rm.cells = 0 ∧ rm.slots = 0) (hR : rm.frames + 1 ≤ R.frames ∧ 8 + (maxL + 11) + rm.locals ≤ R.locals) (hroom : (rest.map fun v => v.category).sum ≤ 8) (hcs : cells ≤ R.cells ∧ slots ≤ R.slots) (hd : decode cc pc = .ok (.invokestatic idx, 3))
    (kk : ∀ (r : Int32) (u : S) (H1 : Heap) (locs1 : List Loc), post r u → Wo D cl A s.heap (wf u) H1 locs1 → W p l e R s m args below meth c H1 locs1 cells slots Q (F0 m (pc + 3) ls (.int r :: rest))) : W p l e R s m args below meth c H locs cells slots Q (F0 m pc ls st0) := by
  subst hst
  have hpre := kx_pre X Wd
  obtain ⟨hG, ⟨ws', hw⟩, hdd⟩ := K
  exact kx_goi X Wd (va_runS (As := As) (rest := rest) ⟨X.1, X.2.1, X.2.2.1, X.2.2.2.1, X.2.2.2.2.1⟩ (M H.size) (va_cwS n X.2.2.2.2.1 hG hw hrm.1 hrm.2 hdd hR) ⟨C0.blind, fun U hU hW => ⟨rfl, hpre U hU hW⟩⟩ rfl hn hl rfl (lv_room hroom) hd hcs) kk
theorem kc_Sv {post : S → Prop} {As : List Value} (rest : List Value) (X : Cx p s m args meth c cc nL ret own Ts D cl tys A Zs) (Wd : Wo D cl A s.heap wd H locs) (M : Mv l y ws1 rm D cl tys Zs As wd wf post 0 0) (K : CS own idx y bytes maxL ret1 ws1 Ts n) (hst : st0 = As.reverse ++ rest) (hn : As.length = n) (hl : ls.size = nL) (hrm : rm.cells = 0 ∧ rm.slots = 0) (hR : rm.frames + 1 ≤ R.frames ∧ 8 + (maxL + 11) + rm.locals ≤ R.locals) (hroom : (rest.map fun v => v.category).sum ≤ 8) (hcs : cells ≤ R.cells ∧ slots ≤ R.slots) (hd : decode cc pc = .ok (.invokestatic idx, 3))
    (kk : ∀ (u : S) (H1 : Heap) (locs1 : List Loc), post u → Wo D cl A s.heap (wf u) H1 locs1 → W p l e R s m args below meth c H1 locs1 cells slots Q (F0 m (pc + 3) ls rest)) : W p l e R s m args below meth c H locs cells slots Q (F0 m pc ls st0) := by
  subst hst
  have hpre := kx_pre X Wd
  obtain ⟨hG, ⟨ws', hw⟩, hdd⟩ := K
  exact kx_gov X Wd (va_runS (As := As) (rest := rest) ⟨X.1, X.2.1, X.2.2.1, X.2.2.2.1, X.2.2.2.2.1⟩ (M H.size) (va_cwS n X.2.2.2.2.1 hG hw hrm.1 hrm.2 hdd hR) ⟨C0.blind, fun U hU hW => ⟨rfl, hpre U hU hW⟩⟩ rfl hn hl rfl (lv_room hroom) hd hcs) kk
theorem kc_Sl {post : Int64 → S → Prop} {As : List Value} (rest : List Value) (X : Cx p s m args meth c cc nL ret own Ts D cl tys A Zs) (Wd : Wo D cl A s.heap wd H locs) (M : Ml l y ws1 rm D cl tys Zs As wd wf post 0 0) (K : CS own idx y bytes maxL ret1 ws1 Ts n) (hst : st0 = As.reverse ++ rest) (hn : As.length = n) (hl : ls.size = nL) (hrm : rm.cells = 0 ∧ rm.slots = 0) (hR : rm.frames + 1 ≤ R.frames ∧ 8 + (maxL + 11) + rm.locals ≤ R.locals) (hroom : (rest.map fun v => v.category).sum ≤ 8) (hcs : cells ≤ R.cells ∧ slots ≤ R.slots) (hd : decode cc pc = .ok (.invokestatic idx, 3))
    (kk : ∀ (r : Int64) (u : S) (H1 : Heap) (locs1 : List Loc), post r u → Wo D cl A s.heap (wf u) H1 locs1 → W p l e R s m args below meth c H1 locs1 cells slots Q (F0 m (pc + 3) ls (.long r :: rest))) : W p l e R s m args below meth c H locs cells slots Q (F0 m pc ls st0) := by
  subst hst
  have hpre := kx_pre X Wd
  obtain ⟨hG, ⟨ws', hw⟩, hdd⟩ := K
  exact kx_gol X Wd (va_runS (As := As) (rest := rest) ⟨X.1, X.2.1, X.2.2.1, X.2.2.2.1, X.2.2.2.2.1⟩ (M H.size) (va_cwS n X.2.2.2.2.1 hG hw hrm.1 hrm.2 hdd hR) ⟨C0.blind, fun U hU hW => ⟨rfl, hpre U hU hW⟩⟩ rfl hn hl rfl (lv_room hroom) hd hcs) kk
theorem kc_Ni {post : Int32 → S → Prop} {As : List Value} (rest : List Value) (X : Cx p s m args meth c cc nL ret own Ts D cl tys A Zs) (Wd : Wo D cl A s.heap wd H locs) (M : Mi l y ws1 rm D cl tys Zs As wd wf post 0 0) (K : CN own idx y host bytes maxL ret1 ws1 Ts n) (hst : st0 = As.reverse ++ rest) (hn : As.length = n) (hl : ls.size = nL) (hrm : rm.cells = 0 ∧ rm.slots = 0) (hR : rm.frames + 1 ≤ R.frames ∧ 8 + (maxL + 11) + rm.locals ≤ R.locals) (hroom : (rest.map fun v => v.category).sum ≤ 8) (hcs : cells ≤ R.cells ∧ slots ≤ R.slots) (hd : decode cc pc = .ok (.invokestatic idx, 3))
    (kk : ∀ (r : Int32) (u : S) (H1 : Heap) (locs1 : List Loc), post r u → Wo D cl A s.heap (wf u) H1 locs1 → W p l e R s m args below meth c H1 locs1 cells slots Q (F0 m (pc + 3) ls (.int r :: rest))) : W p l e R s m args below meth c H locs cells slots Q (F0 m pc ls st0) := by
  subst hst
  have hpre := kx_pre X Wd
  obtain ⟨hG, hlk, hstt, hini, ⟨ws', hw⟩, hdd⟩ := K
  exact kx_goi X Wd (va_runSN (As := As) (rest := rest) (host := host) ⟨X.1, X.2.1, X.2.2.1, X.2.2.2.1, X.2.2.2.2.1⟩ (M H.size) ⟨va_cnB n X.2.2.2.2.1 hG hw hrm.1 hrm.2 (X.nw _ hlk) (X.2.2.2.2.1 _ hini) hdd hR, X.2.2.2.2.1 _ hstt, trivial⟩ ⟨C0.blind, fun U hU hW => ⟨rfl, hpre U hU hW⟩⟩ rfl hn hl rfl (lv_room hroom) hd hcs) kk
theorem kc_Nv {post : S → Prop} {As : List Value} (rest : List Value) (X : Cx p s m args meth c cc nL ret own Ts D cl tys A Zs) (Wd : Wo D cl A s.heap wd H locs) (M : Mv l y ws1 rm D cl tys Zs As wd wf post 0 0) (K : CN own idx y host bytes maxL ret1 ws1 Ts n) (hst : st0 = As.reverse ++ rest) (hn : As.length = n) (hl : ls.size = nL) (hrm : rm.cells = 0 ∧ rm.slots = 0) (hR : rm.frames + 1 ≤ R.frames ∧ 8 + (maxL + 11) + rm.locals ≤ R.locals) (hroom : (rest.map fun v => v.category).sum ≤ 8) (hcs : cells ≤ R.cells ∧ slots ≤ R.slots) (hd : decode cc pc = .ok (.invokestatic idx, 3))
    (kk : ∀ (u : S) (H1 : Heap) (locs1 : List Loc), post u → Wo D cl A s.heap (wf u) H1 locs1 → W p l e R s m args below meth c H1 locs1 cells slots Q (F0 m (pc + 3) ls rest)) : W p l e R s m args below meth c H locs cells slots Q (F0 m pc ls st0) := by
  subst hst
  have hpre := kx_pre X Wd
  obtain ⟨hG, hlk, hstt, hini, ⟨ws', hw⟩, hdd⟩ := K
  exact kx_gov X Wd (va_runSN (As := As) (rest := rest) (host := host) ⟨X.1, X.2.1, X.2.2.1, X.2.2.2.1, X.2.2.2.2.1⟩ (M H.size) ⟨va_cnB n X.2.2.2.2.1 hG hw hrm.1 hrm.2 (X.nw _ hlk) (X.2.2.2.2.1 _ hini) hdd hR, X.2.2.2.2.1 _ hstt, trivial⟩ ⟨C0.blind, fun U hU hW => ⟨rfl, hpre U hU hW⟩⟩ rfl hn hl rfl (lv_room hroom) hd hcs) kk
theorem kc_Nl {post : Int64 → S → Prop} {As : List Value} (rest : List Value) (X : Cx p s m args meth c cc nL ret own Ts D cl tys A Zs) (Wd : Wo D cl A s.heap wd H locs) (M : Ml l y ws1 rm D cl tys Zs As wd wf post 0 0) (K : CN own idx y host bytes maxL ret1 ws1 Ts n) (hst : st0 = As.reverse ++ rest) (hn : As.length = n) (hl : ls.size = nL) (hrm : rm.cells = 0 ∧ rm.slots = 0) (hR : rm.frames + 1 ≤ R.frames ∧ 8 + (maxL + 11) + rm.locals ≤ R.locals) (hroom : (rest.map fun v => v.category).sum ≤ 8) (hcs : cells ≤ R.cells ∧ slots ≤ R.slots) (hd : decode cc pc = .ok (.invokestatic idx, 3))
    (kk : ∀ (r : Int64) (u : S) (H1 : Heap) (locs1 : List Loc), post r u → Wo D cl A s.heap (wf u) H1 locs1 → W p l e R s m args below meth c H1 locs1 cells slots Q (F0 m (pc + 3) ls (.long r :: rest))) : W p l e R s m args below meth c H locs cells slots Q (F0 m pc ls st0) := by
  subst hst
  have hpre := kx_pre X Wd
  obtain ⟨hG, hlk, hstt, hini, ⟨ws', hw⟩, hdd⟩ := K
  exact kx_gol X Wd (va_runSN (As := As) (rest := rest) (host := host) ⟨X.1, X.2.1, X.2.2.1, X.2.2.2.1, X.2.2.2.2.1⟩ (M H.size) ⟨va_cnB n X.2.2.2.2.1 hG hw hrm.1 hrm.2 (X.nw _ hlk) (X.2.2.2.2.1 _ hini) hdd hR, X.2.2.2.2.1 _ hstt, trivial⟩ ⟨C0.blind, fun U hU hW => ⟨rfl, hpre U hU hW⟩⟩ rfl hn hl rfl (lv_room hroom) hd hcs) kk
end KC
abbrev wsm (y : MethodName) (cc : ByteArray) (nL : Nat) (ret : Option FieldType) : List Cond := Cond.code y cc nL ret :: TT
theorem cv_good {own C : String} {idx : Nat} {y : MethodName} {ws : List Cond} (h1 : Cond.methodLink own idx y ∈ TT) (h2 : Cond.instanceMethod y ∈ TT) (h3 : Cond.selects C y y ∈ TT) (h4 : Cond.initialized C ∈ TT) (h5 : GoodIn TT ws) : GoodIn TT (wsV own idx C y ws) := by
  intro w hw
  unfold wsV at hw
  simp only [List.cons_append, List.nil_append, List.mem_cons] at hw
  rcases hw with rfl | rfl | rfl | rfl | hw
  · exact tt_good _ h1
  · exact tt_good _ h2
  · exact tt_good _ h3
  · exact tt_good _ h4
  · exact h5 w hw
theorem cs_good {own : String} {idx : Nat} {y : MethodName} {ws : List Cond} (h1 : Cond.methodLink own idx y ∈ TT) (h2 : Cond.static y ∈ TT) (h4 : Cond.initialized y.cls ∈ TT) (h5 : GoodIn TT ws) : GoodIn TT (va_wsS own idx y ws) := by
  intro w hw
  unfold va_wsS at hw
  simp only [List.cons_append, List.nil_append, List.mem_cons] at hw
  rcases hw with rfl | rfl | rfl | hw
  · exact tt_good _ h1
  · exact tt_good _ h2
  · exact tt_good _ h4
  · exact h5 w hw
