/-! FRAME (mine): a call that has a part of the world; new cells; worlds in another order -/
theorem wd_in {wd : va_W} {q : Nat × va_E} : (∃ k : Nat, wd[k]? = some q) ↔ q ∈ wd := ⟨fun ⟨_, h⟩ => List.mem_of_getElem? h, fun h => List.getElem?_of_mem h⟩
theorem va_P_iff {D : va_G} {cl : List vw_C} {wd : va_W} {H : Heap} : va_P D cl wd H ↔ ∀ q ∈ wd, va_at D cl q H :=
  ⟨fun h q hq => by obtain ⟨k, hk⟩ := List.getElem?_of_mem hq; exact h k q hk, fun h k q hk => h q (List.mem_of_getElem? hk)⟩
theorem va_D_all {A : Nat → Prop} {wd : va_W} (h : va_D A wd) : ∀ q ∈ wd, A q.1 := fun q hq => by
  obtain ⟨k, hk⟩ := List.getElem?_of_mem hq
  exact h.2 k q hk
/-- apart, of an append -/
theorem va_D_apart {A : Nat → Prop} {a b : va_W} (h : va_D A (a ++ b)) : ∀ x ∈ a, ∀ y ∈ b, x.1 ≠ y.1 := by
  intro x hx y hy e
  obtain ⟨i, hi⟩ := List.getElem?_of_mem hx
  obtain ⟨j, hj⟩ := List.getElem?_of_mem hy
  have hil : i < a.length := (List.getElem?_eq_some_iff.mp hi).1
  have h1 : (a ++ b)[i]? = some x := by rw [List.getElem?_append_left hil]; exact hi
  have h2 : (a ++ b)[a.length + j]? = some y := by rw [List.getElem?_append_right (by omega), Nat.add_sub_cancel_left]; exact hj
  have := h.1 i (a.length + j) x y h1 h2 e
  omega
theorem va_D_left {A : Nat → Prop} {a b : va_W} (h : va_D A (a ++ b)) : va_D A a := by
  refine ⟨fun i j x y hi hj e => ?_, fun k q hk => ?_⟩
  · have hil := (List.getElem?_eq_some_iff.mp hi).1
    have hjl := (List.getElem?_eq_some_iff.mp hj).1
    exact h.1 i j x y (by rw [List.getElem?_append_left hil]; exact hi) (by rw [List.getElem?_append_left hjl]; exact hj) e
  · have hkl := (List.getElem?_eq_some_iff.mp hk).1
    exact h.2 k q (by rw [List.getElem?_append_left hkl]; exact hk)
theorem va_D_right {A : Nat → Prop} {a b : va_W} (h : va_D A (a ++ b)) : va_D A b := by
  refine ⟨fun i j x y hi hj e => ?_, fun k q hk => ?_⟩
  · have := h.1 (a.length + i) (a.length + j) x y (by rw [List.getElem?_append_right (by omega), Nat.add_sub_cancel_left]; exact hi) (by rw [List.getElem?_append_right (by omega), Nat.add_sub_cancel_left]; exact hj) e
    omega
  · exact h.2 (a.length + k) q (by rw [List.getElem?_append_right (by omega), Nat.add_sub_cancel_left]; exact hk)
theorem va_D_app {A : Nat → Prop} {a b : va_W} (ha : va_D A a) (hb : va_D A b) (hx : ∀ x ∈ a, ∀ y ∈ b, x.1 ≠ y.1) : va_D A (a ++ b) :=
  va_D.app ha hb (fun _ _ p q hi hj => hx p (List.mem_of_getElem? hi) q (List.mem_of_getElem? hj))
theorem Wo.comm {D : va_G} {cl : List vw_C} {A : Nat → Prop} {H0 : Heap} {a b : va_W} {H : Heap} {locs : List Loc} (h : Wo D cl A H0 (a ++ b) H locs) : Wo D cl A H0 (b ++ a) H locs := by
  obtain ⟨hP, hD, hS⟩ := h
  refine ⟨?_, va_D_app (va_D_right hD) (va_D_left hD) (fun x hx y hy e => va_D_apart hD y hy x hx e.symm), hS⟩
  rw [va_P_iff] at hP ⊢
  intro q hq
  exact hP q (by rcases List.mem_append.mp hq with h | h; exact List.mem_append_right _ h; exact List.mem_append_left _ h)
section KF
variable {p : Program} {l : Launch} {e : Env} {R : Room} {s : State} {m : MethodId} {args : Array Value} {below : List Frame} {meth : Method} {c : Code} {H : Heap} {locs : List Loc} {cells slots : Nat} {Q : State → Prop}
variable {cc : ByteArray} {nL : Nat} {ret : Option FieldType} {own : String} {Ts : List Cond} {D : va_G} {cl : List vw_C} {tys : List (ClassId × FieldType)} {A : Nat → Prop} {Zs : List Zt}
variable {pc : Nat} {ls : Array Slot} {rest : List Value} {wr wc wd : va_W}
theorem kf_sub (Wd : Wo D cl A s.heap (wr ++ wc) H locs) : Wo D cl A s.heap wc H locs := by
  obtain ⟨hP, hD, hS⟩ := Wd
  refine ⟨?_, va_D_right hD, hS⟩
  rw [va_P_iff] at hP ⊢
  exact fun q hq => hP q (List.mem_append_right _ hq)
/-- behind a call that had wc: the rest is as it was -/
theorem kf_join {w1 : va_W} {H1 : Heap} {locs1 : List Loc} (X : Cx p s m args meth c cc nL ret own Ts D cl tys A Zs) (Wd : Wo D cl A s.heap (wr ++ wc) H locs) (hP1 : va_P D cl w1 H1) (hD1 : va_D (va_A wc H.size) w1) (hk : ∀ q : Nat, q < H.size → ¬ va_A wc H.size q → H1[q]? = H[q]?) (hS : va_S A s.heap H1 locs1) : Wo D cl A s.heap (wr ++ w1) H1 locs1 := by
  have hF := kx_free X (kf_sub Wd)
  obtain ⟨hP, hD, hS0⟩ := Wd
  have off : ∀ x ∈ wr, x.1 < H.size ∧ ¬ va_A wc H.size x.1 := by
    intro x hx
    have hl := (va_P_iff.mp hP x (List.mem_append_left _ hx)).lt
    refine ⟨hl, fun h => ?_⟩
    rcases h with ⟨k, e0, h⟩ | h
    · exact va_D_apart hD x hx (x.1, e0) (List.mem_of_getElem? h) rfl
    · omega
  refine ⟨?_, va_D_app (va_D_left hD) (hD1.weaken (fun _ _ _ h => hF _ h)) (fun x hx y hy e0 => ?_), hS⟩
  · rw [va_P_iff] at hP hP1 ⊢
    intro q hq
    rcases List.mem_append.mp hq with h | h
    · exact (hP q (List.mem_append_left _ h)).kept (hk q.1 (off q h).1 (off q h).2)
    · exact hP1 q h
  · have h1 := va_D_all hD1 y hy
    rw [← e0] at h1
    exact (off x hx).2 h1
theorem kf_gov {S : Type} {wf : S → va_W} {post : S → Prop} {mc ms : Nat} {st0 : List Value} {a : Array Value} (X : Cx p s m args meth c cc nL ret own Ts D cl tys A Zs) (Wd : Wo D cl A s.heap (wr ++ wc) H locs)
    (hr : va_Run p l e R s m args below meth c H locs cells slots mc ms (F0 m pc ls st0) rest (va_Qv post (fun u t => C1 D cl tys wc H.size (wf u) t) (va_A wc H.size) a) (va_A wc H.size))
    (kk : ∀ (u : S) (H1 : Heap) (locs1 : List Loc), post u → Wo D cl A s.heap (wr ++ wf u) H1 locs1 → W p l e R s m args below meth c H1 locs1 (cells + mc) (slots + ms) Q (F0 m (pc + 3) ls rest)) : W p l e R s m args below meth c H locs cells slots Q (F0 m pc ls st0) := by
  have hF := kx_free X (kf_sub Wd)
  refine va_callv hr Wd.2.2 (fun q _ h => hF q h) hF (fun u t H1 locs1 ht hvm hw hB hz1 hk1 hS => ?_)
  obtain ⟨hP1, hK1, hD1⟩ := hB
  rw [ht] at hP1
  exact kk u H1 locs1 hw (kf_join X Wd hP1 hD1 hk1 hS)
theorem kf_goi {S : Type} {wf : S → va_W} {post : Int32 → S → Prop} {mc ms : Nat} {st0 : List Value} {a : Array Value} (X : Cx p s m args meth c cc nL ret own Ts D cl tys A Zs) (Wd : Wo D cl A s.heap (wr ++ wc) H locs)
    (hr : va_Run p l e R s m args below meth c H locs cells slots mc ms (F0 m pc ls st0) rest (va_Qi post (fun u t => C1 D cl tys wc H.size (wf u) t) (va_A wc H.size) a) (va_A wc H.size))
    (kk : ∀ (r : Int32) (u : S) (H1 : Heap) (locs1 : List Loc), post r u → Wo D cl A s.heap (wr ++ wf u) H1 locs1 → W p l e R s m args below meth c H1 locs1 (cells + mc) (slots + ms) Q (F0 m (pc + 3) ls (.int r :: rest))) : W p l e R s m args below meth c H locs cells slots Q (F0 m pc ls st0) := by
  have hF := kx_free X (kf_sub Wd)
  refine va_calli hr Wd.2.2 (fun q _ h => hF q h) hF (fun r u t H1 locs1 ht hvm hw hB hz1 hk1 hS => ?_)
  obtain ⟨hP1, hK1, hD1⟩ := hB
  rw [ht] at hP1
  exact kk r u H1 locs1 hw (kf_join X Wd hP1 hD1 hk1 hS)
theorem kf_gol {S : Type} {wf : S → va_W} {post : Int64 → S → Prop} {mc ms : Nat} {st0 : List Value} {a : Array Value} (X : Cx p s m args meth c cc nL ret own Ts D cl tys A Zs) (Wd : Wo D cl A s.heap (wr ++ wc) H locs)
    (hr : va_Run p l e R s m args below meth c H locs cells slots mc ms (F0 m pc ls st0) rest (va_Ql post (fun u t => C1 D cl tys wc H.size (wf u) t) (va_A wc H.size) a) (va_A wc H.size))
    (kk : ∀ (r : Int64) (u : S) (H1 : Heap) (locs1 : List Loc), post r u → Wo D cl A s.heap (wr ++ wf u) H1 locs1 → W p l e R s m args below meth c H1 locs1 (cells + mc) (slots + ms) Q (F0 m (pc + 3) ls (.long r :: rest))) : W p l e R s m args below meth c H locs cells slots Q (F0 m pc ls st0) := by
  have hF := kx_free X (kf_sub Wd)
  refine va_calll hr Wd.2.2 (fun q _ h => hF q h) hF (fun r u t H1 locs1 ht hvm hw hB hz1 hk1 hS => ?_)
  obtain ⟨hP1, hK1, hD1⟩ := hB
  rw [ht] at hP1
  exact kk r u H1 locs1 hw (kf_join X Wd hP1 hD1 hk1 hS)
/-- a constructor's call, nest mate or not; the callee has the cells wc -/
def CI (own : String) (idx : Nat) (y : MethodName) (bytes : ByteArray) (maxL : Nat) (ws Ts : List Cond) (n : Nat) : Prop := GoodIn Ts ws ∧ (∃ ws', ws = Cond.code y bytes maxL none :: ws') ∧ Cond.initialized y.cls ∈ Ts ∧ Cond.methodLink own idx y ∈ Ts ∧ Cond.instanceMethod y ∈ Ts ∧ y.name = "<init>" ∧ y.cls ≠ "java/lang/invoke/MethodHandle" ∧ y.cls ≠ "java/lang/invoke/VarHandle" ∧ (parseMethodDescriptor y.desc).map (fun d => d.parameters.length) = some n
def CIN (own : String) (idx : Nat) (y : MethodName) (host : String) (bytes : ByteArray) (maxL : Nat) (ws Ts : List Cond) (n : Nat) : Prop := GoodIn Ts ws ∧ (∃ ws', ws = Cond.code y bytes maxL none :: ws') ∧ Cond.initialized y.cls ∈ Ts ∧ Cond.methodLinkNest own idx y host ∈ NWl ∧ Cond.instanceMethod y ∈ Ts ∧ y.name = "<init>" ∧ y.cls ≠ "java/lang/invoke/MethodHandle" ∧ y.cls ≠ "java/lang/invoke/VarHandle" ∧ (parseMethodDescriptor y.desc).map (fun d => d.parameters.length) = some n
variable {y : MethodName} {bytes : ByteArray} {maxL idx n : Nat} {ws1 : List Cond} {rm : Room} {S : Type} {wf : S → va_W} {post : S → Prop} {mc ms : Nat} {host : String} {b : Nat} {As : List Value} {st0 : List Value}
theorem kf_I (rest : List Value) (X : Cx p s m args meth c cc nL ret own Ts D cl tys A Zs) (Wd : Wo D cl A s.heap (wr ++ wc) H locs) (M : Mv l y ws1 rm D cl tys Zs (.ref b :: As) wc wf post mc ms) (K : CI own idx y bytes maxL ws1 Ts n) (hst : st0 = As.reverse ++ .ref b :: rest) (hn : As.length = n) (hl : ls.size = nL) (hrm : rm.cells = mc ∧ rm.slots = ms) (hR : rm.frames + 1 ≤ R.frames ∧ 8 + (maxL + 11) + rm.locals ≤ R.locals) (hroom : (rest.map fun v => v.category).sum ≤ 8) (hcs : cells + mc ≤ R.cells ∧ slots + ms ≤ R.slots) (hd : decode cc pc = .ok (.invokespecial idx, 3))
    (kk : ∀ (u : S) (H1 : Heap) (locs1 : List Loc), post u → Wo D cl A s.heap (wr ++ wf u) H1 locs1 → W p l e R s m args below meth c H1 locs1 (cells + mc) (slots + ms) Q (F0 m (pc + 3) ls rest)) : W p l e R s m args below meth c H locs cells slots Q (F0 m pc ls st0) := by
  subst hst
  have hpre := kx_pre X (kf_sub Wd)
  obtain ⟨hG, ⟨ws', hw⟩, hini, hlk, hin, hnm, hdd⟩ := K
  exact kf_gov X Wd (va_runI (As := As) (rest := rest) (b := b) ⟨X.1, X.2.1, X.2.2.1, X.2.2.2.1, X.2.2.2.2.1⟩ (M H.size) (cwI n X.2.2.2.2.1 hG hw hrm.1 hrm.2 (X.2.2.2.2.1 _ hini) (X.2.2.2.2.1 _ hlk) (X.2.2.2.2.1 _ hin) hnm hdd hR) ⟨C0.blind, fun U hU hW => ⟨rfl, hpre U hU hW⟩⟩ rfl hn hl rfl (lv_room hroom) hd hcs) kk
theorem kf_IN (rest : List Value) (X : Cx p s m args meth c cc nL ret own Ts D cl tys A Zs) (Wd : Wo D cl A s.heap (wr ++ wc) H locs) (M : Mv l y ws1 rm D cl tys Zs (.ref b :: As) wc wf post mc ms) (K : CIN own idx y host bytes maxL ws1 Ts n) (hst : st0 = As.reverse ++ .ref b :: rest) (hn : As.length = n) (hl : ls.size = nL) (hrm : rm.cells = mc ∧ rm.slots = ms) (hR : rm.frames + 1 ≤ R.frames ∧ 8 + (maxL + 11) + rm.locals ≤ R.locals) (hroom : (rest.map fun v => v.category).sum ≤ 8) (hcs : cells + mc ≤ R.cells ∧ slots + ms ≤ R.slots) (hd : decode cc pc = .ok (.invokespecial idx, 3))
    (kk : ∀ (u : S) (H1 : Heap) (locs1 : List Loc), post u → Wo D cl A s.heap (wr ++ wf u) H1 locs1 → W p l e R s m args below meth c H1 locs1 (cells + mc) (slots + ms) Q (F0 m (pc + 3) ls rest)) : W p l e R s m args below meth c H locs cells slots Q (F0 m pc ls st0) := by
  subst hst
  have hpre := kx_pre X (kf_sub Wd)
  obtain ⟨hG, ⟨ws', hw⟩, hini, hlk, hin, hnm, hdd⟩ := K
  exact kf_gov X Wd (va_runIN (As := As) (rest := rest) (b := b) (host := host) ⟨X.1, X.2.1, X.2.2.1, X.2.2.2.1, X.2.2.2.2.1⟩ (M H.size) ⟨va_cnB n X.2.2.2.2.1 hG hw hrm.1 hrm.2 (X.nw _ hlk) (X.2.2.2.2.1 _ hini) hdd hR, hnm, X.2.2.2.2.1 _ hin⟩ ⟨C0.blind, fun U hU hW => ⟨rfl, hpre U hU hW⟩⟩ rfl hn hl rfl (lv_room hroom) hd hcs) kk
/-- new cells come behind the world -/
def Fn (own : String) (idx : Nat) (Ts : List Cond) (cl : List vw_C) (ci N : Nat) (fs : List Value) : Prop := ∃ (C : String) (T : u_T) (ty : Nat → FieldType), cl[ci]? = some (C, T, N) ∧ (∀ w ∈ u_ws C T N, w ∈ Ts) ∧ (∀ k, k < N → parseFieldDescriptor (T k).2.2.1 = some (ty k)) ∧ Cond.classLink own idx C ∈ Ts ∧ Cond.instantiable C N ∈ Ts ∧ Cond.initialized C ∈ Ts ∧ ∀ j, j < N → defaultValue (ty j) = vp_V fs j
theorem kx_new {ci N : Nat} {fs : List Value} (X : Cx p s m args meth c cc nL ret own Ts D cl tys A Zs) (Wd : Wo D cl A s.heap wd H locs) (F : Fn own idx Ts cl ci N fs) (hc : cells + 1 ≤ R.cells) (hs : slots + N ≤ R.slots) (hd : decode cc pc = .ok (.new idx, 3))
    (kk : ∀ (q : Nat) (H1 : Heap), Wo D cl A s.heap (wd ++ [(q, .inr (ci, fs))]) H1 locs → W p l e R s m args below meth c H1 locs (cells + 1) (slots + N) Q (F0 m (pc + 3) ls (.ref q :: rest))) : W p l e R s m args below meth c H locs cells slots Q (F0 m pc ls rest) := by
  obtain ⟨C, T, ty, hcl, hin, hty, h1, h2, h3, h4⟩ := F
  obtain ⟨hx, hb, hml, hown, hts, hK, hA, hZ, hr, hlk, hNW⟩ := X
  exact va_new (ci := ci) (fs := fs) (C := C) (T := T) (N := N) hx hb hts hin ty hty hown (hts _ h1) (hts _ h2) (hts _ h3) hK Wd.1 Wd.2.1 Wd.2.2 hA hcl h4 hc hs hd (fun q H1 hP hD hS => kk q H1 ⟨hP, hD, hS⟩)
/-- a final field, written in its own constructor; the cell is the world's first -/
def Ff (own : String) (idx : Nat) (Ts : List Cond) (cl : List vw_C) (ci n : Nat) (ty : FieldType) : Prop := ∃ (C : String) (T : u_T) (N : Nat) (ty0 : Nat → FieldType), cl[ci]? = some (C, T, N) ∧ (∀ w ∈ u_ws C T N, w ∈ Ts) ∧ n < N ∧ Cond.fieldLink own idx (T n).1 (T n).2.1 (T n).2.2.1 ∈ Ts ∧ (∀ k, k < N → parseFieldDescriptor (T k).2.2.1 = some (ty0 k)) ∧ (∀ a, a < N → ∀ b, b < N → a ≠ b → (T a).2.1 ≠ (T b).2.1) ∧ (T n).2.2.2 = true ∧ (T n).1 = own ∧ parseFieldDescriptor (T n).2.2.1 = some ty
theorem kx_putF {ci n a : Nat} {fs : List Value} {v : Value} {ty : FieldType} {wr : va_W} (X : Cx p s m args meth c cc nL ret own Ts D cl tys A Zs) (hnm : meth.name = "<init>") (Wd : Wo D cl A s.heap ((a, .inr (ci, fs)) :: wr) H locs) (F : Ff own idx Ts cl ci n ty) (hn : narrow ty v = v) (hfit : fits ty v = true) (hl : n < fs.length) (hd : decode cc pc = .ok (.putfield idx, 3))
    (kk : ∀ (H1 : Heap) (locs1 : List Loc), Wo D cl A s.heap ((a, .inr (ci, fs.set n v)) :: wr) H1 locs1 → W p l e R s m args below meth c H1 locs1 cells slots Q (F0 m (pc + 3) ls rest)) : W p l e R s m args below meth c H locs cells slots Q (F0 m pc ls (v :: .ref a :: rest)) := by
  obtain ⟨C, T, N, ty0, hcl, hin, hk, hlink, hty, hnmx, hfin, hdecl, hp⟩ := F
  obtain ⟨hx, hb, hml, hown, hts, hK, hA, hZ, hr, hlk, hNW⟩ := X
  exact va_putF (D := D) (ci := ci) (v := v) (ty := ty) (C := C) (T := T) (N := N) hx hb hts hin ty0 hty hnmx hown hK Wd.1 Wd.2.1 Wd.2.2 0 rfl hcl n hk (hts _ hlink) (fun _ h => h) hfin hnm hdecl hp hn hfit hl hd (fun H1 locs1 hP hD hS => kk H1 locs1 ⟨hP, hD, hS⟩)
theorem kx_put0 {ci n a : Nat} {fs : List Value} {v : Value} {ty : FieldType} {wr : va_W} (X : Cx p s m args meth c cc nL ret own Ts D cl tys A Zs) (Wd : Wo D cl A s.heap ((a, .inr (ci, fs)) :: wr) H locs) (F : Fp own idx Ts cl ci n ty) (hn : narrow ty v = v) (hfit : fits ty v = true) (hl : n < fs.length) (hd : decode cc pc = .ok (.putfield idx, 3))
    (kk : ∀ (H1 : Heap) (locs1 : List Loc), Wo D cl A s.heap ((a, .inr (ci, fs.set n v)) :: wr) H1 locs1 → W p l e R s m args below meth c H1 locs1 cells slots Q (F0 m (pc + 3) ls rest)) : W p l e R s m args below meth c H locs cells slots Q (F0 m pc ls (v :: .ref a :: rest)) := by
  obtain ⟨C, T, N, ty0, hcl, hin, hk, hlink, hty, hnmx, hfin, hp⟩ := F
  obtain ⟨hx, hb, hml, hown, hts, hK, hA, hZ, hr, hlk, hNW⟩ := X
  exact va_put (D := D) (ci := ci) (v := v) (ty := ty) (C := C) (T := T) (N := N) hx hb hts hin ty0 hty hnmx hown hK Wd.1 Wd.2.1 Wd.2.2 0 rfl hcl n hk (hts _ hlink) (fun _ h => h) hfin hp hn hfit hl hd (fun H1 locs1 hP hD hS => kk H1 locs1 ⟨hP, hD, hS⟩)
theorem kx_get0 {ci n a : Nat} {fs : List Value} {v : Value} {wr : va_W} (X : Cx p s m args meth c cc nL ret own Ts D cl tys A Zs) (Wd : Wo D cl A s.heap ((a, .inr (ci, fs)) :: wr) H locs) (F : Fg own idx Ts cl ci n) (hv : fs[n]? = some v) (hd : decode cc pc = .ok (.getfield idx, 3))
    (kk : W p l e R s m args below meth c H locs cells slots Q (F0 m (pc + 3) ls (v :: rest))) : W p l e R s m args below meth c H locs cells slots Q (F0 m pc ls (.ref a :: rest)) := by
  obtain ⟨C, T, N, hc, hin, hk, hlink⟩ := F
  obtain ⟨hx, hb, hml, hown, hts, hK, hA, hZ, hr, hlk, hNW⟩ := X
  exact va_get (D := D) (ci := ci) (v := v) (C := C) (T := T) (N := N) hx hb hts hin hown hK Wd.1 0 rfl hc n hk (hts _ hlink) (fun _ h => h) hv hd kk
/-- an int array of the class cI that the tables know -/
theorem kx_newi {cI : ClassId} {n : Int32} {N : Nat} (X : Cx p s m args meth c cc nL ret own Ts D cl tys A Zs) (Wd : Wo D cl A s.heap wd H locs) (t0 : Nat) (ht : tys[t0]? = some (cI, .int)) (harr : Cond.arrayClass .int ∈ Ts) (hn : n = nI N) (hN : N < 65536) (hc : cells + 1 ≤ R.cells) (hs : slots + N ≤ R.slots) (hd : decode cc pc = .ok (.newarray .int, 2))
    (kk : ∀ (q : Nat) (H1 : Heap), Wo D cl A s.heap (wd ++ [(q, .inl (cI, N, .inl (fun _ => 0)))]) H1 locs → W p l e R s m args below meth c H1 locs (cells + 1) (slots + N) Q (F0 m (pc + 2) ls (.ref q :: rest))) : W p l e R s m args below meth c H locs cells slots Q (F0 m pc ls (.int n :: rest)) := by
  obtain ⟨hx, hb, hml, hown, hts, hK, hA, hZ, hr, hlk, hNW⟩ := X
  subst hn
  refine va_newa (atype := .int) (ty := .int) (a0 := (N, .inl (fun _ => 0))) hx hb (hts _ harr) rfl hK Wd.1 Wd.2.1 Wd.2.2 hA (fun cA => rfl) (nI_pos (by omega)) (nI_clamp (by omega)) (by show N * 4 ≤ _; omega) hc hs hd (fun q cA H1 hK1 hP hD hS => ?_)
  have h1 : s.vm.findClass ("[" ++ (FieldType.int).toString) = some cA := (hK1.2 tys.length (cA, .int) (by simp)).2
  have h2 : s.vm.findClass ("[" ++ (FieldType.int).toString) = some cI := (hK.2 t0 _ ht).2
  have h3 : cA = cI := Option.some.inj (h1.symm.trans h2)
  subst h3
  exact kk q H1 ⟨hP, hD, hS⟩
/-- an array of references -/
theorem kx_newr {cT : ClassId} {C : String} {n : Int32} {N : Nat} (X : Cx p s m args meth c cc nL ret own Ts D cl tys A Zs) (Wd : Wo D cl A s.heap wd H locs) (t0 : Nat) (ht : tys[t0]? = some (cT, .object C)) (hlink : Cond.classLink own idx C ∈ Ts) (hover : va_AO C s) (hn : n = nI N) (hN : N < 65536) (hc : cells + 1 ≤ R.cells) (hs : slots + N ≤ R.slots) (hd : decode cc pc = .ok (.anewarray idx, 3))
    (kk : ∀ (q : Nat) (H1 : Heap), Wo D cl A s.heap (wd ++ [(q, .inl (cT, N, .inr (.inr (.inr (.inr (fun _ => none))))))]) H1 locs → W p l e R s m args below meth c H1 locs (cells + 1) (slots + N) Q (F0 m (pc + 3) ls (.ref q :: rest))) : W p l e R s m args below meth c H locs cells slots Q (F0 m pc ls (.int n :: rest)) := by
  obtain ⟨hx, hb, hml, hown, hts, hK, hA, hZ, hr, hlk, hNW⟩ := X
  subst hn
  refine va_newq hx hb hown (hts _ hlink) hover hK Wd.1 Wd.2.1 Wd.2.2 hA (nI_pos (by omega)) (nI_clamp (by omega)) (by omega) hc hs hd (fun q cA H1 hK1 hP hD hS => ?_)
  obtain ⟨k1, c1, a1, a2, a3, h1⟩ : ∃ (kA : Class) (comp : ClassId), s.vm.classes[cA]? = some kA ∧ kA.kind = .array comp (.object C) ∧ s.vm.findClass C = some comp ∧ s.vm.findClass ("[" ++ (FieldType.object C).toString) = some cA := (hK1.2 tys.length (cA, .object C) (by simp)).2
  obtain ⟨k2, c2, b1, b2, b3, h2⟩ : ∃ (kA : Class) (comp : ClassId), s.vm.classes[cT]? = some kA ∧ kA.kind = .array comp (.object C) ∧ s.vm.findClass C = some comp ∧ s.vm.findClass ("[" ++ (FieldType.object C).toString) = some cT := (hK.2 t0 _ ht).2
  have h3 : cA = cT := Option.some.inj (h1.symm.trans h2)
  subst h3
  exact kk q H1 ⟨hP, hD, hS⟩
/-- Object's constructor -/
theorem kx_obj {a : Nat} (X : Cx p s m args meth c cc nL ret own Ts D cl tys A Zs) (h1 : Cond.methodLink own idx Lib.objectInit ∈ Ts) (h2 : Cond.instanceMethod Lib.objectInit ∈ Ts) (h3 : Cond.code Lib.objectInit ⟨#[0xb1]⟩ 1 none ∈ Ts) (hl : ls.size = nL) (hfr : 1 ≤ R.frames) (hlo : (rest.map fun v => v.category).sum + 12 ≤ R.locals) (hd : decode cc pc = .ok (.invokespecial idx, 3))
    (kk : W p l e R s m args below meth c H locs cells slots Q (F0 m (pc + 3) ls rest)) : W p l e R s m args below meth c H locs cells slots Q (F0 m pc ls (.ref a :: rest)) := by
  obtain ⟨hx, hb, hml, hown, hts, hK, hA, hZ, hr, hlk, hNW⟩ := X
  refine W.objInit hx hb hown (hts _ h1) (hts _ h2) (hts _ h3) rfl (by rw [hml]; exact hl) rfl hd hfr ?_ ?_
  · show 2 * 0 + _ + 12 ≤ _
    omega
  · exact kk
end KF
