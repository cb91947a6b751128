/-! BASE (mine, says nothing of any class): worlds by key, contracts over a whole world, rows with one context -/
def imax (x y : Int32) : Int32 := if x < y then y else x
def imin (x y : Int32) : Int32 := if y < x then y else x
def iabs (x : Int32) : Int32 := if 0 ≤ x then x else 0 - x
abbrev SG : Type := Nat → Nat → Nat → Int32
def up3 (g : SG) (k i j : Nat) (v : Int32) : SG := fun a b d => if a = k ∧ d = j ∧ b = i then v else g a b d
theorem up3_row {g : SG} {k i j : Nat} {v : Int32} : up3 g k i j v k i = upd (g k i) j v := by
  funext d
  simp [up3, upd]
theorem up3_off {g : SG} {k i j a b : Nat} {v : Int32} (h : ¬ (a = k ∧ b = i)) : up3 g k i j v a b = g a b := by
  funext d
  have : ¬ (a = k ∧ d = j ∧ b = i) := fun q => h ⟨q.1, q.2.2⟩
  simp [up3, this]
theorem up3_at {g : SG} {k i j a b d : Nat} {v : Int32} : up3 g k i j v a b d = if a = k ∧ d = j ∧ b = i then v else g a b d := rfl
def kwW (ix : List (Nat × Nat)) (ad : Nat → Nat → Nat) (ce : Nat → Nat → va_E) : va_W := ix.map fun q => (ad q.1 q.2, ce q.1 q.2)
def gwd (ix : List (Nat × Nat)) (ad : Nat → Nat → Nat) (cf : Nat → Nat → (Nat → Int32) → va_E) (g : SG) : va_W := kwW ix ad (fun a b => cf a b (g a b))
theorem kw_get {ix : List (Nat × Nat)} {ad : Nat → Nat → Nat} {ce : Nat → Nat → va_E} {k i : Nat} (h : (k, i) ∈ ix) : ∃ n : Nat, (kwW ix ad ce)[n]? = some (ad k i, ce k i) := by
  apply List.getElem?_of_mem
  exact List.mem_map.mpr ⟨(k, i), h, rfl⟩
theorem kw_set {A : Nat → Prop} {ix : List (Nat × Nat)} {ad : Nat → Nat → Nat} {ce ce' : Nat → Nat → va_E} {k i n : Nat} {e : va_E} (hD : va_D A (kwW ix ad ce)) (h : (k, i) ∈ ix) (hn : (kwW ix ad ce)[n]? = some (ad k i, ce k i)) (he : ce' k i = e) (ho : ∀ a b : Nat, ¬ (a = k ∧ b = i) → ce' a b = ce a b) : (kwW ix ad ce).set n (ad k i, e) = kwW ix ad ce' := by
  obtain ⟨n0, h0⟩ := List.getElem?_of_mem h
  have hn0 : (kwW ix ad ce)[n0]? = some (ad k i, ce k i) := by
    unfold kwW
    rw [List.getElem?_map, h0]
    rfl
  have hnn : n = n0 := hD.1 n n0 _ _ hn hn0 rfl
  subst hnn
  have hl := (List.getElem?_eq_some_iff.mp hn).1
  apply List.ext_getElem?
  intro j
  by_cases hj : j = n
  · subst hj
    rw [List.getElem?_set_self hl]
    unfold kwW
    rw [List.getElem?_map, h0, ← he]
    rfl
  · rw [List.getElem?_set_ne (Ne.symm hj)]
    unfold kwW
    rw [List.getElem?_map, List.getElem?_map]
    cases hq : ix[j]? with
    | none => rfl
    | some q =>
      have hne : ¬ (q.1 = k ∧ q.2 = i) := by
        rintro ⟨h1, h2⟩
        have hjq : (kwW ix ad ce)[j]? = some (ad k i, ce k i) := by
          unfold kwW
          rw [List.getElem?_map, hq, ← h1, ← h2]
          rfl
        exact hj (hD.1 j n _ _ hjq hn rfl)
      show some (ad q.1 q.2, ce q.1 q.2) = some (ad q.1 q.2, ce' q.1 q.2)
      rw [ho q.1 q.2 hne]
abbrev Zt : Type := String × String × String × Nat × Nat × (Nat → Int32)
def Zok (Zs : List Zt) (A : Nat → Prop) (U : State) (H : Heap) : Prop := ∀ z ∈ Zs, va_Z z.1 z.2.1 z.2.2.1 (.ref z.2.2.2.1) A U H ∧ va_T .int z.2.2.2.1 z.2.2.2.2.1 (fun j => .int (z.2.2.2.2.2 j)) A U H
theorem Zok.moved {Zs : List Zt} {A : Nat → Prop} {u U : State} {H : Heap} (hvm : u.vm.Alike U.vm) (h : Zok Zs A u H) : Zok Zs A U H := fun z hz => ⟨(h z hz).1.moved hvm, (h z hz).2.moved hvm⟩
theorem Zok.kept {Zs : List Zt} {A : Nat → Prop} {U : State} {H H1 : Heap} (h : Zok Zs A U H) (hq : ∀ a : Nat, a < H.size → ¬ A a → H1[a]? = H[a]?) : Zok Zs A U H1 := fun z hz => ⟨(h z hz).1.kept hq, (h z hz).2.kept hq⟩
theorem Zok.narrow {Zs : List Zt} {A B : Nat → Prop} {U : State} {H : Heap} (h : Zok Zs A U H) (hAB : ∀ q, B q → A q) : Zok Zs B U H := fun z hz => ⟨(h z hz).1.narrow hAB, (h z hz).2.narrow hAB⟩
/-- the frame's own facts, all that no instruction changes -/
def Cx (p : Program) (s : State) (m : MethodId) (args : Array Value) (meth : Method) (c : Code) (cc : ByteArray) (nL : Nat) (ret : Option FieldType) (own : String) (Ts : List Cond) (D : va_G) (cl : List vw_C) (tys : List (ClassId × FieldType)) (A : Nat → Prop) (Zs : List Zt) : Prop :=
  p.tables.exec = Jvm.exec ∧ c.code = cc ∧ c.maxLocals = nL ∧ s.vm.findClass own = some m.cls ∧ (∀ w ∈ Ts, w.before args s = true) ∧ va_K D cl tys s ∧ (∀ q, s.heap.size ≤ q → A q) ∧ Zok Zs A s s.heap ∧ meth.sig.returnType = ret ∧ meth.locks = false ∧ NWok s
theorem Cx.nw {p : Program} {s : State} {m : MethodId} {args : Array Value} {meth : Method} {c : Code} {cc : ByteArray} {nL : Nat} {ret : Option FieldType} {own : String} {Ts : List Cond} {D : va_G} {cl : List vw_C} {tys : List (ClassId × FieldType)} {A : Nat → Prop} {Zs : List Zt} (X : Cx p s m args meth c cc nL ret own Ts D cl tys A Zs) : NWok s := X.2.2.2.2.2.2.2.2.2.2
def Wo (D : va_G) (cl : List vw_C) (A : Nat → Prop) (H0 : Heap) (wd : va_W) (H : Heap) (locs : List Loc) : Prop := va_P D cl wd H ∧ va_D A wd ∧ va_S A H0 H locs
/-- a contract's start and its end, in worlds -/
def C0 (D : va_G) (cl : List vw_C) (tys : List (ClassId × FieldType)) (Zs : List Zt) (wd : va_W) (sz : Nat) (U : State) : Prop := U.heap.size = sz ∧ va_P D cl wd U.heap ∧ va_K D cl tys U ∧ va_D (fun _ => True) wd ∧ Zok Zs (va_A wd sz) U U.heap ∧ NWok U
def C1 (D : va_G) (cl : List vw_C) (tys : List (ClassId × FieldType)) (wd0 : va_W) (sz : Nat) (wd : va_W) (t : State) : Prop := va_P D cl wd t.heap ∧ va_K D cl tys t ∧ va_D (va_A wd0 sz) wd
def Mi (l : Launch) (y : MethodName) (ws : List Cond) (rm : Room) (D : va_G) (cl : List vw_C) (tys : List (ClassId × FieldType)) (Zs : List Zt) (as : List Value) (wd : va_W) {S : Type} (wf : S → va_W) (post : Int32 → S → Prop) (mc ms : Nat) : Prop :=
  ∀ sz : Nat, Met l y ws rm (va_Pc as (C0 D cl tys Zs wd sz)) (va_Qi post (fun u t => C1 D cl tys wd sz (wf u) t) (va_A wd sz)) mc ms (va_A wd sz)
def Ml (l : Launch) (y : MethodName) (ws : List Cond) (rm : Room) (D : va_G) (cl : List vw_C) (tys : List (ClassId × FieldType)) (Zs : List Zt) (as : List Value) (wd : va_W) {S : Type} (wf : S → va_W) (post : Int64 → S → Prop) (mc ms : Nat) : Prop :=
  ∀ sz : Nat, Met l y ws rm (va_Pc as (C0 D cl tys Zs wd sz)) (va_Ql post (fun u t => C1 D cl tys wd sz (wf u) t) (va_A wd sz)) mc ms (va_A wd sz)
def Mv (l : Launch) (y : MethodName) (ws : List Cond) (rm : Room) (D : va_G) (cl : List vw_C) (tys : List (ClassId × FieldType)) (Zs : List Zt) (as : List Value) (wd : va_W) {S : Type} (wf : S → va_W) (post : S → Prop) (mc ms : Nat) : Prop :=
  ∀ sz : Nat, Met l y ws rm (va_Pc as (C0 D cl tys Zs wd sz)) (va_Qv post (fun u t => C1 D cl tys wd sz (wf u) t) (va_A wd sz)) mc ms (va_A wd sz)
theorem C0.blind {D : va_G} {cl : List vw_C} {tys : List (ClassId × FieldType)} {Zs : List Zt} {wd : va_W} {sz : Nat} {as : List Value} : FrameBlind (va_Pc as (C0 D cl tys Zs wd sz)) := by
  intro a U g mk q
  obtain ⟨q0, q1, qP, qK, qD, qZ, qN⟩ := q
  exact ⟨q0, q1, qP, va_K.moved (u := U) (U := U.calling g mk a) (Vm.Alike.refl U.vm) qK, qD, Zok.moved (u := U) (U := U.calling g mk a) (Vm.Alike.refl U.vm) qZ, qN.same rfl⟩
/-- what a body may begin with -/
abbrev Body0 (l : Launch) (y : MethodName) (ws : List Cond) (rm : Room) (D : va_G) (cl : List vw_C) (tys : List (ClassId × FieldType)) (Zs : List Zt) (as : List Value) (wd : va_W) (cc : ByteArray) (nL : Nat) (ret : Option FieldType) (Qc : Nat → Array Value → State → Outcome → State → Prop) (mc ms : Nat) : Prop :=
  ∀ (p : Program) (e : Env) (s : State) (m : MethodId) (below : List Frame) (meth : Method) (c : Code), Cx p s m as.toArray meth c cc nL ret y.cls ws D cl tys (va_A wd s.heap.size) Zs → meth.name = y.name → Wo D cl (va_A wd s.heap.size) s.heap wd s.heap [] → ∀ ls : Array Slot, lv_has ls nL (lv_args 0 as) →
    W p l e rm s m as.toArray below meth c s.heap [] 0 0 (MQ below (Qc s.heap.size) as.toArray s mc ms (va_A wd s.heap.size)) (F0 m 0 ls [])
theorem met_of {l : Launch} {y : MethodName} {ws ws' : List Cond} {rm : Room} {D : va_G} {cl : List vw_C} {tys : List (ClassId × FieldType)} {Zs : List Zt} {as : List Value} {wd : va_W} {cc : ByteArray} {nL : Nat} {ret : Option FieldType} {Qc : Nat → Array Value → State → Outcome → State → Prop} {mc ms : Nat}
    (hy : plainName y.cls = true) (hw : ws = .code y cc nL ret :: ws') (hlen : (lg_sl as).length ≤ nL) (body : Body0 l y ws rm D cl tys Zs as wd cc nL ret Qc mc ms) (sz : Nat) : Met l y ws rm (va_Pc as (C0 D cl tys Zs wd sz)) (Qc sz) mc ms (va_A wd sz) := by
  refine Met.ofW (cc := cc) (maxL := nL) (ret := ret) hy hw ?_
  intro p e s m args below meth c s₁ B hml hv
  obtain ⟨rfl, hsz, hP, hK, hD0, hZ, hN⟩ := hv
  subst hsz
  have hX : Cx p s m as.toArray meth c cc nL ret y.cls ws D cl tys (va_A wd s.heap.size) Zs := ⟨B.exec, B.bytes, hml, findClass_of_methodNamed B.named, atoms_spec (ws := ws) B.pre, hK, fun q h => Or.inr h, hZ, B.returns, B.notSynchronized, hN⟩
  have hl := lv_entry as (n := nL) hlen
  rw [lg_entry_eq]
  exact body p e s m below meth c hX (name_of_methodNamed B.named B.method).1 ⟨hP, hD0.self, va_S.rf⟩ _ hl
/-- a method of a class some of whose methods the machine runs itself (java/lang/Math): this one it doesn't -/
theorem ofWF {l : Launch} {y : MethodName} {ws ws' : List Cond} {rm : Room} {Pc : Array Value → State → Prop} {Qc : Array Value → State → Outcome → State → Prop} {mc ms : Nat} {free : Addr → Prop} {cc : ByteArray} {maxL : Nat} {ret : Option FieldType}
    (hy : plainFor y = true) (hw : ws = Cond.code y cc maxL ret :: ws')
    (body : ∀ p e s m args below meth c s₁, BodyLoose p l y (headSpec ws rm) cc maxL ret e s m args below meth c s₁ → c.maxLocals = maxL → Pc args s →
      W p l e (headSpec ws rm).room s m args below meth c s.heap [] 0 0 (MQ below Qc args s mc ms free) (entryFrame m args maxL)) : Met l y ws rm Pc Qc mc ms free := by
  refine MetFree.of_bodySF (code := cc) (maxLocals := maxL) (ret := ret) hy ?_ ?_
  · intro args s m h hn
    obtain ⟨meth, c, h1, h2, h3, h4, h5, h6, -, -⟩ := Cond.code_spec hn (atoms_spec (ws := ws) h _ (by rw [hw]; exact List.mem_cons_self))
    exact ⟨meth, c, h1, h2, h3, h4, h5, h6⟩
  · intro p e s m args below meth c s₁ B hml hP _
    have hh0 : s₁.heap = s.heap := by rw [B.state]; rfl
    obtain ⟨t, a1, o, b1, b2, b3⟩ := body p e s m args below meth c s₁ B hml hP s₁ hh0 (Stand.of_body B)
    exact ⟨t, o, a1, b1, b2, ⟨b3.1, b3.2⟩⟩
theorem met_ofF {l : Launch} {y : MethodName} {ws ws' : List Cond} {rm : Room} {D : va_G} {cl : List vw_C} {tys : List (ClassId × FieldType)} {Zs : List Zt} {as : List Value} {wd : va_W} {cc : ByteArray} {nL : Nat} {ret : Option FieldType} {Qc : Nat → Array Value → State → Outcome → State → Prop} {mc ms : Nat}
    (hy : plainFor y = true) (hw : ws = .code y cc nL ret :: ws') (hlen : (lg_sl as).length ≤ nL) (body : Body0 l y ws rm D cl tys Zs as wd cc nL ret Qc mc ms) (sz : Nat) : Met l y ws rm (va_Pc as (C0 D cl tys Zs wd sz)) (Qc sz) mc ms (va_A wd sz) := by
  refine ofWF (cc := cc) (maxL := nL) (ret := ret) hy hw ?_
  intro p e s m args below meth c s₁ B hml hv
  obtain ⟨rfl, hsz, hP, hK, hD0, hZ, hN⟩ := hv
  subst hsz
  have hX : Cx p s m as.toArray meth c cc nL ret y.cls ws D cl tys (va_A wd s.heap.size) Zs := ⟨B.exec, B.bytes, hml, findClass_of_methodNamed B.named, atoms_spec (ws := ws) B.pre, hK, fun q h => Or.inr h, hZ, B.returns, B.notSynchronized, hN⟩
  have hl := lv_entry as (n := nL) hlen
  rw [lg_entry_eq]
  exact body p e s m below meth c hX (name_of_methodNamed B.named B.method).1 ⟨hP, hD0.self, va_S.rf⟩ _ hl
section KX
variable {p : Program} {l : Launch} {e : Env} {R : Room} {s : State} {m : MethodId} {args : Array Value} {below : List Frame} {meth : Method} {c : Code} {H : Heap} {locs : List Loc} {cells slots : Nat} {Q : State → Prop}
variable {cc : ByteArray} {nL : Nat} {ret : Option FieldType} {own : String} {Ts : List Cond} {D : va_G} {cl : List vw_C} {tys : List (ClassId × FieldType)} {A : Nat → Prop} {Zs : List Zt}
variable {pc : Nat} {ls : Array Slot} {rest : List Value} {wd wd0 : va_W}
variable {ix : List (Nat × Nat)} {ad : Nat → Nat → Nat} {cf : Nat → Nat → (Nat → Int32) → va_E} {g : SG}
/-- the world's facts carry into a callee -/
theorem kx_pre (X : Cx p s m args meth c cc nL ret own Ts D cl tys A Zs) (Wd : Wo D cl A s.heap wd H locs) : ∀ U : State, U.heap = H → s.WarmedH U.vm → C0 D cl tys Zs wd H.size U := by
  obtain ⟨hx, hb, hml, hown, hts, hK, hA, hZ, hr, hlk, hNW⟩ := X
  obtain ⟨hP, hD, hS⟩ := Wd
  intro U hU hW
  refine ⟨by rw [hU], by rw [hU]; exact hP, va_K.moved hW.alike hK, hD.weaken (fun _ _ _ _ => trivial), ?_, hNW.warm hW⟩
  rw [hU]
  refine Zok.narrow (A := A) (Zok.kept (H := s.heap) (Zok.moved hW.alike hZ) (fun a h1 h2 => hS.2.1 a h1 h2)) (fun q hq => ?_)
  rcases hq with ⟨k, e0, h⟩ | h
  · exact hD.2 k _ h
  · exact hA q (Nat.le_trans hS.1 h)
theorem kx_free (X : Cx p s m args meth c cc nL ret own Ts D cl tys A Zs) (Wd : Wo D cl A s.heap wd H locs) : ∀ q, va_A wd H.size q → A q := by
  intro q hq
  rcases hq with ⟨k, e0, h⟩ | h
  · exact Wd.2.1.2 k _ h
  · exact X.2.2.2.2.2.2.1 q (Nat.le_trans Wd.2.2.1 h)
theorem kx_goi {S : Type} {wf : S → va_W} {post : Int32 → S → Prop} {mc ms : Nat} {st0 : List Value} {a : Array Value} (X : Cx p s m args meth c cc nL ret own Ts D cl tys A Zs) (Wd : Wo D cl A s.heap wd H locs)
    (hr : va_Run p l e R s m args below meth c H locs cells slots mc ms (F0 m pc ls st0) rest (va_Qi post (fun u t => C1 D cl tys wd H.size (wf u) t) (va_A wd H.size) a) (va_A wd H.size))
    (kk : ∀ (r : Int32) (u : S) (H1 : Heap) (locs1 : List Loc), post r u → Wo D cl A s.heap (wf u) H1 locs1 → W p l e R s m args below meth c H1 locs1 (cells + mc) (slots + ms) Q (F0 m (pc + 3) ls (.int r :: rest))) : W p l e R s m args below meth c H locs cells slots Q (F0 m pc ls st0) := by
  have hF := kx_free X Wd
  refine va_calli hr Wd.2.2 (fun q _ h => hF q h) hF (fun r u t H1 locs1 ht hvm hw hB hz1 hk1 hS => ?_)
  obtain ⟨hP1, hK1, hD1⟩ := hB
  rw [ht] at hP1
  exact kk r u H1 locs1 hw ⟨hP1, hD1.weaken (fun _ _ _ h => hF _ h), hS⟩
theorem kx_gol {S : Type} {wf : S → va_W} {post : Int64 → S → Prop} {mc ms : Nat} {st0 : List Value} {a : Array Value} (X : Cx p s m args meth c cc nL ret own Ts D cl tys A Zs) (Wd : Wo D cl A s.heap wd H locs)
    (hr : va_Run p l e R s m args below meth c H locs cells slots mc ms (F0 m pc ls st0) rest (va_Ql post (fun u t => C1 D cl tys wd H.size (wf u) t) (va_A wd H.size) a) (va_A wd H.size))
    (kk : ∀ (r : Int64) (u : S) (H1 : Heap) (locs1 : List Loc), post r u → Wo D cl A s.heap (wf u) H1 locs1 → W p l e R s m args below meth c H1 locs1 (cells + mc) (slots + ms) Q (F0 m (pc + 3) ls (.long r :: rest))) : W p l e R s m args below meth c H locs cells slots Q (F0 m pc ls st0) := by
  have hF := kx_free X Wd
  refine va_calll hr Wd.2.2 (fun q _ h => hF q h) hF (fun r u t H1 locs1 ht hvm hw hB hz1 hk1 hS => ?_)
  obtain ⟨hP1, hK1, hD1⟩ := hB
  rw [ht] at hP1
  exact kk r u H1 locs1 hw ⟨hP1, hD1.weaken (fun _ _ _ h => hF _ h), hS⟩
theorem kx_gov {S : Type} {wf : S → va_W} {post : S → Prop} {mc ms : Nat} {st0 : List Value} {a : Array Value} (X : Cx p s m args meth c cc nL ret own Ts D cl tys A Zs) (Wd : Wo D cl A s.heap wd H locs)
    (hr : va_Run p l e R s m args below meth c H locs cells slots mc ms (F0 m pc ls st0) rest (va_Qv post (fun u t => C1 D cl tys wd H.size (wf u) t) (va_A wd H.size) a) (va_A wd H.size))
    (kk : ∀ (u : S) (H1 : Heap) (locs1 : List Loc), post u → Wo D cl A s.heap (wf u) H1 locs1 → W p l e R s m args below meth c H1 locs1 (cells + mc) (slots + ms) Q (F0 m (pc + 3) ls rest)) : W p l e R s m args below meth c H locs cells slots Q (F0 m pc ls st0) := by
  have hF := kx_free X Wd
  refine va_callv hr Wd.2.2 (fun q _ h => hF q h) hF (fun u t H1 locs1 ht hvm hw hB hz1 hk1 hS => ?_)
  obtain ⟨hP1, hK1, hD1⟩ := hB
  rw [ht] at hP1
  exact kk u H1 locs1 hw ⟨hP1, hD1.weaken (fun _ _ _ h => hF _ h), hS⟩
/-- the receiver of a call: a known object -/
theorem kx_recv {k i ci : Nat} {fs : List Value} {C : String} (X : Cx p s m args meth c cc nL ret own Ts D cl tys A Zs) (Wd : Wo D cl A s.heap (gwd ix ad cf g) H locs) (hix : (k, i) ∈ ix) (hcell : cf k i (g k i) = .inr (ci, fs)) (hc : (cl[ci]?).map (fun q => q.1) = some C) : ∃ cell : Cell, H[ad k i]? = some cell ∧ cell.vm.isStatics = false ∧ s.vm.findClass C = some cell.cls := by
  obtain ⟨n, hn⟩ := kw_get (ad := ad) (ce := fun a b => cf a b (g a b)) hix
  cases hq : cl[ci]? with
  | none => rw [hq] at hc; cases hc
  | some q =>
    rw [hq] at hc
    have hqc : q.1 = C := Option.some.inj hc
    rw [← hqc]
    exact va_recv X.2.2.2.2.2.1 Wd.1 hq (q0 := n) (by rw [show (gwd ix ad cf g)[n]? = _ from hn, hcell])
/-- a field's row: the class number ci, the slot n, read or written by the class own through its constant idx -/
def Fg (own : String) (idx : Nat) (Ts : List Cond) (cl : List vw_C) (ci n : Nat) : Prop := ∃ (C : String) (T : u_T) (N : Nat), cl[ci]? = some (C, T, N) ∧ (∀ w ∈ u_ws C T N, w ∈ Ts) ∧ n < N ∧ Cond.fieldLink own idx (T n).1 (T n).2.1 (T n).2.2.1 ∈ Ts
def Fp (own : String) (idx : Nat) (Ts : List Cond) (cl : List vw_C) (ci n : Nat) (ty : FieldType) : Prop := ∃ (C : String) (T : u_T) (N : Nat) (ty0 : Nat → FieldType), cl[ci]? = some (C, T, N) ∧ (∀ w ∈ u_ws C T N, w ∈ Ts) ∧ n < N ∧ Cond.fieldLink own idx (T n).1 (T n).2.1 (T n).2.2.1 ∈ Ts ∧ (∀ k, k < N → parseFieldDescriptor (T k).2.2.1 = some (ty0 k)) ∧ (∀ a, a < N → ∀ b, b < N → a ≠ b → (T a).2.1 ≠ (T b).2.1) ∧ (T n).2.2.2 = false ∧ parseFieldDescriptor (T n).2.2.1 = some ty
theorem kx_get {k i ci idx n : Nat} {fs : List Value} {v : Value} (X : Cx p s m args meth c cc nL ret own Ts D cl tys A Zs) (Wd : Wo D cl A s.heap (gwd ix ad cf g) H locs) (hix : (k, i) ∈ ix) (hcell : cf k i (g k i) = .inr (ci, fs)) (F : Fg own idx Ts cl ci n) (hv : fs[n]? = some v) (hd : decode cc pc = .ok (.getfield idx, 3))
    (kk : W p l e R s m args below meth c H locs cells slots Q (F0 m (pc + 3) ls (v :: rest))) : W p l e R s m args below meth c H locs cells slots Q (F0 m pc ls (.ref (ad k i) :: rest)) := by
  obtain ⟨q0, hq⟩ := kw_get (ad := ad) (ce := fun a b => cf a b (g a b)) hix
  obtain ⟨hx, hb, hml, hown, hts, hK, hA, hZ, hr, hlk, hNW⟩ := X
  obtain ⟨C, T, N, hc, hin, hk, hlink⟩ := F
  exact va_get (D := D) (ci := ci) (v := v) (C := C) (T := T) (N := N) hx hb hts hin hown hK Wd.1 q0 (show (gwd ix ad cf g)[q0]? = some (ad k i, .inr (ci, fs)) by rw [show (gwd ix ad cf g)[q0]? = _ from hq, hcell]) hc n hk (hts _ hlink) (fun _ h => h) hv hd kk
theorem kx_put {k i ci idx n : Nat} {fs : List Value} {v : Value} {ty : FieldType} {ce' : Nat → Nat → va_E} (X : Cx p s m args meth c cc nL ret own Ts D cl tys A Zs) (Wd : Wo D cl A s.heap (gwd ix ad cf g) H locs) (hix : (k, i) ∈ ix) (hcell : cf k i (g k i) = .inr (ci, fs)) (F : Fp own idx Ts cl ci n ty) (hn : narrow ty v = v) (hfit : fits ty v = true) (hl : n < fs.length)
    (he : ce' k i = .inr (ci, fs.set n v)) (ho : ∀ a b : Nat, ¬ (a = k ∧ b = i) → ce' a b = cf a b (g a b)) (hd : decode cc pc = .ok (.putfield idx, 3))
    (kk : ∀ (H1 : Heap) (locs1 : List Loc), Wo D cl A s.heap (kwW ix ad ce') H1 locs1 → W p l e R s m args below meth c H1 locs1 cells slots Q (F0 m (pc + 3) ls rest)) : W p l e R s m args below meth c H locs cells slots Q (F0 m pc ls (v :: .ref (ad k i) :: rest)) := by
  obtain ⟨q0, hq⟩ := kw_get (ad := ad) (ce := fun a b => cf a b (g a b)) hix
  obtain ⟨hx, hb, hml, hown, hts, hK, hA, hZ, hr, hlk, hNW⟩ := X
  obtain ⟨C, T, N, ty0, hc, hin, hk, hlink, hty, hnm, hfin, hp⟩ := F
  refine va_put (D := D) (ci := ci) (v := v) (ty := ty) (C := C) (T := T) (N := N) hx hb hts hin ty0 hty hnm hown hK Wd.1 Wd.2.1 Wd.2.2 q0 (show (gwd ix ad cf g)[q0]? = some (ad k i, .inr (ci, fs)) by rw [show (gwd ix ad cf g)[q0]? = _ from hq, hcell]) hc n hk (hts _ hlink) (fun _ h => h) hfin hp hn hfit hl hd (fun H1 locs1 hP hD hS => ?_)
  have heq : (gwd ix ad cf g).set q0 (ad k i, .inr (ci, fs.set n v)) = kwW ix ad ce' := kw_set (A := A) Wd.2.1 hix hq he ho
  rw [heq] at hP hD
  exact kk H1 locs1 ⟨hP, hD, hS⟩
def kints (r : Nat → Int32) (n : Nat) : List Value := (List.range n).map fun j => Value.int (r j)
theorem kints_len {r : Nat → Int32} {n : Nat} : (kints r n).length = n := by simp [kints]
theorem kints_get {r : Nat → Int32} {n j : Nat} (h : j < n) : (kints r n)[j]? = some (.int (r j)) := by
  unfold kints
  rw [List.getElem?_map, List.getElem?_range h]
  rfl
theorem kints_set {r : Nat → Int32} {n j : Nat} {v : Int32} (h : j < n) : (kints r n).set j (.int v) = kints (upd r j v) n := by
  apply List.ext_getElem?
  intro q
  by_cases hq : q = j
  · subst hq
    rw [List.getElem?_set_self (by rw [kints_len]; exact h), kints_get h, pk_us]
  · rw [List.getElem?_set_ne (Ne.symm hq)]
    unfold kints
    rw [List.getElem?_map, List.getElem?_map]
    by_cases hqn : q < n
    · rw [List.getElem?_range hqn]
      show some (Value.int (r q)) = some (Value.int (upd r j v q))
      rw [pk_un hq]
    · rw [List.getElem?_eq_none (by rw [List.length_range]; omega)]
      rfl
theorem kx_geti {k i ci idx n j M : Nat} {refs : List Value} (X : Cx p s m args meth c cc nL ret own Ts D cl tys A Zs) (Wd : Wo D cl A s.heap (gwd ix ad cf g) H locs) (hix : (k, i) ∈ ix) (hcell : ∀ r, cf k i r = .inr (ci, refs ++ kints r M)) (F : Fg own idx Ts cl ci n) (j0 : Nat) (hj0 : j0 = j) (hj : j < M) (hn : n = refs.length + j) (hd : decode cc pc = .ok (.getfield idx, 3))
    (kk : W p l e R s m args below meth c H locs cells slots Q (F0 m (pc + 3) ls (.int (g k i j0) :: rest))) : W p l e R s m args below meth c H locs cells slots Q (F0 m pc ls (.ref (ad k i) :: rest)) := by
  subst hj0
  refine kx_get X Wd hix (hcell _) F (v := .int (g k i j0)) ?_ hd kk
  rw [hn, List.getElem?_append_right (by omega), Nat.add_sub_cancel_left, kints_get hj]
theorem kx_puti {k i ci idx n j M : Nat} {refs : List Value} {v : Int32} {ty : FieldType} (X : Cx p s m args meth c cc nL ret own Ts D cl tys A Zs) (Wd : Wo D cl A s.heap (gwd ix ad cf g) H locs) (hix : (k, i) ∈ ix) (hcell : ∀ r, cf k i r = .inr (ci, refs ++ kints r M)) (F : Fp own idx Ts cl ci n ty) (j0 : Nat) (hj0 : j0 = j) (hj : j < M) (hn : n = refs.length + j) (hnar : narrow ty (.int v) = .int v) (hfit : fits ty (.int v) = true) (hd : decode cc pc = .ok (.putfield idx, 3))
    (kk : ∀ (H1 : Heap) (locs1 : List Loc), Wo D cl A s.heap (gwd ix ad cf (up3 g k i j0 v)) H1 locs1 → W p l e R s m args below meth c H1 locs1 cells slots Q (F0 m (pc + 3) ls rest)) : W p l e R s m args below meth c H locs cells slots Q (F0 m pc ls (.int v :: .ref (ad k i) :: rest)) := by
  subst hj0
  refine kx_put X Wd hix (hcell _) F hnar hfit (by rw [List.length_append, kints_len]; omega) (ce' := fun a b => cf a b (up3 g k i j0 v a b)) ?_ ?_ hd kk
  · rw [up3_row, hcell, hn, List.set_append_right _ _ (by omega), Nat.add_sub_cancel_left, kints_set hj]
  · intro a b h
    rw [up3_off h]
theorem kx_iald {k i j N : Nat} {t0 : Nat} {cA : ClassId} {x : Int32} (X : Cx p s m args meth c cc nL ret own Ts D cl tys A Zs) (Wd : Wo D cl A s.heap (gwd ix ad cf g) H locs) (hix : (k, i) ∈ ix) (hcell : ∀ r, cf k i r = .inl (cA, N, .inl r)) (ht : tys[t0]? = some (cA, .int)) (hx : x = nI j) (hj : j < N) (hN : N < 2 ^ 31) (hd : decode cc pc = .ok (.iaload, 1))
    (kk : W p l e R s m args below meth c H locs cells slots Q (F0 m (pc + 1) ls (.int (g k i j) :: rest))) : W p l e R s m args below meth c H locs cells slots Q (F0 m pc ls (.int x :: .ref (ad k i) :: rest)) := by
  obtain ⟨q0, hq⟩ := kw_get (ad := ad) (ce := fun a b => cf a b (g a b)) hix
  subst hx
  refine va_iald X.1 X.2.1 X.2.2.2.2.2.1 Wd.1 q0 t0 (f := g k i) (n := N) (show (gwd ix ad cf g)[q0]? = some (ad k i, .inl (cA, N, .inl (g k i))) by rw [show (gwd ix ad cf g)[q0]? = _ from hq, hcell]) ht (vp_in_nI hj hN) hd ?_
  rw [nI_clamp (by omega)]
  exact kk
theorem kx_iast {k i j N : Nat} {t0 : Nat} {cA : ClassId} {x v : Int32} (X : Cx p s m args meth c cc nL ret own Ts D cl tys A Zs) (Wd : Wo D cl A s.heap (gwd ix ad cf g) H locs) (hix : (k, i) ∈ ix) (hcell : ∀ r, cf k i r = .inl (cA, N, .inl r)) (ht : tys[t0]? = some (cA, .int)) (hx : x = nI j) (hj : j < N) (hN : N < 2 ^ 31) (hd : decode cc pc = .ok (.iastore, 1))
    (kk : ∀ (H1 : Heap) (locs1 : List Loc), Wo D cl A s.heap (gwd ix ad cf (up3 g k i j v)) H1 locs1 → W p l e R s m args below meth c H1 locs1 cells slots Q (F0 m (pc + 1) ls rest)) : W p l e R s m args below meth c H locs cells slots Q (F0 m pc ls (.int v :: .int x :: .ref (ad k i) :: rest)) := by
  obtain ⟨q0, hq⟩ := kw_get (ad := ad) (ce := fun a b => cf a b (g a b)) hix
  subst hx
  refine va_iast X.1 X.2.1 X.2.2.2.2.2.1 Wd.1 Wd.2.1 Wd.2.2 q0 t0 (f := g k i) (n := N) (show (gwd ix ad cf g)[q0]? = some (ad k i, .inl (cA, N, .inl (g k i))) by rw [show (gwd ix ad cf g)[q0]? = _ from hq, hcell]) ht (vp_in_nI hj hN) hd (fun H1 locs1 hP hD hS => ?_)
  have heq : (gwd ix ad cf g).set q0 (ad k i, .inl (cA, N, .inl (upd (g k i) (nI j).toNatClampNeg v))) = gwd ix ad cf (up3 g k i j v) := by
    refine kw_set (A := A) Wd.2.1 hix hq ?_ ?_
    · rw [up3_row, hcell, nI_clamp (by omega)]
    · intro a b h
      rw [up3_off h]
  rw [heq] at hP hD
  exact kk H1 locs1 ⟨hP, hD, hS⟩
theorem kx_aald {k i j N : Nat} {t0 : Nat} {cA : ClassId} {C : String} {x : Int32} {fr : (Nat → Int32) → Nat → Option Nat} {b : Nat} (X : Cx p s m args meth c cc nL ret own Ts D cl tys A Zs) (Wd : Wo D cl A s.heap (gwd ix ad cf g) H locs) (hix : (k, i) ∈ ix) (hcell : ∀ r, cf k i r = .inl (cA, N, .inr (.inr (.inr (.inr (fr r)))))) (ht : tys[t0]? = some (cA, .object C)) (hx : x = nI j) (hj : j < N) (hN : N < 2 ^ 31) (hf : fr (g k i) j = some b) (hd : decode cc pc = .ok (.aaload, 1))
    (kk : W p l e R s m args below meth c H locs cells slots Q (F0 m (pc + 1) ls (.ref b :: rest))) : W p l e R s m args below meth c H locs cells slots Q (F0 m pc ls (.int x :: .ref (ad k i) :: rest)) := by
  obtain ⟨q0, hq⟩ := kw_get (ad := ad) (ce := fun a b => cf a b (g a b)) hix
  subst hx
  refine va_aldq X.1 X.2.1 X.2.2.2.2.2.1 Wd.1 q0 t0 (f := fr (g k i)) (n := N) (C := C) (show (gwd ix ad cf g)[q0]? = some (ad k i, .inl (cA, N, .inr (.inr (.inr (.inr (fr (g k i))))))) by rw [show (gwd ix ad cf g)[q0]? = _ from hq, hcell]) ht (vp_in_nI hj hN) hd ?_
  rw [nI_clamp (by omega), hf]
  exact kk
theorem kx_aast {k i j N k2 i2 ci : Nat} {t0 : Nat} {cA : ClassId} {r0 : vw_C} {x w : Int32} {fs : List Value} {fr : (Nat → Int32) → Nat → Option Nat} (X : Cx p s m args meth c cc nL ret own Ts D cl tys A Zs) (Wd : Wo D cl A s.heap (gwd ix ad cf g) H locs) (hix : (k, i) ∈ ix) (hcell : ∀ r, cf k i r = .inl (cA, N, .inr (.inr (.inr (.inr (fr r)))))) (ht : tys[t0]? = some (cA, .object r0.1)) (hix2 : (k2, i2) ∈ ix) (hcell2 : cf k2 i2 (g k2 i2) = .inr (ci, fs)) (hc : cl[ci]? = some r0) (hx : x = nI j) (hj : j < N) (hN : N < 2 ^ 31) (hw : ∀ r, fr (upd r j w) = va_up (fr r) j (some (ad k2 i2))) (hd : decode cc pc = .ok (.aastore, 1))
    (kk : ∀ (H1 : Heap) (locs1 : List Loc), Wo D cl A s.heap (gwd ix ad cf (up3 g k i j w)) H1 locs1 → W p l e R s m args below meth c H1 locs1 cells slots Q (F0 m (pc + 1) ls rest)) : W p l e R s m args below meth c H locs cells slots Q (F0 m pc ls (.ref (ad k2 i2) :: .int x :: .ref (ad k i) :: rest)) := by
  obtain ⟨q0, hq⟩ := kw_get (ad := ad) (ce := fun a b => cf a b (g a b)) hix
  obtain ⟨q2, hq2⟩ := kw_get (ad := ad) (ce := fun a b => cf a b (g a b)) hix2
  subst hx
  refine va_astq X.1 X.2.1 X.2.2.2.2.2.1 Wd.1 Wd.2.1 Wd.2.2 q0 t0 q2 ci (f := fr (g k i)) (n := N) (r := r0) (show (gwd ix ad cf g)[q0]? = some (ad k i, .inl (cA, N, .inr (.inr (.inr (.inr (fr (g k i))))))) by rw [show (gwd ix ad cf g)[q0]? = _ from hq, hcell]) ht (show (gwd ix ad cf g)[q2]? = some (ad k2 i2, .inr (ci, fs)) by rw [show (gwd ix ad cf g)[q2]? = _ from hq2, hcell2]) hc (vp_in_nI hj hN) hd (fun H1 locs1 hP hD hS => ?_)
  have heq : (gwd ix ad cf g).set q0 (ad k i, .inl (cA, N, .inr (.inr (.inr (.inr (va_up (fr (g k i)) (nI j).toNatClampNeg (some (ad k2 i2)))))))) = gwd ix ad cf (up3 g k i j w) := by
    refine kw_set (A := A) Wd.2.1 hix hq ?_ ?_
    · rw [up3_row, hcell, nI_clamp (by omega), hw]
    · intro a b h
      rw [up3_off h]
  rw [heq] at hP hD
  exact kk H1 locs1 ⟨hP, hD, hS⟩
theorem kx_geti2 {k i ci idx n j M : Nat} {refs : List Value} (v : Int32) (X : Cx p s m args meth c cc nL ret own Ts D cl tys A Zs) (Wd : Wo D cl A s.heap (gwd ix ad cf g) H locs) (hix : (k, i) ∈ ix) (hcell : ∀ r, cf k i r = .inr (ci, refs ++ kints r M)) (F : Fg own idx Ts cl ci n) (j0 : Nat) (hj0 : j0 = j) (hj : j < M) (hn : n = refs.length + j) (hv : g k i j0 = v) (hd : decode cc pc = .ok (.getfield idx, 3))
    (kk : W p l e R s m args below meth c H locs cells slots Q (F0 m (pc + 3) ls (.int v :: rest))) : W p l e R s m args below meth c H locs cells slots Q (F0 m pc ls (.ref (ad k i) :: rest)) := by
  subst hv
  exact kx_geti X Wd hix hcell F j0 hj0 hj hn hd kk
def MathOk (own : String) (idx : Nat) (y : MethodName) (bytes : ByteArray) (nl : Nat) (Ts : List Cond) : Prop := Cond.methodLink own idx y ∈ Ts ∧ Cond.static y ∈ Ts ∧ Cond.initialized "java/lang/Math" ∈ Ts ∧ Cond.code y bytes nl (some .int) ∈ Ts
theorem kx_iret {S : Type} {wf : S → va_W} {post : Int32 → S → Prop} {ty : FieldType} {r : Int32} {u : S} (X : Cx p s m args meth c cc nL (some ty) own Ts D cl tys (va_A wd0 s.heap.size) Zs) (hn : narrow ty (.int r) = .int r) (Wd : Wo D cl (va_A wd0 s.heap.size) s.heap (wf u) H locs) (hp : post r u) (hd : decode cc pc = .ok (.ireturn, 1)) :
    W p l e R s m args below meth c H locs cells slots (MQ below (va_Qi post (fun u t => C1 D cl tys wd0 s.heap.size (wf u) t) (va_A wd0 s.heap.size)) args s cells slots (va_A wd0 s.heap.size)) (F0 m pc ls [.int r]) := by
  obtain ⟨hx, hb, hml, hown, hts, hK, hA, hZ, hr, hlk, hNW⟩ := X
  obtain ⟨hP, hD, hS⟩ := Wd
  exact W.zret (v := r) hx hb hr hn (fun t ht hW => ⟨⟨r, u, rfl, hp, by rw [ht]; exact hP, va_K.moved hW.alike hK, hD⟩, hS.F ht⟩) hS.2.2 hd hlk
theorem kx_lret {S : Type} {wf : S → va_W} {post : Int64 → S → Prop} {r : Int64} {u : S} (X : Cx p s m args meth c cc nL (some .long) own Ts D cl tys (va_A wd0 s.heap.size) Zs) (Wd : Wo D cl (va_A wd0 s.heap.size) s.heap (wf u) H locs) (hp : post r u) (hd : decode cc pc = .ok (.lreturn, 1)) :
    W p l e R s m args below meth c H locs cells slots (MQ below (va_Ql post (fun u t => C1 D cl tys wd0 s.heap.size (wf u) t) (va_A wd0 s.heap.size)) args s cells slots (va_A wd0 s.heap.size)) (F0 m pc ls [.long r]) := by
  obtain ⟨hx, hb, hml, hown, hts, hK, hA, hZ, hr, hlk, hNW⟩ := X
  obtain ⟨hP, hD, hS⟩ := Wd
  exact W.lret (v := r) hx hb hr (fun t ht hW => ⟨⟨r, u, rfl, hp, by rw [ht]; exact hP, va_K.moved hW.alike hK, hD⟩, hS.F ht⟩) hS.2.2 hd hlk
theorem kx_vret {S : Type} {wf : S → va_W} {post : S → Prop} {u : S} (X : Cx p s m args meth c cc nL none own Ts D cl tys (va_A wd0 s.heap.size) Zs) (Wd : Wo D cl (va_A wd0 s.heap.size) s.heap (wf u) H locs) (hp : post u) (hd : decode cc pc = .ok (.return_, 1)) :
    W p l e R s m args below meth c H locs cells slots (MQ below (va_Qv post (fun u t => C1 D cl tys wd0 s.heap.size (wf u) t) (va_A wd0 s.heap.size)) args s cells slots (va_A wd0 s.heap.size)) (F0 m pc ls []) := by
  obtain ⟨hx, hb, hml, hown, hts, hK, hA, hZ, hr, hlk, hNW⟩ := X
  obtain ⟨hP, hD, hS⟩ := Wd
  exact W.vret hx hb hr (fun t ht hW => ⟨⟨u, rfl, hp, by rw [ht]; exact hP, va_K.moved hW.alike hK, hD⟩, hS.F ht⟩) hS.2.2 hd hlk
/-- a static table: its reference, an element -/
theorem kx_gets {idx : Nat} {z : Zt} (X : Cx p s m args meth c cc nL ret own Ts D cl tys A Zs) (Wd : Wo D cl A s.heap wd H locs) (hz : z ∈ Zs) (hlink : Cond.fieldLink own idx z.1 z.2.1 z.2.2.1 ∈ Ts) (hd : decode cc pc = .ok (.getstatic idx, 3))
    (kk : W p l e R s m args below meth c H locs cells slots Q (F0 m (pc + 3) ls (.ref z.2.2.2.1 :: rest))) : W p l e R s m args below meth c H locs cells slots Q (F0 m pc ls rest) :=
  va_gets X.1 X.2.1 (X.2.2.2.2.2.2.2.1 z hz).1 Wd.2.2 X.2.2.2.1 (X.2.2.2.2.1 _ hlink) (fun _ h => h) hd kk
theorem kx_getsN {idx : Nat} {host : String} {z : Zt} (X : Cx p s m args meth c cc nL ret own Ts D cl tys A Zs) (Wd : Wo D cl A s.heap wd H locs) (hz : z ∈ Zs) (hlink : Cond.fieldLinkNest own idx z.1 z.2.1 z.2.2.1 host ∈ NWl) (hd : decode cc pc = .ok (.getstatic idx, 3))
    (kk : W p l e R s m args below meth c H locs cells slots Q (F0 m (pc + 3) ls (.ref z.2.2.2.1 :: rest))) : W p l e R s m args below meth c H locs cells slots Q (F0 m pc ls rest) :=
  va_getsN X.1 X.2.1 (X.2.2.2.2.2.2.2.1 z hz).1 Wd.2.2 X.2.2.2.1 (va_Nw.use rfl (X.nw _ hlink)) (fun _ h => h) hd kk
theorem kx_tald {j : Nat} {x : Int32} {z : Zt} (X : Cx p s m args meth c cc nL ret own Ts D cl tys A Zs) (Wd : Wo D cl A s.heap wd H locs) (hz : z ∈ Zs) (hx : x = nI j) (hj : j < z.2.2.2.2.1) (hN : z.2.2.2.2.1 < 2 ^ 31) (hd : decode cc pc = .ok (.iaload, 1))
    (kk : W p l e R s m args below meth c H locs cells slots Q (F0 m (pc + 1) ls (.int (z.2.2.2.2.2 j) :: rest))) : W p l e R s m args below meth c H locs cells slots Q (F0 m pc ls (.int x :: .ref z.2.2.2.1 :: rest)) := by
  subst hx
  exact va_ti X.1 X.2.1 (X.2.2.2.2.2.2.2.1 z hz).2 Wd.2.2 (vp_in_nI hj hN) (v := .int (z.2.2.2.2.2 j)) (by rw [nI_clamp (by omega)]) hd kk
theorem kx_max {idx : Nat} {x y : Int32} (X : Cx p s m args meth c cc nL ret own Ts D cl tys A Zs) (M : MathOk own idx Lib.Math.max.name Lib.Math.max.code 2 Ts) (hl : ls.size = nL) (hfr : 1 ≤ R.frames) (hlo : (rest.map fun v => v.category).sum + 13 ≤ R.locals) (hc : cells ≤ R.cells) (hs : slots ≤ R.slots) (hd : decode cc pc = .ok (.invokestatic idx, 3))
    (kk : W p l e R s m args below meth c H locs cells slots Q (F0 m (pc + 3) ls (.int (imax x y) :: rest))) : W p l e R s m args below meth c H locs cells slots Q (F0 m pc ls (.int y :: .int x :: rest)) :=
  va_mmax X.1 X.2.1 (X.2.2.1.trans hl.symm) X.2.2.2.1 (X.2.2.2.2.1 _ M.1) (X.2.2.2.2.1 _ M.2.1) (X.2.2.2.2.1 _ M.2.2.1) (X.2.2.2.2.1 _ M.2.2.2) hfr hlo hc hs hd kk
theorem kx_min {idx : Nat} {x y : Int32} (X : Cx p s m args meth c cc nL ret own Ts D cl tys A Zs) (M : MathOk own idx Lib.Math.min.name Lib.Math.min.code 2 Ts) (hl : ls.size = nL) (hfr : 1 ≤ R.frames) (hlo : (rest.map fun v => v.category).sum + 13 ≤ R.locals) (hc : cells ≤ R.cells) (hs : slots ≤ R.slots) (hd : decode cc pc = .ok (.invokestatic idx, 3))
    (kk : W p l e R s m args below meth c H locs cells slots Q (F0 m (pc + 3) ls (.int (imin x y) :: rest))) : W p l e R s m args below meth c H locs cells slots Q (F0 m pc ls (.int y :: .int x :: rest)) :=
  va_mmin X.1 X.2.1 (X.2.2.1.trans hl.symm) X.2.2.2.1 (X.2.2.2.2.1 _ M.1) (X.2.2.2.2.1 _ M.2.1) (X.2.2.2.2.1 _ M.2.2.1) (X.2.2.2.2.1 _ M.2.2.2) hfr hlo hc hs hd kk
theorem kx_abs {idx : Nat} {x : Int32} (X : Cx p s m args meth c cc nL ret own Ts D cl tys A Zs) (M : MathOk own idx Lib.Math.abs.name Lib.Math.abs.code 1 Ts) (hl : ls.size = nL) (hfr : 1 ≤ R.frames) (hlo : (rest.map fun v => v.category).sum + 13 ≤ R.locals) (hc : cells ≤ R.cells) (hs : slots ≤ R.slots) (hd : decode cc pc = .ok (.invokestatic idx, 3))
    (kk : W p l e R s m args below meth c H locs cells slots Q (F0 m (pc + 3) ls (.int (iabs x) :: rest))) : W p l e R s m args below meth c H locs cells slots Q (F0 m pc ls (.int x :: rest)) :=
  va_mabs X.1 X.2.1 (X.2.2.1.trans hl.symm) X.2.2.2.1 (X.2.2.2.2.1 _ M.1) (X.2.2.2.2.1 _ M.2.1) (X.2.2.2.2.1 _ M.2.2.1) (X.2.2.2.2.1 _ M.2.2.2) hfr hlo hc hs hd kk
end KX
