/-! WORDS: those that a step may not carry (NWl: nest mates, arrays over classes), and the rest (TT) -/
def NWl : List Cond := [.arrayOver (.object "TankArena$Tank"), .methodLinkNest "TankArena" 15 ⟨"TankArena$Tank", "<init>", "()V"⟩ "TankArena", .methodLinkNest "TankArena$Tank" 11 ⟨"TankArena$Program", "<init>", "()V"⟩ "TankArena", .methodLinkNest "TankArena$Tank" 20 ⟨"TankArena$Processor", "<init>", "()V"⟩ "TankArena", .methodLinkNest "TankArena$Tank" 27 ⟨"TankArena$Orders", "<init>", "()V"⟩ "TankArena", .methodLinkNest "TankArena$Tank" 34 ⟨"TankArena$Report", "<init>", "()V"⟩ "TankArena", .arrayOver (.object "TankArena$Bullet"), .methodLinkNest "TankArena" 22 ⟨"TankArena$Bullet", "<init>", "()V"⟩ "TankArena", .methodLinkNest "TankArena$Program" 21 ⟨"TankArena", "within", "(III)Z"⟩ "TankArena", .fieldLinkNest "TankArena$Bullet" 41 "TankArena" "STEP_X" "[I" "TankArena", .fieldLinkNest "TankArena$Bullet" 45 "TankArena" "STEP_Y" "[I" "TankArena", .methodLinkNest "TankArena$Bullet" 48 ⟨"TankArena", "within", "(III)Z"⟩ "TankArena", .methodLinkNest "TankArena$Tank" 98 ⟨"TankArena", "turned", "(II)I"⟩ "TankArena", .fieldLinkNest "TankArena$Tank" 113 "TankArena" "STEP_X" "[I" "TankArena", .fieldLinkNest "TankArena$Tank" 117 "TankArena" "STEP_Y" "[I" "TankArena"]
def NWok (U : State) : Prop := ∀ w ∈ NWl, va_Nw w U
def nwKind : Cond → Bool
  | .fieldLinkNest .. => true
  | .methodLinkNest .. => true
  | .arrayOver (.object _) => true
  | _ => false
theorem nwl_kind : ∀ w ∈ NWl, nwKind w = true := by decide +kernel
theorem NWok.same {u U : State} (h : NWok u) (hv : u.vm = U.vm) : NWok U := by
  intro w hw
  have h1 := nwl_kind w hw
  have h2 := h w hw
  unfold nwKind at h1
  split at h1
  · exact va_Nw.same rfl hv h2
  · exact va_Nw.same rfl hv h2
  · exact va_AO.moved (hv ▸ Vm.Alike.refl u.vm) h2
  · cases h1
theorem NWok.warm {s U : State} (h : NWok s) (hW : s.WarmedH U.vm) : NWok U := by
  intro w hw
  have h1 := nwl_kind w hw
  have h2 := h w hw
  unfold nwKind at h1
  split at h1
  · exact va_Nw.warmF hW h2
  · exact va_Nw.warmM hW h2
  · exact va_AO.moved hW.alike h2
  · cases h1
def TT : List Cond := lw_tbl.filter goodWord
theorem tt_good : ∀ w ∈ TT, w ∈ TT ∧ ((w.onTables && w.keeps) = true ∨ ∃ ty, w = .arrayClass ty) := fun w h => ⟨h, good_of_word (List.mem_filter.mp h).2⟩
theorem tt_in {w : Cond} (h : w ∈ tables_1) (hg : goodWord w = true) : w ∈ TT := List.mem_filter.mpr ⟨List.mem_append_right _ h, hg⟩
theorem tt_sel {y : MethodName} {n : Nat} (h : (y, n) ∈ lw_privs) : Cond.selects y.cls y y ∈ TT := List.mem_filter.mpr ⟨List.mem_append_left _ (List.mem_map.mpr ⟨(y, n), h, rfl⟩), rfl⟩
theorem tt_code {y : MethodName} {cc : ByteArray} {nL : Nat} {ret : Option FieldType} (h : Cond.code y cc nL ret ∈ TT) : GoodIn TT (Cond.code y cc nL ret :: TT) := fun w hw => by
  rcases List.mem_cons.mp hw with e | e
  · subst e
    exact tt_good _ h
  · exact tt_good _ e
theorem nw_0 : .arrayOver (.object "TankArena$Tank") ∈ NWl := List.mem_of_getElem? (i := 0) rfl
theorem nw_1 : .methodLinkNest "TankArena" 15 ⟨"TankArena$Tank", "<init>", "()V"⟩ "TankArena" ∈ NWl := List.mem_of_getElem? (i := 1) rfl
theorem nw_2 : .methodLinkNest "TankArena$Tank" 11 ⟨"TankArena$Program", "<init>", "()V"⟩ "TankArena" ∈ NWl := List.mem_of_getElem? (i := 2) rfl
theorem nw_3 : .methodLinkNest "TankArena$Tank" 20 ⟨"TankArena$Processor", "<init>", "()V"⟩ "TankArena" ∈ NWl := List.mem_of_getElem? (i := 3) rfl
theorem nw_4 : .methodLinkNest "TankArena$Tank" 27 ⟨"TankArena$Orders", "<init>", "()V"⟩ "TankArena" ∈ NWl := List.mem_of_getElem? (i := 4) rfl
theorem nw_5 : .methodLinkNest "TankArena$Tank" 34 ⟨"TankArena$Report", "<init>", "()V"⟩ "TankArena" ∈ NWl := List.mem_of_getElem? (i := 5) rfl
theorem nw_6 : .arrayOver (.object "TankArena$Bullet") ∈ NWl := List.mem_of_getElem? (i := 6) rfl
theorem nw_7 : .methodLinkNest "TankArena" 22 ⟨"TankArena$Bullet", "<init>", "()V"⟩ "TankArena" ∈ NWl := List.mem_of_getElem? (i := 7) rfl
theorem nw_8 : .methodLinkNest "TankArena$Program" 21 ⟨"TankArena", "within", "(III)Z"⟩ "TankArena" ∈ NWl := List.mem_of_getElem? (i := 8) rfl
theorem nw_9 : .fieldLinkNest "TankArena$Bullet" 41 "TankArena" "STEP_X" "[I" "TankArena" ∈ NWl := List.mem_of_getElem? (i := 9) rfl
theorem nw_10 : .fieldLinkNest "TankArena$Bullet" 45 "TankArena" "STEP_Y" "[I" "TankArena" ∈ NWl := List.mem_of_getElem? (i := 10) rfl
theorem nw_11 : .methodLinkNest "TankArena$Bullet" 48 ⟨"TankArena", "within", "(III)Z"⟩ "TankArena" ∈ NWl := List.mem_of_getElem? (i := 11) rfl
theorem nw_12 : .methodLinkNest "TankArena$Tank" 98 ⟨"TankArena", "turned", "(II)I"⟩ "TankArena" ∈ NWl := List.mem_of_getElem? (i := 12) rfl
theorem nw_13 : .fieldLinkNest "TankArena$Tank" 113 "TankArena" "STEP_X" "[I" "TankArena" ∈ NWl := List.mem_of_getElem? (i := 13) rfl
theorem nw_14 : .fieldLinkNest "TankArena$Tank" 117 "TankArena" "STEP_Y" "[I" "TankArena" ∈ NWl := List.mem_of_getElem? (i := 14) rfl
theorem nwl_tbl : ∀ w ∈ NWl, w ∈ tables_1 := by
  intro w hw
  simp only [NWl, List.mem_cons, List.not_mem_nil, or_false] at hw
  rcases hw with rfl | rfl | rfl | rfl | rfl | rfl | rfl | rfl | rfl | rfl | rfl | rfl | rfl | rfl | rfl
  · exact List.mem_append_left _ (List.mem_of_getElem? (i := 19) rfl)
  · exact List.mem_append_left _ (List.mem_of_getElem? (i := 21) rfl)
  · exact List.mem_append_left _ (List.mem_of_getElem? (i := 27) rfl)
  · exact List.mem_append_left _ (List.mem_of_getElem? (i := 51) rfl)
  · exact List.mem_append_left _ (List.mem_of_getElem? (i := 73) rfl)
  · exact List.mem_append_left _ (List.mem_of_getElem? (i := 101) rfl)
  · exact List.mem_append_left _ (List.mem_of_getElem? (i := 199) rfl)
  · exact List.mem_append_left _ (List.mem_of_getElem? (i := 201) rfl)
  · exact List.mem_append_right _ (List.mem_append_left _ (List.mem_of_getElem? (i := 60) rfl))
  · exact List.mem_append_right _ (List.mem_append_left _ (List.mem_of_getElem? (i := 146) rfl))
  · exact List.mem_append_right _ (List.mem_append_left _ (List.mem_of_getElem? (i := 148) rfl))
  · exact List.mem_append_right _ (List.mem_append_left _ (List.mem_of_getElem? (i := 154) rfl))
  · exact List.mem_append_right _ (List.mem_append_left _ (List.mem_of_getElem? (i := 183) rfl))
  · exact List.mem_append_right _ (List.mem_append_left _ (List.mem_of_getElem? (i := 198) rfl))
  · exact List.mem_append_right _ (List.mem_append_left _ (List.mem_of_getElem? (i := 199) rfl))
