/-! names of the constructor -/
abbrev b_TankArenaModel__init_ : ByteArray := prog_9_method_1_code
abbrev y_TankArenaModel__init_ : MethodName := ⟨"TankArenaModel", "<init>", "()V"⟩
theorem d_TankArenaModel__init__0 : decode b_TankArenaModel__init_ 0 = .ok (.aload_n 0, 1) := by decide +kernel
theorem d_TankArenaModel__init__1 : decode b_TankArenaModel__init_ 1 = .ok (.invokespecial 1, 3) := by decide +kernel
theorem d_TankArenaModel__init__4 : decode b_TankArenaModel__init_ 4 = .ok (.aload_n 0, 1) := by decide +kernel
theorem d_TankArenaModel__init__5 : decode b_TankArenaModel__init_ 5 = .ok (.iconst 4, 1) := by decide +kernel
theorem d_TankArenaModel__init__6 : decode b_TankArenaModel__init_ 6 = .ok (.newarray .int, 2) := by decide +kernel
theorem d_TankArenaModel__init__8 : decode b_TankArenaModel__init_ 8 = .ok (.putfield 7, 3) := by decide +kernel
theorem d_TankArenaModel__init__11 : decode b_TankArenaModel__init_ 11 = .ok (.aload_n 0, 1) := by decide +kernel
theorem d_TankArenaModel__init__12 : decode b_TankArenaModel__init_ 12 = .ok (.iconst 4, 1) := by decide +kernel
theorem d_TankArenaModel__init__13 : decode b_TankArenaModel__init_ 13 = .ok (.newarray .int, 2) := by decide +kernel
theorem d_TankArenaModel__init__15 : decode b_TankArenaModel__init_ 15 = .ok (.putfield 13, 3) := by decide +kernel
theorem d_TankArenaModel__init__18 : decode b_TankArenaModel__init_ 18 = .ok (.aload_n 0, 1) := by decide +kernel
theorem d_TankArenaModel__init__19 : decode b_TankArenaModel__init_ 19 = .ok (.iconst 4, 1) := by decide +kernel
theorem d_TankArenaModel__init__20 : decode b_TankArenaModel__init_ 20 = .ok (.newarray .int, 2) := by decide +kernel
theorem d_TankArenaModel__init__22 : decode b_TankArenaModel__init_ 22 = .ok (.putfield 16, 3) := by decide +kernel
theorem d_TankArenaModel__init__25 : decode b_TankArenaModel__init_ 25 = .ok (.aload_n 0, 1) := by decide +kernel
theorem d_TankArenaModel__init__26 : decode b_TankArenaModel__init_ 26 = .ok (.iconst 4, 1) := by decide +kernel
theorem d_TankArenaModel__init__27 : decode b_TankArenaModel__init_ 27 = .ok (.newarray .int, 2) := by decide +kernel
theorem d_TankArenaModel__init__29 : decode b_TankArenaModel__init_ 29 = .ok (.putfield 19, 3) := by decide +kernel
theorem d_TankArenaModel__init__32 : decode b_TankArenaModel__init_ 32 = .ok (.aload_n 0, 1) := by decide +kernel
theorem d_TankArenaModel__init__33 : decode b_TankArenaModel__init_ 33 = .ok (.bipush 64, 2) := by decide +kernel
theorem d_TankArenaModel__init__35 : decode b_TankArenaModel__init_ 35 = .ok (.newarray .int, 2) := by decide +kernel
theorem d_TankArenaModel__init__37 : decode b_TankArenaModel__init_ 37 = .ok (.putfield 22, 3) := by decide +kernel
theorem d_TankArenaModel__init__40 : decode b_TankArenaModel__init_ 40 = .ok (.aload_n 0, 1) := by decide +kernel
theorem d_TankArenaModel__init__41 : decode b_TankArenaModel__init_ 41 = .ok (.bipush 64, 2) := by decide +kernel
theorem d_TankArenaModel__init__43 : decode b_TankArenaModel__init_ 43 = .ok (.newarray .int, 2) := by decide +kernel
theorem d_TankArenaModel__init__45 : decode b_TankArenaModel__init_ 45 = .ok (.putfield 25, 3) := by decide +kernel
theorem d_TankArenaModel__init__48 : decode b_TankArenaModel__init_ 48 = .ok (.aload_n 0, 1) := by decide +kernel
theorem d_TankArenaModel__init__49 : decode b_TankArenaModel__init_ 49 = .ok (.bipush 64, 2) := by decide +kernel
theorem d_TankArenaModel__init__51 : decode b_TankArenaModel__init_ 51 = .ok (.newarray .int, 2) := by decide +kernel
theorem d_TankArenaModel__init__53 : decode b_TankArenaModel__init_ 53 = .ok (.putfield 28, 3) := by decide +kernel
theorem d_TankArenaModel__init__56 : decode b_TankArenaModel__init_ 56 = .ok (.aload_n 0, 1) := by decide +kernel
theorem d_TankArenaModel__init__57 : decode b_TankArenaModel__init_ 57 = .ok (.iconst 4, 1) := by decide +kernel
theorem d_TankArenaModel__init__58 : decode b_TankArenaModel__init_ 58 = .ok (.newarray .int, 2) := by decide +kernel
theorem d_TankArenaModel__init__60 : decode b_TankArenaModel__init_ 60 = .ok (.putfield 31, 3) := by decide +kernel
theorem d_TankArenaModel__init__63 : decode b_TankArenaModel__init_ 63 = .ok (.aload_n 0, 1) := by decide +kernel
theorem d_TankArenaModel__init__64 : decode b_TankArenaModel__init_ 64 = .ok (.iconst 4, 1) := by decide +kernel
theorem d_TankArenaModel__init__65 : decode b_TankArenaModel__init_ 65 = .ok (.newarray .int, 2) := by decide +kernel
theorem d_TankArenaModel__init__67 : decode b_TankArenaModel__init_ 67 = .ok (.putfield 34, 3) := by decide +kernel
theorem d_TankArenaModel__init__70 : decode b_TankArenaModel__init_ 70 = .ok (.aload_n 0, 1) := by decide +kernel
theorem d_TankArenaModel__init__71 : decode b_TankArenaModel__init_ 71 = .ok (.iconst 4, 1) := by decide +kernel
theorem d_TankArenaModel__init__72 : decode b_TankArenaModel__init_ 72 = .ok (.newarray .int, 2) := by decide +kernel
theorem d_TankArenaModel__init__74 : decode b_TankArenaModel__init_ 74 = .ok (.putfield 37, 3) := by decide +kernel
theorem d_TankArenaModel__init__77 : decode b_TankArenaModel__init_ 77 = .ok (.aload_n 0, 1) := by decide +kernel
theorem d_TankArenaModel__init__78 : decode b_TankArenaModel__init_ 78 = .ok (.iconst 4, 1) := by decide +kernel
theorem d_TankArenaModel__init__79 : decode b_TankArenaModel__init_ 79 = .ok (.newarray .int, 2) := by decide +kernel
theorem d_TankArenaModel__init__81 : decode b_TankArenaModel__init_ 81 = .ok (.putfield 40, 3) := by decide +kernel
theorem d_TankArenaModel__init__84 : decode b_TankArenaModel__init_ 84 = .ok (.aload_n 0, 1) := by decide +kernel
theorem d_TankArenaModel__init__85 : decode b_TankArenaModel__init_ 85 = .ok (.iconst 4, 1) := by decide +kernel
theorem d_TankArenaModel__init__86 : decode b_TankArenaModel__init_ 86 = .ok (.newarray .int, 2) := by decide +kernel
theorem d_TankArenaModel__init__88 : decode b_TankArenaModel__init_ 88 = .ok (.putfield 43, 3) := by decide +kernel
theorem d_TankArenaModel__init__91 : decode b_TankArenaModel__init_ 91 = .ok (.aload_n 0, 1) := by decide +kernel
theorem d_TankArenaModel__init__92 : decode b_TankArenaModel__init_ 92 = .ok (.iconst 4, 1) := by decide +kernel
theorem d_TankArenaModel__init__93 : decode b_TankArenaModel__init_ 93 = .ok (.newarray .int, 2) := by decide +kernel
theorem d_TankArenaModel__init__95 : decode b_TankArenaModel__init_ 95 = .ok (.putfield 46, 3) := by decide +kernel
theorem d_TankArenaModel__init__98 : decode b_TankArenaModel__init_ 98 = .ok (.aload_n 0, 1) := by decide +kernel
theorem d_TankArenaModel__init__99 : decode b_TankArenaModel__init_ 99 = .ok (.iconst 4, 1) := by decide +kernel
theorem d_TankArenaModel__init__100 : decode b_TankArenaModel__init_ 100 = .ok (.newarray .int, 2) := by decide +kernel
theorem d_TankArenaModel__init__102 : decode b_TankArenaModel__init_ 102 = .ok (.putfield 49, 3) := by decide +kernel
theorem d_TankArenaModel__init__105 : decode b_TankArenaModel__init_ 105 = .ok (.aload_n 0, 1) := by decide +kernel
theorem d_TankArenaModel__init__106 : decode b_TankArenaModel__init_ 106 = .ok (.iconst 4, 1) := by decide +kernel
theorem d_TankArenaModel__init__107 : decode b_TankArenaModel__init_ 107 = .ok (.newarray .int, 2) := by decide +kernel
theorem d_TankArenaModel__init__109 : decode b_TankArenaModel__init_ 109 = .ok (.putfield 52, 3) := by decide +kernel
theorem d_TankArenaModel__init__112 : decode b_TankArenaModel__init_ 112 = .ok (.aload_n 0, 1) := by decide +kernel
theorem d_TankArenaModel__init__113 : decode b_TankArenaModel__init_ 113 = .ok (.iconst 4, 1) := by decide +kernel
theorem d_TankArenaModel__init__114 : decode b_TankArenaModel__init_ 114 = .ok (.newarray .int, 2) := by decide +kernel
theorem d_TankArenaModel__init__116 : decode b_TankArenaModel__init_ 116 = .ok (.putfield 55, 3) := by decide +kernel
theorem d_TankArenaModel__init__119 : decode b_TankArenaModel__init_ 119 = .ok (.aload_n 0, 1) := by decide +kernel
theorem d_TankArenaModel__init__120 : decode b_TankArenaModel__init_ 120 = .ok (.iconst 4, 1) := by decide +kernel
theorem d_TankArenaModel__init__121 : decode b_TankArenaModel__init_ 121 = .ok (.newarray .int, 2) := by decide +kernel
theorem d_TankArenaModel__init__123 : decode b_TankArenaModel__init_ 123 = .ok (.putfield 58, 3) := by decide +kernel
theorem d_TankArenaModel__init__126 : decode b_TankArenaModel__init_ 126 = .ok (.aload_n 0, 1) := by decide +kernel
theorem d_TankArenaModel__init__127 : decode b_TankArenaModel__init_ 127 = .ok (.bipush 8, 2) := by decide +kernel
theorem d_TankArenaModel__init__129 : decode b_TankArenaModel__init_ 129 = .ok (.newarray .int, 2) := by decide +kernel
theorem d_TankArenaModel__init__131 : decode b_TankArenaModel__init_ 131 = .ok (.putfield 61, 3) := by decide +kernel
theorem d_TankArenaModel__init__134 : decode b_TankArenaModel__init_ 134 = .ok (.aload_n 0, 1) := by decide +kernel
theorem d_TankArenaModel__init__135 : decode b_TankArenaModel__init_ 135 = .ok (.iconst 4, 1) := by decide +kernel
theorem d_TankArenaModel__init__136 : decode b_TankArenaModel__init_ 136 = .ok (.newarray .int, 2) := by decide +kernel
theorem d_TankArenaModel__init__138 : decode b_TankArenaModel__init_ 138 = .ok (.putfield 64, 3) := by decide +kernel
theorem d_TankArenaModel__init__141 : decode b_TankArenaModel__init_ 141 = .ok (.aload_n 0, 1) := by decide +kernel
theorem d_TankArenaModel__init__142 : decode b_TankArenaModel__init_ 142 = .ok (.iconst 4, 1) := by decide +kernel
theorem d_TankArenaModel__init__143 : decode b_TankArenaModel__init_ 143 = .ok (.newarray .int, 2) := by decide +kernel
theorem d_TankArenaModel__init__145 : decode b_TankArenaModel__init_ 145 = .ok (.putfield 67, 3) := by decide +kernel
theorem d_TankArenaModel__init__148 : decode b_TankArenaModel__init_ 148 = .ok (.aload_n 0, 1) := by decide +kernel
theorem d_TankArenaModel__init__149 : decode b_TankArenaModel__init_ 149 = .ok (.iconst 4, 1) := by decide +kernel
theorem d_TankArenaModel__init__150 : decode b_TankArenaModel__init_ 150 = .ok (.newarray .boolean, 2) := by decide +kernel
theorem d_TankArenaModel__init__152 : decode b_TankArenaModel__init_ 152 = .ok (.putfield 70, 3) := by decide +kernel
theorem d_TankArenaModel__init__155 : decode b_TankArenaModel__init_ 155 = .ok (.aload_n 0, 1) := by decide +kernel
theorem d_TankArenaModel__init__156 : decode b_TankArenaModel__init_ 156 = .ok (.iconst 4, 1) := by decide +kernel
theorem d_TankArenaModel__init__157 : decode b_TankArenaModel__init_ 157 = .ok (.newarray .boolean, 2) := by decide +kernel
theorem d_TankArenaModel__init__159 : decode b_TankArenaModel__init_ 159 = .ok (.putfield 74, 3) := by decide +kernel
theorem d_TankArenaModel__init__162 : decode b_TankArenaModel__init_ 162 = .ok (.aload_n 0, 1) := by decide +kernel
theorem d_TankArenaModel__init__163 : decode b_TankArenaModel__init_ 163 = .ok (.iconst 4, 1) := by decide +kernel
theorem d_TankArenaModel__init__164 : decode b_TankArenaModel__init_ 164 = .ok (.newarray .boolean, 2) := by decide +kernel
theorem d_TankArenaModel__init__166 : decode b_TankArenaModel__init_ 166 = .ok (.putfield 77, 3) := by decide +kernel
theorem d_TankArenaModel__init__169 : decode b_TankArenaModel__init_ 169 = .ok (.aload_n 0, 1) := by decide +kernel
theorem d_TankArenaModel__init__170 : decode b_TankArenaModel__init_ 170 = .ok (.iconst 4, 1) := by decide +kernel
theorem d_TankArenaModel__init__171 : decode b_TankArenaModel__init_ 171 = .ok (.newarray .int, 2) := by decide +kernel
theorem d_TankArenaModel__init__173 : decode b_TankArenaModel__init_ 173 = .ok (.putfield 80, 3) := by decide +kernel
theorem d_TankArenaModel__init__176 : decode b_TankArenaModel__init_ 176 = .ok (.aload_n 0, 1) := by decide +kernel
theorem d_TankArenaModel__init__177 : decode b_TankArenaModel__init_ 177 = .ok (.iconst 4, 1) := by decide +kernel
theorem d_TankArenaModel__init__178 : decode b_TankArenaModel__init_ 178 = .ok (.newarray .int, 2) := by decide +kernel
theorem d_TankArenaModel__init__180 : decode b_TankArenaModel__init_ 180 = .ok (.putfield 83, 3) := by decide +kernel
theorem d_TankArenaModel__init__183 : decode b_TankArenaModel__init_ 183 = .ok (.aload_n 0, 1) := by decide +kernel
theorem d_TankArenaModel__init__184 : decode b_TankArenaModel__init_ 184 = .ok (.bipush 12, 2) := by decide +kernel
theorem d_TankArenaModel__init__186 : decode b_TankArenaModel__init_ 186 = .ok (.newarray .int, 2) := by decide +kernel
theorem d_TankArenaModel__init__188 : decode b_TankArenaModel__init_ 188 = .ok (.putfield 86, 3) := by decide +kernel
theorem d_TankArenaModel__init__191 : decode b_TankArenaModel__init_ 191 = .ok (.aload_n 0, 1) := by decide +kernel
theorem d_TankArenaModel__init__192 : decode b_TankArenaModel__init_ 192 = .ok (.iconst 4, 1) := by decide +kernel
theorem d_TankArenaModel__init__193 : decode b_TankArenaModel__init_ 193 = .ok (.newarray .int, 2) := by decide +kernel
theorem d_TankArenaModel__init__195 : decode b_TankArenaModel__init_ 195 = .ok (.putfield 89, 3) := by decide +kernel
theorem d_TankArenaModel__init__198 : decode b_TankArenaModel__init_ 198 = .ok (.aload_n 0, 1) := by decide +kernel
theorem d_TankArenaModel__init__199 : decode b_TankArenaModel__init_ 199 = .ok (.sipush 600, 3) := by decide +kernel
theorem d_TankArenaModel__init__202 : decode b_TankArenaModel__init_ 202 = .ok (.newarray .int, 2) := by decide +kernel
theorem d_TankArenaModel__init__204 : decode b_TankArenaModel__init_ 204 = .ok (.putfield 92, 3) := by decide +kernel
theorem d_TankArenaModel__init__207 : decode b_TankArenaModel__init_ 207 = .ok (.aload_n 0, 1) := by decide +kernel
theorem d_TankArenaModel__init__208 : decode b_TankArenaModel__init_ 208 = .ok (.sipush 600, 3) := by decide +kernel
theorem d_TankArenaModel__init__211 : decode b_TankArenaModel__init_ 211 = .ok (.newarray .int, 2) := by decide +kernel
theorem d_TankArenaModel__init__213 : decode b_TankArenaModel__init_ 213 = .ok (.putfield 95, 3) := by decide +kernel
theorem d_TankArenaModel__init__216 : decode b_TankArenaModel__init_ 216 = .ok (.aload_n 0, 1) := by decide +kernel
theorem d_TankArenaModel__init__217 : decode b_TankArenaModel__init_ 217 = .ok (.sipush 600, 3) := by decide +kernel
theorem d_TankArenaModel__init__220 : decode b_TankArenaModel__init_ 220 = .ok (.newarray .int, 2) := by decide +kernel
theorem d_TankArenaModel__init__222 : decode b_TankArenaModel__init_ 222 = .ok (.putfield 98, 3) := by decide +kernel
theorem d_TankArenaModel__init__225 : decode b_TankArenaModel__init_ 225 = .ok (.aload_n 0, 1) := by decide +kernel
theorem d_TankArenaModel__init__226 : decode b_TankArenaModel__init_ 226 = .ok (.sipush 600, 3) := by decide +kernel
theorem d_TankArenaModel__init__229 : decode b_TankArenaModel__init_ 229 = .ok (.newarray .int, 2) := by decide +kernel
theorem d_TankArenaModel__init__231 : decode b_TankArenaModel__init_ 231 = .ok (.putfield 101, 3) := by decide +kernel
theorem d_TankArenaModel__init__234 : decode b_TankArenaModel__init_ 234 = .ok (.aload_n 0, 1) := by decide +kernel
theorem d_TankArenaModel__init__235 : decode b_TankArenaModel__init_ 235 = .ok (.sipush 600, 3) := by decide +kernel
theorem d_TankArenaModel__init__238 : decode b_TankArenaModel__init_ 238 = .ok (.newarray .int, 2) := by decide +kernel
theorem d_TankArenaModel__init__240 : decode b_TankArenaModel__init_ 240 = .ok (.putfield 104, 3) := by decide +kernel
theorem d_TankArenaModel__init__243 : decode b_TankArenaModel__init_ 243 = .ok (.aload_n 0, 1) := by decide +kernel
theorem d_TankArenaModel__init__244 : decode b_TankArenaModel__init_ 244 = .ok (.sipush 600, 3) := by decide +kernel
theorem d_TankArenaModel__init__247 : decode b_TankArenaModel__init_ 247 = .ok (.newarray .boolean, 2) := by decide +kernel
theorem d_TankArenaModel__init__249 : decode b_TankArenaModel__init_ 249 = .ok (.putfield 107, 3) := by decide +kernel
theorem d_TankArenaModel__init__252 : decode b_TankArenaModel__init_ 252 = .ok (.return_, 1) := by decide +kernel
/-! WORDS of instructions (printed by gen/words.py) -/
theorem w_8c0b1f3318 : .methodLink "TankArenaModel" 1 objectInit ∈ TT := tt_in (List.mem_append_right _ (List.mem_append_right _ (List.mem_append_left _ (List.mem_of_getElem? (i := 24) rfl)))) rfl
theorem w_14bcb724a4 : .arrayClass .boolean ∈ TT := tt_in (List.mem_append_right _ (List.mem_append_right _ (List.mem_append_left _ (List.mem_of_getElem? (i := 140) rfl)))) rfl
theorem ff_TankArenaModel_7 : Ff "TankArenaModel" 7 TT clA 7 0 (.array .int) := ⟨R_Model, F_Model, 38, t_Model, rfl, in_Model, by decide, tt_in (List.mem_append_right _ (List.mem_append_right _ (List.mem_append_left _ (List.mem_of_getElem? (i := 25) rfl)))) rfl, t_Model_ok, n_Model, rfl, rfl, by decide +kernel⟩
theorem ff_TankArenaModel_13 : Ff "TankArenaModel" 13 TT clA 7 1 (.array .int) := ⟨R_Model, F_Model, 38, t_Model, rfl, in_Model, by decide, tt_in (List.mem_append_right _ (List.mem_append_right _ (List.mem_append_left _ (List.mem_of_getElem? (i := 26) rfl)))) rfl, t_Model_ok, n_Model, rfl, rfl, by decide +kernel⟩
theorem ff_TankArenaModel_16 : Ff "TankArenaModel" 16 TT clA 7 2 (.array .int) := ⟨R_Model, F_Model, 38, t_Model, rfl, in_Model, by decide, tt_in (List.mem_append_right _ (List.mem_append_right _ (List.mem_append_left _ (List.mem_of_getElem? (i := 27) rfl)))) rfl, t_Model_ok, n_Model, rfl, rfl, by decide +kernel⟩
theorem ff_TankArenaModel_19 : Ff "TankArenaModel" 19 TT clA 7 3 (.array .int) := ⟨R_Model, F_Model, 38, t_Model, rfl, in_Model, by decide, tt_in (List.mem_append_right _ (List.mem_append_right _ (List.mem_append_left _ (List.mem_of_getElem? (i := 28) rfl)))) rfl, t_Model_ok, n_Model, rfl, rfl, by decide +kernel⟩
theorem ff_TankArenaModel_22 : Ff "TankArenaModel" 22 TT clA 7 4 (.array .int) := ⟨R_Model, F_Model, 38, t_Model, rfl, in_Model, by decide, tt_in (List.mem_append_right _ (List.mem_append_right _ (List.mem_append_left _ (List.mem_of_getElem? (i := 29) rfl)))) rfl, t_Model_ok, n_Model, rfl, rfl, by decide +kernel⟩
theorem ff_TankArenaModel_25 : Ff "TankArenaModel" 25 TT clA 7 5 (.array .int) := ⟨R_Model, F_Model, 38, t_Model, rfl, in_Model, by decide, tt_in (List.mem_append_right _ (List.mem_append_right _ (List.mem_append_left _ (List.mem_of_getElem? (i := 30) rfl)))) rfl, t_Model_ok, n_Model, rfl, rfl, by decide +kernel⟩
theorem ff_TankArenaModel_28 : Ff "TankArenaModel" 28 TT clA 7 6 (.array .int) := ⟨R_Model, F_Model, 38, t_Model, rfl, in_Model, by decide, tt_in (List.mem_append_right _ (List.mem_append_right _ (List.mem_append_left _ (List.mem_of_getElem? (i := 31) rfl)))) rfl, t_Model_ok, n_Model, rfl, rfl, by decide +kernel⟩
theorem ff_TankArenaModel_31 : Ff "TankArenaModel" 31 TT clA 7 11 (.array .int) := ⟨R_Model, F_Model, 38, t_Model, rfl, in_Model, by decide, tt_in (List.mem_append_right _ (List.mem_append_right _ (List.mem_append_left _ (List.mem_of_getElem? (i := 36) rfl)))) rfl, t_Model_ok, n_Model, rfl, rfl, by decide +kernel⟩
theorem ff_TankArenaModel_34 : Ff "TankArenaModel" 34 TT clA 7 12 (.array .int) := ⟨R_Model, F_Model, 38, t_Model, rfl, in_Model, by decide, tt_in (List.mem_append_right _ (List.mem_append_right _ (List.mem_append_left _ (List.mem_of_getElem? (i := 37) rfl)))) rfl, t_Model_ok, n_Model, rfl, rfl, by decide +kernel⟩
theorem ff_TankArenaModel_37 : Ff "TankArenaModel" 37 TT clA 7 13 (.array .int) := ⟨R_Model, F_Model, 38, t_Model, rfl, in_Model, by decide, tt_in (List.mem_append_right _ (List.mem_append_right _ (List.mem_append_left _ (List.mem_of_getElem? (i := 38) rfl)))) rfl, t_Model_ok, n_Model, rfl, rfl, by decide +kernel⟩
theorem ff_TankArenaModel_40 : Ff "TankArenaModel" 40 TT clA 7 14 (.array .int) := ⟨R_Model, F_Model, 38, t_Model, rfl, in_Model, by decide, tt_in (List.mem_append_right _ (List.mem_append_right _ (List.mem_append_left _ (List.mem_of_getElem? (i := 39) rfl)))) rfl, t_Model_ok, n_Model, rfl, rfl, by decide +kernel⟩
theorem ff_TankArenaModel_43 : Ff "TankArenaModel" 43 TT clA 7 15 (.array .int) := ⟨R_Model, F_Model, 38, t_Model, rfl, in_Model, by decide, tt_in (List.mem_append_right _ (List.mem_append_right _ (List.mem_append_left _ (List.mem_of_getElem? (i := 40) rfl)))) rfl, t_Model_ok, n_Model, rfl, rfl, by decide +kernel⟩
theorem ff_TankArenaModel_46 : Ff "TankArenaModel" 46 TT clA 7 16 (.array .int) := ⟨R_Model, F_Model, 38, t_Model, rfl, in_Model, by decide, tt_in (List.mem_append_right _ (List.mem_append_right _ (List.mem_append_left _ (List.mem_of_getElem? (i := 41) rfl)))) rfl, t_Model_ok, n_Model, rfl, rfl, by decide +kernel⟩
theorem ff_TankArenaModel_49 : Ff "TankArenaModel" 49 TT clA 7 17 (.array .int) := ⟨R_Model, F_Model, 38, t_Model, rfl, in_Model, by decide, tt_in (List.mem_append_right _ (List.mem_append_right _ (List.mem_append_left _ (List.mem_of_getElem? (i := 42) rfl)))) rfl, t_Model_ok, n_Model, rfl, rfl, by decide +kernel⟩
theorem ff_TankArenaModel_52 : Ff "TankArenaModel" 52 TT clA 7 18 (.array .int) := ⟨R_Model, F_Model, 38, t_Model, rfl, in_Model, by decide, tt_in (List.mem_append_right _ (List.mem_append_right _ (List.mem_append_left _ (List.mem_of_getElem? (i := 43) rfl)))) rfl, t_Model_ok, n_Model, rfl, rfl, by decide +kernel⟩
theorem ff_TankArenaModel_55 : Ff "TankArenaModel" 55 TT clA 7 19 (.array .int) := ⟨R_Model, F_Model, 38, t_Model, rfl, in_Model, by decide, tt_in (List.mem_append_right _ (List.mem_append_right _ (List.mem_append_left _ (List.mem_of_getElem? (i := 44) rfl)))) rfl, t_Model_ok, n_Model, rfl, rfl, by decide +kernel⟩
theorem ff_TankArenaModel_58 : Ff "TankArenaModel" 58 TT clA 7 20 (.array .int) := ⟨R_Model, F_Model, 38, t_Model, rfl, in_Model, by decide, tt_in (List.mem_append_right _ (List.mem_append_right _ (List.mem_append_left _ (List.mem_of_getElem? (i := 45) rfl)))) rfl, t_Model_ok, n_Model, rfl, rfl, by decide +kernel⟩
theorem ff_TankArenaModel_61 : Ff "TankArenaModel" 61 TT clA 7 21 (.array .int) := ⟨R_Model, F_Model, 38, t_Model, rfl, in_Model, by decide, tt_in (List.mem_append_right _ (List.mem_append_right _ (List.mem_append_left _ (List.mem_of_getElem? (i := 46) rfl)))) rfl, t_Model_ok, n_Model, rfl, rfl, by decide +kernel⟩
theorem ff_TankArenaModel_64 : Ff "TankArenaModel" 64 TT clA 7 22 (.array .int) := ⟨R_Model, F_Model, 38, t_Model, rfl, in_Model, by decide, tt_in (List.mem_append_right _ (List.mem_append_right _ (List.mem_append_left _ (List.mem_of_getElem? (i := 47) rfl)))) rfl, t_Model_ok, n_Model, rfl, rfl, by decide +kernel⟩
theorem ff_TankArenaModel_67 : Ff "TankArenaModel" 67 TT clA 7 23 (.array .int) := ⟨R_Model, F_Model, 38, t_Model, rfl, in_Model, by decide, tt_in (List.mem_append_right _ (List.mem_append_right _ (List.mem_append_left _ (List.mem_of_getElem? (i := 48) rfl)))) rfl, t_Model_ok, n_Model, rfl, rfl, by decide +kernel⟩
theorem ff_TankArenaModel_70 : Ff "TankArenaModel" 70 TT clA 7 24 (.array .boolean) := ⟨R_Model, F_Model, 38, t_Model, rfl, in_Model, by decide, tt_in (List.mem_append_right _ (List.mem_append_right _ (List.mem_append_left _ (List.mem_of_getElem? (i := 49) rfl)))) rfl, t_Model_ok, n_Model, rfl, rfl, by decide +kernel⟩
theorem ff_TankArenaModel_74 : Ff "TankArenaModel" 74 TT clA 7 25 (.array .boolean) := ⟨R_Model, F_Model, 38, t_Model, rfl, in_Model, by decide, tt_in (List.mem_append_right _ (List.mem_append_right _ (List.mem_append_left _ (List.mem_of_getElem? (i := 50) rfl)))) rfl, t_Model_ok, n_Model, rfl, rfl, by decide +kernel⟩
theorem ff_TankArenaModel_77 : Ff "TankArenaModel" 77 TT clA 7 26 (.array .boolean) := ⟨R_Model, F_Model, 38, t_Model, rfl, in_Model, by decide, tt_in (List.mem_append_right _ (List.mem_append_right _ (List.mem_append_left _ (List.mem_of_getElem? (i := 51) rfl)))) rfl, t_Model_ok, n_Model, rfl, rfl, by decide +kernel⟩
theorem ff_TankArenaModel_80 : Ff "TankArenaModel" 80 TT clA 7 27 (.array .int) := ⟨R_Model, F_Model, 38, t_Model, rfl, in_Model, by decide, tt_in (List.mem_append_right _ (List.mem_append_right _ (List.mem_append_left _ (List.mem_of_getElem? (i := 52) rfl)))) rfl, t_Model_ok, n_Model, rfl, rfl, by decide +kernel⟩
theorem ff_TankArenaModel_83 : Ff "TankArenaModel" 83 TT clA 7 28 (.array .int) := ⟨R_Model, F_Model, 38, t_Model, rfl, in_Model, by decide, tt_in (List.mem_append_right _ (List.mem_append_right _ (List.mem_append_left _ (List.mem_of_getElem? (i := 53) rfl)))) rfl, t_Model_ok, n_Model, rfl, rfl, by decide +kernel⟩
theorem ff_TankArenaModel_86 : Ff "TankArenaModel" 86 TT clA 7 29 (.array .int) := ⟨R_Model, F_Model, 38, t_Model, rfl, in_Model, by decide, tt_in (List.mem_append_right _ (List.mem_append_right _ (List.mem_append_left _ (List.mem_of_getElem? (i := 54) rfl)))) rfl, t_Model_ok, n_Model, rfl, rfl, by decide +kernel⟩
theorem ff_TankArenaModel_89 : Ff "TankArenaModel" 89 TT clA 7 30 (.array .int) := ⟨R_Model, F_Model, 38, t_Model, rfl, in_Model, by decide, tt_in (List.mem_append_right _ (List.mem_append_right _ (List.mem_append_left _ (List.mem_of_getElem? (i := 55) rfl)))) rfl, t_Model_ok, n_Model, rfl, rfl, by decide +kernel⟩
theorem ff_TankArenaModel_92 : Ff "TankArenaModel" 92 TT clA 7 31 (.array .int) := ⟨R_Model, F_Model, 38, t_Model, rfl, in_Model, by decide, tt_in (List.mem_append_right _ (List.mem_append_right _ (List.mem_append_left _ (List.mem_of_getElem? (i := 56) rfl)))) rfl, t_Model_ok, n_Model, rfl, rfl, by decide +kernel⟩
theorem ff_TankArenaModel_95 : Ff "TankArenaModel" 95 TT clA 7 32 (.array .int) := ⟨R_Model, F_Model, 38, t_Model, rfl, in_Model, by decide, tt_in (List.mem_append_right _ (List.mem_append_right _ (List.mem_append_left _ (List.mem_of_getElem? (i := 57) rfl)))) rfl, t_Model_ok, n_Model, rfl, rfl, by decide +kernel⟩
theorem ff_TankArenaModel_98 : Ff "TankArenaModel" 98 TT clA 7 33 (.array .int) := ⟨R_Model, F_Model, 38, t_Model, rfl, in_Model, by decide, tt_in (List.mem_append_right _ (List.mem_append_right _ (List.mem_append_left _ (List.mem_of_getElem? (i := 58) rfl)))) rfl, t_Model_ok, n_Model, rfl, rfl, by decide +kernel⟩
theorem ff_TankArenaModel_101 : Ff "TankArenaModel" 101 TT clA 7 34 (.array .int) := ⟨R_Model, F_Model, 38, t_Model, rfl, in_Model, by decide, tt_in (List.mem_append_right _ (List.mem_append_right _ (List.mem_append_left _ (List.mem_of_getElem? (i := 59) rfl)))) rfl, t_Model_ok, n_Model, rfl, rfl, by decide +kernel⟩
theorem ff_TankArenaModel_104 : Ff "TankArenaModel" 104 TT clA 7 35 (.array .int) := ⟨R_Model, F_Model, 38, t_Model, rfl, in_Model, by decide, tt_in (List.mem_append_right _ (List.mem_append_right _ (List.mem_append_left _ (List.mem_of_getElem? (i := 60) rfl)))) rfl, t_Model_ok, n_Model, rfl, rfl, by decide +kernel⟩
theorem ff_TankArenaModel_107 : Ff "TankArenaModel" 107 TT clA 7 36 (.array .boolean) := ⟨R_Model, F_Model, 38, t_Model, rfl, in_Model, by decide, tt_in (List.mem_append_right _ (List.mem_append_right _ (List.mem_append_left _ (List.mem_of_getElem? (i := 61) rfl)))) rfl, t_Model_ok, n_Model, rfl, rfl, by decide +kernel⟩
