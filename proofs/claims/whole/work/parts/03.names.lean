/-! NAMES (printed by gen/words.py) -/
def R_Bullet : String := "TankArena$Bullet"
def F_Bullet : u_T := fun k => match k with
  | 0 => ("TankArena$Bullet", "x", "I", false)
  | 1 => ("TankArena$Bullet", "y", "I", false)
  | 2 => ("TankArena$Bullet", "power", "I", false)
  | 3 => ("TankArena$Bullet", "direction", "I", false)
  | _ => ("TankArena$Bullet", "owner", "I", false)
def t_Bullet : Nat → FieldType := fun k => match k with
  | 0 => .int
  | 1 => .int
  | 2 => .int
  | 3 => .int
  | _ => .int
theorem n_Bullet : ∀ a, a < 5 → ∀ b, b < 5 → a ≠ b → (F_Bullet a).2.1 ≠ (F_Bullet b).2.1 := by decide +kernel
theorem t_Bullet_ok : ∀ k, k < 5 → parseFieldDescriptor (F_Bullet k).2.2.1 = some (t_Bullet k) := by decide +kernel
abbrev CI_bullet : Nat := 0
def R_Orders : String := "TankArena$Orders"
def F_Orders : u_T := fun k => match k with
  | 0 => ("TankArena$Orders", "heading", "I", false)
  | 1 => ("TankArena$Orders", "gun", "I", false)
  | 2 => ("TankArena$Orders", "radar", "I", false)
  | _ => ("TankArena$Orders", "power", "I", false)
def t_Orders : Nat → FieldType := fun k => match k with
  | 0 => .int
  | 1 => .int
  | 2 => .int
  | _ => .int
theorem n_Orders : ∀ a, a < 4 → ∀ b, b < 4 → a ≠ b → (F_Orders a).2.1 ≠ (F_Orders b).2.1 := by decide +kernel
theorem t_Orders_ok : ∀ k, k < 4 → parseFieldDescriptor (F_Orders k).2.2.1 = some (t_Orders k) := by decide +kernel
abbrev CI_orders : Nat := 1
def R_Processor : String := "TankArena$Processor"
def F_Processor : u_T := fun k => match k with
  | 0 => ("TankArena$Processor", "registers", "[I", true)
  | 1 => ("TankArena$Processor", "counter", "I", false)
  | _ => ("TankArena$Processor", "skips", "I", false)
def t_Processor : Nat → FieldType := fun k => match k with
  | 0 => .array .int
  | 1 => .int
  | _ => .int
theorem n_Processor : ∀ a, a < 3 → ∀ b, b < 3 → a ≠ b → (F_Processor a).2.1 ≠ (F_Processor b).2.1 := by decide +kernel
theorem t_Processor_ok : ∀ k, k < 3 → parseFieldDescriptor (F_Processor k).2.2.1 = some (t_Processor k) := by decide +kernel
abbrev CI_processor : Nat := 2
def R_Program : String := "TankArena$Program"
def F_Program : u_T := fun k => match k with
  | 0 => ("TankArena$Program", "ops", "[I", true)
  | 1 => ("TankArena$Program", "as", "[I", true)
  | 2 => ("TankArena$Program", "bs", "[I", true)
  | _ => ("TankArena$Program", "size", "I", false)
def t_Program : Nat → FieldType := fun k => match k with
  | 0 => .array .int
  | 1 => .array .int
  | 2 => .array .int
  | _ => .int
theorem n_Program : ∀ a, a < 4 → ∀ b, b < 4 → a ≠ b → (F_Program a).2.1 ≠ (F_Program b).2.1 := by decide +kernel
theorem t_Program_ok : ∀ k, k < 4 → parseFieldDescriptor (F_Program k).2.2.1 = some (t_Program k) := by decide +kernel
abbrev CI_program : Nat := 3
def R_Report : String := "TankArena$Report"
def F_Report : u_T := fun k => match k with
  | 0 => ("TankArena$Report", "bumped", "Z", false)
  | 1 => ("TankArena$Report", "hit", "Z", false)
  | 2 => ("TankArena$Report", "seen", "I", false)
  | _ => ("TankArena$Report", "distance", "I", false)
def t_Report : Nat → FieldType := fun k => match k with
  | 0 => .boolean
  | 1 => .boolean
  | 2 => .int
  | _ => .int
theorem n_Report : ∀ a, a < 4 → ∀ b, b < 4 → a ≠ b → (F_Report a).2.1 ≠ (F_Report b).2.1 := by decide +kernel
theorem t_Report_ok : ∀ k, k < 4 → parseFieldDescriptor (F_Report k).2.2.1 = some (t_Report k) := by decide +kernel
abbrev CI_report : Nat := 4
def R_Tank : String := "TankArena$Tank"
def F_Tank : u_T := fun k => match k with
  | 0 => ("TankArena$Tank", "program", "LTankArena$Program;", true)
  | 1 => ("TankArena$Tank", "processor", "LTankArena$Processor;", true)
  | 2 => ("TankArena$Tank", "orders", "LTankArena$Orders;", true)
  | 3 => ("TankArena$Tank", "report", "LTankArena$Report;", true)
  | 4 => ("TankArena$Tank", "startX", "I", false)
  | 5 => ("TankArena$Tank", "startY", "I", false)
  | 6 => ("TankArena$Tank", "startHeading", "I", false)
  | 7 => ("TankArena$Tank", "x", "I", false)
  | 8 => ("TankArena$Tank", "y", "I", false)
  | 9 => ("TankArena$Tank", "heading", "I", false)
  | 10 => ("TankArena$Tank", "gun", "I", false)
  | 11 => ("TankArena$Tank", "radar", "I", false)
  | 12 => ("TankArena$Tank", "speed", "I", false)
  | 13 => ("TankArena$Tank", "wish", "I", false)
  | 14 => ("TankArena$Tank", "energy", "I", false)
  | 15 => ("TankArena$Tank", "heat", "I", false)
  | 16 => ("TankArena$Tank", "score", "I", false)
  | _ => ("TankArena$Tank", "alive", "Z", false)
def t_Tank : Nat → FieldType := fun k => match k with
  | 0 => .object "TankArena$Program"
  | 1 => .object "TankArena$Processor"
  | 2 => .object "TankArena$Orders"
  | 3 => .object "TankArena$Report"
  | 4 => .int
  | 5 => .int
  | 6 => .int
  | 7 => .int
  | 8 => .int
  | 9 => .int
  | 10 => .int
  | 11 => .int
  | 12 => .int
  | 13 => .int
  | 14 => .int
  | 15 => .int
  | 16 => .int
  | _ => .boolean
theorem n_Tank : ∀ a, a < 18 → ∀ b, b < 18 → a ≠ b → (F_Tank a).2.1 ≠ (F_Tank b).2.1 := by decide +kernel
theorem t_Tank_ok : ∀ k, k < 18 → parseFieldDescriptor (F_Tank k).2.2.1 = some (t_Tank k) := by decide +kernel
abbrev CI_tank : Nat := 5
def R_TankArena : String := "TankArena"
def F_TankArena : u_T := fun k => match k with
  | 0 => ("TankArena", "tanks", "[LTankArena$Tank;", true)
  | 1 => ("TankArena", "bullets", "[LTankArena$Bullet;", true)
  | 2 => ("TankArena", "entered", "I", false)
  | 3 => ("TankArena", "turns", "I", false)
  | 4 => ("TankArena", "flying", "I", false)
  | 5 => ("TankArena", "shots", "I", false)
  | _ => ("TankArena", "hits", "I", false)
def t_TankArena : Nat → FieldType := fun k => match k with
  | 0 => .array (.object "TankArena$Tank")
  | 1 => .array (.object "TankArena$Bullet")
  | 2 => .int
  | 3 => .int
  | 4 => .int
  | 5 => .int
  | _ => .int
theorem n_TankArena : ∀ a, a < 7 → ∀ b, b < 7 → a ≠ b → (F_TankArena a).2.1 ≠ (F_TankArena b).2.1 := by decide +kernel
theorem t_TankArena_ok : ∀ k, k < 7 → parseFieldDescriptor (F_TankArena k).2.2.1 = some (t_TankArena k) := by decide +kernel
abbrev CI_arena : Nat := 6
def R_Model : String := "TankArenaModel"
def F_Model : u_T := fun k => match k with
  | 0 => ("TankArenaModel", "homeX", "[I", true)
  | 1 => ("TankArenaModel", "homeY", "[I", true)
  | 2 => ("TankArenaModel", "home", "[I", true)
  | 3 => ("TankArenaModel", "size", "[I", true)
  | 4 => ("TankArenaModel", "ops", "[I", true)
  | 5 => ("TankArenaModel", "as", "[I", true)
  | 6 => ("TankArenaModel", "bs", "[I", true)
  | 7 => ("TankArenaModel", "tanks", "I", false)
  | 8 => ("TankArenaModel", "turns", "I", false)
  | 9 => ("TankArenaModel", "shots", "I", false)
  | 10 => ("TankArenaModel", "hits", "I", false)
  | 11 => ("TankArenaModel", "x", "[I", true)
  | 12 => ("TankArenaModel", "y", "[I", true)
  | 13 => ("TankArenaModel", "heading", "[I", true)
  | 14 => ("TankArenaModel", "gun", "[I", true)
  | 15 => ("TankArenaModel", "radar", "[I", true)
  | 16 => ("TankArenaModel", "speed", "[I", true)
  | 17 => ("TankArenaModel", "wish", "[I", true)
  | 18 => ("TankArenaModel", "energy", "[I", true)
  | 19 => ("TankArenaModel", "heat", "[I", true)
  | 20 => ("TankArenaModel", "counter", "[I", true)
  | 21 => ("TankArenaModel", "regs", "[I", true)
  | 22 => ("TankArenaModel", "skips", "[I", true)
  | 23 => ("TankArenaModel", "score", "[I", true)
  | 24 => ("TankArenaModel", "alive", "[Z", true)
  | 25 => ("TankArenaModel", "bumped", "[Z", true)
  | 26 => ("TankArenaModel", "hit", "[Z", true)
  | 27 => ("TankArenaModel", "sees", "[I", true)
  | 28 => ("TankArenaModel", "far", "[I", true)
  | 29 => ("TankArenaModel", "turning", "[I", true)
  | 30 => ("TankArenaModel", "power", "[I", true)
  | 31 => ("TankArenaModel", "bx", "[I", true)
  | 32 => ("TankArenaModel", "by", "[I", true)
  | 33 => ("TankArenaModel", "bPower", "[I", true)
  | 34 => ("TankArenaModel", "bWay", "[I", true)
  | 35 => ("TankArenaModel", "bFrom", "[I", true)
  | 36 => ("TankArenaModel", "gone", "[Z", true)
  | _ => ("TankArenaModel", "fired", "I", false)
def t_Model : Nat → FieldType := fun k => match k with
  | 0 => .array .int
  | 1 => .array .int
  | 2 => .array .int
  | 3 => .array .int
  | 4 => .array .int
  | 5 => .array .int
  | 6 => .array .int
  | 7 => .int
  | 8 => .int
  | 9 => .int
  | 10 => .int
  | 11 => .array .int
  | 12 => .array .int
  | 13 => .array .int
  | 14 => .array .int
  | 15 => .array .int
  | 16 => .array .int
  | 17 => .array .int
  | 18 => .array .int
  | 19 => .array .int
  | 20 => .array .int
  | 21 => .array .int
  | 22 => .array .int
  | 23 => .array .int
  | 24 => .array .boolean
  | 25 => .array .boolean
  | 26 => .array .boolean
  | 27 => .array .int
  | 28 => .array .int
  | 29 => .array .int
  | 30 => .array .int
  | 31 => .array .int
  | 32 => .array .int
  | 33 => .array .int
  | 34 => .array .int
  | 35 => .array .int
  | 36 => .array .boolean
  | _ => .int
theorem n_Model : ∀ a, a < 38 → ∀ b, b < 38 → a ≠ b → (F_Model a).2.1 ≠ (F_Model b).2.1 := by decide +kernel
theorem t_Model_ok : ∀ k, k < 38 → parseFieldDescriptor (F_Model k).2.2.1 = some (t_Model k) := by decide +kernel
abbrev CI_model : Nat := 7
abbrev clA : List vw_C := [(R_Bullet, F_Bullet, 5), (R_Orders, F_Orders, 4), (R_Processor, F_Processor, 3), (R_Program, F_Program, 4), (R_Report, F_Report, 4), (R_Tank, F_Tank, 18), (R_TankArena, F_TankArena, 7), (R_Model, F_Model, 38)]
abbrev b_TankArena__init_ : ByteArray := prog_1_method_1_code
abbrev y_TankArena__init_ : MethodName := ⟨"TankArena", "<init>", "()V"⟩
abbrev b_TankArena_bullet : ByteArray := prog_1_method_8_code
abbrev y_TankArena_bullet : MethodName := ⟨"TankArena", "bullet", "(II)I"⟩
abbrev b_TankArena_count : ByteArray := prog_1_method_9_code
abbrev y_TankArena_count : MethodName := ⟨"TankArena", "count", "(I)I"⟩
abbrev b_TankArena_countAlive : ByteArray := prog_1_method_14_code
abbrev y_TankArena_countAlive : MethodName := ⟨"TankArena", "countAlive", "()I"⟩
abbrev b_TankArena_dieIfSpent : ByteArray := prog_1_method_28_code
abbrev y_TankArena_dieIfSpent : MethodName := ⟨"TankArena", "dieIfSpent", "(I)V"⟩
abbrev b_TankArena_drive : ByteArray := prog_1_method_30_code
abbrev y_TankArena_drive : MethodName := ⟨"TankArena", "drive", "(I)V"⟩
abbrev b_TankArena_driveTanks : ByteArray := prog_1_method_29_code
abbrev y_TankArena_driveTanks : MethodName := ⟨"TankArena", "driveTanks", "()V"⟩
abbrev b_TankArena_enter : ByteArray := prog_1_method_2_code
abbrev y_TankArena_enter : MethodName := ⟨"TankArena", "enter", "(III)I"⟩
abbrev b_TankArena_fire : ByteArray := prog_1_method_23_code
abbrev y_TankArena_fire : MethodName := ⟨"TankArena", "fire", "(I)V"⟩
abbrev b_TankArena_fireGuns : ByteArray := prog_1_method_22_code
abbrev y_TankArena_fireGuns : MethodName := ⟨"TankArena", "fireGuns", "()V"⟩
abbrev b_TankArena_flyBullets : ByteArray := prog_1_method_24_code
abbrev y_TankArena_flyBullets : MethodName := ⟨"TankArena", "flyBullets", "()V"⟩
abbrev b_TankArena_forgetLastTurn : ByteArray := prog_1_method_21_code
abbrev y_TankArena_forgetLastTurn : MethodName := ⟨"TankArena", "forgetLastTurn", "()V"⟩
abbrev b_TankArena_instr : ByteArray := prog_1_method_3_code
abbrev y_TankArena_instr : MethodName := ⟨"TankArena", "instr", "(IIII)I"⟩
abbrev b_TankArena_isAimed : ByteArray := prog_1_method_20_code
abbrev y_TankArena_isAimed : MethodName := ⟨"TankArena", "isAimed", "(LTankArena$Tank;)Z"⟩
abbrev b_TankArena_isTank : ByteArray := prog_1_method_13_code
abbrev y_TankArena_isTank : MethodName := ⟨"TankArena", "isTank", "(I)Z"⟩
abbrev b_TankArena_jumps : ByteArray := prog_1_method_19_code
abbrev y_TankArena_jumps : MethodName := ⟨"TankArena", "jumps", "(LTankArena$Tank;II)Z"⟩
abbrev b_TankArena_leastStruck : ByteArray := prog_1_method_26_code
abbrev y_TankArena_leastStruck : MethodName := ⟨"TankArena", "leastStruck", "(LTankArena$Bullet;)I"⟩
abbrev b_TankArena_leastTouched : ByteArray := prog_1_method_31_code
abbrev y_TankArena_leastTouched : MethodName := ⟨"TankArena", "leastTouched", "(III)I"⟩
abbrev b_TankArena_look : ByteArray := prog_1_method_33_code
abbrev y_TankArena_look : MethodName := ⟨"TankArena", "look", "(I)V"⟩
abbrev b_TankArena_measure : ByteArray := prog_1_method_6_code
abbrev y_TankArena_measure : MethodName := ⟨"TankArena", "measure", "(II)J"⟩
abbrev b_TankArena_obey : ByteArray := prog_1_method_18_code
abbrev y_TankArena_obey : MethodName := ⟨"TankArena", "obey", "(LTankArena$Tank;III)V"⟩
abbrev b_TankArena_restart : ByteArray := prog_1_method_5_code
abbrev y_TankArena_restart : MethodName := ⟨"TankArena", "restart", "()I"⟩
abbrev b_TankArena_runProgram : ByteArray := prog_1_method_16_code
abbrev y_TankArena_runProgram : MethodName := ⟨"TankArena", "runProgram", "(LTankArena$Tank;)V"⟩
abbrev b_TankArena_runPrograms : ByteArray := prog_1_method_15_code
abbrev y_TankArena_runPrograms : MethodName := ⟨"TankArena", "runPrograms", "()V"⟩
abbrev b_TankArena_sector : ByteArray := prog_1_method_11_code
abbrev y_TankArena_sector : MethodName := ⟨"TankArena", "sector", "(LTankArena$Tank;LTankArena$Tank;)I"⟩
abbrev b_TankArena_spendsBudget : ByteArray := prog_1_method_17_code
abbrev y_TankArena_spendsBudget : MethodName := ⟨"TankArena", "spendsBudget", "(LTankArena$Tank;)Z"⟩
abbrev b_TankArena_state : ByteArray := prog_1_method_7_code
abbrev y_TankArena_state : MethodName := ⟨"TankArena", "state", "(II)I"⟩
abbrev b_TankArena_staysThere : ByteArray := prog_1_method_25_code
abbrev y_TankArena_staysThere : MethodName := ⟨"TankArena", "staysThere", "(LTankArena$Bullet;)Z"⟩
abbrev b_TankArena_strike : ByteArray := prog_1_method_27_code
abbrev y_TankArena_strike : MethodName := ⟨"TankArena", "strike", "(LTankArena$Bullet;I)V"⟩
abbrev b_TankArena_sweepRadars : ByteArray := prog_1_method_32_code
abbrev y_TankArena_sweepRadars : MethodName := ⟨"TankArena", "sweepRadars", "()V"⟩
abbrev b_TankArena_turn : ByteArray := prog_1_method_4_code
abbrev y_TankArena_turn : MethodName := ⟨"TankArena", "turn", "()I"⟩
abbrev b_TankArena_turned : ByteArray := prog_1_method_12_code
abbrev y_TankArena_turned : MethodName := ⟨"TankArena", "turned", "(II)I"⟩
abbrev b_TankArena_within : ByteArray := prog_1_method_10_code
abbrev y_TankArena_within : MethodName := ⟨"TankArena", "within", "(III)Z"⟩
abbrev b_Bullet__init_ : ByteArray := prog_2_method_1_code
abbrev y_Bullet__init_ : MethodName := ⟨"TankArena$Bullet", "<init>", "()V"⟩
abbrev b_Bullet_damage : ByteArray := prog_2_method_5_code
abbrev y_Bullet_damage : MethodName := ⟨"TankArena$Bullet", "damage", "()I"⟩
abbrev b_Bullet_goOn : ByteArray := prog_2_method_3_code
abbrev y_Bullet_goOn : MethodName := ⟨"TankArena$Bullet", "goOn", "()V"⟩
abbrev b_Bullet_isInField : ByteArray := prog_2_method_4_code
abbrev y_Bullet_isInField : MethodName := ⟨"TankArena$Bullet", "isInField", "()Z"⟩
abbrev b_Bullet_leave : ByteArray := prog_2_method_2_code
abbrev y_Bullet_leave : MethodName := ⟨"TankArena$Bullet", "leave", "(LTankArena$Tank;I)V"⟩
abbrev b_Bullet_told : ByteArray := prog_2_method_6_code
abbrev y_Bullet_told : MethodName := ⟨"TankArena$Bullet", "told", "(I)I"⟩
abbrev b_Orders__init_ : ByteArray := prog_3_method_1_code
abbrev y_Orders__init_ : MethodName := ⟨"TankArena$Orders", "<init>", "()V"⟩
abbrev b_Orders_clear : ByteArray := prog_3_method_2_code
abbrev y_Orders_clear : MethodName := ⟨"TankArena$Orders", "clear", "()V"⟩
abbrev b_Processor__init_ : ByteArray := prog_4_method_1_code
abbrev y_Processor__init_ : MethodName := ⟨"TankArena$Processor", "<init>", "()V"⟩
abbrev b_Processor_clear : ByteArray := prog_4_method_2_code
abbrev y_Processor_clear : MethodName := ⟨"TankArena$Processor", "clear", "()V"⟩
abbrev b_Program__init_ : ByteArray := prog_5_method_1_code
abbrev y_Program__init_ : MethodName := ⟨"TankArena$Program", "<init>", "()V"⟩
abbrev b_Program_add : ByteArray := prog_5_method_4_code
abbrev y_Program_add : MethodName := ⟨"TankArena$Program", "add", "(III)V"⟩
abbrev b_Program_allows : ByteArray := prog_5_method_2_code
abbrev y_Program_allows : MethodName := ⟨"TankArena$Program", "allows", "(III)Z"⟩
abbrev b_Program_isFull : ByteArray := prog_5_method_3_code
abbrev y_Program_isFull : MethodName := ⟨"TankArena$Program", "isFull", "()Z"⟩
abbrev b_Report__init_ : ByteArray := prog_6_method_1_code
abbrev y_Report__init_ : MethodName := ⟨"TankArena$Report", "<init>", "()V"⟩
abbrev b_Report_clear : ByteArray := prog_6_method_2_code
abbrev y_Report_clear : MethodName := ⟨"TankArena$Report", "clear", "()V"⟩
abbrev b_Report_noteSight : ByteArray := prog_6_method_4_code
abbrev y_Report_noteSight : MethodName := ⟨"TankArena$Report", "noteSight", "(II)V"⟩
abbrev b_Report_seesTank : ByteArray := prog_6_method_3_code
abbrev y_Report_seesTank : MethodName := ⟨"TankArena$Report", "seesTank", "()Z"⟩
abbrev b_Tank__init_ : ByteArray := prog_7_method_1_code
abbrev y_Tank__init_ : MethodName := ⟨"TankArena$Tank", "<init>", "()V"⟩
abbrev b_Tank_betweenWalls : ByteArray := prog_7_method_9_code
abbrev y_Tank_betweenWalls : MethodName := ⟨"TankArena$Tank", "betweenWalls", "(I)I"⟩
abbrev b_Tank_canFire : ByteArray := prog_7_method_5_code
abbrev y_Tank_canFire : MethodName := ⟨"TankArena$Tank", "canFire", "()Z"⟩
abbrev b_Tank_changeSpeed : ByteArray := prog_7_method_7_code
abbrev y_Tank_changeSpeed : MethodName := ⟨"TankArena$Tank", "changeSpeed", "()V"⟩
abbrev b_Tank_cool : ByteArray := prog_7_method_10_code
abbrev y_Tank_cool : MethodName := ⟨"TankArena$Tank", "cool", "()V"⟩
abbrev b_Tank_distanceTo : ByteArray := prog_7_method_11_code
abbrev y_Tank_distanceTo : MethodName := ⟨"TankArena$Tank", "distanceTo", "(II)I"⟩
abbrev b_Tank_goOn : ByteArray := prog_7_method_8_code
abbrev y_Tank_goOn : MethodName := ⟨"TankArena$Tank", "goOn", "()V"⟩
abbrev b_Tank_isDisabled : ByteArray := prog_7_method_4_code
abbrev y_Tank_isDisabled : MethodName := ⟨"TankArena$Tank", "isDisabled", "()Z"⟩
abbrev b_Tank_measured : ByteArray := prog_7_method_12_code
abbrev y_Tank_measured : MethodName := ⟨"TankArena$Tank", "measured", "(I)I"⟩
abbrev b_Tank_obeyTurns : ByteArray := prog_7_method_6_code
abbrev y_Tank_obeyTurns : MethodName := ⟨"TankArena$Tank", "obeyTurns", "()V"⟩
abbrev b_Tank_standAt : ByteArray := prog_7_method_2_code
abbrev y_Tank_standAt : MethodName := ⟨"TankArena$Tank", "standAt", "(III)V"⟩
abbrev b_Tank_startAnew : ByteArray := prog_7_method_3_code
abbrev y_Tank_startAnew : MethodName := ⟨"TankArena$Tank", "startAnew", "()V"⟩
abbrev b_Tank_told : ByteArray := prog_7_method_13_code
abbrev y_Tank_told : MethodName := ⟨"TankArena$Tank", "told", "(I)I"⟩
abbrev b_Math_floorMod : ByteArray := prog_10_method_50_code
abbrev y_Math_floorMod : MethodName := ⟨"java/lang/Math", "floorMod", "(II)I"⟩
theorem in_Bullet : ∀ w ∈ u_ws R_Bullet F_Bullet 5, w ∈ TT := by
  intro w hw
  obtain ⟨k, hk, rfl⟩ := List.mem_map.mp hw
  rw [List.mem_range] at hk
  match k, hk with
  | 0, _ => exact tt_in (List.mem_append_left _ (List.mem_of_getElem? (i := 214) rfl)) rfl
  | 1, _ => exact tt_in (List.mem_append_left _ (List.mem_of_getElem? (i := 216) rfl)) rfl
  | 2, _ => exact tt_in (List.mem_append_left _ (List.mem_of_getElem? (i := 218) rfl)) rfl
  | 3, _ => exact tt_in (List.mem_append_left _ (List.mem_of_getElem? (i := 220) rfl)) rfl
  | 4, _ => exact tt_in (List.mem_append_left _ (List.mem_of_getElem? (i := 222) rfl)) rfl
  | k + 5, hk => exact absurd hk (by omega)
theorem in_Orders : ∀ w ∈ u_ws R_Orders F_Orders 4, w ∈ TT := by
  intro w hw
  obtain ⟨k, hk, rfl⟩ := List.mem_map.mp hw
  rw [List.mem_range] at hk
  match k, hk with
  | 0, _ => exact tt_in (List.mem_append_left _ (List.mem_of_getElem? (i := 90) rfl)) rfl
  | 1, _ => exact tt_in (List.mem_append_left _ (List.mem_of_getElem? (i := 92) rfl)) rfl
  | 2, _ => exact tt_in (List.mem_append_left _ (List.mem_of_getElem? (i := 94) rfl)) rfl
  | 3, _ => exact tt_in (List.mem_append_left _ (List.mem_of_getElem? (i := 96) rfl)) rfl
  | k + 4, hk => exact absurd hk (by omega)
theorem in_Processor : ∀ w ∈ u_ws R_Processor F_Processor 3, w ∈ TT := by
  intro w hw
  obtain ⟨k, hk, rfl⟩ := List.mem_map.mp hw
  rw [List.mem_range] at hk
  match k, hk with
  | 0, _ => exact tt_in (List.mem_append_left _ (List.mem_of_getElem? (i := 64) rfl)) rfl
  | 1, _ => exact tt_in (List.mem_append_left _ (List.mem_of_getElem? (i := 66) rfl)) rfl
  | 2, _ => exact tt_in (List.mem_append_left _ (List.mem_of_getElem? (i := 68) rfl)) rfl
  | k + 3, hk => exact absurd hk (by omega)
theorem in_Program : ∀ w ∈ u_ws R_Program F_Program 4, w ∈ TT := by
  intro w hw
  obtain ⟨k, hk, rfl⟩ := List.mem_map.mp hw
  rw [List.mem_range] at hk
  match k, hk with
  | 0, _ => exact tt_in (List.mem_append_left _ (List.mem_of_getElem? (i := 39) rfl)) rfl
  | 1, _ => exact tt_in (List.mem_append_left _ (List.mem_of_getElem? (i := 41) rfl)) rfl
  | 2, _ => exact tt_in (List.mem_append_left _ (List.mem_of_getElem? (i := 43) rfl)) rfl
  | 3, _ => exact tt_in (List.mem_append_left _ (List.mem_of_getElem? (i := 45) rfl)) rfl
  | k + 4, hk => exact absurd hk (by omega)
theorem in_Report : ∀ w ∈ u_ws R_Report F_Report 4, w ∈ TT := by
  intro w hw
  obtain ⟨k, hk, rfl⟩ := List.mem_map.mp hw
  rw [List.mem_range] at hk
  match k, hk with
  | 0, _ => exact tt_in (List.mem_append_left _ (List.mem_of_getElem? (i := 116) rfl)) rfl
  | 1, _ => exact tt_in (List.mem_append_left _ (List.mem_of_getElem? (i := 118) rfl)) rfl
  | 2, _ => exact tt_in (List.mem_append_left _ (List.mem_of_getElem? (i := 120) rfl)) rfl
  | 3, _ => exact tt_in (List.mem_append_left _ (List.mem_of_getElem? (i := 122) rfl)) rfl
  | k + 4, hk => exact absurd hk (by omega)
theorem in_Tank : ∀ w ∈ u_ws R_Tank F_Tank 18, w ∈ TT := by
  intro w hw
  obtain ⟨k, hk, rfl⟩ := List.mem_map.mp hw
  rw [List.mem_range] at hk
  match k, hk with
  | 0, _ => exact tt_in (List.mem_append_left _ (List.mem_of_getElem? (i := 161) rfl)) rfl
  | 1, _ => exact tt_in (List.mem_append_left _ (List.mem_of_getElem? (i := 163) rfl)) rfl
  | 2, _ => exact tt_in (List.mem_append_left _ (List.mem_of_getElem? (i := 165) rfl)) rfl
  | 3, _ => exact tt_in (List.mem_append_left _ (List.mem_of_getElem? (i := 167) rfl)) rfl
  | 4, _ => exact tt_in (List.mem_append_left _ (List.mem_of_getElem? (i := 169) rfl)) rfl
  | 5, _ => exact tt_in (List.mem_append_left _ (List.mem_of_getElem? (i := 171) rfl)) rfl
  | 6, _ => exact tt_in (List.mem_append_left _ (List.mem_of_getElem? (i := 173) rfl)) rfl
  | 7, _ => exact tt_in (List.mem_append_left _ (List.mem_of_getElem? (i := 175) rfl)) rfl
  | 8, _ => exact tt_in (List.mem_append_left _ (List.mem_of_getElem? (i := 177) rfl)) rfl
  | 9, _ => exact tt_in (List.mem_append_left _ (List.mem_of_getElem? (i := 179) rfl)) rfl
  | 10, _ => exact tt_in (List.mem_append_left _ (List.mem_of_getElem? (i := 181) rfl)) rfl
  | 11, _ => exact tt_in (List.mem_append_left _ (List.mem_of_getElem? (i := 183) rfl)) rfl
  | 12, _ => exact tt_in (List.mem_append_left _ (List.mem_of_getElem? (i := 185) rfl)) rfl
  | 13, _ => exact tt_in (List.mem_append_left _ (List.mem_of_getElem? (i := 187) rfl)) rfl
  | 14, _ => exact tt_in (List.mem_append_left _ (List.mem_of_getElem? (i := 189) rfl)) rfl
  | 15, _ => exact tt_in (List.mem_append_left _ (List.mem_of_getElem? (i := 191) rfl)) rfl
  | 16, _ => exact tt_in (List.mem_append_left _ (List.mem_of_getElem? (i := 193) rfl)) rfl
  | 17, _ => exact tt_in (List.mem_append_left _ (List.mem_of_getElem? (i := 195) rfl)) rfl
  | k + 18, hk => exact absurd hk (by omega)
theorem in_TankArena : ∀ w ∈ u_ws R_TankArena F_TankArena 7, w ∈ TT := by
  intro w hw
  obtain ⟨k, hk, rfl⟩ := List.mem_map.mp hw
  rw [List.mem_range] at hk
  match k, hk with
  | 0, _ => exact tt_in (List.mem_append_left _ (List.mem_of_getElem? (i := 232) rfl)) rfl
  | 1, _ => exact tt_in (List.mem_append_left _ (List.mem_of_getElem? (i := 234) rfl)) rfl
  | 2, _ => exact tt_in (List.mem_append_left _ (List.mem_of_getElem? (i := 236) rfl)) rfl
  | 3, _ => exact tt_in (List.mem_append_left _ (List.mem_of_getElem? (i := 238) rfl)) rfl
  | 4, _ => exact tt_in (List.mem_append_right _ (List.mem_append_left _ (List.mem_of_getElem? (i := 0) rfl))) rfl
  | 5, _ => exact tt_in (List.mem_append_right _ (List.mem_append_left _ (List.mem_of_getElem? (i := 2) rfl))) rfl
  | 6, _ => exact tt_in (List.mem_append_right _ (List.mem_append_left _ (List.mem_of_getElem? (i := 4) rfl))) rfl
  | k + 7, hk => exact absurd hk (by omega)
theorem in_Model : ∀ w ∈ u_ws R_Model F_Model 38, w ∈ TT := by
  intro w hw
  obtain ⟨k, hk, rfl⟩ := List.mem_map.mp hw
  rw [List.mem_range] at hk
  match k, hk with
  | 0, _ => exact tt_in (List.mem_append_right _ (List.mem_append_right _ (List.mem_append_left _ (List.mem_of_getElem? (i := 63) rfl)))) rfl
  | 1, _ => exact tt_in (List.mem_append_right _ (List.mem_append_right _ (List.mem_append_left _ (List.mem_of_getElem? (i := 65) rfl)))) rfl
  | 2, _ => exact tt_in (List.mem_append_right _ (List.mem_append_right _ (List.mem_append_left _ (List.mem_of_getElem? (i := 67) rfl)))) rfl
  | 3, _ => exact tt_in (List.mem_append_right _ (List.mem_append_right _ (List.mem_append_left _ (List.mem_of_getElem? (i := 69) rfl)))) rfl
  | 4, _ => exact tt_in (List.mem_append_right _ (List.mem_append_right _ (List.mem_append_left _ (List.mem_of_getElem? (i := 71) rfl)))) rfl
  | 5, _ => exact tt_in (List.mem_append_right _ (List.mem_append_right _ (List.mem_append_left _ (List.mem_of_getElem? (i := 73) rfl)))) rfl
  | 6, _ => exact tt_in (List.mem_append_right _ (List.mem_append_right _ (List.mem_append_left _ (List.mem_of_getElem? (i := 75) rfl)))) rfl
  | 7, _ => exact tt_in (List.mem_append_right _ (List.mem_append_right _ (List.mem_append_left _ (List.mem_of_getElem? (i := 77) rfl)))) rfl
  | 8, _ => exact tt_in (List.mem_append_right _ (List.mem_append_right _ (List.mem_append_left _ (List.mem_of_getElem? (i := 79) rfl)))) rfl
  | 9, _ => exact tt_in (List.mem_append_right _ (List.mem_append_right _ (List.mem_append_left _ (List.mem_of_getElem? (i := 81) rfl)))) rfl
  | 10, _ => exact tt_in (List.mem_append_right _ (List.mem_append_right _ (List.mem_append_left _ (List.mem_of_getElem? (i := 83) rfl)))) rfl
  | 11, _ => exact tt_in (List.mem_append_right _ (List.mem_append_right _ (List.mem_append_left _ (List.mem_of_getElem? (i := 85) rfl)))) rfl
  | 12, _ => exact tt_in (List.mem_append_right _ (List.mem_append_right _ (List.mem_append_left _ (List.mem_of_getElem? (i := 87) rfl)))) rfl
  | 13, _ => exact tt_in (List.mem_append_right _ (List.mem_append_right _ (List.mem_append_left _ (List.mem_of_getElem? (i := 89) rfl)))) rfl
  | 14, _ => exact tt_in (List.mem_append_right _ (List.mem_append_right _ (List.mem_append_left _ (List.mem_of_getElem? (i := 91) rfl)))) rfl
  | 15, _ => exact tt_in (List.mem_append_right _ (List.mem_append_right _ (List.mem_append_left _ (List.mem_of_getElem? (i := 93) rfl)))) rfl
  | 16, _ => exact tt_in (List.mem_append_right _ (List.mem_append_right _ (List.mem_append_left _ (List.mem_of_getElem? (i := 95) rfl)))) rfl
  | 17, _ => exact tt_in (List.mem_append_right _ (List.mem_append_right _ (List.mem_append_left _ (List.mem_of_getElem? (i := 97) rfl)))) rfl
  | 18, _ => exact tt_in (List.mem_append_right _ (List.mem_append_right _ (List.mem_append_left _ (List.mem_of_getElem? (i := 99) rfl)))) rfl
  | 19, _ => exact tt_in (List.mem_append_right _ (List.mem_append_right _ (List.mem_append_left _ (List.mem_of_getElem? (i := 101) rfl)))) rfl
  | 20, _ => exact tt_in (List.mem_append_right _ (List.mem_append_right _ (List.mem_append_left _ (List.mem_of_getElem? (i := 103) rfl)))) rfl
  | 21, _ => exact tt_in (List.mem_append_right _ (List.mem_append_right _ (List.mem_append_left _ (List.mem_of_getElem? (i := 105) rfl)))) rfl
  | 22, _ => exact tt_in (List.mem_append_right _ (List.mem_append_right _ (List.mem_append_left _ (List.mem_of_getElem? (i := 107) rfl)))) rfl
  | 23, _ => exact tt_in (List.mem_append_right _ (List.mem_append_right _ (List.mem_append_left _ (List.mem_of_getElem? (i := 109) rfl)))) rfl
  | 24, _ => exact tt_in (List.mem_append_right _ (List.mem_append_right _ (List.mem_append_left _ (List.mem_of_getElem? (i := 111) rfl)))) rfl
  | 25, _ => exact tt_in (List.mem_append_right _ (List.mem_append_right _ (List.mem_append_left _ (List.mem_of_getElem? (i := 113) rfl)))) rfl
  | 26, _ => exact tt_in (List.mem_append_right _ (List.mem_append_right _ (List.mem_append_left _ (List.mem_of_getElem? (i := 115) rfl)))) rfl
  | 27, _ => exact tt_in (List.mem_append_right _ (List.mem_append_right _ (List.mem_append_left _ (List.mem_of_getElem? (i := 117) rfl)))) rfl
  | 28, _ => exact tt_in (List.mem_append_right _ (List.mem_append_right _ (List.mem_append_left _ (List.mem_of_getElem? (i := 119) rfl)))) rfl
  | 29, _ => exact tt_in (List.mem_append_right _ (List.mem_append_right _ (List.mem_append_left _ (List.mem_of_getElem? (i := 121) rfl)))) rfl
  | 30, _ => exact tt_in (List.mem_append_right _ (List.mem_append_right _ (List.mem_append_left _ (List.mem_of_getElem? (i := 123) rfl)))) rfl
  | 31, _ => exact tt_in (List.mem_append_right _ (List.mem_append_right _ (List.mem_append_left _ (List.mem_of_getElem? (i := 125) rfl)))) rfl
  | 32, _ => exact tt_in (List.mem_append_right _ (List.mem_append_right _ (List.mem_append_left _ (List.mem_of_getElem? (i := 127) rfl)))) rfl
  | 33, _ => exact tt_in (List.mem_append_right _ (List.mem_append_right _ (List.mem_append_left _ (List.mem_of_getElem? (i := 129) rfl)))) rfl
  | 34, _ => exact tt_in (List.mem_append_right _ (List.mem_append_right _ (List.mem_append_left _ (List.mem_of_getElem? (i := 131) rfl)))) rfl
  | 35, _ => exact tt_in (List.mem_append_right _ (List.mem_append_right _ (List.mem_append_left _ (List.mem_of_getElem? (i := 133) rfl)))) rfl
  | 36, _ => exact tt_in (List.mem_append_right _ (List.mem_append_right _ (List.mem_append_left _ (List.mem_of_getElem? (i := 135) rfl)))) rfl
  | 37, _ => exact tt_in (List.mem_append_right _ (List.mem_append_right _ (List.mem_append_left _ (List.mem_of_getElem? (i := 137) rfl)))) rfl
  | k + 38, hk => exact absurd hk (by omega)
