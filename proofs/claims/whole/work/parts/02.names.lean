/-! names: the system K, its desks D, the reference M, the law L; Arrays A, Integer I -/
def R_K : String := "DeskTurns"
def R_D : String := "DeskTurns$Desk"
def R_M : String := "DeskTurnsModel"
def R_L : String := "DeskTurnsLaw"
def R_A : String := "java/util/Arrays"
def R_I : String := "java/lang/Integer"
def T_K : u_T := fun k => match k with
  | 0 => ("DeskTurns", "desks", "[LDeskTurns$Desk;", true)
  | 1 => ("DeskTurns", "deskCount", "I", false)
  | 2 => ("DeskTurns", "holders", "[I", true)
  | 3 => ("DeskTurns", "gotAt", "[I", true)
  | 4 => ("DeskTurns", "askings", "I", false)
  | 5 => ("DeskTurns", "turns", "[I", true)
  | 6 => ("DeskTurns", "turnsTold", "I", false)
  | 7 => ("DeskTurns", "turnsRun", "I", false)
  | 8 => ("DeskTurns", "turnsPassedOver", "I", false)
  | 9 => ("DeskTurns", "entries", "[I", true)
  | 10 => ("DeskTurns", "entryCount", "I", false)
  | 11 => ("DeskTurns", "time", "I", false)
  | _ => ("DeskTurns", "closed", "Z", false)
def ty_K : Nat → FieldType := fun k => match k with
  | 0 => .array (.object "DeskTurns$Desk")
  | 1 => .int
  | 2 => .array .int
  | 3 => .array .int
  | 4 => .int
  | 5 => .array .int
  | 6 => .int
  | 7 => .int
  | 8 => .int
  | 9 => .array .int
  | 10 => .int
  | 11 => .int
  | _ => .boolean
theorem nm_K : ∀ a, a < 13 → ∀ b, b < 13 → a ≠ b → (T_K a).2.1 ≠ (T_K b).2.1 := by decide +kernel
theorem ty_K_ok : ∀ k, k < 13 → parseFieldDescriptor (T_K k).2.2.1 = some (ty_K k) := by decide +kernel
theorem T_K1 : ∀ k, k < 13 → (T_K k).1 = R_K := by decide +kernel
def T_D : u_T := fun k => match k with
  | 0 => ("DeskTurns$Desk", "number", "I", true)
  | 1 => ("DeskTurns$Desk", "acts", "I", true)
  | 2 => ("DeskTurns$Desk", "needed", "[I", true)
  | 3 => ("DeskTurns$Desk", "failsAt", "I", false)
  | 4 => ("DeskTurns$Desk", "present", "I", false)
  | 5 => ("DeskTurns$Desk", "actsDone", "I", false)
  | 6 => ("DeskTurns$Desk", "waitsFor", "I", false)
  | 7 => ("DeskTurns$Desk", "askedAs", "I", false)
  | 8 => ("DeskTurns$Desk", "isDead", "Z", false)
  | _ => ("DeskTurns$Desk", "hasEnded", "Z", false)
def ty_D : Nat → FieldType := fun k => match k with
  | 0 => .int
  | 1 => .int
  | 2 => .array .int
  | 3 => .int
  | 4 => .int
  | 5 => .int
  | 6 => .int
  | 7 => .int
  | 8 => .boolean
  | _ => .boolean
theorem nm_D : ∀ a, a < 10 → ∀ b, b < 10 → a ≠ b → (T_D a).2.1 ≠ (T_D b).2.1 := by decide +kernel
theorem ty_D_ok : ∀ k, k < 10 → parseFieldDescriptor (T_D k).2.2.1 = some (ty_D k) := by decide +kernel
theorem T_D1 : ∀ k, k < 10 → (T_D k).1 = R_D := by decide +kernel
def T_M : u_T := fun k => match k with
  | 0 => ("DeskTurnsModel", "thrown", "I", false)
  | 1 => ("DeskTurnsModel", "desks", "I", false)
  | 2 => ("DeskTurnsModel", "acts", "[I", true)
  | 3 => ("DeskTurnsModel", "failing", "[I", true)
  | 4 => ("DeskTurnsModel", "present", "[I", true)
  | 5 => ("DeskTurnsModel", "done", "[I", true)
  | 6 => ("DeskTurnsModel", "state", "[I", true)
  | 7 => ("DeskTurnsModel", "needed", "[I", true)
  | 8 => ("DeskTurnsModel", "holder", "[I", true)
  | 9 => ("DeskTurnsModel", "got", "[I", true)
  | 10 => ("DeskTurnsModel", "waitsFor", "[I", true)
  | 11 => ("DeskTurnsModel", "askedAs", "[I", true)
  | 12 => ("DeskTurnsModel", "asks", "I", false)
  | 13 => ("DeskTurnsModel", "turns", "[I", true)
  | 14 => ("DeskTurnsModel", "told", "I", false)
  | 15 => ("DeskTurnsModel", "ran", "I", false)
  | 16 => ("DeskTurnsModel", "passed", "I", false)
  | 17 => ("DeskTurnsModel", "entries", "I", false)
  | 18 => ("DeskTurnsModel", "entry", "[I", true)
  | 19 => ("DeskTurnsModel", "time", "I", false)
  | _ => ("DeskTurnsModel", "closed", "Z", false)
def ty_M : Nat → FieldType := fun k => match k with
  | 0 => .int
  | 1 => .int
  | 2 => .array .int
  | 3 => .array .int
  | 4 => .array .int
  | 5 => .array .int
  | 6 => .array .int
  | 7 => .array .int
  | 8 => .array .int
  | 9 => .array .int
  | 10 => .array .int
  | 11 => .array .int
  | 12 => .int
  | 13 => .array .int
  | 14 => .int
  | 15 => .int
  | 16 => .int
  | 17 => .int
  | 18 => .array .int
  | 19 => .int
  | _ => .boolean
theorem nm_M : ∀ a, a < 21 → ∀ b, b < 21 → a ≠ b → (T_M a).2.1 ≠ (T_M b).2.1 := by decide +kernel
theorem ty_M_ok : ∀ k, k < 21 → parseFieldDescriptor (T_M k).2.2.1 = some (ty_M k) := by decide +kernel
theorem T_M1 : ∀ k, k < 21 → (T_M k).1 = R_M := by decide +kernel
theorem T_Kf (k : Nat) (hk : k = 1 ∨ k = 4 ∨ k = 6 ∨ k = 7 ∨ k = 8 ∨ k = 10 ∨ k = 11 ∨ k = 12) : (T_K k).2.2.2 = false := by rcases hk with rfl | rfl | rfl | rfl | rfl | rfl | rfl | rfl <;> rfl
theorem T_Df (k : Nat) (hk : k = 3 ∨ k = 4 ∨ k = 5 ∨ k = 6 ∨ k = 7 ∨ k = 8 ∨ k = 9) : (T_D k).2.2.2 = false := by rcases hk with rfl | rfl | rfl | rfl | rfl | rfl | rfl <;> rfl
theorem T_Mf (k : Nat) (hk : k = 0 ∨ k = 1 ∨ k = 12 ∨ k = 14 ∨ k = 15 ∨ k = 16 ∨ k = 17 ∨ k = 19 ∨ k = 20) : (T_M k).2.2.2 = false := by rcases hk with rfl | rfl | rfl | rfl | rfl | rfl | rfl | rfl | rfl <;> rfl
abbrev kcl : List vw_C := [(R_K, T_K, 13), (R_D, T_D, 10), (R_M, T_M, 21)]
abbrev kty (cI cQ : ClassId) : List (ClassId × FieldType) := [(cI, .int), (cQ, .object R_D)]
/-! the words: all good ones of the tables -/
def kT : List Cond := lw_tbl.filter goodWord
theorem kT_good : ∀ w ∈ kT, (w.onTables && w.keeps) = true ∨ ∃ ty, w = .arrayClass ty := fun w h => good_of_word (List.mem_filter.mp h).2
theorem kT_tbl : ∀ w ∈ kT, w ∈ lw_tbl := fun w h => (List.mem_filter.mp h).1
theorem mk_T {w : Cond} (i : Nat) (h : tables_1[i]? = some w) (g : goodWord w = true) : w ∈ kT := List.mem_filter.mpr ⟨List.mem_append_right _ (List.mem_of_getElem? h), g⟩
theorem mk_S {w : Cond} (i : Nat) (h : (k2_sels lw_privs)[i]? = some w) (g : goodWord w = true) : w ∈ kT := List.mem_filter.mpr ⟨List.mem_append_left _ (List.mem_of_getElem? h), g⟩
theorem in_K : ∀ w ∈ u_ws R_K T_K 13, w ∈ kT := by decide +kernel
theorem in_D : ∀ w ∈ u_ws R_D T_D 10, w ∈ kT := by decide +kernel
theorem in_M : ∀ w ∈ u_ws R_M T_M 21, w ∈ kT := by decide +kernel
abbrev b_K_init : ByteArray := prog_1_method_1_code
def y_K_init : MethodName := ⟨R_K, "<init>", "()V"⟩
abbrev w_K_init : List Cond := Cond.code y_K_init b_K_init 1 none :: kT
theorem cd_K_init : Cond.code y_K_init b_K_init 1 none ∈ kT := mk_T 16 rfl rfl
abbrev b_A_fill : ByteArray := prog_13_method_103_code
def y_A_fill : MethodName := ⟨R_A, "fill", "([II)V"⟩
abbrev w_A_fill : List Cond := Cond.code y_A_fill b_A_fill 4 none :: kT
theorem cd_A_fill : Cond.code y_A_fill b_A_fill 4 none ∈ kT := mk_T 24 rfl rfl
abbrev b_K_needs : ByteArray := prog_1_method_3_code
def y_K_needs : MethodName := ⟨R_K, "needs", "(III)Z"⟩
abbrev w_K_needs : List Cond := Cond.code y_K_needs b_K_needs 5 (some .boolean) :: kT
theorem cd_K_needs : Cond.code y_K_needs b_K_needs 5 (some .boolean) ∈ kT := mk_T 69 rfl rfl
abbrev b_K_deskAt : ByteArray := prog_1_method_15_code
def y_K_deskAt : MethodName := ⟨R_K, "deskAt", "(I)LDeskTurns$Desk;"⟩
abbrev w_K_deskAt : List Cond := Cond.code y_K_deskAt b_K_deskAt 2 (some (.object "DeskTurns$Desk")) :: kT
theorem cd_K_deskAt : Cond.code y_K_deskAt b_K_deskAt 2 (some (.object "DeskTurns$Desk")) ∈ kT := mk_T 73 rfl rfl
abbrev b_K_isSubject : ByteArray := prog_1_method_16_code
def y_K_isSubject : MethodName := ⟨R_K, "isSubject", "(I)Z"⟩
abbrev w_K_isSubject : List Cond := Cond.code y_K_isSubject b_K_isSubject 1 (some .boolean) :: kT
theorem cd_K_isSubject : Cond.code y_K_isSubject b_K_isSubject 1 (some .boolean) ∈ kT := mk_T 76 rfl rfl
abbrev b_D_isAhead : ByteArray := prog_2_method_3_code
def y_D_isAhead : MethodName := ⟨R_D, "isAhead", "(I)Z"⟩
abbrev w_D_isAhead : List Cond := Cond.code y_D_isAhead b_D_isAhead 2 (some .boolean) :: kT
theorem cd_D_isAhead : Cond.code y_D_isAhead b_D_isAhead 2 (some .boolean) ∈ kT := mk_T 80 rfl rfl
abbrev b_D_hasNeed : ByteArray := prog_2_method_4_code
def y_D_hasNeed : MethodName := ⟨R_D, "hasNeed", "(II)Z"⟩
abbrev w_D_hasNeed : List Cond := Cond.code y_D_hasNeed b_D_hasNeed 3 (some .boolean) :: kT
theorem cd_D_hasNeed : Cond.code y_D_hasNeed b_D_hasNeed 3 (some .boolean) ∈ kT := mk_T 84 rfl rfl
abbrev b_K_isInTheMidst : ByteArray := prog_1_method_18_code
def y_K_isInTheMidst : MethodName := ⟨R_K, "isInTheMidst", "(LDeskTurns$Desk;)Z"⟩
abbrev w_K_isInTheMidst : List Cond := Cond.code y_K_isInTheMidst b_K_isInTheMidst 2 (some .boolean) :: kT
theorem cd_K_isInTheMidst : Cond.code y_K_isInTheMidst b_K_isInTheMidst 2 (some .boolean) ∈ kT := mk_T 88 rfl rfl
abbrev b_K_heldBy : ByteArray := prog_1_method_19_code
def y_K_heldBy : MethodName := ⟨R_K, "heldBy", "(LDeskTurns$Desk;)I"⟩
abbrev w_K_heldBy : List Cond := Cond.code y_K_heldBy b_K_heldBy 4 (some .int) :: kT
theorem cd_K_heldBy : Cond.code y_K_heldBy b_K_heldBy 4 (some .int) ∈ kT := mk_T 92 rfl rfl
abbrev b_D_addNeed : ByteArray := prog_2_method_5_code
def y_D_addNeed : MethodName := ⟨R_D, "addNeed", "(II)V"⟩
abbrev w_D_addNeed : List Cond := Cond.code y_D_addNeed b_D_addNeed 3 none :: kT
theorem cd_D_addNeed : Cond.code y_D_addNeed b_D_addNeed 3 none ∈ kT := mk_T 96 rfl rfl
abbrev b_K_log : ByteArray := prog_1_method_6_code
def y_K_log : MethodName := ⟨R_K, "log", "(I)I"⟩
abbrev w_K_log : List Cond := Cond.code y_K_log b_K_log 2 (some .int) :: kT
theorem cd_K_log : Cond.code y_K_log b_K_log 2 (some .int) ∈ kT := mk_T 100 rfl rfl
abbrev b_K_interrupt : ByteArray := prog_1_method_9_code
def y_K_interrupt : MethodName := ⟨R_K, "interrupt", "(I)Z"⟩
abbrev w_K_interrupt : List Cond := Cond.code y_K_interrupt b_K_interrupt 3 (some .boolean) :: kT
theorem cd_K_interrupt : Cond.code y_K_interrupt b_K_interrupt 3 (some .boolean) ∈ kT := mk_T 104 rfl rfl
abbrev b_K_giveBackAll : ByteArray := prog_1_method_26_code
def y_K_giveBackAll : MethodName := ⟨R_K, "giveBackAll", "(LDeskTurns$Desk;)V"⟩
abbrev w_K_giveBackAll : List Cond := Cond.code y_K_giveBackAll b_K_giveBackAll 3 none :: kT
theorem cd_K_giveBackAll : Cond.code y_K_giveBackAll b_K_giveBackAll 3 none ∈ kT := mk_T 108 rfl rfl
abbrev b_K_giveBack : ByteArray := prog_1_method_27_code
def y_K_giveBack : MethodName := ⟨R_K, "giveBack", "(I)V"⟩
abbrev w_K_giveBack : List Cond := Cond.code y_K_giveBack b_K_giveBack 3 none :: kT
theorem cd_K_giveBack : Cond.code y_K_giveBack b_K_giveBack 3 none ∈ kT := mk_T 112 rfl rfl
abbrev b_K_waiterFor : ByteArray := prog_1_method_28_code
def y_K_waiterFor : MethodName := ⟨R_K, "waiterFor", "(II)LDeskTurns$Desk;"⟩
abbrev w_K_waiterFor : List Cond := Cond.code y_K_waiterFor b_K_waiterFor 5 (some (.object "DeskTurns$Desk")) :: kT
theorem cd_K_waiterFor : Cond.code y_K_waiterFor b_K_waiterFor 5 (some (.object "DeskTurns$Desk")) ∈ kT := mk_T 116 rfl rfl
abbrev b_K_waitersAheadOf : ByteArray := prog_1_method_29_code
def y_K_waitersAheadOf : MethodName := ⟨R_K, "waitersAheadOf", "(LDeskTurns$Desk;)I"⟩
abbrev w_K_waitersAheadOf : List Cond := Cond.code y_K_waitersAheadOf b_K_waitersAheadOf 5 (some .int) :: kT
theorem cd_K_waitersAheadOf : Cond.code y_K_waitersAheadOf b_K_waitersAheadOf 5 (some .int) ∈ kT := mk_T 120 rfl rfl
abbrev b_K_take : ByteArray := prog_1_method_24_code
def y_K_take : MethodName := ⟨R_K, "take", "(LDeskTurns$Desk;I)V"⟩
abbrev w_K_take : List Cond := Cond.code y_K_take b_K_take 3 none :: kT
theorem cd_K_take : Cond.code y_K_take b_K_take 3 none ∈ kT := mk_T 124 rfl rfl
abbrev b_K_tell : ByteArray := prog_1_method_32_code
def y_K_tell : MethodName := ⟨R_K, "tell", "(ILDeskTurns$Desk;)V"⟩
abbrev w_K_tell : List Cond := Cond.code y_K_tell b_K_tell 3 none :: kT
theorem cd_K_tell : Cond.code y_K_tell b_K_tell 3 none ∈ kT := mk_T 128 rfl rfl
abbrev b_K_close : ByteArray := prog_1_method_12_code
def y_K_close : MethodName := ⟨R_K, "close", "()I"⟩
abbrev w_K_close : List Cond := Cond.code y_K_close b_K_close 4 (some .int) :: kT
theorem cd_K_close : Cond.code y_K_close b_K_close 4 (some .int) ∈ kT := mk_T 132 rfl rfl
abbrev b_D_condition : ByteArray := prog_2_method_2_code
def y_D_condition : MethodName := ⟨R_D, "condition", "()I"⟩
abbrev w_D_condition : List Cond := Cond.code y_D_condition b_D_condition 1 (some .int) :: kT
theorem cd_D_condition : Cond.code y_D_condition b_D_condition 1 (some .int) ∈ kT := mk_T 136 rfl rfl
abbrev b_K_end : ByteArray := prog_1_method_31_code
def y_K_end : MethodName := ⟨R_K, "end", "(LDeskTurns$Desk;)V"⟩
abbrev w_K_end : List Cond := Cond.code y_K_end b_K_end 3 none :: kT
theorem cd_K_end : Cond.code y_K_end b_K_end 3 none ∈ kT := mk_T 140 rfl rfl
abbrev b_K_count : ByteArray := prog_1_method_14_code
def y_K_count : MethodName := ⟨R_K, "count", "(I)I"⟩
abbrev w_K_count : List Cond := Cond.code y_K_count b_K_count 2 (some .int) :: kT
theorem cd_K_count : Cond.code y_K_count b_K_count 2 (some .int) ∈ kT := mk_T 144 rfl rfl
abbrev b_K_subjectsHeld : ByteArray := prog_1_method_20_code
def y_K_subjectsHeld : MethodName := ⟨R_K, "subjectsHeld", "()I"⟩
abbrev w_K_subjectsHeld : List Cond := Cond.code y_K_subjectsHeld b_K_subjectsHeld 3 (some .int) :: kT
theorem cd_K_subjectsHeld : Cond.code y_K_subjectsHeld b_K_subjectsHeld 3 (some .int) ∈ kT := mk_T 148 rfl rfl
abbrev b_L_desk : ByteArray := method_3_code
def y_L_desk : MethodName := ⟨R_L, "desk", "(LDeskTurns;II[J)I"⟩
abbrev h_L_desk : List (Nat × Nat × Nat × Nat) := [((0), (10), (13), (13)), ((0), (10), (17), (15))]
abbrev w_L_desk : List Cond := Cond.codeWith y_L_desk b_L_desk 5 (some .int) h_L_desk :: kT
theorem cd_L_desk : Cond.codeWith y_L_desk b_L_desk 5 (some .int) h_L_desk ∈ kT := mk_T 151 rfl rfl
abbrev b_K_desk : ByteArray := prog_1_method_2_code
def y_K_desk : MethodName := ⟨R_K, "desk", "(II)I"⟩
abbrev w_K_desk : List Cond := Cond.code y_K_desk b_K_desk 4 (some .int) :: kT
theorem cd_K_desk : Cond.code y_K_desk b_K_desk 4 (some .int) ∈ kT := mk_T 157 rfl rfl
abbrev b_D_init : ByteArray := prog_2_method_1_code
def y_D_init : MethodName := ⟨R_D, "<init>", "(III)V"⟩
abbrev w_D_init : List Cond := Cond.code y_D_init b_D_init 4 none :: kT
theorem cd_D_init : Cond.code y_D_init b_D_init 4 none ∈ kT := mk_T 246 rfl rfl
abbrev b_L_turn : ByteArray := method_4_code
def y_L_turn : MethodName := ⟨R_L, "turn", "(LDeskTurns;I[J)I"⟩
abbrev h_L_turn : List (Nat × Nat × Nat × Nat) := [((0), (9), (12), (13)), ((0), (9), (15), (15))]
abbrev w_L_turn : List Cond := Cond.codeWith y_L_turn b_L_turn 4 (some .int) h_L_turn :: kT
theorem cd_L_turn : Cond.codeWith y_L_turn b_L_turn 4 (some .int) h_L_turn ∈ kT := mk_T 289 rfl rfl
abbrev b_K_turn : ByteArray := prog_1_method_4_code
def y_K_turn : MethodName := ⟨R_K, "turn", "(I)I"⟩
abbrev w_K_turn : List Cond := Cond.code y_K_turn b_K_turn 2 (some .int) :: kT
theorem cd_K_turn : Cond.code y_K_turn b_K_turn 2 (some .int) ∈ kT := mk_T 293 rfl rfl
abbrev b_L_run : ByteArray := method_5_code
def y_L_run : MethodName := ⟨R_L, "run", "(LDeskTurns;[J)I"⟩
abbrev h_L_run : List (Nat × Nat × Nat × Nat) := [((0), (8), (11), (15))]
abbrev w_L_run : List Cond := Cond.codeWith y_L_run b_L_run 3 (some .int) h_L_run :: kT
theorem cd_L_run : Cond.codeWith y_L_run b_L_run 3 (some .int) h_L_run ∈ kT := mk_T 298 rfl rfl
abbrev b_K_run : ByteArray := prog_1_method_5_code
def y_K_run : MethodName := ⟨R_K, "run", "()I"⟩
abbrev w_K_run : List Cond := Cond.code y_K_run b_K_run 4 (some .int) :: kT
set_option maxRecDepth 20000 in
theorem cd_K_run : Cond.code y_K_run b_K_run 4 (some .int) ∈ kT := mk_T 302 rfl rfl
abbrev b_K_takeTurn : ByteArray := prog_1_method_21_code
def y_K_takeTurn : MethodName := ⟨R_K, "takeTurn", "(LDeskTurns$Desk;)Z"⟩
abbrev w_K_takeTurn : List Cond := Cond.code y_K_takeTurn b_K_takeTurn 3 (some .boolean) :: kT
set_option maxRecDepth 20000 in
theorem cd_K_takeTurn : Cond.code y_K_takeTurn b_K_takeTurn 3 (some .boolean) ∈ kT := mk_T 307 rfl rfl
abbrev b_K_leastLacking : ByteArray := prog_1_method_22_code
def y_K_leastLacking : MethodName := ⟨R_K, "leastLacking", "(LDeskTurns$Desk;)I"⟩
abbrev w_K_leastLacking : List Cond := Cond.code y_K_leastLacking b_K_leastLacking 3 (some .int) :: kT
set_option maxRecDepth 20000 in
theorem cd_K_leastLacking : Cond.code y_K_leastLacking b_K_leastLacking 3 (some .int) ∈ kT := mk_T 311 rfl rfl
abbrev b_K_ask : ByteArray := prog_1_method_23_code
def y_K_ask : MethodName := ⟨R_K, "ask", "(LDeskTurns$Desk;I)V"⟩
abbrev w_K_ask : List Cond := Cond.code y_K_ask b_K_ask 3 none :: kT
set_option maxRecDepth 20000 in
theorem cd_K_ask : Cond.code y_K_ask b_K_ask 3 none ∈ kT := mk_T 315 rfl rfl
abbrev b_K_doOrUndo : ByteArray := prog_1_method_25_code
def y_K_doOrUndo : MethodName := ⟨R_K, "doOrUndo", "(LDeskTurns$Desk;)Z"⟩
abbrev w_K_doOrUndo : List Cond := Cond.code y_K_doOrUndo b_K_doOrUndo 3 (some .boolean) :: kT
set_option maxRecDepth 20000 in
theorem cd_K_doOrUndo : Cond.code y_K_doOrUndo b_K_doOrUndo 3 (some .boolean) ∈ kT := mk_T 319 rfl rfl
abbrev b_L_holder : ByteArray := method_6_code
def y_L_holder : MethodName := ⟨R_L, "holder", "(LDeskTurns;I[J)I"⟩
abbrev h_L_holder : List (Nat × Nat × Nat × Nat) := [((0), (9), (12), (13))]
abbrev w_L_holder : List Cond := Cond.codeWith y_L_holder b_L_holder 4 (some .int) h_L_holder :: kT
set_option maxRecDepth 20000 in
theorem cd_L_holder : Cond.codeWith y_L_holder b_L_holder 4 (some .int) h_L_holder ∈ kT := mk_T 322 rfl rfl
abbrev b_K_holder : ByteArray := prog_1_method_7_code
def y_K_holder : MethodName := ⟨R_K, "holder", "(I)I"⟩
abbrev w_K_holder : List Cond := Cond.code y_K_holder b_K_holder 2 (some .int) :: kT
set_option maxRecDepth 20000 in
theorem cd_K_holder : Cond.code y_K_holder b_K_holder 2 (some .int) ∈ kT := mk_T 326 rfl rfl
abbrev b_L_waits : ByteArray := method_7_code
def y_L_waits : MethodName := ⟨R_L, "waits", "(LDeskTurns;II[J)I"⟩
abbrev h_L_waits : List (Nat × Nat × Nat × Nat) := [((0), (10), (13), (13))]
abbrev w_L_waits : List Cond := Cond.codeWith y_L_waits b_L_waits 5 (some .int) h_L_waits :: kT
set_option maxRecDepth 20000 in
theorem cd_L_waits : Cond.codeWith y_L_waits b_L_waits 5 (some .int) h_L_waits ∈ kT := mk_T 330 rfl rfl
abbrev b_K_waits : ByteArray := prog_1_method_8_code
def y_K_waits : MethodName := ⟨R_K, "waits", "(II)I"⟩
abbrev w_K_waits : List Cond := Cond.code y_K_waits b_K_waits 4 (some .int) :: kT
set_option maxRecDepth 20000 in
theorem cd_K_waits : Cond.code y_K_waits b_K_waits 4 (some .int) ∈ kT := mk_T 334 rfl rfl
abbrev b_L_dead : ByteArray := method_8_code
def y_L_dead : MethodName := ⟨R_L, "dead", "(LDeskTurns;I[J)I"⟩
abbrev h_L_dead : List (Nat × Nat × Nat × Nat) := [((0), (9), (12), (13))]
abbrev w_L_dead : List Cond := Cond.codeWith y_L_dead b_L_dead 4 (some .int) h_L_dead :: kT
set_option maxRecDepth 20000 in
theorem cd_L_dead : Cond.codeWith y_L_dead b_L_dead 4 (some .int) h_L_dead ∈ kT := mk_T 337 rfl rfl
abbrev b_K_dead : ByteArray := prog_1_method_10_code
def y_K_dead : MethodName := ⟨R_K, "dead", "(I)I"⟩
abbrev w_K_dead : List Cond := Cond.code y_K_dead b_K_dead 3 (some .int) :: kT
set_option maxRecDepth 20000 in
theorem cd_K_dead : Cond.code y_K_dead b_K_dead 3 (some .int) ∈ kT := mk_T 341 rfl rfl
abbrev b_K_isAlive : ByteArray := prog_1_method_17_code
def y_K_isAlive : MethodName := ⟨R_K, "isAlive", "(LDeskTurns$Desk;)Z"⟩
abbrev w_K_isAlive : List Cond := Cond.code y_K_isAlive b_K_isAlive 2 (some .boolean) :: kT
set_option maxRecDepth 20000 in
theorem cd_K_isAlive : Cond.code y_K_isAlive b_K_isAlive 2 (some .boolean) ∈ kT := mk_T 344 rfl rfl
abbrev b_I_bitCount : ByteArray := prog_9_method_49_code
def y_I_bitCount : MethodName := ⟨R_I, "bitCount", "(I)I"⟩
abbrev w_I_bitCount : List Cond := Cond.code y_I_bitCount b_I_bitCount 1 (some .int) :: kT
set_option maxRecDepth 20000 in
theorem cd_I_bitCount : Cond.code y_I_bitCount b_I_bitCount 1 (some .int) ∈ kT := mk_T 347 rfl rfl
abbrev b_L_tick : ByteArray := method_9_code
def y_L_tick : MethodName := ⟨R_L, "tick", "(LDeskTurns;I[J)I"⟩
abbrev h_L_tick : List (Nat × Nat × Nat × Nat) := [((0), (9), (12), (13))]
abbrev w_L_tick : List Cond := Cond.codeWith y_L_tick b_L_tick 4 (some .int) h_L_tick :: kT
set_option maxRecDepth 20000 in
theorem cd_L_tick : Cond.codeWith y_L_tick b_L_tick 4 (some .int) h_L_tick ∈ kT := mk_T 353 rfl rfl
abbrev b_K_tick : ByteArray := prog_1_method_11_code
def y_K_tick : MethodName := ⟨R_K, "tick", "(I)I"⟩
abbrev w_K_tick : List Cond := Cond.code y_K_tick b_K_tick 4 (some .int) :: kT
set_option maxRecDepth 20000 in
theorem cd_K_tick : Cond.code y_K_tick b_K_tick 4 (some .int) ∈ kT := mk_T 357 rfl rfl
abbrev b_K_isOverdue : ByteArray := prog_1_method_30_code
def y_K_isOverdue : MethodName := ⟨R_K, "isOverdue", "(I)Z"⟩
abbrev w_K_isOverdue : List Cond := Cond.code y_K_isOverdue b_K_isOverdue 3 (some .boolean) :: kT
set_option maxRecDepth 20000 in
theorem cd_K_isOverdue : Cond.code y_K_isOverdue b_K_isOverdue 3 (some .boolean) ∈ kT := mk_T 363 rfl rfl
abbrev b_L_look : ByteArray := method_10_code
def y_L_look : MethodName := ⟨R_L, "look", "(LDeskTurns;II[J)I"⟩
abbrev h_L_look : List (Nat × Nat × Nat × Nat) := [((0), (10), (13), (40))]
abbrev w_L_look : List Cond := Cond.codeWith y_L_look b_L_look 5 (some .int) h_L_look :: kT
set_option maxRecDepth 20000 in
theorem cd_L_look : Cond.codeWith y_L_look b_L_look 5 (some .int) h_L_look ∈ kT := mk_T 366 rfl rfl
abbrev b_K_look : ByteArray := prog_1_method_13_code
def y_K_look : MethodName := ⟨R_K, "look", "(II)I"⟩
abbrev w_K_look : List Cond := Cond.code y_K_look b_K_look 4 (some .int) :: kT
set_option maxRecDepth 20000 in
theorem cd_K_look : Cond.code y_K_look b_K_look 4 (some .int) ∈ kT := mk_T 371 rfl rfl
abbrev b_M_init : ByteArray := prog_4_method_1_code
def y_M_init : MethodName := ⟨R_M, "<init>", "()V"⟩
abbrev w_M_init : List Cond := Cond.code y_M_init b_M_init 2 none :: kT
set_option maxRecDepth 20000 in
theorem cd_M_init : Cond.code y_M_init b_M_init 2 none ∈ kT := mk_T 392 rfl rfl
abbrev b_M_thrown : ByteArray := prog_4_method_2_code
def y_M_thrown : MethodName := ⟨R_M, "thrown", "()I"⟩
abbrev w_M_thrown : List Cond := Cond.code y_M_thrown b_M_thrown 1 (some .int) :: kT
set_option maxRecDepth 20000 in
theorem cd_M_thrown : Cond.code y_M_thrown b_M_thrown 1 (some .int) ∈ kT := mk_T 461 rfl rfl
abbrev b_M_desk : ByteArray := prog_4_method_7_code
def y_M_desk : MethodName := ⟨R_M, "desk", "(II)I"⟩
abbrev w_M_desk : List Cond := Cond.code y_M_desk b_M_desk 3 (some .int) :: kT
set_option maxRecDepth 20000 in
theorem cd_M_desk : Cond.code y_M_desk b_M_desk 3 (some .int) ∈ kT := mk_T 465 rfl rfl
abbrev b_M_in : ByteArray := prog_4_method_4_code
def y_M_in : MethodName := ⟨R_M, "in", "(III)Z"⟩
abbrev w_M_in : List Cond := Cond.code y_M_in b_M_in 3 (some .boolean) :: kT
set_option maxRecDepth 20000 in
theorem cd_M_in : Cond.code y_M_in b_M_in 3 (some .boolean) ∈ kT := mk_T 468 rfl rfl
abbrev b_M_refuse : ByteArray := prog_4_method_3_code
def y_M_refuse : MethodName := ⟨R_M, "refuse", "(I)I"⟩
abbrev w_M_refuse : List Cond := Cond.code y_M_refuse b_M_refuse 2 (some .int) :: kT
set_option maxRecDepth 20000 in
theorem cd_M_refuse : Cond.code y_M_refuse b_M_refuse 2 (some .int) ∈ kT := mk_T 472 rfl rfl
abbrev b_M_needs : ByteArray := prog_4_method_11_code
def y_M_needs : MethodName := ⟨R_M, "needs", "(III)Z"⟩
abbrev w_M_needs : List Cond := Cond.code y_M_needs b_M_needs 5 (some .boolean) :: kT
set_option maxRecDepth 20000 in
theorem cd_M_needs : Cond.code y_M_needs b_M_needs 5 (some .boolean) ∈ kT := mk_T 476 rfl rfl
abbrev b_M_isDesk : ByteArray := prog_4_method_5_code
def y_M_isDesk : MethodName := ⟨R_M, "isDesk", "(I)Z"⟩
abbrev w_M_isDesk : List Cond := Cond.code y_M_isDesk b_M_isDesk 2 (some .boolean) :: kT
set_option maxRecDepth 20000 in
theorem cd_M_isDesk : Cond.code y_M_isDesk b_M_isDesk 2 (some .boolean) ∈ kT := mk_T 480 rfl rfl
abbrev b_M_isSubject : ByteArray := prog_4_method_6_code
def y_M_isSubject : MethodName := ⟨R_M, "isSubject", "(I)Z"⟩
abbrev w_M_isSubject : List Cond := Cond.code y_M_isSubject b_M_isSubject 1 (some .boolean) :: kT
set_option maxRecDepth 20000 in
theorem cd_M_isSubject : Cond.code y_M_isSubject b_M_isSubject 1 (some .boolean) ∈ kT := mk_T 483 rfl rfl
abbrev b_M_isMidst : ByteArray := prog_4_method_10_code
def y_M_isMidst : MethodName := ⟨R_M, "isMidst", "(I)Z"⟩
abbrev w_M_isMidst : List Cond := Cond.code y_M_isMidst b_M_isMidst 2 (some .boolean) :: kT
set_option maxRecDepth 20000 in
theorem cd_M_isMidst : Cond.code y_M_isMidst b_M_isMidst 2 (some .boolean) ∈ kT := mk_T 487 rfl rfl
abbrev b_M_held : ByteArray := prog_4_method_8_code
def y_M_held : MethodName := ⟨R_M, "held", "(I)I"⟩
abbrev w_M_held : List Cond := Cond.code y_M_held b_M_held 4 (some .int) :: kT
set_option maxRecDepth 20000 in
theorem cd_M_held : Cond.code y_M_held b_M_held 4 (some .int) ∈ kT := mk_T 491 rfl rfl
abbrev b_M_turn : ByteArray := prog_4_method_18_code
def y_M_turn : MethodName := ⟨R_M, "turn", "(I)I"⟩
abbrev w_M_turn : List Cond := Cond.code y_M_turn b_M_turn 2 (some .int) :: kT
set_option maxRecDepth 20000 in
theorem cd_M_turn : Cond.code y_M_turn b_M_turn 2 (some .int) ∈ kT := mk_T 495 rfl rfl
abbrev b_M_run : ByteArray := prog_4_method_19_code
def y_M_run : MethodName := ⟨R_M, "run", "()I"⟩
abbrev w_M_run : List Cond := Cond.code y_M_run b_M_run 3 (some .int) :: kT
set_option maxRecDepth 20000 in
theorem cd_M_run : Cond.code y_M_run b_M_run 3 (some .int) ∈ kT := mk_T 499 rfl rfl
abbrev b_M_steps : ByteArray := prog_4_method_17_code
def y_M_steps : MethodName := ⟨R_M, "steps", "(I)Z"⟩
abbrev w_M_steps : List Cond := Cond.code y_M_steps b_M_steps 4 (some .boolean) :: kT
set_option maxRecDepth 20000 in
theorem cd_M_steps : Cond.code y_M_steps b_M_steps 4 (some .boolean) ∈ kT := mk_T 503 rfl rfl
abbrev b_M_write : ByteArray := prog_4_method_12_code
def y_M_write : MethodName := ⟨R_M, "write", "(II)V"⟩
abbrev w_M_write : List Cond := Cond.code y_M_write b_M_write 3 none :: kT
set_option maxRecDepth 20000 in
theorem cd_M_write : Cond.code y_M_write b_M_write 3 none ∈ kT := mk_T 507 rfl rfl
abbrev b_M_giveAll : ByteArray := prog_4_method_15_code
def y_M_giveAll : MethodName := ⟨R_M, "giveAll", "(I)V"⟩
abbrev w_M_giveAll : List Cond := Cond.code y_M_giveAll b_M_giveAll 4 none :: kT
set_option maxRecDepth 20000 in
theorem cd_M_giveAll : Cond.code y_M_giveAll b_M_giveAll 4 none ∈ kT := mk_T 511 rfl rfl
abbrev b_M_giveBack : ByteArray := prog_4_method_14_code
def y_M_giveBack : MethodName := ⟨R_M, "giveBack", "(I)V"⟩
abbrev w_M_giveBack : List Cond := Cond.code y_M_giveBack b_M_giveBack 3 none :: kT
set_option maxRecDepth 20000 in
theorem cd_M_giveBack : Cond.code y_M_giveBack b_M_giveBack 3 none ∈ kT := mk_T 515 rfl rfl
abbrev b_M_first : ByteArray := prog_4_method_13_code
def y_M_first : MethodName := ⟨R_M, "first", "(I)I"⟩
abbrev w_M_first : List Cond := Cond.code y_M_first b_M_first 4 (some .int) :: kT
set_option maxRecDepth 20000 in
theorem cd_M_first : Cond.code y_M_first b_M_first 4 (some .int) ∈ kT := mk_T 519 rfl rfl
abbrev b_M_goesOn : ByteArray := prog_4_method_16_code
def y_M_goesOn : MethodName := ⟨R_M, "goesOn", "(I)V"⟩
abbrev w_M_goesOn : List Cond := Cond.code y_M_goesOn b_M_goesOn 2 none :: kT
set_option maxRecDepth 20000 in
theorem cd_M_goesOn : Cond.code y_M_goesOn b_M_goesOn 2 none ∈ kT := mk_T 523 rfl rfl
abbrev b_M_log : ByteArray := prog_4_method_20_code
def y_M_log : MethodName := ⟨R_M, "log", "(I)I"⟩
abbrev w_M_log : List Cond := Cond.code y_M_log b_M_log 2 (some .int) :: kT
set_option maxRecDepth 20000 in
theorem cd_M_log : Cond.code y_M_log b_M_log 2 (some .int) ∈ kT := mk_T 527 rfl rfl
abbrev b_M_holder : ByteArray := prog_4_method_21_code
def y_M_holder : MethodName := ⟨R_M, "holder", "(I)I"⟩
abbrev w_M_holder : List Cond := Cond.code y_M_holder b_M_holder 2 (some .int) :: kT
set_option maxRecDepth 20000 in
theorem cd_M_holder : Cond.code y_M_holder b_M_holder 2 (some .int) ∈ kT := mk_T 531 rfl rfl
abbrev b_M_waits : ByteArray := prog_4_method_22_code
def y_M_waits : MethodName := ⟨R_M, "waits", "(II)I"⟩
abbrev w_M_waits : List Cond := Cond.code y_M_waits b_M_waits 6 (some .int) :: kT
set_option maxRecDepth 20000 in
theorem cd_M_waits : Cond.code y_M_waits b_M_waits 6 (some .int) ∈ kT := mk_T 535 rfl rfl
abbrev b_M_interrupt : ByteArray := prog_4_method_23_code
def y_M_interrupt : MethodName := ⟨R_M, "interrupt", "(I)Z"⟩
abbrev w_M_interrupt : List Cond := Cond.code y_M_interrupt b_M_interrupt 2 (some .boolean) :: kT
set_option maxRecDepth 20000 in
theorem cd_M_interrupt : Cond.code y_M_interrupt b_M_interrupt 2 (some .boolean) ∈ kT := mk_T 539 rfl rfl
abbrev b_M_dead : ByteArray := prog_4_method_24_code
def y_M_dead : MethodName := ⟨R_M, "dead", "(I)I"⟩
abbrev w_M_dead : List Cond := Cond.code y_M_dead b_M_dead 2 (some .int) :: kT
set_option maxRecDepth 20000 in
theorem cd_M_dead : Cond.code y_M_dead b_M_dead 2 (some .int) ∈ kT := mk_T 543 rfl rfl
abbrev b_M_ones : ByteArray := prog_4_method_9_code
def y_M_ones : MethodName := ⟨R_M, "ones", "(I)I"⟩
abbrev w_M_ones : List Cond := Cond.code y_M_ones b_M_ones 3 (some .int) :: kT
set_option maxRecDepth 20000 in
theorem cd_M_ones : Cond.code y_M_ones b_M_ones 3 (some .int) ∈ kT := mk_T 546 rfl rfl
abbrev b_M_tick : ByteArray := prog_4_method_25_code
def y_M_tick : MethodName := ⟨R_M, "tick", "(I)I"⟩
abbrev w_M_tick : List Cond := Cond.code y_M_tick b_M_tick 5 (some .int) :: kT
set_option maxRecDepth 20000 in
theorem cd_M_tick : Cond.code y_M_tick b_M_tick 5 (some .int) ∈ kT := mk_T 550 rfl rfl
abbrev b_M_close : ByteArray := prog_4_method_26_code
def y_M_close : MethodName := ⟨R_M, "close", "()I"⟩
abbrev w_M_close : List Cond := Cond.code y_M_close b_M_close 3 (some .int) :: kT
set_option maxRecDepth 20000 in
theorem cd_M_close : Cond.code y_M_close b_M_close 3 (some .int) ∈ kT := mk_T 555 rfl rfl
abbrev b_M_look : ByteArray := prog_4_method_27_code
def y_M_look : MethodName := ⟨R_M, "look", "(II)I"⟩
abbrev w_M_look : List Cond := Cond.code y_M_look b_M_look 3 (some .int) :: kT
set_option maxRecDepth 20000 in
theorem cd_M_look : Cond.code y_M_look b_M_look 3 (some .int) ∈ kT := mk_T 559 rfl rfl
abbrev b_M_count : ByteArray := prog_4_method_28_code
def y_M_count : MethodName := ⟨R_M, "count", "(I)I"⟩
abbrev w_M_count : List Cond := Cond.code y_M_count b_M_count 4 (some .int) :: kT
set_option maxRecDepth 20000 in
theorem cd_M_count : Cond.code y_M_count b_M_count 4 (some .int) ∈ kT := mk_T 563 rfl rfl
theorem gdV {own C : String} {ix : Nat} {y : MethodName} {b : ByteArray} {n : Nat} {r : Option FieldType} (h1 : Cond.methodLink own ix y ∈ kT) (h2 : Cond.instanceMethod y ∈ kT) (h3 : Cond.selects C y y ∈ kT) (h4 : Cond.initialized C ∈ kT) (h5 : Cond.code y b n r ∈ kT) : GoodIn kT (wsV own ix C y (Cond.code y b n r :: kT)) := by
  intro w hw
  have h : w ∈ kT := by
    rcases List.mem_append.mp hw with h | h
    · simp only [List.mem_cons, List.not_mem_nil, or_false] at h
      rcases h with rfl | rfl | rfl | rfl
      · exact h1
      · exact h2
      · exact h3
      · exact h4
    · rcases List.mem_cons.mp h with rfl | h
      · exact h5
      · exact h
  exact ⟨h, kT_good w h⟩
theorem gdS {own : String} {ix : Nat} {y : MethodName} {b : ByteArray} {n : Nat} {r : Option FieldType} (h1 : Cond.methodLink own ix y ∈ kT) (h2 : Cond.static y ∈ kT) (h3 : Cond.initialized own ∈ kT) (h5 : Cond.code y b n r ∈ kT) : GoodIn kT (wsS own ix y (Cond.code y b n r :: kT)) := by
  intro w hw
  have h : w ∈ kT := by
    rcases List.mem_append.mp hw with h | h
    · simp only [List.mem_cons, List.not_mem_nil, or_false] at h
      rcases h with rfl | rfl | rfl
      · exact h1
      · exact h2
      · exact h3
    · rcases List.mem_cons.mp h with rfl | h
      · exact h5
      · exact h
  exact ⟨h, kT_good w h⟩
abbrev b_L_law : ByteArray := code
