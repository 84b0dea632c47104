section
-- ===== PART A: goes FIRST, ahead of the names: the tables' words, and 'selects' of the private methods out of them =====
/-- a private method of a class that the tables say can be made, by its rows of tables_1 -/
def lw_okq (q : MethodName × Nat) : Prop := (q.1.cls ≠ "java/lang/invoke/MethodHandle" ∧ q.1.cls ≠ "java/lang/invoke/VarHandle") ∧ Cond.instantiable q.1.cls q.2 ∈ tables_1 ∧ Cond.privateMethod q.1 ∈ tables_1 ∧ Cond.instanceMethod q.1 ∈ tables_1
theorem lw_p0 : lw_okq (⟨"DeskTurns", "deskAt", "(I)LDeskTurns$Desk;"⟩, 13) := ⟨⟨by decide +kernel, by decide +kernel⟩, List.mem_of_getElem? (i := 13) (by decide +kernel), List.mem_of_getElem? (i := 71) (by decide +kernel), List.mem_of_getElem? (i := 72) (by decide +kernel)⟩
theorem lw_p1 : lw_okq (⟨"DeskTurns", "isInTheMidst", "(LDeskTurns$Desk;)Z"⟩, 13) := ⟨⟨by decide +kernel, by decide +kernel⟩, List.mem_of_getElem? (i := 13) (by decide +kernel), List.mem_of_getElem? (i := 86) (by decide +kernel), List.mem_of_getElem? (i := 87) (by decide +kernel)⟩
theorem lw_p2 : lw_okq (⟨"DeskTurns", "heldBy", "(LDeskTurns$Desk;)I"⟩, 13) := ⟨⟨by decide +kernel, by decide +kernel⟩, List.mem_of_getElem? (i := 13) (by decide +kernel), List.mem_of_getElem? (i := 90) (by decide +kernel), List.mem_of_getElem? (i := 91) (by decide +kernel)⟩
theorem lw_p3 : lw_okq (⟨"DeskTurns", "giveBackAll", "(LDeskTurns$Desk;)V"⟩, 13) := ⟨⟨by decide +kernel, by decide +kernel⟩, List.mem_of_getElem? (i := 13) (by decide +kernel), List.mem_of_getElem? (i := 106) (by decide +kernel), List.mem_of_getElem? (i := 107) (by decide +kernel)⟩
theorem lw_p4 : lw_okq (⟨"DeskTurns", "giveBack", "(I)V"⟩, 13) := ⟨⟨by decide +kernel, by decide +kernel⟩, List.mem_of_getElem? (i := 13) (by decide +kernel), List.mem_of_getElem? (i := 110) (by decide +kernel), List.mem_of_getElem? (i := 111) (by decide +kernel)⟩
theorem lw_p5 : lw_okq (⟨"DeskTurns", "waiterFor", "(II)LDeskTurns$Desk;"⟩, 13) := ⟨⟨by decide +kernel, by decide +kernel⟩, List.mem_of_getElem? (i := 13) (by decide +kernel), List.mem_of_getElem? (i := 114) (by decide +kernel), List.mem_of_getElem? (i := 115) (by decide +kernel)⟩
theorem lw_p6 : lw_okq (⟨"DeskTurns", "waitersAheadOf", "(LDeskTurns$Desk;)I"⟩, 13) := ⟨⟨by decide +kernel, by decide +kernel⟩, List.mem_of_getElem? (i := 13) (by decide +kernel), List.mem_of_getElem? (i := 118) (by decide +kernel), List.mem_of_getElem? (i := 119) (by decide +kernel)⟩
theorem lw_p7 : lw_okq (⟨"DeskTurns", "take", "(LDeskTurns$Desk;I)V"⟩, 13) := ⟨⟨by decide +kernel, by decide +kernel⟩, List.mem_of_getElem? (i := 13) (by decide +kernel), List.mem_of_getElem? (i := 122) (by decide +kernel), List.mem_of_getElem? (i := 123) (by decide +kernel)⟩
theorem lw_p8 : lw_okq (⟨"DeskTurns", "tell", "(ILDeskTurns$Desk;)V"⟩, 13) := ⟨⟨by decide +kernel, by decide +kernel⟩, List.mem_of_getElem? (i := 13) (by decide +kernel), List.mem_of_getElem? (i := 126) (by decide +kernel), List.mem_of_getElem? (i := 127) (by decide +kernel)⟩
theorem lw_p9 : lw_okq (⟨"DeskTurns", "end", "(LDeskTurns$Desk;)V"⟩, 13) := ⟨⟨by decide +kernel, by decide +kernel⟩, List.mem_of_getElem? (i := 13) (by decide +kernel), List.mem_of_getElem? (i := 138) (by decide +kernel), List.mem_of_getElem? (i := 139) (by decide +kernel)⟩
theorem lw_p10 : lw_okq (⟨"DeskTurns", "subjectsHeld", "()I"⟩, 13) := ⟨⟨by decide +kernel, by decide +kernel⟩, List.mem_of_getElem? (i := 13) (by decide +kernel), List.mem_of_getElem? (i := 146) (by decide +kernel), List.mem_of_getElem? (i := 147) (by decide +kernel)⟩
theorem lw_p11 : lw_okq (⟨"java/lang/Throwable", "fillInStackTrace", "(I)Ljava/lang/Throwable;"⟩, 6) := ⟨⟨by decide +kernel, by decide +kernel⟩, List.mem_of_getElem? (i := 197) (by decide +kernel), List.mem_of_getElem? (i := 195) (by decide +kernel), List.mem_of_getElem? (i := 196) (by decide +kernel)⟩
theorem lw_p12 : lw_okq (⟨"DeskTurns", "takeTurn", "(LDeskTurns$Desk;)Z"⟩, 13) := ⟨⟨by decide +kernel, by decide +kernel⟩, List.mem_of_getElem? (i := 13) (by decide +kernel), List.mem_of_getElem? (i := 305) (by decide +kernel), List.mem_of_getElem? (i := 306) (by decide +kernel)⟩
theorem lw_p13 : lw_okq (⟨"DeskTurns", "leastLacking", "(LDeskTurns$Desk;)I"⟩, 13) := ⟨⟨by decide +kernel, by decide +kernel⟩, List.mem_of_getElem? (i := 13) (by decide +kernel), List.mem_of_getElem? (i := 309) (by decide +kernel), List.mem_of_getElem? (i := 310) (by decide +kernel)⟩
theorem lw_p14 : lw_okq (⟨"DeskTurns", "ask", "(LDeskTurns$Desk;I)V"⟩, 13) := ⟨⟨by decide +kernel, by decide +kernel⟩, List.mem_of_getElem? (i := 13) (by decide +kernel), List.mem_of_getElem? (i := 313) (by decide +kernel), List.mem_of_getElem? (i := 314) (by decide +kernel)⟩
theorem lw_p15 : lw_okq (⟨"DeskTurns", "doOrUndo", "(LDeskTurns$Desk;)Z"⟩, 13) := ⟨⟨by decide +kernel, by decide +kernel⟩, List.mem_of_getElem? (i := 13) (by decide +kernel), List.mem_of_getElem? (i := 317) (by decide +kernel), List.mem_of_getElem? (i := 318) (by decide +kernel)⟩
def lw_privs_1 : List (MethodName × Nat) := [(⟨"DeskTurns", "deskAt", "(I)LDeskTurns$Desk;"⟩, 13), (⟨"DeskTurns", "isInTheMidst", "(LDeskTurns$Desk;)Z"⟩, 13), (⟨"DeskTurns", "heldBy", "(LDeskTurns$Desk;)I"⟩, 13), (⟨"DeskTurns", "giveBackAll", "(LDeskTurns$Desk;)V"⟩, 13), (⟨"DeskTurns", "giveBack", "(I)V"⟩, 13), (⟨"DeskTurns", "waiterFor", "(II)LDeskTurns$Desk;"⟩, 13), (⟨"DeskTurns", "waitersAheadOf", "(LDeskTurns$Desk;)I"⟩, 13), (⟨"DeskTurns", "take", "(LDeskTurns$Desk;I)V"⟩, 13), (⟨"DeskTurns", "tell", "(ILDeskTurns$Desk;)V"⟩, 13), (⟨"DeskTurns", "end", "(LDeskTurns$Desk;)V"⟩, 13), (⟨"DeskTurns", "subjectsHeld", "()I"⟩, 13), (⟨"java/lang/Throwable", "fillInStackTrace", "(I)Ljava/lang/Throwable;"⟩, 6), (⟨"DeskTurns", "takeTurn", "(LDeskTurns$Desk;)Z"⟩, 13), (⟨"DeskTurns", "leastLacking", "(LDeskTurns$Desk;)I"⟩, 13), (⟨"DeskTurns", "ask", "(LDeskTurns$Desk;I)V"⟩, 13), (⟨"DeskTurns", "doOrUndo", "(LDeskTurns$Desk;)Z"⟩, 13)]
theorem lw_r1 : ∀ q ∈ lw_privs_1, lw_okq q := List.forall_mem_cons.mpr ⟨lw_p0, List.forall_mem_cons.mpr ⟨lw_p1, List.forall_mem_cons.mpr ⟨lw_p2, List.forall_mem_cons.mpr ⟨lw_p3, List.forall_mem_cons.mpr ⟨lw_p4, List.forall_mem_cons.mpr ⟨lw_p5, List.forall_mem_cons.mpr ⟨lw_p6, List.forall_mem_cons.mpr ⟨lw_p7, List.forall_mem_cons.mpr ⟨lw_p8, List.forall_mem_cons.mpr ⟨lw_p9, List.forall_mem_cons.mpr ⟨lw_p10, List.forall_mem_cons.mpr ⟨lw_p11, List.forall_mem_cons.mpr ⟨lw_p12, List.forall_mem_cons.mpr ⟨lw_p13, List.forall_mem_cons.mpr ⟨lw_p14, List.forall_mem_cons.mpr ⟨lw_p15, fun _ h => absurd h List.not_mem_nil⟩⟩⟩⟩⟩⟩⟩⟩⟩⟩⟩⟩⟩⟩⟩⟩
theorem lw_p16 : lw_okq (⟨"DeskTurns", "isOverdue", "(I)Z"⟩, 13) := ⟨⟨by decide +kernel, by decide +kernel⟩, List.mem_of_getElem? (i := 13) (by decide +kernel), List.mem_of_getElem? (i := 361) (by decide +kernel), List.mem_of_getElem? (i := 362) (by decide +kernel)⟩
theorem lw_p17 : lw_okq (⟨"DeskTurnsModel", "refuse", "(I)I"⟩, 21) := ⟨⟨by decide +kernel, by decide +kernel⟩, List.mem_of_getElem? (i := 389) (by decide +kernel), List.mem_of_getElem? (i := 470) (by decide +kernel), List.mem_of_getElem? (i := 471) (by decide +kernel)⟩
theorem lw_p18 : lw_okq (⟨"DeskTurnsModel", "isDesk", "(I)Z"⟩, 21) := ⟨⟨by decide +kernel, by decide +kernel⟩, List.mem_of_getElem? (i := 389) (by decide +kernel), List.mem_of_getElem? (i := 478) (by decide +kernel), List.mem_of_getElem? (i := 479) (by decide +kernel)⟩
theorem lw_p19 : lw_okq (⟨"DeskTurnsModel", "isMidst", "(I)Z"⟩, 21) := ⟨⟨by decide +kernel, by decide +kernel⟩, List.mem_of_getElem? (i := 389) (by decide +kernel), List.mem_of_getElem? (i := 485) (by decide +kernel), List.mem_of_getElem? (i := 486) (by decide +kernel)⟩
theorem lw_p20 : lw_okq (⟨"DeskTurnsModel", "held", "(I)I"⟩, 21) := ⟨⟨by decide +kernel, by decide +kernel⟩, List.mem_of_getElem? (i := 389) (by decide +kernel), List.mem_of_getElem? (i := 489) (by decide +kernel), List.mem_of_getElem? (i := 490) (by decide +kernel)⟩
theorem lw_p21 : lw_okq (⟨"DeskTurnsModel", "steps", "(I)Z"⟩, 21) := ⟨⟨by decide +kernel, by decide +kernel⟩, List.mem_of_getElem? (i := 389) (by decide +kernel), List.mem_of_getElem? (i := 501) (by decide +kernel), List.mem_of_getElem? (i := 502) (by decide +kernel)⟩
theorem lw_p22 : lw_okq (⟨"DeskTurnsModel", "write", "(II)V"⟩, 21) := ⟨⟨by decide +kernel, by decide +kernel⟩, List.mem_of_getElem? (i := 389) (by decide +kernel), List.mem_of_getElem? (i := 505) (by decide +kernel), List.mem_of_getElem? (i := 506) (by decide +kernel)⟩
theorem lw_p23 : lw_okq (⟨"DeskTurnsModel", "giveAll", "(I)V"⟩, 21) := ⟨⟨by decide +kernel, by decide +kernel⟩, List.mem_of_getElem? (i := 389) (by decide +kernel), List.mem_of_getElem? (i := 509) (by decide +kernel), List.mem_of_getElem? (i := 510) (by decide +kernel)⟩
theorem lw_p24 : lw_okq (⟨"DeskTurnsModel", "giveBack", "(I)V"⟩, 21) := ⟨⟨by decide +kernel, by decide +kernel⟩, List.mem_of_getElem? (i := 389) (by decide +kernel), List.mem_of_getElem? (i := 513) (by decide +kernel), List.mem_of_getElem? (i := 514) (by decide +kernel)⟩
theorem lw_p25 : lw_okq (⟨"DeskTurnsModel", "first", "(I)I"⟩, 21) := ⟨⟨by decide +kernel, by decide +kernel⟩, List.mem_of_getElem? (i := 389) (by decide +kernel), List.mem_of_getElem? (i := 517) (by decide +kernel), List.mem_of_getElem? (i := 518) (by decide +kernel)⟩
theorem lw_p26 : lw_okq (⟨"DeskTurnsModel", "goesOn", "(I)V"⟩, 21) := ⟨⟨by decide +kernel, by decide +kernel⟩, List.mem_of_getElem? (i := 389) (by decide +kernel), List.mem_of_getElem? (i := 521) (by decide +kernel), List.mem_of_getElem? (i := 522) (by decide +kernel)⟩
def lw_privs_2 : List (MethodName × Nat) := [(⟨"DeskTurns", "isOverdue", "(I)Z"⟩, 13), (⟨"DeskTurnsModel", "refuse", "(I)I"⟩, 21), (⟨"DeskTurnsModel", "isDesk", "(I)Z"⟩, 21), (⟨"DeskTurnsModel", "isMidst", "(I)Z"⟩, 21), (⟨"DeskTurnsModel", "held", "(I)I"⟩, 21), (⟨"DeskTurnsModel", "steps", "(I)Z"⟩, 21), (⟨"DeskTurnsModel", "write", "(II)V"⟩, 21), (⟨"DeskTurnsModel", "giveAll", "(I)V"⟩, 21), (⟨"DeskTurnsModel", "giveBack", "(I)V"⟩, 21), (⟨"DeskTurnsModel", "first", "(I)I"⟩, 21), (⟨"DeskTurnsModel", "goesOn", "(I)V"⟩, 21)]
theorem lw_r2 : ∀ q ∈ lw_privs_2, lw_okq q := List.forall_mem_cons.mpr ⟨lw_p16, List.forall_mem_cons.mpr ⟨lw_p17, List.forall_mem_cons.mpr ⟨lw_p18, List.forall_mem_cons.mpr ⟨lw_p19, List.forall_mem_cons.mpr ⟨lw_p20, List.forall_mem_cons.mpr ⟨lw_p21, List.forall_mem_cons.mpr ⟨lw_p22, List.forall_mem_cons.mpr ⟨lw_p23, List.forall_mem_cons.mpr ⟨lw_p24, List.forall_mem_cons.mpr ⟨lw_p25, List.forall_mem_cons.mpr ⟨lw_p26, fun _ h => absurd h List.not_mem_nil⟩⟩⟩⟩⟩⟩⟩⟩⟩⟩⟩
def lw_privs : List (MethodName × Nat) := lw_privs_1 ++ (lw_privs_2)
def lw_tbl : List Cond := k2_sels lw_privs ++ tables_1
theorem lw_privs_ok : ∀ q ∈ lw_privs, lw_okq q := by
  show ∀ q ∈ lw_privs_1 ++ (lw_privs_2), lw_okq q
  exact List.forall_mem_append.mpr ⟨lw_r1, lw_r2⟩
end
section
/-! names: the system K, its desks D, the reference M, the law L; Arrays A, Integer I -/
def R_K : String := "DeskTurns"
def R_D : String := "DeskTurns$Desk"
def R_M : String := "DeskTurnsModel"
def R_L : String := "DeskTurnsLaw"
def R_A : String := "java/util/Arrays"
def R_I : String := "java/lang/Integer"
def T_K : u_T := fun k => match k with
  | 0 => ("DeskTurns", "desks", "[LDeskTurns$Desk;", true)
  | 1 => ("DeskTurns", "deskCount", "I", false)
  | 2 => ("DeskTurns", "holders", "[I", true)
  | 3 => ("DeskTurns", "gotAt", "[I", true)
  | 4 => ("DeskTurns", "askings", "I", false)
  | 5 => ("DeskTurns", "turns", "[I", true)
  | 6 => ("DeskTurns", "turnsTold", "I", false)
  | 7 => ("DeskTurns", "turnsRun", "I", false)
  | 8 => ("DeskTurns", "turnsPassedOver", "I", false)
  | 9 => ("DeskTurns", "entries", "[I", true)
  | 10 => ("DeskTurns", "entryCount", "I", false)
  | 11 => ("DeskTurns", "time", "I", false)
  | _ => ("DeskTurns", "closed", "Z", false)
def ty_K : Nat → FieldType := fun k => match k with
  | 0 => .array (.object "DeskTurns$Desk")
  | 1 => .int
  | 2 => .array .int
  | 3 => .array .int
  | 4 => .int
  | 5 => .array .int
  | 6 => .int
  | 7 => .int
  | 8 => .int
  | 9 => .array .int
  | 10 => .int
  | 11 => .int
  | _ => .boolean
theorem nm_K : ∀ a, a < 13 → ∀ b, b < 13 → a ≠ b → (T_K a).2.1 ≠ (T_K b).2.1 := by decide +kernel
theorem ty_K_ok : ∀ k, k < 13 → parseFieldDescriptor (T_K k).2.2.1 = some (ty_K k) := by decide +kernel
theorem T_K1 : ∀ k, k < 13 → (T_K k).1 = R_K := by decide +kernel
def T_D : u_T := fun k => match k with
  | 0 => ("DeskTurns$Desk", "number", "I", true)
  | 1 => ("DeskTurns$Desk", "acts", "I", true)
  | 2 => ("DeskTurns$Desk", "needed", "[I", true)
  | 3 => ("DeskTurns$Desk", "failsAt", "I", false)
  | 4 => ("DeskTurns$Desk", "present", "I", false)
  | 5 => ("DeskTurns$Desk", "actsDone", "I", false)
  | 6 => ("DeskTurns$Desk", "waitsFor", "I", false)
  | 7 => ("DeskTurns$Desk", "askedAs", "I", false)
  | 8 => ("DeskTurns$Desk", "isDead", "Z", false)
  | _ => ("DeskTurns$Desk", "hasEnded", "Z", false)
def ty_D : Nat → FieldType := fun k => match k with
  | 0 => .int
  | 1 => .int
  | 2 => .array .int
  | 3 => .int
  | 4 => .int
  | 5 => .int
  | 6 => .int
  | 7 => .int
  | 8 => .boolean
  | _ => .boolean
theorem nm_D : ∀ a, a < 10 → ∀ b, b < 10 → a ≠ b → (T_D a).2.1 ≠ (T_D b).2.1 := by decide +kernel
theorem ty_D_ok : ∀ k, k < 10 → parseFieldDescriptor (T_D k).2.2.1 = some (ty_D k) := by decide +kernel
theorem T_D1 : ∀ k, k < 10 → (T_D k).1 = R_D := by decide +kernel
def T_M : u_T := fun k => match k with
  | 0 => ("DeskTurnsModel", "thrown", "I", false)
  | 1 => ("DeskTurnsModel", "desks", "I", false)
  | 2 => ("DeskTurnsModel", "acts", "[I", true)
  | 3 => ("DeskTurnsModel", "failing", "[I", true)
  | 4 => ("DeskTurnsModel", "present", "[I", true)
  | 5 => ("DeskTurnsModel", "done", "[I", true)
  | 6 => ("DeskTurnsModel", "state", "[I", true)
  | 7 => ("DeskTurnsModel", "needed", "[I", true)
  | 8 => ("DeskTurnsModel", "holder", "[I", true)
  | 9 => ("DeskTurnsModel", "got", "[I", true)
  | 10 => ("DeskTurnsModel", "waitsFor", "[I", true)
  | 11 => ("DeskTurnsModel", "askedAs", "[I", true)
  | 12 => ("DeskTurnsModel", "asks", "I", false)
  | 13 => ("DeskTurnsModel", "turns", "[I", true)
  | 14 => ("DeskTurnsModel", "told", "I", false)
  | 15 => ("DeskTurnsModel", "ran", "I", false)
  | 16 => ("DeskTurnsModel", "passed", "I", false)
  | 17 => ("DeskTurnsModel", "entries", "I", false)
  | 18 => ("DeskTurnsModel", "entry", "[I", true)
  | 19 => ("DeskTurnsModel", "time", "I", false)
  | _ => ("DeskTurnsModel", "closed", "Z", false)
def ty_M : Nat → FieldType := fun k => match k with
  | 0 => .int
  | 1 => .int
  | 2 => .array .int
  | 3 => .array .int
  | 4 => .array .int
  | 5 => .array .int
  | 6 => .array .int
  | 7 => .array .int
  | 8 => .array .int
  | 9 => .array .int
  | 10 => .array .int
  | 11 => .array .int
  | 12 => .int
  | 13 => .array .int
  | 14 => .int
  | 15 => .int
  | 16 => .int
  | 17 => .int
  | 18 => .array .int
  | 19 => .int
  | _ => .boolean
theorem nm_M : ∀ a, a < 21 → ∀ b, b < 21 → a ≠ b → (T_M a).2.1 ≠ (T_M b).2.1 := by decide +kernel
theorem ty_M_ok : ∀ k, k < 21 → parseFieldDescriptor (T_M k).2.2.1 = some (ty_M k) := by decide +kernel
theorem T_M1 : ∀ k, k < 21 → (T_M k).1 = R_M := by decide +kernel
theorem T_Kf (k : Nat) (hk : k = 1 ∨ k = 4 ∨ k = 6 ∨ k = 7 ∨ k = 8 ∨ k = 10 ∨ k = 11 ∨ k = 12) : (T_K k).2.2.2 = false := by rcases hk with rfl | rfl | rfl | rfl | rfl | rfl | rfl | rfl <;> rfl
theorem T_Df (k : Nat) (hk : k = 3 ∨ k = 4 ∨ k = 5 ∨ k = 6 ∨ k = 7 ∨ k = 8 ∨ k = 9) : (T_D k).2.2.2 = false := by rcases hk with rfl | rfl | rfl | rfl | rfl | rfl | rfl <;> rfl
theorem T_Mf (k : Nat) (hk : k = 0 ∨ k = 1 ∨ k = 12 ∨ k = 14 ∨ k = 15 ∨ k = 16 ∨ k = 17 ∨ k = 19 ∨ k = 20) : (T_M k).2.2.2 = false := by rcases hk with rfl | rfl | rfl | rfl | rfl | rfl | rfl | rfl | rfl <;> rfl
abbrev kcl : List vw_C := [(R_K, T_K, 13), (R_D, T_D, 10), (R_M, T_M, 21)]
abbrev kty (cI cQ : ClassId) : List (ClassId × FieldType) := [(cI, .int), (cQ, .object R_D)]
/-! the words: all good ones of the tables -/
def kT : List Cond := lw_tbl.filter goodWord
theorem kT_good : ∀ w ∈ kT, (w.onTables && w.keeps) = true ∨ ∃ ty, w = .arrayClass ty := fun w h => good_of_word (List.mem_filter.mp h).2
theorem kT_tbl : ∀ w ∈ kT, w ∈ lw_tbl := fun w h => (List.mem_filter.mp h).1
theorem mk_T {w : Cond} (i : Nat) (h : tables_1[i]? = some w) (g : goodWord w = true) : w ∈ kT := List.mem_filter.mpr ⟨List.mem_append_right _ (List.mem_of_getElem? h), g⟩
theorem mk_S {w : Cond} (i : Nat) (h : (k2_sels lw_privs)[i]? = some w) (g : goodWord w = true) : w ∈ kT := List.mem_filter.mpr ⟨List.mem_append_left _ (List.mem_of_getElem? h), g⟩
theorem in_K : ∀ w ∈ u_ws R_K T_K 13, w ∈ kT := by decide +kernel
theorem in_D : ∀ w ∈ u_ws R_D T_D 10, w ∈ kT := by decide +kernel
theorem in_M : ∀ w ∈ u_ws R_M T_M 21, w ∈ kT := by decide +kernel
abbrev b_K_init : ByteArray := prog_1_method_1_code
def y_K_init : MethodName := ⟨R_K, "<init>", "()V"⟩
abbrev w_K_init : List Cond := Cond.code y_K_init b_K_init 1 none :: kT
theorem cd_K_init : Cond.code y_K_init b_K_init 1 none ∈ kT := mk_T 16 rfl rfl
abbrev b_A_fill : ByteArray := prog_13_method_103_code
def y_A_fill : MethodName := ⟨R_A, "fill", "([II)V"⟩
abbrev w_A_fill : List Cond := Cond.code y_A_fill b_A_fill 4 none :: kT
theorem cd_A_fill : Cond.code y_A_fill b_A_fill 4 none ∈ kT := mk_T 24 rfl rfl
abbrev b_K_needs : ByteArray := prog_1_method_3_code
def y_K_needs : MethodName := ⟨R_K, "needs", "(III)Z"⟩
abbrev w_K_needs : List Cond := Cond.code y_K_needs b_K_needs 5 (some .boolean) :: kT
theorem cd_K_needs : Cond.code y_K_needs b_K_needs 5 (some .boolean) ∈ kT := mk_T 69 rfl rfl
abbrev b_K_deskAt : ByteArray := prog_1_method_15_code
def y_K_deskAt : MethodName := ⟨R_K, "deskAt", "(I)LDeskTurns$Desk;"⟩
abbrev w_K_deskAt : List Cond := Cond.code y_K_deskAt b_K_deskAt 2 (some (.object "DeskTurns$Desk")) :: kT
theorem cd_K_deskAt : Cond.code y_K_deskAt b_K_deskAt 2 (some (.object "DeskTurns$Desk")) ∈ kT := mk_T 73 rfl rfl
abbrev b_K_isSubject : ByteArray := prog_1_method_16_code
def y_K_isSubject : MethodName := ⟨R_K, "isSubject", "(I)Z"⟩
abbrev w_K_isSubject : List Cond := Cond.code y_K_isSubject b_K_isSubject 1 (some .boolean) :: kT
theorem cd_K_isSubject : Cond.code y_K_isSubject b_K_isSubject 1 (some .boolean) ∈ kT := mk_T 76 rfl rfl
abbrev b_D_isAhead : ByteArray := prog_2_method_3_code
def y_D_isAhead : MethodName := ⟨R_D, "isAhead", "(I)Z"⟩
abbrev w_D_isAhead : List Cond := Cond.code y_D_isAhead b_D_isAhead 2 (some .boolean) :: kT
theorem cd_D_isAhead : Cond.code y_D_isAhead b_D_isAhead 2 (some .boolean) ∈ kT := mk_T 80 rfl rfl
abbrev b_D_hasNeed : ByteArray := prog_2_method_4_code
def y_D_hasNeed : MethodName := ⟨R_D, "hasNeed", "(II)Z"⟩
abbrev w_D_hasNeed : List Cond := Cond.code y_D_hasNeed b_D_hasNeed 3 (some .boolean) :: kT
theorem cd_D_hasNeed : Cond.code y_D_hasNeed b_D_hasNeed 3 (some .boolean) ∈ kT := mk_T 84 rfl rfl
abbrev b_K_isInTheMidst : ByteArray := prog_1_method_18_code
def y_K_isInTheMidst : MethodName := ⟨R_K, "isInTheMidst", "(LDeskTurns$Desk;)Z"⟩
abbrev w_K_isInTheMidst : List Cond := Cond.code y_K_isInTheMidst b_K_isInTheMidst 2 (some .boolean) :: kT
theorem cd_K_isInTheMidst : Cond.code y_K_isInTheMidst b_K_isInTheMidst 2 (some .boolean) ∈ kT := mk_T 88 rfl rfl
abbrev b_K_heldBy : ByteArray := prog_1_method_19_code
def y_K_heldBy : MethodName := ⟨R_K, "heldBy", "(LDeskTurns$Desk;)I"⟩
abbrev w_K_heldBy : List Cond := Cond.code y_K_heldBy b_K_heldBy 4 (some .int) :: kT
theorem cd_K_heldBy : Cond.code y_K_heldBy b_K_heldBy 4 (some .int) ∈ kT := mk_T 92 rfl rfl
abbrev b_D_addNeed : ByteArray := prog_2_method_5_code
def y_D_addNeed : MethodName := ⟨R_D, "addNeed", "(II)V"⟩
abbrev w_D_addNeed : List Cond := Cond.code y_D_addNeed b_D_addNeed 3 none :: kT
theorem cd_D_addNeed : Cond.code y_D_addNeed b_D_addNeed 3 none ∈ kT := mk_T 96 rfl rfl
abbrev b_K_log : ByteArray := prog_1_method_6_code
def y_K_log : MethodName := ⟨R_K, "log", "(I)I"⟩
abbrev w_K_log : List Cond := Cond.code y_K_log b_K_log 2 (some .int) :: kT
theorem cd_K_log : Cond.code y_K_log b_K_log 2 (some .int) ∈ kT := mk_T 100 rfl rfl
abbrev b_K_interrupt : ByteArray := prog_1_method_9_code
def y_K_interrupt : MethodName := ⟨R_K, "interrupt", "(I)Z"⟩
abbrev w_K_interrupt : List Cond := Cond.code y_K_interrupt b_K_interrupt 3 (some .boolean) :: kT
theorem cd_K_interrupt : Cond.code y_K_interrupt b_K_interrupt 3 (some .boolean) ∈ kT := mk_T 104 rfl rfl
abbrev b_K_giveBackAll : ByteArray := prog_1_method_26_code
def y_K_giveBackAll : MethodName := ⟨R_K, "giveBackAll", "(LDeskTurns$Desk;)V"⟩
abbrev w_K_giveBackAll : List Cond := Cond.code y_K_giveBackAll b_K_giveBackAll 3 none :: kT
theorem cd_K_giveBackAll : Cond.code y_K_giveBackAll b_K_giveBackAll 3 none ∈ kT := mk_T 108 rfl rfl
abbrev b_K_giveBack : ByteArray := prog_1_method_27_code
def y_K_giveBack : MethodName := ⟨R_K, "giveBack", "(I)V"⟩
abbrev w_K_giveBack : List Cond := Cond.code y_K_giveBack b_K_giveBack 3 none :: kT
theorem cd_K_giveBack : Cond.code y_K_giveBack b_K_giveBack 3 none ∈ kT := mk_T 112 rfl rfl
abbrev b_K_waiterFor : ByteArray := prog_1_method_28_code
def y_K_waiterFor : MethodName := ⟨R_K, "waiterFor", "(II)LDeskTurns$Desk;"⟩
abbrev w_K_waiterFor : List Cond := Cond.code y_K_waiterFor b_K_waiterFor 5 (some (.object "DeskTurns$Desk")) :: kT
theorem cd_K_waiterFor : Cond.code y_K_waiterFor b_K_waiterFor 5 (some (.object "DeskTurns$Desk")) ∈ kT := mk_T 116 rfl rfl
abbrev b_K_waitersAheadOf : ByteArray := prog_1_method_29_code
def y_K_waitersAheadOf : MethodName := ⟨R_K, "waitersAheadOf", "(LDeskTurns$Desk;)I"⟩
abbrev w_K_waitersAheadOf : List Cond := Cond.code y_K_waitersAheadOf b_K_waitersAheadOf 5 (some .int) :: kT
theorem cd_K_waitersAheadOf : Cond.code y_K_waitersAheadOf b_K_waitersAheadOf 5 (some .int) ∈ kT := mk_T 120 rfl rfl
abbrev b_K_take : ByteArray := prog_1_method_24_code
def y_K_take : MethodName := ⟨R_K, "take", "(LDeskTurns$Desk;I)V"⟩
abbrev w_K_take : List Cond := Cond.code y_K_take b_K_take 3 none :: kT
theorem cd_K_take : Cond.code y_K_take b_K_take 3 none ∈ kT := mk_T 124 rfl rfl
abbrev b_K_tell : ByteArray := prog_1_method_32_code
def y_K_tell : MethodName := ⟨R_K, "tell", "(ILDeskTurns$Desk;)V"⟩
abbrev w_K_tell : List Cond := Cond.code y_K_tell b_K_tell 3 none :: kT
theorem cd_K_tell : Cond.code y_K_tell b_K_tell 3 none ∈ kT := mk_T 128 rfl rfl
abbrev b_K_close : ByteArray := prog_1_method_12_code
def y_K_close : MethodName := ⟨R_K, "close", "()I"⟩
abbrev w_K_close : List Cond := Cond.code y_K_close b_K_close 4 (some .int) :: kT
theorem cd_K_close : Cond.code y_K_close b_K_close 4 (some .int) ∈ kT := mk_T 132 rfl rfl
abbrev b_D_condition : ByteArray := prog_2_method_2_code
def y_D_condition : MethodName := ⟨R_D, "condition", "()I"⟩
abbrev w_D_condition : List Cond := Cond.code y_D_condition b_D_condition 1 (some .int) :: kT
theorem cd_D_condition : Cond.code y_D_condition b_D_condition 1 (some .int) ∈ kT := mk_T 136 rfl rfl
abbrev b_K_end : ByteArray := prog_1_method_31_code
def y_K_end : MethodName := ⟨R_K, "end", "(LDeskTurns$Desk;)V"⟩
abbrev w_K_end : List Cond := Cond.code y_K_end b_K_end 3 none :: kT
theorem cd_K_end : Cond.code y_K_end b_K_end 3 none ∈ kT := mk_T 140 rfl rfl
abbrev b_K_count : ByteArray := prog_1_method_14_code
def y_K_count : MethodName := ⟨R_K, "count", "(I)I"⟩
abbrev w_K_count : List Cond := Cond.code y_K_count b_K_count 2 (some .int) :: kT
theorem cd_K_count : Cond.code y_K_count b_K_count 2 (some .int) ∈ kT := mk_T 144 rfl rfl
abbrev b_K_subjectsHeld : ByteArray := prog_1_method_20_code
def y_K_subjectsHeld : MethodName := ⟨R_K, "subjectsHeld", "()I"⟩
abbrev w_K_subjectsHeld : List Cond := Cond.code y_K_subjectsHeld b_K_subjectsHeld 3 (some .int) :: kT
theorem cd_K_subjectsHeld : Cond.code y_K_subjectsHeld b_K_subjectsHeld 3 (some .int) ∈ kT := mk_T 148 rfl rfl
abbrev b_L_desk : ByteArray := method_3_code
def y_L_desk : MethodName := ⟨R_L, "desk", "(LDeskTurns;II[J)I"⟩
abbrev h_L_desk : List (Nat × Nat × Nat × Nat) := [((0), (10), (13), (13)), ((0), (10), (17), (15))]
abbrev w_L_desk : List Cond := Cond.codeWith y_L_desk b_L_desk 5 (some .int) h_L_desk :: kT
theorem cd_L_desk : Cond.codeWith y_L_desk b_L_desk 5 (some .int) h_L_desk ∈ kT := mk_T 151 rfl rfl
abbrev b_K_desk : ByteArray := prog_1_method_2_code
def y_K_desk : MethodName := ⟨R_K, "desk", "(II)I"⟩
abbrev w_K_desk : List Cond := Cond.code y_K_desk b_K_desk 4 (some .int) :: kT
theorem cd_K_desk : Cond.code y_K_desk b_K_desk 4 (some .int) ∈ kT := mk_T 157 rfl rfl
abbrev b_D_init : ByteArray := prog_2_method_1_code
def y_D_init : MethodName := ⟨R_D, "<init>", "(III)V"⟩
abbrev w_D_init : List Cond := Cond.code y_D_init b_D_init 4 none :: kT
theorem cd_D_init : Cond.code y_D_init b_D_init 4 none ∈ kT := mk_T 246 rfl rfl
abbrev b_L_turn : ByteArray := method_4_code
def y_L_turn : MethodName := ⟨R_L, "turn", "(LDeskTurns;I[J)I"⟩
abbrev h_L_turn : List (Nat × Nat × Nat × Nat) := [((0), (9), (12), (13)), ((0), (9), (15), (15))]
abbrev w_L_turn : List Cond := Cond.codeWith y_L_turn b_L_turn 4 (some .int) h_L_turn :: kT
theorem cd_L_turn : Cond.codeWith y_L_turn b_L_turn 4 (some .int) h_L_turn ∈ kT := mk_T 289 rfl rfl
abbrev b_K_turn : ByteArray := prog_1_method_4_code
def y_K_turn : MethodName := ⟨R_K, "turn", "(I)I"⟩
abbrev w_K_turn : List Cond := Cond.code y_K_turn b_K_turn 2 (some .int) :: kT
theorem cd_K_turn : Cond.code y_K_turn b_K_turn 2 (some .int) ∈ kT := mk_T 293 rfl rfl
abbrev b_L_run : ByteArray := method_5_code
def y_L_run : MethodName := ⟨R_L, "run", "(LDeskTurns;[J)I"⟩
abbrev h_L_run : List (Nat × Nat × Nat × Nat) := [((0), (8), (11), (15))]
abbrev w_L_run : List Cond := Cond.codeWith y_L_run b_L_run 3 (some .int) h_L_run :: kT
theorem cd_L_run : Cond.codeWith y_L_run b_L_run 3 (some .int) h_L_run ∈ kT := mk_T 298 rfl rfl
abbrev b_K_run : ByteArray := prog_1_method_5_code
def y_K_run : MethodName := ⟨R_K, "run", "()I"⟩
abbrev w_K_run : List Cond := Cond.code y_K_run b_K_run 4 (some .int) :: kT
set_option maxRecDepth 20000 in
theorem cd_K_run : Cond.code y_K_run b_K_run 4 (some .int) ∈ kT := mk_T 302 rfl rfl
abbrev b_K_takeTurn : ByteArray := prog_1_method_21_code
def y_K_takeTurn : MethodName := ⟨R_K, "takeTurn", "(LDeskTurns$Desk;)Z"⟩
abbrev w_K_takeTurn : List Cond := Cond.code y_K_takeTurn b_K_takeTurn 3 (some .boolean) :: kT
set_option maxRecDepth 20000 in
theorem cd_K_takeTurn : Cond.code y_K_takeTurn b_K_takeTurn 3 (some .boolean) ∈ kT := mk_T 307 rfl rfl
abbrev b_K_leastLacking : ByteArray := prog_1_method_22_code
def y_K_leastLacking : MethodName := ⟨R_K, "leastLacking", "(LDeskTurns$Desk;)I"⟩
abbrev w_K_leastLacking : List Cond := Cond.code y_K_leastLacking b_K_leastLacking 3 (some .int) :: kT
set_option maxRecDepth 20000 in
theorem cd_K_leastLacking : Cond.code y_K_leastLacking b_K_leastLacking 3 (some .int) ∈ kT := mk_T 311 rfl rfl
abbrev b_K_ask : ByteArray := prog_1_method_23_code
def y_K_ask : MethodName := ⟨R_K, "ask", "(LDeskTurns$Desk;I)V"⟩
abbrev w_K_ask : List Cond := Cond.code y_K_ask b_K_ask 3 none :: kT
set_option maxRecDepth 20000 in
theorem cd_K_ask : Cond.code y_K_ask b_K_ask 3 none ∈ kT := mk_T 315 rfl rfl
abbrev b_K_doOrUndo : ByteArray := prog_1_method_25_code
def y_K_doOrUndo : MethodName := ⟨R_K, "doOrUndo", "(LDeskTurns$Desk;)Z"⟩
abbrev w_K_doOrUndo : List Cond := Cond.code y_K_doOrUndo b_K_doOrUndo 3 (some .boolean) :: kT
set_option maxRecDepth 20000 in
theorem cd_K_doOrUndo : Cond.code y_K_doOrUndo b_K_doOrUndo 3 (some .boolean) ∈ kT := mk_T 319 rfl rfl
abbrev b_L_holder : ByteArray := method_6_code
def y_L_holder : MethodName := ⟨R_L, "holder", "(LDeskTurns;I[J)I"⟩
abbrev h_L_holder : List (Nat × Nat × Nat × Nat) := [((0), (9), (12), (13))]
abbrev w_L_holder : List Cond := Cond.codeWith y_L_holder b_L_holder 4 (some .int) h_L_holder :: kT
set_option maxRecDepth 20000 in
theorem cd_L_holder : Cond.codeWith y_L_holder b_L_holder 4 (some .int) h_L_holder ∈ kT := mk_T 322 rfl rfl
abbrev b_K_holder : ByteArray := prog_1_method_7_code
def y_K_holder : MethodName := ⟨R_K, "holder", "(I)I"⟩
abbrev w_K_holder : List Cond := Cond.code y_K_holder b_K_holder 2 (some .int) :: kT
set_option maxRecDepth 20000 in
theorem cd_K_holder : Cond.code y_K_holder b_K_holder 2 (some .int) ∈ kT := mk_T 326 rfl rfl
abbrev b_L_waits : ByteArray := method_7_code
def y_L_waits : MethodName := ⟨R_L, "waits", "(LDeskTurns;II[J)I"⟩
abbrev h_L_waits : List (Nat × Nat × Nat × Nat) := [((0), (10), (13), (13))]
abbrev w_L_waits : List Cond := Cond.codeWith y_L_waits b_L_waits 5 (some .int) h_L_waits :: kT
set_option maxRecDepth 20000 in
theorem cd_L_waits : Cond.codeWith y_L_waits b_L_waits 5 (some .int) h_L_waits ∈ kT := mk_T 330 rfl rfl
abbrev b_K_waits : ByteArray := prog_1_method_8_code
def y_K_waits : MethodName := ⟨R_K, "waits", "(II)I"⟩
abbrev w_K_waits : List Cond := Cond.code y_K_waits b_K_waits 4 (some .int) :: kT
set_option maxRecDepth 20000 in
theorem cd_K_waits : Cond.code y_K_waits b_K_waits 4 (some .int) ∈ kT := mk_T 334 rfl rfl
abbrev b_L_dead : ByteArray := method_8_code
def y_L_dead : MethodName := ⟨R_L, "dead", "(LDeskTurns;I[J)I"⟩
abbrev h_L_dead : List (Nat × Nat × Nat × Nat) := [((0), (9), (12), (13))]
abbrev w_L_dead : List Cond := Cond.codeWith y_L_dead b_L_dead 4 (some .int) h_L_dead :: kT
set_option maxRecDepth 20000 in
theorem cd_L_dead : Cond.codeWith y_L_dead b_L_dead 4 (some .int) h_L_dead ∈ kT := mk_T 337 rfl rfl
abbrev b_K_dead : ByteArray := prog_1_method_10_code
def y_K_dead : MethodName := ⟨R_K, "dead", "(I)I"⟩
abbrev w_K_dead : List Cond := Cond.code y_K_dead b_K_dead 3 (some .int) :: kT
set_option maxRecDepth 20000 in
theorem cd_K_dead : Cond.code y_K_dead b_K_dead 3 (some .int) ∈ kT := mk_T 341 rfl rfl
abbrev b_K_isAlive : ByteArray := prog_1_method_17_code
def y_K_isAlive : MethodName := ⟨R_K, "isAlive", "(LDeskTurns$Desk;)Z"⟩
abbrev w_K_isAlive : List Cond := Cond.code y_K_isAlive b_K_isAlive 2 (some .boolean) :: kT
set_option maxRecDepth 20000 in
theorem cd_K_isAlive : Cond.code y_K_isAlive b_K_isAlive 2 (some .boolean) ∈ kT := mk_T 344 rfl rfl
abbrev b_I_bitCount : ByteArray := prog_9_method_49_code
def y_I_bitCount : MethodName := ⟨R_I, "bitCount", "(I)I"⟩
abbrev w_I_bitCount : List Cond := Cond.code y_I_bitCount b_I_bitCount 1 (some .int) :: kT
set_option maxRecDepth 20000 in
theorem cd_I_bitCount : Cond.code y_I_bitCount b_I_bitCount 1 (some .int) ∈ kT := mk_T 347 rfl rfl
abbrev b_L_tick : ByteArray := method_9_code
def y_L_tick : MethodName := ⟨R_L, "tick", "(LDeskTurns;I[J)I"⟩
abbrev h_L_tick : List (Nat × Nat × Nat × Nat) := [((0), (9), (12), (13))]
abbrev w_L_tick : List Cond := Cond.codeWith y_L_tick b_L_tick 4 (some .int) h_L_tick :: kT
set_option maxRecDepth 20000 in
theorem cd_L_tick : Cond.codeWith y_L_tick b_L_tick 4 (some .int) h_L_tick ∈ kT := mk_T 353 rfl rfl
abbrev b_K_tick : ByteArray := prog_1_method_11_code
def y_K_tick : MethodName := ⟨R_K, "tick", "(I)I"⟩
abbrev w_K_tick : List Cond := Cond.code y_K_tick b_K_tick 4 (some .int) :: kT
set_option maxRecDepth 20000 in
theorem cd_K_tick : Cond.code y_K_tick b_K_tick 4 (some .int) ∈ kT := mk_T 357 rfl rfl
abbrev b_K_isOverdue : ByteArray := prog_1_method_30_code
def y_K_isOverdue : MethodName := ⟨R_K, "isOverdue", "(I)Z"⟩
abbrev w_K_isOverdue : List Cond := Cond.code y_K_isOverdue b_K_isOverdue 3 (some .boolean) :: kT
set_option maxRecDepth 20000 in
theorem cd_K_isOverdue : Cond.code y_K_isOverdue b_K_isOverdue 3 (some .boolean) ∈ kT := mk_T 363 rfl rfl
abbrev b_L_look : ByteArray := method_10_code
def y_L_look : MethodName := ⟨R_L, "look", "(LDeskTurns;II[J)I"⟩
abbrev h_L_look : List (Nat × Nat × Nat × Nat) := [((0), (10), (13), (40))]
abbrev w_L_look : List Cond := Cond.codeWith y_L_look b_L_look 5 (some .int) h_L_look :: kT
set_option maxRecDepth 20000 in
theorem cd_L_look : Cond.codeWith y_L_look b_L_look 5 (some .int) h_L_look ∈ kT := mk_T 366 rfl rfl
abbrev b_K_look : ByteArray := prog_1_method_13_code
def y_K_look : MethodName := ⟨R_K, "look", "(II)I"⟩
abbrev w_K_look : List Cond := Cond.code y_K_look b_K_look 4 (some .int) :: kT
set_option maxRecDepth 20000 in
theorem cd_K_look : Cond.code y_K_look b_K_look 4 (some .int) ∈ kT := mk_T 371 rfl rfl
abbrev b_M_init : ByteArray := prog_4_method_1_code
def y_M_init : MethodName := ⟨R_M, "<init>", "()V"⟩
abbrev w_M_init : List Cond := Cond.code y_M_init b_M_init 2 none :: kT
set_option maxRecDepth 20000 in
theorem cd_M_init : Cond.code y_M_init b_M_init 2 none ∈ kT := mk_T 392 rfl rfl
abbrev b_M_thrown : ByteArray := prog_4_method_2_code
def y_M_thrown : MethodName := ⟨R_M, "thrown", "()I"⟩
abbrev w_M_thrown : List Cond := Cond.code y_M_thrown b_M_thrown 1 (some .int) :: kT
set_option maxRecDepth 20000 in
theorem cd_M_thrown : Cond.code y_M_thrown b_M_thrown 1 (some .int) ∈ kT := mk_T 461 rfl rfl
abbrev b_M_desk : ByteArray := prog_4_method_7_code
def y_M_desk : MethodName := ⟨R_M, "desk", "(II)I"⟩
abbrev w_M_desk : List Cond := Cond.code y_M_desk b_M_desk 3 (some .int) :: kT
set_option maxRecDepth 20000 in
theorem cd_M_desk : Cond.code y_M_desk b_M_desk 3 (some .int) ∈ kT := mk_T 465 rfl rfl
abbrev b_M_in : ByteArray := prog_4_method_4_code
def y_M_in : MethodName := ⟨R_M, "in", "(III)Z"⟩
abbrev w_M_in : List Cond := Cond.code y_M_in b_M_in 3 (some .boolean) :: kT
set_option maxRecDepth 20000 in
theorem cd_M_in : Cond.code y_M_in b_M_in 3 (some .boolean) ∈ kT := mk_T 468 rfl rfl
abbrev b_M_refuse : ByteArray := prog_4_method_3_code
def y_M_refuse : MethodName := ⟨R_M, "refuse", "(I)I"⟩
abbrev w_M_refuse : List Cond := Cond.code y_M_refuse b_M_refuse 2 (some .int) :: kT
set_option maxRecDepth 20000 in
theorem cd_M_refuse : Cond.code y_M_refuse b_M_refuse 2 (some .int) ∈ kT := mk_T 472 rfl rfl
abbrev b_M_needs : ByteArray := prog_4_method_11_code
def y_M_needs : MethodName := ⟨R_M, "needs", "(III)Z"⟩
abbrev w_M_needs : List Cond := Cond.code y_M_needs b_M_needs 5 (some .boolean) :: kT
set_option maxRecDepth 20000 in
theorem cd_M_needs : Cond.code y_M_needs b_M_needs 5 (some .boolean) ∈ kT := mk_T 476 rfl rfl
abbrev b_M_isDesk : ByteArray := prog_4_method_5_code
def y_M_isDesk : MethodName := ⟨R_M, "isDesk", "(I)Z"⟩
abbrev w_M_isDesk : List Cond := Cond.code y_M_isDesk b_M_isDesk 2 (some .boolean) :: kT
set_option maxRecDepth 20000 in
theorem cd_M_isDesk : Cond.code y_M_isDesk b_M_isDesk 2 (some .boolean) ∈ kT := mk_T 480 rfl rfl
abbrev b_M_isSubject : ByteArray := prog_4_method_6_code
def y_M_isSubject : MethodName := ⟨R_M, "isSubject", "(I)Z"⟩
abbrev w_M_isSubject : List Cond := Cond.code y_M_isSubject b_M_isSubject 1 (some .boolean) :: kT
set_option maxRecDepth 20000 in
theorem cd_M_isSubject : Cond.code y_M_isSubject b_M_isSubject 1 (some .boolean) ∈ kT := mk_T 483 rfl rfl
abbrev b_M_isMidst : ByteArray := prog_4_method_10_code
def y_M_isMidst : MethodName := ⟨R_M, "isMidst", "(I)Z"⟩
abbrev w_M_isMidst : List Cond := Cond.code y_M_isMidst b_M_isMidst 2 (some .boolean) :: kT
set_option maxRecDepth 20000 in
theorem cd_M_isMidst : Cond.code y_M_isMidst b_M_isMidst 2 (some .boolean) ∈ kT := mk_T 487 rfl rfl
abbrev b_M_held : ByteArray := prog_4_method_8_code
def y_M_held : MethodName := ⟨R_M, "held", "(I)I"⟩
abbrev w_M_held : List Cond := Cond.code y_M_held b_M_held 4 (some .int) :: kT
set_option maxRecDepth 20000 in
theorem cd_M_held : Cond.code y_M_held b_M_held 4 (some .int) ∈ kT := mk_T 491 rfl rfl
abbrev b_M_turn : ByteArray := prog_4_method_18_code
def y_M_turn : MethodName := ⟨R_M, "turn", "(I)I"⟩
abbrev w_M_turn : List Cond := Cond.code y_M_turn b_M_turn 2 (some .int) :: kT
set_option maxRecDepth 20000 in
theorem cd_M_turn : Cond.code y_M_turn b_M_turn 2 (some .int) ∈ kT := mk_T 495 rfl rfl
abbrev b_M_run : ByteArray := prog_4_method_19_code
def y_M_run : MethodName := ⟨R_M, "run", "()I"⟩
abbrev w_M_run : List Cond := Cond.code y_M_run b_M_run 3 (some .int) :: kT
set_option maxRecDepth 20000 in
theorem cd_M_run : Cond.code y_M_run b_M_run 3 (some .int) ∈ kT := mk_T 499 rfl rfl
abbrev b_M_steps : ByteArray := prog_4_method_17_code
def y_M_steps : MethodName := ⟨R_M, "steps", "(I)Z"⟩
abbrev w_M_steps : List Cond := Cond.code y_M_steps b_M_steps 4 (some .boolean) :: kT
set_option maxRecDepth 20000 in
theorem cd_M_steps : Cond.code y_M_steps b_M_steps 4 (some .boolean) ∈ kT := mk_T 503 rfl rfl
abbrev b_M_write : ByteArray := prog_4_method_12_code
def y_M_write : MethodName := ⟨R_M, "write", "(II)V"⟩
abbrev w_M_write : List Cond := Cond.code y_M_write b_M_write 3 none :: kT
set_option maxRecDepth 20000 in
theorem cd_M_write : Cond.code y_M_write b_M_write 3 none ∈ kT := mk_T 507 rfl rfl
abbrev b_M_giveAll : ByteArray := prog_4_method_15_code
def y_M_giveAll : MethodName := ⟨R_M, "giveAll", "(I)V"⟩
abbrev w_M_giveAll : List Cond := Cond.code y_M_giveAll b_M_giveAll 4 none :: kT
set_option maxRecDepth 20000 in
theorem cd_M_giveAll : Cond.code y_M_giveAll b_M_giveAll 4 none ∈ kT := mk_T 511 rfl rfl
abbrev b_M_giveBack : ByteArray := prog_4_method_14_code
def y_M_giveBack : MethodName := ⟨R_M, "giveBack", "(I)V"⟩
abbrev w_M_giveBack : List Cond := Cond.code y_M_giveBack b_M_giveBack 3 none :: kT
set_option maxRecDepth 20000 in
theorem cd_M_giveBack : Cond.code y_M_giveBack b_M_giveBack 3 none ∈ kT := mk_T 515 rfl rfl
abbrev b_M_first : ByteArray := prog_4_method_13_code
def y_M_first : MethodName := ⟨R_M, "first", "(I)I"⟩
abbrev w_M_first : List Cond := Cond.code y_M_first b_M_first 4 (some .int) :: kT
set_option maxRecDepth 20000 in
theorem cd_M_first : Cond.code y_M_first b_M_first 4 (some .int) ∈ kT := mk_T 519 rfl rfl
abbrev b_M_goesOn : ByteArray := prog_4_method_16_code
def y_M_goesOn : MethodName := ⟨R_M, "goesOn", "(I)V"⟩
abbrev w_M_goesOn : List Cond := Cond.code y_M_goesOn b_M_goesOn 2 none :: kT
set_option maxRecDepth 20000 in
theorem cd_M_goesOn : Cond.code y_M_goesOn b_M_goesOn 2 none ∈ kT := mk_T 523 rfl rfl
abbrev b_M_log : ByteArray := prog_4_method_20_code
def y_M_log : MethodName := ⟨R_M, "log", "(I)I"⟩
abbrev w_M_log : List Cond := Cond.code y_M_log b_M_log 2 (some .int) :: kT
set_option maxRecDepth 20000 in
theorem cd_M_log : Cond.code y_M_log b_M_log 2 (some .int) ∈ kT := mk_T 527 rfl rfl
abbrev b_M_holder : ByteArray := prog_4_method_21_code
def y_M_holder : MethodName := ⟨R_M, "holder", "(I)I"⟩
abbrev w_M_holder : List Cond := Cond.code y_M_holder b_M_holder 2 (some .int) :: kT
set_option maxRecDepth 20000 in
theorem cd_M_holder : Cond.code y_M_holder b_M_holder 2 (some .int) ∈ kT := mk_T 531 rfl rfl
abbrev b_M_waits : ByteArray := prog_4_method_22_code
def y_M_waits : MethodName := ⟨R_M, "waits", "(II)I"⟩
abbrev w_M_waits : List Cond := Cond.code y_M_waits b_M_waits 6 (some .int) :: kT
set_option maxRecDepth 20000 in
theorem cd_M_waits : Cond.code y_M_waits b_M_waits 6 (some .int) ∈ kT := mk_T 535 rfl rfl
abbrev b_M_interrupt : ByteArray := prog_4_method_23_code
def y_M_interrupt : MethodName := ⟨R_M, "interrupt", "(I)Z"⟩
abbrev w_M_interrupt : List Cond := Cond.code y_M_interrupt b_M_interrupt 2 (some .boolean) :: kT
set_option maxRecDepth 20000 in
theorem cd_M_interrupt : Cond.code y_M_interrupt b_M_interrupt 2 (some .boolean) ∈ kT := mk_T 539 rfl rfl
abbrev b_M_dead : ByteArray := prog_4_method_24_code
def y_M_dead : MethodName := ⟨R_M, "dead", "(I)I"⟩
abbrev w_M_dead : List Cond := Cond.code y_M_dead b_M_dead 2 (some .int) :: kT
set_option maxRecDepth 20000 in
theorem cd_M_dead : Cond.code y_M_dead b_M_dead 2 (some .int) ∈ kT := mk_T 543 rfl rfl
abbrev b_M_ones : ByteArray := prog_4_method_9_code
def y_M_ones : MethodName := ⟨R_M, "ones", "(I)I"⟩
abbrev w_M_ones : List Cond := Cond.code y_M_ones b_M_ones 3 (some .int) :: kT
set_option maxRecDepth 20000 in
theorem cd_M_ones : Cond.code y_M_ones b_M_ones 3 (some .int) ∈ kT := mk_T 546 rfl rfl
abbrev b_M_tick : ByteArray := prog_4_method_25_code
def y_M_tick : MethodName := ⟨R_M, "tick", "(I)I"⟩
abbrev w_M_tick : List Cond := Cond.code y_M_tick b_M_tick 5 (some .int) :: kT
set_option maxRecDepth 20000 in
theorem cd_M_tick : Cond.code y_M_tick b_M_tick 5 (some .int) ∈ kT := mk_T 550 rfl rfl
abbrev b_M_close : ByteArray := prog_4_method_26_code
def y_M_close : MethodName := ⟨R_M, "close", "()I"⟩
abbrev w_M_close : List Cond := Cond.code y_M_close b_M_close 3 (some .int) :: kT
set_option maxRecDepth 20000 in
theorem cd_M_close : Cond.code y_M_close b_M_close 3 (some .int) ∈ kT := mk_T 555 rfl rfl
abbrev b_M_look : ByteArray := prog_4_method_27_code
def y_M_look : MethodName := ⟨R_M, "look", "(II)I"⟩
abbrev w_M_look : List Cond := Cond.code y_M_look b_M_look 3 (some .int) :: kT
set_option maxRecDepth 20000 in
theorem cd_M_look : Cond.code y_M_look b_M_look 3 (some .int) ∈ kT := mk_T 559 rfl rfl
abbrev b_M_count : ByteArray := prog_4_method_28_code
def y_M_count : MethodName := ⟨R_M, "count", "(I)I"⟩
abbrev w_M_count : List Cond := Cond.code y_M_count b_M_count 4 (some .int) :: kT
set_option maxRecDepth 20000 in
theorem cd_M_count : Cond.code y_M_count b_M_count 4 (some .int) ∈ kT := mk_T 563 rfl rfl
theorem gdV {own C : String} {ix : Nat} {y : MethodName} {b : ByteArray} {n : Nat} {r : Option FieldType} (h1 : Cond.methodLink own ix y ∈ kT) (h2 : Cond.instanceMethod y ∈ kT) (h3 : Cond.selects C y y ∈ kT) (h4 : Cond.initialized C ∈ kT) (h5 : Cond.code y b n r ∈ kT) : GoodIn kT (wsV own ix C y (Cond.code y b n r :: kT)) := by
  intro w hw
  have h : w ∈ kT := by
    rcases List.mem_append.mp hw with h | h
    · simp only [List.mem_cons, List.not_mem_nil, or_false] at h
      rcases h with rfl | rfl | rfl | rfl
      · exact h1
      · exact h2
      · exact h3
      · exact h4
    · rcases List.mem_cons.mp h with rfl | h
      · exact h5
      · exact h
  exact ⟨h, kT_good w h⟩
theorem gdS {own : String} {ix : Nat} {y : MethodName} {b : ByteArray} {n : Nat} {r : Option FieldType} (h1 : Cond.methodLink own ix y ∈ kT) (h2 : Cond.static y ∈ kT) (h3 : Cond.initialized own ∈ kT) (h5 : Cond.code y b n r ∈ kT) : GoodIn kT (wsS own ix y (Cond.code y b n r :: kT)) := by
  intro w hw
  have h : w ∈ kT := by
    rcases List.mem_append.mp hw with h | h
    · simp only [List.mem_cons, List.not_mem_nil, or_false] at h
      rcases h with rfl | rfl | rfl
      · exact h1
      · exact h2
      · exact h3
    · rcases List.mem_cons.mp h with rfl | h
      · exact h5
      · exact h
  exact ⟨h, kT_good w h⟩
abbrev b_L_law : ByteArray := code
end
section
theorem ini_K : Cond.initialized R_K ∈ kT := mk_T 1 rfl rfl
theorem ini_D : Cond.initialized R_D ∈ kT := mk_T 9 rfl rfl
theorem ini_M : Cond.initialized R_M ∈ kT := mk_T 3 rfl rfl
theorem ini_L : Cond.initialized R_L ∈ kT := mk_T 0 rfl rfl
theorem fl_K_11 : Cond.fieldLink R_K 11 R_K (T_K 0).2.1 (T_K 0).2.2.1 ∈ kT := mk_T 25 rfl rfl
theorem fl_K_15 : Cond.fieldLink R_K 15 R_K (T_K 1).2.1 (T_K 1).2.2.1 ∈ kT := mk_T 26 rfl rfl
theorem fl_K_19 : Cond.fieldLink R_K 19 R_K (T_K 2).2.1 (T_K 2).2.2.1 ∈ kT := mk_T 27 rfl rfl
theorem fl_K_23 : Cond.fieldLink R_K 23 R_K (T_K 3).2.1 (T_K 3).2.2.1 ∈ kT := mk_T 28 rfl rfl
theorem fl_K_26 : Cond.fieldLink R_K 26 R_K (T_K 4).2.1 (T_K 4).2.2.1 ∈ kT := mk_T 29 rfl rfl
theorem fl_K_29 : Cond.fieldLink R_K 29 R_K (T_K 5).2.1 (T_K 5).2.2.1 ∈ kT := mk_T 30 rfl rfl
theorem fl_K_32 : Cond.fieldLink R_K 32 R_K (T_K 6).2.1 (T_K 6).2.2.1 ∈ kT := mk_T 31 rfl rfl
theorem fl_K_35 : Cond.fieldLink R_K 35 R_K (T_K 7).2.1 (T_K 7).2.2.1 ∈ kT := mk_T 32 rfl rfl
theorem fl_K_38 : Cond.fieldLink R_K 38 R_K (T_K 8).2.1 (T_K 8).2.2.1 ∈ kT := mk_T 33 rfl rfl
theorem fl_K_41 : Cond.fieldLink R_K 41 R_K (T_K 9).2.1 (T_K 9).2.2.1 ∈ kT := mk_T 34 rfl rfl
theorem fl_K_44 : Cond.fieldLink R_K 44 R_K (T_K 10).2.1 (T_K 10).2.2.1 ∈ kT := mk_T 35 rfl rfl
theorem fl_K_47 : Cond.fieldLink R_K 47 R_K (T_K 11).2.1 (T_K 11).2.2.1 ∈ kT := mk_T 36 rfl rfl
theorem fl_K_50 : Cond.fieldLink R_K 50 R_K (T_K 12).2.1 (T_K 12).2.2.1 ∈ kT := mk_T 37 rfl rfl
theorem fl_D_35 : Cond.fieldLink R_D 35 R_D (T_D 0).2.1 (T_D 0).2.2.1 ∈ kT := mk_T 248 rfl rfl
theorem fl_K_117 : Cond.fieldLink R_K 117 R_D (T_D 0).2.1 (T_D 0).2.2.1 ∈ kT := mk_T 249 rfl rfl
theorem fl_D_38 : Cond.fieldLink R_D 38 R_D (T_D 1).2.1 (T_D 1).2.2.1 ∈ kT := mk_T 250 rfl rfl
theorem fl_D_9 : Cond.fieldLink R_D 9 R_D (T_D 2).2.1 (T_D 2).2.2.1 ∈ kT := mk_T 251 rfl rfl
theorem fl_D_41 : Cond.fieldLink R_D 41 R_D (T_D 3).2.1 (T_D 3).2.2.1 ∈ kT := mk_T 252 rfl rfl
theorem fl_K_191 : Cond.fieldLink R_K 191 R_D (T_D 3).2.1 (T_D 3).2.2.1 ∈ kT := mk_T 253 rfl rfl
theorem fl_D_15 : Cond.fieldLink R_D 15 R_D (T_D 4).2.1 (T_D 4).2.2.1 ∈ kT := mk_T 254 rfl rfl
theorem fl_K_92 : Cond.fieldLink R_K 92 R_D (T_D 4).2.1 (T_D 4).2.2.1 ∈ kT := mk_T 255 rfl rfl
theorem fl_D_19 : Cond.fieldLink R_D 19 R_D (T_D 5).2.1 (T_D 5).2.2.1 ∈ kT := mk_T 256 rfl rfl
theorem fl_K_167 : Cond.fieldLink R_K 167 R_D (T_D 5).2.1 (T_D 5).2.2.1 ∈ kT := mk_T 257 rfl rfl
theorem fl_D_22 : Cond.fieldLink R_D 22 R_D (T_D 6).2.1 (T_D 6).2.2.1 ∈ kT := mk_T 258 rfl rfl
theorem fl_K_120 : Cond.fieldLink R_K 120 R_D (T_D 6).2.1 (T_D 6).2.2.1 ∈ kT := mk_T 259 rfl rfl
theorem fl_D_25 : Cond.fieldLink R_D 25 R_D (T_D 7).2.1 (T_D 7).2.2.1 ∈ kT := mk_T 260 rfl rfl
theorem fl_K_188 : Cond.fieldLink R_K 188 R_D (T_D 7).2.1 (T_D 7).2.2.1 ∈ kT := mk_T 261 rfl rfl
theorem fl_D_28 : Cond.fieldLink R_D 28 R_D (T_D 8).2.1 (T_D 8).2.2.1 ∈ kT := mk_T 262 rfl rfl
theorem fl_K_134 : Cond.fieldLink R_K 134 R_D (T_D 8).2.1 (T_D 8).2.2.1 ∈ kT := mk_T 263 rfl rfl
theorem fl_D_32 : Cond.fieldLink R_D 32 R_D (T_D 9).2.1 (T_D 9).2.2.1 ∈ kT := mk_T 264 rfl rfl
theorem fl_K_197 : Cond.fieldLink R_K 197 R_D (T_D 9).2.1 (T_D 9).2.2.1 ∈ kT := mk_T 265 rfl rfl
set_option maxRecDepth 20000 in
theorem fl_M_46 : Cond.fieldLink R_M 46 R_M (T_M 0).2.1 (T_M 0).2.2.1 ∈ kT := mk_T 394 rfl rfl
set_option maxRecDepth 20000 in
theorem fl_M_50 : Cond.fieldLink R_M 50 R_M (T_M 1).2.1 (T_M 1).2.2.1 ∈ kT := mk_T 395 rfl rfl
set_option maxRecDepth 20000 in
theorem fl_M_7 : Cond.fieldLink R_M 7 R_M (T_M 2).2.1 (T_M 2).2.2.1 ∈ kT := mk_T 396 rfl rfl
set_option maxRecDepth 20000 in
theorem fl_M_13 : Cond.fieldLink R_M 13 R_M (T_M 3).2.1 (T_M 3).2.2.1 ∈ kT := mk_T 397 rfl rfl
set_option maxRecDepth 20000 in
theorem fl_M_16 : Cond.fieldLink R_M 16 R_M (T_M 4).2.1 (T_M 4).2.2.1 ∈ kT := mk_T 398 rfl rfl
set_option maxRecDepth 20000 in
theorem fl_M_19 : Cond.fieldLink R_M 19 R_M (T_M 5).2.1 (T_M 5).2.2.1 ∈ kT := mk_T 399 rfl rfl
set_option maxRecDepth 20000 in
theorem fl_M_22 : Cond.fieldLink R_M 22 R_M (T_M 6).2.1 (T_M 6).2.2.1 ∈ kT := mk_T 400 rfl rfl
set_option maxRecDepth 20000 in
theorem fl_M_25 : Cond.fieldLink R_M 25 R_M (T_M 7).2.1 (T_M 7).2.2.1 ∈ kT := mk_T 401 rfl rfl
set_option maxRecDepth 20000 in
theorem fl_M_28 : Cond.fieldLink R_M 28 R_M (T_M 8).2.1 (T_M 8).2.2.1 ∈ kT := mk_T 402 rfl rfl
set_option maxRecDepth 20000 in
theorem fl_M_31 : Cond.fieldLink R_M 31 R_M (T_M 9).2.1 (T_M 9).2.2.1 ∈ kT := mk_T 403 rfl rfl
set_option maxRecDepth 20000 in
theorem fl_M_34 : Cond.fieldLink R_M 34 R_M (T_M 10).2.1 (T_M 10).2.2.1 ∈ kT := mk_T 404 rfl rfl
set_option maxRecDepth 20000 in
theorem fl_M_37 : Cond.fieldLink R_M 37 R_M (T_M 11).2.1 (T_M 11).2.2.1 ∈ kT := mk_T 405 rfl rfl
set_option maxRecDepth 20000 in
theorem fl_M_91 : Cond.fieldLink R_M 91 R_M (T_M 12).2.1 (T_M 12).2.2.1 ∈ kT := mk_T 406 rfl rfl
set_option maxRecDepth 20000 in
theorem fl_M_40 : Cond.fieldLink R_M 40 R_M (T_M 13).2.1 (T_M 13).2.2.1 ∈ kT := mk_T 407 rfl rfl
set_option maxRecDepth 20000 in
theorem fl_M_104 : Cond.fieldLink R_M 104 R_M (T_M 14).2.1 (T_M 14).2.2.1 ∈ kT := mk_T 408 rfl rfl
set_option maxRecDepth 20000 in
theorem fl_M_107 : Cond.fieldLink R_M 107 R_M (T_M 15).2.1 (T_M 15).2.2.1 ∈ kT := mk_T 409 rfl rfl
set_option maxRecDepth 20000 in
theorem fl_M_110 : Cond.fieldLink R_M 110 R_M (T_M 16).2.1 (T_M 16).2.2.1 ∈ kT := mk_T 410 rfl rfl
set_option maxRecDepth 20000 in
theorem fl_M_78 : Cond.fieldLink R_M 78 R_M (T_M 17).2.1 (T_M 17).2.2.1 ∈ kT := mk_T 411 rfl rfl
set_option maxRecDepth 20000 in
theorem fl_M_43 : Cond.fieldLink R_M 43 R_M (T_M 18).2.1 (T_M 18).2.2.1 ∈ kT := mk_T 412 rfl rfl
set_option maxRecDepth 20000 in
theorem fl_M_84 : Cond.fieldLink R_M 84 R_M (T_M 19).2.1 (T_M 19).2.2.1 ∈ kT := mk_T 413 rfl rfl
set_option maxRecDepth 20000 in
theorem fl_M_61 : Cond.fieldLink R_M 61 R_M (T_M 20).2.1 (T_M 20).2.2.1 ∈ kT := mk_T 414 rfl rfl
theorem im_K_init : Cond.instanceMethod y_K_init ∈ kT := mk_T 15 rfl rfl
theorem st_A_fill : Cond.static y_A_fill ∈ kT := mk_T 23 rfl rfl
theorem se_K_needs : Cond.selects R_K y_K_needs y_K_needs ∈ kT := mk_T 68 rfl rfl
theorem im_K_needs : Cond.instanceMethod y_K_needs ∈ kT := mk_T 67 rfl rfl
theorem se_K_deskAt : Cond.selects R_K y_K_deskAt y_K_deskAt ∈ kT := mk_S 0 rfl rfl
theorem im_K_deskAt : Cond.instanceMethod y_K_deskAt ∈ kT := mk_T 72 rfl rfl
theorem st_K_isSubject : Cond.static y_K_isSubject ∈ kT := mk_T 75 rfl rfl
theorem se_D_isAhead : Cond.selects R_D y_D_isAhead y_D_isAhead ∈ kT := mk_T 79 rfl rfl
theorem im_D_isAhead : Cond.instanceMethod y_D_isAhead ∈ kT := mk_T 78 rfl rfl
theorem se_D_hasNeed : Cond.selects R_D y_D_hasNeed y_D_hasNeed ∈ kT := mk_T 83 rfl rfl
theorem im_D_hasNeed : Cond.instanceMethod y_D_hasNeed ∈ kT := mk_T 82 rfl rfl
theorem se_K_isInTheMidst : Cond.selects R_K y_K_isInTheMidst y_K_isInTheMidst ∈ kT := mk_S 1 rfl rfl
theorem im_K_isInTheMidst : Cond.instanceMethod y_K_isInTheMidst ∈ kT := mk_T 87 rfl rfl
theorem se_K_heldBy : Cond.selects R_K y_K_heldBy y_K_heldBy ∈ kT := mk_S 2 rfl rfl
theorem im_K_heldBy : Cond.instanceMethod y_K_heldBy ∈ kT := mk_T 91 rfl rfl
theorem se_D_addNeed : Cond.selects R_D y_D_addNeed y_D_addNeed ∈ kT := mk_T 95 rfl rfl
theorem im_D_addNeed : Cond.instanceMethod y_D_addNeed ∈ kT := mk_T 94 rfl rfl
theorem se_K_log : Cond.selects R_K y_K_log y_K_log ∈ kT := mk_T 99 rfl rfl
theorem im_K_log : Cond.instanceMethod y_K_log ∈ kT := mk_T 98 rfl rfl
theorem se_K_interrupt : Cond.selects R_K y_K_interrupt y_K_interrupt ∈ kT := mk_T 103 rfl rfl
theorem im_K_interrupt : Cond.instanceMethod y_K_interrupt ∈ kT := mk_T 102 rfl rfl
theorem se_K_giveBackAll : Cond.selects R_K y_K_giveBackAll y_K_giveBackAll ∈ kT := mk_S 3 rfl rfl
theorem im_K_giveBackAll : Cond.instanceMethod y_K_giveBackAll ∈ kT := mk_T 107 rfl rfl
theorem se_K_giveBack : Cond.selects R_K y_K_giveBack y_K_giveBack ∈ kT := mk_S 4 rfl rfl
theorem im_K_giveBack : Cond.instanceMethod y_K_giveBack ∈ kT := mk_T 111 rfl rfl
theorem se_K_waiterFor : Cond.selects R_K y_K_waiterFor y_K_waiterFor ∈ kT := mk_S 5 rfl rfl
theorem im_K_waiterFor : Cond.instanceMethod y_K_waiterFor ∈ kT := mk_T 115 rfl rfl
theorem se_K_waitersAheadOf : Cond.selects R_K y_K_waitersAheadOf y_K_waitersAheadOf ∈ kT := mk_S 6 rfl rfl
theorem im_K_waitersAheadOf : Cond.instanceMethod y_K_waitersAheadOf ∈ kT := mk_T 119 rfl rfl
theorem se_K_take : Cond.selects R_K y_K_take y_K_take ∈ kT := mk_S 7 rfl rfl
theorem im_K_take : Cond.instanceMethod y_K_take ∈ kT := mk_T 123 rfl rfl
theorem se_K_tell : Cond.selects R_K y_K_tell y_K_tell ∈ kT := mk_S 8 rfl rfl
theorem im_K_tell : Cond.instanceMethod y_K_tell ∈ kT := mk_T 127 rfl rfl
theorem se_K_close : Cond.selects R_K y_K_close y_K_close ∈ kT := mk_T 131 rfl rfl
theorem im_K_close : Cond.instanceMethod y_K_close ∈ kT := mk_T 130 rfl rfl
theorem se_D_condition : Cond.selects R_D y_D_condition y_D_condition ∈ kT := mk_T 135 rfl rfl
theorem im_D_condition : Cond.instanceMethod y_D_condition ∈ kT := mk_T 134 rfl rfl
theorem se_K_end : Cond.selects R_K y_K_end y_K_end ∈ kT := mk_S 9 rfl rfl
theorem im_K_end : Cond.instanceMethod y_K_end ∈ kT := mk_T 139 rfl rfl
theorem se_K_count : Cond.selects R_K y_K_count y_K_count ∈ kT := mk_T 143 rfl rfl
theorem im_K_count : Cond.instanceMethod y_K_count ∈ kT := mk_T 142 rfl rfl
theorem se_K_subjectsHeld : Cond.selects R_K y_K_subjectsHeld y_K_subjectsHeld ∈ kT := mk_S 10 rfl rfl
theorem im_K_subjectsHeld : Cond.instanceMethod y_K_subjectsHeld ∈ kT := mk_T 147 rfl rfl
theorem st_L_desk : Cond.static y_L_desk ∈ kT := mk_T 150 rfl rfl
theorem se_K_desk : Cond.selects R_K y_K_desk y_K_desk ∈ kT := mk_T 156 rfl rfl
theorem im_K_desk : Cond.instanceMethod y_K_desk ∈ kT := mk_T 155 rfl rfl
theorem im_D_init : Cond.instanceMethod y_D_init ∈ kT := mk_T 245 rfl rfl
theorem st_L_turn : Cond.static y_L_turn ∈ kT := mk_T 288 rfl rfl
theorem se_K_turn : Cond.selects R_K y_K_turn y_K_turn ∈ kT := mk_T 292 rfl rfl
theorem im_K_turn : Cond.instanceMethod y_K_turn ∈ kT := mk_T 291 rfl rfl
theorem st_L_run : Cond.static y_L_run ∈ kT := mk_T 297 rfl rfl
set_option maxRecDepth 20000 in
theorem se_K_run : Cond.selects R_K y_K_run y_K_run ∈ kT := mk_T 301 rfl rfl
theorem im_K_run : Cond.instanceMethod y_K_run ∈ kT := mk_T 300 rfl rfl
theorem se_K_takeTurn : Cond.selects R_K y_K_takeTurn y_K_takeTurn ∈ kT := mk_S 12 rfl rfl
set_option maxRecDepth 20000 in
theorem im_K_takeTurn : Cond.instanceMethod y_K_takeTurn ∈ kT := mk_T 306 rfl rfl
theorem se_K_leastLacking : Cond.selects R_K y_K_leastLacking y_K_leastLacking ∈ kT := mk_S 13 rfl rfl
set_option maxRecDepth 20000 in
theorem im_K_leastLacking : Cond.instanceMethod y_K_leastLacking ∈ kT := mk_T 310 rfl rfl
theorem se_K_ask : Cond.selects R_K y_K_ask y_K_ask ∈ kT := mk_S 14 rfl rfl
set_option maxRecDepth 20000 in
theorem im_K_ask : Cond.instanceMethod y_K_ask ∈ kT := mk_T 314 rfl rfl
theorem se_K_doOrUndo : Cond.selects R_K y_K_doOrUndo y_K_doOrUndo ∈ kT := mk_S 15 rfl rfl
set_option maxRecDepth 20000 in
theorem im_K_doOrUndo : Cond.instanceMethod y_K_doOrUndo ∈ kT := mk_T 318 rfl rfl
set_option maxRecDepth 20000 in
theorem st_L_holder : Cond.static y_L_holder ∈ kT := mk_T 321 rfl rfl
set_option maxRecDepth 20000 in
theorem se_K_holder : Cond.selects R_K y_K_holder y_K_holder ∈ kT := mk_T 325 rfl rfl
set_option maxRecDepth 20000 in
theorem im_K_holder : Cond.instanceMethod y_K_holder ∈ kT := mk_T 324 rfl rfl
set_option maxRecDepth 20000 in
theorem st_L_waits : Cond.static y_L_waits ∈ kT := mk_T 329 rfl rfl
set_option maxRecDepth 20000 in
theorem se_K_waits : Cond.selects R_K y_K_waits y_K_waits ∈ kT := mk_T 333 rfl rfl
set_option maxRecDepth 20000 in
theorem im_K_waits : Cond.instanceMethod y_K_waits ∈ kT := mk_T 332 rfl rfl
set_option maxRecDepth 20000 in
theorem st_L_dead : Cond.static y_L_dead ∈ kT := mk_T 336 rfl rfl
set_option maxRecDepth 20000 in
theorem se_K_dead : Cond.selects R_K y_K_dead y_K_dead ∈ kT := mk_T 340 rfl rfl
set_option maxRecDepth 20000 in
theorem im_K_dead : Cond.instanceMethod y_K_dead ∈ kT := mk_T 339 rfl rfl
set_option maxRecDepth 20000 in
theorem st_K_isAlive : Cond.static y_K_isAlive ∈ kT := mk_T 343 rfl rfl
set_option maxRecDepth 20000 in
theorem st_I_bitCount : Cond.static y_I_bitCount ∈ kT := mk_T 346 rfl rfl
set_option maxRecDepth 20000 in
theorem st_L_tick : Cond.static y_L_tick ∈ kT := mk_T 352 rfl rfl
set_option maxRecDepth 20000 in
theorem se_K_tick : Cond.selects R_K y_K_tick y_K_tick ∈ kT := mk_T 356 rfl rfl
set_option maxRecDepth 20000 in
theorem im_K_tick : Cond.instanceMethod y_K_tick ∈ kT := mk_T 355 rfl rfl
theorem se_K_isOverdue : Cond.selects R_K y_K_isOverdue y_K_isOverdue ∈ kT := mk_S 16 rfl rfl
set_option maxRecDepth 20000 in
theorem im_K_isOverdue : Cond.instanceMethod y_K_isOverdue ∈ kT := mk_T 362 rfl rfl
set_option maxRecDepth 20000 in
theorem st_L_look : Cond.static y_L_look ∈ kT := mk_T 365 rfl rfl
set_option maxRecDepth 20000 in
theorem se_K_look : Cond.selects R_K y_K_look y_K_look ∈ kT := mk_T 370 rfl rfl
set_option maxRecDepth 20000 in
theorem im_K_look : Cond.instanceMethod y_K_look ∈ kT := mk_T 369 rfl rfl
set_option maxRecDepth 20000 in
theorem im_M_init : Cond.instanceMethod y_M_init ∈ kT := mk_T 391 rfl rfl
set_option maxRecDepth 20000 in
theorem se_M_thrown : Cond.selects R_M y_M_thrown y_M_thrown ∈ kT := mk_T 460 rfl rfl
set_option maxRecDepth 20000 in
theorem im_M_thrown : Cond.instanceMethod y_M_thrown ∈ kT := mk_T 459 rfl rfl
set_option maxRecDepth 20000 in
theorem se_M_desk : Cond.selects R_M y_M_desk y_M_desk ∈ kT := mk_T 464 rfl rfl
set_option maxRecDepth 20000 in
theorem im_M_desk : Cond.instanceMethod y_M_desk ∈ kT := mk_T 463 rfl rfl
set_option maxRecDepth 20000 in
theorem st_M_in : Cond.static y_M_in ∈ kT := mk_T 467 rfl rfl
theorem se_M_refuse : Cond.selects R_M y_M_refuse y_M_refuse ∈ kT := mk_S 17 rfl rfl
set_option maxRecDepth 20000 in
theorem im_M_refuse : Cond.instanceMethod y_M_refuse ∈ kT := mk_T 471 rfl rfl
set_option maxRecDepth 20000 in
theorem se_M_needs : Cond.selects R_M y_M_needs y_M_needs ∈ kT := mk_T 475 rfl rfl
set_option maxRecDepth 20000 in
theorem im_M_needs : Cond.instanceMethod y_M_needs ∈ kT := mk_T 474 rfl rfl
theorem se_M_isDesk : Cond.selects R_M y_M_isDesk y_M_isDesk ∈ kT := mk_S 18 rfl rfl
set_option maxRecDepth 20000 in
theorem im_M_isDesk : Cond.instanceMethod y_M_isDesk ∈ kT := mk_T 479 rfl rfl
set_option maxRecDepth 20000 in
theorem st_M_isSubject : Cond.static y_M_isSubject ∈ kT := mk_T 482 rfl rfl
theorem se_M_isMidst : Cond.selects R_M y_M_isMidst y_M_isMidst ∈ kT := mk_S 19 rfl rfl
set_option maxRecDepth 20000 in
theorem im_M_isMidst : Cond.instanceMethod y_M_isMidst ∈ kT := mk_T 486 rfl rfl
theorem se_M_held : Cond.selects R_M y_M_held y_M_held ∈ kT := mk_S 20 rfl rfl
set_option maxRecDepth 20000 in
theorem im_M_held : Cond.instanceMethod y_M_held ∈ kT := mk_T 490 rfl rfl
set_option maxRecDepth 20000 in
theorem se_M_turn : Cond.selects R_M y_M_turn y_M_turn ∈ kT := mk_T 494 rfl rfl
set_option maxRecDepth 20000 in
theorem im_M_turn : Cond.instanceMethod y_M_turn ∈ kT := mk_T 493 rfl rfl
set_option maxRecDepth 20000 in
theorem se_M_run : Cond.selects R_M y_M_run y_M_run ∈ kT := mk_T 498 rfl rfl
set_option maxRecDepth 20000 in
theorem im_M_run : Cond.instanceMethod y_M_run ∈ kT := mk_T 497 rfl rfl
theorem se_M_steps : Cond.selects R_M y_M_steps y_M_steps ∈ kT := mk_S 21 rfl rfl
set_option maxRecDepth 20000 in
theorem im_M_steps : Cond.instanceMethod y_M_steps ∈ kT := mk_T 502 rfl rfl
theorem se_M_write : Cond.selects R_M y_M_write y_M_write ∈ kT := mk_S 22 rfl rfl
set_option maxRecDepth 20000 in
theorem im_M_write : Cond.instanceMethod y_M_write ∈ kT := mk_T 506 rfl rfl
theorem se_M_giveAll : Cond.selects R_M y_M_giveAll y_M_giveAll ∈ kT := mk_S 23 rfl rfl
set_option maxRecDepth 20000 in
theorem im_M_giveAll : Cond.instanceMethod y_M_giveAll ∈ kT := mk_T 510 rfl rfl
theorem se_M_giveBack : Cond.selects R_M y_M_giveBack y_M_giveBack ∈ kT := mk_S 24 rfl rfl
set_option maxRecDepth 20000 in
theorem im_M_giveBack : Cond.instanceMethod y_M_giveBack ∈ kT := mk_T 514 rfl rfl
theorem se_M_first : Cond.selects R_M y_M_first y_M_first ∈ kT := mk_S 25 rfl rfl
set_option maxRecDepth 20000 in
theorem im_M_first : Cond.instanceMethod y_M_first ∈ kT := mk_T 518 rfl rfl
theorem se_M_goesOn : Cond.selects R_M y_M_goesOn y_M_goesOn ∈ kT := mk_S 26 rfl rfl
set_option maxRecDepth 20000 in
theorem im_M_goesOn : Cond.instanceMethod y_M_goesOn ∈ kT := mk_T 522 rfl rfl
set_option maxRecDepth 20000 in
theorem se_M_log : Cond.selects R_M y_M_log y_M_log ∈ kT := mk_T 526 rfl rfl
set_option maxRecDepth 20000 in
theorem im_M_log : Cond.instanceMethod y_M_log ∈ kT := mk_T 525 rfl rfl
set_option maxRecDepth 20000 in
theorem se_M_holder : Cond.selects R_M y_M_holder y_M_holder ∈ kT := mk_T 530 rfl rfl
set_option maxRecDepth 20000 in
theorem im_M_holder : Cond.instanceMethod y_M_holder ∈ kT := mk_T 529 rfl rfl
set_option maxRecDepth 20000 in
theorem se_M_waits : Cond.selects R_M y_M_waits y_M_waits ∈ kT := mk_T 534 rfl rfl
set_option maxRecDepth 20000 in
theorem im_M_waits : Cond.instanceMethod y_M_waits ∈ kT := mk_T 533 rfl rfl
set_option maxRecDepth 20000 in
theorem se_M_interrupt : Cond.selects R_M y_M_interrupt y_M_interrupt ∈ kT := mk_T 538 rfl rfl
set_option maxRecDepth 20000 in
theorem im_M_interrupt : Cond.instanceMethod y_M_interrupt ∈ kT := mk_T 537 rfl rfl
set_option maxRecDepth 20000 in
theorem se_M_dead : Cond.selects R_M y_M_dead y_M_dead ∈ kT := mk_T 542 rfl rfl
set_option maxRecDepth 20000 in
theorem im_M_dead : Cond.instanceMethod y_M_dead ∈ kT := mk_T 541 rfl rfl
set_option maxRecDepth 20000 in
theorem st_M_ones : Cond.static y_M_ones ∈ kT := mk_T 545 rfl rfl
set_option maxRecDepth 20000 in
theorem se_M_tick : Cond.selects R_M y_M_tick y_M_tick ∈ kT := mk_T 549 rfl rfl
set_option maxRecDepth 20000 in
theorem im_M_tick : Cond.instanceMethod y_M_tick ∈ kT := mk_T 548 rfl rfl
set_option maxRecDepth 20000 in
theorem se_M_close : Cond.selects R_M y_M_close y_M_close ∈ kT := mk_T 554 rfl rfl
set_option maxRecDepth 20000 in
theorem im_M_close : Cond.instanceMethod y_M_close ∈ kT := mk_T 553 rfl rfl
set_option maxRecDepth 20000 in
theorem se_M_look : Cond.selects R_M y_M_look y_M_look ∈ kT := mk_T 558 rfl rfl
set_option maxRecDepth 20000 in
theorem im_M_look : Cond.instanceMethod y_M_look ∈ kT := mk_T 557 rfl rfl
set_option maxRecDepth 20000 in
theorem se_M_count : Cond.selects R_M y_M_count y_M_count ∈ kT := mk_T 562 rfl rfl
set_option maxRecDepth 20000 in
theorem im_M_count : Cond.instanceMethod y_M_count ∈ kT := mk_T 561 rfl rfl
theorem ml_L_42 : Cond.methodLink R_L 42 y_K_init ∈ kT := mk_T 14 rfl rfl
theorem ml_K_54 : Cond.methodLink R_K 54 y_A_fill ∈ kT := mk_T 22 rfl rfl
theorem ml_L_55 : Cond.methodLink R_L 55 y_K_needs ∈ kT := mk_T 66 rfl rfl
theorem gd_L_55 : GoodIn kT (wsV R_L 55 R_K y_K_needs w_K_needs) := gdV ml_L_55 im_K_needs se_K_needs ini_K cd_K_needs
theorem ml_K_77 : Cond.methodLink R_K 77 y_K_deskAt ∈ kT := mk_T 70 rfl rfl
theorem gd_K_77 : GoodIn kT (wsV R_K 77 R_K y_K_deskAt w_K_deskAt) := gdV ml_K_77 im_K_deskAt se_K_deskAt ini_K cd_K_deskAt
theorem ml_K_81 : Cond.methodLink R_K 81 y_K_isSubject ∈ kT := mk_T 74 rfl rfl
theorem gd_K_81 : GoodIn kT (wsS R_K 81 y_K_isSubject w_K_isSubject) := gdS ml_K_81 st_K_isSubject ini_K cd_K_isSubject
theorem ml_K_85 : Cond.methodLink R_K 85 y_D_isAhead ∈ kT := mk_T 77 rfl rfl
theorem gd_K_85 : GoodIn kT (wsV R_K 85 R_D y_D_isAhead w_D_isAhead) := gdV ml_K_85 im_D_isAhead se_D_isAhead ini_D cd_D_isAhead
theorem ml_K_88 : Cond.methodLink R_K 88 y_D_hasNeed ∈ kT := mk_T 81 rfl rfl
theorem gd_K_88 : GoodIn kT (wsV R_K 88 R_D y_D_hasNeed w_D_hasNeed) := gdV ml_K_88 im_D_hasNeed se_D_hasNeed ini_D cd_D_hasNeed
theorem ml_K_95 : Cond.methodLink R_K 95 y_K_isInTheMidst ∈ kT := mk_T 85 rfl rfl
theorem gd_K_95 : GoodIn kT (wsV R_K 95 R_K y_K_isInTheMidst w_K_isInTheMidst) := gdV ml_K_95 im_K_isInTheMidst se_K_isInTheMidst ini_K cd_K_isInTheMidst
theorem ml_K_137 : Cond.methodLink R_K 137 y_K_heldBy ∈ kT := mk_T 89 rfl rfl
theorem gd_K_137 : GoodIn kT (wsV R_K 137 R_K y_K_heldBy w_K_heldBy) := gdV ml_K_137 im_K_heldBy se_K_heldBy ini_K cd_K_heldBy
theorem ml_K_99 : Cond.methodLink R_K 99 y_D_addNeed ∈ kT := mk_T 93 rfl rfl
theorem gd_K_99 : GoodIn kT (wsV R_K 99 R_D y_D_addNeed w_D_addNeed) := gdV ml_K_99 im_D_addNeed se_D_addNeed ini_D cd_D_addNeed
theorem ml_L_68 : Cond.methodLink R_L 68 y_K_log ∈ kT := mk_T 97 rfl rfl
theorem gd_L_68 : GoodIn kT (wsV R_L 68 R_K y_K_log w_K_log) := gdV ml_L_68 im_K_log se_K_log ini_K cd_K_log
theorem ml_L_78 : Cond.methodLink R_L 78 y_K_interrupt ∈ kT := mk_T 101 rfl rfl
theorem gd_L_78 : GoodIn kT (wsV R_L 78 R_K y_K_interrupt w_K_interrupt) := gdV ml_L_78 im_K_interrupt se_K_interrupt ini_K cd_K_interrupt
theorem ml_K_123 : Cond.methodLink R_K 123 y_K_giveBackAll ∈ kT := mk_T 105 rfl rfl
theorem gd_K_123 : GoodIn kT (wsV R_K 123 R_K y_K_giveBackAll w_K_giveBackAll) := gdV ml_K_123 im_K_giveBackAll se_K_giveBackAll ini_K cd_K_giveBackAll
theorem ml_K_153 : Cond.methodLink R_K 153 y_K_giveBack ∈ kT := mk_T 109 rfl rfl
theorem gd_K_153 : GoodIn kT (wsV R_K 153 R_K y_K_giveBack w_K_giveBack) := gdV ml_K_153 im_K_giveBack se_K_giveBack ini_K cd_K_giveBack
theorem ml_K_113 : Cond.methodLink R_K 113 y_K_waiterFor ∈ kT := mk_T 113 rfl rfl
theorem gd_K_113 : GoodIn kT (wsV R_K 113 R_K y_K_waiterFor w_K_waiterFor) := gdV ml_K_113 im_K_waiterFor se_K_waiterFor ini_K cd_K_waiterFor
theorem ml_K_194 : Cond.methodLink R_K 194 y_K_waitersAheadOf ∈ kT := mk_T 117 rfl rfl
theorem gd_K_194 : GoodIn kT (wsV R_K 194 R_K y_K_waitersAheadOf w_K_waitersAheadOf) := gdV ml_K_194 im_K_waitersAheadOf se_K_waitersAheadOf ini_K cd_K_waitersAheadOf
theorem ml_K_185 : Cond.methodLink R_K 185 y_K_take ∈ kT := mk_T 121 rfl rfl
theorem gd_K_185 : GoodIn kT (wsV R_K 185 R_K y_K_take w_K_take) := gdV ml_K_185 im_K_take se_K_take ini_K cd_K_take
theorem ml_K_127 : Cond.methodLink R_K 127 y_K_tell ∈ kT := mk_T 125 rfl rfl
theorem gd_K_127 : GoodIn kT (wsV R_K 127 R_K y_K_tell w_K_tell) := gdV ml_K_127 im_K_tell se_K_tell ini_K cd_K_tell
theorem ml_L_89 : Cond.methodLink R_L 89 y_K_close ∈ kT := mk_T 129 rfl rfl
theorem gd_L_89 : GoodIn kT (wsV R_L 89 R_K y_K_close w_K_close) := gdV ml_L_89 im_K_close se_K_close ini_K cd_K_close
theorem ml_K_157 : Cond.methodLink R_K 157 y_D_condition ∈ kT := mk_T 133 rfl rfl
theorem gd_K_157 : GoodIn kT (wsV R_K 157 R_D y_D_condition w_D_condition) := gdV ml_K_157 im_D_condition se_D_condition ini_D cd_D_condition
theorem ml_K_161 : Cond.methodLink R_K 161 y_K_end ∈ kT := mk_T 137 rfl rfl
theorem gd_K_161 : GoodIn kT (wsV R_K 161 R_K y_K_end w_K_end) := gdV ml_K_161 im_K_end se_K_end ini_K cd_K_end
theorem ml_L_96 : Cond.methodLink R_L 96 y_K_count ∈ kT := mk_T 141 rfl rfl
theorem gd_L_96 : GoodIn kT (wsV R_L 96 R_K y_K_count w_K_count) := gdV ml_L_96 im_K_count se_K_count ini_K cd_K_count
theorem ml_K_172 : Cond.methodLink R_K 172 y_K_subjectsHeld ∈ kT := mk_T 145 rfl rfl
theorem gd_K_172 : GoodIn kT (wsV R_K 172 R_K y_K_subjectsHeld w_K_subjectsHeld) := gdV ml_K_172 im_K_subjectsHeld se_K_subjectsHeld ini_K cd_K_subjectsHeld
theorem ml_L_46 : Cond.methodLink R_L 46 y_L_desk ∈ kT := mk_T 149 rfl rfl
theorem ml_L_7 : Cond.methodLink R_L 7 y_K_desk ∈ kT := mk_T 154 rfl rfl
theorem gd_L_7 : GoodIn kT (wsV R_L 7 R_K y_K_desk w_K_desk) := gdV ml_L_7 im_K_desk se_K_desk ini_K cd_K_desk
theorem ml_K_74 : Cond.methodLink R_K 74 y_D_init ∈ kT := mk_T 244 rfl rfl
theorem ml_L_60 : Cond.methodLink R_L 60 y_L_turn ∈ kT := mk_T 287 rfl rfl
theorem ml_L_17 : Cond.methodLink R_L 17 y_K_turn ∈ kT := mk_T 290 rfl rfl
theorem gd_L_17 : GoodIn kT (wsV R_L 17 R_K y_K_turn w_K_turn) := gdV ml_L_17 im_K_turn se_K_turn ini_K cd_K_turn
theorem ml_L_64 : Cond.methodLink R_L 64 y_L_run ∈ kT := mk_T 296 rfl rfl
theorem ml_L_21 : Cond.methodLink R_L 21 y_K_run ∈ kT := mk_T 299 rfl rfl
theorem gd_L_21 : GoodIn kT (wsV R_L 21 R_K y_K_run w_K_run) := gdV ml_L_21 im_K_run se_K_run ini_K cd_K_run
set_option maxRecDepth 20000 in
theorem ml_K_108 : Cond.methodLink R_K 108 y_K_takeTurn ∈ kT := mk_T 304 rfl rfl
theorem gd_K_108 : GoodIn kT (wsV R_K 108 R_K y_K_takeTurn w_K_takeTurn) := gdV ml_K_108 im_K_takeTurn se_K_takeTurn ini_K cd_K_takeTurn
set_option maxRecDepth 20000 in
theorem ml_K_175 : Cond.methodLink R_K 175 y_K_leastLacking ∈ kT := mk_T 308 rfl rfl
theorem gd_K_175 : GoodIn kT (wsV R_K 175 R_K y_K_leastLacking w_K_leastLacking) := gdV ml_K_175 im_K_leastLacking se_K_leastLacking ini_K cd_K_leastLacking
set_option maxRecDepth 20000 in
theorem ml_K_178 : Cond.methodLink R_K 178 y_K_ask ∈ kT := mk_T 312 rfl rfl
theorem gd_K_178 : GoodIn kT (wsV R_K 178 R_K y_K_ask w_K_ask) := gdV ml_K_178 im_K_ask se_K_ask ini_K cd_K_ask
set_option maxRecDepth 20000 in
theorem ml_K_182 : Cond.methodLink R_K 182 y_K_doOrUndo ∈ kT := mk_T 316 rfl rfl
theorem gd_K_182 : GoodIn kT (wsV R_K 182 R_K y_K_doOrUndo w_K_doOrUndo) := gdV ml_K_182 im_K_doOrUndo se_K_doOrUndo ini_K cd_K_doOrUndo
set_option maxRecDepth 20000 in
theorem ml_L_72 : Cond.methodLink R_L 72 y_L_holder ∈ kT := mk_T 320 rfl rfl
set_option maxRecDepth 20000 in
theorem ml_L_25 : Cond.methodLink R_L 25 y_K_holder ∈ kT := mk_T 323 rfl rfl
theorem gd_L_25 : GoodIn kT (wsV R_L 25 R_K y_K_holder w_K_holder) := gdV ml_L_25 im_K_holder se_K_holder ini_K cd_K_holder
set_option maxRecDepth 20000 in
theorem ml_L_75 : Cond.methodLink R_L 75 y_L_waits ∈ kT := mk_T 328 rfl rfl
set_option maxRecDepth 20000 in
theorem ml_L_28 : Cond.methodLink R_L 28 y_K_waits ∈ kT := mk_T 331 rfl rfl
theorem gd_L_28 : GoodIn kT (wsV R_L 28 R_K y_K_waits w_K_waits) := gdV ml_L_28 im_K_waits se_K_waits ini_K cd_K_waits
set_option maxRecDepth 20000 in
theorem ml_L_83 : Cond.methodLink R_L 83 y_L_dead ∈ kT := mk_T 335 rfl rfl
set_option maxRecDepth 20000 in
theorem ml_L_31 : Cond.methodLink R_L 31 y_K_dead ∈ kT := mk_T 338 rfl rfl
theorem gd_L_31 : GoodIn kT (wsV R_L 31 R_K y_K_dead w_K_dead) := gdV ml_L_31 im_K_dead se_K_dead ini_K cd_K_dead
set_option maxRecDepth 20000 in
theorem ml_K_131 : Cond.methodLink R_K 131 y_K_isAlive ∈ kT := mk_T 342 rfl rfl
theorem gd_K_131 : GoodIn kT (wsS R_K 131 y_K_isAlive w_K_isAlive) := gdS ml_K_131 st_K_isAlive ini_K cd_K_isAlive
set_option maxRecDepth 20000 in
theorem ml_K_141 : Cond.methodLink R_K 141 y_I_bitCount ∈ kT := mk_T 345 rfl rfl
set_option maxRecDepth 20000 in
theorem ml_L_86 : Cond.methodLink R_L 86 y_L_tick ∈ kT := mk_T 351 rfl rfl
set_option maxRecDepth 20000 in
theorem ml_L_34 : Cond.methodLink R_L 34 y_K_tick ∈ kT := mk_T 354 rfl rfl
theorem gd_L_34 : GoodIn kT (wsV R_L 34 R_K y_K_tick w_K_tick) := gdV ml_L_34 im_K_tick se_K_tick ini_K cd_K_tick
set_option maxRecDepth 20000 in
theorem ml_K_150 : Cond.methodLink R_K 150 y_K_isOverdue ∈ kT := mk_T 360 rfl rfl
theorem gd_K_150 : GoodIn kT (wsV R_K 150 R_K y_K_isOverdue w_K_isOverdue) := gdV ml_K_150 im_K_isOverdue se_K_isOverdue ini_K cd_K_isOverdue
set_option maxRecDepth 20000 in
theorem ml_L_93 : Cond.methodLink R_L 93 y_L_look ∈ kT := mk_T 364 rfl rfl
set_option maxRecDepth 20000 in
theorem ml_L_37 : Cond.methodLink R_L 37 y_K_look ∈ kT := mk_T 368 rfl rfl
theorem gd_L_37 : GoodIn kT (wsV R_L 37 R_K y_K_look w_K_look) := gdV ml_L_37 im_K_look se_K_look ini_K cd_K_look
set_option maxRecDepth 20000 in
theorem ml_L_45 : Cond.methodLink R_L 45 y_M_init ∈ kT := mk_T 390 rfl rfl
set_option maxRecDepth 20000 in
theorem ml_L_52 : Cond.methodLink R_L 52 y_M_thrown ∈ kT := mk_T 458 rfl rfl
theorem gd_L_52 : GoodIn kT (wsV R_L 52 R_M y_M_thrown w_M_thrown) := gdV ml_L_52 im_M_thrown se_M_thrown ini_M cd_M_thrown
set_option maxRecDepth 20000 in
theorem ml_L_51 : Cond.methodLink R_L 51 y_M_desk ∈ kT := mk_T 462 rfl rfl
theorem gd_L_51 : GoodIn kT (wsV R_L 51 R_M y_M_desk w_M_desk) := gdV ml_L_51 im_M_desk se_M_desk ini_M cd_M_desk
set_option maxRecDepth 20000 in
theorem ml_M_53 : Cond.methodLink R_M 53 y_M_in ∈ kT := mk_T 466 rfl rfl
theorem gd_M_53 : GoodIn kT (wsS R_M 53 y_M_in w_M_in) := gdS ml_M_53 st_M_in ini_M cd_M_in
set_option maxRecDepth 20000 in
theorem ml_M_57 : Cond.methodLink R_M 57 y_M_refuse ∈ kT := mk_T 469 rfl rfl
theorem gd_M_57 : GoodIn kT (wsV R_M 57 R_M y_M_refuse w_M_refuse) := gdV ml_M_57 im_M_refuse se_M_refuse ini_M cd_M_refuse
set_option maxRecDepth 20000 in
theorem ml_L_59 : Cond.methodLink R_L 59 y_M_needs ∈ kT := mk_T 473 rfl rfl
theorem gd_L_59 : GoodIn kT (wsV R_L 59 R_M y_M_needs w_M_needs) := gdV ml_L_59 im_M_needs se_M_needs ini_M cd_M_needs
set_option maxRecDepth 20000 in
theorem ml_M_68 : Cond.methodLink R_M 68 y_M_isDesk ∈ kT := mk_T 477 rfl rfl
theorem gd_M_68 : GoodIn kT (wsV R_M 68 R_M y_M_isDesk w_M_isDesk) := gdV ml_M_68 im_M_isDesk se_M_isDesk ini_M cd_M_isDesk
set_option maxRecDepth 20000 in
theorem ml_M_72 : Cond.methodLink R_M 72 y_M_isSubject ∈ kT := mk_T 481 rfl rfl
theorem gd_M_72 : GoodIn kT (wsS R_M 72 y_M_isSubject w_M_isSubject) := gdS ml_M_72 st_M_isSubject ini_M cd_M_isSubject
set_option maxRecDepth 20000 in
theorem ml_M_75 : Cond.methodLink R_M 75 y_M_isMidst ∈ kT := mk_T 484 rfl rfl
theorem gd_M_75 : GoodIn kT (wsV R_M 75 R_M y_M_isMidst w_M_isMidst) := gdV ml_M_75 im_M_isMidst se_M_isMidst ini_M cd_M_isMidst
set_option maxRecDepth 20000 in
theorem ml_M_65 : Cond.methodLink R_M 65 y_M_held ∈ kT := mk_T 488 rfl rfl
theorem gd_M_65 : GoodIn kT (wsV R_M 65 R_M y_M_held w_M_held) := gdV ml_M_65 im_M_held se_M_held ini_M cd_M_held
set_option maxRecDepth 20000 in
theorem ml_L_63 : Cond.methodLink R_L 63 y_M_turn ∈ kT := mk_T 492 rfl rfl
theorem gd_L_63 : GoodIn kT (wsV R_L 63 R_M y_M_turn w_M_turn) := gdV ml_L_63 im_M_turn se_M_turn ini_M cd_M_turn
set_option maxRecDepth 20000 in
theorem ml_L_67 : Cond.methodLink R_L 67 y_M_run ∈ kT := mk_T 496 rfl rfl
theorem gd_L_67 : GoodIn kT (wsV R_L 67 R_M y_M_run w_M_run) := gdV ml_L_67 im_M_run se_M_run ini_M cd_M_run
set_option maxRecDepth 20000 in
theorem ml_M_113 : Cond.methodLink R_M 113 y_M_steps ∈ kT := mk_T 500 rfl rfl
theorem gd_M_113 : GoodIn kT (wsV R_M 113 R_M y_M_steps w_M_steps) := gdV ml_M_113 im_M_steps se_M_steps ini_M cd_M_steps
set_option maxRecDepth 20000 in
theorem ml_M_94 : Cond.methodLink R_M 94 y_M_write ∈ kT := mk_T 504 rfl rfl
theorem gd_M_94 : GoodIn kT (wsV R_M 94 R_M y_M_write w_M_write) := gdV ml_M_94 im_M_write se_M_write ini_M cd_M_write
set_option maxRecDepth 20000 in
theorem ml_M_98 : Cond.methodLink R_M 98 y_M_giveAll ∈ kT := mk_T 508 rfl rfl
theorem gd_M_98 : GoodIn kT (wsV R_M 98 R_M y_M_giveAll w_M_giveAll) := gdV ml_M_98 im_M_giveAll se_M_giveAll ini_M cd_M_giveAll
set_option maxRecDepth 20000 in
theorem ml_M_87 : Cond.methodLink R_M 87 y_M_giveBack ∈ kT := mk_T 512 rfl rfl
theorem gd_M_87 : GoodIn kT (wsV R_M 87 R_M y_M_giveBack w_M_giveBack) := gdV ml_M_87 im_M_giveBack se_M_giveBack ini_M cd_M_giveBack
set_option maxRecDepth 20000 in
theorem ml_M_81 : Cond.methodLink R_M 81 y_M_first ∈ kT := mk_T 516 rfl rfl
theorem gd_M_81 : GoodIn kT (wsV R_M 81 R_M y_M_first w_M_first) := gdV ml_M_81 im_M_first se_M_first ini_M cd_M_first
set_option maxRecDepth 20000 in
theorem ml_M_101 : Cond.methodLink R_M 101 y_M_goesOn ∈ kT := mk_T 520 rfl rfl
theorem gd_M_101 : GoodIn kT (wsV R_M 101 R_M y_M_goesOn w_M_goesOn) := gdV ml_M_101 im_M_goesOn se_M_goesOn ini_M cd_M_goesOn
set_option maxRecDepth 20000 in
theorem ml_L_71 : Cond.methodLink R_L 71 y_M_log ∈ kT := mk_T 524 rfl rfl
theorem gd_L_71 : GoodIn kT (wsV R_L 71 R_M y_M_log w_M_log) := gdV ml_L_71 im_M_log se_M_log ini_M cd_M_log
set_option maxRecDepth 20000 in
theorem ml_L_74 : Cond.methodLink R_L 74 y_M_holder ∈ kT := mk_T 528 rfl rfl
theorem gd_L_74 : GoodIn kT (wsV R_L 74 R_M y_M_holder w_M_holder) := gdV ml_L_74 im_M_holder se_M_holder ini_M cd_M_holder
set_option maxRecDepth 20000 in
theorem ml_L_77 : Cond.methodLink R_L 77 y_M_waits ∈ kT := mk_T 532 rfl rfl
theorem gd_L_77 : GoodIn kT (wsV R_L 77 R_M y_M_waits w_M_waits) := gdV ml_L_77 im_M_waits se_M_waits ini_M cd_M_waits
set_option maxRecDepth 20000 in
theorem ml_L_82 : Cond.methodLink R_L 82 y_M_interrupt ∈ kT := mk_T 536 rfl rfl
theorem gd_L_82 : GoodIn kT (wsV R_L 82 R_M y_M_interrupt w_M_interrupt) := gdV ml_L_82 im_M_interrupt se_M_interrupt ini_M cd_M_interrupt
set_option maxRecDepth 20000 in
theorem ml_L_85 : Cond.methodLink R_L 85 y_M_dead ∈ kT := mk_T 540 rfl rfl
theorem gd_L_85 : GoodIn kT (wsV R_L 85 R_M y_M_dead w_M_dead) := gdV ml_L_85 im_M_dead se_M_dead ini_M cd_M_dead
set_option maxRecDepth 20000 in
theorem ml_M_116 : Cond.methodLink R_M 116 y_M_ones ∈ kT := mk_T 544 rfl rfl
theorem gd_M_116 : GoodIn kT (wsS R_M 116 y_M_ones w_M_ones) := gdS ml_M_116 st_M_ones ini_M cd_M_ones
set_option maxRecDepth 20000 in
theorem ml_L_88 : Cond.methodLink R_L 88 y_M_tick ∈ kT := mk_T 547 rfl rfl
theorem gd_L_88 : GoodIn kT (wsV R_L 88 R_M y_M_tick w_M_tick) := gdV ml_L_88 im_M_tick se_M_tick ini_M cd_M_tick
set_option maxRecDepth 20000 in
theorem ml_L_92 : Cond.methodLink R_L 92 y_M_close ∈ kT := mk_T 552 rfl rfl
theorem gd_L_92 : GoodIn kT (wsV R_L 92 R_M y_M_close w_M_close) := gdV ml_L_92 im_M_close se_M_close ini_M cd_M_close
set_option maxRecDepth 20000 in
theorem ml_L_95 : Cond.methodLink R_L 95 y_M_look ∈ kT := mk_T 556 rfl rfl
theorem gd_L_95 : GoodIn kT (wsV R_L 95 R_M y_M_look w_M_look) := gdV ml_L_95 im_M_look se_M_look ini_M cd_M_look
set_option maxRecDepth 20000 in
theorem ml_L_99 : Cond.methodLink R_L 99 y_M_count ∈ kT := mk_T 560 rfl rfl
theorem gd_L_99 : GoodIn kT (wsV R_L 99 R_M y_M_count w_M_count) := gdV ml_L_99 im_M_count se_M_count ini_M cd_M_count
end
section
/-! what a state of the system is, and what each method does to it: numbers alone.
k: the system's own object. fields (1 deskCount, 4 askings, 6 turnsTold, 7 turnsRun, 8 turnsPassedOver, 10 entryCount, 11 time, 12 closed), arrays (0 holders, 1 gotAt, 2 turns, 3 entries),
desks (0 number, 1 acts, 3 failsAt, 4 present, 5 actsDone, 6 waitsFor, 7 askedAs, 8 isDead, 9 hasEnded), rows of needs -/
abbrev kS : Type := (Nat → Int32) × (Nat → Nat → Int32) × (Nat → Nat → Int32) × (Nat → Nat → Int32)
def k_f (σ : kS) (k : Nat) (v : Int32) : kS := (va_up σ.1 k v, σ.2)
def k_a (σ : kS) (a j : Nat) (v : Int32) : kS := (σ.1, va_up σ.2.1 a (upd (σ.2.1 a) j v), σ.2.2)
def k_d (σ : kS) (i k : Nat) (v : Int32) : kS := (σ.1, σ.2.1, va_up σ.2.2.1 i (va_up (σ.2.2.1 i) k v), σ.2.2.2)
def k_n (σ : kS) (i j : Nat) (v : Int32) : kS := (σ.1, σ.2.1, σ.2.2.1, va_up σ.2.2.2 i (upd (σ.2.2.2 i) j v))
/-- what deskAt finds -/
def kd_at (n : Nat) (x : Int32) : Option Nat := if x < 0 then none else if nI n ≤ x then none else some x.toNatClampNeg
def kd_sub (x : Int32) : Int32 := if x < 0 then 0 else if 16 ≤ x then 0 else 1
def kd_cond (σ : kS) (i : Nat) : Int32 :=
  if σ.2.2.1 i 9 = 0 then (if σ.2.2.1 i 8 = 0 then (if σ.2.2.1 i 4 < σ.2.2.1 i 1 then (if σ.2.2.1 i 6 = -1 then 0 else 1) else 2) else 3) else 4
def kd_ahead (σ : kS) (i : Nat) (x : Int32) : Int32 := if x < 0 then 0 else if x < σ.2.2.1 i 4 then 0 else if σ.2.2.1 i 1 ≤ x then 0 else 1
def kd_has (σ : kS) (i : Nat) (x s : Int32) : Int32 := if x < 0 then 0 else if 12 ≤ x then 0 else if (σ.2.2.2 i x.toNatClampNeg >>> (s &&& 31)) &&& 1 = 0 then 0 else 1
def kd_add (σ : kS) (i : Nat) (x s : Int32) : kS := if x < 0 then σ else if 12 ≤ x then σ else k_n σ i x.toNatClampNeg (σ.2.2.2 i x.toNatClampNeg ||| ((1 : Int32) <<< (s &&& 31)))
def kd_alive (σ : kS) (i : Nat) : Int32 := if kd_cond σ i = 0 then 1 else if kd_cond σ i = 1 then 1 else 0
def kd_heldp (h : Nat → Int32) (d : Int32) : Nat → Int32
  | 0 => 0
  | j + 1 => if h j = d then kd_heldp h d j ||| ((1 : Int32) <<< (nI j &&& 31)) else kd_heldp h d j
def kd_held (σ : kS) (i : Nat) : Int32 := kd_heldp (σ.2.1 0) (σ.2.2.1 i 0) 16
def kd_midst (σ : kS) (i : Nat) : Int32 := if σ.2.2.1 i 6 = -1 then (if kd_held σ i = 0 then 0 else 1) else 1
def kd_cntp (h : Nat → Int32) : Nat → Int32
  | 0 => 0
  | j + 1 => if h j = -1 then kd_cntp h j else kd_cntp h j + 1
def kd_llp (σ : kS) (i : Nat) : Nat → Option Nat
  | 0 => none
  | j + 1 => match kd_llp σ i j with
    | some k => some k
    | none => if kd_has σ i (σ.2.2.1 i 4) (nI j) = 0 then none else if σ.2.1 0 j = σ.2.2.1 i 0 then none else some j
def kd_take (σ : kS) (i s : Nat) : kS :=
  let σ1 := k_d σ i 6 (-1)
  let σ2 := k_a σ1 0 s (σ1.2.2.1 i 0)
  k_a σ2 1 s (σ2.1 11)
def kd_ask (σ : kS) (i s : Nat) : kS :=
  if σ.2.1 0 s = -1 then kd_take σ i s
  else
    let σ1 := k_d σ i 6 (nI s)
    let σ2 := k_d σ1 i 7 (σ1.1 4)
    k_f σ2 4 (σ2.1 4 + 1)
def kd_wap (σ : kS) (i : Nat) : Nat → Int32
  | 0 => 0
  | j + 1 => if σ.2.2.1 j 6 = σ.2.2.1 i 6 then (if σ.2.2.1 i 7 ≤ σ.2.2.1 j 7 then kd_wap σ i j else kd_wap σ i j + 1) else kd_wap σ i j
def kd_wfp (σ : kS) (n : Nat) (s pl : Int32) : Nat → Option Nat
  | 0 => none
  | j + 1 => match kd_wfp σ n s pl j with
    | some k => some k
    | none => if σ.2.2.1 j 6 = s then (if kd_wap σ j n = pl then some j else none) else none
def kd_gb (n : Nat) (σ : kS) (s : Nat) : kS :=
  let σ1 := k_a σ 0 s (-1)
  match kd_wfp σ1 n (nI s) 0 n with
  | none => σ1
  | some j => kd_take σ1 j s
def kd_gba (n : Nat) (σ : kS) (i : Nat) : Nat → kS
  | 0 => σ
  | j + 1 => if (kd_gba n σ i j).2.1 0 j = (kd_gba n σ i j).2.2.1 i 0 then kd_gb n (kd_gba n σ i j) j else kd_gba n σ i j
def kd_tell (σ : kS) (w : Int32) (i : Nat) : kS :=
  if 400 ≤ σ.1 10 then σ
  else
    let σ1 := k_a σ 3 (σ.1 10).toNatClampNeg (1000 * w + 100 * σ.2.2.1 i 0 + σ.2.2.1 i 4)
    k_f σ1 10 (σ1.1 10 + 1)
def kd_do (n : Nat) (σ : kS) (i : Nat) : Int32 × kS :=
  if σ.2.2.1 i 4 = σ.2.2.1 i 3 then (0, k_d (kd_gba n (kd_tell σ 2 i) i 16) i 3 (-1))
  else
    let σ2 := kd_gba n (kd_tell σ 1 i) i 16
    let σ3 := k_d σ2 i 4 (σ2.2.2.1 i 4 + 1)
    (1, k_d σ3 i 5 (σ3.2.2.1 i 5 + 1))
def kd_turn (n : Nat) (σ : kS) (i : Nat) : Int32 × kS :=
  if kd_cond σ i = 0 then (match kd_llp σ i 16 with
    | some j => (0, kd_ask σ i j)
    | none => kd_do n σ i)
  else (0, k_f σ 8 (σ.1 8 + 1))
def kd_runp (n : Nat) (σ : kS) (r : Nat) : Nat → Int32 × kS
  | 0 => (0, σ)
  | k + 1 => match kd_at n ((kd_runp n σ r k).2.2.1 2 (r + k)) with
    | none => kd_runp n σ r k
    | some i => (if (kd_turn n (kd_runp n σ r k).2 i).1 = 0 then (kd_runp n σ r k).1 else (kd_runp n σ r k).1 + 1, (kd_turn n (kd_runp n σ r k).2 i).2)
def kd_over (n : Nat) (σ : kS) (s : Nat) : Int32 := match kd_at n (σ.2.1 0 s) with
  | none => 0
  | some i => if kd_cond σ i = 3 then (if σ.1 11 - σ.2.1 1 s ≤ 100 then 0 else 1) else 0
def kd_tickp (n : Nat) (σ : kS) : Nat → Int32 × kS
  | 0 => (0, σ)
  | j + 1 => if kd_over n (kd_tickp n σ j).2 j = 0 then kd_tickp n σ j else ((kd_tickp n σ j).1 + 1, kd_gb n (kd_tickp n σ j).2 j)
def kd_end (n : Nat) (σ : kS) (i : Nat) : kS :=
  if kd_midst σ i = 0 then kd_gba n (k_d (k_d σ i 6 (-1)) i 9 1) i 16 else kd_tell (kd_gba n (k_d (k_d σ i 6 (-1)) i 9 1) i 16) 4 i
def kd_closep (n : Nat) (σ : kS) : Nat → Int32 × kS
  | 0 => (0, σ)
  | j + 1 => if kd_cond (kd_closep n σ j).2 j = 2 then kd_closep n σ j else ((kd_closep n σ j).1 + 1, kd_end n (kd_closep n σ j).2 j)
/-! m: the reference. fields: 0 thrown, 1 desks, 12 asks, 14 told, 15 ran, 16 passed, 17 entries, 19 time, 20 closed; arrays by their fields' numbers: 2 acts, 3 failing, 4 present, 5 done, 6 state, 7 needed, 8 holder, 9 got, 10 waitsFor, 11 askedAs, 13 turns, 18 entry -/
abbrev mS : Type := (Nat → Int32) × (Nat → Nat → Int32)
def m_f (τ : mS) (k : Nat) (v : Int32) : mS := (va_up τ.1 k v, τ.2)
def m_a (τ : mS) (a j : Nat) (v : Int32) : mS := (τ.1, va_up τ.2 a (upd (τ.2 a) j v))
def mo_in (v a b : Int32) : Int32 := if v < a then 0 else if b < v then 0 else 1
def mo_isd (τ : mS) (x : Int32) : Int32 := if x < 0 then 0 else if τ.1 1 ≤ x then 0 else 1
def mo_heldp (h : Nat → Int32) (d : Int32) : Nat → Int32
  | 0 => 0
  | j + 1 => mo_heldp h d j ||| (if h j = d then (1 : Int32) <<< (nI j &&& 31) else 0)
def mo_held (τ : mS) (d : Int32) : Int32 := mo_heldp (τ.2 8) d 16
def mo_onesp (v : Int32) : Nat → Int32
  | 0 => 0
  | j + 1 => mo_onesp v j + ((v >>> (nI j &&& 31)) &&& 1)
def mo_midst (τ : mS) (i : Nat) : Int32 := if mo_held τ (nI i) = 0 then (if τ.2 10 i = -1 then 0 else 1) else 1
def mo_write (τ : mS) (w : Int32) (i : Nat) : mS :=
  if 400 ≤ τ.1 17 then τ
  else
    let τ1 := m_a τ 18 (τ.1 17).toNatClampNeg (1000 * w + 100 * nI i + τ.2 4 i)
    m_f τ1 17 (τ1.1 17 + 1)
def mo_firstp (τ : mS) (s : Int32) : Nat → Int32
  | 0 => -1
  | j + 1 => if τ.2 10 j = s then (if mo_firstp τ s j < 0 then nI j else if τ.2 11 (mo_firstp τ s j).toNatClampNeg ≤ τ.2 11 j then mo_firstp τ s j else nI j) else mo_firstp τ s j
def mo_gb (n : Nat) (τ : mS) (s : Nat) : mS :=
  let d := mo_firstp τ (nI s) n
  let τ1 := m_a τ 8 s d
  let τ2 := m_a τ1 9 s (τ1.1 19)
  if d < 0 then τ2 else m_a (m_a τ2 10 d.toNatClampNeg (-1)) 6 d.toNatClampNeg 0
def mo_gap (n : Nat) (v : Int32) (τ : mS) : Nat → mS
  | 0 => τ
  | j + 1 => if (v >>> (nI j &&& 31)) &&& 1 = 1 then mo_gb n (mo_gap n v τ j) j else mo_gap n v τ j
def mo_ga (n : Nat) (τ : mS) (i : Nat) : mS := mo_gap n (mo_held τ (nI i)) τ 16
def mo_goes (τ : mS) (i : Nat) : mS :=
  let τ1 := m_a τ 4 i (τ.2 4 i + 1)
  m_a τ1 6 i (if τ1.2 4 i = τ1.2 2 i then 2 else 0)
def mo_wants (τ : mS) (i : Nat) : Int32 := τ.2 7 (12 * nI i + τ.2 4 i).toNatClampNeg &&& (mo_held τ (nI i) ^^^ (-1))
def mo_lowp (w : Int32) : Nat → Option Nat
  | 0 => none
  | j + 1 => match mo_lowp w j with
    | some k => some k
    | none => if (w >>> (nI j &&& 31)) &&& 1 = 0 then none else some j
def mo_ask (τ : mS) (i s : Nat) : mS :=
  if τ.2 8 s < 0 then
    let τ1 := m_a τ 8 s (nI i)
    m_a τ1 9 s (τ1.1 19)
  else
    let τ1 := m_a τ 10 i (nI s)
    let τ2 := m_a τ1 11 i (τ1.1 12)
    let τ3 := m_f τ2 12 (τ2.1 12 + 1)
    m_a τ3 6 i 1
def mo_do (n : Nat) (τ : mS) (i : Nat) : Int32 × mS :=
  if τ.2 3 i = τ.2 4 i then (0, mo_ga n (m_a (mo_write τ 2 i) 3 i (-1)) i)
  else
    let τ1 := mo_write τ 1 i
    let τ3 := mo_ga n (m_a τ1 3 i (τ1.2 3 i)) i
    (1, mo_goes (m_a τ3 5 i (τ3.2 5 i + 1)) i)
def mo_steps (n : Nat) (τ : mS) (i : Nat) : Int32 × mS :=
  if mo_wants τ i = 0 then mo_do n τ i
  else match mo_lowp (mo_wants τ i) 16 with
    | some s => (0, mo_ask τ i s)
    | none => (0, τ)
def mo_run1 (n : Nat) (q : Int32 × mS) : Int32 × mS :=
  let d := q.2.2 13 (q.2.1 15).toNatClampNeg
  let τ1 := m_f q.2 15 (q.2.1 15 + 1)
  if τ1.2 6 d.toNatClampNeg = 0 then (q.1 + (if (mo_steps n τ1 d.toNatClampNeg).1 = 0 then 0 else 1), (mo_steps n τ1 d.toNatClampNeg).2)
  else (q.1, m_f τ1 16 (τ1.1 16 + 1))
def mo_runp (n : Nat) (τ : mS) : Nat → Int32 × mS
  | 0 => (0, τ)
  | k + 1 => mo_run1 n (mo_runp n τ k)
def mo_ahp (τ : mS) (s : Int32) (i : Nat) : Nat → Int32
  | 0 => 0
  | k + 1 => mo_ahp τ s i k + (if τ.2 10 k = s then (if τ.2 11 i ≤ τ.2 11 k then 0 else 1) else 0)
def mo_wtp (τ : mS) (n : Nat) (s pl : Int32) : Nat → Option Nat
  | 0 => none
  | j + 1 => match mo_wtp τ n s pl j with
    | some k => some k
    | none => if τ.2 10 j = s then (if mo_ahp τ s j n = pl then some j else none) else none
def mo_over (τ : mS) (s : Nat) : Int32 :=
  if τ.2 8 s < 0 then 0 else if τ.2 6 (τ.2 8 s).toNatClampNeg = 3 then (if τ.1 19 - τ.2 9 s ≤ 100 then 0 else 1) else 0
def mo_tickp (n : Nat) (τ : mS) : Nat → Int32 × mS
  | 0 => (0, τ)
  | j + 1 => if mo_over (mo_tickp n τ j).2 j = 0 then mo_tickp n τ j else ((mo_tickp n τ j).1 + 1, mo_gb n (mo_tickp n τ j).2 j)
def mo_end (n : Nat) (τ : mS) (i : Nat) : mS :=
  let τ1 := if mo_midst τ i = 0 then τ else mo_write τ 4 i
  mo_ga n (m_a (m_a τ1 6 i 4) 10 i (-1)) i
def mo_closep (n : Nat) (τ : mS) : Nat → Int32 × mS
  | 0 => (0, τ)
  | j + 1 => if (mo_closep n τ j).2.2 6 j = 2 then mo_closep n τ j else ((mo_closep n τ j).1 + 1, mo_end n (mo_closep n τ j).2 j)
def mo_cntp (h : Nat → Int32) : Nat → Int32
  | 0 => 0
  | j + 1 => mo_cntp h j + (if h j < 0 then 0 else 1)
end
section
/-! the worlds' lists of cells, and rows that read and write them by the numbers of the state -/
def kw_ob (α : Nat → Nat) (σ : kS) : List Value := [.ref (α 1), .int (σ.1 1), .ref (α 2), .ref (α 3), .int (σ.1 4), .ref (α 4), .int (σ.1 6), .int (σ.1 7), .int (σ.1 8), .ref (α 5), .int (σ.1 10), .int (σ.1 11), .int (σ.1 12)]
def kw_dk (an : Nat → Nat) (σ : kS) (i : Nat) : List Value := [.int (σ.2.2.1 i 0), .int (σ.2.2.1 i 1), .ref (an i), .int (σ.2.2.1 i 3), .int (σ.2.2.1 i 4), .int (σ.2.2.1 i 5), .int (σ.2.2.1 i 6), .int (σ.2.2.1 i 7), .int (σ.2.2.1 i 8), .int (σ.2.2.1 i 9)]
def kw_q (ad : Nat → Nat) (n : Nat) : Nat → Option Nat := fun j => if j < n then some (ad j) else none
/-- the lengths of the arrays -/
def kw_len : Nat → Nat
  | 0 => 16
  | 1 => 16
  | 2 => 300
  | _ => 400
def kw_x (cI cQ : ClassId) (α ad : Nat → Nat) (n : Nat) (σ : kS) : va_W := [(α 0, .inr (0, kw_ob α σ)), (α 1, .inl (cQ, 8, .inr (.inr (.inr (.inr (kw_q ad n)))))), (α 2, .inl (cI, 16, .inl (σ.2.1 0))), (α 3, .inl (cI, 16, .inl (σ.2.1 1))), (α 4, .inl (cI, 300, .inl (σ.2.1 2))), (α 5, .inl (cI, 400, .inl (σ.2.1 3)))]
def kw_pd (ad an : Nat → Nat) (n : Nat) (σ : kS) : va_W := (List.range n).map (fun i => (ad i, .inr (1, kw_dk an σ i)))
def kw_pn (cI : ClassId) (an : Nat → Nat) (n : Nat) (σ : kS) : va_W := (List.range n).map (fun i => (an i, .inl (cI, 12, .inl (σ.2.2.2 i))))
def kw_w (cI cQ : ClassId) (α ad an : Nat → Nat) (n : Nat) (σ : kS) : va_W := kw_x cI cQ α ad n σ ++ (kw_pd ad an n σ ++ kw_pn cI an n σ)
def kw_al (α ad an : Nat → Nat) (n : Nat) : List Nat := [α 0, α 1, α 2, α 3, α 4, α 5] ++ ((List.range n).map ad ++ (List.range n).map an)
section KWa
variable {cI cQ : ClassId} {α ad an : Nat → Nat} {n : Nat} {σ : kS}
theorem kw_0 : (kw_w cI cQ α ad an n σ)[0]? = some (α 0, .inr (0, kw_ob α σ)) := rfl
theorem kw_1 : (kw_w cI cQ α ad an n σ)[1]? = some (α 1, .inl (cQ, 8, .inr (.inr (.inr (.inr (kw_q ad n)))))) := rfl
theorem kw_2 (a : Nat) (ha : a < 4) : (kw_w cI cQ α ad an n σ)[2 + a]? = some (α (2 + a), .inl (cI, kw_len a, .inl (σ.2.1 a))) := by
  rcases (show a = 0 ∨ a = 1 ∨ a = 2 ∨ a = 3 by omega) with rfl | rfl | rfl | rfl <;> rfl
theorem kw_3 {i : Nat} (h : i < n) : (kw_w cI cQ α ad an n σ)[6 + i]? = some (ad i, .inr (1, kw_dk an σ i)) := by
  have hx : (kw_x cI cQ α ad n σ).length = 6 := rfl
  unfold kw_w
  rw [List.getElem?_append_right (by rw [hx]; omega), hx, Nat.add_sub_cancel_left, List.getElem?_append_left (by simp [kw_pd]; exact h)]
  simp [kw_pd, h]
theorem kw_4 {i : Nat} (h : i < n) : (kw_w cI cQ α ad an n σ)[6 + n + i]? = some (an i, .inl (cI, 12, .inl (σ.2.2.2 i))) := by
  have hx : (kw_x cI cQ α ad n σ).length = 6 := rfl
  have hd : (kw_pd ad an n σ).length = n := by simp [kw_pd]
  unfold kw_w
  rw [List.getElem?_append_right (by rw [hx]; omega), hx, List.getElem?_append_right (by rw [hd]; omega), hd, show 6 + n + i - 6 - n = i by omega]
  simp [kw_pn, h]
/-- a list out of a function, one place changed -/
theorem kw_map_set {β : Type} (f g : Nat → β) {i : Nat} (h : i < n) {x : β} (hi : g i = x) (ho : ∀ j, j ≠ i → g j = f j) : ((List.range n).map f).set i x = (List.range n).map g := by
  apply List.ext_getElem?
  intro j
  by_cases hj : j = i
  · subst hj
    rw [List.getElem?_set_self (by simp; exact h)]
    simp [h, hi]
  · rw [List.getElem?_set_ne (Ne.symm hj)]
    by_cases hjn : j < n
    · simp [hjn, ho j hj]
    · simp [hjn]
theorem kw_3s {i : Nat} (h : i < n) (k : Nat) (hk : k = 3 ∨ k = 4 ∨ k = 5 ∨ k = 6 ∨ k = 7 ∨ k = 8 ∨ k = 9) (v : Int32) : (kw_w cI cQ α ad an n σ).set (6 + i) (ad i, .inr (1, (kw_dk an σ i).set k (.int v))) = kw_w cI cQ α ad an n (k_d σ i k v) := by
  have hx : (kw_x cI cQ α ad n σ).length = 6 := rfl
  have hd : (kw_pd ad an n σ).length = n := by simp [kw_pd]
  unfold kw_w
  rw [List.set_append_right _ _ (by rw [hx]; omega), hx, Nat.add_sub_cancel_left, List.set_append_left _ _ (by rw [hd]; exact h)]
  have e : (kw_pd ad an n σ).set i (ad i, .inr (1, (kw_dk an σ i).set k (.int v))) = kw_pd ad an n (k_d σ i k v) := by
    refine kw_map_set _ _ h ?_ ?_
    · rcases hk with rfl | rfl | rfl | rfl | rfl | rfl | rfl <;> simp [kw_dk, k_d, va_up]
    · intro j hj
      simp [kw_dk, k_d, va_up, hj]
  rw [e]
  rfl
theorem kw_4s {i : Nat} (h : i < n) (j : Nat) (v : Int32) : (kw_w cI cQ α ad an n σ).set (6 + n + i) (an i, .inl (cI, 12, .inl (upd (σ.2.2.2 i) j v))) = kw_w cI cQ α ad an n (k_n σ i j v) := by
  have hx : (kw_x cI cQ α ad n σ).length = 6 := rfl
  have hd : (kw_pd ad an n σ).length = n := by simp [kw_pd]
  unfold kw_w
  rw [List.set_append_right _ _ (by rw [hx]; omega), hx, List.set_append_right _ _ (by rw [hd]; omega), hd, show 6 + n + i - 6 - n = i by omega]
  have e : (kw_pn cI an n σ).set i (an i, .inl (cI, 12, .inl (upd (σ.2.2.2 i) j v))) = kw_pn cI an n (k_n σ i j v) := by
    refine kw_map_set _ _ h ?_ ?_
    · simp [k_n, va_up]
    · intro q hq
      simp [k_n, va_up, hq]
  rw [e]
  rfl
theorem kw_0s (k : Nat) (hk : k = 1 ∨ k = 4 ∨ k = 6 ∨ k = 7 ∨ k = 8 ∨ k = 10 ∨ k = 11 ∨ k = 12) (v : Int32) : (kw_w cI cQ α ad an n σ).set 0 (α 0, .inr (0, (kw_ob α σ).set k (.int v))) = kw_w cI cQ α ad an n (k_f σ k v) := by
  rcases hk with rfl | rfl | rfl | rfl | rfl | rfl | rfl | rfl <;> rfl
theorem kw_2s (a : Nat) (ha : a < 4) (j : Nat) (v : Int32) : (kw_w cI cQ α ad an n σ).set (2 + a) (α (2 + a), .inl (cI, kw_len a, .inl (upd (σ.2.1 a) j v))) = kw_w cI cQ α ad an n (k_a σ a j v) := by
  rcases (show a = 0 ∨ a = 1 ∨ a = 2 ∨ a = 3 by omega) with rfl | rfl | rfl | rfl <;> rfl
/-- the cells lie apart: that doesn't hang on the numbers -/
theorem kw_adr : (kw_w cI cQ α ad an n σ).map (fun q => q.1) = kw_al α ad an n := by
  simp [kw_w, kw_x, kw_pd, kw_pn, kw_al, Function.comp_def]
theorem kw_addr (σ' : kS) : (kw_w cI cQ α ad an n σ).map (fun q => q.1) = (kw_w cI cQ α ad an n σ').map (fun q => q.1) := kw_adr.trans kw_adr.symm
end KWa
theorem vd_addr {A : Nat → Prop} {w w' : va_W} (h : w.map (fun q => q.1) = w'.map (fun q => q.1)) (hD : va_D A w) : va_D A w' := by
  have key : ∀ (k : Nat) (q : Nat × va_E), w'[k]? = some q → ∃ q0, w[k]? = some q0 ∧ q0.1 = q.1 := by
    intro k q hk
    have h1 : (w'.map (fun q => q.1))[k]? = some q.1 := by rw [List.getElem?_map, hk]; rfl
    rw [← h, List.getElem?_map] at h1
    cases hw : w[k]? with
    | none => rw [hw] at h1; cases h1
    | some q0 => rw [hw] at h1; exact ⟨q0, rfl, Option.some.inj h1⟩
  refine ⟨fun i j x y hi hj hxy => ?_, fun k q hk => ?_⟩
  · obtain ⟨x0, h1, h2⟩ := key i x hi
    obtain ⟨y0, h3, h4⟩ := key j y hj
    exact hD.1 i j x0 y0 h1 h3 (h2.trans (hxy.trans h4.symm))
  · obtain ⟨q0, h1, h2⟩ := key k q hk
    rw [← h2]
    exact hD.2 k q0 h1
end
section
/-! a contract's start and end, by the world's list of cells -/
def gA (al : List Nat) : Nat → Prop := fun q => q ∈ al
def gPc (D : va_G) (tys : List (ClassId × FieldType)) (w : va_W) (av : List Value) : Array Value → State → Prop := va_Pc av (fun U => va_P D kcl w U.heap ∧ va_K D kcl tys U ∧ va_D (fun _ => True) w)
def gQi (D : va_G) (al : List Nat) (r : Int32) (w' : va_W) : Array Value → State → Outcome → State → Prop := va_Qi (S := Unit) (fun v _ => v = r) (fun _ t => va_P D kcl w' t.heap) (gA al)
def gQv (D : va_G) (al : List Nat) (w' : va_W) : Array Value → State → Outcome → State → Prop := va_Qv (S := Unit) (fun _ => True) (fun _ t => va_P D kcl w' t.heap) (gA al)
theorem gD {w : va_W} {al : List Nat} (h : w.map (fun q => q.1) = al) {B : Nat → Prop} (hD : va_D B w) : va_D (gA al) w := by
  refine ⟨hD.1, fun k q hk => ?_⟩
  subst h
  exact List.mem_map.mpr ⟨q, List.mem_of_getElem? hk, rfl⟩
theorem g_bl {D : va_G} {tys : List (ClassId × FieldType)} {w : va_W} {av : List Value} : FrameBlind (gPc D tys w av) := fun a U g mk q => by
  obtain ⟨q0, qP, qK, qD⟩ := q
  exact ⟨q0, qP, va_K.moved (u := U) (U := U.calling g mk a) (Vm.Alike.refl U.vm) qK, qD⟩
section GRr
variable {p : Program} {l : Launch} {e : Env} {R : Room} {s : State} {m : MethodId} {args : Array Value} {below : List Frame} {meth : Method} {c : Code} {H : Heap} {locs : List Loc} {cells slots : Nat} {Q : State → Prop}
variable {cc : ByteArray} {pc : Nat} {ls : Array Slot} {rest st0 : List Value} {D : va_G} {A B : Nat → Prop} {H0 : Heap} {tys : List (ClassId × FieldType)} {w w' : va_W} {al : List Nat} {a : Array Value}
theorem g_pre (hK : va_K D kcl tys s) (hP : va_P D kcl w H) (hD : va_D B w) (av : List Value) : ∀ U : State, U.heap = H → s.WarmedH U.vm → gPc D tys w av av.toArray U := fun U hU hW =>
  ⟨rfl, by rw [hU]; exact hP, va_K.moved hW.alike hK, hD.weaken (fun _ _ _ _ => trivial)⟩
theorem g_preS (hK : va_K D kcl tys s) (hP : va_P D kcl w H) (hD : va_D B w) {av : List Value} : PreS s H (gPc D tys w av) av := ⟨g_bl, g_pre hK hP hD av⟩
theorem g_preV (hK : va_K D kcl tys s) (hP : va_P D kcl w H) (hD : va_D B w) {b : Nat} {As : List Value} {q : vw_C} {ci q0 : Nat} {fs : List Value} (hc : kcl[ci]? = some q) (he : w[q0]? = some (b, .inr (ci, fs))) : PreV s H q.1 b (gPc D tys w (.ref b :: As)) As :=
  ⟨g_bl, va_recv hK hP hc he, g_pre hK hP hD (.ref b :: As)⟩
/-- ends of methods that only read -/
theorem r_reti (hx : p.tables.exec = Jvm.exec) (hb : c.code = cc) (hr : meth.sig.returnType = some .int) (hlocks : meth.locks = false) {v r : Int32} (hv : v = r) (hdg : decode cc pc = .ok (.ireturn, 1)) : W p l e R s m args below meth c s.heap [] cells slots (MQ below (QcRead r) args s cells slots (fun _ => False)) (F0 m pc ls [.int v]) :=
  W.iret hx hb hr (fun t ht _ => ⟨by rw [hv], ht⟩) (fun q h => nomatch h) hdg hlocks
theorem r_retz (hx : p.tables.exec = Jvm.exec) (hb : c.code = cc) (hr : meth.sig.returnType = some .boolean) (hlocks : meth.locks = false) {v r : Int32} (hn : v = 0 ∨ v = 1) (hv : v = r) (hdg : decode cc pc = .ok (.ireturn, 1)) : W p l e R s m args below meth c s.heap [] cells slots (MQ below (QcRead r) args s cells slots (fun _ => False)) (F0 m pc ls [.int v]) :=
  W.zret (ty := .boolean) hx hb hr (by rcases hn with rfl | rfl <;> decide +kernel) (fun t ht _ => ⟨by rw [hv], ht⟩) (fun q h => nomatch h) hdg hlocks
theorem r_retq (hx : p.tables.exec = Jvm.exec) (hb : c.code = cc) {C : String} (hr : meth.sig.returnType = some (.object C)) (hlocks : meth.locks = false) {v : Value} {r : Option Nat} (hv : v = va_rf r) (hdg : decode cc pc = .ok (.areturn, 1)) : W p l e R s m args below meth c s.heap [] cells slots (MQ below (va_Sq (fun q => q = r)) args s cells slots (fun _ => False)) (F0 m pc ls [v]) :=
  W.aret hx hb hr (Or.inl ⟨C, rfl⟩) (by rw [hv]; exact va_rf_or r) (fun t ht _ => ⟨r, by rw [hv], rfl, ht⟩) (fun q h => nomatch h) hdg hlocks
/-- ends of methods that write -/
theorem g_reti (hx : p.tables.exec = Jvm.exec) (hb : c.code = cc) (hr : meth.sig.returnType = some .int) (hlocks : meth.locks = false) {v r : Int32} (hv : v = r) (he : w = w') (hP : va_P D kcl w H) (hS : va_S (gA al) s.heap H locs) (hdg : decode cc pc = .ok (.ireturn, 1)) : W p l e R s m args below meth c H locs cells slots (MQ below (gQi D al r w') args s cells slots (gA al)) (F0 m pc ls [.int v]) :=
  W.iret hx hb hr (fun t ht _ => ⟨⟨v, (), rfl, hv, by show va_P D kcl w' t.heap; rw [ht, ← he]; exact hP⟩, hS.F ht⟩) hS.2.2 hdg hlocks
theorem g_retz (hx : p.tables.exec = Jvm.exec) (hb : c.code = cc) (hr : meth.sig.returnType = some .boolean) (hlocks : meth.locks = false) {v r : Int32} (hn : v = 0 ∨ v = 1) (hv : v = r) (he : w = w') (hP : va_P D kcl w H) (hS : va_S (gA al) s.heap H locs) (hdg : decode cc pc = .ok (.ireturn, 1)) : W p l e R s m args below meth c H locs cells slots (MQ below (gQi D al r w') args s cells slots (gA al)) (F0 m pc ls [.int v]) :=
  W.zret (ty := .boolean) hx hb hr (by rcases hn with rfl | rfl <;> decide +kernel) (fun t ht _ => ⟨⟨v, (), rfl, hv, by show va_P D kcl w' t.heap; rw [ht, ← he]; exact hP⟩, hS.F ht⟩) hS.2.2 hdg hlocks
theorem g_retv (hx : p.tables.exec = Jvm.exec) (hb : c.code = cc) (hr : meth.sig.returnType = none) (hlocks : meth.locks = false) (he : w = w') (hP : va_P D kcl w H) (hS : va_S (gA al) s.heap H locs) (hdg : decode cc pc = .ok (.return_, 1)) : W p l e R s m args below meth c H locs cells slots (MQ below (gQv D al w') args s cells slots (gA al)) (F0 m pc ls []) :=
  W.vret hx hb hr (fun t ht _ => ⟨⟨(), rfl, trivial, by show va_P D kcl w' t.heap; rw [ht, ← he]; exact hP⟩, hS.F ht⟩) hS.2.2 hdg hlocks
/-- behind calls -/
theorem r_calli {r : Int32} (hr : CallRun p l e R s m args below meth c H locs cells slots 0 0 (F0 m pc ls st0) rest (QcRead r a) (fun _ => False)) (kk : W p l e R s m args below meth c H locs cells slots Q (F0 m (pc + 3) ls (.int r :: rest))) : W p l e R s m args below meth c H locs cells slots Q (F0 m pc ls st0) := W.callR hr kk
theorem r_callq {r : Option Nat} (hr : CallRun p l e R s m args below meth c H locs cells slots 0 0 (F0 m pc ls st0) rest (va_Sq (fun q => q = r) a) (fun _ => False)) (kk : W p l e R s m args below meth c H locs cells slots Q (F0 m (pc + 3) ls (va_rf r :: rest))) : W p l e R s m args below meth c H locs cells slots Q (F0 m pc ls st0) := va_csq hr (fun q hq => by subst hq; exact kk)
theorem g_calli {r : Int32} (hr : va_Run p l e R s m args below meth c H locs cells slots 0 0 (F0 m pc ls st0) rest (gQi D al r w' a) (gA al)) (hD : va_D (gA al) w) (hS : va_S (gA al) H0 H locs) (he : w.map (fun q => q.1) = w'.map (fun q => q.1))
    (kk : ∀ (H1 : Heap) (locs1 : List Loc), va_P D kcl w' H1 → va_D (gA al) w' → va_S (gA al) H0 H1 locs1 → W p l e R s m args below meth c H1 locs1 cells slots Q (F0 m (pc + 3) ls (.int r :: rest))) : W p l e R s m args below meth c H locs cells slots Q (F0 m pc ls st0) := by
  refine va_calli hr hS (fun q _ h => h) (fun q h => h) (fun r1 u t H1 locs1 ht _ hw hB _ _ hS1 => ?_)
  subst hw
  rw [ht] at hB
  exact kk H1 locs1 hB (vd_addr he hD) hS1
theorem g_callv (hr : va_Run p l e R s m args below meth c H locs cells slots 0 0 (F0 m pc ls st0) rest (gQv D al w' a) (gA al)) (hD : va_D (gA al) w) (hS : va_S (gA al) H0 H locs) (he : w.map (fun q => q.1) = w'.map (fun q => q.1))
    (kk : ∀ (H1 : Heap) (locs1 : List Loc), va_P D kcl w' H1 → va_D (gA al) w' → va_S (gA al) H0 H1 locs1 → W p l e R s m args below meth c H1 locs1 cells slots Q (F0 m (pc + 3) ls rest)) : W p l e R s m args below meth c H locs cells slots Q (F0 m pc ls st0) := by
  refine va_callv hr hS (fun q _ h => h) (fun q h => h) (fun u t H1 locs1 ht _ _ hB _ _ hS1 => ?_)
  rw [ht] at hB
  exact kk H1 locs1 hB (vd_addr he hD) hS1
end GRr
section KWr
variable {p : Program} {l : Launch} {e : Env} {R : Room} {s : State} {m : MethodId} {args : Array Value} {below : List Frame} {meth : Method} {c : Code} {H : Heap} {locs : List Loc} {cells slots : Nat} {Q : State → Prop}
variable {cc : ByteArray} {pc : Nat} {ls : Array Slot} {rest : List Value} {D : va_G} {A : Nat → Prop} {H0 : Heap} {cI cQ : ClassId} {α ad an : Nat → Nat} {n : Nat} {σ : kS}
/-- the numbers of an index -/
theorem ix_cl {x : Int32} {j N : Nat} (he : x = nI j) (hj : j < N) (hN : N < 2 ^ 31) : vp_in x N ∧ x.toNatClampNeg = j := by
  subst he
  exact ⟨vp_in_nI hj hN, nI_clamp (by omega)⟩
theorem kw_get (hx : p.tables.exec = Jvm.exec) (hb : c.code = cc) {own : String} {index : Nat} (hts : ∀ w ∈ kT, w.before args s = true) (hown : s.vm.findClass own = some m.cls) (hK : va_K D kcl (kty cI cQ) s) (hP : va_P D kcl (kw_w cI cQ α ad an n σ) H) (k : Nat) (hk : k < 13) (hlink : Cond.fieldLink own index R_K (T_K k).2.1 (T_K k).2.2.1 ∈ kT) {v : Value} (hv : (kw_ob α σ)[k]? = some v) (hdg : decode cc pc = .ok (.getfield index, 3))
    (kk : W p l e R s m args below meth c H locs cells slots Q (F0 m (pc + 3) ls (v :: rest))) : W p l e R s m args below meth c H locs cells slots Q (F0 m pc ls (.ref (α 0) :: rest)) :=
  va_get (C := R_K) (T := T_K) (N := 13) (ci := 0) hx hb hts in_K hown hK hP 0 kw_0 rfl k hk (hts _ hlink) (fun _ h => by rw [show (T_K k).1 = R_K from T_K1 k hk] at h; exact h) hv hdg kk
theorem kw_put (hx : p.tables.exec = Jvm.exec) (hb : c.code = cc) {own : String} {index : Nat} (hts : ∀ w ∈ kT, w.before args s = true) (hown : s.vm.findClass own = some m.cls) (hK : va_K D kcl (kty cI cQ) s) (hP : va_P D kcl (kw_w cI cQ α ad an n σ) H) (hD : va_D A (kw_w cI cQ α ad an n σ)) (hS : va_S A H0 H locs) (k : Nat) (hk : k = 1 ∨ k = 4 ∨ k = 6 ∨ k = 7 ∨ k = 8 ∨ k = 10 ∨ k = 11 ∨ k = 12) (hlink : Cond.fieldLink own index R_K (T_K k).2.1 (T_K k).2.2.1 ∈ kT) {v : Int32} {ty : FieldType} (hty : parseFieldDescriptor (T_K k).2.2.1 = some ty) (hn : narrow ty (.int v) = .int v) (hfit : fits ty (.int v) = true) (hdg : decode cc pc = .ok (.putfield index, 3))
    (kk : ∀ (H1 : Heap) (locs1 : List Loc), va_P D kcl (kw_w cI cQ α ad an n (k_f σ k v)) H1 → va_D A (kw_w cI cQ α ad an n (k_f σ k v)) → va_S A H0 H1 locs1 → W p l e R s m args below meth c H1 locs1 cells slots Q (F0 m (pc + 3) ls rest)) : W p l e R s m args below meth c H locs cells slots Q (F0 m pc ls (.int v :: .ref (α 0) :: rest)) := by
  have hk13 : k < 13 := by omega
  refine va_put (C := R_K) (T := T_K) (N := 13) (ci := 0) hx hb hts in_K ty_K ty_K_ok nm_K hown hK hP hD hS 0 kw_0 rfl k hk13 (hts _ hlink) (fun _ h => by rw [show (T_K k).1 = R_K from T_K1 k hk13] at h; exact h) (T_Kf k hk) hty hn hfit (by show k < 13; exact hk13) hdg (fun H1 locs1 h1 h2 h3 => ?_)
  rw [kw_0s k hk v] at h1 h2
  exact kk H1 locs1 h1 h2 h3
theorem kw_dget (hx : p.tables.exec = Jvm.exec) (hb : c.code = cc) {own : String} {index : Nat} (hts : ∀ w ∈ kT, w.before args s = true) (hown : s.vm.findClass own = some m.cls) (hK : va_K D kcl (kty cI cQ) s) (hP : va_P D kcl (kw_w cI cQ α ad an n σ) H) {i : Nat} (hi : i < n) (k : Nat) (hk : k < 10) (hlink : Cond.fieldLink own index R_D (T_D k).2.1 (T_D k).2.2.1 ∈ kT) {v : Value} (hv : (kw_dk an σ i)[k]? = some v) (hdg : decode cc pc = .ok (.getfield index, 3))
    (kk : W p l e R s m args below meth c H locs cells slots Q (F0 m (pc + 3) ls (v :: rest))) : W p l e R s m args below meth c H locs cells slots Q (F0 m pc ls (.ref (ad i) :: rest)) :=
  va_get (C := R_D) (T := T_D) (N := 10) (ci := 1) hx hb hts in_D hown hK hP (6 + i) (kw_3 hi) rfl k hk (hts _ hlink) (fun _ h => by rw [show (T_D k).1 = R_D from T_D1 k hk] at h; exact h) hv hdg kk
theorem kw_dput (hx : p.tables.exec = Jvm.exec) (hb : c.code = cc) {own : String} {index : Nat} (hts : ∀ w ∈ kT, w.before args s = true) (hown : s.vm.findClass own = some m.cls) (hK : va_K D kcl (kty cI cQ) s) (hP : va_P D kcl (kw_w cI cQ α ad an n σ) H) (hD : va_D A (kw_w cI cQ α ad an n σ)) (hS : va_S A H0 H locs) {i : Nat} (hi : i < n) (k : Nat) (hk : k = 3 ∨ k = 4 ∨ k = 5 ∨ k = 6 ∨ k = 7 ∨ k = 8 ∨ k = 9) (hlink : Cond.fieldLink own index R_D (T_D k).2.1 (T_D k).2.2.1 ∈ kT) {v : Int32} {ty : FieldType} (hty : parseFieldDescriptor (T_D k).2.2.1 = some ty) (hn : narrow ty (.int v) = .int v) (hfit : fits ty (.int v) = true) (hdg : decode cc pc = .ok (.putfield index, 3))
    (kk : ∀ (H1 : Heap) (locs1 : List Loc), va_P D kcl (kw_w cI cQ α ad an n (k_d σ i k v)) H1 → va_D A (kw_w cI cQ α ad an n (k_d σ i k v)) → va_S A H0 H1 locs1 → W p l e R s m args below meth c H1 locs1 cells slots Q (F0 m (pc + 3) ls rest)) : W p l e R s m args below meth c H locs cells slots Q (F0 m pc ls (.int v :: .ref (ad i) :: rest)) := by
  have hk10 : k < 10 := by omega
  refine va_put (C := R_D) (T := T_D) (N := 10) (ci := 1) hx hb hts in_D ty_D ty_D_ok nm_D hown hK hP hD hS (6 + i) (kw_3 hi) rfl k hk10 (hts _ hlink) (fun _ h => by rw [show (T_D k).1 = R_D from T_D1 k hk10] at h; exact h) (T_Df k hk) hty hn hfit (by show k < 10; exact hk10) hdg (fun H1 locs1 h1 h2 h3 => ?_)
  rw [kw_3s hi k hk v] at h1 h2
  exact kk H1 locs1 h1 h2 h3
theorem kw_lt (a : Nat) : kw_len a < 2 ^ 31 := by unfold kw_len; split <;> decide
theorem kw_ald (hx : p.tables.exec = Jvm.exec) (hb : c.code = cc) (hK : va_K D kcl (kty cI cQ) s) (hP : va_P D kcl (kw_w cI cQ α ad an n σ) H) (a : Nat) (ha : a < 4) {x : Int32} {j : Nat} (he : x = nI j) (hj : j < kw_len a) (hdg : decode cc pc = .ok (.iaload, 1))
    (kk : W p l e R s m args below meth c H locs cells slots Q (F0 m (pc + 1) ls (.int (σ.2.1 a j) :: rest))) : W p l e R s m args below meth c H locs cells slots Q (F0 m pc ls (.int x :: .ref (α (2 + a)) :: rest)) := by
  obtain ⟨h1, h2⟩ := ix_cl he hj (kw_lt a)
  refine va_iald hx hb hK hP (2 + a) 0 (kw_2 a ha) rfl h1 hdg ?_
  rw [h2]; exact kk
theorem kw_ast (hx : p.tables.exec = Jvm.exec) (hb : c.code = cc) (hK : va_K D kcl (kty cI cQ) s) (hP : va_P D kcl (kw_w cI cQ α ad an n σ) H) (hD : va_D A (kw_w cI cQ α ad an n σ)) (hS : va_S A H0 H locs) (a : Nat) (ha : a < 4) {x v : Int32} {j : Nat} (he : x = nI j) (hj : j < kw_len a) (hdg : decode cc pc = .ok (.iastore, 1))
    (kk : ∀ (H1 : Heap) (locs1 : List Loc), va_P D kcl (kw_w cI cQ α ad an n (k_a σ a j v)) H1 → va_D A (kw_w cI cQ α ad an n (k_a σ a j v)) → va_S A H0 H1 locs1 → W p l e R s m args below meth c H1 locs1 cells slots Q (F0 m (pc + 1) ls rest)) : W p l e R s m args below meth c H locs cells slots Q (F0 m pc ls (.int v :: .int x :: .ref (α (2 + a)) :: rest)) := by
  obtain ⟨h1, h2⟩ := ix_cl he hj (kw_lt a)
  refine va_iast hx hb hK hP hD hS (2 + a) 0 (kw_2 a ha) rfl h1 hdg (fun H1 locs1 q1 q2 q3 => ?_)
  rw [h2, kw_2s a ha] at q1 q2
  exact kk H1 locs1 q1 q2 q3
theorem kw_alen (hx : p.tables.exec = Jvm.exec) (hb : c.code = cc) (hK : va_K D kcl (kty cI cQ) s) (hP : va_P D kcl (kw_w cI cQ α ad an n σ) H) (a : Nat) (ha : a < 4) {v : Int32} (hv : nI (kw_len a) = v) (hdg : decode cc pc = .ok (.arraylength, 1))
    (kk : W p l e R s m args below meth c H locs cells slots Q (F0 m (pc + 1) ls (.int v :: rest))) : W p l e R s m args below meth c H locs cells slots Q (F0 m pc ls (.ref (α (2 + a)) :: rest)) :=
  va_alen hx hb hK hP (2 + a) 0 (kw_2 a ha) (ty := .int) rfl hv hdg kk
theorem kw_qlen (hx : p.tables.exec = Jvm.exec) (hb : c.code = cc) (hK : va_K D kcl (kty cI cQ) s) (hP : va_P D kcl (kw_w cI cQ α ad an n σ) H) (hdg : decode cc pc = .ok (.arraylength, 1))
    (kk : W p l e R s m args below meth c H locs cells slots Q (F0 m (pc + 1) ls (.int 8 :: rest))) : W p l e R s m args below meth c H locs cells slots Q (F0 m pc ls (.ref (α 1) :: rest)) :=
  va_alen hx hb hK hP 1 1 kw_1 (ty := .object R_D) rfl (v := 8) rfl hdg kk
theorem kw_qld (hx : p.tables.exec = Jvm.exec) (hb : c.code = cc) (hK : va_K D kcl (kty cI cQ) s) (hP : va_P D kcl (kw_w cI cQ α ad an n σ) H) {x : Int32} {j : Nat} (he : x = nI j) (hj : j < n) (hn : n ≤ 8) (hdg : decode cc pc = .ok (.aaload, 1))
    (kk : W p l e R s m args below meth c H locs cells slots Q (F0 m (pc + 1) ls (.ref (ad j) :: rest))) : W p l e R s m args below meth c H locs cells slots Q (F0 m pc ls (.int x :: .ref (α 1) :: rest)) := by
  obtain ⟨h1, h2⟩ := ix_cl he (show j < 8 by omega) (by decide)
  refine va_aldq hx hb hK hP 1 1 kw_1 (C := R_D) rfl h1 hdg ?_
  rw [h2, show kw_q ad n j = some (ad j) from if_pos hj]; exact kk
theorem kw_nlen (hx : p.tables.exec = Jvm.exec) (hb : c.code = cc) (hK : va_K D kcl (kty cI cQ) s) (hP : va_P D kcl (kw_w cI cQ α ad an n σ) H) {i : Nat} (hi : i < n) (hdg : decode cc pc = .ok (.arraylength, 1))
    (kk : W p l e R s m args below meth c H locs cells slots Q (F0 m (pc + 1) ls (.int 12 :: rest))) : W p l e R s m args below meth c H locs cells slots Q (F0 m pc ls (.ref (an i) :: rest)) :=
  va_alen hx hb hK hP (6 + n + i) 0 (kw_4 hi) (ty := .int) rfl (v := 12) rfl hdg kk
theorem kw_nld (hx : p.tables.exec = Jvm.exec) (hb : c.code = cc) (hK : va_K D kcl (kty cI cQ) s) (hP : va_P D kcl (kw_w cI cQ α ad an n σ) H) {i : Nat} (hi : i < n) {x : Int32} {j : Nat} (he : x = nI j) (hj : j < 12) (hdg : decode cc pc = .ok (.iaload, 1))
    (kk : W p l e R s m args below meth c H locs cells slots Q (F0 m (pc + 1) ls (.int (σ.2.2.2 i j) :: rest))) : W p l e R s m args below meth c H locs cells slots Q (F0 m pc ls (.int x :: .ref (an i) :: rest)) := by
  obtain ⟨h1, h2⟩ := ix_cl he hj (by decide)
  refine va_iald hx hb hK hP (6 + n + i) 0 (kw_4 hi) rfl h1 hdg ?_
  rw [h2]; exact kk
theorem kw_nst (hx : p.tables.exec = Jvm.exec) (hb : c.code = cc) (hK : va_K D kcl (kty cI cQ) s) (hP : va_P D kcl (kw_w cI cQ α ad an n σ) H) (hD : va_D A (kw_w cI cQ α ad an n σ)) (hS : va_S A H0 H locs) {i : Nat} (hi : i < n) {x v : Int32} {j : Nat} (he : x = nI j) (hj : j < 12) (hdg : decode cc pc = .ok (.iastore, 1))
    (kk : ∀ (H1 : Heap) (locs1 : List Loc), va_P D kcl (kw_w cI cQ α ad an n (k_n σ i j v)) H1 → va_D A (kw_w cI cQ α ad an n (k_n σ i j v)) → va_S A H0 H1 locs1 → W p l e R s m args below meth c H1 locs1 cells slots Q (F0 m (pc + 1) ls rest)) : W p l e R s m args below meth c H locs cells slots Q (F0 m pc ls (.int v :: .int x :: .ref (an i) :: rest)) := by
  obtain ⟨h1, h2⟩ := ix_cl he hj (by decide)
  refine va_iast hx hb hK hP hD hS (6 + n + i) 0 (kw_4 hi) rfl h1 hdg (fun H1 locs1 q1 q2 q3 => ?_)
  rw [h2, kw_4s hi] at q1 q2
  exact kk H1 locs1 q1 q2 q3
end KWr
/-! the reference's cells -/
def mw_ob (β : Nat → Nat) (τ : mS) : List Value := [.int (τ.1 0), .int (τ.1 1), .ref (β 2), .ref (β 3), .ref (β 4), .ref (β 5), .ref (β 6), .ref (β 7), .ref (β 8), .ref (β 9), .ref (β 10), .ref (β 11), .int (τ.1 12), .ref (β 13), .int (τ.1 14), .int (τ.1 15), .int (τ.1 16), .int (τ.1 17), .ref (β 18), .int (τ.1 19), .int (τ.1 20)]
def mw_len : Nat → Nat
  | 7 => 96
  | 8 => 16
  | 9 => 16
  | 13 => 300
  | 18 => 400
  | _ => 8
def mw_ix : Nat → Nat
  | 13 => 11
  | 18 => 12
  | a => a - 1
def mw_as (a : Nat) : Prop := a = 2 ∨ a = 3 ∨ a = 4 ∨ a = 5 ∨ a = 6 ∨ a = 7 ∨ a = 8 ∨ a = 9 ∨ a = 10 ∨ a = 11 ∨ a = 13 ∨ a = 18
def mw_is (k : Nat) : Prop := k = 0 ∨ k = 1 ∨ k = 12 ∨ k = 14 ∨ k = 15 ∨ k = 16 ∨ k = 17 ∨ k = 19 ∨ k = 20
def mw_w (cI : ClassId) (β : Nat → Nat) (τ : mS) : va_W := [(β 0, .inr (2, mw_ob β τ)), (β 2, .inl (cI, 8, .inl (τ.2 2))), (β 3, .inl (cI, 8, .inl (τ.2 3))), (β 4, .inl (cI, 8, .inl (τ.2 4))), (β 5, .inl (cI, 8, .inl (τ.2 5))), (β 6, .inl (cI, 8, .inl (τ.2 6))), (β 7, .inl (cI, 96, .inl (τ.2 7))), (β 8, .inl (cI, 16, .inl (τ.2 8))), (β 9, .inl (cI, 16, .inl (τ.2 9))), (β 10, .inl (cI, 8, .inl (τ.2 10))), (β 11, .inl (cI, 8, .inl (τ.2 11))), (β 13, .inl (cI, 300, .inl (τ.2 13))), (β 18, .inl (cI, 400, .inl (τ.2 18)))]
def mw_al (β : Nat → Nat) : List Nat := [β 0, β 2, β 3, β 4, β 5, β 6, β 7, β 8, β 9, β 10, β 11, β 13, β 18]
section MWa
variable {cI : ClassId} {β : Nat → Nat} {τ : mS}
theorem mw_0 : (mw_w cI β τ)[0]? = some (β 0, .inr (2, mw_ob β τ)) := rfl
theorem mw_1 (a : Nat) (ha : mw_as a) : (mw_w cI β τ)[mw_ix a]? = some (β a, .inl (cI, mw_len a, .inl (τ.2 a))) := by
  rcases ha with rfl | rfl | rfl | rfl | rfl | rfl | rfl | rfl | rfl | rfl | rfl | rfl <;> rfl
theorem mw_0s (k : Nat) (hk : mw_is k) (v : Int32) : (mw_w cI β τ).set 0 (β 0, .inr (2, (mw_ob β τ).set k (.int v))) = mw_w cI β (m_f τ k v) := by
  rcases hk with rfl | rfl | rfl | rfl | rfl | rfl | rfl | rfl | rfl <;> rfl
theorem mw_1s (a : Nat) (ha : mw_as a) (j : Nat) (v : Int32) : (mw_w cI β τ).set (mw_ix a) (β a, .inl (cI, mw_len a, .inl (upd (τ.2 a) j v))) = mw_w cI β (m_a τ a j v) := by
  rcases ha with rfl | rfl | rfl | rfl | rfl | rfl | rfl | rfl | rfl | rfl | rfl | rfl <;> rfl
theorem mw_addr : (mw_w cI β τ).map (fun q => q.1) = mw_al β := rfl
theorem mw_lt (a : Nat) : mw_len a < 2 ^ 31 := by unfold mw_len; split <;> decide
end MWa
section MWr
variable {p : Program} {l : Launch} {e : Env} {R : Room} {s : State} {m : MethodId} {args : Array Value} {below : List Frame} {meth : Method} {c : Code} {H : Heap} {locs : List Loc} {cells slots : Nat} {Q : State → Prop}
variable {cc : ByteArray} {pc : Nat} {ls : Array Slot} {rest : List Value} {D : va_G} {A : Nat → Prop} {H0 : Heap} {cI cQ : ClassId} {β : Nat → Nat} {τ : mS}
theorem mw_get (hx : p.tables.exec = Jvm.exec) (hb : c.code = cc) {own : String} {index : Nat} (hts : ∀ w ∈ kT, w.before args s = true) (hown : s.vm.findClass own = some m.cls) (hK : va_K D kcl (kty cI cQ) s) (hP : va_P D kcl (mw_w cI β τ) H) (k : Nat) (hk : k < 21) (hlink : Cond.fieldLink own index R_M (T_M k).2.1 (T_M k).2.2.1 ∈ kT) {v : Value} (hv : (mw_ob β τ)[k]? = some v) (hdg : decode cc pc = .ok (.getfield index, 3))
    (kk : W p l e R s m args below meth c H locs cells slots Q (F0 m (pc + 3) ls (v :: rest))) : W p l e R s m args below meth c H locs cells slots Q (F0 m pc ls (.ref (β 0) :: rest)) :=
  va_get (C := R_M) (T := T_M) (N := 21) (ci := 2) hx hb hts in_M hown hK hP 0 mw_0 rfl k hk (hts _ hlink) (fun _ h => by rw [show (T_M k).1 = R_M from T_M1 k hk] at h; exact h) hv hdg kk
theorem mw_put (hx : p.tables.exec = Jvm.exec) (hb : c.code = cc) {own : String} {index : Nat} (hts : ∀ w ∈ kT, w.before args s = true) (hown : s.vm.findClass own = some m.cls) (hK : va_K D kcl (kty cI cQ) s) (hP : va_P D kcl (mw_w cI β τ) H) (hD : va_D A (mw_w cI β τ)) (hS : va_S A H0 H locs) (k : Nat) (hk : mw_is k) (hlink : Cond.fieldLink own index R_M (T_M k).2.1 (T_M k).2.2.1 ∈ kT) {v : Int32} {ty : FieldType} (hty : parseFieldDescriptor (T_M k).2.2.1 = some ty) (hn : narrow ty (.int v) = .int v) (hfit : fits ty (.int v) = true) (hdg : decode cc pc = .ok (.putfield index, 3))
    (kk : ∀ (H1 : Heap) (locs1 : List Loc), va_P D kcl (mw_w cI β (m_f τ k v)) H1 → va_D A (mw_w cI β (m_f τ k v)) → va_S A H0 H1 locs1 → W p l e R s m args below meth c H1 locs1 cells slots Q (F0 m (pc + 3) ls rest)) : W p l e R s m args below meth c H locs cells slots Q (F0 m pc ls (.int v :: .ref (β 0) :: rest)) := by
  have hk21 : k < 21 := by unfold mw_is at hk; omega
  refine va_put (C := R_M) (T := T_M) (N := 21) (ci := 2) hx hb hts in_M ty_M ty_M_ok nm_M hown hK hP hD hS 0 mw_0 rfl k hk21 (hts _ hlink) (fun _ h => by rw [show (T_M k).1 = R_M from T_M1 k hk21] at h; exact h) (T_Mf k hk) hty hn hfit (by show k < 21; exact hk21) hdg (fun H1 locs1 h1 h2 h3 => ?_)
  rw [mw_0s k hk v] at h1 h2
  exact kk H1 locs1 h1 h2 h3
theorem mw_ald (hx : p.tables.exec = Jvm.exec) (hb : c.code = cc) (hK : va_K D kcl (kty cI cQ) s) (hP : va_P D kcl (mw_w cI β τ) H) (a : Nat) (ha : mw_as a) {x : Int32} {j : Nat} (he : x = nI j) (hj : j < mw_len a) (hdg : decode cc pc = .ok (.iaload, 1))
    (kk : W p l e R s m args below meth c H locs cells slots Q (F0 m (pc + 1) ls (.int (τ.2 a j) :: rest))) : W p l e R s m args below meth c H locs cells slots Q (F0 m pc ls (.int x :: .ref (β a) :: rest)) := by
  obtain ⟨h1, h2⟩ := ix_cl he hj (mw_lt a)
  refine va_iald hx hb hK hP (mw_ix a) 0 (mw_1 a ha) rfl h1 hdg ?_
  rw [h2]; exact kk
theorem mw_ast (hx : p.tables.exec = Jvm.exec) (hb : c.code = cc) (hK : va_K D kcl (kty cI cQ) s) (hP : va_P D kcl (mw_w cI β τ) H) (hD : va_D A (mw_w cI β τ)) (hS : va_S A H0 H locs) (a : Nat) (ha : mw_as a) {x v : Int32} {j : Nat} (he : x = nI j) (hj : j < mw_len a) (hdg : decode cc pc = .ok (.iastore, 1))
    (kk : ∀ (H1 : Heap) (locs1 : List Loc), va_P D kcl (mw_w cI β (m_a τ a j v)) H1 → va_D A (mw_w cI β (m_a τ a j v)) → va_S A H0 H1 locs1 → W p l e R s m args below meth c H1 locs1 cells slots Q (F0 m (pc + 1) ls rest)) : W p l e R s m args below meth c H locs cells slots Q (F0 m pc ls (.int v :: .int x :: .ref (β a) :: rest)) := by
  obtain ⟨h1, h2⟩ := ix_cl he hj (mw_lt a)
  refine va_iast hx hb hK hP hD hS (mw_ix a) 0 (mw_1 a ha) rfl h1 hdg (fun H1 locs1 q1 q2 q3 => ?_)
  rw [h2, mw_1s a ha] at q1 q2
  exact kk H1 locs1 q1 q2 q3
end MWr
end
section
/-! what a write leaves -/
theorem ka_1 (σ : kS) (a j : Nat) (v : Int32) : (k_a σ a j v).1 = σ.1 := rfl
theorem ka_3 (σ : kS) (a j : Nat) (v : Int32) : (k_a σ a j v).2.2 = σ.2.2 := rfl
theorem ka_2 (σ : kS) (a j b k : Nat) (v : Int32) : (k_a σ a j v).2.1 b k = if b = a then (if k = j then v else σ.2.1 b k) else σ.2.1 b k := by
  unfold k_a va_up upd
  by_cases h : b = a
  · subst h; simp
  · simp [h]
theorem kd_1 (σ : kS) (i f : Nat) (v : Int32) : (k_d σ i f v).1 = σ.1 := rfl
theorem kd_2 (σ : kS) (i f : Nat) (v : Int32) : (k_d σ i f v).2.1 = σ.2.1 := rfl
theorem kd_4 (σ : kS) (i f : Nat) (v : Int32) : (k_d σ i f v).2.2.2 = σ.2.2.2 := rfl
theorem kd_3 (σ : kS) (i f k g : Nat) (v : Int32) : (k_d σ i f v).2.2.1 k g = if k = i then (if g = f then v else σ.2.2.1 k g) else σ.2.2.1 k g := by
  unfold k_d va_up
  by_cases h : k = i
  · subst h; simp
  · simp [h]
theorem kf_1 (σ : kS) (f k : Nat) (v : Int32) : (k_f σ f v).1 k = if k = f then v else σ.1 k := rfl
theorem kf_2 (σ : kS) (f : Nat) (v : Int32) : (k_f σ f v).2 = σ.2 := rfl
theorem ma_1 (τ : mS) (a j : Nat) (v : Int32) : (m_a τ a j v).1 = τ.1 := rfl
theorem ma_2 (τ : mS) (a j b k : Nat) (v : Int32) : (m_a τ a j v).2 b k = if b = a then (if k = j then v else τ.2 b k) else τ.2 b k := by
  unfold m_a va_up upd
  by_cases h : b = a
  · subst h; simp
  · simp [h]
theorem mf_1 (τ : mS) (f k : Nat) (v : Int32) : (m_f τ f v).1 k = if k = f then v else τ.1 k := rfl
theorem mf_2 (τ : mS) (f : Nat) (v : Int32) : (m_f τ f v).2 = τ.2 := rfl
theorem kt_1 (σ : kS) (i z : Nat) : (kd_take σ i z).1 = σ.1 := rfl
theorem kt_4 (σ : kS) (i z : Nat) : (kd_take σ i z).2.2.2 = σ.2.2.2 := rfl
theorem kt_3 (σ : kS) (i z k g : Nat) : (kd_take σ i z).2.2.1 k g = if k = i then (if g = 6 then -1 else σ.2.2.1 k g) else σ.2.2.1 k g := by
  unfold kd_take
  simp only [ka_3, kd_3]
theorem kt_2 (σ : kS) (i z b k : Nat) : (kd_take σ i z).2.1 b k = if b = 1 then (if k = z then σ.1 11 else σ.2.1 b k) else if b = 0 then (if k = z then σ.2.2.1 i 0 else σ.2.1 b k) else σ.2.1 b k := by
  unfold kd_take
  simp only [ka_2, ka_1, kd_1, kd_2, kd_3, if_true]
  by_cases h1 : b = 1
  · subst h1; simp
  · simp [h1]
/-! numbers of the walks -/
def kd_ll (σ : kS) (i : Nat) : Int32 := match kd_llp σ i 16 with
  | some j => nI j
  | none => -1
/-- what every state keeps: so many desks, entries, turns -/
def k_ok (n : Nat) (f : Nat → Int32) : Prop := n ≤ 8 ∧ f 1 = nI n ∧ (∃ e, e ≤ 400 ∧ f 10 = nI e) ∧ (∃ t r, r ≤ t ∧ t ≤ 300 ∧ f 6 = nI t ∧ f 7 = nI r)
theorem ix_e {x : Int32} (h : ¬ x < 0) : x = nI x.toNatClampNeg := by
  obtain ⟨j, hj, rfl⟩ := nI_of h
  rw [nI_clamp hj]
theorem ix_l {x : Int32} {B : Nat} (h0 : ¬ x < 0) (h : ¬ nI B ≤ x) (hB : B < 2 ^ 31 := by decide) : x.toNatClampNeg < B := by
  obtain ⟨j, hj, rfl⟩ := nI_of h0
  rw [nI_clamp hj]
  rcases Nat.lt_or_ge j B with q | q
  · exact q
  · exact absurd (nI_le q hj) h
theorem ix_ln {n : Nat} {f : Nat → Int32} {x : Int32} (hI : k_ok n f) (h0 : ¬ x < 0) (h : ¬ f 1 ≤ x) : x.toNatClampNeg < n := by
  rw [hI.2.1] at h
  exact ix_l h0 h (by have := hI.1; omega)
theorem kd_at_none {n : Nat} {f : Nat → Int32} {x : Int32} (hI : k_ok n f) (h : x < 0 ∨ f 1 ≤ x ∨ (8 : Int32) ≤ x) : kd_at n x = none := by
  unfold kd_at
  by_cases h0 : x < 0
  · rw [if_pos h0]
  · rw [if_neg h0, if_pos]
    rcases h with h | h | h
    · exact absurd h h0
    · rw [hI.2.1] at h; exact h
    · obtain ⟨j, hj, rfl⟩ := nI_of h0
      have h8 : nI 8 ≤ nI j := h
      have := (nI_leI (by decide) hj).mp h8
      exact nI_le (by have := hI.1; omega) hj
theorem kd_at_some {n : Nat} {f : Nat → Int32} {x : Int32} (hI : k_ok n f) (h0 : ¬ x < 0) (h : ¬ f 1 ≤ x) : kd_at n x = some x.toNatClampNeg := by
  rw [hI.2.1] at h
  unfold kd_at
  rw [if_neg h0, if_neg h]
theorem kd_at_lt {n i : Nat} {f : Nat → Int32} {x : Int32} (hI : k_ok n f) (h : kd_at n x = some i) : i < n := by
  unfold kd_at at h
  by_cases h0 : x < 0
  · rw [if_pos h0] at h; cases h
  · rw [if_neg h0] at h
    by_cases h1 : nI n ≤ x
    · rw [if_pos h1] at h; cases h
    · rw [if_neg h1] at h
      cases h
      exact ix_l h0 h1 (by have := hI.1; omega)
theorem kd_at_eq {n i : Nat} {x : Int32} (h : kd_at n x = some i) : x = nI i := by
  unfold kd_at at h
  by_cases h0 : x < 0
  · rw [if_pos h0] at h; cases h
  · rw [if_neg h0] at h
    by_cases h1 : nI n ≤ x
    · rw [if_pos h1] at h; cases h
    · rw [if_neg h1] at h
      cases h
      exact ix_e h0
theorem kd_wfp_lt {σ : kS} {n m i : Nat} {x y : Int32} (h : kd_wfp σ n x y m = some i) : i < m := by
  induction m with
  | zero => cases h
  | succ m ih =>
    unfold kd_wfp at h
    cases hm : kd_wfp σ n x y m with
    | some k => rw [hm] at h; cases h; have := ih hm; omega
    | none =>
      rw [hm] at h
      dsimp only at h
      split at h
      · split at h
        · cases h; omega
        · cases h
      · cases h
theorem kd_wfp_up {σ : kS} {n m i : Nat} {x y : Int32} {M : Nat} (h : kd_wfp σ n x y m = some i) (hm : m ≤ M) : kd_wfp σ n x y M = some i := by
  induction M with
  | zero => rw [show m = 0 by omega] at h; exact h
  | succ M ih =>
    by_cases e : m = M + 1
    · rw [← e]; exact h
    · unfold kd_wfp
      rw [ih (by omega)]
theorem kd_llp_up {σ : kS} {i m k M : Nat} (h : kd_llp σ i m = some k) (hm : m ≤ M) : kd_llp σ i M = some k := by
  induction M with
  | zero => rw [show m = 0 by omega] at h; exact h
  | succ M ih =>
    by_cases e : m = M + 1
    · rw [← e]; exact h
    · unfold kd_llp
      rw [ih (by omega)]
theorem kd_llp_lt {σ : kS} {i m k : Nat} (h : kd_llp σ i m = some k) : k < m := by
  induction m with
  | zero => cases h
  | succ m ih =>
    unfold kd_llp at h
    cases hm : kd_llp σ i m with
    | some q => rw [hm] at h; cases h; have := ih hm; omega
    | none =>
      rw [hm] at h
      dsimp only at h
      split at h
      · cases h
      · split at h
        · cases h
        · cases h; omega
theorem kd_sub_nI {z : Nat} (h : z < 16) : kd_sub (nI z) = 1 := by
  unfold kd_sub
  rw [if_neg (nI_pos (by omega)), if_neg (show ¬ (16 : Int32) ≤ nI z from nI_ge (b := 16) h (by decide))]
theorem kd_ll_some {σ : kS} {i : Nat} (c : ¬ kd_sub (kd_ll σ i) = 0) : ∃ z, z < 16 ∧ kd_ll σ i = nI z ∧ kd_llp σ i 16 = some z := by
  cases h : kd_llp σ i 16 with
  | some z => exact ⟨z, kd_llp_lt h, by unfold kd_ll; rw [h], rfl⟩
  | none => exact absurd (show kd_sub (kd_ll σ i) = 0 by unfold kd_ll; rw [h]; decide) c
theorem kd_ll_none {σ : kS} {i : Nat} (c : kd_sub (kd_ll σ i) = 0) : kd_llp σ i 16 = none := by
  cases h : kd_llp σ i 16 with
  | none => rfl
  | some z =>
    have e : kd_ll σ i = nI z := by unfold kd_ll; rw [h]
    rw [e, kd_sub_nI (kd_llp_lt h)] at c
    exact absurd c (by decide)
theorem lp_lt {B j : Nat} (hn : B < 2 ^ 31) (c : ¬ nI B ≤ nI j) (h : j ≤ B) : j < B := by
  rcases Nat.lt_or_ge j B with q | q
  · exact q
  · exact absurd (nI_le q (by omega)) c
theorem lp_eq {B j : Nat} (hn : B < 2 ^ 31) (c : nI B ≤ nI j) (h : j ≤ B) : j = B := by
  have := (nI_leI hn (by omega)).mp c
  omega
theorem lp_ltI {n j : Nat} {f : Nat → Int32} (hI : k_ok n f) (c : ¬ f 1 ≤ nI j) (h : j ≤ n) : j < n := by
  rw [hI.2.1] at c
  exact lp_lt (by have := hI.1; omega) c h
theorem lp_eqI {n j : Nat} {f : Nat → Int32} (hI : k_ok n f) (c : f 1 ≤ nI j) (h : j ≤ n) : j = n := by
  rw [hI.2.1] at c
  exact lp_eq (by have := hI.1; omega) c h
theorem lp_8 {n j : Nat} {f : Nat → Int32} (hI : k_ok n f) (h : j < n) : ¬ (8 : Int32) ≤ nI j := nI_ge (b := 8) (by have := hI.1; omega) (by decide)
theorem k_ok_e0 {n : Nat} {f : Nat → Int32} (hI : k_ok n f) : ¬ f 10 < 0 := by
  obtain ⟨e, he, h⟩ := hI.2.2.1
  rw [h]
  exact nI_pos (by omega)
theorem k_ok_f {n k : Nat} {σ : kS} {v : Int32} (hI : k_ok n σ.1) (hk : k ≠ 1 ∧ k ≠ 6 ∧ k ≠ 7 ∧ k ≠ 10) : k_ok n (k_f σ k v).1 := by
  obtain ⟨h1, h2, h3, h4⟩ := hI
  have e : ∀ q, q ≠ k → (k_f σ k v).1 q = σ.1 q := fun q hq => va_up_ne _ _ hq
  refine ⟨h1, ?_, ?_, ?_⟩
  · rw [e 1 (Ne.symm hk.1)]; exact h2
  · rw [e 10 (Ne.symm hk.2.2.2)]; exact h3
  · rw [e 6 (Ne.symm hk.2.1), e 7 (Ne.symm hk.2.2.1)]; exact h4
theorem kd_gb_1 (n : Nat) (σ : kS) (z : Nat) : (kd_gb n σ z).1 = σ.1 := by
  unfold kd_gb
  dsimp only
  split <;> rfl
theorem kd_gba_1 (n : Nat) (σ : kS) (i j : Nat) : (kd_gba n σ i j).1 = σ.1 := by
  induction j with
  | zero => rfl
  | succ j ih =>
    unfold kd_gba
    split
    · rw [kd_gb_1, ih]
    · exact ih
theorem k_ok_ask {n i z : Nat} {σ : kS} (hI : k_ok n σ.1) : k_ok n (kd_ask σ i z).1 := by
  unfold kd_ask
  split
  · exact hI
  · exact k_ok_f (σ := k_d (k_d σ i 6 (nI z)) i 7 (σ.1 4)) hI (by decide)
theorem k_ok_tell {n i : Nat} {σ : kS} {w : Int32} (hI : k_ok n σ.1) : k_ok n (kd_tell σ w i).1 := by
  unfold kd_tell
  split
  · exact hI
  · rename_i h
    obtain ⟨h1, h2, ⟨e, he, h3⟩, h4⟩ := hI
    refine ⟨h1, h2, ⟨e + 1, ?_, ?_⟩, h4⟩
    · rcases Nat.lt_or_ge e 400 with q | q
      · exact q
      · exact absurd (show (400 : Int32) ≤ σ.1 10 by rw [h3]; exact nI_le (a := 400) q (by omega)) h
    · show σ.1 10 + 1 = nI (e + 1)
      rw [h3, nI_1]
theorem k_ok_do {n i : Nat} {σ : kS} (hI : k_ok n σ.1) : k_ok n (kd_do n σ i).2.1 := by
  unfold kd_do
  split
  · dsimp only
    rw [kd_1, kd_gba_1]; exact k_ok_tell hI
  · dsimp only
    rw [kd_1, kd_1, kd_gba_1]; exact k_ok_tell hI
theorem k_ok_turn {n i : Nat} {σ : kS} (hI : k_ok n σ.1) : k_ok n (kd_turn n σ i).2.1 := by
  unfold kd_turn
  split
  · split
    · exact k_ok_ask hI
    · exact k_ok_do hI
  · exact k_ok_f hI (by decide)
theorem k_ok_end {n i : Nat} {σ : kS} (hI : k_ok n σ.1) : k_ok n (kd_end n σ i).1 := by
  unfold kd_end
  split
  · rw [kd_gba_1]; exact hI
  · refine k_ok_tell ?_
    rw [kd_gba_1]; exact hI
theorem kd_do_01 (n : Nat) (σ : kS) (i : Nat) : (kd_do n σ i).1 = 0 ∨ (kd_do n σ i).1 = 1 := by
  unfold kd_do
  split
  · exact Or.inl rfl
  · exact Or.inr rfl
theorem kd_turn_01 (n : Nat) (σ : kS) (i : Nat) : (kd_turn n σ i).1 = 0 ∨ (kd_turn n σ i).1 = 1 := by
  unfold kd_turn
  split
  · split
    · exact Or.inl rfl
    · exact kd_do_01 n σ i
  · exact Or.inl rfl
/-! numbers of the reference's walks -/
def m_ok (n : Nat) (f : Nat → Int32) : Prop := n ≤ 8 ∧ f 1 = nI n ∧ (∃ e, e ≤ 400 ∧ f 17 = nI e) ∧ (∃ t r, r ≤ t ∧ t ≤ 300 ∧ f 14 = nI t ∧ f 15 = nI r)
theorem m8 {n i : Nat} {f : Nat → Int32} (hI : m_ok n f) (hi : i < n) : i < 8 := Nat.lt_of_lt_of_le hi hI.1
theorem mp_ltI {n j : Nat} {f : Nat → Int32} (hI : m_ok n f) (c : ¬ f 1 ≤ nI j) (h : j ≤ n) : j < n := by
  rw [hI.2.1] at c
  exact lp_lt (by have := hI.1; omega) c h
theorem mp_eqI {n j : Nat} {f : Nat → Int32} (hI : m_ok n f) (c : f 1 ≤ nI j) (h : j ≤ n) : j = n := by
  rw [hI.2.1] at c
  exact lp_eq (by have := hI.1; omega) c h
theorem i_ge {x : Int32} (h : ¬ x < 0) : 0 ≤ x := by
  obtain ⟨j, hj, rfl⟩ := nI_of h
  exact nI_pos' hj
theorem i_lt {x : Int32} (h : ¬ 0 ≤ x) : x < 0 := by
  by_cases q : x < 0
  · exact q
  · exact absurd (i_ge q) h
theorem i_nl {x : Int32} (h : 0 ≤ x) : ¬ x < 0 := by
  intro q
  have h1 := Int32.le_iff_toInt_le.mp h
  have h2 := Int32.lt_iff_toInt_lt.mp q
  omega
theorem m_ok_e0 {n : Nat} {f : Nat → Int32} (hI : m_ok n f) : ¬ f 17 < 0 := by
  obtain ⟨e, he, h⟩ := hI.2.2.1
  rw [h]
  exact nI_pos (by omega)
theorem m_ok_f {n k : Nat} {τ : mS} {v : Int32} (hI : m_ok n τ.1) (hk : k ≠ 1 ∧ k ≠ 14 ∧ k ≠ 15 ∧ k ≠ 17) : m_ok n (m_f τ k v).1 := by
  obtain ⟨h1, h2, h3, h4⟩ := hI
  have e : ∀ q, q ≠ k → (m_f τ k v).1 q = τ.1 q := fun q hq => va_up_ne _ _ hq
  refine ⟨h1, ?_, ?_, ?_⟩
  · rw [e 1 (Ne.symm hk.1)]; exact h2
  · rw [e 17 (Ne.symm hk.2.2.2)]; exact h3
  · rw [e 14 (Ne.symm hk.2.1), e 15 (Ne.symm hk.2.2.1)]; exact h4
theorem mo_first_lt {τ : mS} {x : Int32} {j : Nat} (h : ¬ mo_firstp τ x j < 0) (hj : j < 2 ^ 31) : ∃ k, k < j ∧ mo_firstp τ x j = nI k := by
  induction j with
  | zero => exact absurd (show mo_firstp τ x 0 < 0 from (by decide : (-1 : Int32) < 0)) h
  | succ j ih =>
    unfold mo_firstp at h ⊢
    by_cases h1 : τ.2 10 j = x
    · simp only [if_pos h1] at h ⊢
      by_cases h2 : mo_firstp τ x j < 0
      · simp only [if_pos h2] at h ⊢
        exact ⟨j, by omega, rfl⟩
      · simp only [if_neg h2] at h ⊢
        obtain ⟨k, hk, ek⟩ := ih h2 (by omega)
        by_cases h3 : τ.2 11 (mo_firstp τ x j).toNatClampNeg ≤ τ.2 11 j
        · simp only [if_pos h3] at h ⊢
          exact ⟨k, by omega, ek⟩
        · simp only [if_neg h3] at h ⊢
          exact ⟨j, by omega, rfl⟩
    · simp only [if_neg h1] at h ⊢
      obtain ⟨k, hk, ek⟩ := ih h (by omega)
      exact ⟨k, by omega, ek⟩
theorem mo_first_8 {n j : Nat} {f : Nat → Int32} {τ : mS} {x a : Int32} (hI : m_ok n f) (h : ¬ a < 0) (e : a = mo_firstp τ x j) (hj : j ≤ n) : a.toNatClampNeg < 8 := by
  subst e
  have := hI.1
  obtain ⟨k, hk, ek⟩ := mo_first_lt h (by omega)
  rw [ek, nI_clamp (by omega)]
  omega
theorem mo_gb_1 (n : Nat) (τ : mS) (z : Nat) : (mo_gb n τ z).1 = τ.1 := by
  unfold mo_gb
  dsimp only
  split <;> rfl
theorem mo_gap_1 (n : Nat) (v : Int32) (τ : mS) (j : Nat) : (mo_gap n v τ j).1 = τ.1 := by
  induction j with
  | zero => rfl
  | succ j ih =>
    unfold mo_gap
    split
    · rw [mo_gb_1, ih]
    · exact ih
theorem mo_ga_1 (n : Nat) (τ : mS) (i : Nat) : (mo_ga n τ i).1 = τ.1 := mo_gap_1 _ _ _ _
theorem m_ok_write {n i : Nat} {τ : mS} {w : Int32} (hI : m_ok n τ.1) : m_ok n (mo_write τ w i).1 := by
  unfold mo_write
  split
  · exact hI
  · rename_i h
    obtain ⟨h1, h2, ⟨e, he, h3⟩, h4⟩ := hI
    refine ⟨h1, h2, ⟨e + 1, ?_, ?_⟩, h4⟩
    · rcases Nat.lt_or_ge e 400 with q | q
      · exact q
      · exact absurd (show (400 : Int32) ≤ τ.1 17 by rw [h3]; exact nI_le (a := 400) q (by omega)) h
    · show τ.1 17 + 1 = nI (e + 1)
      rw [h3, nI_1]
theorem kd_add_1 (σ : kS) (i : Nat) (x y : Int32) : (kd_add σ i x y).1 = σ.1 := by
  unfold kd_add
  split
  · rfl
  · split <;> rfl
theorem m_ok_steps {n i : Nat} {τ : mS} (hI : m_ok n τ.1) : m_ok n (mo_steps n τ i).2.1 := by
  unfold mo_steps
  split
  · unfold mo_do
    split
    · dsimp only
      rw [mo_ga_1, ma_1]; exact m_ok_write hI
    · dsimp only
      rw [show ∀ T : mS, (mo_goes T i).1 = T.1 from fun _ => rfl, ma_1, mo_ga_1, ma_1]; exact m_ok_write hI
  · split
    · unfold mo_ask
      split
      · exact hI
      · rename_i s _ _
        exact m_ok_f (τ := m_a (m_a τ 10 i (nI s)) 11 i (τ.1 12)) hI (by decide)
    · exact hI
end
