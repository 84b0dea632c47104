section
-- ===== PART A: goes FIRST, ahead of the names: the tables' words, and 'selects' of the private methods out of them =====
/-- a private method of a class that the tables say can be made, by its rows of tables_1 -/
def lw_okq (q : MethodName × Nat) : Prop := (q.1.cls ≠ "java/lang/invoke/MethodHandle" ∧ q.1.cls ≠ "java/lang/invoke/VarHandle") ∧ Cond.instantiable q.1.cls q.2 ∈ tables_1 ∧ Cond.privateMethod q.1 ∈ tables_1 ∧ Cond.instanceMethod q.1 ∈ tables_1
theorem lw_p0 : lw_okq (⟨"DeskTurns", "deskAt", "(I)LDeskTurns$Desk;"⟩, 13) := ⟨⟨by decide +kernel, by decide +kernel⟩, List.mem_of_getElem? (i := 13) (by decide +kernel), List.mem_of_getElem? (i := 71) (by decide +kernel), List.mem_of_getElem? (i := 72) (by decide +kernel)⟩
theorem lw_p1 : lw_okq (⟨"DeskTurns", "isInTheMidst", "(LDeskTurns$Desk;)Z"⟩, 13) := ⟨⟨by decide +kernel, by decide +kernel⟩, List.mem_of_getElem? (i := 13) (by decide +kernel), List.mem_of_getElem? (i := 86) (by decide +kernel), List.mem_of_getElem? (i := 87) (by decide +kernel)⟩
theorem lw_p2 : lw_okq (⟨"DeskTurns", "heldBy", "(LDeskTurns$Desk;)I"⟩, 13) := ⟨⟨by decide +kernel, by decide +kernel⟩, List.mem_of_getElem? (i := 13) (by decide +kernel), List.mem_of_getElem? (i := 90) (by decide +kernel), List.mem_of_getElem? (i := 91) (by decide +kernel)⟩
theorem lw_p3 : lw_okq (⟨"DeskTurns", "giveBackAll", "(LDeskTurns$Desk;)V"⟩, 13) := ⟨⟨by decide +kernel, by decide +kernel⟩, List.mem_of_getElem? (i := 13) (by decide +kernel), List.mem_of_getElem? (i := 106) (by decide +kernel), List.mem_of_getElem? (i := 107) (by decide +kernel)⟩
theorem lw_p4 : lw_okq (⟨"DeskTurns", "giveBack", "(I)V"⟩, 13) := ⟨⟨by decide +kernel, by decide +kernel⟩, List.mem_of_getElem? (i := 13) (by decide +kernel), List.mem_of_getElem? (i := 110) (by decide +kernel), List.mem_of_getElem? (i := 111) (by decide +kernel)⟩
theorem lw_p5 : lw_okq (⟨"DeskTurns", "waiterFor", "(II)LDeskTurns$Desk;"⟩, 13) := ⟨⟨by decide +kernel, by decide +kernel⟩, List.mem_of_getElem? (i := 13) (by decide +kernel), List.mem_of_getElem? (i := 114) (by decide +kernel), List.mem_of_getElem? (i := 115) (by decide +kernel)⟩
theorem lw_p6 : lw_okq (⟨"DeskTurns", "waitersAheadOf", "(LDeskTurns$Desk;)I"⟩, 13) := ⟨⟨by decide +kernel, by decide +kernel⟩, List.mem_of_getElem? (i := 13) (by decide +kernel), List.mem_of_getElem? (i := 118) (by decide +kernel), List.mem_of_getElem? (i := 119) (by decide +kernel)⟩
theorem lw_p7 : lw_okq (⟨"DeskTurns", "take", "(LDeskTurns$Desk;I)V"⟩, 13) := ⟨⟨by decide +kernel, by decide +kernel⟩, List.mem_of_getElem? (i := 13) (by decide +kernel), List.mem_of_getElem? (i := 122) (by decide +kernel), List.mem_of_getElem? (i := 123) (by decide +kernel)⟩
theorem lw_p8 : lw_okq (⟨"DeskTurns", "tell", "(ILDeskTurns$Desk;)V"⟩, 13) := ⟨⟨by decide +kernel, by decide +kernel⟩, List.mem_of_getElem? (i := 13) (by decide +kernel), List.mem_of_getElem? (i := 126) (by decide +kernel), List.mem_of_getElem? (i := 127) (by decide +kernel)⟩
theorem lw_p9 : lw_okq (⟨"DeskTurns", "end", "(LDeskTurns$Desk;)V"⟩, 13) := ⟨⟨by decide +kernel, by decide +kernel⟩, List.mem_of_getElem? (i := 13) (by decide +kernel), List.mem_of_getElem? (i := 138) (by decide +kernel), List.mem_of_getElem? (i := 139) (by decide +kernel)⟩
theorem lw_p10 : lw_okq (⟨"DeskTurns", "subjectsHeld", "()I"⟩, 13) := ⟨⟨by decide +kernel, by decide +kernel⟩, List.mem_of_getElem? (i := 13) (by decide +kernel), List.mem_of_getElem? (i := 146) (by decide +kernel), List.mem_of_getElem? (i := 147) (by decide +kernel)⟩
theorem lw_p11 : lw_okq (⟨"java/lang/Throwable", "fillInStackTrace", "(I)Ljava/lang/Throwable;"⟩, 6) := ⟨⟨by decide +kernel, by decide +kernel⟩, List.mem_of_getElem? (i := 197) (by decide +kernel), List.mem_of_getElem? (i := 195) (by decide +kernel), List.mem_of_getElem? (i := 196) (by decide +kernel)⟩
theorem lw_p12 : lw_okq (⟨"DeskTurns", "takeTurn", "(LDeskTurns$Desk;)Z"⟩, 13) := ⟨⟨by decide +kernel, by decide +kernel⟩, List.mem_of_getElem? (i := 13) (by decide +kernel), List.mem_of_getElem? (i := 305) (by decide +kernel), List.mem_of_getElem? (i := 306) (by decide +kernel)⟩
theorem lw_p13 : lw_okq (⟨"DeskTurns", "leastLacking", "(LDeskTurns$Desk;)I"⟩, 13) := ⟨⟨by decide +kernel, by decide +kernel⟩, List.mem_of_getElem? (i := 13) (by decide +kernel), List.mem_of_getElem? (i := 309) (by decide +kernel), List.mem_of_getElem? (i := 310) (by decide +kernel)⟩
theorem lw_p14 : lw_okq (⟨"DeskTurns", "ask", "(LDeskTurns$Desk;I)V"⟩, 13) := ⟨⟨by decide +kernel, by decide +kernel⟩, List.mem_of_getElem? (i := 13) (by decide +kernel), List.mem_of_getElem? (i := 313) (by decide +kernel), List.mem_of_getElem? (i := 314) (by decide +kernel)⟩
theorem lw_p15 : lw_okq (⟨"DeskTurns", "doOrUndo", "(LDeskTurns$Desk;)Z"⟩, 13) := ⟨⟨by decide +kernel, by decide +kernel⟩, List.mem_of_getElem? (i := 13) (by decide +kernel), List.mem_of_getElem? (i := 317) (by decide +kernel), List.mem_of_getElem? (i := 318) (by decide +kernel)⟩
def lw_privs_1 : List (MethodName × Nat) := [(⟨"DeskTurns", "deskAt", "(I)LDeskTurns$Desk;"⟩, 13), (⟨"DeskTurns", "isInTheMidst", "(LDeskTurns$Desk;)Z"⟩, 13), (⟨"DeskTurns", "heldBy", "(LDeskTurns$Desk;)I"⟩, 13), (⟨"DeskTurns", "giveBackAll", "(LDeskTurns$Desk;)V"⟩, 13), (⟨"DeskTurns", "giveBack", "(I)V"⟩, 13), (⟨"DeskTurns", "waiterFor", "(II)LDeskTurns$Desk;"⟩, 13), (⟨"DeskTurns", "waitersAheadOf", "(LDeskTurns$Desk;)I"⟩, 13), (⟨"DeskTurns", "take", "(LDeskTurns$Desk;I)V"⟩, 13), (⟨"DeskTurns", "tell", "(ILDeskTurns$Desk;)V"⟩, 13), (⟨"DeskTurns", "end", "(LDeskTurns$Desk;)V"⟩, 13), (⟨"DeskTurns", "subjectsHeld", "()I"⟩, 13), (⟨"java/lang/Throwable", "fillInStackTrace", "(I)Ljava/lang/Throwable;"⟩, 6), (⟨"DeskTurns", "takeTurn", "(LDeskTurns$Desk;)Z"⟩, 13), (⟨"DeskTurns", "leastLacking", "(LDeskTurns$Desk;)I"⟩, 13), (⟨"DeskTurns", "ask", "(LDeskTurns$Desk;I)V"⟩, 13), (⟨"DeskTurns", "doOrUndo", "(LDeskTurns$Desk;)Z"⟩, 13)]
theorem lw_r1 : ∀ q ∈ lw_privs_1, lw_okq q := List.forall_mem_cons.mpr ⟨lw_p0, List.forall_mem_cons.mpr ⟨lw_p1, List.forall_mem_cons.mpr ⟨lw_p2, List.forall_mem_cons.mpr ⟨lw_p3, List.forall_mem_cons.mpr ⟨lw_p4, List.forall_mem_cons.mpr ⟨lw_p5, List.forall_mem_cons.mpr ⟨lw_p6, List.forall_mem_cons.mpr ⟨lw_p7, List.forall_mem_cons.mpr ⟨lw_p8, List.forall_mem_cons.mpr ⟨lw_p9, List.forall_mem_cons.mpr ⟨lw_p10, List.forall_mem_cons.mpr ⟨lw_p11, List.forall_mem_cons.mpr ⟨lw_p12, List.forall_mem_cons.mpr ⟨lw_p13, List.forall_mem_cons.mpr ⟨lw_p14, List.forall_mem_cons.mpr ⟨lw_p15, fun _ h => absurd h List.not_mem_nil⟩⟩⟩⟩⟩⟩⟩⟩⟩⟩⟩⟩⟩⟩⟩⟩
theorem lw_p16 : lw_okq (⟨"DeskTurns", "isOverdue", "(I)Z"⟩, 13) := ⟨⟨by decide +kernel, by decide +kernel⟩, List.mem_of_getElem? (i := 13) (by decide +kernel), List.mem_of_getElem? (i := 361) (by decide +kernel), List.mem_of_getElem? (i := 362) (by decide +kernel)⟩
theorem lw_p17 : lw_okq (⟨"DeskTurnsModel", "refuse", "(I)I"⟩, 21) := ⟨⟨by decide +kernel, by decide +kernel⟩, List.mem_of_getElem? (i := 389) (by decide +kernel), List.mem_of_getElem? (i := 470) (by decide +kernel), List.mem_of_getElem? (i := 471) (by decide +kernel)⟩
theorem lw_p18 : lw_okq (⟨"DeskTurnsModel", "isDesk", "(I)Z"⟩, 21) := ⟨⟨by decide +kernel, by decide +kernel⟩, List.mem_of_getElem? (i := 389) (by decide +kernel), List.mem_of_getElem? (i := 478) (by decide +kernel), List.mem_of_getElem? (i := 479) (by decide +kernel)⟩
theorem lw_p19 : lw_okq (⟨"DeskTurnsModel", "isMidst", "(I)Z"⟩, 21) := ⟨⟨by decide +kernel, by decide +kernel⟩, List.mem_of_getElem? (i := 389) (by decide +kernel), List.mem_of_getElem? (i := 485) (by decide +kernel), List.mem_of_getElem? (i := 486) (by decide +kernel)⟩
theorem lw_p20 : lw_okq (⟨"DeskTurnsModel", "held", "(I)I"⟩, 21) := ⟨⟨by decide +kernel, by decide +kernel⟩, List.mem_of_getElem? (i := 389) (by decide +kernel), List.mem_of_getElem? (i := 489) (by decide +kernel), List.mem_of_getElem? (i := 490) (by decide +kernel)⟩
theorem lw_p21 : lw_okq (⟨"DeskTurnsModel", "steps", "(I)Z"⟩, 21) := ⟨⟨by decide +kernel, by decide +kernel⟩, List.mem_of_getElem? (i := 389) (by decide +kernel), List.mem_of_getElem? (i := 501) (by decide +kernel), List.mem_of_getElem? (i := 502) (by decide +kernel)⟩
theorem lw_p22 : lw_okq (⟨"DeskTurnsModel", "write", "(II)V"⟩, 21) := ⟨⟨by decide +kernel, by decide +kernel⟩, List.mem_of_getElem? (i := 389) (by decide +kernel), List.mem_of_getElem? (i := 505) (by decide +kernel), List.mem_of_getElem? (i := 506) (by decide +kernel)⟩
theorem lw_p23 : lw_okq (⟨"DeskTurnsModel", "giveAll", "(I)V"⟩, 21) := ⟨⟨by decide +kernel, by decide +kernel⟩, List.mem_of_getElem? (i := 389) (by decide +kernel), List.mem_of_getElem? (i := 509) (by decide +kernel), List.mem_of_getElem? (i := 510) (by decide +kernel)⟩
theorem lw_p24 : lw_okq (⟨"DeskTurnsModel", "giveBack", "(I)V"⟩, 21) := ⟨⟨by decide +kernel, by decide +kernel⟩, List.mem_of_getElem? (i := 389) (by decide +kernel), List.mem_of_getElem? (i := 513) (by decide +kernel), List.mem_of_getElem? (i := 514) (by decide +kernel)⟩
theorem lw_p25 : lw_okq (⟨"DeskTurnsModel", "first", "(I)I"⟩, 21) := ⟨⟨by decide +kernel, by decide +kernel⟩, List.mem_of_getElem? (i := 389) (by decide +kernel), List.mem_of_getElem? (i := 517) (by decide +kernel), List.mem_of_getElem? (i := 518) (by decide +kernel)⟩
theorem lw_p26 : lw_okq (⟨"DeskTurnsModel", "goesOn", "(I)V"⟩, 21) := ⟨⟨by decide +kernel, by decide +kernel⟩, List.mem_of_getElem? (i := 389) (by decide +kernel), List.mem_of_getElem? (i := 521) (by decide +kernel), List.mem_of_getElem? (i := 522) (by decide +kernel)⟩
def lw_privs_2 : List (MethodName × Nat) := [(⟨"DeskTurns", "isOverdue", "(I)Z"⟩, 13), (⟨"DeskTurnsModel", "refuse", "(I)I"⟩, 21), (⟨"DeskTurnsModel", "isDesk", "(I)Z"⟩, 21), (⟨"DeskTurnsModel", "isMidst", "(I)Z"⟩, 21), (⟨"DeskTurnsModel", "held", "(I)I"⟩, 21), (⟨"DeskTurnsModel", "steps", "(I)Z"⟩, 21), (⟨"DeskTurnsModel", "write", "(II)V"⟩, 21), (⟨"DeskTurnsModel", "giveAll", "(I)V"⟩, 21), (⟨"DeskTurnsModel", "giveBack", "(I)V"⟩, 21), (⟨"DeskTurnsModel", "first", "(I)I"⟩, 21), (⟨"DeskTurnsModel", "goesOn", "(I)V"⟩, 21)]
theorem lw_r2 : ∀ q ∈ lw_privs_2, lw_okq q := List.forall_mem_cons.mpr ⟨lw_p16, List.forall_mem_cons.mpr ⟨lw_p17, List.forall_mem_cons.mpr ⟨lw_p18, List.forall_mem_cons.mpr ⟨lw_p19, List.forall_mem_cons.mpr ⟨lw_p20, List.forall_mem_cons.mpr ⟨lw_p21, List.forall_mem_cons.mpr ⟨lw_p22, List.forall_mem_cons.mpr ⟨lw_p23, List.forall_mem_cons.mpr ⟨lw_p24, List.forall_mem_cons.mpr ⟨lw_p25, List.forall_mem_cons.mpr ⟨lw_p26, fun _ h => absurd h List.not_mem_nil⟩⟩⟩⟩⟩⟩⟩⟩⟩⟩⟩
def lw_privs : List (MethodName × Nat) := lw_privs_1 ++ (lw_privs_2)
def lw_tbl : List Cond := k2_sels lw_privs ++ tables_1
theorem lw_privs_ok : ∀ q ∈ lw_privs, lw_okq q := by
  show ∀ q ∈ lw_privs_1 ++ (lw_privs_2), lw_okq q
  exact List.forall_mem_append.mpr ⟨lw_r1, lw_r2⟩
end
section
/-! names: the system K, its desks D, the reference M, the law L; Arrays A, Integer I -/
def R_K : String := "DeskTurns"
def R_D : String := "DeskTurns$Desk"
def R_M : String := "DeskTurnsModel"
def R_L : String := "DeskTurnsLaw"
def R_A : String := "java/util/Arrays"
def R_I : String := "java/lang/Integer"
def T_K : u_T := fun k => match k with
  | 0 => ("DeskTurns", "desks", "[LDeskTurns$Desk;", true)
  | 1 => ("DeskTurns", "deskCount", "I", false)
  | 2 => ("DeskTurns", "holders", "[I", true)
  | 3 => ("DeskTurns", "gotAt", "[I", true)
  | 4 => ("DeskTurns", "askings", "I", false)
  | 5 => ("DeskTurns", "turns", "[I", true)
  | 6 => ("DeskTurns", "turnsTold", "I", false)
  | 7 => ("DeskTurns", "turnsRun", "I", false)
  | 8 => ("DeskTurns", "turnsPassedOver", "I", false)
  | 9 => ("DeskTurns", "entries", "[I", true)
  | 10 => ("DeskTurns", "entryCount", "I", false)
  | 11 => ("DeskTurns", "time", "I", false)
  | _ => ("DeskTurns", "closed", "Z", false)
def ty_K : Nat → FieldType := fun k => match k with
  | 0 => .array (.object "DeskTurns$Desk")
  | 1 => .int
  | 2 => .array .int
  | 3 => .array .int
  | 4 => .int
  | 5 => .array .int
  | 6 => .int
  | 7 => .int
  | 8 => .int
  | 9 => .array .int
  | 10 => .int
  | 11 => .int
  | _ => .boolean
theorem nm_K : ∀ a, a < 13 → ∀ b, b < 13 → a ≠ b → (T_K a).2.1 ≠ (T_K b).2.1 := by decide +kernel
theorem ty_K_ok : ∀ k, k < 13 → parseFieldDescriptor (T_K k).2.2.1 = some (ty_K k) := by decide +kernel
theorem T_K1 : ∀ k, k < 13 → (T_K k).1 = R_K := by decide +kernel
def T_D : u_T := fun k => match k with
  | 0 => ("DeskTurns$Desk", "number", "I", true)
  | 1 => ("DeskTurns$Desk", "acts", "I", true)
  | 2 => ("DeskTurns$Desk", "needed", "[I", true)
  | 3 => ("DeskTurns$Desk", "failsAt", "I", false)
  | 4 => ("DeskTurns$Desk", "present", "I", false)
  | 5 => ("DeskTurns$Desk", "actsDone", "I", false)
  | 6 => ("DeskTurns$Desk", "waitsFor", "I", false)
  | 7 => ("DeskTurns$Desk", "askedAs", "I", false)
  | 8 => ("DeskTurns$Desk", "isDead", "Z", false)
  | _ => ("DeskTurns$Desk", "hasEnded", "Z", false)
def ty_D : Nat → FieldType := fun k => match k with
  | 0 => .int
  | 1 => .int
  | 2 => .array .int
  | 3 => .int
  | 4 => .int
  | 5 => .int
  | 6 => .int
  | 7 => .int
  | 8 => .boolean
  | _ => .boolean
theorem nm_D : ∀ a, a < 10 → ∀ b, b < 10 → a ≠ b → (T_D a).2.1 ≠ (T_D b).2.1 := by decide +kernel
theorem ty_D_ok : ∀ k, k < 10 → parseFieldDescriptor (T_D k).2.2.1 = some (ty_D k) := by decide +kernel
theorem T_D1 : ∀ k, k < 10 → (T_D k).1 = R_D := by decide +kernel
def T_M : u_T := fun k => match k with
  | 0 => ("DeskTurnsModel", "thrown", "I", false)
  | 1 => ("DeskTurnsModel", "desks", "I", false)
  | 2 => ("DeskTurnsModel", "acts", "[I", true)
  | 3 => ("DeskTurnsModel", "failing", "[I", true)
  | 4 => ("DeskTurnsModel", "present", "[I", true)
  | 5 => ("DeskTurnsModel", "done", "[I", true)
  | 6 => ("DeskTurnsModel", "state", "[I", true)
  | 7 => ("DeskTurnsModel", "needed", "[I", true)
  | 8 => ("DeskTurnsModel", "holder", "[I", true)
  | 9 => ("DeskTurnsModel", "got", "[I", true)
  | 10 => ("DeskTurnsModel", "waitsFor", "[I", true)
  | 11 => ("DeskTurnsModel", "askedAs", "[I", true)
  | 12 => ("DeskTurnsModel", "asks", "I", false)
  | 13 => ("DeskTurnsModel", "turns", "[I", true)
  | 14 => ("DeskTurnsModel", "told", "I", false)
  | 15 => ("DeskTurnsModel", "ran", "I", false)
  | 16 => ("DeskTurnsModel", "passed", "I", false)
  | 17 => ("DeskTurnsModel", "entries", "I", false)
  | 18 => ("DeskTurnsModel", "entry", "[I", true)
  | 19 => ("DeskTurnsModel", "time", "I", false)
  | _ => ("DeskTurnsModel", "closed", "Z", false)
def ty_M : Nat → FieldType := fun k => match k with
  | 0 => .int
  | 1 => .int
  | 2 => .array .int
  | 3 => .array .int
  | 4 => .array .int
  | 5 => .array .int
  | 6 => .array .int
  | 7 => .array .int
  | 8 => .array .int
  | 9 => .array .int
  | 10 => .array .int
  | 11 => .array .int
  | 12 => .int
  | 13 => .array .int
  | 14 => .int
  | 15 => .int
  | 16 => .int
  | 17 => .int
  | 18 => .array .int
  | 19 => .int
  | _ => .boolean
theorem nm_M : ∀ a, a < 21 → ∀ b, b < 21 → a ≠ b → (T_M a).2.1 ≠ (T_M b).2.1 := by decide +kernel
theorem ty_M_ok : ∀ k, k < 21 → parseFieldDescriptor (T_M k).2.2.1 = some (ty_M k) := by decide +kernel
theorem T_M1 : ∀ k, k < 21 → (T_M k).1 = R_M := by decide +kernel
theorem T_Kf (k : Nat) (hk : k = 1 ∨ k = 4 ∨ k = 6 ∨ k = 7 ∨ k = 8 ∨ k = 10 ∨ k = 11 ∨ k = 12) : (T_K k).2.2.2 = false := by rcases hk with rfl | rfl | rfl | rfl | rfl | rfl | rfl | rfl <;> rfl
theorem T_Df (k : Nat) (hk : k = 3 ∨ k = 4 ∨ k = 5 ∨ k = 6 ∨ k = 7 ∨ k = 8 ∨ k = 9) : (T_D k).2.2.2 = false := by rcases hk with rfl | rfl | rfl | rfl | rfl | rfl | rfl <;> rfl
theorem T_Mf (k : Nat) (hk : k = 0 ∨ k = 1 ∨ k = 12 ∨ k = 14 ∨ k = 15 ∨ k = 16 ∨ k = 17 ∨ k = 19 ∨ k = 20) : (T_M k).2.2.2 = false := by rcases hk with rfl | rfl | rfl | rfl | rfl | rfl | rfl | rfl | rfl <;> rfl
abbrev kcl : List vw_C := [(R_K, T_K, 13), (R_D, T_D, 10), (R_M, T_M, 21)]
abbrev kty (cI cQ : ClassId) : List (ClassId × FieldType) := [(cI, .int), (cQ, .object R_D)]
/-! the words: all good ones of the tables -/
def kT : List Cond := lw_tbl.filter goodWord
theorem kT_good : ∀ w ∈ kT, (w.onTables && w.keeps) = true ∨ ∃ ty, w = .arrayClass ty := fun w h => good_of_word (List.mem_filter.mp h).2
theorem kT_tbl : ∀ w ∈ kT, w ∈ lw_tbl := fun w h => (List.mem_filter.mp h).1
theorem mk_T {w : Cond} (i : Nat) (h : tables_1[i]? = some w) (g : goodWord w = true) : w ∈ kT := List.mem_filter.mpr ⟨List.mem_append_right _ (List.mem_of_getElem? h), g⟩
theorem mk_S {w : Cond} (i : Nat) (h : (k2_sels lw_privs)[i]? = some w) (g : goodWord w = true) : w ∈ kT := List.mem_filter.mpr ⟨List.mem_append_left _ (List.mem_of_getElem? h), g⟩
theorem in_K : ∀ w ∈ u_ws R_K T_K 13, w ∈ kT := by decide +kernel
theorem in_D : ∀ w ∈ u_ws R_D T_D 10, w ∈ kT := by decide +kernel
theorem in_M : ∀ w ∈ u_ws R_M T_M 21, w ∈ kT := by decide +kernel
abbrev b_K_init : ByteArray := prog_1_method_1_code
def y_K_init : MethodName := ⟨R_K, "<init>", "()V"⟩
abbrev w_K_init : List Cond := Cond.code y_K_init b_K_init 1 none :: kT
theorem cd_K_init : Cond.code y_K_init b_K_init 1 none ∈ kT := mk_T 16 rfl rfl
abbrev b_A_fill : ByteArray := prog_13_method_103_code
def y_A_fill : MethodName := ⟨R_A, "fill", "([II)V"⟩
abbrev w_A_fill : List Cond := Cond.code y_A_fill b_A_fill 4 none :: kT
theorem cd_A_fill : Cond.code y_A_fill b_A_fill 4 none ∈ kT := mk_T 24 rfl rfl
abbrev b_K_needs : ByteArray := prog_1_method_3_code
def y_K_needs : MethodName := ⟨R_K, "needs", "(III)Z"⟩
abbrev w_K_needs : List Cond := Cond.code y_K_needs b_K_needs 5 (some .boolean) :: kT
theorem cd_K_needs : Cond.code y_K_needs b_K_needs 5 (some .boolean) ∈ kT := mk_T 69 rfl rfl
abbrev b_K_deskAt : ByteArray := prog_1_method_15_code
def y_K_deskAt : MethodName := ⟨R_K, "deskAt", "(I)LDeskTurns$Desk;"⟩
abbrev w_K_deskAt : List Cond := Cond.code y_K_deskAt b_K_deskAt 2 (some (.object "DeskTurns$Desk")) :: kT
theorem cd_K_deskAt : Cond.code y_K_deskAt b_K_deskAt 2 (some (.object "DeskTurns$Desk")) ∈ kT := mk_T 73 rfl rfl
abbrev b_K_isSubject : ByteArray := prog_1_method_16_code
def y_K_isSubject : MethodName := ⟨R_K, "isSubject", "(I)Z"⟩
abbrev w_K_isSubject : List Cond := Cond.code y_K_isSubject b_K_isSubject 1 (some .boolean) :: kT
theorem cd_K_isSubject : Cond.code y_K_isSubject b_K_isSubject 1 (some .boolean) ∈ kT := mk_T 76 rfl rfl
abbrev b_D_isAhead : ByteArray := prog_2_method_3_code
def y_D_isAhead : MethodName := ⟨R_D, "isAhead", "(I)Z"⟩
abbrev w_D_isAhead : List Cond := Cond.code y_D_isAhead b_D_isAhead 2 (some .boolean) :: kT
theorem cd_D_isAhead : Cond.code y_D_isAhead b_D_isAhead 2 (some .boolean) ∈ kT := mk_T 80 rfl rfl
abbrev b_D_hasNeed : ByteArray := prog_2_method_4_code
def y_D_hasNeed : MethodName := ⟨R_D, "hasNeed", "(II)Z"⟩
abbrev w_D_hasNeed : List Cond := Cond.code y_D_hasNeed b_D_hasNeed 3 (some .boolean) :: kT
theorem cd_D_hasNeed : Cond.code y_D_hasNeed b_D_hasNeed 3 (some .boolean) ∈ kT := mk_T 84 rfl rfl
abbrev b_K_isInTheMidst : ByteArray := prog_1_method_18_code
def y_K_isInTheMidst : MethodName := ⟨R_K, "isInTheMidst", "(LDeskTurns$Desk;)Z"⟩
abbrev w_K_isInTheMidst : List Cond := Cond.code y_K_isInTheMidst b_K_isInTheMidst 2 (some .boolean) :: kT
theorem cd_K_isInTheMidst : Cond.code y_K_isInTheMidst b_K_isInTheMidst 2 (some .boolean) ∈ kT := mk_T 88 rfl rfl
abbrev b_K_heldBy : ByteArray := prog_1_method_19_code
def y_K_heldBy : MethodName := ⟨R_K, "heldBy", "(LDeskTurns$Desk;)I"⟩
abbrev w_K_heldBy : List Cond := Cond.code y_K_heldBy b_K_heldBy 4 (some .int) :: kT
theorem cd_K_heldBy : Cond.code y_K_heldBy b_K_heldBy 4 (some .int) ∈ kT := mk_T 92 rfl rfl
abbrev b_D_addNeed : ByteArray := prog_2_method_5_code
def y_D_addNeed : MethodName := ⟨R_D, "addNeed", "(II)V"⟩
abbrev w_D_addNeed : List Cond := Cond.code y_D_addNeed b_D_addNeed 3 none :: kT
theorem cd_D_addNeed : Cond.code y_D_addNeed b_D_addNeed 3 none ∈ kT := mk_T 96 rfl rfl
abbrev b_K_log : ByteArray := prog_1_method_6_code
def y_K_log : MethodName := ⟨R_K, "log", "(I)I"⟩
abbrev w_K_log : List Cond := Cond.code y_K_log b_K_log 2 (some .int) :: kT
theorem cd_K_log : Cond.code y_K_log b_K_log 2 (some .int) ∈ kT := mk_T 100 rfl rfl
abbrev b_K_interrupt : ByteArray := prog_1_method_9_code
def y_K_interrupt : MethodName := ⟨R_K, "interrupt", "(I)Z"⟩
abbrev w_K_interrupt : List Cond := Cond.code y_K_interrupt b_K_interrupt 3 (some .boolean) :: kT
theorem cd_K_interrupt : Cond.code y_K_interrupt b_K_interrupt 3 (some .boolean) ∈ kT := mk_T 104 rfl rfl
abbrev b_K_giveBackAll : ByteArray := prog_1_method_26_code
def y_K_giveBackAll : MethodName := ⟨R_K, "giveBackAll", "(LDeskTurns$Desk;)V"⟩
abbrev w_K_giveBackAll : List Cond := Cond.code y_K_giveBackAll b_K_giveBackAll 3 none :: kT
theorem cd_K_giveBackAll : Cond.code y_K_giveBackAll b_K_giveBackAll 3 none ∈ kT := mk_T 108 rfl rfl
abbrev b_K_giveBack : ByteArray := prog_1_method_27_code
def y_K_giveBack : MethodName := ⟨R_K, "giveBack", "(I)V"⟩
abbrev w_K_giveBack : List Cond := Cond.code y_K_giveBack b_K_giveBack 3 none :: kT
theorem cd_K_giveBack : Cond.code y_K_giveBack b_K_giveBack 3 none ∈ kT := mk_T 112 rfl rfl
abbrev b_K_waiterFor : ByteArray := prog_1_method_28_code
def y_K_waiterFor : MethodName := ⟨R_K, "waiterFor", "(II)LDeskTurns$Desk;"⟩
abbrev w_K_waiterFor : List Cond := Cond.code y_K_waiterFor b_K_waiterFor 5 (some (.object "DeskTurns$Desk")) :: kT
theorem cd_K_waiterFor : Cond.code y_K_waiterFor b_K_waiterFor 5 (some (.object "DeskTurns$Desk")) ∈ kT := mk_T 116 rfl rfl
abbrev b_K_waitersAheadOf : ByteArray := prog_1_method_29_code
def y_K_waitersAheadOf : MethodName := ⟨R_K, "waitersAheadOf", "(LDeskTurns$Desk;)I"⟩
abbrev w_K_waitersAheadOf : List Cond := Cond.code y_K_waitersAheadOf b_K_waitersAheadOf 5 (some .int) :: kT
theorem cd_K_waitersAheadOf : Cond.code y_K_waitersAheadOf b_K_waitersAheadOf 5 (some .int) ∈ kT := mk_T 120 rfl rfl
abbrev b_K_take : ByteArray := prog_1_method_24_code
def y_K_take : MethodName := ⟨R_K, "take", "(LDeskTurns$Desk;I)V"⟩
abbrev w_K_take : List Cond := Cond.code y_K_take b_K_take 3 none :: kT
theorem cd_K_take : Cond.code y_K_take b_K_take 3 none ∈ kT := mk_T 124 rfl rfl
abbrev b_K_tell : ByteArray := prog_1_method_32_code
def y_K_tell : MethodName := ⟨R_K, "tell", "(ILDeskTurns$Desk;)V"⟩
abbrev w_K_tell : List Cond := Cond.code y_K_tell b_K_tell 3 none :: kT
theorem cd_K_tell : Cond.code y_K_tell b_K_tell 3 none ∈ kT := mk_T 128 rfl rfl
abbrev b_K_close : ByteArray := prog_1_method_12_code
def y_K_close : MethodName := ⟨R_K, "close", "()I"⟩
abbrev w_K_close : List Cond := Cond.code y_K_close b_K_close 4 (some .int) :: kT
theorem cd_K_close : Cond.code y_K_close b_K_close 4 (some .int) ∈ kT := mk_T 132 rfl rfl
abbrev b_D_condition : ByteArray := prog_2_method_2_code
def y_D_condition : MethodName := ⟨R_D, "condition", "()I"⟩
abbrev w_D_condition : List Cond := Cond.code y_D_condition b_D_condition 1 (some .int) :: kT
theorem cd_D_condition : Cond.code y_D_condition b_D_condition 1 (some .int) ∈ kT := mk_T 136 rfl rfl
abbrev b_K_end : ByteArray := prog_1_method_31_code
def y_K_end : MethodName := ⟨R_K, "end", "(LDeskTurns$Desk;)V"⟩
abbrev w_K_end : List Cond := Cond.code y_K_end b_K_end 3 none :: kT
theorem cd_K_end : Cond.code y_K_end b_K_end 3 none ∈ kT := mk_T 140 rfl rfl
abbrev b_K_count : ByteArray := prog_1_method_14_code
def y_K_count : MethodName := ⟨R_K, "count", "(I)I"⟩
abbrev w_K_count : List Cond := Cond.code y_K_count b_K_count 2 (some .int) :: kT
theorem cd_K_count : Cond.code y_K_count b_K_count 2 (some .int) ∈ kT := mk_T 144 rfl rfl
abbrev b_K_subjectsHeld : ByteArray := prog_1_method_20_code
def y_K_subjectsHeld : MethodName := ⟨R_K, "subjectsHeld", "()I"⟩
abbrev w_K_subjectsHeld : List Cond := Cond.code y_K_subjectsHeld b_K_subjectsHeld 3 (some .int) :: kT
theorem cd_K_subjectsHeld : Cond.code y_K_subjectsHeld b_K_subjectsHeld 3 (some .int) ∈ kT := mk_T 148 rfl rfl
abbrev b_L_desk : ByteArray := method_3_code
def y_L_desk : MethodName := ⟨R_L, "desk", "(LDeskTurns;II[J)I"⟩
abbrev h_L_desk : List (Nat × Nat × Nat × Nat) := [((0), (10), (13), (13)), ((0), (10), (17), (15))]
abbrev w_L_desk : List Cond := Cond.codeWith y_L_desk b_L_desk 5 (some .int) h_L_desk :: kT
theorem cd_L_desk : Cond.codeWith y_L_desk b_L_desk 5 (some .int) h_L_desk ∈ kT := mk_T 151 rfl rfl
abbrev b_K_desk : ByteArray := prog_1_method_2_code
def y_K_desk : MethodName := ⟨R_K, "desk", "(II)I"⟩
abbrev w_K_desk : List Cond := Cond.code y_K_desk b_K_desk 4 (some .int) :: kT
theorem cd_K_desk : Cond.code y_K_desk b_K_desk 4 (some .int) ∈ kT := mk_T 157 rfl rfl
abbrev b_D_init : ByteArray := prog_2_method_1_code
def y_D_init : MethodName := ⟨R_D, "<init>", "(III)V"⟩
abbrev w_D_init : List Cond := Cond.code y_D_init b_D_init 4 none :: kT
theorem cd_D_init : Cond.code y_D_init b_D_init 4 none ∈ kT := mk_T 246 rfl rfl
abbrev b_L_turn : ByteArray := method_4_code
def y_L_turn : MethodName := ⟨R_L, "turn", "(LDeskTurns;I[J)I"⟩
abbrev h_L_turn : List (Nat × Nat × Nat × Nat) := [((0), (9), (12), (13)), ((0), (9), (15), (15))]
abbrev w_L_turn : List Cond := Cond.codeWith y_L_turn b_L_turn 4 (some .int) h_L_turn :: kT
theorem cd_L_turn : Cond.codeWith y_L_turn b_L_turn 4 (some .int) h_L_turn ∈ kT := mk_T 289 rfl rfl
abbrev b_K_turn : ByteArray := prog_1_method_4_code
def y_K_turn : MethodName := ⟨R_K, "turn", "(I)I"⟩
abbrev w_K_turn : List Cond := Cond.code y_K_turn b_K_turn 2 (some .int) :: kT
theorem cd_K_turn : Cond.code y_K_turn b_K_turn 2 (some .int) ∈ kT := mk_T 293 rfl rfl
abbrev b_L_run : ByteArray := method_5_code
def y_L_run : MethodName := ⟨R_L, "run", "(LDeskTurns;[J)I"⟩
abbrev h_L_run : List (Nat × Nat × Nat × Nat) := [((0), (8), (11), (15))]
abbrev w_L_run : List Cond := Cond.codeWith y_L_run b_L_run 3 (some .int) h_L_run :: kT
theorem cd_L_run : Cond.codeWith y_L_run b_L_run 3 (some .int) h_L_run ∈ kT := mk_T 298 rfl rfl
abbrev b_K_run : ByteArray := prog_1_method_5_code
def y_K_run : MethodName := ⟨R_K, "run", "()I"⟩
abbrev w_K_run : List Cond := Cond.code y_K_run b_K_run 4 (some .int) :: kT
set_option maxRecDepth 20000 in
theorem cd_K_run : Cond.code y_K_run b_K_run 4 (some .int) ∈ kT := mk_T 302 rfl rfl
abbrev b_K_takeTurn : ByteArray := prog_1_method_21_code
def y_K_takeTurn : MethodName := ⟨R_K, "takeTurn", "(LDeskTurns$Desk;)Z"⟩
abbrev w_K_takeTurn : List Cond := Cond.code y_K_takeTurn b_K_takeTurn 3 (some .boolean) :: kT
set_option maxRecDepth 20000 in
theorem cd_K_takeTurn : Cond.code y_K_takeTurn b_K_takeTurn 3 (some .boolean) ∈ kT := mk_T 307 rfl rfl
abbrev b_K_leastLacking : ByteArray := prog_1_method_22_code
def y_K_leastLacking : MethodName := ⟨R_K, "leastLacking", "(LDeskTurns$Desk;)I"⟩
abbrev w_K_leastLacking : List Cond := Cond.code y_K_leastLacking b_K_leastLacking 3 (some .int) :: kT
set_option maxRecDepth 20000 in
theorem cd_K_leastLacking : Cond.code y_K_leastLacking b_K_leastLacking 3 (some .int) ∈ kT := mk_T 311 rfl rfl
abbrev b_K_ask : ByteArray := prog_1_method_23_code
def y_K_ask : MethodName := ⟨R_K, "ask", "(LDeskTurns$Desk;I)V"⟩
abbrev w_K_ask : List Cond := Cond.code y_K_ask b_K_ask 3 none :: kT
set_option maxRecDepth 20000 in
theorem cd_K_ask : Cond.code y_K_ask b_K_ask 3 none ∈ kT := mk_T 315 rfl rfl
abbrev b_K_doOrUndo : ByteArray := prog_1_method_25_code
def y_K_doOrUndo : MethodName := ⟨R_K, "doOrUndo", "(LDeskTurns$Desk;)Z"⟩
abbrev w_K_doOrUndo : List Cond := Cond.code y_K_doOrUndo b_K_doOrUndo 3 (some .boolean) :: kT
set_option maxRecDepth 20000 in
theorem cd_K_doOrUndo : Cond.code y_K_doOrUndo b_K_doOrUndo 3 (some .boolean) ∈ kT := mk_T 319 rfl rfl
abbrev b_L_holder : ByteArray := method_6_code
def y_L_holder : MethodName := ⟨R_L, "holder", "(LDeskTurns;I[J)I"⟩
abbrev h_L_holder : List (Nat × Nat × Nat × Nat) := [((0), (9), (12), (13))]
abbrev w_L_holder : List Cond := Cond.codeWith y_L_holder b_L_holder 4 (some .int) h_L_holder :: kT
set_option maxRecDepth 20000 in
theorem cd_L_holder : Cond.codeWith y_L_holder b_L_holder 4 (some .int) h_L_holder ∈ kT := mk_T 322 rfl rfl
abbrev b_K_holder : ByteArray := prog_1_method_7_code
def y_K_holder : MethodName := ⟨R_K, "holder", "(I)I"⟩
abbrev w_K_holder : List Cond := Cond.code y_K_holder b_K_holder 2 (some .int) :: kT
set_option maxRecDepth 20000 in
theorem cd_K_holder : Cond.code y_K_holder b_K_holder 2 (some .int) ∈ kT := mk_T 326 rfl rfl
abbrev b_L_waits : ByteArray := method_7_code
def y_L_waits : MethodName := ⟨R_L, "waits", "(LDeskTurns;II[J)I"⟩
abbrev h_L_waits : List (Nat × Nat × Nat × Nat) := [((0), (10), (13), (13))]
abbrev w_L_waits : List Cond := Cond.codeWith y_L_waits b_L_waits 5 (some .int) h_L_waits :: kT
set_option maxRecDepth 20000 in
theorem cd_L_waits : Cond.codeWith y_L_waits b_L_waits 5 (some .int) h_L_waits ∈ kT := mk_T 330 rfl rfl
abbrev b_K_waits : ByteArray := prog_1_method_8_code
def y_K_waits : MethodName := ⟨R_K, "waits", "(II)I"⟩
abbrev w_K_waits : List Cond := Cond.code y_K_waits b_K_waits 4 (some .int) :: kT
set_option maxRecDepth 20000 in
theorem cd_K_waits : Cond.code y_K_waits b_K_waits 4 (some .int) ∈ kT := mk_T 334 rfl rfl
abbrev b_L_dead : ByteArray := method_8_code
def y_L_dead : MethodName := ⟨R_L, "dead", "(LDeskTurns;I[J)I"⟩
abbrev h_L_dead : List (Nat × Nat × Nat × Nat) := [((0), (9), (12), (13))]
abbrev w_L_dead : List Cond := Cond.codeWith y_L_dead b_L_dead 4 (some .int) h_L_dead :: kT
set_option maxRecDepth 20000 in
theorem cd_L_dead : Cond.codeWith y_L_dead b_L_dead 4 (some .int) h_L_dead ∈ kT := mk_T 337 rfl rfl
abbrev b_K_dead : ByteArray := prog_1_method_10_code
def y_K_dead : MethodName := ⟨R_K, "dead", "(I)I"⟩
abbrev w_K_dead : List Cond := Cond.code y_K_dead b_K_dead 3 (some .int) :: kT
set_option maxRecDepth 20000 in
theorem cd_K_dead : Cond.code y_K_dead b_K_dead 3 (some .int) ∈ kT := mk_T 341 rfl rfl
abbrev b_K_isAlive : ByteArray := prog_1_method_17_code
def y_K_isAlive : MethodName := ⟨R_K, "isAlive", "(LDeskTurns$Desk;)Z"⟩
abbrev w_K_isAlive : List Cond := Cond.code y_K_isAlive b_K_isAlive 2 (some .boolean) :: kT
set_option maxRecDepth 20000 in
theorem cd_K_isAlive : Cond.code y_K_isAlive b_K_isAlive 2 (some .boolean) ∈ kT := mk_T 344 rfl rfl
abbrev b_I_bitCount : ByteArray := prog_9_method_49_code
def y_I_bitCount : MethodName := ⟨R_I, "bitCount", "(I)I"⟩
abbrev w_I_bitCount : List Cond := Cond.code y_I_bitCount b_I_bitCount 1 (some .int) :: kT
set_option maxRecDepth 20000 in
theorem cd_I_bitCount : Cond.code y_I_bitCount b_I_bitCount 1 (some .int) ∈ kT := mk_T 347 rfl rfl
abbrev b_L_tick : ByteArray := method_9_code
def y_L_tick : MethodName := ⟨R_L, "tick", "(LDeskTurns;I[J)I"⟩
abbrev h_L_tick : List (Nat × Nat × Nat × Nat) := [((0), (9), (12), (13))]
abbrev w_L_tick : List Cond := Cond.codeWith y_L_tick b_L_tick 4 (some .int) h_L_tick :: kT
set_option maxRecDepth 20000 in
theorem cd_L_tick : Cond.codeWith y_L_tick b_L_tick 4 (some .int) h_L_tick ∈ kT := mk_T 353 rfl rfl
abbrev b_K_tick : ByteArray := prog_1_method_11_code
def y_K_tick : MethodName := ⟨R_K, "tick", "(I)I"⟩
abbrev w_K_tick : List Cond := Cond.code y_K_tick b_K_tick 4 (some .int) :: kT
set_option maxRecDepth 20000 in
theorem cd_K_tick : Cond.code y_K_tick b_K_tick 4 (some .int) ∈ kT := mk_T 357 rfl rfl
abbrev b_K_isOverdue : ByteArray := prog_1_method_30_code
def y_K_isOverdue : MethodName := ⟨R_K, "isOverdue", "(I)Z"⟩
abbrev w_K_isOverdue : List Cond := Cond.code y_K_isOverdue b_K_isOverdue 3 (some .boolean) :: kT
set_option maxRecDepth 20000 in
theorem cd_K_isOverdue : Cond.code y_K_isOverdue b_K_isOverdue 3 (some .boolean) ∈ kT := mk_T 363 rfl rfl
abbrev b_L_look : ByteArray := method_10_code
def y_L_look : MethodName := ⟨R_L, "look", "(LDeskTurns;II[J)I"⟩
abbrev h_L_look : List (Nat × Nat × Nat × Nat) := [((0), (10), (13), (40))]
abbrev w_L_look : List Cond := Cond.codeWith y_L_look b_L_look 5 (some .int) h_L_look :: kT
set_option maxRecDepth 20000 in
theorem cd_L_look : Cond.codeWith y_L_look b_L_look 5 (some .int) h_L_look ∈ kT := mk_T 366 rfl rfl
abbrev b_K_look : ByteArray := prog_1_method_13_code
def y_K_look : MethodName := ⟨R_K, "look", "(II)I"⟩
abbrev w_K_look : List Cond := Cond.code y_K_look b_K_look 4 (some .int) :: kT
set_option maxRecDepth 20000 in
theorem cd_K_look : Cond.code y_K_look b_K_look 4 (some .int) ∈ kT := mk_T 371 rfl rfl
abbrev b_M_init : ByteArray := prog_4_method_1_code
def y_M_init : MethodName := ⟨R_M, "<init>", "()V"⟩
abbrev w_M_init : List Cond := Cond.code y_M_init b_M_init 2 none :: kT
set_option maxRecDepth 20000 in
theorem cd_M_init : Cond.code y_M_init b_M_init 2 none ∈ kT := mk_T 392 rfl rfl
abbrev b_M_thrown : ByteArray := prog_4_method_2_code
def y_M_thrown : MethodName := ⟨R_M, "thrown", "()I"⟩
abbrev w_M_thrown : List Cond := Cond.code y_M_thrown b_M_thrown 1 (some .int) :: kT
set_option maxRecDepth 20000 in
theorem cd_M_thrown : Cond.code y_M_thrown b_M_thrown 1 (some .int) ∈ kT := mk_T 461 rfl rfl
abbrev b_M_desk : ByteArray := prog_4_method_7_code
def y_M_desk : MethodName := ⟨R_M, "desk", "(II)I"⟩
abbrev w_M_desk : List Cond := Cond.code y_M_desk b_M_desk 3 (some .int) :: kT
set_option maxRecDepth 20000 in
theorem cd_M_desk : Cond.code y_M_desk b_M_desk 3 (some .int) ∈ kT := mk_T 465 rfl rfl
abbrev b_M_in : ByteArray := prog_4_method_4_code
def y_M_in : MethodName := ⟨R_M, "in", "(III)Z"⟩
abbrev w_M_in : List Cond := Cond.code y_M_in b_M_in 3 (some .boolean) :: kT
set_option maxRecDepth 20000 in
theorem cd_M_in : Cond.code y_M_in b_M_in 3 (some .boolean) ∈ kT := mk_T 468 rfl rfl
abbrev b_M_refuse : ByteArray := prog_4_method_3_code
def y_M_refuse : MethodName := ⟨R_M, "refuse", "(I)I"⟩
abbrev w_M_refuse : List Cond := Cond.code y_M_refuse b_M_refuse 2 (some .int) :: kT
set_option maxRecDepth 20000 in
theorem cd_M_refuse : Cond.code y_M_refuse b_M_refuse 2 (some .int) ∈ kT := mk_T 472 rfl rfl
abbrev b_M_needs : ByteArray := prog_4_method_11_code
def y_M_needs : MethodName := ⟨R_M, "needs", "(III)Z"⟩
abbrev w_M_needs : List Cond := Cond.code y_M_needs b_M_needs 5 (some .boolean) :: kT
set_option maxRecDepth 20000 in
theorem cd_M_needs : Cond.code y_M_needs b_M_needs 5 (some .boolean) ∈ kT := mk_T 476 rfl rfl
abbrev b_M_isDesk : ByteArray := prog_4_method_5_code
def y_M_isDesk : MethodName := ⟨R_M, "isDesk", "(I)Z"⟩
abbrev w_M_isDesk : List Cond := Cond.code y_M_isDesk b_M_isDesk 2 (some .boolean) :: kT
set_option maxRecDepth 20000 in
theorem cd_M_isDesk : Cond.code y_M_isDesk b_M_isDesk 2 (some .boolean) ∈ kT := mk_T 480 rfl rfl
abbrev b_M_isSubject : ByteArray := prog_4_method_6_code
def y_M_isSubject : MethodName := ⟨R_M, "isSubject", "(I)Z"⟩
abbrev w_M_isSubject : List Cond := Cond.code y_M_isSubject b_M_isSubject 1 (some .boolean) :: kT
set_option maxRecDepth 20000 in
theorem cd_M_isSubject : Cond.code y_M_isSubject b_M_isSubject 1 (some .boolean) ∈ kT := mk_T 483 rfl rfl
abbrev b_M_isMidst : ByteArray := prog_4_method_10_code
def y_M_isMidst : MethodName := ⟨R_M, "isMidst", "(I)Z"⟩
abbrev w_M_isMidst : List Cond := Cond.code y_M_isMidst b_M_isMidst 2 (some .boolean) :: kT
set_option maxRecDepth 20000 in
theorem cd_M_isMidst : Cond.code y_M_isMidst b_M_isMidst 2 (some .boolean) ∈ kT := mk_T 487 rfl rfl
abbrev b_M_held : ByteArray := prog_4_method_8_code
def y_M_held : MethodName := ⟨R_M, "held", "(I)I"⟩
abbrev w_M_held : List Cond := Cond.code y_M_held b_M_held 4 (some .int) :: kT
set_option maxRecDepth 20000 in
theorem cd_M_held : Cond.code y_M_held b_M_held 4 (some .int) ∈ kT := mk_T 491 rfl rfl
abbrev b_M_turn : ByteArray := prog_4_method_18_code
def y_M_turn : MethodName := ⟨R_M, "turn", "(I)I"⟩
abbrev w_M_turn : List Cond := Cond.code y_M_turn b_M_turn 2 (some .int) :: kT
set_option maxRecDepth 20000 in
theorem cd_M_turn : Cond.code y_M_turn b_M_turn 2 (some .int) ∈ kT := mk_T 495 rfl rfl
abbrev b_M_run : ByteArray := prog_4_method_19_code
def y_M_run : MethodName := ⟨R_M, "run", "()I"⟩
abbrev w_M_run : List Cond := Cond.code y_M_run b_M_run 3 (some .int) :: kT
set_option maxRecDepth 20000 in
theorem cd_M_run : Cond.code y_M_run b_M_run 3 (some .int) ∈ kT := mk_T 499 rfl rfl
abbrev b_M_steps : ByteArray := prog_4_method_17_code
def y_M_steps : MethodName := ⟨R_M, "steps", "(I)Z"⟩
abbrev w_M_steps : List Cond := Cond.code y_M_steps b_M_steps 4 (some .boolean) :: kT
set_option maxRecDepth 20000 in
theorem cd_M_steps : Cond.code y_M_steps b_M_steps 4 (some .boolean) ∈ kT := mk_T 503 rfl rfl
abbrev b_M_write : ByteArray := prog_4_method_12_code
def y_M_write : MethodName := ⟨R_M, "write", "(II)V"⟩
abbrev w_M_write : List Cond := Cond.code y_M_write b_M_write 3 none :: kT
set_option maxRecDepth 20000 in
theorem cd_M_write : Cond.code y_M_write b_M_write 3 none ∈ kT := mk_T 507 rfl rfl
abbrev b_M_giveAll : ByteArray := prog_4_method_15_code
def y_M_giveAll : MethodName := ⟨R_M, "giveAll", "(I)V"⟩
abbrev w_M_giveAll : List Cond := Cond.code y_M_giveAll b_M_giveAll 4 none :: kT
set_option maxRecDepth 20000 in
theorem cd_M_giveAll : Cond.code y_M_giveAll b_M_giveAll 4 none ∈ kT := mk_T 511 rfl rfl
abbrev b_M_giveBack : ByteArray := prog_4_method_14_code
def y_M_giveBack : MethodName := ⟨R_M, "giveBack", "(I)V"⟩
abbrev w_M_giveBack : List Cond := Cond.code y_M_giveBack b_M_giveBack 3 none :: kT
set_option maxRecDepth 20000 in
theorem cd_M_giveBack : Cond.code y_M_giveBack b_M_giveBack 3 none ∈ kT := mk_T 515 rfl rfl
abbrev b_M_first : ByteArray := prog_4_method_13_code
def y_M_first : MethodName := ⟨R_M, "first", "(I)I"⟩
abbrev w_M_first : List Cond := Cond.code y_M_first b_M_first 4 (some .int) :: kT
set_option maxRecDepth 20000 in
theorem cd_M_first : Cond.code y_M_first b_M_first 4 (some .int) ∈ kT := mk_T 519 rfl rfl
abbrev b_M_goesOn : ByteArray := prog_4_method_16_code
def y_M_goesOn : MethodName := ⟨R_M, "goesOn", "(I)V"⟩
abbrev w_M_goesOn : List Cond := Cond.code y_M_goesOn b_M_goesOn 2 none :: kT
set_option maxRecDepth 20000 in
theorem cd_M_goesOn : Cond.code y_M_goesOn b_M_goesOn 2 none ∈ kT := mk_T 523 rfl rfl
abbrev b_M_log : ByteArray := prog_4_method_20_code
def y_M_log : MethodName := ⟨R_M, "log", "(I)I"⟩
abbrev w_M_log : List Cond := Cond.code y_M_log b_M_log 2 (some .int) :: kT
set_option maxRecDepth 20000 in
theorem cd_M_log : Cond.code y_M_log b_M_log 2 (some .int) ∈ kT := mk_T 527 rfl rfl
abbrev b_M_holder : ByteArray := prog_4_method_21_code
def y_M_holder : MethodName := ⟨R_M, "holder", "(I)I"⟩
abbrev w_M_holder : List Cond := Cond.code y_M_holder b_M_holder 2 (some .int) :: kT
set_option maxRecDepth 20000 in
theorem cd_M_holder : Cond.code y_M_holder b_M_holder 2 (some .int) ∈ kT := mk_T 531 rfl rfl
abbrev b_M_waits : ByteArray := prog_4_method_22_code
def y_M_waits : MethodName := ⟨R_M, "waits", "(II)I"⟩
abbrev w_M_waits : List Cond := Cond.code y_M_waits b_M_waits 6 (some .int) :: kT
set_option maxRecDepth 20000 in
theorem cd_M_waits : Cond.code y_M_waits b_M_waits 6 (some .int) ∈ kT := mk_T 535 rfl rfl
abbrev b_M_interrupt : ByteArray := prog_4_method_23_code
def y_M_interrupt : MethodName := ⟨R_M, "interrupt", "(I)Z"⟩
abbrev w_M_interrupt : List Cond := Cond.code y_M_interrupt b_M_interrupt 2 (some .boolean) :: kT
set_option maxRecDepth 20000 in
theorem cd_M_interrupt : Cond.code y_M_interrupt b_M_interrupt 2 (some .boolean) ∈ kT := mk_T 539 rfl rfl
abbrev b_M_dead : ByteArray := prog_4_method_24_code
def y_M_dead : MethodName := ⟨R_M, "dead", "(I)I"⟩
abbrev w_M_dead : List Cond := Cond.code y_M_dead b_M_dead 2 (some .int) :: kT
set_option maxRecDepth 20000 in
theorem cd_M_dead : Cond.code y_M_dead b_M_dead 2 (some .int) ∈ kT := mk_T 543 rfl rfl
abbrev b_M_ones : ByteArray := prog_4_method_9_code
def y_M_ones : MethodName := ⟨R_M, "ones", "(I)I"⟩
abbrev w_M_ones : List Cond := Cond.code y_M_ones b_M_ones 3 (some .int) :: kT
set_option maxRecDepth 20000 in
theorem cd_M_ones : Cond.code y_M_ones b_M_ones 3 (some .int) ∈ kT := mk_T 546 rfl rfl
abbrev b_M_tick : ByteArray := prog_4_method_25_code
def y_M_tick : MethodName := ⟨R_M, "tick", "(I)I"⟩
abbrev w_M_tick : List Cond := Cond.code y_M_tick b_M_tick 5 (some .int) :: kT
set_option maxRecDepth 20000 in
theorem cd_M_tick : Cond.code y_M_tick b_M_tick 5 (some .int) ∈ kT := mk_T 550 rfl rfl
abbrev b_M_close : ByteArray := prog_4_method_26_code
def y_M_close : MethodName := ⟨R_M, "close", "()I"⟩
abbrev w_M_close : List Cond := Cond.code y_M_close b_M_close 3 (some .int) :: kT
set_option maxRecDepth 20000 in
theorem cd_M_close : Cond.code y_M_close b_M_close 3 (some .int) ∈ kT := mk_T 555 rfl rfl
abbrev b_M_look : ByteArray := prog_4_method_27_code
def y_M_look : MethodName := ⟨R_M, "look", "(II)I"⟩
abbrev w_M_look : List Cond := Cond.code y_M_look b_M_look 3 (some .int) :: kT
set_option maxRecDepth 20000 in
theorem cd_M_look : Cond.code y_M_look b_M_look 3 (some .int) ∈ kT := mk_T 559 rfl rfl
abbrev b_M_count : ByteArray := prog_4_method_28_code
def y_M_count : MethodName := ⟨R_M, "count", "(I)I"⟩
abbrev w_M_count : List Cond := Cond.code y_M_count b_M_count 4 (some .int) :: kT
set_option maxRecDepth 20000 in
theorem cd_M_count : Cond.code y_M_count b_M_count 4 (some .int) ∈ kT := mk_T 563 rfl rfl
theorem gdV {own C : String} {ix : Nat} {y : MethodName} {b : ByteArray} {n : Nat} {r : Option FieldType} (h1 : Cond.methodLink own ix y ∈ kT) (h2 : Cond.instanceMethod y ∈ kT) (h3 : Cond.selects C y y ∈ kT) (h4 : Cond.initialized C ∈ kT) (h5 : Cond.code y b n r ∈ kT) : GoodIn kT (wsV own ix C y (Cond.code y b n r :: kT)) := by
  intro w hw
  have h : w ∈ kT := by
    rcases List.mem_append.mp hw with h | h
    · simp only [List.mem_cons, List.not_mem_nil, or_false] at h
      rcases h with rfl | rfl | rfl | rfl
      · exact h1
      · exact h2
      · exact h3
      · exact h4
    · rcases List.mem_cons.mp h with rfl | h
      · exact h5
      · exact h
  exact ⟨h, kT_good w h⟩
theorem gdS {own : String} {ix : Nat} {y : MethodName} {b : ByteArray} {n : Nat} {r : Option FieldType} (h1 : Cond.methodLink own ix y ∈ kT) (h2 : Cond.static y ∈ kT) (h3 : Cond.initialized own ∈ kT) (h5 : Cond.code y b n r ∈ kT) : GoodIn kT (wsS own ix y (Cond.code y b n r :: kT)) := by
  intro w hw
  have h : w ∈ kT := by
    rcases List.mem_append.mp hw with h | h
    · simp only [List.mem_cons, List.not_mem_nil, or_false] at h
      rcases h with rfl | rfl | rfl
      · exact h1
      · exact h2
      · exact h3
    · rcases List.mem_cons.mp h with rfl | h
      · exact h5
      · exact h
  exact ⟨h, kT_good w h⟩
abbrev b_L_law : ByteArray := code
end
section
theorem ini_K : Cond.initialized R_K ∈ kT := mk_T 1 rfl rfl
theorem ini_D : Cond.initialized R_D ∈ kT := mk_T 9 rfl rfl
theorem ini_M : Cond.initialized R_M ∈ kT := mk_T 3 rfl rfl
theorem ini_L : Cond.initialized R_L ∈ kT := mk_T 0 rfl rfl
theorem fl_K_11 : Cond.fieldLink R_K 11 R_K (T_K 0).2.1 (T_K 0).2.2.1 ∈ kT := mk_T 25 rfl rfl
theorem fl_K_15 : Cond.fieldLink R_K 15 R_K (T_K 1).2.1 (T_K 1).2.2.1 ∈ kT := mk_T 26 rfl rfl
theorem fl_K_19 : Cond.fieldLink R_K 19 R_K (T_K 2).2.1 (T_K 2).2.2.1 ∈ kT := mk_T 27 rfl rfl
theorem fl_K_23 : Cond.fieldLink R_K 23 R_K (T_K 3).2.1 (T_K 3).2.2.1 ∈ kT := mk_T 28 rfl rfl
theorem fl_K_26 : Cond.fieldLink R_K 26 R_K (T_K 4).2.1 (T_K 4).2.2.1 ∈ kT := mk_T 29 rfl rfl
theorem fl_K_29 : Cond.fieldLink R_K 29 R_K (T_K 5).2.1 (T_K 5).2.2.1 ∈ kT := mk_T 30 rfl rfl
theorem fl_K_32 : Cond.fieldLink R_K 32 R_K (T_K 6).2.1 (T_K 6).2.2.1 ∈ kT := mk_T 31 rfl rfl
theorem fl_K_35 : Cond.fieldLink R_K 35 R_K (T_K 7).2.1 (T_K 7).2.2.1 ∈ kT := mk_T 32 rfl rfl
theorem fl_K_38 : Cond.fieldLink R_K 38 R_K (T_K 8).2.1 (T_K 8).2.2.1 ∈ kT := mk_T 33 rfl rfl
theorem fl_K_41 : Cond.fieldLink R_K 41 R_K (T_K 9).2.1 (T_K 9).2.2.1 ∈ kT := mk_T 34 rfl rfl
theorem fl_K_44 : Cond.fieldLink R_K 44 R_K (T_K 10).2.1 (T_K 10).2.2.1 ∈ kT := mk_T 35 rfl rfl
theorem fl_K_47 : Cond.fieldLink R_K 47 R_K (T_K 11).2.1 (T_K 11).2.2.1 ∈ kT := mk_T 36 rfl rfl
theorem fl_K_50 : Cond.fieldLink R_K 50 R_K (T_K 12).2.1 (T_K 12).2.2.1 ∈ kT := mk_T 37 rfl rfl
theorem fl_D_35 : Cond.fieldLink R_D 35 R_D (T_D 0).2.1 (T_D 0).2.2.1 ∈ kT := mk_T 248 rfl rfl
theorem fl_K_117 : Cond.fieldLink R_K 117 R_D (T_D 0).2.1 (T_D 0).2.2.1 ∈ kT := mk_T 249 rfl rfl
theorem fl_D_38 : Cond.fieldLink R_D 38 R_D (T_D 1).2.1 (T_D 1).2.2.1 ∈ kT := mk_T 250 rfl rfl
theorem fl_D_9 : Cond.fieldLink R_D 9 R_D (T_D 2).2.1 (T_D 2).2.2.1 ∈ kT := mk_T 251 rfl rfl
theorem fl_D_41 : Cond.fieldLink R_D 41 R_D (T_D 3).2.1 (T_D 3).2.2.1 ∈ kT := mk_T 252 rfl rfl
theorem fl_K_191 : Cond.fieldLink R_K 191 R_D (T_D 3).2.1 (T_D 3).2.2.1 ∈ kT := mk_T 253 rfl rfl
theorem fl_D_15 : Cond.fieldLink R_D 15 R_D (T_D 4).2.1 (T_D 4).2.2.1 ∈ kT := mk_T 254 rfl rfl
theorem fl_K_92 : Cond.fieldLink R_K 92 R_D (T_D 4).2.1 (T_D 4).2.2.1 ∈ kT := mk_T 255 rfl rfl
theorem fl_D_19 : Cond.fieldLink R_D 19 R_D (T_D 5).2.1 (T_D 5).2.2.1 ∈ kT := mk_T 256 rfl rfl
theorem fl_K_167 : Cond.fieldLink R_K 167 R_D (T_D 5).2.1 (T_D 5).2.2.1 ∈ kT := mk_T 257 rfl rfl
theorem fl_D_22 : Cond.fieldLink R_D 22 R_D (T_D 6).2.1 (T_D 6).2.2.1 ∈ kT := mk_T 258 rfl rfl
theorem fl_K_120 : Cond.fieldLink R_K 120 R_D (T_D 6).2.1 (T_D 6).2.2.1 ∈ kT := mk_T 259 rfl rfl
theorem fl_D_25 : Cond.fieldLink R_D 25 R_D (T_D 7).2.1 (T_D 7).2.2.1 ∈ kT := mk_T 260 rfl rfl
theorem fl_K_188 : Cond.fieldLink R_K 188 R_D (T_D 7).2.1 (T_D 7).2.2.1 ∈ kT := mk_T 261 rfl rfl
theorem fl_D_28 : Cond.fieldLink R_D 28 R_D (T_D 8).2.1 (T_D 8).2.2.1 ∈ kT := mk_T 262 rfl rfl
theorem fl_K_134 : Cond.fieldLink R_K 134 R_D (T_D 8).2.1 (T_D 8).2.2.1 ∈ kT := mk_T 263 rfl rfl
theorem fl_D_32 : Cond.fieldLink R_D 32 R_D (T_D 9).2.1 (T_D 9).2.2.1 ∈ kT := mk_T 264 rfl rfl
theorem fl_K_197 : Cond.fieldLink R_K 197 R_D (T_D 9).2.1 (T_D 9).2.2.1 ∈ kT := mk_T 265 rfl rfl
set_option maxRecDepth 20000 in
theorem fl_M_46 : Cond.fieldLink R_M 46 R_M (T_M 0).2.1 (T_M 0).2.2.1 ∈ kT := mk_T 394 rfl rfl
set_option maxRecDepth 20000 in
theorem fl_M_50 : Cond.fieldLink R_M 50 R_M (T_M 1).2.1 (T_M 1).2.2.1 ∈ kT := mk_T 395 rfl rfl
set_option maxRecDepth 20000 in
theorem fl_M_7 : Cond.fieldLink R_M 7 R_M (T_M 2).2.1 (T_M 2).2.2.1 ∈ kT := mk_T 396 rfl rfl
set_option maxRecDepth 20000 in
theorem fl_M_13 : Cond.fieldLink R_M 13 R_M (T_M 3).2.1 (T_M 3).2.2.1 ∈ kT := mk_T 397 rfl rfl
set_option maxRecDepth 20000 in
theorem fl_M_16 : Cond.fieldLink R_M 16 R_M (T_M 4).2.1 (T_M 4).2.2.1 ∈ kT := mk_T 398 rfl rfl
set_option maxRecDepth 20000 in
theorem fl_M_19 : Cond.fieldLink R_M 19 R_M (T_M 5).2.1 (T_M 5).2.2.1 ∈ kT := mk_T 399 rfl rfl
set_option maxRecDepth 20000 in
theorem fl_M_22 : Cond.fieldLink R_M 22 R_M (T_M 6).2.1 (T_M 6).2.2.1 ∈ kT := mk_T 400 rfl rfl
set_option maxRecDepth 20000 in
theorem fl_M_25 : Cond.fieldLink R_M 25 R_M (T_M 7).2.1 (T_M 7).2.2.1 ∈ kT := mk_T 401 rfl rfl
set_option maxRecDepth 20000 in
theorem fl_M_28 : Cond.fieldLink R_M 28 R_M (T_M 8).2.1 (T_M 8).2.2.1 ∈ kT := mk_T 402 rfl rfl
set_option maxRecDepth 20000 in
theorem fl_M_31 : Cond.fieldLink R_M 31 R_M (T_M 9).2.1 (T_M 9).2.2.1 ∈ kT := mk_T 403 rfl rfl
set_option maxRecDepth 20000 in
theorem fl_M_34 : Cond.fieldLink R_M 34 R_M (T_M 10).2.1 (T_M 10).2.2.1 ∈ kT := mk_T 404 rfl rfl
set_option maxRecDepth 20000 in
theorem fl_M_37 : Cond.fieldLink R_M 37 R_M (T_M 11).2.1 (T_M 11).2.2.1 ∈ kT := mk_T 405 rfl rfl
set_option maxRecDepth 20000 in
theorem fl_M_91 : Cond.fieldLink R_M 91 R_M (T_M 12).2.1 (T_M 12).2.2.1 ∈ kT := mk_T 406 rfl rfl
set_option maxRecDepth 20000 in
theorem fl_M_40 : Cond.fieldLink R_M 40 R_M (T_M 13).2.1 (T_M 13).2.2.1 ∈ kT := mk_T 407 rfl rfl
set_option maxRecDepth 20000 in
theorem fl_M_104 : Cond.fieldLink R_M 104 R_M (T_M 14).2.1 (T_M 14).2.2.1 ∈ kT := mk_T 408 rfl rfl
set_option maxRecDepth 20000 in
theorem fl_M_107 : Cond.fieldLink R_M 107 R_M (T_M 15).2.1 (T_M 15).2.2.1 ∈ kT := mk_T 409 rfl rfl
set_option maxRecDepth 20000 in
theorem fl_M_110 : Cond.fieldLink R_M 110 R_M (T_M 16).2.1 (T_M 16).2.2.1 ∈ kT := mk_T 410 rfl rfl
set_option maxRecDepth 20000 in
theorem fl_M_78 : Cond.fieldLink R_M 78 R_M (T_M 17).2.1 (T_M 17).2.2.1 ∈ kT := mk_T 411 rfl rfl
set_option maxRecDepth 20000 in
theorem fl_M_43 : Cond.fieldLink R_M 43 R_M (T_M 18).2.1 (T_M 18).2.2.1 ∈ kT := mk_T 412 rfl rfl
set_option maxRecDepth 20000 in
theorem fl_M_84 : Cond.fieldLink R_M 84 R_M (T_M 19).2.1 (T_M 19).2.2.1 ∈ kT := mk_T 413 rfl rfl
set_option maxRecDepth 20000 in
theorem fl_M_61 : Cond.fieldLink R_M 61 R_M (T_M 20).2.1 (T_M 20).2.2.1 ∈ kT := mk_T 414 rfl rfl
set_option maxRecDepth 20000 in
theorem kc_I_265 : Cond.constant R_I 265 1431655765 ∈ kT := mk_T 348 rfl rfl
set_option maxRecDepth 20000 in
theorem kc_I_266 : Cond.constant R_I 266 858993459 ∈ kT := mk_T 349 rfl rfl
set_option maxRecDepth 20000 in
theorem kc_I_267 : Cond.constant R_I 267 252645135 ∈ kT := mk_T 350 rfl rfl
set_option maxRecDepth 20000 in
theorem kc_K_147 : Cond.constant R_K 147 100000 ∈ kT := mk_T 358 rfl rfl
set_option maxRecDepth 20000 in
theorem kc_M_119 : Cond.constant R_M 119 100000 ∈ kT := mk_T 551 rfl rfl
theorem im_K_init : Cond.instanceMethod y_K_init ∈ kT := mk_T 15 rfl rfl
theorem st_A_fill : Cond.static y_A_fill ∈ kT := mk_T 23 rfl rfl
theorem se_K_needs : Cond.selects R_K y_K_needs y_K_needs ∈ kT := mk_T 68 rfl rfl
theorem im_K_needs : Cond.instanceMethod y_K_needs ∈ kT := mk_T 67 rfl rfl
theorem se_K_deskAt : Cond.selects R_K y_K_deskAt y_K_deskAt ∈ kT := mk_S 0 rfl rfl
theorem im_K_deskAt : Cond.instanceMethod y_K_deskAt ∈ kT := mk_T 72 rfl rfl
theorem st_K_isSubject : Cond.static y_K_isSubject ∈ kT := mk_T 75 rfl rfl
theorem se_D_isAhead : Cond.selects R_D y_D_isAhead y_D_isAhead ∈ kT := mk_T 79 rfl rfl
theorem im_D_isAhead : Cond.instanceMethod y_D_isAhead ∈ kT := mk_T 78 rfl rfl
theorem se_D_hasNeed : Cond.selects R_D y_D_hasNeed y_D_hasNeed ∈ kT := mk_T 83 rfl rfl
theorem im_D_hasNeed : Cond.instanceMethod y_D_hasNeed ∈ kT := mk_T 82 rfl rfl
theorem se_K_isInTheMidst : Cond.selects R_K y_K_isInTheMidst y_K_isInTheMidst ∈ kT := mk_S 1 rfl rfl
theorem im_K_isInTheMidst : Cond.instanceMethod y_K_isInTheMidst ∈ kT := mk_T 87 rfl rfl
theorem se_K_heldBy : Cond.selects R_K y_K_heldBy y_K_heldBy ∈ kT := mk_S 2 rfl rfl
theorem im_K_heldBy : Cond.instanceMethod y_K_heldBy ∈ kT := mk_T 91 rfl rfl
theorem se_D_addNeed : Cond.selects R_D y_D_addNeed y_D_addNeed ∈ kT := mk_T 95 rfl rfl
theorem im_D_addNeed : Cond.instanceMethod y_D_addNeed ∈ kT := mk_T 94 rfl rfl
theorem se_K_log : Cond.selects R_K y_K_log y_K_log ∈ kT := mk_T 99 rfl rfl
theorem im_K_log : Cond.instanceMethod y_K_log ∈ kT := mk_T 98 rfl rfl
theorem se_K_interrupt : Cond.selects R_K y_K_interrupt y_K_interrupt ∈ kT := mk_T 103 rfl rfl
theorem im_K_interrupt : Cond.instanceMethod y_K_interrupt ∈ kT := mk_T 102 rfl rfl
theorem se_K_giveBackAll : Cond.selects R_K y_K_giveBackAll y_K_giveBackAll ∈ kT := mk_S 3 rfl rfl
theorem im_K_giveBackAll : Cond.instanceMethod y_K_giveBackAll ∈ kT := mk_T 107 rfl rfl
theorem se_K_giveBack : Cond.selects R_K y_K_giveBack y_K_giveBack ∈ kT := mk_S 4 rfl rfl
theorem im_K_giveBack : Cond.instanceMethod y_K_giveBack ∈ kT := mk_T 111 rfl rfl
theorem se_K_waiterFor : Cond.selects R_K y_K_waiterFor y_K_waiterFor ∈ kT := mk_S 5 rfl rfl
theorem im_K_waiterFor : Cond.instanceMethod y_K_waiterFor ∈ kT := mk_T 115 rfl rfl
theorem se_K_waitersAheadOf : Cond.selects R_K y_K_waitersAheadOf y_K_waitersAheadOf ∈ kT := mk_S 6 rfl rfl
theorem im_K_waitersAheadOf : Cond.instanceMethod y_K_waitersAheadOf ∈ kT := mk_T 119 rfl rfl
theorem se_K_take : Cond.selects R_K y_K_take y_K_take ∈ kT := mk_S 7 rfl rfl
theorem im_K_take : Cond.instanceMethod y_K_take ∈ kT := mk_T 123 rfl rfl
theorem se_K_tell : Cond.selects R_K y_K_tell y_K_tell ∈ kT := mk_S 8 rfl rfl
theorem im_K_tell : Cond.instanceMethod y_K_tell ∈ kT := mk_T 127 rfl rfl
theorem se_K_close : Cond.selects R_K y_K_close y_K_close ∈ kT := mk_T 131 rfl rfl
theorem im_K_close : Cond.instanceMethod y_K_close ∈ kT := mk_T 130 rfl rfl
theorem se_D_condition : Cond.selects R_D y_D_condition y_D_condition ∈ kT := mk_T 135 rfl rfl
theorem im_D_condition : Cond.instanceMethod y_D_condition ∈ kT := mk_T 134 rfl rfl
theorem se_K_end : Cond.selects R_K y_K_end y_K_end ∈ kT := mk_S 9 rfl rfl
theorem im_K_end : Cond.instanceMethod y_K_end ∈ kT := mk_T 139 rfl rfl
theorem se_K_count : Cond.selects R_K y_K_count y_K_count ∈ kT := mk_T 143 rfl rfl
theorem im_K_count : Cond.instanceMethod y_K_count ∈ kT := mk_T 142 rfl rfl
theorem se_K_subjectsHeld : Cond.selects R_K y_K_subjectsHeld y_K_subjectsHeld ∈ kT := mk_S 10 rfl rfl
theorem im_K_subjectsHeld : Cond.instanceMethod y_K_subjectsHeld ∈ kT := mk_T 147 rfl rfl
theorem st_L_desk : Cond.static y_L_desk ∈ kT := mk_T 150 rfl rfl
theorem se_K_desk : Cond.selects R_K y_K_desk y_K_desk ∈ kT := mk_T 156 rfl rfl
theorem im_K_desk : Cond.instanceMethod y_K_desk ∈ kT := mk_T 155 rfl rfl
theorem im_D_init : Cond.instanceMethod y_D_init ∈ kT := mk_T 245 rfl rfl
theorem st_L_turn : Cond.static y_L_turn ∈ kT := mk_T 288 rfl rfl
theorem se_K_turn : Cond.selects R_K y_K_turn y_K_turn ∈ kT := mk_T 292 rfl rfl
theorem im_K_turn : Cond.instanceMethod y_K_turn ∈ kT := mk_T 291 rfl rfl
theorem st_L_run : Cond.static y_L_run ∈ kT := mk_T 297 rfl rfl
set_option maxRecDepth 20000 in
theorem se_K_run : Cond.selects R_K y_K_run y_K_run ∈ kT := mk_T 301 rfl rfl
theorem im_K_run : Cond.instanceMethod y_K_run ∈ kT := mk_T 300 rfl rfl
theorem se_K_takeTurn : Cond.selects R_K y_K_takeTurn y_K_takeTurn ∈ kT := mk_S 12 rfl rfl
set_option maxRecDepth 20000 in
theorem im_K_takeTurn : Cond.instanceMethod y_K_takeTurn ∈ kT := mk_T 306 rfl rfl
theorem se_K_leastLacking : Cond.selects R_K y_K_leastLacking y_K_leastLacking ∈ kT := mk_S 13 rfl rfl
set_option maxRecDepth 20000 in
theorem im_K_leastLacking : Cond.instanceMethod y_K_leastLacking ∈ kT := mk_T 310 rfl rfl
theorem se_K_ask : Cond.selects R_K y_K_ask y_K_ask ∈ kT := mk_S 14 rfl rfl
set_option maxRecDepth 20000 in
theorem im_K_ask : Cond.instanceMethod y_K_ask ∈ kT := mk_T 314 rfl rfl
theorem se_K_doOrUndo : Cond.selects R_K y_K_doOrUndo y_K_doOrUndo ∈ kT := mk_S 15 rfl rfl
set_option maxRecDepth 20000 in
theorem im_K_doOrUndo : Cond.instanceMethod y_K_doOrUndo ∈ kT := mk_T 318 rfl rfl
set_option maxRecDepth 20000 in
theorem st_L_holder : Cond.static y_L_holder ∈ kT := mk_T 321 rfl rfl
set_option maxRecDepth 20000 in
theorem se_K_holder : Cond.selects R_K y_K_holder y_K_holder ∈ kT := mk_T 325 rfl rfl
set_option maxRecDepth 20000 in
theorem im_K_holder : Cond.instanceMethod y_K_holder ∈ kT := mk_T 324 rfl rfl
set_option maxRecDepth 20000 in
theorem st_L_waits : Cond.static y_L_waits ∈ kT := mk_T 329 rfl rfl
set_option maxRecDepth 20000 in
theorem se_K_waits : Cond.selects R_K y_K_waits y_K_waits ∈ kT := mk_T 333 rfl rfl
set_option maxRecDepth 20000 in
theorem im_K_waits : Cond.instanceMethod y_K_waits ∈ kT := mk_T 332 rfl rfl
set_option maxRecDepth 20000 in
theorem st_L_dead : Cond.static y_L_dead ∈ kT := mk_T 336 rfl rfl
set_option maxRecDepth 20000 in
theorem se_K_dead : Cond.selects R_K y_K_dead y_K_dead ∈ kT := mk_T 340 rfl rfl
set_option maxRecDepth 20000 in
theorem im_K_dead : Cond.instanceMethod y_K_dead ∈ kT := mk_T 339 rfl rfl
set_option maxRecDepth 20000 in
theorem st_K_isAlive : Cond.static y_K_isAlive ∈ kT := mk_T 343 rfl rfl
set_option maxRecDepth 20000 in
theorem st_I_bitCount : Cond.static y_I_bitCount ∈ kT := mk_T 346 rfl rfl
set_option maxRecDepth 20000 in
theorem st_L_tick : Cond.static y_L_tick ∈ kT := mk_T 352 rfl rfl
set_option maxRecDepth 20000 in
theorem se_K_tick : Cond.selects R_K y_K_tick y_K_tick ∈ kT := mk_T 356 rfl rfl
set_option maxRecDepth 20000 in
theorem im_K_tick : Cond.instanceMethod y_K_tick ∈ kT := mk_T 355 rfl rfl
theorem se_K_isOverdue : Cond.selects R_K y_K_isOverdue y_K_isOverdue ∈ kT := mk_S 16 rfl rfl
set_option maxRecDepth 20000 in
theorem im_K_isOverdue : Cond.instanceMethod y_K_isOverdue ∈ kT := mk_T 362 rfl rfl
set_option maxRecDepth 20000 in
theorem st_L_look : Cond.static y_L_look ∈ kT := mk_T 365 rfl rfl
set_option maxRecDepth 20000 in
theorem se_K_look : Cond.selects R_K y_K_look y_K_look ∈ kT := mk_T 370 rfl rfl
set_option maxRecDepth 20000 in
theorem im_K_look : Cond.instanceMethod y_K_look ∈ kT := mk_T 369 rfl rfl
set_option maxRecDepth 20000 in
theorem im_M_init : Cond.instanceMethod y_M_init ∈ kT := mk_T 391 rfl rfl
set_option maxRecDepth 20000 in
theorem se_M_thrown : Cond.selects R_M y_M_thrown y_M_thrown ∈ kT := mk_T 460 rfl rfl
set_option maxRecDepth 20000 in
theorem im_M_thrown : Cond.instanceMethod y_M_thrown ∈ kT := mk_T 459 rfl rfl
set_option maxRecDepth 20000 in
theorem se_M_desk : Cond.selects R_M y_M_desk y_M_desk ∈ kT := mk_T 464 rfl rfl
set_option maxRecDepth 20000 in
theorem im_M_desk : Cond.instanceMethod y_M_desk ∈ kT := mk_T 463 rfl rfl
set_option maxRecDepth 20000 in
theorem st_M_in : Cond.static y_M_in ∈ kT := mk_T 467 rfl rfl
theorem se_M_refuse : Cond.selects R_M y_M_refuse y_M_refuse ∈ kT := mk_S 17 rfl rfl
set_option maxRecDepth 20000 in
theorem im_M_refuse : Cond.instanceMethod y_M_refuse ∈ kT := mk_T 471 rfl rfl
set_option maxRecDepth 20000 in
theorem se_M_needs : Cond.selects R_M y_M_needs y_M_needs ∈ kT := mk_T 475 rfl rfl
set_option maxRecDepth 20000 in
theorem im_M_needs : Cond.instanceMethod y_M_needs ∈ kT := mk_T 474 rfl rfl
theorem se_M_isDesk : Cond.selects R_M y_M_isDesk y_M_isDesk ∈ kT := mk_S 18 rfl rfl
set_option maxRecDepth 20000 in
theorem im_M_isDesk : Cond.instanceMethod y_M_isDesk ∈ kT := mk_T 479 rfl rfl
set_option maxRecDepth 20000 in
theorem st_M_isSubject : Cond.static y_M_isSubject ∈ kT := mk_T 482 rfl rfl
theorem se_M_isMidst : Cond.selects R_M y_M_isMidst y_M_isMidst ∈ kT := mk_S 19 rfl rfl
set_option maxRecDepth 20000 in
theorem im_M_isMidst : Cond.instanceMethod y_M_isMidst ∈ kT := mk_T 486 rfl rfl
theorem se_M_held : Cond.selects R_M y_M_held y_M_held ∈ kT := mk_S 20 rfl rfl
set_option maxRecDepth 20000 in
theorem im_M_held : Cond.instanceMethod y_M_held ∈ kT := mk_T 490 rfl rfl
set_option maxRecDepth 20000 in
theorem se_M_turn : Cond.selects R_M y_M_turn y_M_turn ∈ kT := mk_T 494 rfl rfl
set_option maxRecDepth 20000 in
theorem im_M_turn : Cond.instanceMethod y_M_turn ∈ kT := mk_T 493 rfl rfl
set_option maxRecDepth 20000 in
theorem se_M_run : Cond.selects R_M y_M_run y_M_run ∈ kT := mk_T 498 rfl rfl
set_option maxRecDepth 20000 in
theorem im_M_run : Cond.instanceMethod y_M_run ∈ kT := mk_T 497 rfl rfl
theorem se_M_steps : Cond.selects R_M y_M_steps y_M_steps ∈ kT := mk_S 21 rfl rfl
set_option maxRecDepth 20000 in
theorem im_M_steps : Cond.instanceMethod y_M_steps ∈ kT := mk_T 502 rfl rfl
theorem se_M_write : Cond.selects R_M y_M_write y_M_write ∈ kT := mk_S 22 rfl rfl
set_option maxRecDepth 20000 in
theorem im_M_write : Cond.instanceMethod y_M_write ∈ kT := mk_T 506 rfl rfl
theorem se_M_giveAll : Cond.selects R_M y_M_giveAll y_M_giveAll ∈ kT := mk_S 23 rfl rfl
set_option maxRecDepth 20000 in
theorem im_M_giveAll : Cond.instanceMethod y_M_giveAll ∈ kT := mk_T 510 rfl rfl
theorem se_M_giveBack : Cond.selects R_M y_M_giveBack y_M_giveBack ∈ kT := mk_S 24 rfl rfl
set_option maxRecDepth 20000 in
theorem im_M_giveBack : Cond.instanceMethod y_M_giveBack ∈ kT := mk_T 514 rfl rfl
theorem se_M_first : Cond.selects R_M y_M_first y_M_first ∈ kT := mk_S 25 rfl rfl
set_option maxRecDepth 20000 in
theorem im_M_first : Cond.instanceMethod y_M_first ∈ kT := mk_T 518 rfl rfl
theorem se_M_goesOn : Cond.selects R_M y_M_goesOn y_M_goesOn ∈ kT := mk_S 26 rfl rfl
set_option maxRecDepth 20000 in
theorem im_M_goesOn : Cond.instanceMethod y_M_goesOn ∈ kT := mk_T 522 rfl rfl
set_option maxRecDepth 20000 in
theorem se_M_log : Cond.selects R_M y_M_log y_M_log ∈ kT := mk_T 526 rfl rfl
set_option maxRecDepth 20000 in
theorem im_M_log : Cond.instanceMethod y_M_log ∈ kT := mk_T 525 rfl rfl
set_option maxRecDepth 20000 in
theorem se_M_holder : Cond.selects R_M y_M_holder y_M_holder ∈ kT := mk_T 530 rfl rfl
set_option maxRecDepth 20000 in
theorem im_M_holder : Cond.instanceMethod y_M_holder ∈ kT := mk_T 529 rfl rfl
set_option maxRecDepth 20000 in
theorem se_M_waits : Cond.selects R_M y_M_waits y_M_waits ∈ kT := mk_T 534 rfl rfl
set_option maxRecDepth 20000 in
theorem im_M_waits : Cond.instanceMethod y_M_waits ∈ kT := mk_T 533 rfl rfl
set_option maxRecDepth 20000 in
theorem se_M_interrupt : Cond.selects R_M y_M_interrupt y_M_interrupt ∈ kT := mk_T 538 rfl rfl
set_option maxRecDepth 20000 in
theorem im_M_interrupt : Cond.instanceMethod y_M_interrupt ∈ kT := mk_T 537 rfl rfl
set_option maxRecDepth 20000 in
theorem se_M_dead : Cond.selects R_M y_M_dead y_M_dead ∈ kT := mk_T 542 rfl rfl
set_option maxRecDepth 20000 in
theorem im_M_dead : Cond.instanceMethod y_M_dead ∈ kT := mk_T 541 rfl rfl
set_option maxRecDepth 20000 in
theorem st_M_ones : Cond.static y_M_ones ∈ kT := mk_T 545 rfl rfl
set_option maxRecDepth 20000 in
theorem se_M_tick : Cond.selects R_M y_M_tick y_M_tick ∈ kT := mk_T 549 rfl rfl
set_option maxRecDepth 20000 in
theorem im_M_tick : Cond.instanceMethod y_M_tick ∈ kT := mk_T 548 rfl rfl
set_option maxRecDepth 20000 in
theorem se_M_close : Cond.selects R_M y_M_close y_M_close ∈ kT := mk_T 554 rfl rfl
set_option maxRecDepth 20000 in
theorem im_M_close : Cond.instanceMethod y_M_close ∈ kT := mk_T 553 rfl rfl
set_option maxRecDepth 20000 in
theorem se_M_look : Cond.selects R_M y_M_look y_M_look ∈ kT := mk_T 558 rfl rfl
set_option maxRecDepth 20000 in
theorem im_M_look : Cond.instanceMethod y_M_look ∈ kT := mk_T 557 rfl rfl
set_option maxRecDepth 20000 in
theorem se_M_count : Cond.selects R_M y_M_count y_M_count ∈ kT := mk_T 562 rfl rfl
set_option maxRecDepth 20000 in
theorem im_M_count : Cond.instanceMethod y_M_count ∈ kT := mk_T 561 rfl rfl
theorem ml_L_42 : Cond.methodLink R_L 42 y_K_init ∈ kT := mk_T 14 rfl rfl
theorem ml_K_54 : Cond.methodLink R_K 54 y_A_fill ∈ kT := mk_T 22 rfl rfl
theorem ml_L_55 : Cond.methodLink R_L 55 y_K_needs ∈ kT := mk_T 66 rfl rfl
theorem gd_L_55 : GoodIn kT (wsV R_L 55 R_K y_K_needs w_K_needs) := gdV ml_L_55 im_K_needs se_K_needs ini_K cd_K_needs
theorem ml_K_77 : Cond.methodLink R_K 77 y_K_deskAt ∈ kT := mk_T 70 rfl rfl
theorem gd_K_77 : GoodIn kT (wsV R_K 77 R_K y_K_deskAt w_K_deskAt) := gdV ml_K_77 im_K_deskAt se_K_deskAt ini_K cd_K_deskAt
theorem ml_K_81 : Cond.methodLink R_K 81 y_K_isSubject ∈ kT := mk_T 74 rfl rfl
theorem gd_K_81 : GoodIn kT (wsS R_K 81 y_K_isSubject w_K_isSubject) := gdS ml_K_81 st_K_isSubject ini_K cd_K_isSubject
theorem ml_K_85 : Cond.methodLink R_K 85 y_D_isAhead ∈ kT := mk_T 77 rfl rfl
theorem gd_K_85 : GoodIn kT (wsV R_K 85 R_D y_D_isAhead w_D_isAhead) := gdV ml_K_85 im_D_isAhead se_D_isAhead ini_D cd_D_isAhead
theorem ml_K_88 : Cond.methodLink R_K 88 y_D_hasNeed ∈ kT := mk_T 81 rfl rfl
theorem gd_K_88 : GoodIn kT (wsV R_K 88 R_D y_D_hasNeed w_D_hasNeed) := gdV ml_K_88 im_D_hasNeed se_D_hasNeed ini_D cd_D_hasNeed
theorem ml_K_95 : Cond.methodLink R_K 95 y_K_isInTheMidst ∈ kT := mk_T 85 rfl rfl
theorem gd_K_95 : GoodIn kT (wsV R_K 95 R_K y_K_isInTheMidst w_K_isInTheMidst) := gdV ml_K_95 im_K_isInTheMidst se_K_isInTheMidst ini_K cd_K_isInTheMidst
theorem ml_K_137 : Cond.methodLink R_K 137 y_K_heldBy ∈ kT := mk_T 89 rfl rfl
theorem gd_K_137 : GoodIn kT (wsV R_K 137 R_K y_K_heldBy w_K_heldBy) := gdV ml_K_137 im_K_heldBy se_K_heldBy ini_K cd_K_heldBy
theorem ml_K_99 : Cond.methodLink R_K 99 y_D_addNeed ∈ kT := mk_T 93 rfl rfl
theorem gd_K_99 : GoodIn kT (wsV R_K 99 R_D y_D_addNeed w_D_addNeed) := gdV ml_K_99 im_D_addNeed se_D_addNeed ini_D cd_D_addNeed
theorem ml_L_68 : Cond.methodLink R_L 68 y_K_log ∈ kT := mk_T 97 rfl rfl
theorem gd_L_68 : GoodIn kT (wsV R_L 68 R_K y_K_log w_K_log) := gdV ml_L_68 im_K_log se_K_log ini_K cd_K_log
theorem ml_L_78 : Cond.methodLink R_L 78 y_K_interrupt ∈ kT := mk_T 101 rfl rfl
theorem gd_L_78 : GoodIn kT (wsV R_L 78 R_K y_K_interrupt w_K_interrupt) := gdV ml_L_78 im_K_interrupt se_K_interrupt ini_K cd_K_interrupt
theorem ml_K_123 : Cond.methodLink R_K 123 y_K_giveBackAll ∈ kT := mk_T 105 rfl rfl
theorem gd_K_123 : GoodIn kT (wsV R_K 123 R_K y_K_giveBackAll w_K_giveBackAll) := gdV ml_K_123 im_K_giveBackAll se_K_giveBackAll ini_K cd_K_giveBackAll
theorem ml_K_153 : Cond.methodLink R_K 153 y_K_giveBack ∈ kT := mk_T 109 rfl rfl
theorem gd_K_153 : GoodIn kT (wsV R_K 153 R_K y_K_giveBack w_K_giveBack) := gdV ml_K_153 im_K_giveBack se_K_giveBack ini_K cd_K_giveBack
theorem ml_K_113 : Cond.methodLink R_K 113 y_K_waiterFor ∈ kT := mk_T 113 rfl rfl
theorem gd_K_113 : GoodIn kT (wsV R_K 113 R_K y_K_waiterFor w_K_waiterFor) := gdV ml_K_113 im_K_waiterFor se_K_waiterFor ini_K cd_K_waiterFor
theorem ml_K_194 : Cond.methodLink R_K 194 y_K_waitersAheadOf ∈ kT := mk_T 117 rfl rfl
theorem gd_K_194 : GoodIn kT (wsV R_K 194 R_K y_K_waitersAheadOf w_K_waitersAheadOf) := gdV ml_K_194 im_K_waitersAheadOf se_K_waitersAheadOf ini_K cd_K_waitersAheadOf
theorem ml_K_185 : Cond.methodLink R_K 185 y_K_take ∈ kT := mk_T 121 rfl rfl
theorem gd_K_185 : GoodIn kT (wsV R_K 185 R_K y_K_take w_K_take) := gdV ml_K_185 im_K_take se_K_take ini_K cd_K_take
theorem ml_K_127 : Cond.methodLink R_K 127 y_K_tell ∈ kT := mk_T 125 rfl rfl
theorem gd_K_127 : GoodIn kT (wsV R_K 127 R_K y_K_tell w_K_tell) := gdV ml_K_127 im_K_tell se_K_tell ini_K cd_K_tell
theorem ml_L_89 : Cond.methodLink R_L 89 y_K_close ∈ kT := mk_T 129 rfl rfl
theorem gd_L_89 : GoodIn kT (wsV R_L 89 R_K y_K_close w_K_close) := gdV ml_L_89 im_K_close se_K_close ini_K cd_K_close
theorem ml_K_157 : Cond.methodLink R_K 157 y_D_condition ∈ kT := mk_T 133 rfl rfl
theorem gd_K_157 : GoodIn kT (wsV R_K 157 R_D y_D_condition w_D_condition) := gdV ml_K_157 im_D_condition se_D_condition ini_D cd_D_condition
theorem ml_K_161 : Cond.methodLink R_K 161 y_K_end ∈ kT := mk_T 137 rfl rfl
theorem gd_K_161 : GoodIn kT (wsV R_K 161 R_K y_K_end w_K_end) := gdV ml_K_161 im_K_end se_K_end ini_K cd_K_end
theorem ml_L_96 : Cond.methodLink R_L 96 y_K_count ∈ kT := mk_T 141 rfl rfl
theorem gd_L_96 : GoodIn kT (wsV R_L 96 R_K y_K_count w_K_count) := gdV ml_L_96 im_K_count se_K_count ini_K cd_K_count
theorem ml_K_172 : Cond.methodLink R_K 172 y_K_subjectsHeld ∈ kT := mk_T 145 rfl rfl
theorem gd_K_172 : GoodIn kT (wsV R_K 172 R_K y_K_subjectsHeld w_K_subjectsHeld) := gdV ml_K_172 im_K_subjectsHeld se_K_subjectsHeld ini_K cd_K_subjectsHeld
theorem ml_L_46 : Cond.methodLink R_L 46 y_L_desk ∈ kT := mk_T 149 rfl rfl
theorem ml_L_7 : Cond.methodLink R_L 7 y_K_desk ∈ kT := mk_T 154 rfl rfl
theorem gd_L_7 : GoodIn kT (wsV R_L 7 R_K y_K_desk w_K_desk) := gdV ml_L_7 im_K_desk se_K_desk ini_K cd_K_desk
theorem ml_K_74 : Cond.methodLink R_K 74 y_D_init ∈ kT := mk_T 244 rfl rfl
theorem ml_L_60 : Cond.methodLink R_L 60 y_L_turn ∈ kT := mk_T 287 rfl rfl
theorem ml_L_17 : Cond.methodLink R_L 17 y_K_turn ∈ kT := mk_T 290 rfl rfl
theorem gd_L_17 : GoodIn kT (wsV R_L 17 R_K y_K_turn w_K_turn) := gdV ml_L_17 im_K_turn se_K_turn ini_K cd_K_turn
theorem ml_L_64 : Cond.methodLink R_L 64 y_L_run ∈ kT := mk_T 296 rfl rfl
theorem ml_L_21 : Cond.methodLink R_L 21 y_K_run ∈ kT := mk_T 299 rfl rfl
theorem gd_L_21 : GoodIn kT (wsV R_L 21 R_K y_K_run w_K_run) := gdV ml_L_21 im_K_run se_K_run ini_K cd_K_run
set_option maxRecDepth 20000 in
theorem ml_K_108 : Cond.methodLink R_K 108 y_K_takeTurn ∈ kT := mk_T 304 rfl rfl
theorem gd_K_108 : GoodIn kT (wsV R_K 108 R_K y_K_takeTurn w_K_takeTurn) := gdV ml_K_108 im_K_takeTurn se_K_takeTurn ini_K cd_K_takeTurn
set_option maxRecDepth 20000 in
theorem ml_K_175 : Cond.methodLink R_K 175 y_K_leastLacking ∈ kT := mk_T 308 rfl rfl
theorem gd_K_175 : GoodIn kT (wsV R_K 175 R_K y_K_leastLacking w_K_leastLacking) := gdV ml_K_175 im_K_leastLacking se_K_leastLacking ini_K cd_K_leastLacking
set_option maxRecDepth 20000 in
theorem ml_K_178 : Cond.methodLink R_K 178 y_K_ask ∈ kT := mk_T 312 rfl rfl
theorem gd_K_178 : GoodIn kT (wsV R_K 178 R_K y_K_ask w_K_ask) := gdV ml_K_178 im_K_ask se_K_ask ini_K cd_K_ask
set_option maxRecDepth 20000 in
theorem ml_K_182 : Cond.methodLink R_K 182 y_K_doOrUndo ∈ kT := mk_T 316 rfl rfl
theorem gd_K_182 : GoodIn kT (wsV R_K 182 R_K y_K_doOrUndo w_K_doOrUndo) := gdV ml_K_182 im_K_doOrUndo se_K_doOrUndo ini_K cd_K_doOrUndo
set_option maxRecDepth 20000 in
theorem ml_L_72 : Cond.methodLink R_L 72 y_L_holder ∈ kT := mk_T 320 rfl rfl
set_option maxRecDepth 20000 in
theorem ml_L_25 : Cond.methodLink R_L 25 y_K_holder ∈ kT := mk_T 323 rfl rfl
theorem gd_L_25 : GoodIn kT (wsV R_L 25 R_K y_K_holder w_K_holder) := gdV ml_L_25 im_K_holder se_K_holder ini_K cd_K_holder
set_option maxRecDepth 20000 in
theorem ml_L_75 : Cond.methodLink R_L 75 y_L_waits ∈ kT := mk_T 328 rfl rfl
set_option maxRecDepth 20000 in
theorem ml_L_28 : Cond.methodLink R_L 28 y_K_waits ∈ kT := mk_T 331 rfl rfl
theorem gd_L_28 : GoodIn kT (wsV R_L 28 R_K y_K_waits w_K_waits) := gdV ml_L_28 im_K_waits se_K_waits ini_K cd_K_waits
set_option maxRecDepth 20000 in
theorem ml_L_83 : Cond.methodLink R_L 83 y_L_dead ∈ kT := mk_T 335 rfl rfl
set_option maxRecDepth 20000 in
theorem ml_L_31 : Cond.methodLink R_L 31 y_K_dead ∈ kT := mk_T 338 rfl rfl
theorem gd_L_31 : GoodIn kT (wsV R_L 31 R_K y_K_dead w_K_dead) := gdV ml_L_31 im_K_dead se_K_dead ini_K cd_K_dead
set_option maxRecDepth 20000 in
theorem ml_K_131 : Cond.methodLink R_K 131 y_K_isAlive ∈ kT := mk_T 342 rfl rfl
theorem gd_K_131 : GoodIn kT (wsS R_K 131 y_K_isAlive w_K_isAlive) := gdS ml_K_131 st_K_isAlive ini_K cd_K_isAlive
set_option maxRecDepth 20000 in
theorem ml_K_141 : Cond.methodLink R_K 141 y_I_bitCount ∈ kT := mk_T 345 rfl rfl
set_option maxRecDepth 20000 in
theorem ml_L_86 : Cond.methodLink R_L 86 y_L_tick ∈ kT := mk_T 351 rfl rfl
set_option maxRecDepth 20000 in
theorem ml_L_34 : Cond.methodLink R_L 34 y_K_tick ∈ kT := mk_T 354 rfl rfl
theorem gd_L_34 : GoodIn kT (wsV R_L 34 R_K y_K_tick w_K_tick) := gdV ml_L_34 im_K_tick se_K_tick ini_K cd_K_tick
set_option maxRecDepth 20000 in
theorem ml_K_150 : Cond.methodLink R_K 150 y_K_isOverdue ∈ kT := mk_T 360 rfl rfl
theorem gd_K_150 : GoodIn kT (wsV R_K 150 R_K y_K_isOverdue w_K_isOverdue) := gdV ml_K_150 im_K_isOverdue se_K_isOverdue ini_K cd_K_isOverdue
set_option maxRecDepth 20000 in
theorem ml_L_93 : Cond.methodLink R_L 93 y_L_look ∈ kT := mk_T 364 rfl rfl
set_option maxRecDepth 20000 in
theorem ml_L_37 : Cond.methodLink R_L 37 y_K_look ∈ kT := mk_T 368 rfl rfl
theorem gd_L_37 : GoodIn kT (wsV R_L 37 R_K y_K_look w_K_look) := gdV ml_L_37 im_K_look se_K_look ini_K cd_K_look
set_option maxRecDepth 20000 in
theorem ml_L_45 : Cond.methodLink R_L 45 y_M_init ∈ kT := mk_T 390 rfl rfl
set_option maxRecDepth 20000 in
theorem ml_L_52 : Cond.methodLink R_L 52 y_M_thrown ∈ kT := mk_T 458 rfl rfl
theorem gd_L_52 : GoodIn kT (wsV R_L 52 R_M y_M_thrown w_M_thrown) := gdV ml_L_52 im_M_thrown se_M_thrown ini_M cd_M_thrown
set_option maxRecDepth 20000 in
theorem ml_L_51 : Cond.methodLink R_L 51 y_M_desk ∈ kT := mk_T 462 rfl rfl
theorem gd_L_51 : GoodIn kT (wsV R_L 51 R_M y_M_desk w_M_desk) := gdV ml_L_51 im_M_desk se_M_desk ini_M cd_M_desk
set_option maxRecDepth 20000 in
theorem ml_M_53 : Cond.methodLink R_M 53 y_M_in ∈ kT := mk_T 466 rfl rfl
theorem gd_M_53 : GoodIn kT (wsS R_M 53 y_M_in w_M_in) := gdS ml_M_53 st_M_in ini_M cd_M_in
set_option maxRecDepth 20000 in
theorem ml_M_57 : Cond.methodLink R_M 57 y_M_refuse ∈ kT := mk_T 469 rfl rfl
theorem gd_M_57 : GoodIn kT (wsV R_M 57 R_M y_M_refuse w_M_refuse) := gdV ml_M_57 im_M_refuse se_M_refuse ini_M cd_M_refuse
set_option maxRecDepth 20000 in
theorem ml_L_59 : Cond.methodLink R_L 59 y_M_needs ∈ kT := mk_T 473 rfl rfl
theorem gd_L_59 : GoodIn kT (wsV R_L 59 R_M y_M_needs w_M_needs) := gdV ml_L_59 im_M_needs se_M_needs ini_M cd_M_needs
set_option maxRecDepth 20000 in
theorem ml_M_68 : Cond.methodLink R_M 68 y_M_isDesk ∈ kT := mk_T 477 rfl rfl
theorem gd_M_68 : GoodIn kT (wsV R_M 68 R_M y_M_isDesk w_M_isDesk) := gdV ml_M_68 im_M_isDesk se_M_isDesk ini_M cd_M_isDesk
set_option maxRecDepth 20000 in
theorem ml_M_72 : Cond.methodLink R_M 72 y_M_isSubject ∈ kT := mk_T 481 rfl rfl
theorem gd_M_72 : GoodIn kT (wsS R_M 72 y_M_isSubject w_M_isSubject) := gdS ml_M_72 st_M_isSubject ini_M cd_M_isSubject
set_option maxRecDepth 20000 in
theorem ml_M_75 : Cond.methodLink R_M 75 y_M_isMidst ∈ kT := mk_T 484 rfl rfl
theorem gd_M_75 : GoodIn kT (wsV R_M 75 R_M y_M_isMidst w_M_isMidst) := gdV ml_M_75 im_M_isMidst se_M_isMidst ini_M cd_M_isMidst
set_option maxRecDepth 20000 in
theorem ml_M_65 : Cond.methodLink R_M 65 y_M_held ∈ kT := mk_T 488 rfl rfl
theorem gd_M_65 : GoodIn kT (wsV R_M 65 R_M y_M_held w_M_held) := gdV ml_M_65 im_M_held se_M_held ini_M cd_M_held
set_option maxRecDepth 20000 in
theorem ml_L_63 : Cond.methodLink R_L 63 y_M_turn ∈ kT := mk_T 492 rfl rfl
theorem gd_L_63 : GoodIn kT (wsV R_L 63 R_M y_M_turn w_M_turn) := gdV ml_L_63 im_M_turn se_M_turn ini_M cd_M_turn
set_option maxRecDepth 20000 in
theorem ml_L_67 : Cond.methodLink R_L 67 y_M_run ∈ kT := mk_T 496 rfl rfl
theorem gd_L_67 : GoodIn kT (wsV R_L 67 R_M y_M_run w_M_run) := gdV ml_L_67 im_M_run se_M_run ini_M cd_M_run
set_option maxRecDepth 20000 in
theorem ml_M_113 : Cond.methodLink R_M 113 y_M_steps ∈ kT := mk_T 500 rfl rfl
theorem gd_M_113 : GoodIn kT (wsV R_M 113 R_M y_M_steps w_M_steps) := gdV ml_M_113 im_M_steps se_M_steps ini_M cd_M_steps
set_option maxRecDepth 20000 in
theorem ml_M_94 : Cond.methodLink R_M 94 y_M_write ∈ kT := mk_T 504 rfl rfl
theorem gd_M_94 : GoodIn kT (wsV R_M 94 R_M y_M_write w_M_write) := gdV ml_M_94 im_M_write se_M_write ini_M cd_M_write
set_option maxRecDepth 20000 in
theorem ml_M_98 : Cond.methodLink R_M 98 y_M_giveAll ∈ kT := mk_T 508 rfl rfl
theorem gd_M_98 : GoodIn kT (wsV R_M 98 R_M y_M_giveAll w_M_giveAll) := gdV ml_M_98 im_M_giveAll se_M_giveAll ini_M cd_M_giveAll
set_option maxRecDepth 20000 in
theorem ml_M_87 : Cond.methodLink R_M 87 y_M_giveBack ∈ kT := mk_T 512 rfl rfl
theorem gd_M_87 : GoodIn kT (wsV R_M 87 R_M y_M_giveBack w_M_giveBack) := gdV ml_M_87 im_M_giveBack se_M_giveBack ini_M cd_M_giveBack
set_option maxRecDepth 20000 in
theorem ml_M_81 : Cond.methodLink R_M 81 y_M_first ∈ kT := mk_T 516 rfl rfl
theorem gd_M_81 : GoodIn kT (wsV R_M 81 R_M y_M_first w_M_first) := gdV ml_M_81 im_M_first se_M_first ini_M cd_M_first
set_option maxRecDepth 20000 in
theorem ml_M_101 : Cond.methodLink R_M 101 y_M_goesOn ∈ kT := mk_T 520 rfl rfl
theorem gd_M_101 : GoodIn kT (wsV R_M 101 R_M y_M_goesOn w_M_goesOn) := gdV ml_M_101 im_M_goesOn se_M_goesOn ini_M cd_M_goesOn
set_option maxRecDepth 20000 in
theorem ml_L_71 : Cond.methodLink R_L 71 y_M_log ∈ kT := mk_T 524 rfl rfl
theorem gd_L_71 : GoodIn kT (wsV R_L 71 R_M y_M_log w_M_log) := gdV ml_L_71 im_M_log se_M_log ini_M cd_M_log
set_option maxRecDepth 20000 in
theorem ml_L_74 : Cond.methodLink R_L 74 y_M_holder ∈ kT := mk_T 528 rfl rfl
theorem gd_L_74 : GoodIn kT (wsV R_L 74 R_M y_M_holder w_M_holder) := gdV ml_L_74 im_M_holder se_M_holder ini_M cd_M_holder
set_option maxRecDepth 20000 in
theorem ml_L_77 : Cond.methodLink R_L 77 y_M_waits ∈ kT := mk_T 532 rfl rfl
theorem gd_L_77 : GoodIn kT (wsV R_L 77 R_M y_M_waits w_M_waits) := gdV ml_L_77 im_M_waits se_M_waits ini_M cd_M_waits
set_option maxRecDepth 20000 in
theorem ml_L_82 : Cond.methodLink R_L 82 y_M_interrupt ∈ kT := mk_T 536 rfl rfl
theorem gd_L_82 : GoodIn kT (wsV R_L 82 R_M y_M_interrupt w_M_interrupt) := gdV ml_L_82 im_M_interrupt se_M_interrupt ini_M cd_M_interrupt
set_option maxRecDepth 20000 in
theorem ml_L_85 : Cond.methodLink R_L 85 y_M_dead ∈ kT := mk_T 540 rfl rfl
theorem gd_L_85 : GoodIn kT (wsV R_L 85 R_M y_M_dead w_M_dead) := gdV ml_L_85 im_M_dead se_M_dead ini_M cd_M_dead
set_option maxRecDepth 20000 in
theorem ml_M_116 : Cond.methodLink R_M 116 y_M_ones ∈ kT := mk_T 544 rfl rfl
theorem gd_M_116 : GoodIn kT (wsS R_M 116 y_M_ones w_M_ones) := gdS ml_M_116 st_M_ones ini_M cd_M_ones
set_option maxRecDepth 20000 in
theorem ml_L_88 : Cond.methodLink R_L 88 y_M_tick ∈ kT := mk_T 547 rfl rfl
theorem gd_L_88 : GoodIn kT (wsV R_L 88 R_M y_M_tick w_M_tick) := gdV ml_L_88 im_M_tick se_M_tick ini_M cd_M_tick
set_option maxRecDepth 20000 in
theorem ml_L_92 : Cond.methodLink R_L 92 y_M_close ∈ kT := mk_T 552 rfl rfl
theorem gd_L_92 : GoodIn kT (wsV R_L 92 R_M y_M_close w_M_close) := gdV ml_L_92 im_M_close se_M_close ini_M cd_M_close
set_option maxRecDepth 20000 in
theorem ml_L_95 : Cond.methodLink R_L 95 y_M_look ∈ kT := mk_T 556 rfl rfl
theorem gd_L_95 : GoodIn kT (wsV R_L 95 R_M y_M_look w_M_look) := gdV ml_L_95 im_M_look se_M_look ini_M cd_M_look
set_option maxRecDepth 20000 in
theorem ml_L_99 : Cond.methodLink R_L 99 y_M_count ∈ kT := mk_T 560 rfl rfl
theorem gd_L_99 : GoodIn kT (wsV R_L 99 R_M y_M_count w_M_count) := gdV ml_L_99 im_M_count se_M_count ini_M cd_M_count
end
section
theorem d_D_init_0 : decode b_D_init 0 = .ok (.aload_n 0, 1) := by decide +kernel
theorem d_D_init_1 : decode b_D_init 1 = .ok (.invokespecial 3, 3) := by decide +kernel
theorem d_D_init_4 : decode b_D_init 4 = .ok (.aload_n 0, 1) := by decide +kernel
theorem d_D_init_5 : decode b_D_init 5 = .ok (.bipush 12, 2) := by decide +kernel
theorem d_D_init_7 : decode b_D_init 7 = .ok (.newarray .int, 2) := by decide +kernel
theorem d_D_init_9 : decode b_D_init 9 = .ok (.putfield 9, 3) := by decide +kernel
theorem d_D_init_12 : decode b_D_init 12 = .ok (.aload_n 0, 1) := by decide +kernel
theorem d_D_init_13 : decode b_D_init 13 = .ok (.iconst 0, 1) := by decide +kernel
theorem d_D_init_14 : decode b_D_init 14 = .ok (.putfield 15, 3) := by decide +kernel
theorem d_D_init_17 : decode b_D_init 17 = .ok (.aload_n 0, 1) := by decide +kernel
theorem d_D_init_18 : decode b_D_init 18 = .ok (.iconst 0, 1) := by decide +kernel
theorem d_D_init_19 : decode b_D_init 19 = .ok (.putfield 19, 3) := by decide +kernel
theorem d_D_init_22 : decode b_D_init 22 = .ok (.aload_n 0, 1) := by decide +kernel
theorem d_D_init_23 : decode b_D_init 23 = .ok (.iconst (-1), 1) := by decide +kernel
theorem d_D_init_24 : decode b_D_init 24 = .ok (.putfield 22, 3) := by decide +kernel
theorem d_D_init_27 : decode b_D_init 27 = .ok (.aload_n 0, 1) := by decide +kernel
theorem d_D_init_28 : decode b_D_init 28 = .ok (.iconst 0, 1) := by decide +kernel
theorem d_D_init_29 : decode b_D_init 29 = .ok (.putfield 25, 3) := by decide +kernel
theorem d_D_init_32 : decode b_D_init 32 = .ok (.aload_n 0, 1) := by decide +kernel
theorem d_D_init_33 : decode b_D_init 33 = .ok (.iconst 0, 1) := by decide +kernel
theorem d_D_init_34 : decode b_D_init 34 = .ok (.putfield 28, 3) := by decide +kernel
theorem d_D_init_37 : decode b_D_init 37 = .ok (.aload_n 0, 1) := by decide +kernel
theorem d_D_init_38 : decode b_D_init 38 = .ok (.iconst 0, 1) := by decide +kernel
theorem d_D_init_39 : decode b_D_init 39 = .ok (.putfield 32, 3) := by decide +kernel
theorem d_D_init_42 : decode b_D_init 42 = .ok (.aload_n 0, 1) := by decide +kernel
theorem d_D_init_43 : decode b_D_init 43 = .ok (.iload_n 1, 1) := by decide +kernel
theorem d_D_init_44 : decode b_D_init 44 = .ok (.putfield 35, 3) := by decide +kernel
theorem d_D_init_47 : decode b_D_init 47 = .ok (.aload_n 0, 1) := by decide +kernel
theorem d_D_init_48 : decode b_D_init 48 = .ok (.iload_n 2, 1) := by decide +kernel
theorem d_D_init_49 : decode b_D_init 49 = .ok (.putfield 38, 3) := by decide +kernel
theorem d_D_init_52 : decode b_D_init 52 = .ok (.aload_n 0, 1) := by decide +kernel
theorem d_D_init_53 : decode b_D_init 53 = .ok (.iload_n 3, 1) := by decide +kernel
theorem d_D_init_54 : decode b_D_init 54 = .ok (.putfield 41, 3) := by decide +kernel
theorem d_D_init_57 : decode b_D_init 57 = .ok (.return_, 1) := by decide +kernel
theorem d_D_condition_0 : decode b_D_condition 0 = .ok (.aload_n 0, 1) := by decide +kernel
theorem d_D_condition_1 : decode b_D_condition 1 = .ok (.getfield 32, 3) := by decide +kernel
theorem d_D_condition_4 : decode b_D_condition 4 = .ok (.ifCond .eq 5, 3) := by decide +kernel
theorem d_D_condition_7 : decode b_D_condition 7 = .ok (.iconst 4, 1) := by decide +kernel
theorem d_D_condition_8 : decode b_D_condition 8 = .ok (.ireturn, 1) := by decide +kernel
theorem d_D_condition_9 : decode b_D_condition 9 = .ok (.aload_n 0, 1) := by decide +kernel
theorem d_D_condition_10 : decode b_D_condition 10 = .ok (.getfield 28, 3) := by decide +kernel
theorem d_D_condition_13 : decode b_D_condition 13 = .ok (.ifCond .eq 5, 3) := by decide +kernel
theorem d_D_condition_16 : decode b_D_condition 16 = .ok (.iconst 3, 1) := by decide +kernel
theorem d_D_condition_17 : decode b_D_condition 17 = .ok (.ireturn, 1) := by decide +kernel
theorem d_D_condition_18 : decode b_D_condition 18 = .ok (.aload_n 0, 1) := by decide +kernel
theorem d_D_condition_19 : decode b_D_condition 19 = .ok (.getfield 15, 3) := by decide +kernel
theorem d_D_condition_22 : decode b_D_condition 22 = .ok (.aload_n 0, 1) := by decide +kernel
theorem d_D_condition_23 : decode b_D_condition 23 = .ok (.getfield 38, 3) := by decide +kernel
theorem d_D_condition_26 : decode b_D_condition 26 = .ok (.if_icmp .lt 5, 3) := by decide +kernel
theorem d_D_condition_29 : decode b_D_condition 29 = .ok (.iconst 2, 1) := by decide +kernel
theorem d_D_condition_30 : decode b_D_condition 30 = .ok (.ireturn, 1) := by decide +kernel
theorem d_D_condition_31 : decode b_D_condition 31 = .ok (.aload_n 0, 1) := by decide +kernel
theorem d_D_condition_32 : decode b_D_condition 32 = .ok (.getfield 22, 3) := by decide +kernel
theorem d_D_condition_35 : decode b_D_condition 35 = .ok (.iconst (-1), 1) := by decide +kernel
theorem d_D_condition_36 : decode b_D_condition 36 = .ok (.if_icmp .eq 7, 3) := by decide +kernel
theorem d_D_condition_39 : decode b_D_condition 39 = .ok (.iconst 1, 1) := by decide +kernel
theorem d_D_condition_40 : decode b_D_condition 40 = .ok (.goto 4, 3) := by decide +kernel
theorem d_D_condition_43 : decode b_D_condition 43 = .ok (.iconst 0, 1) := by decide +kernel
theorem d_D_condition_44 : decode b_D_condition 44 = .ok (.ireturn, 1) := by decide +kernel
theorem d_D_isAhead_0 : decode b_D_isAhead 0 = .ok (.iload_n 1, 1) := by decide +kernel
theorem d_D_isAhead_1 : decode b_D_isAhead 1 = .ok (.ifCond .lt 23, 3) := by decide +kernel
theorem d_D_isAhead_4 : decode b_D_isAhead 4 = .ok (.iload_n 1, 1) := by decide +kernel
theorem d_D_isAhead_5 : decode b_D_isAhead 5 = .ok (.aload_n 0, 1) := by decide +kernel
theorem d_D_isAhead_6 : decode b_D_isAhead 6 = .ok (.getfield 15, 3) := by decide +kernel
theorem d_D_isAhead_9 : decode b_D_isAhead 9 = .ok (.if_icmp .lt 15, 3) := by decide +kernel
theorem d_D_isAhead_12 : decode b_D_isAhead 12 = .ok (.iload_n 1, 1) := by decide +kernel
theorem d_D_isAhead_13 : decode b_D_isAhead 13 = .ok (.aload_n 0, 1) := by decide +kernel
theorem d_D_isAhead_14 : decode b_D_isAhead 14 = .ok (.getfield 38, 3) := by decide +kernel
theorem d_D_isAhead_17 : decode b_D_isAhead 17 = .ok (.if_icmp .ge 7, 3) := by decide +kernel
theorem d_D_isAhead_20 : decode b_D_isAhead 20 = .ok (.iconst 1, 1) := by decide +kernel
theorem d_D_isAhead_21 : decode b_D_isAhead 21 = .ok (.goto 4, 3) := by decide +kernel
theorem d_D_isAhead_24 : decode b_D_isAhead 24 = .ok (.iconst 0, 1) := by decide +kernel
theorem d_D_isAhead_25 : decode b_D_isAhead 25 = .ok (.ireturn, 1) := by decide +kernel
theorem d_D_hasNeed_0 : decode b_D_hasNeed 0 = .ok (.iload_n 1, 1) := by decide +kernel
theorem d_D_hasNeed_1 : decode b_D_hasNeed 1 = .ok (.ifCond .lt 29, 3) := by decide +kernel
theorem d_D_hasNeed_4 : decode b_D_hasNeed 4 = .ok (.iload_n 1, 1) := by decide +kernel
theorem d_D_hasNeed_5 : decode b_D_hasNeed 5 = .ok (.aload_n 0, 1) := by decide +kernel
theorem d_D_hasNeed_6 : decode b_D_hasNeed 6 = .ok (.getfield 9, 3) := by decide +kernel
theorem d_D_hasNeed_9 : decode b_D_hasNeed 9 = .ok (.arraylength, 1) := by decide +kernel
theorem d_D_hasNeed_10 : decode b_D_hasNeed 10 = .ok (.if_icmp .ge 20, 3) := by decide +kernel
theorem d_D_hasNeed_13 : decode b_D_hasNeed 13 = .ok (.aload_n 0, 1) := by decide +kernel
theorem d_D_hasNeed_14 : decode b_D_hasNeed 14 = .ok (.getfield 9, 3) := by decide +kernel
theorem d_D_hasNeed_17 : decode b_D_hasNeed 17 = .ok (.iload_n 1, 1) := by decide +kernel
theorem d_D_hasNeed_18 : decode b_D_hasNeed 18 = .ok (.iaload, 1) := by decide +kernel
theorem d_D_hasNeed_19 : decode b_D_hasNeed 19 = .ok (.iload_n 2, 1) := by decide +kernel
theorem d_D_hasNeed_20 : decode b_D_hasNeed 20 = .ok (.ishr, 1) := by decide +kernel
theorem d_D_hasNeed_21 : decode b_D_hasNeed 21 = .ok (.iconst 1, 1) := by decide +kernel
theorem d_D_hasNeed_22 : decode b_D_hasNeed 22 = .ok (.iand, 1) := by decide +kernel
theorem d_D_hasNeed_23 : decode b_D_hasNeed 23 = .ok (.ifCond .eq 7, 3) := by decide +kernel
theorem d_D_hasNeed_26 : decode b_D_hasNeed 26 = .ok (.iconst 1, 1) := by decide +kernel
theorem d_D_hasNeed_27 : decode b_D_hasNeed 27 = .ok (.goto 4, 3) := by decide +kernel
theorem d_D_hasNeed_30 : decode b_D_hasNeed 30 = .ok (.iconst 0, 1) := by decide +kernel
theorem d_D_hasNeed_31 : decode b_D_hasNeed 31 = .ok (.ireturn, 1) := by decide +kernel
theorem d_D_addNeed_0 : decode b_D_addNeed 0 = .ok (.iload_n 1, 1) := by decide +kernel
theorem d_D_addNeed_1 : decode b_D_addNeed 1 = .ok (.ifCond .lt 24, 3) := by decide +kernel
theorem d_D_addNeed_4 : decode b_D_addNeed 4 = .ok (.iload_n 1, 1) := by decide +kernel
theorem d_D_addNeed_5 : decode b_D_addNeed 5 = .ok (.aload_n 0, 1) := by decide +kernel
theorem d_D_addNeed_6 : decode b_D_addNeed 6 = .ok (.getfield 9, 3) := by decide +kernel
theorem d_D_addNeed_9 : decode b_D_addNeed 9 = .ok (.arraylength, 1) := by decide +kernel
theorem d_D_addNeed_10 : decode b_D_addNeed 10 = .ok (.if_icmp .ge 15, 3) := by decide +kernel
theorem d_D_addNeed_13 : decode b_D_addNeed 13 = .ok (.aload_n 0, 1) := by decide +kernel
theorem d_D_addNeed_14 : decode b_D_addNeed 14 = .ok (.getfield 9, 3) := by decide +kernel
theorem d_D_addNeed_17 : decode b_D_addNeed 17 = .ok (.iload_n 1, 1) := by decide +kernel
theorem d_D_addNeed_18 : decode b_D_addNeed 18 = .ok (.dup2, 1) := by decide +kernel
theorem d_D_addNeed_19 : decode b_D_addNeed 19 = .ok (.iaload, 1) := by decide +kernel
theorem d_D_addNeed_20 : decode b_D_addNeed 20 = .ok (.iconst 1, 1) := by decide +kernel
theorem d_D_addNeed_21 : decode b_D_addNeed 21 = .ok (.iload_n 2, 1) := by decide +kernel
theorem d_D_addNeed_22 : decode b_D_addNeed 22 = .ok (.ishl, 1) := by decide +kernel
theorem d_D_addNeed_23 : decode b_D_addNeed 23 = .ok (.ior, 1) := by decide +kernel
theorem d_D_addNeed_24 : decode b_D_addNeed 24 = .ok (.iastore, 1) := by decide +kernel
theorem d_D_addNeed_25 : decode b_D_addNeed 25 = .ok (.return_, 1) := by decide +kernel
end
section
theorem d_K_init_0 : decode b_K_init 0 = .ok (.aload_n 0, 1) := by decide +kernel
theorem d_K_init_1 : decode b_K_init 1 = .ok (.invokespecial 1, 3) := by decide +kernel
theorem d_K_init_4 : decode b_K_init 4 = .ok (.aload_n 0, 1) := by decide +kernel
theorem d_K_init_5 : decode b_K_init 5 = .ok (.bipush 8, 2) := by decide +kernel
theorem d_K_init_7 : decode b_K_init 7 = .ok (.anewarray 9, 3) := by decide +kernel
theorem d_K_init_10 : decode b_K_init 10 = .ok (.putfield 11, 3) := by decide +kernel
theorem d_K_init_13 : decode b_K_init 13 = .ok (.aload_n 0, 1) := by decide +kernel
theorem d_K_init_14 : decode b_K_init 14 = .ok (.iconst 0, 1) := by decide +kernel
theorem d_K_init_15 : decode b_K_init 15 = .ok (.putfield 15, 3) := by decide +kernel
theorem d_K_init_18 : decode b_K_init 18 = .ok (.aload_n 0, 1) := by decide +kernel
theorem d_K_init_19 : decode b_K_init 19 = .ok (.bipush 16, 2) := by decide +kernel
theorem d_K_init_21 : decode b_K_init 21 = .ok (.newarray .int, 2) := by decide +kernel
theorem d_K_init_23 : decode b_K_init 23 = .ok (.putfield 19, 3) := by decide +kernel
theorem d_K_init_26 : decode b_K_init 26 = .ok (.aload_n 0, 1) := by decide +kernel
theorem d_K_init_27 : decode b_K_init 27 = .ok (.bipush 16, 2) := by decide +kernel
theorem d_K_init_29 : decode b_K_init 29 = .ok (.newarray .int, 2) := by decide +kernel
theorem d_K_init_31 : decode b_K_init 31 = .ok (.putfield 23, 3) := by decide +kernel
theorem d_K_init_34 : decode b_K_init 34 = .ok (.aload_n 0, 1) := by decide +kernel
theorem d_K_init_35 : decode b_K_init 35 = .ok (.iconst 0, 1) := by decide +kernel
theorem d_K_init_36 : decode b_K_init 36 = .ok (.putfield 26, 3) := by decide +kernel
theorem d_K_init_39 : decode b_K_init 39 = .ok (.aload_n 0, 1) := by decide +kernel
theorem d_K_init_40 : decode b_K_init 40 = .ok (.sipush 300, 3) := by decide +kernel
theorem d_K_init_43 : decode b_K_init 43 = .ok (.newarray .int, 2) := by decide +kernel
theorem d_K_init_45 : decode b_K_init 45 = .ok (.putfield 29, 3) := by decide +kernel
theorem d_K_init_48 : decode b_K_init 48 = .ok (.aload_n 0, 1) := by decide +kernel
theorem d_K_init_49 : decode b_K_init 49 = .ok (.iconst 0, 1) := by decide +kernel
theorem d_K_init_50 : decode b_K_init 50 = .ok (.putfield 32, 3) := by decide +kernel
theorem d_K_init_53 : decode b_K_init 53 = .ok (.aload_n 0, 1) := by decide +kernel
theorem d_K_init_54 : decode b_K_init 54 = .ok (.iconst 0, 1) := by decide +kernel
theorem d_K_init_55 : decode b_K_init 55 = .ok (.putfield 35, 3) := by decide +kernel
theorem d_K_init_58 : decode b_K_init 58 = .ok (.aload_n 0, 1) := by decide +kernel
theorem d_K_init_59 : decode b_K_init 59 = .ok (.iconst 0, 1) := by decide +kernel
theorem d_K_init_60 : decode b_K_init 60 = .ok (.putfield 38, 3) := by decide +kernel
theorem d_K_init_63 : decode b_K_init 63 = .ok (.aload_n 0, 1) := by decide +kernel
theorem d_K_init_64 : decode b_K_init 64 = .ok (.sipush 400, 3) := by decide +kernel
theorem d_K_init_67 : decode b_K_init 67 = .ok (.newarray .int, 2) := by decide +kernel
theorem d_K_init_69 : decode b_K_init 69 = .ok (.putfield 41, 3) := by decide +kernel
theorem d_K_init_72 : decode b_K_init 72 = .ok (.aload_n 0, 1) := by decide +kernel
theorem d_K_init_73 : decode b_K_init 73 = .ok (.iconst 0, 1) := by decide +kernel
theorem d_K_init_74 : decode b_K_init 74 = .ok (.putfield 44, 3) := by decide +kernel
theorem d_K_init_77 : decode b_K_init 77 = .ok (.aload_n 0, 1) := by decide +kernel
theorem d_K_init_78 : decode b_K_init 78 = .ok (.iconst 0, 1) := by decide +kernel
theorem d_K_init_79 : decode b_K_init 79 = .ok (.putfield 47, 3) := by decide +kernel
theorem d_K_init_82 : decode b_K_init 82 = .ok (.aload_n 0, 1) := by decide +kernel
theorem d_K_init_83 : decode b_K_init 83 = .ok (.iconst 0, 1) := by decide +kernel
theorem d_K_init_84 : decode b_K_init 84 = .ok (.putfield 50, 3) := by decide +kernel
theorem d_K_init_87 : decode b_K_init 87 = .ok (.aload_n 0, 1) := by decide +kernel
theorem d_K_init_88 : decode b_K_init 88 = .ok (.getfield 19, 3) := by decide +kernel
theorem d_K_init_91 : decode b_K_init 91 = .ok (.iconst (-1), 1) := by decide +kernel
theorem d_K_init_92 : decode b_K_init 92 = .ok (.invokestatic 54, 3) := by decide +kernel
theorem d_K_init_95 : decode b_K_init 95 = .ok (.return_, 1) := by decide +kernel
theorem d_K_desk_0 : decode b_K_desk 0 = .ok (.iload_n 1, 1) := by decide +kernel
theorem d_K_desk_1 : decode b_K_desk 1 = .ok (.iconst 1, 1) := by decide +kernel
theorem d_K_desk_2 : decode b_K_desk 2 = .ok (.if_icmp .lt 9, 3) := by decide +kernel
theorem d_K_desk_5 : decode b_K_desk 5 = .ok (.iload_n 1, 1) := by decide +kernel
theorem d_K_desk_6 : decode b_K_desk 6 = .ok (.bipush 12, 2) := by decide +kernel
theorem d_K_desk_8 : decode b_K_desk 8 = .ok (.if_icmp .le 13, 3) := by decide +kernel
theorem d_K_desk_11 : decode b_K_desk 11 = .ok (.new 60, 3) := by decide +kernel
theorem d_K_desk_14 : decode b_K_desk 14 = .ok (.dup, 1) := by decide +kernel
theorem d_K_desk_15 : decode b_K_desk 15 = .ok (.ldc 62, 2) := by decide +kernel
theorem d_K_desk_17 : decode b_K_desk 17 = .ok (.invokespecial 64, 3) := by decide +kernel
theorem d_K_desk_20 : decode b_K_desk 20 = .ok (.athrow, 1) := by decide +kernel
theorem d_K_desk_21 : decode b_K_desk 21 = .ok (.iload_n 2, 1) := by decide +kernel
theorem d_K_desk_22 : decode b_K_desk 22 = .ok (.iconst (-1), 1) := by decide +kernel
theorem d_K_desk_23 : decode b_K_desk 23 = .ok (.if_icmp .lt 8, 3) := by decide +kernel
theorem d_K_desk_26 : decode b_K_desk 26 = .ok (.iload_n 2, 1) := by decide +kernel
theorem d_K_desk_27 : decode b_K_desk 27 = .ok (.iload_n 1, 1) := by decide +kernel
theorem d_K_desk_28 : decode b_K_desk 28 = .ok (.if_icmp .lt 13, 3) := by decide +kernel
theorem d_K_desk_31 : decode b_K_desk 31 = .ok (.new 60, 3) := by decide +kernel
theorem d_K_desk_34 : decode b_K_desk 34 = .ok (.dup, 1) := by decide +kernel
theorem d_K_desk_35 : decode b_K_desk 35 = .ok (.ldc 67, 2) := by decide +kernel
theorem d_K_desk_37 : decode b_K_desk 37 = .ok (.invokespecial 64, 3) := by decide +kernel
theorem d_K_desk_40 : decode b_K_desk 40 = .ok (.athrow, 1) := by decide +kernel
theorem d_K_desk_41 : decode b_K_desk 41 = .ok (.aload_n 0, 1) := by decide +kernel
theorem d_K_desk_42 : decode b_K_desk 42 = .ok (.getfield 50, 3) := by decide +kernel
theorem d_K_desk_45 : decode b_K_desk 45 = .ok (.ifCond .ne 12, 3) := by decide +kernel
theorem d_K_desk_48 : decode b_K_desk 48 = .ok (.aload_n 0, 1) := by decide +kernel
theorem d_K_desk_49 : decode b_K_desk 49 = .ok (.getfield 15, 3) := by decide +kernel
theorem d_K_desk_52 : decode b_K_desk 52 = .ok (.bipush 8, 2) := by decide +kernel
theorem d_K_desk_54 : decode b_K_desk 54 = .ok (.if_icmp .lt 13, 3) := by decide +kernel
theorem d_K_desk_57 : decode b_K_desk 57 = .ok (.new 69, 3) := by decide +kernel
theorem d_K_desk_60 : decode b_K_desk 60 = .ok (.dup, 1) := by decide +kernel
theorem d_K_desk_61 : decode b_K_desk 61 = .ok (.ldc 71, 2) := by decide +kernel
theorem d_K_desk_63 : decode b_K_desk 63 = .ok (.invokespecial 73, 3) := by decide +kernel
theorem d_K_desk_66 : decode b_K_desk 66 = .ok (.athrow, 1) := by decide +kernel
theorem d_K_desk_67 : decode b_K_desk 67 = .ok (.aload_n 0, 1) := by decide +kernel
theorem d_K_desk_68 : decode b_K_desk 68 = .ok (.getfield 15, 3) := by decide +kernel
theorem d_K_desk_71 : decode b_K_desk 71 = .ok (.istore_n 3, 1) := by decide +kernel
theorem d_K_desk_72 : decode b_K_desk 72 = .ok (.aload_n 0, 1) := by decide +kernel
theorem d_K_desk_73 : decode b_K_desk 73 = .ok (.getfield 11, 3) := by decide +kernel
theorem d_K_desk_76 : decode b_K_desk 76 = .ok (.iload_n 3, 1) := by decide +kernel
theorem d_K_desk_77 : decode b_K_desk 77 = .ok (.new 9, 3) := by decide +kernel
theorem d_K_desk_80 : decode b_K_desk 80 = .ok (.dup, 1) := by decide +kernel
theorem d_K_desk_81 : decode b_K_desk 81 = .ok (.iload_n 3, 1) := by decide +kernel
theorem d_K_desk_82 : decode b_K_desk 82 = .ok (.iload_n 1, 1) := by decide +kernel
theorem d_K_desk_83 : decode b_K_desk 83 = .ok (.iload_n 2, 1) := by decide +kernel
theorem d_K_desk_84 : decode b_K_desk 84 = .ok (.invokespecial 74, 3) := by decide +kernel
theorem d_K_desk_87 : decode b_K_desk 87 = .ok (.aastore, 1) := by decide +kernel
theorem d_K_desk_88 : decode b_K_desk 88 = .ok (.aload_n 0, 1) := by decide +kernel
theorem d_K_desk_89 : decode b_K_desk 89 = .ok (.dup, 1) := by decide +kernel
theorem d_K_desk_90 : decode b_K_desk 90 = .ok (.getfield 15, 3) := by decide +kernel
theorem d_K_desk_93 : decode b_K_desk 93 = .ok (.iconst 1, 1) := by decide +kernel
theorem d_K_desk_94 : decode b_K_desk 94 = .ok (.iadd, 1) := by decide +kernel
theorem d_K_desk_95 : decode b_K_desk 95 = .ok (.putfield 15, 3) := by decide +kernel
theorem d_K_desk_98 : decode b_K_desk 98 = .ok (.iload_n 3, 1) := by decide +kernel
theorem d_K_desk_99 : decode b_K_desk 99 = .ok (.ireturn, 1) := by decide +kernel
theorem d_K_needs_0 : decode b_K_needs 0 = .ok (.aload_n 0, 1) := by decide +kernel
theorem d_K_needs_1 : decode b_K_needs 1 = .ok (.iload_n 1, 1) := by decide +kernel
theorem d_K_needs_2 : decode b_K_needs 2 = .ok (.invokevirtual 77, 3) := by decide +kernel
theorem d_K_needs_5 : decode b_K_needs 5 = .ok (.astore 4, 2) := by decide +kernel
theorem d_K_needs_7 : decode b_K_needs 7 = .ok (.aload_n 0, 1) := by decide +kernel
theorem d_K_needs_8 : decode b_K_needs 8 = .ok (.getfield 50, 3) := by decide +kernel
theorem d_K_needs_11 : decode b_K_needs 11 = .ok (.ifCond .ne 15, 3) := by decide +kernel
theorem d_K_needs_14 : decode b_K_needs 14 = .ok (.aload 4, 2) := by decide +kernel
theorem d_K_needs_16 : decode b_K_needs 16 = .ok (.ifnull 10, 3) := by decide +kernel
theorem d_K_needs_19 : decode b_K_needs 19 = .ok (.iload_n 3, 1) := by decide +kernel
theorem d_K_needs_20 : decode b_K_needs 20 = .ok (.invokestatic 81, 3) := by decide +kernel
theorem d_K_needs_23 : decode b_K_needs 23 = .ok (.ifCond .ne 5, 3) := by decide +kernel
theorem d_K_needs_26 : decode b_K_needs 26 = .ok (.iconst 0, 1) := by decide +kernel
theorem d_K_needs_27 : decode b_K_needs 27 = .ok (.ireturn, 1) := by decide +kernel
theorem d_K_needs_28 : decode b_K_needs 28 = .ok (.aload 4, 2) := by decide +kernel
theorem d_K_needs_30 : decode b_K_needs 30 = .ok (.iload_n 2, 1) := by decide +kernel
theorem d_K_needs_31 : decode b_K_needs 31 = .ok (.invokevirtual 85, 3) := by decide +kernel
theorem d_K_needs_34 : decode b_K_needs 34 = .ok (.ifCond .eq 13, 3) := by decide +kernel
theorem d_K_needs_37 : decode b_K_needs 37 = .ok (.aload 4, 2) := by decide +kernel
theorem d_K_needs_39 : decode b_K_needs 39 = .ok (.iload_n 2, 1) := by decide +kernel
theorem d_K_needs_40 : decode b_K_needs 40 = .ok (.iload_n 3, 1) := by decide +kernel
theorem d_K_needs_41 : decode b_K_needs 41 = .ok (.invokevirtual 88, 3) := by decide +kernel
theorem d_K_needs_44 : decode b_K_needs 44 = .ok (.ifCond .eq 5, 3) := by decide +kernel
theorem d_K_needs_47 : decode b_K_needs 47 = .ok (.iconst 0, 1) := by decide +kernel
theorem d_K_needs_48 : decode b_K_needs 48 = .ok (.ireturn, 1) := by decide +kernel
theorem d_K_needs_49 : decode b_K_needs 49 = .ok (.iload_n 2, 1) := by decide +kernel
theorem d_K_needs_50 : decode b_K_needs 50 = .ok (.aload 4, 2) := by decide +kernel
theorem d_K_needs_52 : decode b_K_needs 52 = .ok (.getfield 92, 3) := by decide +kernel
theorem d_K_needs_55 : decode b_K_needs 55 = .ok (.if_icmp .ne 14, 3) := by decide +kernel
theorem d_K_needs_58 : decode b_K_needs 58 = .ok (.aload_n 0, 1) := by decide +kernel
theorem d_K_needs_59 : decode b_K_needs 59 = .ok (.aload 4, 2) := by decide +kernel
theorem d_K_needs_61 : decode b_K_needs 61 = .ok (.invokevirtual 95, 3) := by decide +kernel
theorem d_K_needs_64 : decode b_K_needs 64 = .ok (.ifCond .eq 5, 3) := by decide +kernel
theorem d_K_needs_67 : decode b_K_needs 67 = .ok (.iconst 0, 1) := by decide +kernel
theorem d_K_needs_68 : decode b_K_needs 68 = .ok (.ireturn, 1) := by decide +kernel
theorem d_K_needs_69 : decode b_K_needs 69 = .ok (.aload 4, 2) := by decide +kernel
theorem d_K_needs_71 : decode b_K_needs 71 = .ok (.iload_n 2, 1) := by decide +kernel
theorem d_K_needs_72 : decode b_K_needs 72 = .ok (.iload_n 3, 1) := by decide +kernel
theorem d_K_needs_73 : decode b_K_needs 73 = .ok (.invokevirtual 99, 3) := by decide +kernel
theorem d_K_needs_76 : decode b_K_needs 76 = .ok (.iconst 1, 1) := by decide +kernel
theorem d_K_needs_77 : decode b_K_needs 77 = .ok (.ireturn, 1) := by decide +kernel
theorem d_K_turn_0 : decode b_K_turn 0 = .ok (.aload_n 0, 1) := by decide +kernel
theorem d_K_turn_1 : decode b_K_turn 1 = .ok (.iload_n 1, 1) := by decide +kernel
theorem d_K_turn_2 : decode b_K_turn 2 = .ok (.invokevirtual 77, 3) := by decide +kernel
theorem d_K_turn_5 : decode b_K_turn 5 = .ok (.ifnonnull 13, 3) := by decide +kernel
theorem d_K_turn_8 : decode b_K_turn 8 = .ok (.new 60, 3) := by decide +kernel
theorem d_K_turn_11 : decode b_K_turn 11 = .ok (.dup, 1) := by decide +kernel
theorem d_K_turn_12 : decode b_K_turn 12 = .ok (.ldc 103, 2) := by decide +kernel
theorem d_K_turn_14 : decode b_K_turn 14 = .ok (.invokespecial 64, 3) := by decide +kernel
theorem d_K_turn_17 : decode b_K_turn 17 = .ok (.athrow, 1) := by decide +kernel
theorem d_K_turn_18 : decode b_K_turn 18 = .ok (.aload_n 0, 1) := by decide +kernel
theorem d_K_turn_19 : decode b_K_turn 19 = .ok (.getfield 50, 3) := by decide +kernel
theorem d_K_turn_22 : decode b_K_turn 22 = .ok (.ifCond .ne 13, 3) := by decide +kernel
theorem d_K_turn_25 : decode b_K_turn 25 = .ok (.aload_n 0, 1) := by decide +kernel
theorem d_K_turn_26 : decode b_K_turn 26 = .ok (.getfield 32, 3) := by decide +kernel
theorem d_K_turn_29 : decode b_K_turn 29 = .ok (.sipush 300, 3) := by decide +kernel
theorem d_K_turn_32 : decode b_K_turn 32 = .ok (.if_icmp .lt 13, 3) := by decide +kernel
theorem d_K_turn_35 : decode b_K_turn 35 = .ok (.new 69, 3) := by decide +kernel
theorem d_K_turn_38 : decode b_K_turn 38 = .ok (.dup, 1) := by decide +kernel
theorem d_K_turn_39 : decode b_K_turn 39 = .ok (.ldc 105, 2) := by decide +kernel
theorem d_K_turn_41 : decode b_K_turn 41 = .ok (.invokespecial 73, 3) := by decide +kernel
theorem d_K_turn_44 : decode b_K_turn 44 = .ok (.athrow, 1) := by decide +kernel
theorem d_K_turn_45 : decode b_K_turn 45 = .ok (.aload_n 0, 1) := by decide +kernel
theorem d_K_turn_46 : decode b_K_turn 46 = .ok (.getfield 29, 3) := by decide +kernel
theorem d_K_turn_49 : decode b_K_turn 49 = .ok (.aload_n 0, 1) := by decide +kernel
theorem d_K_turn_50 : decode b_K_turn 50 = .ok (.getfield 32, 3) := by decide +kernel
theorem d_K_turn_53 : decode b_K_turn 53 = .ok (.iload_n 1, 1) := by decide +kernel
theorem d_K_turn_54 : decode b_K_turn 54 = .ok (.iastore, 1) := by decide +kernel
theorem d_K_turn_55 : decode b_K_turn 55 = .ok (.aload_n 0, 1) := by decide +kernel
theorem d_K_turn_56 : decode b_K_turn 56 = .ok (.dup, 1) := by decide +kernel
theorem d_K_turn_57 : decode b_K_turn 57 = .ok (.getfield 32, 3) := by decide +kernel
theorem d_K_turn_60 : decode b_K_turn 60 = .ok (.iconst 1, 1) := by decide +kernel
theorem d_K_turn_61 : decode b_K_turn 61 = .ok (.iadd, 1) := by decide +kernel
theorem d_K_turn_62 : decode b_K_turn 62 = .ok (.putfield 32, 3) := by decide +kernel
theorem d_K_turn_65 : decode b_K_turn 65 = .ok (.aload_n 0, 1) := by decide +kernel
theorem d_K_turn_66 : decode b_K_turn 66 = .ok (.getfield 32, 3) := by decide +kernel
theorem d_K_turn_69 : decode b_K_turn 69 = .ok (.aload_n 0, 1) := by decide +kernel
theorem d_K_turn_70 : decode b_K_turn 70 = .ok (.getfield 35, 3) := by decide +kernel
theorem d_K_turn_73 : decode b_K_turn 73 = .ok (.isub, 1) := by decide +kernel
theorem d_K_turn_74 : decode b_K_turn 74 = .ok (.ireturn, 1) := by decide +kernel
theorem d_K_run_0 : decode b_K_run 0 = .ok (.aload_n 0, 1) := by decide +kernel
theorem d_K_run_1 : decode b_K_run 1 = .ok (.getfield 50, 3) := by decide +kernel
theorem d_K_run_4 : decode b_K_run 4 = .ok (.ifCond .eq 13, 3) := by decide +kernel
theorem d_K_run_7 : decode b_K_run 7 = .ok (.new 69, 3) := by decide +kernel
theorem d_K_run_10 : decode b_K_run 10 = .ok (.dup, 1) := by decide +kernel
theorem d_K_run_11 : decode b_K_run 11 = .ok (.ldc 107, 2) := by decide +kernel
theorem d_K_run_13 : decode b_K_run 13 = .ok (.invokespecial 73, 3) := by decide +kernel
theorem d_K_run_16 : decode b_K_run 16 = .ok (.athrow, 1) := by decide +kernel
theorem d_K_run_17 : decode b_K_run 17 = .ok (.iconst 0, 1) := by decide +kernel
theorem d_K_run_18 : decode b_K_run 18 = .ok (.istore_n 1, 1) := by decide +kernel
theorem d_K_run_19 : decode b_K_run 19 = .ok (.aload_n 0, 1) := by decide +kernel
theorem d_K_run_20 : decode b_K_run 20 = .ok (.getfield 35, 3) := by decide +kernel
theorem d_K_run_23 : decode b_K_run 23 = .ok (.istore_n 2, 1) := by decide +kernel
theorem d_K_run_24 : decode b_K_run 24 = .ok (.iload_n 2, 1) := by decide +kernel
theorem d_K_run_25 : decode b_K_run 25 = .ok (.aload_n 0, 1) := by decide +kernel
theorem d_K_run_26 : decode b_K_run 26 = .ok (.getfield 32, 3) := by decide +kernel
theorem d_K_run_29 : decode b_K_run 29 = .ok (.if_icmp .ge 44, 3) := by decide +kernel
theorem d_K_run_32 : decode b_K_run 32 = .ok (.iload_n 2, 1) := by decide +kernel
theorem d_K_run_33 : decode b_K_run 33 = .ok (.aload_n 0, 1) := by decide +kernel
theorem d_K_run_34 : decode b_K_run 34 = .ok (.getfield 29, 3) := by decide +kernel
theorem d_K_run_37 : decode b_K_run 37 = .ok (.arraylength, 1) := by decide +kernel
theorem d_K_run_38 : decode b_K_run 38 = .ok (.if_icmp .ge 35, 3) := by decide +kernel
theorem d_K_run_41 : decode b_K_run 41 = .ok (.aload_n 0, 1) := by decide +kernel
theorem d_K_run_42 : decode b_K_run 42 = .ok (.aload_n 0, 1) := by decide +kernel
theorem d_K_run_43 : decode b_K_run 43 = .ok (.getfield 29, 3) := by decide +kernel
theorem d_K_run_46 : decode b_K_run 46 = .ok (.iload_n 2, 1) := by decide +kernel
theorem d_K_run_47 : decode b_K_run 47 = .ok (.iaload, 1) := by decide +kernel
theorem d_K_run_48 : decode b_K_run 48 = .ok (.invokevirtual 77, 3) := by decide +kernel
theorem d_K_run_51 : decode b_K_run 51 = .ok (.astore_n 3, 1) := by decide +kernel
theorem d_K_run_52 : decode b_K_run 52 = .ok (.aload_n 3, 1) := by decide +kernel
theorem d_K_run_53 : decode b_K_run 53 = .ok (.ifnull 14, 3) := by decide +kernel
theorem d_K_run_56 : decode b_K_run 56 = .ok (.aload_n 0, 1) := by decide +kernel
theorem d_K_run_57 : decode b_K_run 57 = .ok (.aload_n 3, 1) := by decide +kernel
theorem d_K_run_58 : decode b_K_run 58 = .ok (.invokevirtual 108, 3) := by decide +kernel
theorem d_K_run_61 : decode b_K_run 61 = .ok (.ifCond .eq 6, 3) := by decide +kernel
theorem d_K_run_64 : decode b_K_run 64 = .ok (.iinc 1 1, 3) := by decide +kernel
theorem d_K_run_67 : decode b_K_run 67 = .ok (.iinc 2 1, 3) := by decide +kernel
theorem d_K_run_70 : decode b_K_run 70 = .ok (.goto (-46), 3) := by decide +kernel
theorem d_K_run_73 : decode b_K_run 73 = .ok (.aload_n 0, 1) := by decide +kernel
theorem d_K_run_74 : decode b_K_run 74 = .ok (.aload_n 0, 1) := by decide +kernel
theorem d_K_run_75 : decode b_K_run 75 = .ok (.getfield 32, 3) := by decide +kernel
theorem d_K_run_78 : decode b_K_run 78 = .ok (.putfield 35, 3) := by decide +kernel
theorem d_K_run_81 : decode b_K_run 81 = .ok (.iload_n 1, 1) := by decide +kernel
theorem d_K_run_82 : decode b_K_run 82 = .ok (.ireturn, 1) := by decide +kernel
theorem d_K_log_0 : decode b_K_log 0 = .ok (.iload_n 1, 1) := by decide +kernel
theorem d_K_log_1 : decode b_K_log 1 = .ok (.ifCond .lt 29, 3) := by decide +kernel
theorem d_K_log_4 : decode b_K_log 4 = .ok (.iload_n 1, 1) := by decide +kernel
theorem d_K_log_5 : decode b_K_log 5 = .ok (.aload_n 0, 1) := by decide +kernel
theorem d_K_log_6 : decode b_K_log 6 = .ok (.getfield 44, 3) := by decide +kernel
theorem d_K_log_9 : decode b_K_log 9 = .ok (.if_icmp .ge 21, 3) := by decide +kernel
theorem d_K_log_12 : decode b_K_log 12 = .ok (.iload_n 1, 1) := by decide +kernel
theorem d_K_log_13 : decode b_K_log 13 = .ok (.aload_n 0, 1) := by decide +kernel
theorem d_K_log_14 : decode b_K_log 14 = .ok (.getfield 41, 3) := by decide +kernel
theorem d_K_log_17 : decode b_K_log 17 = .ok (.arraylength, 1) := by decide +kernel
theorem d_K_log_18 : decode b_K_log 18 = .ok (.if_icmp .ge 12, 3) := by decide +kernel
theorem d_K_log_21 : decode b_K_log 21 = .ok (.aload_n 0, 1) := by decide +kernel
theorem d_K_log_22 : decode b_K_log 22 = .ok (.getfield 41, 3) := by decide +kernel
theorem d_K_log_25 : decode b_K_log 25 = .ok (.iload_n 1, 1) := by decide +kernel
theorem d_K_log_26 : decode b_K_log 26 = .ok (.iaload, 1) := by decide +kernel
theorem d_K_log_27 : decode b_K_log 27 = .ok (.goto 4, 3) := by decide +kernel
theorem d_K_log_30 : decode b_K_log 30 = .ok (.iconst (-1), 1) := by decide +kernel
theorem d_K_log_31 : decode b_K_log 31 = .ok (.ireturn, 1) := by decide +kernel
end
section
theorem d_K_holder_0 : decode b_K_holder 0 = .ok (.iload_n 1, 1) := by decide +kernel
theorem d_K_holder_1 : decode b_K_holder 1 = .ok (.invokestatic 81, 3) := by decide +kernel
theorem d_K_holder_4 : decode b_K_holder 4 = .ok (.ifCond .ne 13, 3) := by decide +kernel
theorem d_K_holder_7 : decode b_K_holder 7 = .ok (.new 60, 3) := by decide +kernel
theorem d_K_holder_10 : decode b_K_holder 10 = .ok (.dup, 1) := by decide +kernel
theorem d_K_holder_11 : decode b_K_holder 11 = .ok (.ldc 111, 2) := by decide +kernel
theorem d_K_holder_13 : decode b_K_holder 13 = .ok (.invokespecial 64, 3) := by decide +kernel
theorem d_K_holder_16 : decode b_K_holder 16 = .ok (.athrow, 1) := by decide +kernel
theorem d_K_holder_17 : decode b_K_holder 17 = .ok (.aload_n 0, 1) := by decide +kernel
theorem d_K_holder_18 : decode b_K_holder 18 = .ok (.getfield 19, 3) := by decide +kernel
theorem d_K_holder_21 : decode b_K_holder 21 = .ok (.iload_n 1, 1) := by decide +kernel
theorem d_K_holder_22 : decode b_K_holder 22 = .ok (.iaload, 1) := by decide +kernel
theorem d_K_holder_23 : decode b_K_holder 23 = .ok (.ireturn, 1) := by decide +kernel
theorem d_K_waits_0 : decode b_K_waits 0 = .ok (.iload_n 1, 1) := by decide +kernel
theorem d_K_waits_1 : decode b_K_waits 1 = .ok (.invokestatic 81, 3) := by decide +kernel
theorem d_K_waits_4 : decode b_K_waits 4 = .ok (.ifCond .ne 13, 3) := by decide +kernel
theorem d_K_waits_7 : decode b_K_waits 7 = .ok (.new 60, 3) := by decide +kernel
theorem d_K_waits_10 : decode b_K_waits 10 = .ok (.dup, 1) := by decide +kernel
theorem d_K_waits_11 : decode b_K_waits 11 = .ok (.ldc 111, 2) := by decide +kernel
theorem d_K_waits_13 : decode b_K_waits 13 = .ok (.invokespecial 64, 3) := by decide +kernel
theorem d_K_waits_16 : decode b_K_waits 16 = .ok (.athrow, 1) := by decide +kernel
theorem d_K_waits_17 : decode b_K_waits 17 = .ok (.aload_n 0, 1) := by decide +kernel
theorem d_K_waits_18 : decode b_K_waits 18 = .ok (.iload_n 1, 1) := by decide +kernel
theorem d_K_waits_19 : decode b_K_waits 19 = .ok (.iload_n 2, 1) := by decide +kernel
theorem d_K_waits_20 : decode b_K_waits 20 = .ok (.invokevirtual 113, 3) := by decide +kernel
theorem d_K_waits_23 : decode b_K_waits 23 = .ok (.astore_n 3, 1) := by decide +kernel
theorem d_K_waits_24 : decode b_K_waits 24 = .ok (.aload_n 3, 1) := by decide +kernel
theorem d_K_waits_25 : decode b_K_waits 25 = .ok (.ifnonnull 7, 3) := by decide +kernel
theorem d_K_waits_28 : decode b_K_waits 28 = .ok (.iconst (-1), 1) := by decide +kernel
theorem d_K_waits_29 : decode b_K_waits 29 = .ok (.goto 7, 3) := by decide +kernel
theorem d_K_waits_32 : decode b_K_waits 32 = .ok (.aload_n 3, 1) := by decide +kernel
theorem d_K_waits_33 : decode b_K_waits 33 = .ok (.getfield 117, 3) := by decide +kernel
theorem d_K_waits_36 : decode b_K_waits 36 = .ok (.ireturn, 1) := by decide +kernel
theorem d_K_interrupt_0 : decode b_K_interrupt 0 = .ok (.aload_n 0, 1) := by decide +kernel
theorem d_K_interrupt_1 : decode b_K_interrupt 1 = .ok (.iload_n 1, 1) := by decide +kernel
theorem d_K_interrupt_2 : decode b_K_interrupt 2 = .ok (.invokevirtual 77, 3) := by decide +kernel
theorem d_K_interrupt_5 : decode b_K_interrupt 5 = .ok (.astore_n 2, 1) := by decide +kernel
theorem d_K_interrupt_6 : decode b_K_interrupt 6 = .ok (.aload_n 2, 1) := by decide +kernel
theorem d_K_interrupt_7 : decode b_K_interrupt 7 = .ok (.ifnull 11, 3) := by decide +kernel
theorem d_K_interrupt_10 : decode b_K_interrupt 10 = .ok (.aload_n 2, 1) := by decide +kernel
theorem d_K_interrupt_11 : decode b_K_interrupt 11 = .ok (.getfield 120, 3) := by decide +kernel
theorem d_K_interrupt_14 : decode b_K_interrupt 14 = .ok (.iconst (-1), 1) := by decide +kernel
theorem d_K_interrupt_15 : decode b_K_interrupt 15 = .ok (.if_icmp .ne 5, 3) := by decide +kernel
theorem d_K_interrupt_18 : decode b_K_interrupt 18 = .ok (.iconst 0, 1) := by decide +kernel
theorem d_K_interrupt_19 : decode b_K_interrupt 19 = .ok (.ireturn, 1) := by decide +kernel
theorem d_K_interrupt_20 : decode b_K_interrupt 20 = .ok (.aload_n 2, 1) := by decide +kernel
theorem d_K_interrupt_21 : decode b_K_interrupt 21 = .ok (.iconst (-1), 1) := by decide +kernel
theorem d_K_interrupt_22 : decode b_K_interrupt 22 = .ok (.putfield 120, 3) := by decide +kernel
theorem d_K_interrupt_25 : decode b_K_interrupt 25 = .ok (.aload_n 0, 1) := by decide +kernel
theorem d_K_interrupt_26 : decode b_K_interrupt 26 = .ok (.aload_n 2, 1) := by decide +kernel
theorem d_K_interrupt_27 : decode b_K_interrupt 27 = .ok (.invokevirtual 123, 3) := by decide +kernel
theorem d_K_interrupt_30 : decode b_K_interrupt 30 = .ok (.aload_n 0, 1) := by decide +kernel
theorem d_K_interrupt_31 : decode b_K_interrupt 31 = .ok (.iconst 3, 1) := by decide +kernel
theorem d_K_interrupt_32 : decode b_K_interrupt 32 = .ok (.aload_n 2, 1) := by decide +kernel
theorem d_K_interrupt_33 : decode b_K_interrupt 33 = .ok (.invokevirtual 127, 3) := by decide +kernel
theorem d_K_interrupt_36 : decode b_K_interrupt 36 = .ok (.aload_n 2, 1) := by decide +kernel
theorem d_K_interrupt_37 : decode b_K_interrupt 37 = .ok (.dup, 1) := by decide +kernel
theorem d_K_interrupt_38 : decode b_K_interrupt 38 = .ok (.getfield 92, 3) := by decide +kernel
theorem d_K_interrupt_41 : decode b_K_interrupt 41 = .ok (.iconst 1, 1) := by decide +kernel
theorem d_K_interrupt_42 : decode b_K_interrupt 42 = .ok (.iadd, 1) := by decide +kernel
theorem d_K_interrupt_43 : decode b_K_interrupt 43 = .ok (.putfield 92, 3) := by decide +kernel
theorem d_K_interrupt_46 : decode b_K_interrupt 46 = .ok (.iconst 1, 1) := by decide +kernel
theorem d_K_interrupt_47 : decode b_K_interrupt 47 = .ok (.ireturn, 1) := by decide +kernel
theorem d_K_dead_0 : decode b_K_dead 0 = .ok (.aload_n 0, 1) := by decide +kernel
theorem d_K_dead_1 : decode b_K_dead 1 = .ok (.iload_n 1, 1) := by decide +kernel
theorem d_K_dead_2 : decode b_K_dead 2 = .ok (.invokevirtual 77, 3) := by decide +kernel
theorem d_K_dead_5 : decode b_K_dead 5 = .ok (.astore_n 2, 1) := by decide +kernel
theorem d_K_dead_6 : decode b_K_dead 6 = .ok (.aload_n 2, 1) := by decide +kernel
theorem d_K_dead_7 : decode b_K_dead 7 = .ok (.ifnonnull 13, 3) := by decide +kernel
theorem d_K_dead_10 : decode b_K_dead 10 = .ok (.new 60, 3) := by decide +kernel
theorem d_K_dead_13 : decode b_K_dead 13 = .ok (.dup, 1) := by decide +kernel
theorem d_K_dead_14 : decode b_K_dead 14 = .ok (.ldc 103, 2) := by decide +kernel
theorem d_K_dead_16 : decode b_K_dead 16 = .ok (.invokespecial 64, 3) := by decide +kernel
theorem d_K_dead_19 : decode b_K_dead 19 = .ok (.athrow, 1) := by decide +kernel
theorem d_K_dead_20 : decode b_K_dead 20 = .ok (.aload_n 2, 1) := by decide +kernel
theorem d_K_dead_21 : decode b_K_dead 21 = .ok (.invokestatic 131, 3) := by decide +kernel
theorem d_K_dead_24 : decode b_K_dead 24 = .ok (.ifCond .ne 5, 3) := by decide +kernel
theorem d_K_dead_27 : decode b_K_dead 27 = .ok (.iconst (-1), 1) := by decide +kernel
theorem d_K_dead_28 : decode b_K_dead 28 = .ok (.ireturn, 1) := by decide +kernel
theorem d_K_dead_29 : decode b_K_dead 29 = .ok (.aload_n 2, 1) := by decide +kernel
theorem d_K_dead_30 : decode b_K_dead 30 = .ok (.iconst (-1), 1) := by decide +kernel
theorem d_K_dead_31 : decode b_K_dead 31 = .ok (.putfield 120, 3) := by decide +kernel
theorem d_K_dead_34 : decode b_K_dead 34 = .ok (.aload_n 2, 1) := by decide +kernel
theorem d_K_dead_35 : decode b_K_dead 35 = .ok (.iconst 1, 1) := by decide +kernel
theorem d_K_dead_36 : decode b_K_dead 36 = .ok (.putfield 134, 3) := by decide +kernel
theorem d_K_dead_39 : decode b_K_dead 39 = .ok (.aload_n 0, 1) := by decide +kernel
theorem d_K_dead_40 : decode b_K_dead 40 = .ok (.aload_n 2, 1) := by decide +kernel
theorem d_K_dead_41 : decode b_K_dead 41 = .ok (.invokevirtual 137, 3) := by decide +kernel
theorem d_K_dead_44 : decode b_K_dead 44 = .ok (.invokestatic 141, 3) := by decide +kernel
theorem d_K_dead_47 : decode b_K_dead 47 = .ok (.ireturn, 1) := by decide +kernel
theorem d_K_tick_0 : decode b_K_tick 0 = .ok (.iload_n 1, 1) := by decide +kernel
theorem d_K_tick_1 : decode b_K_tick 1 = .ok (.aload_n 0, 1) := by decide +kernel
theorem d_K_tick_2 : decode b_K_tick 2 = .ok (.getfield 47, 3) := by decide +kernel
theorem d_K_tick_5 : decode b_K_tick 5 = .ok (.if_icmp .lt 9, 3) := by decide +kernel
theorem d_K_tick_8 : decode b_K_tick 8 = .ok (.iload_n 1, 1) := by decide +kernel
theorem d_K_tick_9 : decode b_K_tick 9 = .ok (.ldc 147, 2) := by decide +kernel
theorem d_K_tick_11 : decode b_K_tick 11 = .ok (.if_icmp .le 13, 3) := by decide +kernel
theorem d_K_tick_14 : decode b_K_tick 14 = .ok (.new 60, 3) := by decide +kernel
theorem d_K_tick_17 : decode b_K_tick 17 = .ok (.dup, 1) := by decide +kernel
theorem d_K_tick_18 : decode b_K_tick 18 = .ok (.ldc 148, 2) := by decide +kernel
theorem d_K_tick_20 : decode b_K_tick 20 = .ok (.invokespecial 64, 3) := by decide +kernel
theorem d_K_tick_23 : decode b_K_tick 23 = .ok (.athrow, 1) := by decide +kernel
theorem d_K_tick_24 : decode b_K_tick 24 = .ok (.aload_n 0, 1) := by decide +kernel
theorem d_K_tick_25 : decode b_K_tick 25 = .ok (.iload_n 1, 1) := by decide +kernel
theorem d_K_tick_26 : decode b_K_tick 26 = .ok (.putfield 47, 3) := by decide +kernel
theorem d_K_tick_29 : decode b_K_tick 29 = .ok (.iconst 0, 1) := by decide +kernel
theorem d_K_tick_30 : decode b_K_tick 30 = .ok (.istore_n 2, 1) := by decide +kernel
theorem d_K_tick_31 : decode b_K_tick 31 = .ok (.iconst 0, 1) := by decide +kernel
theorem d_K_tick_32 : decode b_K_tick 32 = .ok (.istore_n 3, 1) := by decide +kernel
theorem d_K_tick_33 : decode b_K_tick 33 = .ok (.iload_n 3, 1) := by decide +kernel
theorem d_K_tick_34 : decode b_K_tick 34 = .ok (.bipush 16, 2) := by decide +kernel
theorem d_K_tick_36 : decode b_K_tick 36 = .ok (.if_icmp .ge 25, 3) := by decide +kernel
theorem d_K_tick_39 : decode b_K_tick 39 = .ok (.aload_n 0, 1) := by decide +kernel
theorem d_K_tick_40 : decode b_K_tick 40 = .ok (.iload_n 3, 1) := by decide +kernel
theorem d_K_tick_41 : decode b_K_tick 41 = .ok (.invokevirtual 150, 3) := by decide +kernel
theorem d_K_tick_44 : decode b_K_tick 44 = .ok (.ifCond .eq 11, 3) := by decide +kernel
theorem d_K_tick_47 : decode b_K_tick 47 = .ok (.aload_n 0, 1) := by decide +kernel
theorem d_K_tick_48 : decode b_K_tick 48 = .ok (.iload_n 3, 1) := by decide +kernel
theorem d_K_tick_49 : decode b_K_tick 49 = .ok (.invokevirtual 153, 3) := by decide +kernel
theorem d_K_tick_52 : decode b_K_tick 52 = .ok (.iinc 2 1, 3) := by decide +kernel
theorem d_K_tick_55 : decode b_K_tick 55 = .ok (.iinc 3 1, 3) := by decide +kernel
theorem d_K_tick_58 : decode b_K_tick 58 = .ok (.goto (-25), 3) := by decide +kernel
theorem d_K_tick_61 : decode b_K_tick 61 = .ok (.iload_n 2, 1) := by decide +kernel
theorem d_K_tick_62 : decode b_K_tick 62 = .ok (.ireturn, 1) := by decide +kernel
theorem d_K_close_0 : decode b_K_close 0 = .ok (.aload_n 0, 1) := by decide +kernel
theorem d_K_close_1 : decode b_K_close 1 = .ok (.getfield 50, 3) := by decide +kernel
theorem d_K_close_4 : decode b_K_close 4 = .ok (.ifCond .eq 5, 3) := by decide +kernel
theorem d_K_close_7 : decode b_K_close 7 = .ok (.iconst (-1), 1) := by decide +kernel
theorem d_K_close_8 : decode b_K_close 8 = .ok (.ireturn, 1) := by decide +kernel
theorem d_K_close_9 : decode b_K_close 9 = .ok (.aload_n 0, 1) := by decide +kernel
theorem d_K_close_10 : decode b_K_close 10 = .ok (.iconst 1, 1) := by decide +kernel
theorem d_K_close_11 : decode b_K_close 11 = .ok (.putfield 50, 3) := by decide +kernel
theorem d_K_close_14 : decode b_K_close 14 = .ok (.iconst 0, 1) := by decide +kernel
theorem d_K_close_15 : decode b_K_close 15 = .ok (.istore_n 1, 1) := by decide +kernel
theorem d_K_close_16 : decode b_K_close 16 = .ok (.iconst 0, 1) := by decide +kernel
theorem d_K_close_17 : decode b_K_close 17 = .ok (.istore_n 2, 1) := by decide +kernel
theorem d_K_close_18 : decode b_K_close 18 = .ok (.iload_n 2, 1) := by decide +kernel
theorem d_K_close_19 : decode b_K_close 19 = .ok (.aload_n 0, 1) := by decide +kernel
theorem d_K_close_20 : decode b_K_close 20 = .ok (.getfield 15, 3) := by decide +kernel
theorem d_K_close_23 : decode b_K_close 23 = .ok (.if_icmp .ge 45, 3) := by decide +kernel
theorem d_K_close_26 : decode b_K_close 26 = .ok (.iload_n 2, 1) := by decide +kernel
theorem d_K_close_27 : decode b_K_close 27 = .ok (.aload_n 0, 1) := by decide +kernel
theorem d_K_close_28 : decode b_K_close 28 = .ok (.getfield 11, 3) := by decide +kernel
theorem d_K_close_31 : decode b_K_close 31 = .ok (.arraylength, 1) := by decide +kernel
theorem d_K_close_32 : decode b_K_close 32 = .ok (.if_icmp .ge 36, 3) := by decide +kernel
theorem d_K_close_35 : decode b_K_close 35 = .ok (.aload_n 0, 1) := by decide +kernel
theorem d_K_close_36 : decode b_K_close 36 = .ok (.getfield 11, 3) := by decide +kernel
theorem d_K_close_39 : decode b_K_close 39 = .ok (.iload_n 2, 1) := by decide +kernel
theorem d_K_close_40 : decode b_K_close 40 = .ok (.aaload, 1) := by decide +kernel
theorem d_K_close_41 : decode b_K_close 41 = .ok (.astore_n 3, 1) := by decide +kernel
theorem d_K_close_42 : decode b_K_close 42 = .ok (.aload_n 3, 1) := by decide +kernel
theorem d_K_close_43 : decode b_K_close 43 = .ok (.ifnull 19, 3) := by decide +kernel
theorem d_K_close_46 : decode b_K_close 46 = .ok (.aload_n 3, 1) := by decide +kernel
theorem d_K_close_47 : decode b_K_close 47 = .ok (.invokevirtual 157, 3) := by decide +kernel
theorem d_K_close_50 : decode b_K_close 50 = .ok (.iconst 2, 1) := by decide +kernel
theorem d_K_close_51 : decode b_K_close 51 = .ok (.if_icmp .eq 11, 3) := by decide +kernel
theorem d_K_close_54 : decode b_K_close 54 = .ok (.aload_n 0, 1) := by decide +kernel
theorem d_K_close_55 : decode b_K_close 55 = .ok (.aload_n 3, 1) := by decide +kernel
theorem d_K_close_56 : decode b_K_close 56 = .ok (.invokevirtual 161, 3) := by decide +kernel
theorem d_K_close_59 : decode b_K_close 59 = .ok (.iinc 1 1, 3) := by decide +kernel
theorem d_K_close_62 : decode b_K_close 62 = .ok (.iinc 2 1, 3) := by decide +kernel
theorem d_K_close_65 : decode b_K_close 65 = .ok (.goto (-47), 3) := by decide +kernel
theorem d_K_close_68 : decode b_K_close 68 = .ok (.iload_n 1, 1) := by decide +kernel
theorem d_K_close_69 : decode b_K_close 69 = .ok (.ireturn, 1) := by decide +kernel
theorem d_K_look_0 : decode b_K_look 0 = .ok (.aload_n 0, 1) := by decide +kernel
theorem d_K_look_1 : decode b_K_look 1 = .ok (.iload_n 1, 1) := by decide +kernel
theorem d_K_look_2 : decode b_K_look 2 = .ok (.invokevirtual 77, 3) := by decide +kernel
theorem d_K_look_5 : decode b_K_look 5 = .ok (.astore_n 3, 1) := by decide +kernel
theorem d_K_look_6 : decode b_K_look 6 = .ok (.aload_n 3, 1) := by decide +kernel
theorem d_K_look_7 : decode b_K_look 7 = .ok (.ifnonnull 13, 3) := by decide +kernel
theorem d_K_look_10 : decode b_K_look 10 = .ok (.new 164, 3) := by decide +kernel
theorem d_K_look_13 : decode b_K_look 13 = .ok (.dup, 1) := by decide +kernel
theorem d_K_look_14 : decode b_K_look 14 = .ok (.ldc 103, 2) := by decide +kernel
theorem d_K_look_16 : decode b_K_look 16 = .ok (.invokespecial 166, 3) := by decide +kernel
theorem d_K_look_19 : decode b_K_look 19 = .ok (.athrow, 1) := by decide +kernel
theorem d_K_look_20 : decode b_K_look 20 = .ok (.iload_n 2, 1) := by decide +kernel
theorem d_K_look_21 : decode b_K_look 21 = .ok (.tableswitch 61 0 4 #[35, 40, 45, 50, 56], 35) := by decide +kernel
theorem d_K_look_56 : decode b_K_look 56 = .ok (.aload_n 3, 1) := by decide +kernel
theorem d_K_look_57 : decode b_K_look 57 = .ok (.getfield 92, 3) := by decide +kernel
theorem d_K_look_60 : decode b_K_look 60 = .ok (.ireturn, 1) := by decide +kernel
theorem d_K_look_61 : decode b_K_look 61 = .ok (.aload_n 3, 1) := by decide +kernel
theorem d_K_look_62 : decode b_K_look 62 = .ok (.getfield 167, 3) := by decide +kernel
theorem d_K_look_65 : decode b_K_look 65 = .ok (.ireturn, 1) := by decide +kernel
theorem d_K_look_66 : decode b_K_look 66 = .ok (.aload_n 3, 1) := by decide +kernel
theorem d_K_look_67 : decode b_K_look 67 = .ok (.invokevirtual 157, 3) := by decide +kernel
theorem d_K_look_70 : decode b_K_look 70 = .ok (.ireturn, 1) := by decide +kernel
theorem d_K_look_71 : decode b_K_look 71 = .ok (.aload_n 0, 1) := by decide +kernel
theorem d_K_look_72 : decode b_K_look 72 = .ok (.aload_n 3, 1) := by decide +kernel
theorem d_K_look_73 : decode b_K_look 73 = .ok (.invokevirtual 137, 3) := by decide +kernel
theorem d_K_look_76 : decode b_K_look 76 = .ok (.ireturn, 1) := by decide +kernel
theorem d_K_look_77 : decode b_K_look 77 = .ok (.aload_n 3, 1) := by decide +kernel
theorem d_K_look_78 : decode b_K_look 78 = .ok (.getfield 120, 3) := by decide +kernel
theorem d_K_look_81 : decode b_K_look 81 = .ok (.ireturn, 1) := by decide +kernel
theorem d_K_look_82 : decode b_K_look 82 = .ok (.new 164, 3) := by decide +kernel
theorem d_K_look_85 : decode b_K_look 85 = .ok (.dup, 1) := by decide +kernel
theorem d_K_look_86 : decode b_K_look 86 = .ok (.ldc 170, 2) := by decide +kernel
theorem d_K_look_88 : decode b_K_look 88 = .ok (.invokespecial 166, 3) := by decide +kernel
theorem d_K_look_91 : decode b_K_look 91 = .ok (.athrow, 1) := by decide +kernel
theorem d_K_count_0 : decode b_K_count 0 = .ok (.iload_n 1, 1) := by decide +kernel
theorem d_K_count_1 : decode b_K_count 1 = .ok (.tableswitch 86 0 6 #[43, 48, 53, 58, 63, 68, 81], 43) := by decide +kernel
theorem d_K_count_44 : decode b_K_count 44 = .ok (.aload_n 0, 1) := by decide +kernel
theorem d_K_count_45 : decode b_K_count 45 = .ok (.getfield 15, 3) := by decide +kernel
theorem d_K_count_48 : decode b_K_count 48 = .ok (.ireturn, 1) := by decide +kernel
theorem d_K_count_49 : decode b_K_count 49 = .ok (.aload_n 0, 1) := by decide +kernel
theorem d_K_count_50 : decode b_K_count 50 = .ok (.getfield 44, 3) := by decide +kernel
theorem d_K_count_53 : decode b_K_count 53 = .ok (.ireturn, 1) := by decide +kernel
theorem d_K_count_54 : decode b_K_count 54 = .ok (.aload_n 0, 1) := by decide +kernel
theorem d_K_count_55 : decode b_K_count 55 = .ok (.getfield 32, 3) := by decide +kernel
theorem d_K_count_58 : decode b_K_count 58 = .ok (.ireturn, 1) := by decide +kernel
theorem d_K_count_59 : decode b_K_count 59 = .ok (.aload_n 0, 1) := by decide +kernel
theorem d_K_count_60 : decode b_K_count 60 = .ok (.getfield 38, 3) := by decide +kernel
theorem d_K_count_63 : decode b_K_count 63 = .ok (.ireturn, 1) := by decide +kernel
theorem d_K_count_64 : decode b_K_count 64 = .ok (.aload_n 0, 1) := by decide +kernel
theorem d_K_count_65 : decode b_K_count 65 = .ok (.getfield 47, 3) := by decide +kernel
theorem d_K_count_68 : decode b_K_count 68 = .ok (.ireturn, 1) := by decide +kernel
theorem d_K_count_69 : decode b_K_count 69 = .ok (.aload_n 0, 1) := by decide +kernel
theorem d_K_count_70 : decode b_K_count 70 = .ok (.getfield 50, 3) := by decide +kernel
theorem d_K_count_73 : decode b_K_count 73 = .ok (.ifCond .eq 7, 3) := by decide +kernel
theorem d_K_count_76 : decode b_K_count 76 = .ok (.iconst 1, 1) := by decide +kernel
theorem d_K_count_77 : decode b_K_count 77 = .ok (.goto 4, 3) := by decide +kernel
theorem d_K_count_80 : decode b_K_count 80 = .ok (.iconst 0, 1) := by decide +kernel
theorem d_K_count_81 : decode b_K_count 81 = .ok (.ireturn, 1) := by decide +kernel
theorem d_K_count_82 : decode b_K_count 82 = .ok (.aload_n 0, 1) := by decide +kernel
theorem d_K_count_83 : decode b_K_count 83 = .ok (.invokevirtual 172, 3) := by decide +kernel
theorem d_K_count_86 : decode b_K_count 86 = .ok (.ireturn, 1) := by decide +kernel
theorem d_K_count_87 : decode b_K_count 87 = .ok (.iconst (-1), 1) := by decide +kernel
theorem d_K_count_88 : decode b_K_count 88 = .ok (.ireturn, 1) := by decide +kernel
theorem d_K_deskAt_0 : decode b_K_deskAt 0 = .ok (.iload_n 1, 1) := by decide +kernel
theorem d_K_deskAt_1 : decode b_K_deskAt 1 = .ok (.ifCond .lt 29, 3) := by decide +kernel
theorem d_K_deskAt_4 : decode b_K_deskAt 4 = .ok (.iload_n 1, 1) := by decide +kernel
theorem d_K_deskAt_5 : decode b_K_deskAt 5 = .ok (.aload_n 0, 1) := by decide +kernel
theorem d_K_deskAt_6 : decode b_K_deskAt 6 = .ok (.getfield 15, 3) := by decide +kernel
theorem d_K_deskAt_9 : decode b_K_deskAt 9 = .ok (.if_icmp .ge 21, 3) := by decide +kernel
theorem d_K_deskAt_12 : decode b_K_deskAt 12 = .ok (.iload_n 1, 1) := by decide +kernel
theorem d_K_deskAt_13 : decode b_K_deskAt 13 = .ok (.aload_n 0, 1) := by decide +kernel
theorem d_K_deskAt_14 : decode b_K_deskAt 14 = .ok (.getfield 11, 3) := by decide +kernel
theorem d_K_deskAt_17 : decode b_K_deskAt 17 = .ok (.arraylength, 1) := by decide +kernel
theorem d_K_deskAt_18 : decode b_K_deskAt 18 = .ok (.if_icmp .ge 12, 3) := by decide +kernel
theorem d_K_deskAt_21 : decode b_K_deskAt 21 = .ok (.aload_n 0, 1) := by decide +kernel
theorem d_K_deskAt_22 : decode b_K_deskAt 22 = .ok (.getfield 11, 3) := by decide +kernel
theorem d_K_deskAt_25 : decode b_K_deskAt 25 = .ok (.iload_n 1, 1) := by decide +kernel
theorem d_K_deskAt_26 : decode b_K_deskAt 26 = .ok (.aaload, 1) := by decide +kernel
theorem d_K_deskAt_27 : decode b_K_deskAt 27 = .ok (.goto 4, 3) := by decide +kernel
theorem d_K_deskAt_30 : decode b_K_deskAt 30 = .ok (.aconst_null, 1) := by decide +kernel
theorem d_K_deskAt_31 : decode b_K_deskAt 31 = .ok (.areturn, 1) := by decide +kernel
end
section
theorem d_K_isSubject_0 : decode b_K_isSubject 0 = .ok (.iload_n 0, 1) := by decide +kernel
theorem d_K_isSubject_1 : decode b_K_isSubject 1 = .ok (.ifCond .lt 13, 3) := by decide +kernel
theorem d_K_isSubject_4 : decode b_K_isSubject 4 = .ok (.iload_n 0, 1) := by decide +kernel
theorem d_K_isSubject_5 : decode b_K_isSubject 5 = .ok (.bipush 16, 2) := by decide +kernel
theorem d_K_isSubject_7 : decode b_K_isSubject 7 = .ok (.if_icmp .ge 7, 3) := by decide +kernel
theorem d_K_isSubject_10 : decode b_K_isSubject 10 = .ok (.iconst 1, 1) := by decide +kernel
theorem d_K_isSubject_11 : decode b_K_isSubject 11 = .ok (.goto 4, 3) := by decide +kernel
theorem d_K_isSubject_14 : decode b_K_isSubject 14 = .ok (.iconst 0, 1) := by decide +kernel
theorem d_K_isSubject_15 : decode b_K_isSubject 15 = .ok (.ireturn, 1) := by decide +kernel
theorem d_K_isAlive_0 : decode b_K_isAlive 0 = .ok (.aload_n 0, 1) := by decide +kernel
theorem d_K_isAlive_1 : decode b_K_isAlive 1 = .ok (.invokevirtual 157, 3) := by decide +kernel
theorem d_K_isAlive_4 : decode b_K_isAlive 4 = .ok (.istore_n 1, 1) := by decide +kernel
theorem d_K_isAlive_5 : decode b_K_isAlive 5 = .ok (.iload_n 1, 1) := by decide +kernel
theorem d_K_isAlive_6 : decode b_K_isAlive 6 = .ok (.ifCond .eq 8, 3) := by decide +kernel
theorem d_K_isAlive_9 : decode b_K_isAlive 9 = .ok (.iload_n 1, 1) := by decide +kernel
theorem d_K_isAlive_10 : decode b_K_isAlive 10 = .ok (.iconst 1, 1) := by decide +kernel
theorem d_K_isAlive_11 : decode b_K_isAlive 11 = .ok (.if_icmp .ne 7, 3) := by decide +kernel
theorem d_K_isAlive_14 : decode b_K_isAlive 14 = .ok (.iconst 1, 1) := by decide +kernel
theorem d_K_isAlive_15 : decode b_K_isAlive 15 = .ok (.goto 4, 3) := by decide +kernel
theorem d_K_isAlive_18 : decode b_K_isAlive 18 = .ok (.iconst 0, 1) := by decide +kernel
theorem d_K_isAlive_19 : decode b_K_isAlive 19 = .ok (.ireturn, 1) := by decide +kernel
theorem d_K_isInTheMidst_0 : decode b_K_isInTheMidst 0 = .ok (.aload_n 1, 1) := by decide +kernel
theorem d_K_isInTheMidst_1 : decode b_K_isInTheMidst 1 = .ok (.getfield 120, 3) := by decide +kernel
theorem d_K_isInTheMidst_4 : decode b_K_isInTheMidst 4 = .ok (.iconst (-1), 1) := by decide +kernel
theorem d_K_isInTheMidst_5 : decode b_K_isInTheMidst 5 = .ok (.if_icmp .ne 11, 3) := by decide +kernel
theorem d_K_isInTheMidst_8 : decode b_K_isInTheMidst 8 = .ok (.aload_n 0, 1) := by decide +kernel
theorem d_K_isInTheMidst_9 : decode b_K_isInTheMidst 9 = .ok (.aload_n 1, 1) := by decide +kernel
theorem d_K_isInTheMidst_10 : decode b_K_isInTheMidst 10 = .ok (.invokevirtual 137, 3) := by decide +kernel
theorem d_K_isInTheMidst_13 : decode b_K_isInTheMidst 13 = .ok (.ifCond .eq 7, 3) := by decide +kernel
theorem d_K_isInTheMidst_16 : decode b_K_isInTheMidst 16 = .ok (.iconst 1, 1) := by decide +kernel
theorem d_K_isInTheMidst_17 : decode b_K_isInTheMidst 17 = .ok (.goto 4, 3) := by decide +kernel
theorem d_K_isInTheMidst_20 : decode b_K_isInTheMidst 20 = .ok (.iconst 0, 1) := by decide +kernel
theorem d_K_isInTheMidst_21 : decode b_K_isInTheMidst 21 = .ok (.ireturn, 1) := by decide +kernel
theorem d_K_heldBy_0 : decode b_K_heldBy 0 = .ok (.iconst 0, 1) := by decide +kernel
theorem d_K_heldBy_1 : decode b_K_heldBy 1 = .ok (.istore_n 2, 1) := by decide +kernel
theorem d_K_heldBy_2 : decode b_K_heldBy 2 = .ok (.iconst 0, 1) := by decide +kernel
theorem d_K_heldBy_3 : decode b_K_heldBy 3 = .ok (.istore_n 3, 1) := by decide +kernel
theorem d_K_heldBy_4 : decode b_K_heldBy 4 = .ok (.iload_n 3, 1) := by decide +kernel
theorem d_K_heldBy_5 : decode b_K_heldBy 5 = .ok (.bipush 16, 2) := by decide +kernel
theorem d_K_heldBy_7 : decode b_K_heldBy 7 = .ok (.if_icmp .ge 28, 3) := by decide +kernel
theorem d_K_heldBy_10 : decode b_K_heldBy 10 = .ok (.aload_n 0, 1) := by decide +kernel
theorem d_K_heldBy_11 : decode b_K_heldBy 11 = .ok (.getfield 19, 3) := by decide +kernel
theorem d_K_heldBy_14 : decode b_K_heldBy 14 = .ok (.iload_n 3, 1) := by decide +kernel
theorem d_K_heldBy_15 : decode b_K_heldBy 15 = .ok (.iaload, 1) := by decide +kernel
theorem d_K_heldBy_16 : decode b_K_heldBy 16 = .ok (.aload_n 1, 1) := by decide +kernel
theorem d_K_heldBy_17 : decode b_K_heldBy 17 = .ok (.getfield 117, 3) := by decide +kernel
theorem d_K_heldBy_20 : decode b_K_heldBy 20 = .ok (.if_icmp .ne 9, 3) := by decide +kernel
theorem d_K_heldBy_23 : decode b_K_heldBy 23 = .ok (.iload_n 2, 1) := by decide +kernel
theorem d_K_heldBy_24 : decode b_K_heldBy 24 = .ok (.iconst 1, 1) := by decide +kernel
theorem d_K_heldBy_25 : decode b_K_heldBy 25 = .ok (.iload_n 3, 1) := by decide +kernel
theorem d_K_heldBy_26 : decode b_K_heldBy 26 = .ok (.ishl, 1) := by decide +kernel
theorem d_K_heldBy_27 : decode b_K_heldBy 27 = .ok (.ior, 1) := by decide +kernel
theorem d_K_heldBy_28 : decode b_K_heldBy 28 = .ok (.istore_n 2, 1) := by decide +kernel
theorem d_K_heldBy_29 : decode b_K_heldBy 29 = .ok (.iinc 3 1, 3) := by decide +kernel
theorem d_K_heldBy_32 : decode b_K_heldBy 32 = .ok (.goto (-28), 3) := by decide +kernel
theorem d_K_heldBy_35 : decode b_K_heldBy 35 = .ok (.iload_n 2, 1) := by decide +kernel
theorem d_K_heldBy_36 : decode b_K_heldBy 36 = .ok (.ireturn, 1) := by decide +kernel
theorem d_K_subjectsHeld_0 : decode b_K_subjectsHeld 0 = .ok (.iconst 0, 1) := by decide +kernel
theorem d_K_subjectsHeld_1 : decode b_K_subjectsHeld 1 = .ok (.istore_n 1, 1) := by decide +kernel
theorem d_K_subjectsHeld_2 : decode b_K_subjectsHeld 2 = .ok (.iconst 0, 1) := by decide +kernel
theorem d_K_subjectsHeld_3 : decode b_K_subjectsHeld 3 = .ok (.istore_n 2, 1) := by decide +kernel
theorem d_K_subjectsHeld_4 : decode b_K_subjectsHeld 4 = .ok (.iload_n 2, 1) := by decide +kernel
theorem d_K_subjectsHeld_5 : decode b_K_subjectsHeld 5 = .ok (.bipush 16, 2) := by decide +kernel
theorem d_K_subjectsHeld_7 : decode b_K_subjectsHeld 7 = .ok (.if_icmp .ge 22, 3) := by decide +kernel
theorem d_K_subjectsHeld_10 : decode b_K_subjectsHeld 10 = .ok (.aload_n 0, 1) := by decide +kernel
theorem d_K_subjectsHeld_11 : decode b_K_subjectsHeld 11 = .ok (.getfield 19, 3) := by decide +kernel
theorem d_K_subjectsHeld_14 : decode b_K_subjectsHeld 14 = .ok (.iload_n 2, 1) := by decide +kernel
theorem d_K_subjectsHeld_15 : decode b_K_subjectsHeld 15 = .ok (.iaload, 1) := by decide +kernel
theorem d_K_subjectsHeld_16 : decode b_K_subjectsHeld 16 = .ok (.iconst (-1), 1) := by decide +kernel
theorem d_K_subjectsHeld_17 : decode b_K_subjectsHeld 17 = .ok (.if_icmp .eq 6, 3) := by decide +kernel
theorem d_K_subjectsHeld_20 : decode b_K_subjectsHeld 20 = .ok (.iinc 1 1, 3) := by decide +kernel
theorem d_K_subjectsHeld_23 : decode b_K_subjectsHeld 23 = .ok (.iinc 2 1, 3) := by decide +kernel
theorem d_K_subjectsHeld_26 : decode b_K_subjectsHeld 26 = .ok (.goto (-22), 3) := by decide +kernel
theorem d_K_subjectsHeld_29 : decode b_K_subjectsHeld 29 = .ok (.iload_n 1, 1) := by decide +kernel
theorem d_K_subjectsHeld_30 : decode b_K_subjectsHeld 30 = .ok (.ireturn, 1) := by decide +kernel
theorem d_K_takeTurn_0 : decode b_K_takeTurn 0 = .ok (.aload_n 1, 1) := by decide +kernel
theorem d_K_takeTurn_1 : decode b_K_takeTurn 1 = .ok (.invokevirtual 157, 3) := by decide +kernel
theorem d_K_takeTurn_4 : decode b_K_takeTurn 4 = .ok (.ifCond .eq 15, 3) := by decide +kernel
theorem d_K_takeTurn_7 : decode b_K_takeTurn 7 = .ok (.aload_n 0, 1) := by decide +kernel
theorem d_K_takeTurn_8 : decode b_K_takeTurn 8 = .ok (.dup, 1) := by decide +kernel
theorem d_K_takeTurn_9 : decode b_K_takeTurn 9 = .ok (.getfield 38, 3) := by decide +kernel
theorem d_K_takeTurn_12 : decode b_K_takeTurn 12 = .ok (.iconst 1, 1) := by decide +kernel
theorem d_K_takeTurn_13 : decode b_K_takeTurn 13 = .ok (.iadd, 1) := by decide +kernel
theorem d_K_takeTurn_14 : decode b_K_takeTurn 14 = .ok (.putfield 38, 3) := by decide +kernel
theorem d_K_takeTurn_17 : decode b_K_takeTurn 17 = .ok (.iconst 0, 1) := by decide +kernel
theorem d_K_takeTurn_18 : decode b_K_takeTurn 18 = .ok (.ireturn, 1) := by decide +kernel
theorem d_K_takeTurn_19 : decode b_K_takeTurn 19 = .ok (.aload_n 0, 1) := by decide +kernel
theorem d_K_takeTurn_20 : decode b_K_takeTurn 20 = .ok (.aload_n 1, 1) := by decide +kernel
theorem d_K_takeTurn_21 : decode b_K_takeTurn 21 = .ok (.invokevirtual 175, 3) := by decide +kernel
theorem d_K_takeTurn_24 : decode b_K_takeTurn 24 = .ok (.istore_n 2, 1) := by decide +kernel
theorem d_K_takeTurn_25 : decode b_K_takeTurn 25 = .ok (.iload_n 2, 1) := by decide +kernel
theorem d_K_takeTurn_26 : decode b_K_takeTurn 26 = .ok (.invokestatic 81, 3) := by decide +kernel
theorem d_K_takeTurn_29 : decode b_K_takeTurn 29 = .ok (.ifCond .eq 11, 3) := by decide +kernel
theorem d_K_takeTurn_32 : decode b_K_takeTurn 32 = .ok (.aload_n 0, 1) := by decide +kernel
theorem d_K_takeTurn_33 : decode b_K_takeTurn 33 = .ok (.aload_n 1, 1) := by decide +kernel
theorem d_K_takeTurn_34 : decode b_K_takeTurn 34 = .ok (.iload_n 2, 1) := by decide +kernel
theorem d_K_takeTurn_35 : decode b_K_takeTurn 35 = .ok (.invokevirtual 178, 3) := by decide +kernel
theorem d_K_takeTurn_38 : decode b_K_takeTurn 38 = .ok (.iconst 0, 1) := by decide +kernel
theorem d_K_takeTurn_39 : decode b_K_takeTurn 39 = .ok (.ireturn, 1) := by decide +kernel
theorem d_K_takeTurn_40 : decode b_K_takeTurn 40 = .ok (.aload_n 0, 1) := by decide +kernel
theorem d_K_takeTurn_41 : decode b_K_takeTurn 41 = .ok (.aload_n 1, 1) := by decide +kernel
theorem d_K_takeTurn_42 : decode b_K_takeTurn 42 = .ok (.invokevirtual 182, 3) := by decide +kernel
theorem d_K_takeTurn_45 : decode b_K_takeTurn 45 = .ok (.ireturn, 1) := by decide +kernel
theorem d_K_leastLacking_0 : decode b_K_leastLacking 0 = .ok (.iconst 0, 1) := by decide +kernel
theorem d_K_leastLacking_1 : decode b_K_leastLacking 1 = .ok (.istore_n 2, 1) := by decide +kernel
theorem d_K_leastLacking_2 : decode b_K_leastLacking 2 = .ok (.iload_n 2, 1) := by decide +kernel
theorem d_K_leastLacking_3 : decode b_K_leastLacking 3 = .ok (.bipush 16, 2) := by decide +kernel
theorem d_K_leastLacking_5 : decode b_K_leastLacking 5 = .ok (.if_icmp .ge 36, 3) := by decide +kernel
theorem d_K_leastLacking_8 : decode b_K_leastLacking 8 = .ok (.aload_n 1, 1) := by decide +kernel
theorem d_K_leastLacking_9 : decode b_K_leastLacking 9 = .ok (.aload_n 1, 1) := by decide +kernel
theorem d_K_leastLacking_10 : decode b_K_leastLacking 10 = .ok (.getfield 92, 3) := by decide +kernel
theorem d_K_leastLacking_13 : decode b_K_leastLacking 13 = .ok (.iload_n 2, 1) := by decide +kernel
theorem d_K_leastLacking_14 : decode b_K_leastLacking 14 = .ok (.invokevirtual 88, 3) := by decide +kernel
theorem d_K_leastLacking_17 : decode b_K_leastLacking 17 = .ok (.ifCond .eq 18, 3) := by decide +kernel
theorem d_K_leastLacking_20 : decode b_K_leastLacking 20 = .ok (.aload_n 0, 1) := by decide +kernel
theorem d_K_leastLacking_21 : decode b_K_leastLacking 21 = .ok (.getfield 19, 3) := by decide +kernel
theorem d_K_leastLacking_24 : decode b_K_leastLacking 24 = .ok (.iload_n 2, 1) := by decide +kernel
theorem d_K_leastLacking_25 : decode b_K_leastLacking 25 = .ok (.iaload, 1) := by decide +kernel
theorem d_K_leastLacking_26 : decode b_K_leastLacking 26 = .ok (.aload_n 1, 1) := by decide +kernel
theorem d_K_leastLacking_27 : decode b_K_leastLacking 27 = .ok (.getfield 117, 3) := by decide +kernel
theorem d_K_leastLacking_30 : decode b_K_leastLacking 30 = .ok (.if_icmp .eq 5, 3) := by decide +kernel
theorem d_K_leastLacking_33 : decode b_K_leastLacking 33 = .ok (.iload_n 2, 1) := by decide +kernel
theorem d_K_leastLacking_34 : decode b_K_leastLacking 34 = .ok (.ireturn, 1) := by decide +kernel
theorem d_K_leastLacking_35 : decode b_K_leastLacking 35 = .ok (.iinc 2 1, 3) := by decide +kernel
theorem d_K_leastLacking_38 : decode b_K_leastLacking 38 = .ok (.goto (-36), 3) := by decide +kernel
theorem d_K_leastLacking_41 : decode b_K_leastLacking 41 = .ok (.iconst (-1), 1) := by decide +kernel
theorem d_K_leastLacking_42 : decode b_K_leastLacking 42 = .ok (.ireturn, 1) := by decide +kernel
theorem d_K_ask_0 : decode b_K_ask 0 = .ok (.aload_n 0, 1) := by decide +kernel
theorem d_K_ask_1 : decode b_K_ask 1 = .ok (.getfield 19, 3) := by decide +kernel
theorem d_K_ask_4 : decode b_K_ask 4 = .ok (.iload_n 2, 1) := by decide +kernel
theorem d_K_ask_5 : decode b_K_ask 5 = .ok (.iaload, 1) := by decide +kernel
theorem d_K_ask_6 : decode b_K_ask 6 = .ok (.iconst (-1), 1) := by decide +kernel
theorem d_K_ask_7 : decode b_K_ask 7 = .ok (.if_icmp .ne 10, 3) := by decide +kernel
theorem d_K_ask_10 : decode b_K_ask 10 = .ok (.aload_n 0, 1) := by decide +kernel
theorem d_K_ask_11 : decode b_K_ask 11 = .ok (.aload_n 1, 1) := by decide +kernel
theorem d_K_ask_12 : decode b_K_ask 12 = .ok (.iload_n 2, 1) := by decide +kernel
theorem d_K_ask_13 : decode b_K_ask 13 = .ok (.invokevirtual 185, 3) := by decide +kernel
theorem d_K_ask_16 : decode b_K_ask 16 = .ok (.return_, 1) := by decide +kernel
theorem d_K_ask_17 : decode b_K_ask 17 = .ok (.aload_n 1, 1) := by decide +kernel
theorem d_K_ask_18 : decode b_K_ask 18 = .ok (.iload_n 2, 1) := by decide +kernel
theorem d_K_ask_19 : decode b_K_ask 19 = .ok (.putfield 120, 3) := by decide +kernel
theorem d_K_ask_22 : decode b_K_ask 22 = .ok (.aload_n 1, 1) := by decide +kernel
theorem d_K_ask_23 : decode b_K_ask 23 = .ok (.aload_n 0, 1) := by decide +kernel
theorem d_K_ask_24 : decode b_K_ask 24 = .ok (.getfield 26, 3) := by decide +kernel
theorem d_K_ask_27 : decode b_K_ask 27 = .ok (.putfield 188, 3) := by decide +kernel
theorem d_K_ask_30 : decode b_K_ask 30 = .ok (.aload_n 0, 1) := by decide +kernel
theorem d_K_ask_31 : decode b_K_ask 31 = .ok (.dup, 1) := by decide +kernel
theorem d_K_ask_32 : decode b_K_ask 32 = .ok (.getfield 26, 3) := by decide +kernel
theorem d_K_ask_35 : decode b_K_ask 35 = .ok (.iconst 1, 1) := by decide +kernel
theorem d_K_ask_36 : decode b_K_ask 36 = .ok (.iadd, 1) := by decide +kernel
theorem d_K_ask_37 : decode b_K_ask 37 = .ok (.putfield 26, 3) := by decide +kernel
theorem d_K_ask_40 : decode b_K_ask 40 = .ok (.return_, 1) := by decide +kernel
theorem d_K_take_0 : decode b_K_take 0 = .ok (.aload_n 1, 1) := by decide +kernel
theorem d_K_take_1 : decode b_K_take 1 = .ok (.iconst (-1), 1) := by decide +kernel
theorem d_K_take_2 : decode b_K_take 2 = .ok (.putfield 120, 3) := by decide +kernel
theorem d_K_take_5 : decode b_K_take 5 = .ok (.aload_n 0, 1) := by decide +kernel
theorem d_K_take_6 : decode b_K_take 6 = .ok (.getfield 19, 3) := by decide +kernel
theorem d_K_take_9 : decode b_K_take 9 = .ok (.iload_n 2, 1) := by decide +kernel
theorem d_K_take_10 : decode b_K_take 10 = .ok (.aload_n 1, 1) := by decide +kernel
theorem d_K_take_11 : decode b_K_take 11 = .ok (.getfield 117, 3) := by decide +kernel
theorem d_K_take_14 : decode b_K_take 14 = .ok (.iastore, 1) := by decide +kernel
theorem d_K_take_15 : decode b_K_take 15 = .ok (.aload_n 0, 1) := by decide +kernel
theorem d_K_take_16 : decode b_K_take 16 = .ok (.getfield 23, 3) := by decide +kernel
theorem d_K_take_19 : decode b_K_take 19 = .ok (.iload_n 2, 1) := by decide +kernel
theorem d_K_take_20 : decode b_K_take 20 = .ok (.aload_n 0, 1) := by decide +kernel
theorem d_K_take_21 : decode b_K_take 21 = .ok (.getfield 47, 3) := by decide +kernel
theorem d_K_take_24 : decode b_K_take 24 = .ok (.iastore, 1) := by decide +kernel
theorem d_K_take_25 : decode b_K_take 25 = .ok (.return_, 1) := by decide +kernel
theorem d_K_doOrUndo_0 : decode b_K_doOrUndo 0 = .ok (.aload_n 1, 1) := by decide +kernel
theorem d_K_doOrUndo_1 : decode b_K_doOrUndo 1 = .ok (.getfield 92, 3) := by decide +kernel
theorem d_K_doOrUndo_4 : decode b_K_doOrUndo 4 = .ok (.aload_n 1, 1) := by decide +kernel
theorem d_K_doOrUndo_5 : decode b_K_doOrUndo 5 = .ok (.getfield 191, 3) := by decide +kernel
theorem d_K_doOrUndo_8 : decode b_K_doOrUndo 8 = .ok (.if_icmp .ne 7, 3) := by decide +kernel
theorem d_K_doOrUndo_11 : decode b_K_doOrUndo 11 = .ok (.iconst 1, 1) := by decide +kernel
theorem d_K_doOrUndo_12 : decode b_K_doOrUndo 12 = .ok (.goto 4, 3) := by decide +kernel
theorem d_K_doOrUndo_15 : decode b_K_doOrUndo 15 = .ok (.iconst 0, 1) := by decide +kernel
theorem d_K_doOrUndo_16 : decode b_K_doOrUndo 16 = .ok (.istore_n 2, 1) := by decide +kernel
theorem d_K_doOrUndo_17 : decode b_K_doOrUndo 17 = .ok (.aload_n 0, 1) := by decide +kernel
theorem d_K_doOrUndo_18 : decode b_K_doOrUndo 18 = .ok (.iload_n 2, 1) := by decide +kernel
theorem d_K_doOrUndo_19 : decode b_K_doOrUndo 19 = .ok (.ifCond .eq 7, 3) := by decide +kernel
theorem d_K_doOrUndo_22 : decode b_K_doOrUndo 22 = .ok (.iconst 2, 1) := by decide +kernel
theorem d_K_doOrUndo_23 : decode b_K_doOrUndo 23 = .ok (.goto 4, 3) := by decide +kernel
theorem d_K_doOrUndo_26 : decode b_K_doOrUndo 26 = .ok (.iconst 1, 1) := by decide +kernel
theorem d_K_doOrUndo_27 : decode b_K_doOrUndo 27 = .ok (.aload_n 1, 1) := by decide +kernel
theorem d_K_doOrUndo_28 : decode b_K_doOrUndo 28 = .ok (.invokevirtual 127, 3) := by decide +kernel
theorem d_K_doOrUndo_31 : decode b_K_doOrUndo 31 = .ok (.aload_n 0, 1) := by decide +kernel
theorem d_K_doOrUndo_32 : decode b_K_doOrUndo 32 = .ok (.aload_n 1, 1) := by decide +kernel
theorem d_K_doOrUndo_33 : decode b_K_doOrUndo 33 = .ok (.invokevirtual 123, 3) := by decide +kernel
theorem d_K_doOrUndo_36 : decode b_K_doOrUndo 36 = .ok (.iload_n 2, 1) := by decide +kernel
theorem d_K_doOrUndo_37 : decode b_K_doOrUndo 37 = .ok (.ifCond .eq 10, 3) := by decide +kernel
theorem d_K_doOrUndo_40 : decode b_K_doOrUndo 40 = .ok (.aload_n 1, 1) := by decide +kernel
theorem d_K_doOrUndo_41 : decode b_K_doOrUndo 41 = .ok (.iconst (-1), 1) := by decide +kernel
theorem d_K_doOrUndo_42 : decode b_K_doOrUndo 42 = .ok (.putfield 191, 3) := by decide +kernel
theorem d_K_doOrUndo_45 : decode b_K_doOrUndo 45 = .ok (.iconst 0, 1) := by decide +kernel
theorem d_K_doOrUndo_46 : decode b_K_doOrUndo 46 = .ok (.ireturn, 1) := by decide +kernel
theorem d_K_doOrUndo_47 : decode b_K_doOrUndo 47 = .ok (.aload_n 1, 1) := by decide +kernel
theorem d_K_doOrUndo_48 : decode b_K_doOrUndo 48 = .ok (.dup, 1) := by decide +kernel
theorem d_K_doOrUndo_49 : decode b_K_doOrUndo 49 = .ok (.getfield 92, 3) := by decide +kernel
theorem d_K_doOrUndo_52 : decode b_K_doOrUndo 52 = .ok (.iconst 1, 1) := by decide +kernel
theorem d_K_doOrUndo_53 : decode b_K_doOrUndo 53 = .ok (.iadd, 1) := by decide +kernel
theorem d_K_doOrUndo_54 : decode b_K_doOrUndo 54 = .ok (.putfield 92, 3) := by decide +kernel
theorem d_K_doOrUndo_57 : decode b_K_doOrUndo 57 = .ok (.aload_n 1, 1) := by decide +kernel
theorem d_K_doOrUndo_58 : decode b_K_doOrUndo 58 = .ok (.dup, 1) := by decide +kernel
theorem d_K_doOrUndo_59 : decode b_K_doOrUndo 59 = .ok (.getfield 167, 3) := by decide +kernel
theorem d_K_doOrUndo_62 : decode b_K_doOrUndo 62 = .ok (.iconst 1, 1) := by decide +kernel
theorem d_K_doOrUndo_63 : decode b_K_doOrUndo 63 = .ok (.iadd, 1) := by decide +kernel
theorem d_K_doOrUndo_64 : decode b_K_doOrUndo 64 = .ok (.putfield 167, 3) := by decide +kernel
theorem d_K_doOrUndo_67 : decode b_K_doOrUndo 67 = .ok (.iconst 1, 1) := by decide +kernel
theorem d_K_doOrUndo_68 : decode b_K_doOrUndo 68 = .ok (.ireturn, 1) := by decide +kernel
theorem d_K_giveBackAll_0 : decode b_K_giveBackAll 0 = .ok (.iconst 0, 1) := by decide +kernel
theorem d_K_giveBackAll_1 : decode b_K_giveBackAll 1 = .ok (.istore_n 2, 1) := by decide +kernel
theorem d_K_giveBackAll_2 : decode b_K_giveBackAll 2 = .ok (.iload_n 2, 1) := by decide +kernel
theorem d_K_giveBackAll_3 : decode b_K_giveBackAll 3 = .ok (.bipush 16, 2) := by decide +kernel
theorem d_K_giveBackAll_5 : decode b_K_giveBackAll 5 = .ok (.if_icmp .ge 27, 3) := by decide +kernel
theorem d_K_giveBackAll_8 : decode b_K_giveBackAll 8 = .ok (.aload_n 0, 1) := by decide +kernel
theorem d_K_giveBackAll_9 : decode b_K_giveBackAll 9 = .ok (.getfield 19, 3) := by decide +kernel
theorem d_K_giveBackAll_12 : decode b_K_giveBackAll 12 = .ok (.iload_n 2, 1) := by decide +kernel
theorem d_K_giveBackAll_13 : decode b_K_giveBackAll 13 = .ok (.iaload, 1) := by decide +kernel
theorem d_K_giveBackAll_14 : decode b_K_giveBackAll 14 = .ok (.aload_n 1, 1) := by decide +kernel
theorem d_K_giveBackAll_15 : decode b_K_giveBackAll 15 = .ok (.getfield 117, 3) := by decide +kernel
theorem d_K_giveBackAll_18 : decode b_K_giveBackAll 18 = .ok (.if_icmp .ne 8, 3) := by decide +kernel
theorem d_K_giveBackAll_21 : decode b_K_giveBackAll 21 = .ok (.aload_n 0, 1) := by decide +kernel
theorem d_K_giveBackAll_22 : decode b_K_giveBackAll 22 = .ok (.iload_n 2, 1) := by decide +kernel
theorem d_K_giveBackAll_23 : decode b_K_giveBackAll 23 = .ok (.invokevirtual 153, 3) := by decide +kernel
theorem d_K_giveBackAll_26 : decode b_K_giveBackAll 26 = .ok (.iinc 2 1, 3) := by decide +kernel
theorem d_K_giveBackAll_29 : decode b_K_giveBackAll 29 = .ok (.goto (-27), 3) := by decide +kernel
theorem d_K_giveBackAll_32 : decode b_K_giveBackAll 32 = .ok (.return_, 1) := by decide +kernel
theorem d_K_giveBack_0 : decode b_K_giveBack 0 = .ok (.aload_n 0, 1) := by decide +kernel
theorem d_K_giveBack_1 : decode b_K_giveBack 1 = .ok (.getfield 19, 3) := by decide +kernel
theorem d_K_giveBack_4 : decode b_K_giveBack 4 = .ok (.iload_n 1, 1) := by decide +kernel
theorem d_K_giveBack_5 : decode b_K_giveBack 5 = .ok (.iconst (-1), 1) := by decide +kernel
theorem d_K_giveBack_6 : decode b_K_giveBack 6 = .ok (.iastore, 1) := by decide +kernel
theorem d_K_giveBack_7 : decode b_K_giveBack 7 = .ok (.aload_n 0, 1) := by decide +kernel
theorem d_K_giveBack_8 : decode b_K_giveBack 8 = .ok (.iload_n 1, 1) := by decide +kernel
theorem d_K_giveBack_9 : decode b_K_giveBack 9 = .ok (.iconst 0, 1) := by decide +kernel
theorem d_K_giveBack_10 : decode b_K_giveBack 10 = .ok (.invokevirtual 113, 3) := by decide +kernel
theorem d_K_giveBack_13 : decode b_K_giveBack 13 = .ok (.astore_n 2, 1) := by decide +kernel
theorem d_K_giveBack_14 : decode b_K_giveBack 14 = .ok (.aload_n 2, 1) := by decide +kernel
theorem d_K_giveBack_15 : decode b_K_giveBack 15 = .ok (.ifnull 9, 3) := by decide +kernel
theorem d_K_giveBack_18 : decode b_K_giveBack 18 = .ok (.aload_n 0, 1) := by decide +kernel
theorem d_K_giveBack_19 : decode b_K_giveBack 19 = .ok (.aload_n 2, 1) := by decide +kernel
theorem d_K_giveBack_20 : decode b_K_giveBack 20 = .ok (.iload_n 1, 1) := by decide +kernel
theorem d_K_giveBack_21 : decode b_K_giveBack 21 = .ok (.invokevirtual 185, 3) := by decide +kernel
theorem d_K_giveBack_24 : decode b_K_giveBack 24 = .ok (.return_, 1) := by decide +kernel
end
section
theorem d_K_waiterFor_0 : decode b_K_waiterFor 0 = .ok (.iconst 0, 1) := by decide +kernel
theorem d_K_waiterFor_1 : decode b_K_waiterFor 1 = .ok (.istore_n 3, 1) := by decide +kernel
theorem d_K_waiterFor_2 : decode b_K_waiterFor 2 = .ok (.iload_n 3, 1) := by decide +kernel
theorem d_K_waiterFor_3 : decode b_K_waiterFor 3 = .ok (.aload_n 0, 1) := by decide +kernel
theorem d_K_waiterFor_4 : decode b_K_waiterFor 4 = .ok (.getfield 15, 3) := by decide +kernel
theorem d_K_waiterFor_7 : decode b_K_waiterFor 7 = .ok (.if_icmp .ge 53, 3) := by decide +kernel
theorem d_K_waiterFor_10 : decode b_K_waiterFor 10 = .ok (.iload_n 3, 1) := by decide +kernel
theorem d_K_waiterFor_11 : decode b_K_waiterFor 11 = .ok (.aload_n 0, 1) := by decide +kernel
theorem d_K_waiterFor_12 : decode b_K_waiterFor 12 = .ok (.getfield 11, 3) := by decide +kernel
theorem d_K_waiterFor_15 : decode b_K_waiterFor 15 = .ok (.arraylength, 1) := by decide +kernel
theorem d_K_waiterFor_16 : decode b_K_waiterFor 16 = .ok (.if_icmp .ge 44, 3) := by decide +kernel
theorem d_K_waiterFor_19 : decode b_K_waiterFor 19 = .ok (.aload_n 0, 1) := by decide +kernel
theorem d_K_waiterFor_20 : decode b_K_waiterFor 20 = .ok (.getfield 11, 3) := by decide +kernel
theorem d_K_waiterFor_23 : decode b_K_waiterFor 23 = .ok (.iload_n 3, 1) := by decide +kernel
theorem d_K_waiterFor_24 : decode b_K_waiterFor 24 = .ok (.aaload, 1) := by decide +kernel
theorem d_K_waiterFor_25 : decode b_K_waiterFor 25 = .ok (.astore 4, 2) := by decide +kernel
theorem d_K_waiterFor_27 : decode b_K_waiterFor 27 = .ok (.aload 4, 2) := by decide +kernel
theorem d_K_waiterFor_29 : decode b_K_waiterFor 29 = .ok (.ifnull 25, 3) := by decide +kernel
theorem d_K_waiterFor_32 : decode b_K_waiterFor 32 = .ok (.aload 4, 2) := by decide +kernel
theorem d_K_waiterFor_34 : decode b_K_waiterFor 34 = .ok (.getfield 120, 3) := by decide +kernel
theorem d_K_waiterFor_37 : decode b_K_waiterFor 37 = .ok (.iload_n 1, 1) := by decide +kernel
theorem d_K_waiterFor_38 : decode b_K_waiterFor 38 = .ok (.if_icmp .ne 16, 3) := by decide +kernel
theorem d_K_waiterFor_41 : decode b_K_waiterFor 41 = .ok (.aload_n 0, 1) := by decide +kernel
theorem d_K_waiterFor_42 : decode b_K_waiterFor 42 = .ok (.aload 4, 2) := by decide +kernel
theorem d_K_waiterFor_44 : decode b_K_waiterFor 44 = .ok (.invokevirtual 194, 3) := by decide +kernel
theorem d_K_waiterFor_47 : decode b_K_waiterFor 47 = .ok (.iload_n 2, 1) := by decide +kernel
theorem d_K_waiterFor_48 : decode b_K_waiterFor 48 = .ok (.if_icmp .ne 6, 3) := by decide +kernel
theorem d_K_waiterFor_51 : decode b_K_waiterFor 51 = .ok (.aload 4, 2) := by decide +kernel
theorem d_K_waiterFor_53 : decode b_K_waiterFor 53 = .ok (.areturn, 1) := by decide +kernel
theorem d_K_waiterFor_54 : decode b_K_waiterFor 54 = .ok (.iinc 3 1, 3) := by decide +kernel
theorem d_K_waiterFor_57 : decode b_K_waiterFor 57 = .ok (.goto (-55), 3) := by decide +kernel
theorem d_K_waiterFor_60 : decode b_K_waiterFor 60 = .ok (.aconst_null, 1) := by decide +kernel
theorem d_K_waiterFor_61 : decode b_K_waiterFor 61 = .ok (.areturn, 1) := by decide +kernel
theorem d_K_waitersAheadOf_0 : decode b_K_waitersAheadOf 0 = .ok (.iconst 0, 1) := by decide +kernel
theorem d_K_waitersAheadOf_1 : decode b_K_waitersAheadOf 1 = .ok (.istore_n 2, 1) := by decide +kernel
theorem d_K_waitersAheadOf_2 : decode b_K_waitersAheadOf 2 = .ok (.iconst 0, 1) := by decide +kernel
theorem d_K_waitersAheadOf_3 : decode b_K_waitersAheadOf 3 = .ok (.istore_n 3, 1) := by decide +kernel
theorem d_K_waitersAheadOf_4 : decode b_K_waitersAheadOf 4 = .ok (.iload_n 3, 1) := by decide +kernel
theorem d_K_waitersAheadOf_5 : decode b_K_waitersAheadOf 5 = .ok (.aload_n 0, 1) := by decide +kernel
theorem d_K_waitersAheadOf_6 : decode b_K_waitersAheadOf 6 = .ok (.getfield 15, 3) := by decide +kernel
theorem d_K_waitersAheadOf_9 : decode b_K_waitersAheadOf 9 = .ok (.if_icmp .ge 58, 3) := by decide +kernel
theorem d_K_waitersAheadOf_12 : decode b_K_waitersAheadOf 12 = .ok (.iload_n 3, 1) := by decide +kernel
theorem d_K_waitersAheadOf_13 : decode b_K_waitersAheadOf 13 = .ok (.aload_n 0, 1) := by decide +kernel
theorem d_K_waitersAheadOf_14 : decode b_K_waitersAheadOf 14 = .ok (.getfield 11, 3) := by decide +kernel
theorem d_K_waitersAheadOf_17 : decode b_K_waitersAheadOf 17 = .ok (.arraylength, 1) := by decide +kernel
theorem d_K_waitersAheadOf_18 : decode b_K_waitersAheadOf 18 = .ok (.if_icmp .ge 49, 3) := by decide +kernel
theorem d_K_waitersAheadOf_21 : decode b_K_waitersAheadOf 21 = .ok (.aload_n 0, 1) := by decide +kernel
theorem d_K_waitersAheadOf_22 : decode b_K_waitersAheadOf 22 = .ok (.getfield 11, 3) := by decide +kernel
theorem d_K_waitersAheadOf_25 : decode b_K_waitersAheadOf 25 = .ok (.iload_n 3, 1) := by decide +kernel
theorem d_K_waitersAheadOf_26 : decode b_K_waitersAheadOf 26 = .ok (.aaload, 1) := by decide +kernel
theorem d_K_waitersAheadOf_27 : decode b_K_waitersAheadOf 27 = .ok (.astore 4, 2) := by decide +kernel
theorem d_K_waitersAheadOf_29 : decode b_K_waitersAheadOf 29 = .ok (.aload 4, 2) := by decide +kernel
theorem d_K_waitersAheadOf_31 : decode b_K_waitersAheadOf 31 = .ok (.ifnull 30, 3) := by decide +kernel
theorem d_K_waitersAheadOf_34 : decode b_K_waitersAheadOf 34 = .ok (.aload 4, 2) := by decide +kernel
theorem d_K_waitersAheadOf_36 : decode b_K_waitersAheadOf 36 = .ok (.getfield 120, 3) := by decide +kernel
theorem d_K_waitersAheadOf_39 : decode b_K_waitersAheadOf 39 = .ok (.aload_n 1, 1) := by decide +kernel
theorem d_K_waitersAheadOf_40 : decode b_K_waitersAheadOf 40 = .ok (.getfield 120, 3) := by decide +kernel
theorem d_K_waitersAheadOf_43 : decode b_K_waitersAheadOf 43 = .ok (.if_icmp .ne 18, 3) := by decide +kernel
theorem d_K_waitersAheadOf_46 : decode b_K_waitersAheadOf 46 = .ok (.aload 4, 2) := by decide +kernel
theorem d_K_waitersAheadOf_48 : decode b_K_waitersAheadOf 48 = .ok (.getfield 188, 3) := by decide +kernel
theorem d_K_waitersAheadOf_51 : decode b_K_waitersAheadOf 51 = .ok (.aload_n 1, 1) := by decide +kernel
theorem d_K_waitersAheadOf_52 : decode b_K_waitersAheadOf 52 = .ok (.getfield 188, 3) := by decide +kernel
theorem d_K_waitersAheadOf_55 : decode b_K_waitersAheadOf 55 = .ok (.if_icmp .ge 6, 3) := by decide +kernel
theorem d_K_waitersAheadOf_58 : decode b_K_waitersAheadOf 58 = .ok (.iinc 2 1, 3) := by decide +kernel
theorem d_K_waitersAheadOf_61 : decode b_K_waitersAheadOf 61 = .ok (.iinc 3 1, 3) := by decide +kernel
theorem d_K_waitersAheadOf_64 : decode b_K_waitersAheadOf 64 = .ok (.goto (-60), 3) := by decide +kernel
theorem d_K_waitersAheadOf_67 : decode b_K_waitersAheadOf 67 = .ok (.iload_n 2, 1) := by decide +kernel
theorem d_K_waitersAheadOf_68 : decode b_K_waitersAheadOf 68 = .ok (.ireturn, 1) := by decide +kernel
theorem d_K_isOverdue_0 : decode b_K_isOverdue 0 = .ok (.aload_n 0, 1) := by decide +kernel
theorem d_K_isOverdue_1 : decode b_K_isOverdue 1 = .ok (.aload_n 0, 1) := by decide +kernel
theorem d_K_isOverdue_2 : decode b_K_isOverdue 2 = .ok (.getfield 19, 3) := by decide +kernel
theorem d_K_isOverdue_5 : decode b_K_isOverdue 5 = .ok (.iload_n 1, 1) := by decide +kernel
theorem d_K_isOverdue_6 : decode b_K_isOverdue 6 = .ok (.iaload, 1) := by decide +kernel
theorem d_K_isOverdue_7 : decode b_K_isOverdue 7 = .ok (.invokevirtual 77, 3) := by decide +kernel
theorem d_K_isOverdue_10 : decode b_K_isOverdue 10 = .ok (.astore_n 2, 1) := by decide +kernel
theorem d_K_isOverdue_11 : decode b_K_isOverdue 11 = .ok (.aload_n 2, 1) := by decide +kernel
theorem d_K_isOverdue_12 : decode b_K_isOverdue 12 = .ok (.ifnull 31, 3) := by decide +kernel
theorem d_K_isOverdue_15 : decode b_K_isOverdue 15 = .ok (.aload_n 2, 1) := by decide +kernel
theorem d_K_isOverdue_16 : decode b_K_isOverdue 16 = .ok (.invokevirtual 157, 3) := by decide +kernel
theorem d_K_isOverdue_19 : decode b_K_isOverdue 19 = .ok (.iconst 3, 1) := by decide +kernel
theorem d_K_isOverdue_20 : decode b_K_isOverdue 20 = .ok (.if_icmp .ne 23, 3) := by decide +kernel
theorem d_K_isOverdue_23 : decode b_K_isOverdue 23 = .ok (.aload_n 0, 1) := by decide +kernel
theorem d_K_isOverdue_24 : decode b_K_isOverdue 24 = .ok (.getfield 47, 3) := by decide +kernel
theorem d_K_isOverdue_27 : decode b_K_isOverdue 27 = .ok (.aload_n 0, 1) := by decide +kernel
theorem d_K_isOverdue_28 : decode b_K_isOverdue 28 = .ok (.getfield 23, 3) := by decide +kernel
theorem d_K_isOverdue_31 : decode b_K_isOverdue 31 = .ok (.iload_n 1, 1) := by decide +kernel
theorem d_K_isOverdue_32 : decode b_K_isOverdue 32 = .ok (.iaload, 1) := by decide +kernel
theorem d_K_isOverdue_33 : decode b_K_isOverdue 33 = .ok (.isub, 1) := by decide +kernel
theorem d_K_isOverdue_34 : decode b_K_isOverdue 34 = .ok (.bipush 100, 2) := by decide +kernel
theorem d_K_isOverdue_36 : decode b_K_isOverdue 36 = .ok (.if_icmp .le 7, 3) := by decide +kernel
theorem d_K_isOverdue_39 : decode b_K_isOverdue 39 = .ok (.iconst 1, 1) := by decide +kernel
theorem d_K_isOverdue_40 : decode b_K_isOverdue 40 = .ok (.goto 4, 3) := by decide +kernel
theorem d_K_isOverdue_43 : decode b_K_isOverdue 43 = .ok (.iconst 0, 1) := by decide +kernel
theorem d_K_isOverdue_44 : decode b_K_isOverdue 44 = .ok (.ireturn, 1) := by decide +kernel
theorem d_K_end_0 : decode b_K_end 0 = .ok (.aload_n 0, 1) := by decide +kernel
theorem d_K_end_1 : decode b_K_end 1 = .ok (.aload_n 1, 1) := by decide +kernel
theorem d_K_end_2 : decode b_K_end 2 = .ok (.invokevirtual 95, 3) := by decide +kernel
theorem d_K_end_5 : decode b_K_end 5 = .ok (.istore_n 2, 1) := by decide +kernel
theorem d_K_end_6 : decode b_K_end 6 = .ok (.aload_n 1, 1) := by decide +kernel
theorem d_K_end_7 : decode b_K_end 7 = .ok (.iconst (-1), 1) := by decide +kernel
theorem d_K_end_8 : decode b_K_end 8 = .ok (.putfield 120, 3) := by decide +kernel
theorem d_K_end_11 : decode b_K_end 11 = .ok (.aload_n 1, 1) := by decide +kernel
theorem d_K_end_12 : decode b_K_end 12 = .ok (.iconst 1, 1) := by decide +kernel
theorem d_K_end_13 : decode b_K_end 13 = .ok (.putfield 197, 3) := by decide +kernel
theorem d_K_end_16 : decode b_K_end 16 = .ok (.aload_n 0, 1) := by decide +kernel
theorem d_K_end_17 : decode b_K_end 17 = .ok (.aload_n 1, 1) := by decide +kernel
theorem d_K_end_18 : decode b_K_end 18 = .ok (.invokevirtual 123, 3) := by decide +kernel
theorem d_K_end_21 : decode b_K_end 21 = .ok (.iload_n 2, 1) := by decide +kernel
theorem d_K_end_22 : decode b_K_end 22 = .ok (.ifCond .eq 9, 3) := by decide +kernel
theorem d_K_end_25 : decode b_K_end 25 = .ok (.aload_n 0, 1) := by decide +kernel
theorem d_K_end_26 : decode b_K_end 26 = .ok (.iconst 4, 1) := by decide +kernel
theorem d_K_end_27 : decode b_K_end 27 = .ok (.aload_n 1, 1) := by decide +kernel
theorem d_K_end_28 : decode b_K_end 28 = .ok (.invokevirtual 127, 3) := by decide +kernel
theorem d_K_end_31 : decode b_K_end 31 = .ok (.return_, 1) := by decide +kernel
theorem d_K_tell_0 : decode b_K_tell 0 = .ok (.aload_n 0, 1) := by decide +kernel
theorem d_K_tell_1 : decode b_K_tell 1 = .ok (.getfield 44, 3) := by decide +kernel
theorem d_K_tell_4 : decode b_K_tell 4 = .ok (.aload_n 0, 1) := by decide +kernel
theorem d_K_tell_5 : decode b_K_tell 5 = .ok (.getfield 41, 3) := by decide +kernel
theorem d_K_tell_8 : decode b_K_tell 8 = .ok (.arraylength, 1) := by decide +kernel
theorem d_K_tell_9 : decode b_K_tell 9 = .ok (.if_icmp .ge 40, 3) := by decide +kernel
theorem d_K_tell_12 : decode b_K_tell 12 = .ok (.aload_n 0, 1) := by decide +kernel
theorem d_K_tell_13 : decode b_K_tell 13 = .ok (.getfield 41, 3) := by decide +kernel
theorem d_K_tell_16 : decode b_K_tell 16 = .ok (.aload_n 0, 1) := by decide +kernel
theorem d_K_tell_17 : decode b_K_tell 17 = .ok (.getfield 44, 3) := by decide +kernel
theorem d_K_tell_20 : decode b_K_tell 20 = .ok (.sipush 1000, 3) := by decide +kernel
theorem d_K_tell_23 : decode b_K_tell 23 = .ok (.iload_n 1, 1) := by decide +kernel
theorem d_K_tell_24 : decode b_K_tell 24 = .ok (.imul, 1) := by decide +kernel
theorem d_K_tell_25 : decode b_K_tell 25 = .ok (.bipush 100, 2) := by decide +kernel
theorem d_K_tell_27 : decode b_K_tell 27 = .ok (.aload_n 2, 1) := by decide +kernel
theorem d_K_tell_28 : decode b_K_tell 28 = .ok (.getfield 117, 3) := by decide +kernel
theorem d_K_tell_31 : decode b_K_tell 31 = .ok (.imul, 1) := by decide +kernel
theorem d_K_tell_32 : decode b_K_tell 32 = .ok (.iadd, 1) := by decide +kernel
theorem d_K_tell_33 : decode b_K_tell 33 = .ok (.aload_n 2, 1) := by decide +kernel
theorem d_K_tell_34 : decode b_K_tell 34 = .ok (.getfield 92, 3) := by decide +kernel
theorem d_K_tell_37 : decode b_K_tell 37 = .ok (.iadd, 1) := by decide +kernel
theorem d_K_tell_38 : decode b_K_tell 38 = .ok (.iastore, 1) := by decide +kernel
theorem d_K_tell_39 : decode b_K_tell 39 = .ok (.aload_n 0, 1) := by decide +kernel
theorem d_K_tell_40 : decode b_K_tell 40 = .ok (.dup, 1) := by decide +kernel
theorem d_K_tell_41 : decode b_K_tell 41 = .ok (.getfield 44, 3) := by decide +kernel
theorem d_K_tell_44 : decode b_K_tell 44 = .ok (.iconst 1, 1) := by decide +kernel
theorem d_K_tell_45 : decode b_K_tell 45 = .ok (.iadd, 1) := by decide +kernel
theorem d_K_tell_46 : decode b_K_tell 46 = .ok (.putfield 44, 3) := by decide +kernel
theorem d_K_tell_49 : decode b_K_tell 49 = .ok (.return_, 1) := by decide +kernel
end
section
theorem d_M_init_0 : decode b_M_init 0 = .ok (.aload_n 0, 1) := by decide +kernel
theorem d_M_init_1 : decode b_M_init 1 = .ok (.invokespecial 1, 3) := by decide +kernel
theorem d_M_init_4 : decode b_M_init 4 = .ok (.aload_n 0, 1) := by decide +kernel
theorem d_M_init_5 : decode b_M_init 5 = .ok (.bipush 8, 2) := by decide +kernel
theorem d_M_init_7 : decode b_M_init 7 = .ok (.newarray .int, 2) := by decide +kernel
theorem d_M_init_9 : decode b_M_init 9 = .ok (.putfield 7, 3) := by decide +kernel
theorem d_M_init_12 : decode b_M_init 12 = .ok (.aload_n 0, 1) := by decide +kernel
theorem d_M_init_13 : decode b_M_init 13 = .ok (.bipush 8, 2) := by decide +kernel
theorem d_M_init_15 : decode b_M_init 15 = .ok (.newarray .int, 2) := by decide +kernel
theorem d_M_init_17 : decode b_M_init 17 = .ok (.putfield 13, 3) := by decide +kernel
theorem d_M_init_20 : decode b_M_init 20 = .ok (.aload_n 0, 1) := by decide +kernel
theorem d_M_init_21 : decode b_M_init 21 = .ok (.bipush 8, 2) := by decide +kernel
theorem d_M_init_23 : decode b_M_init 23 = .ok (.newarray .int, 2) := by decide +kernel
theorem d_M_init_25 : decode b_M_init 25 = .ok (.putfield 16, 3) := by decide +kernel
theorem d_M_init_28 : decode b_M_init 28 = .ok (.aload_n 0, 1) := by decide +kernel
theorem d_M_init_29 : decode b_M_init 29 = .ok (.bipush 8, 2) := by decide +kernel
theorem d_M_init_31 : decode b_M_init 31 = .ok (.newarray .int, 2) := by decide +kernel
theorem d_M_init_33 : decode b_M_init 33 = .ok (.putfield 19, 3) := by decide +kernel
theorem d_M_init_36 : decode b_M_init 36 = .ok (.aload_n 0, 1) := by decide +kernel
theorem d_M_init_37 : decode b_M_init 37 = .ok (.bipush 8, 2) := by decide +kernel
theorem d_M_init_39 : decode b_M_init 39 = .ok (.newarray .int, 2) := by decide +kernel
theorem d_M_init_41 : decode b_M_init 41 = .ok (.putfield 22, 3) := by decide +kernel
theorem d_M_init_44 : decode b_M_init 44 = .ok (.aload_n 0, 1) := by decide +kernel
theorem d_M_init_45 : decode b_M_init 45 = .ok (.bipush 96, 2) := by decide +kernel
theorem d_M_init_47 : decode b_M_init 47 = .ok (.newarray .int, 2) := by decide +kernel
theorem d_M_init_49 : decode b_M_init 49 = .ok (.putfield 25, 3) := by decide +kernel
theorem d_M_init_52 : decode b_M_init 52 = .ok (.aload_n 0, 1) := by decide +kernel
theorem d_M_init_53 : decode b_M_init 53 = .ok (.bipush 16, 2) := by decide +kernel
theorem d_M_init_55 : decode b_M_init 55 = .ok (.newarray .int, 2) := by decide +kernel
theorem d_M_init_57 : decode b_M_init 57 = .ok (.putfield 28, 3) := by decide +kernel
theorem d_M_init_60 : decode b_M_init 60 = .ok (.aload_n 0, 1) := by decide +kernel
theorem d_M_init_61 : decode b_M_init 61 = .ok (.bipush 16, 2) := by decide +kernel
theorem d_M_init_63 : decode b_M_init 63 = .ok (.newarray .int, 2) := by decide +kernel
theorem d_M_init_65 : decode b_M_init 65 = .ok (.putfield 31, 3) := by decide +kernel
theorem d_M_init_68 : decode b_M_init 68 = .ok (.aload_n 0, 1) := by decide +kernel
theorem d_M_init_69 : decode b_M_init 69 = .ok (.bipush 8, 2) := by decide +kernel
theorem d_M_init_71 : decode b_M_init 71 = .ok (.newarray .int, 2) := by decide +kernel
theorem d_M_init_73 : decode b_M_init 73 = .ok (.putfield 34, 3) := by decide +kernel
theorem d_M_init_76 : decode b_M_init 76 = .ok (.aload_n 0, 1) := by decide +kernel
theorem d_M_init_77 : decode b_M_init 77 = .ok (.bipush 8, 2) := by decide +kernel
theorem d_M_init_79 : decode b_M_init 79 = .ok (.newarray .int, 2) := by decide +kernel
theorem d_M_init_81 : decode b_M_init 81 = .ok (.putfield 37, 3) := by decide +kernel
theorem d_M_init_84 : decode b_M_init 84 = .ok (.aload_n 0, 1) := by decide +kernel
theorem d_M_init_85 : decode b_M_init 85 = .ok (.sipush 300, 3) := by decide +kernel
theorem d_M_init_88 : decode b_M_init 88 = .ok (.newarray .int, 2) := by decide +kernel
theorem d_M_init_90 : decode b_M_init 90 = .ok (.putfield 40, 3) := by decide +kernel
theorem d_M_init_93 : decode b_M_init 93 = .ok (.aload_n 0, 1) := by decide +kernel
theorem d_M_init_94 : decode b_M_init 94 = .ok (.sipush 400, 3) := by decide +kernel
theorem d_M_init_97 : decode b_M_init 97 = .ok (.newarray .int, 2) := by decide +kernel
theorem d_M_init_99 : decode b_M_init 99 = .ok (.putfield 43, 3) := by decide +kernel
theorem d_M_init_102 : decode b_M_init 102 = .ok (.iconst 0, 1) := by decide +kernel
theorem d_M_init_103 : decode b_M_init 103 = .ok (.istore_n 1, 1) := by decide +kernel
theorem d_M_init_104 : decode b_M_init 104 = .ok (.iload_n 1, 1) := by decide +kernel
theorem d_M_init_105 : decode b_M_init 105 = .ok (.bipush 16, 2) := by decide +kernel
theorem d_M_init_107 : decode b_M_init 107 = .ok (.if_icmp .ge 16, 3) := by decide +kernel
theorem d_M_init_110 : decode b_M_init 110 = .ok (.aload_n 0, 1) := by decide +kernel
theorem d_M_init_111 : decode b_M_init 111 = .ok (.getfield 28, 3) := by decide +kernel
theorem d_M_init_114 : decode b_M_init 114 = .ok (.iload_n 1, 1) := by decide +kernel
theorem d_M_init_115 : decode b_M_init 115 = .ok (.iconst (-1), 1) := by decide +kernel
theorem d_M_init_116 : decode b_M_init 116 = .ok (.iastore, 1) := by decide +kernel
theorem d_M_init_117 : decode b_M_init 117 = .ok (.iinc 1 1, 3) := by decide +kernel
theorem d_M_init_120 : decode b_M_init 120 = .ok (.goto (-16), 3) := by decide +kernel
theorem d_M_init_123 : decode b_M_init 123 = .ok (.return_, 1) := by decide +kernel
theorem d_M_thrown_0 : decode b_M_thrown 0 = .ok (.aload_n 0, 1) := by decide +kernel
theorem d_M_thrown_1 : decode b_M_thrown 1 = .ok (.getfield 46, 3) := by decide +kernel
theorem d_M_thrown_4 : decode b_M_thrown 4 = .ok (.ireturn, 1) := by decide +kernel
theorem d_M_refuse_0 : decode b_M_refuse 0 = .ok (.aload_n 0, 1) := by decide +kernel
theorem d_M_refuse_1 : decode b_M_refuse 1 = .ok (.iload_n 1, 1) := by decide +kernel
theorem d_M_refuse_2 : decode b_M_refuse 2 = .ok (.putfield 46, 3) := by decide +kernel
theorem d_M_refuse_5 : decode b_M_refuse 5 = .ok (.iconst 0, 1) := by decide +kernel
theorem d_M_refuse_6 : decode b_M_refuse 6 = .ok (.ireturn, 1) := by decide +kernel
theorem d_M_in_0 : decode b_M_in 0 = .ok (.iload_n 0, 1) := by decide +kernel
theorem d_M_in_1 : decode b_M_in 1 = .ok (.iload_n 1, 1) := by decide +kernel
theorem d_M_in_2 : decode b_M_in 2 = .ok (.if_icmp .lt 12, 3) := by decide +kernel
theorem d_M_in_5 : decode b_M_in 5 = .ok (.iload_n 0, 1) := by decide +kernel
theorem d_M_in_6 : decode b_M_in 6 = .ok (.iload_n 2, 1) := by decide +kernel
theorem d_M_in_7 : decode b_M_in 7 = .ok (.if_icmp .gt 7, 3) := by decide +kernel
theorem d_M_in_10 : decode b_M_in 10 = .ok (.iconst 1, 1) := by decide +kernel
theorem d_M_in_11 : decode b_M_in 11 = .ok (.goto 4, 3) := by decide +kernel
theorem d_M_in_14 : decode b_M_in 14 = .ok (.iconst 0, 1) := by decide +kernel
theorem d_M_in_15 : decode b_M_in 15 = .ok (.ireturn, 1) := by decide +kernel
theorem d_M_isDesk_0 : decode b_M_isDesk 0 = .ok (.iload_n 1, 1) := by decide +kernel
theorem d_M_isDesk_1 : decode b_M_isDesk 1 = .ok (.ifCond .lt 15, 3) := by decide +kernel
theorem d_M_isDesk_4 : decode b_M_isDesk 4 = .ok (.iload_n 1, 1) := by decide +kernel
theorem d_M_isDesk_5 : decode b_M_isDesk 5 = .ok (.aload_n 0, 1) := by decide +kernel
theorem d_M_isDesk_6 : decode b_M_isDesk 6 = .ok (.getfield 50, 3) := by decide +kernel
theorem d_M_isDesk_9 : decode b_M_isDesk 9 = .ok (.if_icmp .ge 7, 3) := by decide +kernel
theorem d_M_isDesk_12 : decode b_M_isDesk 12 = .ok (.iconst 1, 1) := by decide +kernel
theorem d_M_isDesk_13 : decode b_M_isDesk 13 = .ok (.goto 4, 3) := by decide +kernel
theorem d_M_isDesk_16 : decode b_M_isDesk 16 = .ok (.iconst 0, 1) := by decide +kernel
theorem d_M_isDesk_17 : decode b_M_isDesk 17 = .ok (.ireturn, 1) := by decide +kernel
theorem d_M_isSubject_0 : decode b_M_isSubject 0 = .ok (.iload_n 0, 1) := by decide +kernel
theorem d_M_isSubject_1 : decode b_M_isSubject 1 = .ok (.ifCond .lt 13, 3) := by decide +kernel
theorem d_M_isSubject_4 : decode b_M_isSubject 4 = .ok (.iload_n 0, 1) := by decide +kernel
theorem d_M_isSubject_5 : decode b_M_isSubject 5 = .ok (.bipush 16, 2) := by decide +kernel
theorem d_M_isSubject_7 : decode b_M_isSubject 7 = .ok (.if_icmp .ge 7, 3) := by decide +kernel
theorem d_M_isSubject_10 : decode b_M_isSubject 10 = .ok (.iconst 1, 1) := by decide +kernel
theorem d_M_isSubject_11 : decode b_M_isSubject 11 = .ok (.goto 4, 3) := by decide +kernel
theorem d_M_isSubject_14 : decode b_M_isSubject 14 = .ok (.iconst 0, 1) := by decide +kernel
theorem d_M_isSubject_15 : decode b_M_isSubject 15 = .ok (.ireturn, 1) := by decide +kernel
theorem d_M_desk_0 : decode b_M_desk 0 = .ok (.iload_n 1, 1) := by decide +kernel
theorem d_M_desk_1 : decode b_M_desk 1 = .ok (.iconst 1, 1) := by decide +kernel
theorem d_M_desk_2 : decode b_M_desk 2 = .ok (.bipush 12, 2) := by decide +kernel
theorem d_M_desk_4 : decode b_M_desk 4 = .ok (.invokestatic 53, 3) := by decide +kernel
theorem d_M_desk_7 : decode b_M_desk 7 = .ok (.ifCond .eq 19, 3) := by decide +kernel
theorem d_M_desk_10 : decode b_M_desk 10 = .ok (.iload_n 2, 1) := by decide +kernel
theorem d_M_desk_11 : decode b_M_desk 11 = .ok (.iconst (-1), 1) := by decide +kernel
theorem d_M_desk_12 : decode b_M_desk 12 = .ok (.if_icmp .eq 20, 3) := by decide +kernel
theorem d_M_desk_15 : decode b_M_desk 15 = .ok (.iload_n 2, 1) := by decide +kernel
theorem d_M_desk_16 : decode b_M_desk 16 = .ok (.iconst 0, 1) := by decide +kernel
theorem d_M_desk_17 : decode b_M_desk 17 = .ok (.iload_n 1, 1) := by decide +kernel
theorem d_M_desk_18 : decode b_M_desk 18 = .ok (.iconst 1, 1) := by decide +kernel
theorem d_M_desk_19 : decode b_M_desk 19 = .ok (.isub, 1) := by decide +kernel
theorem d_M_desk_20 : decode b_M_desk 20 = .ok (.invokestatic 53, 3) := by decide +kernel
theorem d_M_desk_23 : decode b_M_desk 23 = .ok (.ifCond .ne 9, 3) := by decide +kernel
theorem d_M_desk_26 : decode b_M_desk 26 = .ok (.aload_n 0, 1) := by decide +kernel
theorem d_M_desk_27 : decode b_M_desk 27 = .ok (.iconst 1, 1) := by decide +kernel
theorem d_M_desk_28 : decode b_M_desk 28 = .ok (.invokevirtual 57, 3) := by decide +kernel
theorem d_M_desk_31 : decode b_M_desk 31 = .ok (.ireturn, 1) := by decide +kernel
theorem d_M_desk_32 : decode b_M_desk 32 = .ok (.aload_n 0, 1) := by decide +kernel
theorem d_M_desk_33 : decode b_M_desk 33 = .ok (.getfield 50, 3) := by decide +kernel
theorem d_M_desk_36 : decode b_M_desk 36 = .ok (.bipush 8, 2) := by decide +kernel
theorem d_M_desk_38 : decode b_M_desk 38 = .ok (.if_icmp .eq 10, 3) := by decide +kernel
theorem d_M_desk_41 : decode b_M_desk 41 = .ok (.aload_n 0, 1) := by decide +kernel
theorem d_M_desk_42 : decode b_M_desk 42 = .ok (.getfield 61, 3) := by decide +kernel
theorem d_M_desk_45 : decode b_M_desk 45 = .ok (.ifCond .eq 9, 3) := by decide +kernel
theorem d_M_desk_48 : decode b_M_desk 48 = .ok (.aload_n 0, 1) := by decide +kernel
theorem d_M_desk_49 : decode b_M_desk 49 = .ok (.iconst 2, 1) := by decide +kernel
theorem d_M_desk_50 : decode b_M_desk 50 = .ok (.invokevirtual 57, 3) := by decide +kernel
theorem d_M_desk_53 : decode b_M_desk 53 = .ok (.ireturn, 1) := by decide +kernel
theorem d_M_desk_54 : decode b_M_desk 54 = .ok (.aload_n 0, 1) := by decide +kernel
theorem d_M_desk_55 : decode b_M_desk 55 = .ok (.iconst 0, 1) := by decide +kernel
theorem d_M_desk_56 : decode b_M_desk 56 = .ok (.putfield 46, 3) := by decide +kernel
theorem d_M_desk_59 : decode b_M_desk 59 = .ok (.aload_n 0, 1) := by decide +kernel
theorem d_M_desk_60 : decode b_M_desk 60 = .ok (.getfield 7, 3) := by decide +kernel
theorem d_M_desk_63 : decode b_M_desk 63 = .ok (.aload_n 0, 1) := by decide +kernel
theorem d_M_desk_64 : decode b_M_desk 64 = .ok (.getfield 50, 3) := by decide +kernel
theorem d_M_desk_67 : decode b_M_desk 67 = .ok (.iload_n 1, 1) := by decide +kernel
theorem d_M_desk_68 : decode b_M_desk 68 = .ok (.iastore, 1) := by decide +kernel
theorem d_M_desk_69 : decode b_M_desk 69 = .ok (.aload_n 0, 1) := by decide +kernel
theorem d_M_desk_70 : decode b_M_desk 70 = .ok (.getfield 13, 3) := by decide +kernel
theorem d_M_desk_73 : decode b_M_desk 73 = .ok (.aload_n 0, 1) := by decide +kernel
theorem d_M_desk_74 : decode b_M_desk 74 = .ok (.getfield 50, 3) := by decide +kernel
theorem d_M_desk_77 : decode b_M_desk 77 = .ok (.iload_n 2, 1) := by decide +kernel
theorem d_M_desk_78 : decode b_M_desk 78 = .ok (.iastore, 1) := by decide +kernel
theorem d_M_desk_79 : decode b_M_desk 79 = .ok (.aload_n 0, 1) := by decide +kernel
theorem d_M_desk_80 : decode b_M_desk 80 = .ok (.getfield 34, 3) := by decide +kernel
theorem d_M_desk_83 : decode b_M_desk 83 = .ok (.aload_n 0, 1) := by decide +kernel
theorem d_M_desk_84 : decode b_M_desk 84 = .ok (.getfield 50, 3) := by decide +kernel
theorem d_M_desk_87 : decode b_M_desk 87 = .ok (.iconst (-1), 1) := by decide +kernel
theorem d_M_desk_88 : decode b_M_desk 88 = .ok (.iastore, 1) := by decide +kernel
theorem d_M_desk_89 : decode b_M_desk 89 = .ok (.aload_n 0, 1) := by decide +kernel
theorem d_M_desk_90 : decode b_M_desk 90 = .ok (.dup, 1) := by decide +kernel
theorem d_M_desk_91 : decode b_M_desk 91 = .ok (.getfield 50, 3) := by decide +kernel
theorem d_M_desk_94 : decode b_M_desk 94 = .ok (.iconst 1, 1) := by decide +kernel
theorem d_M_desk_95 : decode b_M_desk 95 = .ok (.iadd, 1) := by decide +kernel
theorem d_M_desk_96 : decode b_M_desk 96 = .ok (.putfield 50, 3) := by decide +kernel
theorem d_M_desk_99 : decode b_M_desk 99 = .ok (.aload_n 0, 1) := by decide +kernel
theorem d_M_desk_100 : decode b_M_desk 100 = .ok (.getfield 50, 3) := by decide +kernel
theorem d_M_desk_103 : decode b_M_desk 103 = .ok (.iconst 1, 1) := by decide +kernel
theorem d_M_desk_104 : decode b_M_desk 104 = .ok (.isub, 1) := by decide +kernel
theorem d_M_desk_105 : decode b_M_desk 105 = .ok (.ireturn, 1) := by decide +kernel
theorem d_M_held_0 : decode b_M_held 0 = .ok (.iconst 0, 1) := by decide +kernel
theorem d_M_held_1 : decode b_M_held 1 = .ok (.istore_n 2, 1) := by decide +kernel
theorem d_M_held_2 : decode b_M_held 2 = .ok (.iconst 0, 1) := by decide +kernel
theorem d_M_held_3 : decode b_M_held 3 = .ok (.istore_n 3, 1) := by decide +kernel
theorem d_M_held_4 : decode b_M_held 4 = .ok (.iload_n 3, 1) := by decide +kernel
theorem d_M_held_5 : decode b_M_held 5 = .ok (.bipush 16, 2) := by decide +kernel
theorem d_M_held_7 : decode b_M_held 7 = .ok (.if_icmp .ge 29, 3) := by decide +kernel
theorem d_M_held_10 : decode b_M_held 10 = .ok (.iload_n 2, 1) := by decide +kernel
theorem d_M_held_11 : decode b_M_held 11 = .ok (.aload_n 0, 1) := by decide +kernel
theorem d_M_held_12 : decode b_M_held 12 = .ok (.getfield 28, 3) := by decide +kernel
theorem d_M_held_15 : decode b_M_held 15 = .ok (.iload_n 3, 1) := by decide +kernel
theorem d_M_held_16 : decode b_M_held 16 = .ok (.iaload, 1) := by decide +kernel
theorem d_M_held_17 : decode b_M_held 17 = .ok (.iload_n 1, 1) := by decide +kernel
theorem d_M_held_18 : decode b_M_held 18 = .ok (.if_icmp .ne 9, 3) := by decide +kernel
theorem d_M_held_21 : decode b_M_held 21 = .ok (.iconst 1, 1) := by decide +kernel
theorem d_M_held_22 : decode b_M_held 22 = .ok (.iload_n 3, 1) := by decide +kernel
theorem d_M_held_23 : decode b_M_held 23 = .ok (.ishl, 1) := by decide +kernel
theorem d_M_held_24 : decode b_M_held 24 = .ok (.goto 4, 3) := by decide +kernel
theorem d_M_held_27 : decode b_M_held 27 = .ok (.iconst 0, 1) := by decide +kernel
theorem d_M_held_28 : decode b_M_held 28 = .ok (.ior, 1) := by decide +kernel
theorem d_M_held_29 : decode b_M_held 29 = .ok (.istore_n 2, 1) := by decide +kernel
theorem d_M_held_30 : decode b_M_held 30 = .ok (.iinc 3 1, 3) := by decide +kernel
theorem d_M_held_33 : decode b_M_held 33 = .ok (.goto (-29), 3) := by decide +kernel
theorem d_M_held_36 : decode b_M_held 36 = .ok (.iload_n 2, 1) := by decide +kernel
theorem d_M_held_37 : decode b_M_held 37 = .ok (.ireturn, 1) := by decide +kernel
theorem d_M_ones_0 : decode b_M_ones 0 = .ok (.iconst 0, 1) := by decide +kernel
theorem d_M_ones_1 : decode b_M_ones 1 = .ok (.istore_n 1, 1) := by decide +kernel
theorem d_M_ones_2 : decode b_M_ones 2 = .ok (.iconst 0, 1) := by decide +kernel
theorem d_M_ones_3 : decode b_M_ones 3 = .ok (.istore_n 2, 1) := by decide +kernel
theorem d_M_ones_4 : decode b_M_ones 4 = .ok (.iload_n 2, 1) := by decide +kernel
theorem d_M_ones_5 : decode b_M_ones 5 = .ok (.bipush 16, 2) := by decide +kernel
theorem d_M_ones_7 : decode b_M_ones 7 = .ok (.if_icmp .ge 17, 3) := by decide +kernel
theorem d_M_ones_10 : decode b_M_ones 10 = .ok (.iload_n 1, 1) := by decide +kernel
theorem d_M_ones_11 : decode b_M_ones 11 = .ok (.iload_n 0, 1) := by decide +kernel
theorem d_M_ones_12 : decode b_M_ones 12 = .ok (.iload_n 2, 1) := by decide +kernel
theorem d_M_ones_13 : decode b_M_ones 13 = .ok (.ishr, 1) := by decide +kernel
theorem d_M_ones_14 : decode b_M_ones 14 = .ok (.iconst 1, 1) := by decide +kernel
theorem d_M_ones_15 : decode b_M_ones 15 = .ok (.iand, 1) := by decide +kernel
theorem d_M_ones_16 : decode b_M_ones 16 = .ok (.iadd, 1) := by decide +kernel
theorem d_M_ones_17 : decode b_M_ones 17 = .ok (.istore_n 1, 1) := by decide +kernel
theorem d_M_ones_18 : decode b_M_ones 18 = .ok (.iinc 2 1, 3) := by decide +kernel
theorem d_M_ones_21 : decode b_M_ones 21 = .ok (.goto (-17), 3) := by decide +kernel
theorem d_M_ones_24 : decode b_M_ones 24 = .ok (.iload_n 1, 1) := by decide +kernel
theorem d_M_ones_25 : decode b_M_ones 25 = .ok (.ireturn, 1) := by decide +kernel
theorem d_M_isMidst_0 : decode b_M_isMidst 0 = .ok (.aload_n 0, 1) := by decide +kernel
theorem d_M_isMidst_1 : decode b_M_isMidst 1 = .ok (.iload_n 1, 1) := by decide +kernel
theorem d_M_isMidst_2 : decode b_M_isMidst 2 = .ok (.invokevirtual 65, 3) := by decide +kernel
theorem d_M_isMidst_5 : decode b_M_isMidst 5 = .ok (.ifCond .ne 13, 3) := by decide +kernel
theorem d_M_isMidst_8 : decode b_M_isMidst 8 = .ok (.aload_n 0, 1) := by decide +kernel
theorem d_M_isMidst_9 : decode b_M_isMidst 9 = .ok (.getfield 34, 3) := by decide +kernel
theorem d_M_isMidst_12 : decode b_M_isMidst 12 = .ok (.iload_n 1, 1) := by decide +kernel
theorem d_M_isMidst_13 : decode b_M_isMidst 13 = .ok (.iaload, 1) := by decide +kernel
theorem d_M_isMidst_14 : decode b_M_isMidst 14 = .ok (.iconst (-1), 1) := by decide +kernel
theorem d_M_isMidst_15 : decode b_M_isMidst 15 = .ok (.if_icmp .eq 7, 3) := by decide +kernel
theorem d_M_isMidst_18 : decode b_M_isMidst 18 = .ok (.iconst 1, 1) := by decide +kernel
theorem d_M_isMidst_19 : decode b_M_isMidst 19 = .ok (.goto 4, 3) := by decide +kernel
theorem d_M_isMidst_22 : decode b_M_isMidst 22 = .ok (.iconst 0, 1) := by decide +kernel
theorem d_M_isMidst_23 : decode b_M_isMidst 23 = .ok (.ireturn, 1) := by decide +kernel
theorem d_M_needs_0 : decode b_M_needs 0 = .ok (.aload_n 0, 1) := by decide +kernel
theorem d_M_needs_1 : decode b_M_needs 1 = .ok (.iconst 0, 1) := by decide +kernel
theorem d_M_needs_2 : decode b_M_needs 2 = .ok (.putfield 46, 3) := by decide +kernel
theorem d_M_needs_5 : decode b_M_needs 5 = .ok (.aload_n 0, 1) := by decide +kernel
theorem d_M_needs_6 : decode b_M_needs 6 = .ok (.iload_n 1, 1) := by decide +kernel
theorem d_M_needs_7 : decode b_M_needs 7 = .ok (.invokevirtual 68, 3) := by decide +kernel
theorem d_M_needs_10 : decode b_M_needs 10 = .ok (.ifCond .eq 45, 3) := by decide +kernel
theorem d_M_needs_13 : decode b_M_needs 13 = .ok (.iload_n 3, 1) := by decide +kernel
theorem d_M_needs_14 : decode b_M_needs 14 = .ok (.invokestatic 72, 3) := by decide +kernel
theorem d_M_needs_17 : decode b_M_needs 17 = .ok (.ifCond .eq 38, 3) := by decide +kernel
theorem d_M_needs_20 : decode b_M_needs 20 = .ok (.iload_n 2, 1) := by decide +kernel
theorem d_M_needs_21 : decode b_M_needs 21 = .ok (.iconst 0, 1) := by decide +kernel
theorem d_M_needs_22 : decode b_M_needs 22 = .ok (.aload_n 0, 1) := by decide +kernel
theorem d_M_needs_23 : decode b_M_needs 23 = .ok (.getfield 7, 3) := by decide +kernel
theorem d_M_needs_26 : decode b_M_needs 26 = .ok (.aload_n 0, 1) := by decide +kernel
theorem d_M_needs_27 : decode b_M_needs 27 = .ok (.iload_n 1, 1) := by decide +kernel
theorem d_M_needs_28 : decode b_M_needs 28 = .ok (.invokevirtual 68, 3) := by decide +kernel
theorem d_M_needs_31 : decode b_M_needs 31 = .ok (.ifCond .eq 7, 3) := by decide +kernel
theorem d_M_needs_34 : decode b_M_needs 34 = .ok (.iload_n 1, 1) := by decide +kernel
theorem d_M_needs_35 : decode b_M_needs 35 = .ok (.goto 4, 3) := by decide +kernel
theorem d_M_needs_38 : decode b_M_needs 38 = .ok (.iconst 0, 1) := by decide +kernel
theorem d_M_needs_39 : decode b_M_needs 39 = .ok (.iaload, 1) := by decide +kernel
theorem d_M_needs_40 : decode b_M_needs 40 = .ok (.iconst 1, 1) := by decide +kernel
theorem d_M_needs_41 : decode b_M_needs 41 = .ok (.isub, 1) := by decide +kernel
theorem d_M_needs_42 : decode b_M_needs 42 = .ok (.invokestatic 53, 3) := by decide +kernel
theorem d_M_needs_45 : decode b_M_needs 45 = .ok (.ifCond .eq 10, 3) := by decide +kernel
theorem d_M_needs_48 : decode b_M_needs 48 = .ok (.aload_n 0, 1) := by decide +kernel
theorem d_M_needs_49 : decode b_M_needs 49 = .ok (.getfield 61, 3) := by decide +kernel
theorem d_M_needs_52 : decode b_M_needs 52 = .ok (.ifCond .eq 5, 3) := by decide +kernel
theorem d_M_needs_55 : decode b_M_needs 55 = .ok (.iconst 0, 1) := by decide +kernel
theorem d_M_needs_56 : decode b_M_needs 56 = .ok (.ireturn, 1) := by decide +kernel
theorem d_M_needs_57 : decode b_M_needs 57 = .ok (.bipush 12, 2) := by decide +kernel
theorem d_M_needs_59 : decode b_M_needs 59 = .ok (.iload_n 1, 1) := by decide +kernel
theorem d_M_needs_60 : decode b_M_needs 60 = .ok (.imul, 1) := by decide +kernel
theorem d_M_needs_61 : decode b_M_needs 61 = .ok (.iload_n 2, 1) := by decide +kernel
theorem d_M_needs_62 : decode b_M_needs 62 = .ok (.iadd, 1) := by decide +kernel
theorem d_M_needs_63 : decode b_M_needs 63 = .ok (.istore 4, 2) := by decide +kernel
theorem d_M_needs_65 : decode b_M_needs 65 = .ok (.aload_n 0, 1) := by decide +kernel
theorem d_M_needs_66 : decode b_M_needs 66 = .ok (.getfield 25, 3) := by decide +kernel
theorem d_M_needs_69 : decode b_M_needs 69 = .ok (.iload 4, 2) := by decide +kernel
theorem d_M_needs_71 : decode b_M_needs 71 = .ok (.iaload, 1) := by decide +kernel
theorem d_M_needs_72 : decode b_M_needs 72 = .ok (.iload_n 3, 1) := by decide +kernel
theorem d_M_needs_73 : decode b_M_needs 73 = .ok (.ishr, 1) := by decide +kernel
theorem d_M_needs_74 : decode b_M_needs 74 = .ok (.iconst 1, 1) := by decide +kernel
theorem d_M_needs_75 : decode b_M_needs 75 = .ok (.iand, 1) := by decide +kernel
theorem d_M_needs_76 : decode b_M_needs 76 = .ok (.iconst 1, 1) := by decide +kernel
theorem d_M_needs_77 : decode b_M_needs 77 = .ok (.if_icmp .eq 31, 3) := by decide +kernel
theorem d_M_needs_80 : decode b_M_needs 80 = .ok (.iload_n 2, 1) := by decide +kernel
theorem d_M_needs_81 : decode b_M_needs 81 = .ok (.aload_n 0, 1) := by decide +kernel
theorem d_M_needs_82 : decode b_M_needs 82 = .ok (.getfield 16, 3) := by decide +kernel
theorem d_M_needs_85 : decode b_M_needs 85 = .ok (.iload_n 1, 1) := by decide +kernel
theorem d_M_needs_86 : decode b_M_needs 86 = .ok (.iaload, 1) := by decide +kernel
theorem d_M_needs_87 : decode b_M_needs 87 = .ok (.if_icmp .lt 21, 3) := by decide +kernel
theorem d_M_needs_90 : decode b_M_needs 90 = .ok (.iload_n 2, 1) := by decide +kernel
theorem d_M_needs_91 : decode b_M_needs 91 = .ok (.aload_n 0, 1) := by decide +kernel
theorem d_M_needs_92 : decode b_M_needs 92 = .ok (.getfield 16, 3) := by decide +kernel
theorem d_M_needs_95 : decode b_M_needs 95 = .ok (.iload_n 1, 1) := by decide +kernel
theorem d_M_needs_96 : decode b_M_needs 96 = .ok (.iaload, 1) := by decide +kernel
theorem d_M_needs_97 : decode b_M_needs 97 = .ok (.if_icmp .ne 13, 3) := by decide +kernel
theorem d_M_needs_100 : decode b_M_needs 100 = .ok (.aload_n 0, 1) := by decide +kernel
end
section
theorem d_M_needs_101 : decode b_M_needs 101 = .ok (.iload_n 1, 1) := by decide +kernel
theorem d_M_needs_102 : decode b_M_needs 102 = .ok (.invokevirtual 75, 3) := by decide +kernel
theorem d_M_needs_105 : decode b_M_needs 105 = .ok (.ifCond .eq 5, 3) := by decide +kernel
theorem d_M_needs_108 : decode b_M_needs 108 = .ok (.iconst 0, 1) := by decide +kernel
theorem d_M_needs_109 : decode b_M_needs 109 = .ok (.ireturn, 1) := by decide +kernel
theorem d_M_needs_110 : decode b_M_needs 110 = .ok (.aload_n 0, 1) := by decide +kernel
theorem d_M_needs_111 : decode b_M_needs 111 = .ok (.getfield 25, 3) := by decide +kernel
theorem d_M_needs_114 : decode b_M_needs 114 = .ok (.iload 4, 2) := by decide +kernel
theorem d_M_needs_116 : decode b_M_needs 116 = .ok (.dup2, 1) := by decide +kernel
theorem d_M_needs_117 : decode b_M_needs 117 = .ok (.iaload, 1) := by decide +kernel
theorem d_M_needs_118 : decode b_M_needs 118 = .ok (.iconst 1, 1) := by decide +kernel
theorem d_M_needs_119 : decode b_M_needs 119 = .ok (.iload_n 3, 1) := by decide +kernel
theorem d_M_needs_120 : decode b_M_needs 120 = .ok (.ishl, 1) := by decide +kernel
theorem d_M_needs_121 : decode b_M_needs 121 = .ok (.ior, 1) := by decide +kernel
theorem d_M_needs_122 : decode b_M_needs 122 = .ok (.iastore, 1) := by decide +kernel
theorem d_M_needs_123 : decode b_M_needs 123 = .ok (.iconst 1, 1) := by decide +kernel
theorem d_M_needs_124 : decode b_M_needs 124 = .ok (.ireturn, 1) := by decide +kernel
theorem d_M_write_0 : decode b_M_write 0 = .ok (.aload_n 0, 1) := by decide +kernel
theorem d_M_write_1 : decode b_M_write 1 = .ok (.getfield 78, 3) := by decide +kernel
theorem d_M_write_4 : decode b_M_write 4 = .ok (.sipush 400, 3) := by decide +kernel
theorem d_M_write_7 : decode b_M_write 7 = .ok (.if_icmp .ge 39, 3) := by decide +kernel
theorem d_M_write_10 : decode b_M_write 10 = .ok (.aload_n 0, 1) := by decide +kernel
theorem d_M_write_11 : decode b_M_write 11 = .ok (.getfield 43, 3) := by decide +kernel
theorem d_M_write_14 : decode b_M_write 14 = .ok (.aload_n 0, 1) := by decide +kernel
theorem d_M_write_15 : decode b_M_write 15 = .ok (.getfield 78, 3) := by decide +kernel
theorem d_M_write_18 : decode b_M_write 18 = .ok (.sipush 1000, 3) := by decide +kernel
theorem d_M_write_21 : decode b_M_write 21 = .ok (.iload_n 1, 1) := by decide +kernel
theorem d_M_write_22 : decode b_M_write 22 = .ok (.imul, 1) := by decide +kernel
theorem d_M_write_23 : decode b_M_write 23 = .ok (.bipush 100, 2) := by decide +kernel
theorem d_M_write_25 : decode b_M_write 25 = .ok (.iload_n 2, 1) := by decide +kernel
theorem d_M_write_26 : decode b_M_write 26 = .ok (.imul, 1) := by decide +kernel
theorem d_M_write_27 : decode b_M_write 27 = .ok (.iadd, 1) := by decide +kernel
theorem d_M_write_28 : decode b_M_write 28 = .ok (.aload_n 0, 1) := by decide +kernel
theorem d_M_write_29 : decode b_M_write 29 = .ok (.getfield 16, 3) := by decide +kernel
theorem d_M_write_32 : decode b_M_write 32 = .ok (.iload_n 2, 1) := by decide +kernel
theorem d_M_write_33 : decode b_M_write 33 = .ok (.iaload, 1) := by decide +kernel
theorem d_M_write_34 : decode b_M_write 34 = .ok (.iadd, 1) := by decide +kernel
theorem d_M_write_35 : decode b_M_write 35 = .ok (.iastore, 1) := by decide +kernel
theorem d_M_write_36 : decode b_M_write 36 = .ok (.aload_n 0, 1) := by decide +kernel
theorem d_M_write_37 : decode b_M_write 37 = .ok (.dup, 1) := by decide +kernel
theorem d_M_write_38 : decode b_M_write 38 = .ok (.getfield 78, 3) := by decide +kernel
theorem d_M_write_41 : decode b_M_write 41 = .ok (.iconst 1, 1) := by decide +kernel
theorem d_M_write_42 : decode b_M_write 42 = .ok (.iadd, 1) := by decide +kernel
theorem d_M_write_43 : decode b_M_write 43 = .ok (.putfield 78, 3) := by decide +kernel
theorem d_M_write_46 : decode b_M_write 46 = .ok (.return_, 1) := by decide +kernel
theorem d_M_first_0 : decode b_M_first 0 = .ok (.iconst (-1), 1) := by decide +kernel
theorem d_M_first_1 : decode b_M_first 1 = .ok (.istore_n 2, 1) := by decide +kernel
theorem d_M_first_2 : decode b_M_first 2 = .ok (.iconst 0, 1) := by decide +kernel
theorem d_M_first_3 : decode b_M_first 3 = .ok (.istore_n 3, 1) := by decide +kernel
theorem d_M_first_4 : decode b_M_first 4 = .ok (.iload_n 3, 1) := by decide +kernel
theorem d_M_first_5 : decode b_M_first 5 = .ok (.aload_n 0, 1) := by decide +kernel
theorem d_M_first_6 : decode b_M_first 6 = .ok (.getfield 50, 3) := by decide +kernel
theorem d_M_first_9 : decode b_M_first 9 = .ok (.if_icmp .ge 52, 3) := by decide +kernel
theorem d_M_first_12 : decode b_M_first 12 = .ok (.aload_n 0, 1) := by decide +kernel
theorem d_M_first_13 : decode b_M_first 13 = .ok (.getfield 34, 3) := by decide +kernel
theorem d_M_first_16 : decode b_M_first 16 = .ok (.iload_n 3, 1) := by decide +kernel
theorem d_M_first_17 : decode b_M_first 17 = .ok (.iaload, 1) := by decide +kernel
theorem d_M_first_18 : decode b_M_first 18 = .ok (.iload_n 1, 1) := by decide +kernel
theorem d_M_first_19 : decode b_M_first 19 = .ok (.if_icmp .ne 34, 3) := by decide +kernel
theorem d_M_first_22 : decode b_M_first 22 = .ok (.iload_n 2, 1) := by decide +kernel
theorem d_M_first_23 : decode b_M_first 23 = .ok (.ifCond .lt 26, 3) := by decide +kernel
theorem d_M_first_26 : decode b_M_first 26 = .ok (.aload_n 0, 1) := by decide +kernel
theorem d_M_first_27 : decode b_M_first 27 = .ok (.getfield 37, 3) := by decide +kernel
theorem d_M_first_30 : decode b_M_first 30 = .ok (.iload_n 3, 1) := by decide +kernel
theorem d_M_first_31 : decode b_M_first 31 = .ok (.iaload, 1) := by decide +kernel
theorem d_M_first_32 : decode b_M_first 32 = .ok (.aload_n 0, 1) := by decide +kernel
theorem d_M_first_33 : decode b_M_first 33 = .ok (.getfield 37, 3) := by decide +kernel
theorem d_M_first_36 : decode b_M_first 36 = .ok (.iload_n 2, 1) := by decide +kernel
theorem d_M_first_37 : decode b_M_first 37 = .ok (.ifCond .ge 7, 3) := by decide +kernel
theorem d_M_first_40 : decode b_M_first 40 = .ok (.iload_n 3, 1) := by decide +kernel
theorem d_M_first_41 : decode b_M_first 41 = .ok (.goto 4, 3) := by decide +kernel
theorem d_M_first_44 : decode b_M_first 44 = .ok (.iload_n 2, 1) := by decide +kernel
theorem d_M_first_45 : decode b_M_first 45 = .ok (.iaload, 1) := by decide +kernel
theorem d_M_first_46 : decode b_M_first 46 = .ok (.if_icmp .ge 7, 3) := by decide +kernel
theorem d_M_first_49 : decode b_M_first 49 = .ok (.iload_n 3, 1) := by decide +kernel
theorem d_M_first_50 : decode b_M_first 50 = .ok (.goto 4, 3) := by decide +kernel
theorem d_M_first_53 : decode b_M_first 53 = .ok (.iload_n 2, 1) := by decide +kernel
theorem d_M_first_54 : decode b_M_first 54 = .ok (.istore_n 2, 1) := by decide +kernel
theorem d_M_first_55 : decode b_M_first 55 = .ok (.iinc 3 1, 3) := by decide +kernel
theorem d_M_first_58 : decode b_M_first 58 = .ok (.goto (-54), 3) := by decide +kernel
theorem d_M_first_61 : decode b_M_first 61 = .ok (.iload_n 2, 1) := by decide +kernel
theorem d_M_first_62 : decode b_M_first 62 = .ok (.ireturn, 1) := by decide +kernel
theorem d_M_giveBack_0 : decode b_M_giveBack 0 = .ok (.aload_n 0, 1) := by decide +kernel
theorem d_M_giveBack_1 : decode b_M_giveBack 1 = .ok (.iload_n 1, 1) := by decide +kernel
theorem d_M_giveBack_2 : decode b_M_giveBack 2 = .ok (.invokevirtual 81, 3) := by decide +kernel
theorem d_M_giveBack_5 : decode b_M_giveBack 5 = .ok (.istore_n 2, 1) := by decide +kernel
theorem d_M_giveBack_6 : decode b_M_giveBack 6 = .ok (.aload_n 0, 1) := by decide +kernel
theorem d_M_giveBack_7 : decode b_M_giveBack 7 = .ok (.getfield 28, 3) := by decide +kernel
theorem d_M_giveBack_10 : decode b_M_giveBack 10 = .ok (.iload_n 1, 1) := by decide +kernel
theorem d_M_giveBack_11 : decode b_M_giveBack 11 = .ok (.iload_n 2, 1) := by decide +kernel
theorem d_M_giveBack_12 : decode b_M_giveBack 12 = .ok (.iastore, 1) := by decide +kernel
theorem d_M_giveBack_13 : decode b_M_giveBack 13 = .ok (.aload_n 0, 1) := by decide +kernel
theorem d_M_giveBack_14 : decode b_M_giveBack 14 = .ok (.getfield 31, 3) := by decide +kernel
theorem d_M_giveBack_17 : decode b_M_giveBack 17 = .ok (.iload_n 1, 1) := by decide +kernel
theorem d_M_giveBack_18 : decode b_M_giveBack 18 = .ok (.aload_n 0, 1) := by decide +kernel
theorem d_M_giveBack_19 : decode b_M_giveBack 19 = .ok (.getfield 84, 3) := by decide +kernel
theorem d_M_giveBack_22 : decode b_M_giveBack 22 = .ok (.iastore, 1) := by decide +kernel
theorem d_M_giveBack_23 : decode b_M_giveBack 23 = .ok (.iload_n 2, 1) := by decide +kernel
theorem d_M_giveBack_24 : decode b_M_giveBack 24 = .ok (.ifCond .lt 17, 3) := by decide +kernel
theorem d_M_giveBack_27 : decode b_M_giveBack 27 = .ok (.aload_n 0, 1) := by decide +kernel
theorem d_M_giveBack_28 : decode b_M_giveBack 28 = .ok (.getfield 34, 3) := by decide +kernel
theorem d_M_giveBack_31 : decode b_M_giveBack 31 = .ok (.iload_n 2, 1) := by decide +kernel
theorem d_M_giveBack_32 : decode b_M_giveBack 32 = .ok (.iconst (-1), 1) := by decide +kernel
theorem d_M_giveBack_33 : decode b_M_giveBack 33 = .ok (.iastore, 1) := by decide +kernel
theorem d_M_giveBack_34 : decode b_M_giveBack 34 = .ok (.aload_n 0, 1) := by decide +kernel
theorem d_M_giveBack_35 : decode b_M_giveBack 35 = .ok (.getfield 22, 3) := by decide +kernel
theorem d_M_giveBack_38 : decode b_M_giveBack 38 = .ok (.iload_n 2, 1) := by decide +kernel
theorem d_M_giveBack_39 : decode b_M_giveBack 39 = .ok (.iconst 0, 1) := by decide +kernel
theorem d_M_giveBack_40 : decode b_M_giveBack 40 = .ok (.iastore, 1) := by decide +kernel
theorem d_M_giveBack_41 : decode b_M_giveBack 41 = .ok (.return_, 1) := by decide +kernel
theorem d_M_giveAll_0 : decode b_M_giveAll 0 = .ok (.aload_n 0, 1) := by decide +kernel
theorem d_M_giveAll_1 : decode b_M_giveAll 1 = .ok (.iload_n 1, 1) := by decide +kernel
theorem d_M_giveAll_2 : decode b_M_giveAll 2 = .ok (.invokevirtual 65, 3) := by decide +kernel
theorem d_M_giveAll_5 : decode b_M_giveAll 5 = .ok (.istore_n 2, 1) := by decide +kernel
theorem d_M_giveAll_6 : decode b_M_giveAll 6 = .ok (.iconst 0, 1) := by decide +kernel
theorem d_M_giveAll_7 : decode b_M_giveAll 7 = .ok (.istore_n 3, 1) := by decide +kernel
theorem d_M_giveAll_8 : decode b_M_giveAll 8 = .ok (.iload_n 3, 1) := by decide +kernel
theorem d_M_giveAll_9 : decode b_M_giveAll 9 = .ok (.bipush 16, 2) := by decide +kernel
theorem d_M_giveAll_11 : decode b_M_giveAll 11 = .ok (.if_icmp .ge 23, 3) := by decide +kernel
theorem d_M_giveAll_14 : decode b_M_giveAll 14 = .ok (.iload_n 2, 1) := by decide +kernel
theorem d_M_giveAll_15 : decode b_M_giveAll 15 = .ok (.iload_n 3, 1) := by decide +kernel
theorem d_M_giveAll_16 : decode b_M_giveAll 16 = .ok (.ishr, 1) := by decide +kernel
theorem d_M_giveAll_17 : decode b_M_giveAll 17 = .ok (.iconst 1, 1) := by decide +kernel
theorem d_M_giveAll_18 : decode b_M_giveAll 18 = .ok (.iand, 1) := by decide +kernel
theorem d_M_giveAll_19 : decode b_M_giveAll 19 = .ok (.iconst 1, 1) := by decide +kernel
theorem d_M_giveAll_20 : decode b_M_giveAll 20 = .ok (.if_icmp .ne 8, 3) := by decide +kernel
theorem d_M_giveAll_23 : decode b_M_giveAll 23 = .ok (.aload_n 0, 1) := by decide +kernel
theorem d_M_giveAll_24 : decode b_M_giveAll 24 = .ok (.iload_n 3, 1) := by decide +kernel
theorem d_M_giveAll_25 : decode b_M_giveAll 25 = .ok (.invokevirtual 87, 3) := by decide +kernel
theorem d_M_giveAll_28 : decode b_M_giveAll 28 = .ok (.iinc 3 1, 3) := by decide +kernel
theorem d_M_giveAll_31 : decode b_M_giveAll 31 = .ok (.goto (-23), 3) := by decide +kernel
theorem d_M_giveAll_34 : decode b_M_giveAll 34 = .ok (.return_, 1) := by decide +kernel
theorem d_M_goesOn_0 : decode b_M_goesOn 0 = .ok (.aload_n 0, 1) := by decide +kernel
theorem d_M_goesOn_1 : decode b_M_goesOn 1 = .ok (.getfield 16, 3) := by decide +kernel
theorem d_M_goesOn_4 : decode b_M_goesOn 4 = .ok (.iload_n 1, 1) := by decide +kernel
theorem d_M_goesOn_5 : decode b_M_goesOn 5 = .ok (.dup2, 1) := by decide +kernel
theorem d_M_goesOn_6 : decode b_M_goesOn 6 = .ok (.iaload, 1) := by decide +kernel
theorem d_M_goesOn_7 : decode b_M_goesOn 7 = .ok (.iconst 1, 1) := by decide +kernel
theorem d_M_goesOn_8 : decode b_M_goesOn 8 = .ok (.iadd, 1) := by decide +kernel
theorem d_M_goesOn_9 : decode b_M_goesOn 9 = .ok (.iastore, 1) := by decide +kernel
theorem d_M_goesOn_10 : decode b_M_goesOn 10 = .ok (.aload_n 0, 1) := by decide +kernel
theorem d_M_goesOn_11 : decode b_M_goesOn 11 = .ok (.getfield 22, 3) := by decide +kernel
theorem d_M_goesOn_14 : decode b_M_goesOn 14 = .ok (.iload_n 1, 1) := by decide +kernel
theorem d_M_goesOn_15 : decode b_M_goesOn 15 = .ok (.aload_n 0, 1) := by decide +kernel
theorem d_M_goesOn_16 : decode b_M_goesOn 16 = .ok (.getfield 16, 3) := by decide +kernel
theorem d_M_goesOn_19 : decode b_M_goesOn 19 = .ok (.iload_n 1, 1) := by decide +kernel
theorem d_M_goesOn_20 : decode b_M_goesOn 20 = .ok (.iaload, 1) := by decide +kernel
theorem d_M_goesOn_21 : decode b_M_goesOn 21 = .ok (.aload_n 0, 1) := by decide +kernel
theorem d_M_goesOn_22 : decode b_M_goesOn 22 = .ok (.getfield 7, 3) := by decide +kernel
theorem d_M_goesOn_25 : decode b_M_goesOn 25 = .ok (.iload_n 1, 1) := by decide +kernel
theorem d_M_goesOn_26 : decode b_M_goesOn 26 = .ok (.iaload, 1) := by decide +kernel
theorem d_M_goesOn_27 : decode b_M_goesOn 27 = .ok (.if_icmp .ne 7, 3) := by decide +kernel
theorem d_M_goesOn_30 : decode b_M_goesOn 30 = .ok (.iconst 2, 1) := by decide +kernel
theorem d_M_goesOn_31 : decode b_M_goesOn 31 = .ok (.goto 4, 3) := by decide +kernel
theorem d_M_goesOn_34 : decode b_M_goesOn 34 = .ok (.iconst 0, 1) := by decide +kernel
theorem d_M_goesOn_35 : decode b_M_goesOn 35 = .ok (.iastore, 1) := by decide +kernel
theorem d_M_goesOn_36 : decode b_M_goesOn 36 = .ok (.return_, 1) := by decide +kernel
theorem d_M_steps_0 : decode b_M_steps 0 = .ok (.aload_n 0, 1) := by decide +kernel
theorem d_M_steps_1 : decode b_M_steps 1 = .ok (.getfield 25, 3) := by decide +kernel
theorem d_M_steps_4 : decode b_M_steps 4 = .ok (.bipush 12, 2) := by decide +kernel
theorem d_M_steps_6 : decode b_M_steps 6 = .ok (.iload_n 1, 1) := by decide +kernel
theorem d_M_steps_7 : decode b_M_steps 7 = .ok (.imul, 1) := by decide +kernel
theorem d_M_steps_8 : decode b_M_steps 8 = .ok (.aload_n 0, 1) := by decide +kernel
theorem d_M_steps_9 : decode b_M_steps 9 = .ok (.getfield 16, 3) := by decide +kernel
theorem d_M_steps_12 : decode b_M_steps 12 = .ok (.iload_n 1, 1) := by decide +kernel
theorem d_M_steps_13 : decode b_M_steps 13 = .ok (.iaload, 1) := by decide +kernel
theorem d_M_steps_14 : decode b_M_steps 14 = .ok (.iadd, 1) := by decide +kernel
theorem d_M_steps_15 : decode b_M_steps 15 = .ok (.iaload, 1) := by decide +kernel
theorem d_M_steps_16 : decode b_M_steps 16 = .ok (.aload_n 0, 1) := by decide +kernel
theorem d_M_steps_17 : decode b_M_steps 17 = .ok (.iload_n 1, 1) := by decide +kernel
theorem d_M_steps_18 : decode b_M_steps 18 = .ok (.invokevirtual 65, 3) := by decide +kernel
theorem d_M_steps_21 : decode b_M_steps 21 = .ok (.iconst (-1), 1) := by decide +kernel
theorem d_M_steps_22 : decode b_M_steps 22 = .ok (.ixor, 1) := by decide +kernel
theorem d_M_steps_23 : decode b_M_steps 23 = .ok (.iand, 1) := by decide +kernel
theorem d_M_steps_24 : decode b_M_steps 24 = .ok (.istore_n 2, 1) := by decide +kernel
theorem d_M_steps_25 : decode b_M_steps 25 = .ok (.iload_n 2, 1) := by decide +kernel
theorem d_M_steps_26 : decode b_M_steps 26 = .ok (.ifCond .eq 84, 3) := by decide +kernel
theorem d_M_steps_29 : decode b_M_steps 29 = .ok (.iconst 0, 1) := by decide +kernel
theorem d_M_steps_30 : decode b_M_steps 30 = .ok (.istore_n 3, 1) := by decide +kernel
theorem d_M_steps_31 : decode b_M_steps 31 = .ok (.iload_n 2, 1) := by decide +kernel
theorem d_M_steps_32 : decode b_M_steps 32 = .ok (.iload_n 3, 1) := by decide +kernel
theorem d_M_steps_33 : decode b_M_steps 33 = .ok (.ishr, 1) := by decide +kernel
theorem d_M_steps_34 : decode b_M_steps 34 = .ok (.iconst 1, 1) := by decide +kernel
theorem d_M_steps_35 : decode b_M_steps 35 = .ok (.iand, 1) := by decide +kernel
theorem d_M_steps_36 : decode b_M_steps 36 = .ok (.ifCond .ne 9, 3) := by decide +kernel
theorem d_M_steps_39 : decode b_M_steps 39 = .ok (.iinc 3 1, 3) := by decide +kernel
theorem d_M_steps_42 : decode b_M_steps 42 = .ok (.goto (-11), 3) := by decide +kernel
theorem d_M_steps_45 : decode b_M_steps 45 = .ok (.aload_n 0, 1) := by decide +kernel
theorem d_M_steps_46 : decode b_M_steps 46 = .ok (.getfield 28, 3) := by decide +kernel
theorem d_M_steps_49 : decode b_M_steps 49 = .ok (.iload_n 3, 1) := by decide +kernel
theorem d_M_steps_50 : decode b_M_steps 50 = .ok (.iaload, 1) := by decide +kernel
theorem d_M_steps_51 : decode b_M_steps 51 = .ok (.ifCond .ge 23, 3) := by decide +kernel
theorem d_M_steps_54 : decode b_M_steps 54 = .ok (.aload_n 0, 1) := by decide +kernel
theorem d_M_steps_55 : decode b_M_steps 55 = .ok (.getfield 28, 3) := by decide +kernel
theorem d_M_steps_58 : decode b_M_steps 58 = .ok (.iload_n 3, 1) := by decide +kernel
theorem d_M_steps_59 : decode b_M_steps 59 = .ok (.iload_n 1, 1) := by decide +kernel
theorem d_M_steps_60 : decode b_M_steps 60 = .ok (.iastore, 1) := by decide +kernel
theorem d_M_steps_61 : decode b_M_steps 61 = .ok (.aload_n 0, 1) := by decide +kernel
theorem d_M_steps_62 : decode b_M_steps 62 = .ok (.getfield 31, 3) := by decide +kernel
theorem d_M_steps_65 : decode b_M_steps 65 = .ok (.iload_n 3, 1) := by decide +kernel
theorem d_M_steps_66 : decode b_M_steps 66 = .ok (.aload_n 0, 1) := by decide +kernel
theorem d_M_steps_67 : decode b_M_steps 67 = .ok (.getfield 84, 3) := by decide +kernel
theorem d_M_steps_70 : decode b_M_steps 70 = .ok (.iastore, 1) := by decide +kernel
theorem d_M_steps_71 : decode b_M_steps 71 = .ok (.goto 37, 3) := by decide +kernel
theorem d_M_steps_74 : decode b_M_steps 74 = .ok (.aload_n 0, 1) := by decide +kernel
theorem d_M_steps_75 : decode b_M_steps 75 = .ok (.getfield 34, 3) := by decide +kernel
theorem d_M_steps_78 : decode b_M_steps 78 = .ok (.iload_n 1, 1) := by decide +kernel
theorem d_M_steps_79 : decode b_M_steps 79 = .ok (.iload_n 3, 1) := by decide +kernel
theorem d_M_steps_80 : decode b_M_steps 80 = .ok (.iastore, 1) := by decide +kernel
theorem d_M_steps_81 : decode b_M_steps 81 = .ok (.aload_n 0, 1) := by decide +kernel
theorem d_M_steps_82 : decode b_M_steps 82 = .ok (.getfield 37, 3) := by decide +kernel
theorem d_M_steps_85 : decode b_M_steps 85 = .ok (.iload_n 1, 1) := by decide +kernel
theorem d_M_steps_86 : decode b_M_steps 86 = .ok (.aload_n 0, 1) := by decide +kernel
theorem d_M_steps_87 : decode b_M_steps 87 = .ok (.getfield 91, 3) := by decide +kernel
theorem d_M_steps_90 : decode b_M_steps 90 = .ok (.iastore, 1) := by decide +kernel
theorem d_M_steps_91 : decode b_M_steps 91 = .ok (.aload_n 0, 1) := by decide +kernel
theorem d_M_steps_92 : decode b_M_steps 92 = .ok (.dup, 1) := by decide +kernel
theorem d_M_steps_93 : decode b_M_steps 93 = .ok (.getfield 91, 3) := by decide +kernel
theorem d_M_steps_96 : decode b_M_steps 96 = .ok (.iconst 1, 1) := by decide +kernel
theorem d_M_steps_97 : decode b_M_steps 97 = .ok (.iadd, 1) := by decide +kernel
theorem d_M_steps_98 : decode b_M_steps 98 = .ok (.putfield 91, 3) := by decide +kernel
theorem d_M_steps_101 : decode b_M_steps 101 = .ok (.aload_n 0, 1) := by decide +kernel
theorem d_M_steps_102 : decode b_M_steps 102 = .ok (.getfield 22, 3) := by decide +kernel
theorem d_M_steps_105 : decode b_M_steps 105 = .ok (.iload_n 1, 1) := by decide +kernel
theorem d_M_steps_106 : decode b_M_steps 106 = .ok (.iconst 1, 1) := by decide +kernel
theorem d_M_steps_107 : decode b_M_steps 107 = .ok (.iastore, 1) := by decide +kernel
theorem d_M_steps_108 : decode b_M_steps 108 = .ok (.iconst 0, 1) := by decide +kernel
theorem d_M_steps_109 : decode b_M_steps 109 = .ok (.ireturn, 1) := by decide +kernel
theorem d_M_steps_110 : decode b_M_steps 110 = .ok (.aload_n 0, 1) := by decide +kernel
theorem d_M_steps_111 : decode b_M_steps 111 = .ok (.getfield 13, 3) := by decide +kernel
theorem d_M_steps_114 : decode b_M_steps 114 = .ok (.iload_n 1, 1) := by decide +kernel
theorem d_M_steps_115 : decode b_M_steps 115 = .ok (.iaload, 1) := by decide +kernel
theorem d_M_steps_116 : decode b_M_steps 116 = .ok (.aload_n 0, 1) := by decide +kernel
theorem d_M_steps_117 : decode b_M_steps 117 = .ok (.getfield 16, 3) := by decide +kernel
theorem d_M_steps_120 : decode b_M_steps 120 = .ok (.iload_n 1, 1) := by decide +kernel
theorem d_M_steps_121 : decode b_M_steps 121 = .ok (.iaload, 1) := by decide +kernel
theorem d_M_steps_122 : decode b_M_steps 122 = .ok (.if_icmp .ne 7, 3) := by decide +kernel
theorem d_M_steps_125 : decode b_M_steps 125 = .ok (.iconst 1, 1) := by decide +kernel
theorem d_M_steps_126 : decode b_M_steps 126 = .ok (.goto 4, 3) := by decide +kernel
theorem d_M_steps_129 : decode b_M_steps 129 = .ok (.iconst 0, 1) := by decide +kernel
theorem d_M_steps_130 : decode b_M_steps 130 = .ok (.istore_n 3, 1) := by decide +kernel
theorem d_M_steps_131 : decode b_M_steps 131 = .ok (.aload_n 0, 1) := by decide +kernel
theorem d_M_steps_132 : decode b_M_steps 132 = .ok (.iload_n 3, 1) := by decide +kernel
theorem d_M_steps_133 : decode b_M_steps 133 = .ok (.ifCond .eq 7, 3) := by decide +kernel
theorem d_M_steps_136 : decode b_M_steps 136 = .ok (.iconst 2, 1) := by decide +kernel
theorem d_M_steps_137 : decode b_M_steps 137 = .ok (.goto 4, 3) := by decide +kernel
theorem d_M_steps_140 : decode b_M_steps 140 = .ok (.iconst 1, 1) := by decide +kernel
theorem d_M_steps_141 : decode b_M_steps 141 = .ok (.iload_n 1, 1) := by decide +kernel
theorem d_M_steps_142 : decode b_M_steps 142 = .ok (.invokevirtual 94, 3) := by decide +kernel
theorem d_M_steps_145 : decode b_M_steps 145 = .ok (.aload_n 0, 1) := by decide +kernel
theorem d_M_steps_146 : decode b_M_steps 146 = .ok (.getfield 13, 3) := by decide +kernel
theorem d_M_steps_149 : decode b_M_steps 149 = .ok (.iload_n 1, 1) := by decide +kernel
theorem d_M_steps_150 : decode b_M_steps 150 = .ok (.iload_n 3, 1) := by decide +kernel
theorem d_M_steps_151 : decode b_M_steps 151 = .ok (.ifCond .eq 7, 3) := by decide +kernel
theorem d_M_steps_154 : decode b_M_steps 154 = .ok (.iconst (-1), 1) := by decide +kernel
theorem d_M_steps_155 : decode b_M_steps 155 = .ok (.goto 9, 3) := by decide +kernel
theorem d_M_steps_158 : decode b_M_steps 158 = .ok (.aload_n 0, 1) := by decide +kernel
theorem d_M_steps_159 : decode b_M_steps 159 = .ok (.getfield 13, 3) := by decide +kernel
theorem d_M_steps_162 : decode b_M_steps 162 = .ok (.iload_n 1, 1) := by decide +kernel
theorem d_M_steps_163 : decode b_M_steps 163 = .ok (.iaload, 1) := by decide +kernel
theorem d_M_steps_164 : decode b_M_steps 164 = .ok (.iastore, 1) := by decide +kernel
theorem d_M_steps_165 : decode b_M_steps 165 = .ok (.aload_n 0, 1) := by decide +kernel
theorem d_M_steps_166 : decode b_M_steps 166 = .ok (.iload_n 1, 1) := by decide +kernel
theorem d_M_steps_167 : decode b_M_steps 167 = .ok (.invokevirtual 98, 3) := by decide +kernel
theorem d_M_steps_170 : decode b_M_steps 170 = .ok (.iload_n 3, 1) := by decide +kernel
theorem d_M_steps_171 : decode b_M_steps 171 = .ok (.ifCond .ne 18, 3) := by decide +kernel
theorem d_M_steps_174 : decode b_M_steps 174 = .ok (.aload_n 0, 1) := by decide +kernel
theorem d_M_steps_175 : decode b_M_steps 175 = .ok (.getfield 19, 3) := by decide +kernel
theorem d_M_steps_178 : decode b_M_steps 178 = .ok (.iload_n 1, 1) := by decide +kernel
theorem d_M_steps_179 : decode b_M_steps 179 = .ok (.dup2, 1) := by decide +kernel
theorem d_M_steps_180 : decode b_M_steps 180 = .ok (.iaload, 1) := by decide +kernel
theorem d_M_steps_181 : decode b_M_steps 181 = .ok (.iconst 1, 1) := by decide +kernel
theorem d_M_steps_182 : decode b_M_steps 182 = .ok (.iadd, 1) := by decide +kernel
theorem d_M_steps_183 : decode b_M_steps 183 = .ok (.iastore, 1) := by decide +kernel
theorem d_M_steps_184 : decode b_M_steps 184 = .ok (.aload_n 0, 1) := by decide +kernel
theorem d_M_steps_185 : decode b_M_steps 185 = .ok (.iload_n 1, 1) := by decide +kernel
theorem d_M_steps_186 : decode b_M_steps 186 = .ok (.invokevirtual 101, 3) := by decide +kernel
end
section
theorem d_M_steps_189 : decode b_M_steps 189 = .ok (.iload_n 3, 1) := by decide +kernel
theorem d_M_steps_190 : decode b_M_steps 190 = .ok (.ifCond .ne 7, 3) := by decide +kernel
theorem d_M_steps_193 : decode b_M_steps 193 = .ok (.iconst 1, 1) := by decide +kernel
theorem d_M_steps_194 : decode b_M_steps 194 = .ok (.goto 4, 3) := by decide +kernel
theorem d_M_steps_197 : decode b_M_steps 197 = .ok (.iconst 0, 1) := by decide +kernel
theorem d_M_steps_198 : decode b_M_steps 198 = .ok (.ireturn, 1) := by decide +kernel
theorem d_M_turn_0 : decode b_M_turn 0 = .ok (.aload_n 0, 1) := by decide +kernel
theorem d_M_turn_1 : decode b_M_turn 1 = .ok (.iload_n 1, 1) := by decide +kernel
theorem d_M_turn_2 : decode b_M_turn 2 = .ok (.invokevirtual 68, 3) := by decide +kernel
theorem d_M_turn_5 : decode b_M_turn 5 = .ok (.ifCond .ne 9, 3) := by decide +kernel
theorem d_M_turn_8 : decode b_M_turn 8 = .ok (.aload_n 0, 1) := by decide +kernel
theorem d_M_turn_9 : decode b_M_turn 9 = .ok (.iconst 1, 1) := by decide +kernel
theorem d_M_turn_10 : decode b_M_turn 10 = .ok (.invokevirtual 57, 3) := by decide +kernel
theorem d_M_turn_13 : decode b_M_turn 13 = .ok (.ireturn, 1) := by decide +kernel
theorem d_M_turn_14 : decode b_M_turn 14 = .ok (.aload_n 0, 1) := by decide +kernel
theorem d_M_turn_15 : decode b_M_turn 15 = .ok (.getfield 104, 3) := by decide +kernel
theorem d_M_turn_18 : decode b_M_turn 18 = .ok (.sipush 300, 3) := by decide +kernel
theorem d_M_turn_21 : decode b_M_turn 21 = .ok (.if_icmp .eq 10, 3) := by decide +kernel
theorem d_M_turn_24 : decode b_M_turn 24 = .ok (.aload_n 0, 1) := by decide +kernel
theorem d_M_turn_25 : decode b_M_turn 25 = .ok (.getfield 61, 3) := by decide +kernel
theorem d_M_turn_28 : decode b_M_turn 28 = .ok (.ifCond .eq 9, 3) := by decide +kernel
theorem d_M_turn_31 : decode b_M_turn 31 = .ok (.aload_n 0, 1) := by decide +kernel
theorem d_M_turn_32 : decode b_M_turn 32 = .ok (.iconst 2, 1) := by decide +kernel
theorem d_M_turn_33 : decode b_M_turn 33 = .ok (.invokevirtual 57, 3) := by decide +kernel
theorem d_M_turn_36 : decode b_M_turn 36 = .ok (.ireturn, 1) := by decide +kernel
theorem d_M_turn_37 : decode b_M_turn 37 = .ok (.aload_n 0, 1) := by decide +kernel
theorem d_M_turn_38 : decode b_M_turn 38 = .ok (.iconst 0, 1) := by decide +kernel
theorem d_M_turn_39 : decode b_M_turn 39 = .ok (.putfield 46, 3) := by decide +kernel
theorem d_M_turn_42 : decode b_M_turn 42 = .ok (.aload_n 0, 1) := by decide +kernel
theorem d_M_turn_43 : decode b_M_turn 43 = .ok (.getfield 40, 3) := by decide +kernel
theorem d_M_turn_46 : decode b_M_turn 46 = .ok (.aload_n 0, 1) := by decide +kernel
theorem d_M_turn_47 : decode b_M_turn 47 = .ok (.getfield 104, 3) := by decide +kernel
theorem d_M_turn_50 : decode b_M_turn 50 = .ok (.iload_n 1, 1) := by decide +kernel
theorem d_M_turn_51 : decode b_M_turn 51 = .ok (.iastore, 1) := by decide +kernel
theorem d_M_turn_52 : decode b_M_turn 52 = .ok (.aload_n 0, 1) := by decide +kernel
theorem d_M_turn_53 : decode b_M_turn 53 = .ok (.dup, 1) := by decide +kernel
theorem d_M_turn_54 : decode b_M_turn 54 = .ok (.getfield 104, 3) := by decide +kernel
theorem d_M_turn_57 : decode b_M_turn 57 = .ok (.iconst 1, 1) := by decide +kernel
theorem d_M_turn_58 : decode b_M_turn 58 = .ok (.iadd, 1) := by decide +kernel
theorem d_M_turn_59 : decode b_M_turn 59 = .ok (.putfield 104, 3) := by decide +kernel
theorem d_M_turn_62 : decode b_M_turn 62 = .ok (.aload_n 0, 1) := by decide +kernel
theorem d_M_turn_63 : decode b_M_turn 63 = .ok (.getfield 104, 3) := by decide +kernel
theorem d_M_turn_66 : decode b_M_turn 66 = .ok (.aload_n 0, 1) := by decide +kernel
theorem d_M_turn_67 : decode b_M_turn 67 = .ok (.getfield 107, 3) := by decide +kernel
theorem d_M_turn_70 : decode b_M_turn 70 = .ok (.isub, 1) := by decide +kernel
theorem d_M_turn_71 : decode b_M_turn 71 = .ok (.ireturn, 1) := by decide +kernel
theorem d_M_run_0 : decode b_M_run 0 = .ok (.aload_n 0, 1) := by decide +kernel
theorem d_M_run_1 : decode b_M_run 1 = .ok (.getfield 61, 3) := by decide +kernel
theorem d_M_run_4 : decode b_M_run 4 = .ok (.ifCond .eq 9, 3) := by decide +kernel
theorem d_M_run_7 : decode b_M_run 7 = .ok (.aload_n 0, 1) := by decide +kernel
theorem d_M_run_8 : decode b_M_run 8 = .ok (.iconst 1, 1) := by decide +kernel
theorem d_M_run_9 : decode b_M_run 9 = .ok (.invokevirtual 57, 3) := by decide +kernel
theorem d_M_run_12 : decode b_M_run 12 = .ok (.ireturn, 1) := by decide +kernel
theorem d_M_run_13 : decode b_M_run 13 = .ok (.aload_n 0, 1) := by decide +kernel
theorem d_M_run_14 : decode b_M_run 14 = .ok (.iconst 0, 1) := by decide +kernel
theorem d_M_run_15 : decode b_M_run 15 = .ok (.putfield 46, 3) := by decide +kernel
theorem d_M_run_18 : decode b_M_run 18 = .ok (.iconst 0, 1) := by decide +kernel
theorem d_M_run_19 : decode b_M_run 19 = .ok (.istore_n 1, 1) := by decide +kernel
theorem d_M_run_20 : decode b_M_run 20 = .ok (.aload_n 0, 1) := by decide +kernel
theorem d_M_run_21 : decode b_M_run 21 = .ok (.getfield 107, 3) := by decide +kernel
theorem d_M_run_24 : decode b_M_run 24 = .ok (.aload_n 0, 1) := by decide +kernel
theorem d_M_run_25 : decode b_M_run 25 = .ok (.getfield 104, 3) := by decide +kernel
theorem d_M_run_28 : decode b_M_run 28 = .ok (.if_icmp .ge 64, 3) := by decide +kernel
theorem d_M_run_31 : decode b_M_run 31 = .ok (.aload_n 0, 1) := by decide +kernel
theorem d_M_run_32 : decode b_M_run 32 = .ok (.getfield 40, 3) := by decide +kernel
theorem d_M_run_35 : decode b_M_run 35 = .ok (.aload_n 0, 1) := by decide +kernel
theorem d_M_run_36 : decode b_M_run 36 = .ok (.getfield 107, 3) := by decide +kernel
theorem d_M_run_39 : decode b_M_run 39 = .ok (.iaload, 1) := by decide +kernel
theorem d_M_run_40 : decode b_M_run 40 = .ok (.istore_n 2, 1) := by decide +kernel
theorem d_M_run_41 : decode b_M_run 41 = .ok (.aload_n 0, 1) := by decide +kernel
theorem d_M_run_42 : decode b_M_run 42 = .ok (.dup, 1) := by decide +kernel
theorem d_M_run_43 : decode b_M_run 43 = .ok (.getfield 107, 3) := by decide +kernel
theorem d_M_run_46 : decode b_M_run 46 = .ok (.iconst 1, 1) := by decide +kernel
theorem d_M_run_47 : decode b_M_run 47 = .ok (.iadd, 1) := by decide +kernel
theorem d_M_run_48 : decode b_M_run 48 = .ok (.putfield 107, 3) := by decide +kernel
theorem d_M_run_51 : decode b_M_run 51 = .ok (.aload_n 0, 1) := by decide +kernel
theorem d_M_run_52 : decode b_M_run 52 = .ok (.getfield 22, 3) := by decide +kernel
theorem d_M_run_55 : decode b_M_run 55 = .ok (.iload_n 2, 1) := by decide +kernel
theorem d_M_run_56 : decode b_M_run 56 = .ok (.iaload, 1) := by decide +kernel
theorem d_M_run_57 : decode b_M_run 57 = .ok (.ifCond .eq 16, 3) := by decide +kernel
theorem d_M_run_60 : decode b_M_run 60 = .ok (.aload_n 0, 1) := by decide +kernel
theorem d_M_run_61 : decode b_M_run 61 = .ok (.dup, 1) := by decide +kernel
theorem d_M_run_62 : decode b_M_run 62 = .ok (.getfield 110, 3) := by decide +kernel
theorem d_M_run_65 : decode b_M_run 65 = .ok (.iconst 1, 1) := by decide +kernel
theorem d_M_run_66 : decode b_M_run 66 = .ok (.iadd, 1) := by decide +kernel
theorem d_M_run_67 : decode b_M_run 67 = .ok (.putfield 110, 3) := by decide +kernel
theorem d_M_run_70 : decode b_M_run 70 = .ok (.goto 19, 3) := by decide +kernel
theorem d_M_run_73 : decode b_M_run 73 = .ok (.iload_n 1, 1) := by decide +kernel
theorem d_M_run_74 : decode b_M_run 74 = .ok (.aload_n 0, 1) := by decide +kernel
theorem d_M_run_75 : decode b_M_run 75 = .ok (.iload_n 2, 1) := by decide +kernel
theorem d_M_run_76 : decode b_M_run 76 = .ok (.invokevirtual 113, 3) := by decide +kernel
theorem d_M_run_79 : decode b_M_run 79 = .ok (.ifCond .eq 7, 3) := by decide +kernel
theorem d_M_run_82 : decode b_M_run 82 = .ok (.iconst 1, 1) := by decide +kernel
theorem d_M_run_83 : decode b_M_run 83 = .ok (.goto 4, 3) := by decide +kernel
theorem d_M_run_86 : decode b_M_run 86 = .ok (.iconst 0, 1) := by decide +kernel
theorem d_M_run_87 : decode b_M_run 87 = .ok (.iadd, 1) := by decide +kernel
theorem d_M_run_88 : decode b_M_run 88 = .ok (.istore_n 1, 1) := by decide +kernel
theorem d_M_run_89 : decode b_M_run 89 = .ok (.goto (-69), 3) := by decide +kernel
theorem d_M_run_92 : decode b_M_run 92 = .ok (.iload_n 1, 1) := by decide +kernel
theorem d_M_run_93 : decode b_M_run 93 = .ok (.ireturn, 1) := by decide +kernel
theorem d_M_log_0 : decode b_M_log 0 = .ok (.aload_n 0, 1) := by decide +kernel
theorem d_M_log_1 : decode b_M_log 1 = .ok (.iconst 0, 1) := by decide +kernel
theorem d_M_log_2 : decode b_M_log 2 = .ok (.putfield 46, 3) := by decide +kernel
theorem d_M_log_5 : decode b_M_log 5 = .ok (.iload_n 1, 1) := by decide +kernel
theorem d_M_log_6 : decode b_M_log 6 = .ok (.ifCond .lt 20, 3) := by decide +kernel
theorem d_M_log_9 : decode b_M_log 9 = .ok (.iload_n 1, 1) := by decide +kernel
theorem d_M_log_10 : decode b_M_log 10 = .ok (.aload_n 0, 1) := by decide +kernel
theorem d_M_log_11 : decode b_M_log 11 = .ok (.getfield 78, 3) := by decide +kernel
theorem d_M_log_14 : decode b_M_log 14 = .ok (.if_icmp .ge 12, 3) := by decide +kernel
theorem d_M_log_17 : decode b_M_log 17 = .ok (.aload_n 0, 1) := by decide +kernel
theorem d_M_log_18 : decode b_M_log 18 = .ok (.getfield 43, 3) := by decide +kernel
theorem d_M_log_21 : decode b_M_log 21 = .ok (.iload_n 1, 1) := by decide +kernel
theorem d_M_log_22 : decode b_M_log 22 = .ok (.iaload, 1) := by decide +kernel
theorem d_M_log_23 : decode b_M_log 23 = .ok (.goto 4, 3) := by decide +kernel
theorem d_M_log_26 : decode b_M_log 26 = .ok (.iconst (-1), 1) := by decide +kernel
theorem d_M_log_27 : decode b_M_log 27 = .ok (.ireturn, 1) := by decide +kernel
theorem d_M_holder_0 : decode b_M_holder 0 = .ok (.aload_n 0, 1) := by decide +kernel
theorem d_M_holder_1 : decode b_M_holder 1 = .ok (.iload_n 1, 1) := by decide +kernel
theorem d_M_holder_2 : decode b_M_holder 2 = .ok (.invokestatic 72, 3) := by decide +kernel
theorem d_M_holder_5 : decode b_M_holder 5 = .ok (.ifCond .eq 7, 3) := by decide +kernel
theorem d_M_holder_8 : decode b_M_holder 8 = .ok (.iconst 0, 1) := by decide +kernel
theorem d_M_holder_9 : decode b_M_holder 9 = .ok (.goto 4, 3) := by decide +kernel
theorem d_M_holder_12 : decode b_M_holder 12 = .ok (.iconst 1, 1) := by decide +kernel
theorem d_M_holder_13 : decode b_M_holder 13 = .ok (.putfield 46, 3) := by decide +kernel
theorem d_M_holder_16 : decode b_M_holder 16 = .ok (.aload_n 0, 1) := by decide +kernel
theorem d_M_holder_17 : decode b_M_holder 17 = .ok (.getfield 46, 3) := by decide +kernel
theorem d_M_holder_20 : decode b_M_holder 20 = .ok (.ifCond .le 7, 3) := by decide +kernel
theorem d_M_holder_23 : decode b_M_holder 23 = .ok (.iconst 0, 1) := by decide +kernel
theorem d_M_holder_24 : decode b_M_holder 24 = .ok (.goto 9, 3) := by decide +kernel
theorem d_M_holder_27 : decode b_M_holder 27 = .ok (.aload_n 0, 1) := by decide +kernel
theorem d_M_holder_28 : decode b_M_holder 28 = .ok (.getfield 28, 3) := by decide +kernel
theorem d_M_holder_31 : decode b_M_holder 31 = .ok (.iload_n 1, 1) := by decide +kernel
theorem d_M_holder_32 : decode b_M_holder 32 = .ok (.iaload, 1) := by decide +kernel
theorem d_M_holder_33 : decode b_M_holder 33 = .ok (.ireturn, 1) := by decide +kernel
theorem d_M_waits_0 : decode b_M_waits 0 = .ok (.aload_n 0, 1) := by decide +kernel
theorem d_M_waits_1 : decode b_M_waits 1 = .ok (.iload_n 1, 1) := by decide +kernel
theorem d_M_waits_2 : decode b_M_waits 2 = .ok (.invokestatic 72, 3) := by decide +kernel
theorem d_M_waits_5 : decode b_M_waits 5 = .ok (.ifCond .eq 7, 3) := by decide +kernel
theorem d_M_waits_8 : decode b_M_waits 8 = .ok (.iconst 0, 1) := by decide +kernel
theorem d_M_waits_9 : decode b_M_waits 9 = .ok (.goto 4, 3) := by decide +kernel
theorem d_M_waits_12 : decode b_M_waits 12 = .ok (.iconst 1, 1) := by decide +kernel
theorem d_M_waits_13 : decode b_M_waits 13 = .ok (.putfield 46, 3) := by decide +kernel
theorem d_M_waits_16 : decode b_M_waits 16 = .ok (.aload_n 0, 1) := by decide +kernel
theorem d_M_waits_17 : decode b_M_waits 17 = .ok (.getfield 46, 3) := by decide +kernel
theorem d_M_waits_20 : decode b_M_waits 20 = .ok (.ifCond .le 5, 3) := by decide +kernel
theorem d_M_waits_23 : decode b_M_waits 23 = .ok (.iconst 0, 1) := by decide +kernel
theorem d_M_waits_24 : decode b_M_waits 24 = .ok (.ireturn, 1) := by decide +kernel
theorem d_M_waits_25 : decode b_M_waits 25 = .ok (.iconst 0, 1) := by decide +kernel
theorem d_M_waits_26 : decode b_M_waits 26 = .ok (.istore_n 3, 1) := by decide +kernel
theorem d_M_waits_27 : decode b_M_waits 27 = .ok (.iload_n 3, 1) := by decide +kernel
theorem d_M_waits_28 : decode b_M_waits 28 = .ok (.aload_n 0, 1) := by decide +kernel
theorem d_M_waits_29 : decode b_M_waits 29 = .ok (.getfield 50, 3) := by decide +kernel
theorem d_M_waits_32 : decode b_M_waits 32 = .ok (.if_icmp .ge 85, 3) := by decide +kernel
theorem d_M_waits_35 : decode b_M_waits 35 = .ok (.iconst 0, 1) := by decide +kernel
theorem d_M_waits_36 : decode b_M_waits 36 = .ok (.istore 4, 2) := by decide +kernel
theorem d_M_waits_38 : decode b_M_waits 38 = .ok (.iconst 0, 1) := by decide +kernel
theorem d_M_waits_39 : decode b_M_waits 39 = .ok (.istore 5, 2) := by decide +kernel
theorem d_M_waits_41 : decode b_M_waits 41 = .ok (.iload 5, 2) := by decide +kernel
theorem d_M_waits_43 : decode b_M_waits 43 = .ok (.aload_n 0, 1) := by decide +kernel
theorem d_M_waits_44 : decode b_M_waits 44 = .ok (.getfield 50, 3) := by decide +kernel
theorem d_M_waits_47 : decode b_M_waits 47 = .ok (.if_icmp .ge 46, 3) := by decide +kernel
theorem d_M_waits_50 : decode b_M_waits 50 = .ok (.iload 4, 2) := by decide +kernel
theorem d_M_waits_52 : decode b_M_waits 52 = .ok (.aload_n 0, 1) := by decide +kernel
theorem d_M_waits_53 : decode b_M_waits 53 = .ok (.getfield 34, 3) := by decide +kernel
theorem d_M_waits_56 : decode b_M_waits 56 = .ok (.iload 5, 2) := by decide +kernel
theorem d_M_waits_58 : decode b_M_waits 58 = .ok (.iaload, 1) := by decide +kernel
theorem d_M_waits_59 : decode b_M_waits 59 = .ok (.iload_n 1, 1) := by decide +kernel
theorem d_M_waits_60 : decode b_M_waits 60 = .ok (.if_icmp .ne 23, 3) := by decide +kernel
theorem d_M_waits_63 : decode b_M_waits 63 = .ok (.aload_n 0, 1) := by decide +kernel
theorem d_M_waits_64 : decode b_M_waits 64 = .ok (.getfield 37, 3) := by decide +kernel
theorem d_M_waits_67 : decode b_M_waits 67 = .ok (.iload 5, 2) := by decide +kernel
theorem d_M_waits_69 : decode b_M_waits 69 = .ok (.iaload, 1) := by decide +kernel
theorem d_M_waits_70 : decode b_M_waits 70 = .ok (.aload_n 0, 1) := by decide +kernel
theorem d_M_waits_71 : decode b_M_waits 71 = .ok (.getfield 37, 3) := by decide +kernel
theorem d_M_waits_74 : decode b_M_waits 74 = .ok (.iload_n 3, 1) := by decide +kernel
theorem d_M_waits_75 : decode b_M_waits 75 = .ok (.iaload, 1) := by decide +kernel
theorem d_M_waits_76 : decode b_M_waits 76 = .ok (.if_icmp .ge 7, 3) := by decide +kernel
theorem d_M_waits_79 : decode b_M_waits 79 = .ok (.iconst 1, 1) := by decide +kernel
theorem d_M_waits_80 : decode b_M_waits 80 = .ok (.goto 4, 3) := by decide +kernel
theorem d_M_waits_83 : decode b_M_waits 83 = .ok (.iconst 0, 1) := by decide +kernel
theorem d_M_waits_84 : decode b_M_waits 84 = .ok (.iadd, 1) := by decide +kernel
theorem d_M_waits_85 : decode b_M_waits 85 = .ok (.istore 4, 2) := by decide +kernel
theorem d_M_waits_87 : decode b_M_waits 87 = .ok (.iinc 5 1, 3) := by decide +kernel
theorem d_M_waits_90 : decode b_M_waits 90 = .ok (.goto (-49), 3) := by decide +kernel
theorem d_M_waits_93 : decode b_M_waits 93 = .ok (.aload_n 0, 1) := by decide +kernel
theorem d_M_waits_94 : decode b_M_waits 94 = .ok (.getfield 34, 3) := by decide +kernel
theorem d_M_waits_97 : decode b_M_waits 97 = .ok (.iload_n 3, 1) := by decide +kernel
theorem d_M_waits_98 : decode b_M_waits 98 = .ok (.iaload, 1) := by decide +kernel
theorem d_M_waits_99 : decode b_M_waits 99 = .ok (.iload_n 1, 1) := by decide +kernel
theorem d_M_waits_100 : decode b_M_waits 100 = .ok (.if_icmp .ne 11, 3) := by decide +kernel
theorem d_M_waits_103 : decode b_M_waits 103 = .ok (.iload 4, 2) := by decide +kernel
theorem d_M_waits_105 : decode b_M_waits 105 = .ok (.iload_n 2, 1) := by decide +kernel
theorem d_M_waits_106 : decode b_M_waits 106 = .ok (.if_icmp .ne 5, 3) := by decide +kernel
theorem d_M_waits_109 : decode b_M_waits 109 = .ok (.iload_n 3, 1) := by decide +kernel
theorem d_M_waits_110 : decode b_M_waits 110 = .ok (.ireturn, 1) := by decide +kernel
theorem d_M_waits_111 : decode b_M_waits 111 = .ok (.iinc 3 1, 3) := by decide +kernel
theorem d_M_waits_114 : decode b_M_waits 114 = .ok (.goto (-87), 3) := by decide +kernel
theorem d_M_waits_117 : decode b_M_waits 117 = .ok (.iconst (-1), 1) := by decide +kernel
theorem d_M_waits_118 : decode b_M_waits 118 = .ok (.ireturn, 1) := by decide +kernel
theorem d_M_interrupt_0 : decode b_M_interrupt 0 = .ok (.aload_n 0, 1) := by decide +kernel
theorem d_M_interrupt_1 : decode b_M_interrupt 1 = .ok (.iconst 0, 1) := by decide +kernel
theorem d_M_interrupt_2 : decode b_M_interrupt 2 = .ok (.putfield 46, 3) := by decide +kernel
theorem d_M_interrupt_5 : decode b_M_interrupt 5 = .ok (.aload_n 0, 1) := by decide +kernel
theorem d_M_interrupt_6 : decode b_M_interrupt 6 = .ok (.iload_n 1, 1) := by decide +kernel
theorem d_M_interrupt_7 : decode b_M_interrupt 7 = .ok (.invokevirtual 68, 3) := by decide +kernel
theorem d_M_interrupt_10 : decode b_M_interrupt 10 = .ok (.ifCond .eq 13, 3) := by decide +kernel
theorem d_M_interrupt_13 : decode b_M_interrupt 13 = .ok (.aload_n 0, 1) := by decide +kernel
theorem d_M_interrupt_14 : decode b_M_interrupt 14 = .ok (.getfield 22, 3) := by decide +kernel
theorem d_M_interrupt_17 : decode b_M_interrupt 17 = .ok (.iload_n 1, 1) := by decide +kernel
theorem d_M_interrupt_18 : decode b_M_interrupt 18 = .ok (.iaload, 1) := by decide +kernel
theorem d_M_interrupt_19 : decode b_M_interrupt 19 = .ok (.iconst 1, 1) := by decide +kernel
theorem d_M_interrupt_20 : decode b_M_interrupt 20 = .ok (.if_icmp .eq 5, 3) := by decide +kernel
theorem d_M_interrupt_23 : decode b_M_interrupt 23 = .ok (.iconst 0, 1) := by decide +kernel
theorem d_M_interrupt_24 : decode b_M_interrupt 24 = .ok (.ireturn, 1) := by decide +kernel
theorem d_M_interrupt_25 : decode b_M_interrupt 25 = .ok (.aload_n 0, 1) := by decide +kernel
theorem d_M_interrupt_26 : decode b_M_interrupt 26 = .ok (.getfield 34, 3) := by decide +kernel
theorem d_M_interrupt_29 : decode b_M_interrupt 29 = .ok (.iload_n 1, 1) := by decide +kernel
theorem d_M_interrupt_30 : decode b_M_interrupt 30 = .ok (.iconst (-1), 1) := by decide +kernel
theorem d_M_interrupt_31 : decode b_M_interrupt 31 = .ok (.iastore, 1) := by decide +kernel
theorem d_M_interrupt_32 : decode b_M_interrupt 32 = .ok (.aload_n 0, 1) := by decide +kernel
theorem d_M_interrupt_33 : decode b_M_interrupt 33 = .ok (.iconst 3, 1) := by decide +kernel
theorem d_M_interrupt_34 : decode b_M_interrupt 34 = .ok (.iload_n 1, 1) := by decide +kernel
theorem d_M_interrupt_35 : decode b_M_interrupt 35 = .ok (.invokevirtual 94, 3) := by decide +kernel
theorem d_M_interrupt_38 : decode b_M_interrupt 38 = .ok (.aload_n 0, 1) := by decide +kernel
theorem d_M_interrupt_39 : decode b_M_interrupt 39 = .ok (.iload_n 1, 1) := by decide +kernel
theorem d_M_interrupt_40 : decode b_M_interrupt 40 = .ok (.invokevirtual 98, 3) := by decide +kernel
theorem d_M_interrupt_43 : decode b_M_interrupt 43 = .ok (.aload_n 0, 1) := by decide +kernel
theorem d_M_interrupt_44 : decode b_M_interrupt 44 = .ok (.iload_n 1, 1) := by decide +kernel
theorem d_M_interrupt_45 : decode b_M_interrupt 45 = .ok (.invokevirtual 101, 3) := by decide +kernel
theorem d_M_interrupt_48 : decode b_M_interrupt 48 = .ok (.iconst 1, 1) := by decide +kernel
theorem d_M_interrupt_49 : decode b_M_interrupt 49 = .ok (.ireturn, 1) := by decide +kernel
theorem d_M_dead_0 : decode b_M_dead 0 = .ok (.aload_n 0, 1) := by decide +kernel
theorem d_M_dead_1 : decode b_M_dead 1 = .ok (.iload_n 1, 1) := by decide +kernel
theorem d_M_dead_2 : decode b_M_dead 2 = .ok (.invokevirtual 68, 3) := by decide +kernel
theorem d_M_dead_5 : decode b_M_dead 5 = .ok (.ifCond .ne 9, 3) := by decide +kernel
theorem d_M_dead_8 : decode b_M_dead 8 = .ok (.aload_n 0, 1) := by decide +kernel
theorem d_M_dead_9 : decode b_M_dead 9 = .ok (.iconst 1, 1) := by decide +kernel
theorem d_M_dead_10 : decode b_M_dead 10 = .ok (.invokevirtual 57, 3) := by decide +kernel
theorem d_M_dead_13 : decode b_M_dead 13 = .ok (.ireturn, 1) := by decide +kernel
theorem d_M_dead_14 : decode b_M_dead 14 = .ok (.aload_n 0, 1) := by decide +kernel
theorem d_M_dead_15 : decode b_M_dead 15 = .ok (.iconst 0, 1) := by decide +kernel
theorem d_M_dead_16 : decode b_M_dead 16 = .ok (.putfield 46, 3) := by decide +kernel
theorem d_M_dead_19 : decode b_M_dead 19 = .ok (.aload_n 0, 1) := by decide +kernel
theorem d_M_dead_20 : decode b_M_dead 20 = .ok (.getfield 22, 3) := by decide +kernel
theorem d_M_dead_23 : decode b_M_dead 23 = .ok (.iload_n 1, 1) := by decide +kernel
theorem d_M_dead_24 : decode b_M_dead 24 = .ok (.iaload, 1) := by decide +kernel
theorem d_M_dead_25 : decode b_M_dead 25 = .ok (.iconst 1, 1) := by decide +kernel
theorem d_M_dead_26 : decode b_M_dead 26 = .ok (.if_icmp .le 5, 3) := by decide +kernel
theorem d_M_dead_29 : decode b_M_dead 29 = .ok (.iconst (-1), 1) := by decide +kernel
theorem d_M_dead_30 : decode b_M_dead 30 = .ok (.ireturn, 1) := by decide +kernel
theorem d_M_dead_31 : decode b_M_dead 31 = .ok (.aload_n 0, 1) := by decide +kernel
theorem d_M_dead_32 : decode b_M_dead 32 = .ok (.getfield 22, 3) := by decide +kernel
theorem d_M_dead_35 : decode b_M_dead 35 = .ok (.iload_n 1, 1) := by decide +kernel
theorem d_M_dead_36 : decode b_M_dead 36 = .ok (.iconst 3, 1) := by decide +kernel
theorem d_M_dead_37 : decode b_M_dead 37 = .ok (.iastore, 1) := by decide +kernel
theorem d_M_dead_38 : decode b_M_dead 38 = .ok (.aload_n 0, 1) := by decide +kernel
theorem d_M_dead_39 : decode b_M_dead 39 = .ok (.getfield 34, 3) := by decide +kernel
theorem d_M_dead_42 : decode b_M_dead 42 = .ok (.iload_n 1, 1) := by decide +kernel
theorem d_M_dead_43 : decode b_M_dead 43 = .ok (.iconst (-1), 1) := by decide +kernel
theorem d_M_dead_44 : decode b_M_dead 44 = .ok (.iastore, 1) := by decide +kernel
theorem d_M_dead_45 : decode b_M_dead 45 = .ok (.aload_n 0, 1) := by decide +kernel
theorem d_M_dead_46 : decode b_M_dead 46 = .ok (.iload_n 1, 1) := by decide +kernel
theorem d_M_dead_47 : decode b_M_dead 47 = .ok (.invokevirtual 65, 3) := by decide +kernel
theorem d_M_dead_50 : decode b_M_dead 50 = .ok (.invokestatic 116, 3) := by decide +kernel
theorem d_M_dead_53 : decode b_M_dead 53 = .ok (.ireturn, 1) := by decide +kernel
end
section
theorem d_M_tick_0 : decode b_M_tick 0 = .ok (.iload_n 1, 1) := by decide +kernel
theorem d_M_tick_1 : decode b_M_tick 1 = .ok (.aload_n 0, 1) := by decide +kernel
theorem d_M_tick_2 : decode b_M_tick 2 = .ok (.getfield 84, 3) := by decide +kernel
theorem d_M_tick_5 : decode b_M_tick 5 = .ok (.ldc 119, 2) := by decide +kernel
theorem d_M_tick_7 : decode b_M_tick 7 = .ok (.invokestatic 53, 3) := by decide +kernel
theorem d_M_tick_10 : decode b_M_tick 10 = .ok (.ifCond .ne 9, 3) := by decide +kernel
theorem d_M_tick_13 : decode b_M_tick 13 = .ok (.aload_n 0, 1) := by decide +kernel
theorem d_M_tick_14 : decode b_M_tick 14 = .ok (.iconst 1, 1) := by decide +kernel
theorem d_M_tick_15 : decode b_M_tick 15 = .ok (.invokevirtual 57, 3) := by decide +kernel
theorem d_M_tick_18 : decode b_M_tick 18 = .ok (.ireturn, 1) := by decide +kernel
theorem d_M_tick_19 : decode b_M_tick 19 = .ok (.aload_n 0, 1) := by decide +kernel
theorem d_M_tick_20 : decode b_M_tick 20 = .ok (.iconst 0, 1) := by decide +kernel
theorem d_M_tick_21 : decode b_M_tick 21 = .ok (.putfield 46, 3) := by decide +kernel
theorem d_M_tick_24 : decode b_M_tick 24 = .ok (.aload_n 0, 1) := by decide +kernel
theorem d_M_tick_25 : decode b_M_tick 25 = .ok (.iload_n 1, 1) := by decide +kernel
theorem d_M_tick_26 : decode b_M_tick 26 = .ok (.putfield 84, 3) := by decide +kernel
theorem d_M_tick_29 : decode b_M_tick 29 = .ok (.iconst 0, 1) := by decide +kernel
theorem d_M_tick_30 : decode b_M_tick 30 = .ok (.istore_n 2, 1) := by decide +kernel
theorem d_M_tick_31 : decode b_M_tick 31 = .ok (.iconst 0, 1) := by decide +kernel
theorem d_M_tick_32 : decode b_M_tick 32 = .ok (.istore_n 3, 1) := by decide +kernel
theorem d_M_tick_33 : decode b_M_tick 33 = .ok (.iload_n 3, 1) := by decide +kernel
theorem d_M_tick_34 : decode b_M_tick 34 = .ok (.bipush 16, 2) := by decide +kernel
theorem d_M_tick_36 : decode b_M_tick 36 = .ok (.if_icmp .ge 57, 3) := by decide +kernel
theorem d_M_tick_39 : decode b_M_tick 39 = .ok (.aload_n 0, 1) := by decide +kernel
theorem d_M_tick_40 : decode b_M_tick 40 = .ok (.getfield 28, 3) := by decide +kernel
theorem d_M_tick_43 : decode b_M_tick 43 = .ok (.iload_n 3, 1) := by decide +kernel
theorem d_M_tick_44 : decode b_M_tick 44 = .ok (.iaload, 1) := by decide +kernel
theorem d_M_tick_45 : decode b_M_tick 45 = .ok (.istore 4, 2) := by decide +kernel
theorem d_M_tick_47 : decode b_M_tick 47 = .ok (.iload 4, 2) := by decide +kernel
theorem d_M_tick_49 : decode b_M_tick 49 = .ok (.ifCond .lt 38, 3) := by decide +kernel
theorem d_M_tick_52 : decode b_M_tick 52 = .ok (.aload_n 0, 1) := by decide +kernel
theorem d_M_tick_53 : decode b_M_tick 53 = .ok (.getfield 22, 3) := by decide +kernel
theorem d_M_tick_56 : decode b_M_tick 56 = .ok (.iload 4, 2) := by decide +kernel
theorem d_M_tick_58 : decode b_M_tick 58 = .ok (.iaload, 1) := by decide +kernel
theorem d_M_tick_59 : decode b_M_tick 59 = .ok (.iconst 3, 1) := by decide +kernel
theorem d_M_tick_60 : decode b_M_tick 60 = .ok (.if_icmp .ne 27, 3) := by decide +kernel
theorem d_M_tick_63 : decode b_M_tick 63 = .ok (.aload_n 0, 1) := by decide +kernel
theorem d_M_tick_64 : decode b_M_tick 64 = .ok (.getfield 84, 3) := by decide +kernel
theorem d_M_tick_67 : decode b_M_tick 67 = .ok (.aload_n 0, 1) := by decide +kernel
theorem d_M_tick_68 : decode b_M_tick 68 = .ok (.getfield 31, 3) := by decide +kernel
theorem d_M_tick_71 : decode b_M_tick 71 = .ok (.iload_n 3, 1) := by decide +kernel
theorem d_M_tick_72 : decode b_M_tick 72 = .ok (.iaload, 1) := by decide +kernel
theorem d_M_tick_73 : decode b_M_tick 73 = .ok (.isub, 1) := by decide +kernel
theorem d_M_tick_74 : decode b_M_tick 74 = .ok (.bipush 100, 2) := by decide +kernel
theorem d_M_tick_76 : decode b_M_tick 76 = .ok (.if_icmp .le 11, 3) := by decide +kernel
theorem d_M_tick_79 : decode b_M_tick 79 = .ok (.aload_n 0, 1) := by decide +kernel
theorem d_M_tick_80 : decode b_M_tick 80 = .ok (.iload_n 3, 1) := by decide +kernel
theorem d_M_tick_81 : decode b_M_tick 81 = .ok (.invokevirtual 87, 3) := by decide +kernel
theorem d_M_tick_84 : decode b_M_tick 84 = .ok (.iinc 2 1, 3) := by decide +kernel
theorem d_M_tick_87 : decode b_M_tick 87 = .ok (.iinc 3 1, 3) := by decide +kernel
theorem d_M_tick_90 : decode b_M_tick 90 = .ok (.goto (-57), 3) := by decide +kernel
theorem d_M_tick_93 : decode b_M_tick 93 = .ok (.iload_n 2, 1) := by decide +kernel
theorem d_M_tick_94 : decode b_M_tick 94 = .ok (.ireturn, 1) := by decide +kernel
theorem d_M_close_0 : decode b_M_close 0 = .ok (.aload_n 0, 1) := by decide +kernel
theorem d_M_close_1 : decode b_M_close 1 = .ok (.iconst 0, 1) := by decide +kernel
theorem d_M_close_2 : decode b_M_close 2 = .ok (.putfield 46, 3) := by decide +kernel
theorem d_M_close_5 : decode b_M_close 5 = .ok (.aload_n 0, 1) := by decide +kernel
theorem d_M_close_6 : decode b_M_close 6 = .ok (.getfield 61, 3) := by decide +kernel
theorem d_M_close_9 : decode b_M_close 9 = .ok (.ifCond .eq 5, 3) := by decide +kernel
theorem d_M_close_12 : decode b_M_close 12 = .ok (.iconst (-1), 1) := by decide +kernel
theorem d_M_close_13 : decode b_M_close 13 = .ok (.ireturn, 1) := by decide +kernel
theorem d_M_close_14 : decode b_M_close 14 = .ok (.aload_n 0, 1) := by decide +kernel
theorem d_M_close_15 : decode b_M_close 15 = .ok (.iconst 1, 1) := by decide +kernel
theorem d_M_close_16 : decode b_M_close 16 = .ok (.putfield 61, 3) := by decide +kernel
theorem d_M_close_19 : decode b_M_close 19 = .ok (.iconst 0, 1) := by decide +kernel
theorem d_M_close_20 : decode b_M_close 20 = .ok (.istore_n 1, 1) := by decide +kernel
theorem d_M_close_21 : decode b_M_close 21 = .ok (.iconst 0, 1) := by decide +kernel
theorem d_M_close_22 : decode b_M_close 22 = .ok (.istore_n 2, 1) := by decide +kernel
theorem d_M_close_23 : decode b_M_close 23 = .ok (.iload_n 2, 1) := by decide +kernel
theorem d_M_close_24 : decode b_M_close 24 = .ok (.aload_n 0, 1) := by decide +kernel
theorem d_M_close_25 : decode b_M_close 25 = .ok (.getfield 50, 3) := by decide +kernel
theorem d_M_close_28 : decode b_M_close 28 = .ok (.if_icmp .ge 55, 3) := by decide +kernel
theorem d_M_close_31 : decode b_M_close 31 = .ok (.aload_n 0, 1) := by decide +kernel
theorem d_M_close_32 : decode b_M_close 32 = .ok (.getfield 22, 3) := by decide +kernel
theorem d_M_close_35 : decode b_M_close 35 = .ok (.iload_n 2, 1) := by decide +kernel
theorem d_M_close_36 : decode b_M_close 36 = .ok (.iaload, 1) := by decide +kernel
theorem d_M_close_37 : decode b_M_close 37 = .ok (.iconst 2, 1) := by decide +kernel
theorem d_M_close_38 : decode b_M_close 38 = .ok (.if_icmp .eq 39, 3) := by decide +kernel
theorem d_M_close_41 : decode b_M_close 41 = .ok (.aload_n 0, 1) := by decide +kernel
theorem d_M_close_42 : decode b_M_close 42 = .ok (.iload_n 2, 1) := by decide +kernel
theorem d_M_close_43 : decode b_M_close 43 = .ok (.invokevirtual 75, 3) := by decide +kernel
theorem d_M_close_46 : decode b_M_close 46 = .ok (.ifCond .eq 9, 3) := by decide +kernel
theorem d_M_close_49 : decode b_M_close 49 = .ok (.aload_n 0, 1) := by decide +kernel
theorem d_M_close_50 : decode b_M_close 50 = .ok (.iconst 4, 1) := by decide +kernel
theorem d_M_close_51 : decode b_M_close 51 = .ok (.iload_n 2, 1) := by decide +kernel
theorem d_M_close_52 : decode b_M_close 52 = .ok (.invokevirtual 94, 3) := by decide +kernel
theorem d_M_close_55 : decode b_M_close 55 = .ok (.aload_n 0, 1) := by decide +kernel
theorem d_M_close_56 : decode b_M_close 56 = .ok (.getfield 22, 3) := by decide +kernel
theorem d_M_close_59 : decode b_M_close 59 = .ok (.iload_n 2, 1) := by decide +kernel
theorem d_M_close_60 : decode b_M_close 60 = .ok (.iconst 4, 1) := by decide +kernel
theorem d_M_close_61 : decode b_M_close 61 = .ok (.iastore, 1) := by decide +kernel
theorem d_M_close_62 : decode b_M_close 62 = .ok (.aload_n 0, 1) := by decide +kernel
theorem d_M_close_63 : decode b_M_close 63 = .ok (.getfield 34, 3) := by decide +kernel
theorem d_M_close_66 : decode b_M_close 66 = .ok (.iload_n 2, 1) := by decide +kernel
theorem d_M_close_67 : decode b_M_close 67 = .ok (.iconst (-1), 1) := by decide +kernel
theorem d_M_close_68 : decode b_M_close 68 = .ok (.iastore, 1) := by decide +kernel
theorem d_M_close_69 : decode b_M_close 69 = .ok (.aload_n 0, 1) := by decide +kernel
theorem d_M_close_70 : decode b_M_close 70 = .ok (.iload_n 2, 1) := by decide +kernel
theorem d_M_close_71 : decode b_M_close 71 = .ok (.invokevirtual 98, 3) := by decide +kernel
theorem d_M_close_74 : decode b_M_close 74 = .ok (.iinc 1 1, 3) := by decide +kernel
theorem d_M_close_77 : decode b_M_close 77 = .ok (.iinc 2 1, 3) := by decide +kernel
theorem d_M_close_80 : decode b_M_close 80 = .ok (.goto (-57), 3) := by decide +kernel
theorem d_M_close_83 : decode b_M_close 83 = .ok (.iload_n 1, 1) := by decide +kernel
theorem d_M_close_84 : decode b_M_close 84 = .ok (.ireturn, 1) := by decide +kernel
theorem d_M_look_0 : decode b_M_look 0 = .ok (.aload_n 0, 1) := by decide +kernel
theorem d_M_look_1 : decode b_M_look 1 = .ok (.iload_n 1, 1) := by decide +kernel
theorem d_M_look_2 : decode b_M_look 2 = .ok (.invokevirtual 68, 3) := by decide +kernel
theorem d_M_look_5 : decode b_M_look 5 = .ok (.ifCond .eq 12, 3) := by decide +kernel
theorem d_M_look_8 : decode b_M_look 8 = .ok (.iload_n 2, 1) := by decide +kernel
theorem d_M_look_9 : decode b_M_look 9 = .ok (.iconst 0, 1) := by decide +kernel
theorem d_M_look_10 : decode b_M_look 10 = .ok (.iconst 4, 1) := by decide +kernel
theorem d_M_look_11 : decode b_M_look 11 = .ok (.invokestatic 53, 3) := by decide +kernel
theorem d_M_look_14 : decode b_M_look 14 = .ok (.ifCond .ne 9, 3) := by decide +kernel
theorem d_M_look_17 : decode b_M_look 17 = .ok (.aload_n 0, 1) := by decide +kernel
theorem d_M_look_18 : decode b_M_look 18 = .ok (.iconst 1, 1) := by decide +kernel
theorem d_M_look_19 : decode b_M_look 19 = .ok (.invokevirtual 57, 3) := by decide +kernel
theorem d_M_look_22 : decode b_M_look 22 = .ok (.ireturn, 1) := by decide +kernel
theorem d_M_look_23 : decode b_M_look 23 = .ok (.aload_n 0, 1) := by decide +kernel
theorem d_M_look_24 : decode b_M_look 24 = .ok (.iconst 0, 1) := by decide +kernel
theorem d_M_look_25 : decode b_M_look 25 = .ok (.putfield 46, 3) := by decide +kernel
theorem d_M_look_28 : decode b_M_look 28 = .ok (.iload_n 2, 1) := by decide +kernel
theorem d_M_look_29 : decode b_M_look 29 = .ok (.tableswitch 58 0 3 #[31, 38, 45, 52], 31) := by decide +kernel
theorem d_M_look_60 : decode b_M_look 60 = .ok (.aload_n 0, 1) := by decide +kernel
theorem d_M_look_61 : decode b_M_look 61 = .ok (.getfield 16, 3) := by decide +kernel
theorem d_M_look_64 : decode b_M_look 64 = .ok (.iload_n 1, 1) := by decide +kernel
theorem d_M_look_65 : decode b_M_look 65 = .ok (.iaload, 1) := by decide +kernel
theorem d_M_look_66 : decode b_M_look 66 = .ok (.ireturn, 1) := by decide +kernel
theorem d_M_look_67 : decode b_M_look 67 = .ok (.aload_n 0, 1) := by decide +kernel
theorem d_M_look_68 : decode b_M_look 68 = .ok (.getfield 19, 3) := by decide +kernel
theorem d_M_look_71 : decode b_M_look 71 = .ok (.iload_n 1, 1) := by decide +kernel
theorem d_M_look_72 : decode b_M_look 72 = .ok (.iaload, 1) := by decide +kernel
theorem d_M_look_73 : decode b_M_look 73 = .ok (.ireturn, 1) := by decide +kernel
theorem d_M_look_74 : decode b_M_look 74 = .ok (.aload_n 0, 1) := by decide +kernel
theorem d_M_look_75 : decode b_M_look 75 = .ok (.getfield 22, 3) := by decide +kernel
theorem d_M_look_78 : decode b_M_look 78 = .ok (.iload_n 1, 1) := by decide +kernel
theorem d_M_look_79 : decode b_M_look 79 = .ok (.iaload, 1) := by decide +kernel
theorem d_M_look_80 : decode b_M_look 80 = .ok (.ireturn, 1) := by decide +kernel
theorem d_M_look_81 : decode b_M_look 81 = .ok (.aload_n 0, 1) := by decide +kernel
theorem d_M_look_82 : decode b_M_look 82 = .ok (.iload_n 1, 1) := by decide +kernel
theorem d_M_look_83 : decode b_M_look 83 = .ok (.invokevirtual 65, 3) := by decide +kernel
theorem d_M_look_86 : decode b_M_look 86 = .ok (.ireturn, 1) := by decide +kernel
theorem d_M_look_87 : decode b_M_look 87 = .ok (.aload_n 0, 1) := by decide +kernel
theorem d_M_look_88 : decode b_M_look 88 = .ok (.getfield 34, 3) := by decide +kernel
theorem d_M_look_91 : decode b_M_look 91 = .ok (.iload_n 1, 1) := by decide +kernel
theorem d_M_look_92 : decode b_M_look 92 = .ok (.iaload, 1) := by decide +kernel
theorem d_M_look_93 : decode b_M_look 93 = .ok (.ireturn, 1) := by decide +kernel
theorem d_M_count_0 : decode b_M_count 0 = .ok (.aload_n 0, 1) := by decide +kernel
theorem d_M_count_1 : decode b_M_count 1 = .ok (.iconst 0, 1) := by decide +kernel
theorem d_M_count_2 : decode b_M_count 2 = .ok (.putfield 46, 3) := by decide +kernel
theorem d_M_count_5 : decode b_M_count 5 = .ok (.iconst 0, 1) := by decide +kernel
theorem d_M_count_6 : decode b_M_count 6 = .ok (.istore_n 2, 1) := by decide +kernel
theorem d_M_count_7 : decode b_M_count 7 = .ok (.iconst 0, 1) := by decide +kernel
theorem d_M_count_8 : decode b_M_count 8 = .ok (.istore_n 3, 1) := by decide +kernel
theorem d_M_count_9 : decode b_M_count 9 = .ok (.iload_n 3, 1) := by decide +kernel
theorem d_M_count_10 : decode b_M_count 10 = .ok (.bipush 16, 2) := by decide +kernel
theorem d_M_count_12 : decode b_M_count 12 = .ok (.if_icmp .ge 26, 3) := by decide +kernel
theorem d_M_count_15 : decode b_M_count 15 = .ok (.iload_n 2, 1) := by decide +kernel
theorem d_M_count_16 : decode b_M_count 16 = .ok (.aload_n 0, 1) := by decide +kernel
theorem d_M_count_17 : decode b_M_count 17 = .ok (.getfield 28, 3) := by decide +kernel
theorem d_M_count_20 : decode b_M_count 20 = .ok (.iload_n 3, 1) := by decide +kernel
theorem d_M_count_21 : decode b_M_count 21 = .ok (.iaload, 1) := by decide +kernel
theorem d_M_count_22 : decode b_M_count 22 = .ok (.ifCond .lt 7, 3) := by decide +kernel
theorem d_M_count_25 : decode b_M_count 25 = .ok (.iconst 1, 1) := by decide +kernel
theorem d_M_count_26 : decode b_M_count 26 = .ok (.goto 4, 3) := by decide +kernel
theorem d_M_count_29 : decode b_M_count 29 = .ok (.iconst 0, 1) := by decide +kernel
theorem d_M_count_30 : decode b_M_count 30 = .ok (.iadd, 1) := by decide +kernel
theorem d_M_count_31 : decode b_M_count 31 = .ok (.istore_n 2, 1) := by decide +kernel
theorem d_M_count_32 : decode b_M_count 32 = .ok (.iinc 3 1, 3) := by decide +kernel
theorem d_M_count_35 : decode b_M_count 35 = .ok (.goto (-26), 3) := by decide +kernel
theorem d_M_count_38 : decode b_M_count 38 = .ok (.iload_n 1, 1) := by decide +kernel
theorem d_M_count_39 : decode b_M_count 39 = .ok (.tableswitch 81 0 6 #[41, 46, 51, 56, 61, 66, 79], 41) := by decide +kernel
theorem d_M_count_80 : decode b_M_count 80 = .ok (.aload_n 0, 1) := by decide +kernel
theorem d_M_count_81 : decode b_M_count 81 = .ok (.getfield 50, 3) := by decide +kernel
theorem d_M_count_84 : decode b_M_count 84 = .ok (.ireturn, 1) := by decide +kernel
theorem d_M_count_85 : decode b_M_count 85 = .ok (.aload_n 0, 1) := by decide +kernel
theorem d_M_count_86 : decode b_M_count 86 = .ok (.getfield 78, 3) := by decide +kernel
theorem d_M_count_89 : decode b_M_count 89 = .ok (.ireturn, 1) := by decide +kernel
theorem d_M_count_90 : decode b_M_count 90 = .ok (.aload_n 0, 1) := by decide +kernel
theorem d_M_count_91 : decode b_M_count 91 = .ok (.getfield 104, 3) := by decide +kernel
theorem d_M_count_94 : decode b_M_count 94 = .ok (.ireturn, 1) := by decide +kernel
theorem d_M_count_95 : decode b_M_count 95 = .ok (.aload_n 0, 1) := by decide +kernel
theorem d_M_count_96 : decode b_M_count 96 = .ok (.getfield 110, 3) := by decide +kernel
theorem d_M_count_99 : decode b_M_count 99 = .ok (.ireturn, 1) := by decide +kernel
theorem d_M_count_100 : decode b_M_count 100 = .ok (.aload_n 0, 1) := by decide +kernel
theorem d_M_count_101 : decode b_M_count 101 = .ok (.getfield 84, 3) := by decide +kernel
theorem d_M_count_104 : decode b_M_count 104 = .ok (.ireturn, 1) := by decide +kernel
theorem d_M_count_105 : decode b_M_count 105 = .ok (.aload_n 0, 1) := by decide +kernel
theorem d_M_count_106 : decode b_M_count 106 = .ok (.getfield 61, 3) := by decide +kernel
theorem d_M_count_109 : decode b_M_count 109 = .ok (.ifCond .eq 7, 3) := by decide +kernel
theorem d_M_count_112 : decode b_M_count 112 = .ok (.iconst 1, 1) := by decide +kernel
theorem d_M_count_113 : decode b_M_count 113 = .ok (.goto 4, 3) := by decide +kernel
theorem d_M_count_116 : decode b_M_count 116 = .ok (.iconst 0, 1) := by decide +kernel
theorem d_M_count_117 : decode b_M_count 117 = .ok (.ireturn, 1) := by decide +kernel
theorem d_M_count_118 : decode b_M_count 118 = .ok (.iload_n 2, 1) := by decide +kernel
theorem d_M_count_119 : decode b_M_count 119 = .ok (.ireturn, 1) := by decide +kernel
theorem d_M_count_120 : decode b_M_count 120 = .ok (.iconst (-1), 1) := by decide +kernel
theorem d_M_count_121 : decode b_M_count 121 = .ok (.ireturn, 1) := by decide +kernel
end
section
theorem d_L_desk_0 : decode b_L_desk 0 = .ok (.aload_n 3, 1) := by decide +kernel
theorem d_L_desk_1 : decode b_L_desk 1 = .ok (.iconst 0, 1) := by decide +kernel
theorem d_L_desk_2 : decode b_L_desk 2 = .ok (.aload_n 0, 1) := by decide +kernel
theorem d_L_desk_3 : decode b_L_desk 3 = .ok (.iload_n 1, 1) := by decide +kernel
theorem d_L_desk_4 : decode b_L_desk 4 = .ok (.iload_n 2, 1) := by decide +kernel
theorem d_L_desk_5 : decode b_L_desk 5 = .ok (.invokevirtual 7, 3) := by decide +kernel
theorem d_L_desk_8 : decode b_L_desk 8 = .ok (.i2l, 1) := by decide +kernel
theorem d_L_desk_9 : decode b_L_desk 9 = .ok (.lastore, 1) := by decide +kernel
theorem d_L_desk_10 : decode b_L_desk 10 = .ok (.goto 11, 3) := by decide +kernel
theorem d_L_desk_13 : decode b_L_desk 13 = .ok (.astore 4, 2) := by decide +kernel
theorem d_L_desk_15 : decode b_L_desk 15 = .ok (.iconst 1, 1) := by decide +kernel
theorem d_L_desk_16 : decode b_L_desk 16 = .ok (.ireturn, 1) := by decide +kernel
theorem d_L_desk_17 : decode b_L_desk 17 = .ok (.astore 4, 2) := by decide +kernel
theorem d_L_desk_19 : decode b_L_desk 19 = .ok (.iconst 2, 1) := by decide +kernel
theorem d_L_desk_20 : decode b_L_desk 20 = .ok (.ireturn, 1) := by decide +kernel
theorem d_L_desk_21 : decode b_L_desk 21 = .ok (.iconst 0, 1) := by decide +kernel
theorem d_L_desk_22 : decode b_L_desk 22 = .ok (.ireturn, 1) := by decide +kernel
theorem d_L_turn_0 : decode b_L_turn 0 = .ok (.aload_n 2, 1) := by decide +kernel
theorem d_L_turn_1 : decode b_L_turn 1 = .ok (.iconst 0, 1) := by decide +kernel
theorem d_L_turn_2 : decode b_L_turn 2 = .ok (.aload_n 0, 1) := by decide +kernel
theorem d_L_turn_3 : decode b_L_turn 3 = .ok (.iload_n 1, 1) := by decide +kernel
theorem d_L_turn_4 : decode b_L_turn 4 = .ok (.invokevirtual 17, 3) := by decide +kernel
theorem d_L_turn_7 : decode b_L_turn 7 = .ok (.i2l, 1) := by decide +kernel
theorem d_L_turn_8 : decode b_L_turn 8 = .ok (.lastore, 1) := by decide +kernel
theorem d_L_turn_9 : decode b_L_turn 9 = .ok (.goto 9, 3) := by decide +kernel
theorem d_L_turn_12 : decode b_L_turn 12 = .ok (.astore_n 3, 1) := by decide +kernel
theorem d_L_turn_13 : decode b_L_turn 13 = .ok (.iconst 1, 1) := by decide +kernel
theorem d_L_turn_14 : decode b_L_turn 14 = .ok (.ireturn, 1) := by decide +kernel
theorem d_L_turn_15 : decode b_L_turn 15 = .ok (.astore_n 3, 1) := by decide +kernel
theorem d_L_turn_16 : decode b_L_turn 16 = .ok (.iconst 2, 1) := by decide +kernel
theorem d_L_turn_17 : decode b_L_turn 17 = .ok (.ireturn, 1) := by decide +kernel
theorem d_L_turn_18 : decode b_L_turn 18 = .ok (.iconst 0, 1) := by decide +kernel
theorem d_L_turn_19 : decode b_L_turn 19 = .ok (.ireturn, 1) := by decide +kernel
theorem d_L_run_0 : decode b_L_run 0 = .ok (.aload_n 1, 1) := by decide +kernel
theorem d_L_run_1 : decode b_L_run 1 = .ok (.iconst 0, 1) := by decide +kernel
theorem d_L_run_2 : decode b_L_run 2 = .ok (.aload_n 0, 1) := by decide +kernel
theorem d_L_run_3 : decode b_L_run 3 = .ok (.invokevirtual 21, 3) := by decide +kernel
theorem d_L_run_6 : decode b_L_run 6 = .ok (.i2l, 1) := by decide +kernel
theorem d_L_run_7 : decode b_L_run 7 = .ok (.lastore, 1) := by decide +kernel
theorem d_L_run_8 : decode b_L_run 8 = .ok (.goto 6, 3) := by decide +kernel
theorem d_L_run_11 : decode b_L_run 11 = .ok (.astore_n 2, 1) := by decide +kernel
theorem d_L_run_12 : decode b_L_run 12 = .ok (.iconst 1, 1) := by decide +kernel
theorem d_L_run_13 : decode b_L_run 13 = .ok (.ireturn, 1) := by decide +kernel
theorem d_L_run_14 : decode b_L_run 14 = .ok (.iconst 0, 1) := by decide +kernel
theorem d_L_run_15 : decode b_L_run 15 = .ok (.ireturn, 1) := by decide +kernel
theorem d_L_holder_0 : decode b_L_holder 0 = .ok (.aload_n 2, 1) := by decide +kernel
theorem d_L_holder_1 : decode b_L_holder 1 = .ok (.iconst 0, 1) := by decide +kernel
theorem d_L_holder_2 : decode b_L_holder 2 = .ok (.aload_n 0, 1) := by decide +kernel
theorem d_L_holder_3 : decode b_L_holder 3 = .ok (.iload_n 1, 1) := by decide +kernel
theorem d_L_holder_4 : decode b_L_holder 4 = .ok (.invokevirtual 25, 3) := by decide +kernel
theorem d_L_holder_7 : decode b_L_holder 7 = .ok (.i2l, 1) := by decide +kernel
theorem d_L_holder_8 : decode b_L_holder 8 = .ok (.lastore, 1) := by decide +kernel
theorem d_L_holder_9 : decode b_L_holder 9 = .ok (.goto 6, 3) := by decide +kernel
theorem d_L_holder_12 : decode b_L_holder 12 = .ok (.astore_n 3, 1) := by decide +kernel
theorem d_L_holder_13 : decode b_L_holder 13 = .ok (.iconst 1, 1) := by decide +kernel
theorem d_L_holder_14 : decode b_L_holder 14 = .ok (.ireturn, 1) := by decide +kernel
theorem d_L_holder_15 : decode b_L_holder 15 = .ok (.iconst 0, 1) := by decide +kernel
theorem d_L_holder_16 : decode b_L_holder 16 = .ok (.ireturn, 1) := by decide +kernel
theorem d_L_waits_0 : decode b_L_waits 0 = .ok (.aload_n 3, 1) := by decide +kernel
theorem d_L_waits_1 : decode b_L_waits 1 = .ok (.iconst 0, 1) := by decide +kernel
theorem d_L_waits_2 : decode b_L_waits 2 = .ok (.aload_n 0, 1) := by decide +kernel
theorem d_L_waits_3 : decode b_L_waits 3 = .ok (.iload_n 1, 1) := by decide +kernel
theorem d_L_waits_4 : decode b_L_waits 4 = .ok (.iload_n 2, 1) := by decide +kernel
theorem d_L_waits_5 : decode b_L_waits 5 = .ok (.invokevirtual 28, 3) := by decide +kernel
theorem d_L_waits_8 : decode b_L_waits 8 = .ok (.i2l, 1) := by decide +kernel
theorem d_L_waits_9 : decode b_L_waits 9 = .ok (.lastore, 1) := by decide +kernel
theorem d_L_waits_10 : decode b_L_waits 10 = .ok (.goto 7, 3) := by decide +kernel
theorem d_L_waits_13 : decode b_L_waits 13 = .ok (.astore 4, 2) := by decide +kernel
theorem d_L_waits_15 : decode b_L_waits 15 = .ok (.iconst 1, 1) := by decide +kernel
theorem d_L_waits_16 : decode b_L_waits 16 = .ok (.ireturn, 1) := by decide +kernel
theorem d_L_waits_17 : decode b_L_waits 17 = .ok (.iconst 0, 1) := by decide +kernel
theorem d_L_waits_18 : decode b_L_waits 18 = .ok (.ireturn, 1) := by decide +kernel
end
section
theorem d_L_dead_0 : decode b_L_dead 0 = .ok (.aload_n 2, 1) := by decide +kernel
theorem d_L_dead_1 : decode b_L_dead 1 = .ok (.iconst 0, 1) := by decide +kernel
theorem d_L_dead_2 : decode b_L_dead 2 = .ok (.aload_n 0, 1) := by decide +kernel
theorem d_L_dead_3 : decode b_L_dead 3 = .ok (.iload_n 1, 1) := by decide +kernel
theorem d_L_dead_4 : decode b_L_dead 4 = .ok (.invokevirtual 31, 3) := by decide +kernel
theorem d_L_dead_7 : decode b_L_dead 7 = .ok (.i2l, 1) := by decide +kernel
theorem d_L_dead_8 : decode b_L_dead 8 = .ok (.lastore, 1) := by decide +kernel
theorem d_L_dead_9 : decode b_L_dead 9 = .ok (.goto 6, 3) := by decide +kernel
theorem d_L_dead_12 : decode b_L_dead 12 = .ok (.astore_n 3, 1) := by decide +kernel
theorem d_L_dead_13 : decode b_L_dead 13 = .ok (.iconst 1, 1) := by decide +kernel
theorem d_L_dead_14 : decode b_L_dead 14 = .ok (.ireturn, 1) := by decide +kernel
theorem d_L_dead_15 : decode b_L_dead 15 = .ok (.iconst 0, 1) := by decide +kernel
theorem d_L_dead_16 : decode b_L_dead 16 = .ok (.ireturn, 1) := by decide +kernel
theorem d_L_tick_0 : decode b_L_tick 0 = .ok (.aload_n 2, 1) := by decide +kernel
theorem d_L_tick_1 : decode b_L_tick 1 = .ok (.iconst 0, 1) := by decide +kernel
theorem d_L_tick_2 : decode b_L_tick 2 = .ok (.aload_n 0, 1) := by decide +kernel
theorem d_L_tick_3 : decode b_L_tick 3 = .ok (.iload_n 1, 1) := by decide +kernel
theorem d_L_tick_4 : decode b_L_tick 4 = .ok (.invokevirtual 34, 3) := by decide +kernel
theorem d_L_tick_7 : decode b_L_tick 7 = .ok (.i2l, 1) := by decide +kernel
theorem d_L_tick_8 : decode b_L_tick 8 = .ok (.lastore, 1) := by decide +kernel
theorem d_L_tick_9 : decode b_L_tick 9 = .ok (.goto 6, 3) := by decide +kernel
theorem d_L_tick_12 : decode b_L_tick 12 = .ok (.astore_n 3, 1) := by decide +kernel
theorem d_L_tick_13 : decode b_L_tick 13 = .ok (.iconst 1, 1) := by decide +kernel
theorem d_L_tick_14 : decode b_L_tick 14 = .ok (.ireturn, 1) := by decide +kernel
theorem d_L_tick_15 : decode b_L_tick 15 = .ok (.iconst 0, 1) := by decide +kernel
theorem d_L_tick_16 : decode b_L_tick 16 = .ok (.ireturn, 1) := by decide +kernel
theorem d_L_look_0 : decode b_L_look 0 = .ok (.aload_n 3, 1) := by decide +kernel
theorem d_L_look_1 : decode b_L_look 1 = .ok (.iconst 0, 1) := by decide +kernel
theorem d_L_look_2 : decode b_L_look 2 = .ok (.aload_n 0, 1) := by decide +kernel
theorem d_L_look_3 : decode b_L_look 3 = .ok (.iload_n 1, 1) := by decide +kernel
theorem d_L_look_4 : decode b_L_look 4 = .ok (.iload_n 2, 1) := by decide +kernel
theorem d_L_look_5 : decode b_L_look 5 = .ok (.invokevirtual 37, 3) := by decide +kernel
theorem d_L_look_8 : decode b_L_look 8 = .ok (.i2l, 1) := by decide +kernel
theorem d_L_look_9 : decode b_L_look 9 = .ok (.lastore, 1) := by decide +kernel
theorem d_L_look_10 : decode b_L_look 10 = .ok (.goto 7, 3) := by decide +kernel
theorem d_L_look_13 : decode b_L_look 13 = .ok (.astore 4, 2) := by decide +kernel
theorem d_L_look_15 : decode b_L_look 15 = .ok (.iconst 1, 1) := by decide +kernel
theorem d_L_look_16 : decode b_L_look 16 = .ok (.ireturn, 1) := by decide +kernel
theorem d_L_look_17 : decode b_L_look 17 = .ok (.iconst 0, 1) := by decide +kernel
theorem d_L_look_18 : decode b_L_look 18 = .ok (.ireturn, 1) := by decide +kernel
theorem d_L_law_0 : decode b_L_law 0 = .ok (.new 8, 3) := by decide +kernel
theorem d_L_law_3 : decode b_L_law 3 = .ok (.dup, 1) := by decide +kernel
theorem d_L_law_4 : decode b_L_law 4 = .ok (.invokespecial 42, 3) := by decide +kernel
theorem d_L_law_7 : decode b_L_law 7 = .ok (.astore_n 1, 1) := by decide +kernel
theorem d_L_law_8 : decode b_L_law 8 = .ok (.new 43, 3) := by decide +kernel
theorem d_L_law_11 : decode b_L_law 11 = .ok (.dup, 1) := by decide +kernel
theorem d_L_law_12 : decode b_L_law 12 = .ok (.invokespecial 45, 3) := by decide +kernel
theorem d_L_law_15 : decode b_L_law 15 = .ok (.astore_n 2, 1) := by decide +kernel
theorem d_L_law_16 : decode b_L_law 16 = .ok (.iconst 1, 1) := by decide +kernel
theorem d_L_law_17 : decode b_L_law 17 = .ok (.newarray .long, 2) := by decide +kernel
theorem d_L_law_19 : decode b_L_law 19 = .ok (.astore_n 3, 1) := by decide +kernel
theorem d_L_law_20 : decode b_L_law 20 = .ok (.iconst 0, 1) := by decide +kernel
theorem d_L_law_21 : decode b_L_law 21 = .ok (.istore 4, 2) := by decide +kernel
theorem d_L_law_23 : decode b_L_law 23 = .ok (.iload 4, 2) := by decide +kernel
theorem d_L_law_25 : decode b_L_law 25 = .ok (.aload_n 0, 1) := by decide +kernel
theorem d_L_law_26 : decode b_L_law 26 = .ok (.arraylength, 1) := by decide +kernel
theorem d_L_law_27 : decode b_L_law 27 = .ok (.iconst 4, 1) := by decide +kernel
theorem d_L_law_28 : decode b_L_law 28 = .ok (.isub, 1) := by decide +kernel
theorem d_L_law_29 : decode b_L_law 29 = .ok (.if_icmp .gt 690, 3) := by decide +kernel
theorem d_L_law_32 : decode b_L_law 32 = .ok (.aload_n 0, 1) := by decide +kernel
theorem d_L_law_33 : decode b_L_law 33 = .ok (.iload 4, 2) := by decide +kernel
theorem d_L_law_35 : decode b_L_law 35 = .ok (.iaload, 1) := by decide +kernel
theorem d_L_law_36 : decode b_L_law 36 = .ok (.bipush 15, 2) := by decide +kernel
theorem d_L_law_38 : decode b_L_law 38 = .ok (.iand, 1) := by decide +kernel
theorem d_L_law_39 : decode b_L_law 39 = .ok (.tableswitch 674 0 12 #[65, 133, 182, 238, 282, 307, 363, 431, 456, 512, 568, 581, 649], 65) := by decide +kernel
theorem d_L_law_104 : decode b_L_law 104 = .ok (.aload_n 1, 1) := by decide +kernel
theorem d_L_law_105 : decode b_L_law 105 = .ok (.aload_n 0, 1) := by decide +kernel
theorem d_L_law_106 : decode b_L_law 106 = .ok (.iload 4, 2) := by decide +kernel
theorem d_L_law_108 : decode b_L_law 108 = .ok (.iconst 1, 1) := by decide +kernel
theorem d_L_law_109 : decode b_L_law 109 = .ok (.iadd, 1) := by decide +kernel
theorem d_L_law_110 : decode b_L_law 110 = .ok (.iaload, 1) := by decide +kernel
theorem d_L_law_111 : decode b_L_law 111 = .ok (.aload_n 0, 1) := by decide +kernel
theorem d_L_law_112 : decode b_L_law 112 = .ok (.iload 4, 2) := by decide +kernel
theorem d_L_law_114 : decode b_L_law 114 = .ok (.iconst 2, 1) := by decide +kernel
theorem d_L_law_115 : decode b_L_law 115 = .ok (.iadd, 1) := by decide +kernel
theorem d_L_law_116 : decode b_L_law 116 = .ok (.iaload, 1) := by decide +kernel
theorem d_L_law_117 : decode b_L_law 117 = .ok (.aload_n 3, 1) := by decide +kernel
theorem d_L_law_118 : decode b_L_law 118 = .ok (.invokestatic 46, 3) := by decide +kernel
theorem d_L_law_121 : decode b_L_law 121 = .ok (.istore 5, 2) := by decide +kernel
theorem d_L_law_123 : decode b_L_law 123 = .ok (.aload_n 2, 1) := by decide +kernel
theorem d_L_law_124 : decode b_L_law 124 = .ok (.aload_n 0, 1) := by decide +kernel
theorem d_L_law_125 : decode b_L_law 125 = .ok (.iload 4, 2) := by decide +kernel
theorem d_L_law_127 : decode b_L_law 127 = .ok (.iconst 1, 1) := by decide +kernel
theorem d_L_law_128 : decode b_L_law 128 = .ok (.iadd, 1) := by decide +kernel
theorem d_L_law_129 : decode b_L_law 129 = .ok (.iaload, 1) := by decide +kernel
theorem d_L_law_130 : decode b_L_law 130 = .ok (.aload_n 0, 1) := by decide +kernel
theorem d_L_law_131 : decode b_L_law 131 = .ok (.iload 4, 2) := by decide +kernel
theorem d_L_law_133 : decode b_L_law 133 = .ok (.iconst 2, 1) := by decide +kernel
theorem d_L_law_134 : decode b_L_law 134 = .ok (.iadd, 1) := by decide +kernel
theorem d_L_law_135 : decode b_L_law 135 = .ok (.iaload, 1) := by decide +kernel
theorem d_L_law_136 : decode b_L_law 136 = .ok (.invokevirtual 51, 3) := by decide +kernel
theorem d_L_law_139 : decode b_L_law 139 = .ok (.istore 6, 2) := by decide +kernel
theorem d_L_law_141 : decode b_L_law 141 = .ok (.aload_n 2, 1) := by decide +kernel
theorem d_L_law_142 : decode b_L_law 142 = .ok (.invokevirtual 52, 3) := by decide +kernel
theorem d_L_law_145 : decode b_L_law 145 = .ok (.iload 5, 2) := by decide +kernel
theorem d_L_law_147 : decode b_L_law 147 = .ok (.if_icmp .eq 5, 3) := by decide +kernel
theorem d_L_law_150 : decode b_L_law 150 = .ok (.iconst 0, 1) := by decide +kernel
theorem d_L_law_151 : decode b_L_law 151 = .ok (.ireturn, 1) := by decide +kernel
theorem d_L_law_152 : decode b_L_law 152 = .ok (.iload 5, 2) := by decide +kernel
theorem d_L_law_154 : decode b_L_law 154 = .ok (.ifCond .ne 15, 3) := by decide +kernel
end
section
theorem d_L_law_157 : decode b_L_law 157 = .ok (.aload_n 3, 1) := by decide +kernel
theorem d_L_law_158 : decode b_L_law 158 = .ok (.iconst 0, 1) := by decide +kernel
theorem d_L_law_159 : decode b_L_law 159 = .ok (.laload, 1) := by decide +kernel
theorem d_L_law_160 : decode b_L_law 160 = .ok (.iload 6, 2) := by decide +kernel
theorem d_L_law_162 : decode b_L_law 162 = .ok (.i2l, 1) := by decide +kernel
theorem d_L_law_163 : decode b_L_law 163 = .ok (.lcmp, 1) := by decide +kernel
theorem d_L_law_164 : decode b_L_law 164 = .ok (.ifCond .eq 5, 3) := by decide +kernel
theorem d_L_law_167 : decode b_L_law 167 = .ok (.iconst 0, 1) := by decide +kernel
theorem d_L_law_168 : decode b_L_law 168 = .ok (.ireturn, 1) := by decide +kernel
theorem d_L_law_169 : decode b_L_law 169 = .ok (.goto 544, 3) := by decide +kernel
theorem d_L_law_172 : decode b_L_law 172 = .ok (.aload_n 1, 1) := by decide +kernel
theorem d_L_law_173 : decode b_L_law 173 = .ok (.aload_n 0, 1) := by decide +kernel
theorem d_L_law_174 : decode b_L_law 174 = .ok (.iload 4, 2) := by decide +kernel
theorem d_L_law_176 : decode b_L_law 176 = .ok (.iconst 1, 1) := by decide +kernel
theorem d_L_law_177 : decode b_L_law 177 = .ok (.iadd, 1) := by decide +kernel
theorem d_L_law_178 : decode b_L_law 178 = .ok (.iaload, 1) := by decide +kernel
theorem d_L_law_179 : decode b_L_law 179 = .ok (.aload_n 0, 1) := by decide +kernel
theorem d_L_law_180 : decode b_L_law 180 = .ok (.iload 4, 2) := by decide +kernel
theorem d_L_law_182 : decode b_L_law 182 = .ok (.iconst 2, 1) := by decide +kernel
theorem d_L_law_183 : decode b_L_law 183 = .ok (.iadd, 1) := by decide +kernel
theorem d_L_law_184 : decode b_L_law 184 = .ok (.iaload, 1) := by decide +kernel
theorem d_L_law_185 : decode b_L_law 185 = .ok (.aload_n 0, 1) := by decide +kernel
theorem d_L_law_186 : decode b_L_law 186 = .ok (.iload 4, 2) := by decide +kernel
theorem d_L_law_188 : decode b_L_law 188 = .ok (.iconst 3, 1) := by decide +kernel
theorem d_L_law_189 : decode b_L_law 189 = .ok (.iadd, 1) := by decide +kernel
theorem d_L_law_190 : decode b_L_law 190 = .ok (.iaload, 1) := by decide +kernel
theorem d_L_law_191 : decode b_L_law 191 = .ok (.invokevirtual 55, 3) := by decide +kernel
theorem d_L_law_194 : decode b_L_law 194 = .ok (.aload_n 2, 1) := by decide +kernel
theorem d_L_law_195 : decode b_L_law 195 = .ok (.aload_n 0, 1) := by decide +kernel
theorem d_L_law_196 : decode b_L_law 196 = .ok (.iload 4, 2) := by decide +kernel
theorem d_L_law_198 : decode b_L_law 198 = .ok (.iconst 1, 1) := by decide +kernel
theorem d_L_law_199 : decode b_L_law 199 = .ok (.iadd, 1) := by decide +kernel
theorem d_L_law_200 : decode b_L_law 200 = .ok (.iaload, 1) := by decide +kernel
theorem d_L_law_201 : decode b_L_law 201 = .ok (.aload_n 0, 1) := by decide +kernel
theorem d_L_law_202 : decode b_L_law 202 = .ok (.iload 4, 2) := by decide +kernel
theorem d_L_law_204 : decode b_L_law 204 = .ok (.iconst 2, 1) := by decide +kernel
theorem d_L_law_205 : decode b_L_law 205 = .ok (.iadd, 1) := by decide +kernel
theorem d_L_law_206 : decode b_L_law 206 = .ok (.iaload, 1) := by decide +kernel
theorem d_L_law_207 : decode b_L_law 207 = .ok (.aload_n 0, 1) := by decide +kernel
theorem d_L_law_208 : decode b_L_law 208 = .ok (.iload 4, 2) := by decide +kernel
theorem d_L_law_210 : decode b_L_law 210 = .ok (.iconst 3, 1) := by decide +kernel
theorem d_L_law_211 : decode b_L_law 211 = .ok (.iadd, 1) := by decide +kernel
theorem d_L_law_212 : decode b_L_law 212 = .ok (.iaload, 1) := by decide +kernel
theorem d_L_law_213 : decode b_L_law 213 = .ok (.invokevirtual 59, 3) := by decide +kernel
theorem d_L_law_216 : decode b_L_law 216 = .ok (.if_icmp .eq 497, 3) := by decide +kernel
theorem d_L_law_219 : decode b_L_law 219 = .ok (.iconst 0, 1) := by decide +kernel
theorem d_L_law_220 : decode b_L_law 220 = .ok (.ireturn, 1) := by decide +kernel
theorem d_L_law_221 : decode b_L_law 221 = .ok (.aload_n 1, 1) := by decide +kernel
theorem d_L_law_222 : decode b_L_law 222 = .ok (.aload_n 0, 1) := by decide +kernel
theorem d_L_law_223 : decode b_L_law 223 = .ok (.iload 4, 2) := by decide +kernel
theorem d_L_law_225 : decode b_L_law 225 = .ok (.iconst 1, 1) := by decide +kernel
theorem d_L_law_226 : decode b_L_law 226 = .ok (.iadd, 1) := by decide +kernel
theorem d_L_law_227 : decode b_L_law 227 = .ok (.iaload, 1) := by decide +kernel
theorem d_L_law_228 : decode b_L_law 228 = .ok (.aload_n 3, 1) := by decide +kernel
theorem d_L_law_229 : decode b_L_law 229 = .ok (.invokestatic 60, 3) := by decide +kernel
theorem d_L_law_232 : decode b_L_law 232 = .ok (.istore 5, 2) := by decide +kernel
theorem d_L_law_234 : decode b_L_law 234 = .ok (.aload_n 2, 1) := by decide +kernel
theorem d_L_law_235 : decode b_L_law 235 = .ok (.aload_n 0, 1) := by decide +kernel
theorem d_L_law_236 : decode b_L_law 236 = .ok (.iload 4, 2) := by decide +kernel
theorem d_L_law_238 : decode b_L_law 238 = .ok (.iconst 1, 1) := by decide +kernel
end
section
theorem d_L_law_239 : decode b_L_law 239 = .ok (.iadd, 1) := by decide +kernel
theorem d_L_law_240 : decode b_L_law 240 = .ok (.iaload, 1) := by decide +kernel
theorem d_L_law_241 : decode b_L_law 241 = .ok (.invokevirtual 63, 3) := by decide +kernel
theorem d_L_law_244 : decode b_L_law 244 = .ok (.istore 6, 2) := by decide +kernel
theorem d_L_law_246 : decode b_L_law 246 = .ok (.aload_n 2, 1) := by decide +kernel
theorem d_L_law_247 : decode b_L_law 247 = .ok (.invokevirtual 52, 3) := by decide +kernel
theorem d_L_law_250 : decode b_L_law 250 = .ok (.iload 5, 2) := by decide +kernel
theorem d_L_law_252 : decode b_L_law 252 = .ok (.if_icmp .eq 5, 3) := by decide +kernel
theorem d_L_law_255 : decode b_L_law 255 = .ok (.iconst 0, 1) := by decide +kernel
theorem d_L_law_256 : decode b_L_law 256 = .ok (.ireturn, 1) := by decide +kernel
theorem d_L_law_257 : decode b_L_law 257 = .ok (.iload 5, 2) := by decide +kernel
theorem d_L_law_259 : decode b_L_law 259 = .ok (.ifCond .ne 15, 3) := by decide +kernel
theorem d_L_law_262 : decode b_L_law 262 = .ok (.aload_n 3, 1) := by decide +kernel
theorem d_L_law_263 : decode b_L_law 263 = .ok (.iconst 0, 1) := by decide +kernel
theorem d_L_law_264 : decode b_L_law 264 = .ok (.laload, 1) := by decide +kernel
theorem d_L_law_265 : decode b_L_law 265 = .ok (.iload 6, 2) := by decide +kernel
theorem d_L_law_267 : decode b_L_law 267 = .ok (.i2l, 1) := by decide +kernel
theorem d_L_law_268 : decode b_L_law 268 = .ok (.lcmp, 1) := by decide +kernel
theorem d_L_law_269 : decode b_L_law 269 = .ok (.ifCond .eq 5, 3) := by decide +kernel
theorem d_L_law_272 : decode b_L_law 272 = .ok (.iconst 0, 1) := by decide +kernel
theorem d_L_law_273 : decode b_L_law 273 = .ok (.ireturn, 1) := by decide +kernel
theorem d_L_law_274 : decode b_L_law 274 = .ok (.goto 439, 3) := by decide +kernel
theorem d_L_law_277 : decode b_L_law 277 = .ok (.aload_n 1, 1) := by decide +kernel
theorem d_L_law_278 : decode b_L_law 278 = .ok (.aload_n 3, 1) := by decide +kernel
theorem d_L_law_279 : decode b_L_law 279 = .ok (.invokestatic 64, 3) := by decide +kernel
theorem d_L_law_282 : decode b_L_law 282 = .ok (.istore 5, 2) := by decide +kernel
theorem d_L_law_284 : decode b_L_law 284 = .ok (.aload_n 2, 1) := by decide +kernel
theorem d_L_law_285 : decode b_L_law 285 = .ok (.invokevirtual 67, 3) := by decide +kernel
theorem d_L_law_288 : decode b_L_law 288 = .ok (.istore 6, 2) := by decide +kernel
theorem d_L_law_290 : decode b_L_law 290 = .ok (.aload_n 2, 1) := by decide +kernel
theorem d_L_law_291 : decode b_L_law 291 = .ok (.invokevirtual 52, 3) := by decide +kernel
theorem d_L_law_294 : decode b_L_law 294 = .ok (.iload 5, 2) := by decide +kernel
theorem d_L_law_296 : decode b_L_law 296 = .ok (.if_icmp .eq 5, 3) := by decide +kernel
theorem d_L_law_299 : decode b_L_law 299 = .ok (.iconst 0, 1) := by decide +kernel
theorem d_L_law_300 : decode b_L_law 300 = .ok (.ireturn, 1) := by decide +kernel
theorem d_L_law_301 : decode b_L_law 301 = .ok (.iload 5, 2) := by decide +kernel
theorem d_L_law_303 : decode b_L_law 303 = .ok (.ifCond .ne 15, 3) := by decide +kernel
theorem d_L_law_306 : decode b_L_law 306 = .ok (.aload_n 3, 1) := by decide +kernel
theorem d_L_law_307 : decode b_L_law 307 = .ok (.iconst 0, 1) := by decide +kernel
theorem d_L_law_308 : decode b_L_law 308 = .ok (.laload, 1) := by decide +kernel
theorem d_L_law_309 : decode b_L_law 309 = .ok (.iload 6, 2) := by decide +kernel
theorem d_L_law_311 : decode b_L_law 311 = .ok (.i2l, 1) := by decide +kernel
theorem d_L_law_312 : decode b_L_law 312 = .ok (.lcmp, 1) := by decide +kernel
theorem d_L_law_313 : decode b_L_law 313 = .ok (.ifCond .eq 5, 3) := by decide +kernel
theorem d_L_law_316 : decode b_L_law 316 = .ok (.iconst 0, 1) := by decide +kernel
theorem d_L_law_317 : decode b_L_law 317 = .ok (.ireturn, 1) := by decide +kernel
theorem d_L_law_318 : decode b_L_law 318 = .ok (.goto 395, 3) := by decide +kernel
theorem d_L_law_321 : decode b_L_law 321 = .ok (.aload_n 1, 1) := by decide +kernel
theorem d_L_law_322 : decode b_L_law 322 = .ok (.aload_n 0, 1) := by decide +kernel
theorem d_L_law_323 : decode b_L_law 323 = .ok (.iload 4, 2) := by decide +kernel
theorem d_L_law_325 : decode b_L_law 325 = .ok (.iconst 1, 1) := by decide +kernel
theorem d_L_law_326 : decode b_L_law 326 = .ok (.iadd, 1) := by decide +kernel
theorem d_L_law_327 : decode b_L_law 327 = .ok (.iaload, 1) := by decide +kernel
theorem d_L_law_328 : decode b_L_law 328 = .ok (.invokevirtual 68, 3) := by decide +kernel
theorem d_L_law_331 : decode b_L_law 331 = .ok (.aload_n 2, 1) := by decide +kernel
theorem d_L_law_332 : decode b_L_law 332 = .ok (.aload_n 0, 1) := by decide +kernel
theorem d_L_law_333 : decode b_L_law 333 = .ok (.iload 4, 2) := by decide +kernel
theorem d_L_law_335 : decode b_L_law 335 = .ok (.iconst 1, 1) := by decide +kernel
theorem d_L_law_336 : decode b_L_law 336 = .ok (.iadd, 1) := by decide +kernel
theorem d_L_law_337 : decode b_L_law 337 = .ok (.iaload, 1) := by decide +kernel
end
section
theorem d_L_law_338 : decode b_L_law 338 = .ok (.invokevirtual 71, 3) := by decide +kernel
theorem d_L_law_341 : decode b_L_law 341 = .ok (.if_icmp .eq 372, 3) := by decide +kernel
theorem d_L_law_344 : decode b_L_law 344 = .ok (.iconst 0, 1) := by decide +kernel
theorem d_L_law_345 : decode b_L_law 345 = .ok (.ireturn, 1) := by decide +kernel
theorem d_L_law_346 : decode b_L_law 346 = .ok (.aload_n 1, 1) := by decide +kernel
theorem d_L_law_347 : decode b_L_law 347 = .ok (.aload_n 0, 1) := by decide +kernel
theorem d_L_law_348 : decode b_L_law 348 = .ok (.iload 4, 2) := by decide +kernel
theorem d_L_law_350 : decode b_L_law 350 = .ok (.iconst 1, 1) := by decide +kernel
theorem d_L_law_351 : decode b_L_law 351 = .ok (.iadd, 1) := by decide +kernel
theorem d_L_law_352 : decode b_L_law 352 = .ok (.iaload, 1) := by decide +kernel
theorem d_L_law_353 : decode b_L_law 353 = .ok (.aload_n 3, 1) := by decide +kernel
theorem d_L_law_354 : decode b_L_law 354 = .ok (.invokestatic 72, 3) := by decide +kernel
theorem d_L_law_357 : decode b_L_law 357 = .ok (.istore 5, 2) := by decide +kernel
theorem d_L_law_359 : decode b_L_law 359 = .ok (.aload_n 2, 1) := by decide +kernel
theorem d_L_law_360 : decode b_L_law 360 = .ok (.aload_n 0, 1) := by decide +kernel
theorem d_L_law_361 : decode b_L_law 361 = .ok (.iload 4, 2) := by decide +kernel
theorem d_L_law_363 : decode b_L_law 363 = .ok (.iconst 1, 1) := by decide +kernel
theorem d_L_law_364 : decode b_L_law 364 = .ok (.iadd, 1) := by decide +kernel
theorem d_L_law_365 : decode b_L_law 365 = .ok (.iaload, 1) := by decide +kernel
theorem d_L_law_366 : decode b_L_law 366 = .ok (.invokevirtual 74, 3) := by decide +kernel
theorem d_L_law_369 : decode b_L_law 369 = .ok (.istore 6, 2) := by decide +kernel
theorem d_L_law_371 : decode b_L_law 371 = .ok (.aload_n 2, 1) := by decide +kernel
theorem d_L_law_372 : decode b_L_law 372 = .ok (.invokevirtual 52, 3) := by decide +kernel
theorem d_L_law_375 : decode b_L_law 375 = .ok (.iload 5, 2) := by decide +kernel
theorem d_L_law_377 : decode b_L_law 377 = .ok (.if_icmp .eq 5, 3) := by decide +kernel
theorem d_L_law_380 : decode b_L_law 380 = .ok (.iconst 0, 1) := by decide +kernel
theorem d_L_law_381 : decode b_L_law 381 = .ok (.ireturn, 1) := by decide +kernel
theorem d_L_law_382 : decode b_L_law 382 = .ok (.iload 5, 2) := by decide +kernel
theorem d_L_law_384 : decode b_L_law 384 = .ok (.ifCond .ne 15, 3) := by decide +kernel
theorem d_L_law_387 : decode b_L_law 387 = .ok (.aload_n 3, 1) := by decide +kernel
theorem d_L_law_388 : decode b_L_law 388 = .ok (.iconst 0, 1) := by decide +kernel
theorem d_L_law_389 : decode b_L_law 389 = .ok (.laload, 1) := by decide +kernel
theorem d_L_law_390 : decode b_L_law 390 = .ok (.iload 6, 2) := by decide +kernel
theorem d_L_law_392 : decode b_L_law 392 = .ok (.i2l, 1) := by decide +kernel
theorem d_L_law_393 : decode b_L_law 393 = .ok (.lcmp, 1) := by decide +kernel
theorem d_L_law_394 : decode b_L_law 394 = .ok (.ifCond .eq 5, 3) := by decide +kernel
theorem d_L_law_397 : decode b_L_law 397 = .ok (.iconst 0, 1) := by decide +kernel
theorem d_L_law_398 : decode b_L_law 398 = .ok (.ireturn, 1) := by decide +kernel
theorem d_L_law_399 : decode b_L_law 399 = .ok (.goto 314, 3) := by decide +kernel
theorem d_L_law_402 : decode b_L_law 402 = .ok (.aload_n 1, 1) := by decide +kernel
theorem d_L_law_403 : decode b_L_law 403 = .ok (.aload_n 0, 1) := by decide +kernel
theorem d_L_law_404 : decode b_L_law 404 = .ok (.iload 4, 2) := by decide +kernel
theorem d_L_law_406 : decode b_L_law 406 = .ok (.iconst 1, 1) := by decide +kernel
theorem d_L_law_407 : decode b_L_law 407 = .ok (.iadd, 1) := by decide +kernel
theorem d_L_law_408 : decode b_L_law 408 = .ok (.iaload, 1) := by decide +kernel
theorem d_L_law_409 : decode b_L_law 409 = .ok (.aload_n 0, 1) := by decide +kernel
theorem d_L_law_410 : decode b_L_law 410 = .ok (.iload 4, 2) := by decide +kernel
theorem d_L_law_412 : decode b_L_law 412 = .ok (.iconst 2, 1) := by decide +kernel
theorem d_L_law_413 : decode b_L_law 413 = .ok (.iadd, 1) := by decide +kernel
theorem d_L_law_414 : decode b_L_law 414 = .ok (.iaload, 1) := by decide +kernel
theorem d_L_law_415 : decode b_L_law 415 = .ok (.aload_n 3, 1) := by decide +kernel
theorem d_L_law_416 : decode b_L_law 416 = .ok (.invokestatic 75, 3) := by decide +kernel
theorem d_L_law_419 : decode b_L_law 419 = .ok (.istore 5, 2) := by decide +kernel
theorem d_L_law_421 : decode b_L_law 421 = .ok (.aload_n 2, 1) := by decide +kernel
theorem d_L_law_422 : decode b_L_law 422 = .ok (.aload_n 0, 1) := by decide +kernel
theorem d_L_law_423 : decode b_L_law 423 = .ok (.iload 4, 2) := by decide +kernel
theorem d_L_law_425 : decode b_L_law 425 = .ok (.iconst 1, 1) := by decide +kernel
theorem d_L_law_426 : decode b_L_law 426 = .ok (.iadd, 1) := by decide +kernel
theorem d_L_law_427 : decode b_L_law 427 = .ok (.iaload, 1) := by decide +kernel
theorem d_L_law_428 : decode b_L_law 428 = .ok (.aload_n 0, 1) := by decide +kernel
end
section
theorem d_L_law_429 : decode b_L_law 429 = .ok (.iload 4, 2) := by decide +kernel
theorem d_L_law_431 : decode b_L_law 431 = .ok (.iconst 2, 1) := by decide +kernel
theorem d_L_law_432 : decode b_L_law 432 = .ok (.iadd, 1) := by decide +kernel
theorem d_L_law_433 : decode b_L_law 433 = .ok (.iaload, 1) := by decide +kernel
theorem d_L_law_434 : decode b_L_law 434 = .ok (.invokevirtual 77, 3) := by decide +kernel
theorem d_L_law_437 : decode b_L_law 437 = .ok (.istore 6, 2) := by decide +kernel
theorem d_L_law_439 : decode b_L_law 439 = .ok (.aload_n 2, 1) := by decide +kernel
theorem d_L_law_440 : decode b_L_law 440 = .ok (.invokevirtual 52, 3) := by decide +kernel
theorem d_L_law_443 : decode b_L_law 443 = .ok (.iload 5, 2) := by decide +kernel
theorem d_L_law_445 : decode b_L_law 445 = .ok (.if_icmp .eq 5, 3) := by decide +kernel
theorem d_L_law_448 : decode b_L_law 448 = .ok (.iconst 0, 1) := by decide +kernel
theorem d_L_law_449 : decode b_L_law 449 = .ok (.ireturn, 1) := by decide +kernel
theorem d_L_law_450 : decode b_L_law 450 = .ok (.iload 5, 2) := by decide +kernel
theorem d_L_law_452 : decode b_L_law 452 = .ok (.ifCond .ne 15, 3) := by decide +kernel
theorem d_L_law_455 : decode b_L_law 455 = .ok (.aload_n 3, 1) := by decide +kernel
theorem d_L_law_456 : decode b_L_law 456 = .ok (.iconst 0, 1) := by decide +kernel
theorem d_L_law_457 : decode b_L_law 457 = .ok (.laload, 1) := by decide +kernel
theorem d_L_law_458 : decode b_L_law 458 = .ok (.iload 6, 2) := by decide +kernel
theorem d_L_law_460 : decode b_L_law 460 = .ok (.i2l, 1) := by decide +kernel
theorem d_L_law_461 : decode b_L_law 461 = .ok (.lcmp, 1) := by decide +kernel
theorem d_L_law_462 : decode b_L_law 462 = .ok (.ifCond .eq 5, 3) := by decide +kernel
theorem d_L_law_465 : decode b_L_law 465 = .ok (.iconst 0, 1) := by decide +kernel
theorem d_L_law_466 : decode b_L_law 466 = .ok (.ireturn, 1) := by decide +kernel
theorem d_L_law_467 : decode b_L_law 467 = .ok (.goto 246, 3) := by decide +kernel
theorem d_L_law_470 : decode b_L_law 470 = .ok (.aload_n 1, 1) := by decide +kernel
theorem d_L_law_471 : decode b_L_law 471 = .ok (.aload_n 0, 1) := by decide +kernel
theorem d_L_law_472 : decode b_L_law 472 = .ok (.iload 4, 2) := by decide +kernel
theorem d_L_law_474 : decode b_L_law 474 = .ok (.iconst 1, 1) := by decide +kernel
theorem d_L_law_475 : decode b_L_law 475 = .ok (.iadd, 1) := by decide +kernel
theorem d_L_law_476 : decode b_L_law 476 = .ok (.iaload, 1) := by decide +kernel
theorem d_L_law_477 : decode b_L_law 477 = .ok (.invokevirtual 78, 3) := by decide +kernel
theorem d_L_law_480 : decode b_L_law 480 = .ok (.aload_n 2, 1) := by decide +kernel
theorem d_L_law_481 : decode b_L_law 481 = .ok (.aload_n 0, 1) := by decide +kernel
theorem d_L_law_482 : decode b_L_law 482 = .ok (.iload 4, 2) := by decide +kernel
theorem d_L_law_484 : decode b_L_law 484 = .ok (.iconst 1, 1) := by decide +kernel
theorem d_L_law_485 : decode b_L_law 485 = .ok (.iadd, 1) := by decide +kernel
theorem d_L_law_486 : decode b_L_law 486 = .ok (.iaload, 1) := by decide +kernel
theorem d_L_law_487 : decode b_L_law 487 = .ok (.invokevirtual 82, 3) := by decide +kernel
theorem d_L_law_490 : decode b_L_law 490 = .ok (.if_icmp .eq 223, 3) := by decide +kernel
theorem d_L_law_493 : decode b_L_law 493 = .ok (.iconst 0, 1) := by decide +kernel
theorem d_L_law_494 : decode b_L_law 494 = .ok (.ireturn, 1) := by decide +kernel
theorem d_L_law_495 : decode b_L_law 495 = .ok (.aload_n 1, 1) := by decide +kernel
theorem d_L_law_496 : decode b_L_law 496 = .ok (.aload_n 0, 1) := by decide +kernel
theorem d_L_law_497 : decode b_L_law 497 = .ok (.iload 4, 2) := by decide +kernel
theorem d_L_law_499 : decode b_L_law 499 = .ok (.iconst 1, 1) := by decide +kernel
theorem d_L_law_500 : decode b_L_law 500 = .ok (.iadd, 1) := by decide +kernel
theorem d_L_law_501 : decode b_L_law 501 = .ok (.iaload, 1) := by decide +kernel
theorem d_L_law_502 : decode b_L_law 502 = .ok (.aload_n 3, 1) := by decide +kernel
theorem d_L_law_503 : decode b_L_law 503 = .ok (.invokestatic 83, 3) := by decide +kernel
theorem d_L_law_506 : decode b_L_law 506 = .ok (.istore 5, 2) := by decide +kernel
theorem d_L_law_508 : decode b_L_law 508 = .ok (.aload_n 2, 1) := by decide +kernel
theorem d_L_law_509 : decode b_L_law 509 = .ok (.aload_n 0, 1) := by decide +kernel
theorem d_L_law_510 : decode b_L_law 510 = .ok (.iload 4, 2) := by decide +kernel
theorem d_L_law_512 : decode b_L_law 512 = .ok (.iconst 1, 1) := by decide +kernel
theorem d_L_law_513 : decode b_L_law 513 = .ok (.iadd, 1) := by decide +kernel
theorem d_L_law_514 : decode b_L_law 514 = .ok (.iaload, 1) := by decide +kernel
theorem d_L_law_515 : decode b_L_law 515 = .ok (.invokevirtual 85, 3) := by decide +kernel
theorem d_L_law_518 : decode b_L_law 518 = .ok (.istore 6, 2) := by decide +kernel
theorem d_L_law_520 : decode b_L_law 520 = .ok (.aload_n 2, 1) := by decide +kernel
theorem d_L_law_521 : decode b_L_law 521 = .ok (.invokevirtual 52, 3) := by decide +kernel
end
section
theorem d_L_law_524 : decode b_L_law 524 = .ok (.iload 5, 2) := by decide +kernel
theorem d_L_law_526 : decode b_L_law 526 = .ok (.if_icmp .eq 5, 3) := by decide +kernel
theorem d_L_law_529 : decode b_L_law 529 = .ok (.iconst 0, 1) := by decide +kernel
theorem d_L_law_530 : decode b_L_law 530 = .ok (.ireturn, 1) := by decide +kernel
theorem d_L_law_531 : decode b_L_law 531 = .ok (.iload 5, 2) := by decide +kernel
theorem d_L_law_533 : decode b_L_law 533 = .ok (.ifCond .ne 15, 3) := by decide +kernel
theorem d_L_law_536 : decode b_L_law 536 = .ok (.aload_n 3, 1) := by decide +kernel
theorem d_L_law_537 : decode b_L_law 537 = .ok (.iconst 0, 1) := by decide +kernel
theorem d_L_law_538 : decode b_L_law 538 = .ok (.laload, 1) := by decide +kernel
theorem d_L_law_539 : decode b_L_law 539 = .ok (.iload 6, 2) := by decide +kernel
theorem d_L_law_541 : decode b_L_law 541 = .ok (.i2l, 1) := by decide +kernel
theorem d_L_law_542 : decode b_L_law 542 = .ok (.lcmp, 1) := by decide +kernel
theorem d_L_law_543 : decode b_L_law 543 = .ok (.ifCond .eq 5, 3) := by decide +kernel
theorem d_L_law_546 : decode b_L_law 546 = .ok (.iconst 0, 1) := by decide +kernel
theorem d_L_law_547 : decode b_L_law 547 = .ok (.ireturn, 1) := by decide +kernel
theorem d_L_law_548 : decode b_L_law 548 = .ok (.goto 165, 3) := by decide +kernel
theorem d_L_law_551 : decode b_L_law 551 = .ok (.aload_n 1, 1) := by decide +kernel
theorem d_L_law_552 : decode b_L_law 552 = .ok (.aload_n 0, 1) := by decide +kernel
theorem d_L_law_553 : decode b_L_law 553 = .ok (.iload 4, 2) := by decide +kernel
theorem d_L_law_555 : decode b_L_law 555 = .ok (.iconst 1, 1) := by decide +kernel
theorem d_L_law_556 : decode b_L_law 556 = .ok (.iadd, 1) := by decide +kernel
theorem d_L_law_557 : decode b_L_law 557 = .ok (.iaload, 1) := by decide +kernel
theorem d_L_law_558 : decode b_L_law 558 = .ok (.aload_n 3, 1) := by decide +kernel
theorem d_L_law_559 : decode b_L_law 559 = .ok (.invokestatic 86, 3) := by decide +kernel
theorem d_L_law_562 : decode b_L_law 562 = .ok (.istore 5, 2) := by decide +kernel
theorem d_L_law_564 : decode b_L_law 564 = .ok (.aload_n 2, 1) := by decide +kernel
theorem d_L_law_565 : decode b_L_law 565 = .ok (.aload_n 0, 1) := by decide +kernel
theorem d_L_law_566 : decode b_L_law 566 = .ok (.iload 4, 2) := by decide +kernel
theorem d_L_law_568 : decode b_L_law 568 = .ok (.iconst 1, 1) := by decide +kernel
theorem d_L_law_569 : decode b_L_law 569 = .ok (.iadd, 1) := by decide +kernel
theorem d_L_law_570 : decode b_L_law 570 = .ok (.iaload, 1) := by decide +kernel
theorem d_L_law_571 : decode b_L_law 571 = .ok (.invokevirtual 88, 3) := by decide +kernel
theorem d_L_law_574 : decode b_L_law 574 = .ok (.istore 6, 2) := by decide +kernel
theorem d_L_law_576 : decode b_L_law 576 = .ok (.aload_n 2, 1) := by decide +kernel
theorem d_L_law_577 : decode b_L_law 577 = .ok (.invokevirtual 52, 3) := by decide +kernel
theorem d_L_law_580 : decode b_L_law 580 = .ok (.iload 5, 2) := by decide +kernel
theorem d_L_law_582 : decode b_L_law 582 = .ok (.if_icmp .eq 5, 3) := by decide +kernel
theorem d_L_law_585 : decode b_L_law 585 = .ok (.iconst 0, 1) := by decide +kernel
theorem d_L_law_586 : decode b_L_law 586 = .ok (.ireturn, 1) := by decide +kernel
theorem d_L_law_587 : decode b_L_law 587 = .ok (.iload 5, 2) := by decide +kernel
theorem d_L_law_589 : decode b_L_law 589 = .ok (.ifCond .ne 15, 3) := by decide +kernel
theorem d_L_law_592 : decode b_L_law 592 = .ok (.aload_n 3, 1) := by decide +kernel
theorem d_L_law_593 : decode b_L_law 593 = .ok (.iconst 0, 1) := by decide +kernel
theorem d_L_law_594 : decode b_L_law 594 = .ok (.laload, 1) := by decide +kernel
theorem d_L_law_595 : decode b_L_law 595 = .ok (.iload 6, 2) := by decide +kernel
theorem d_L_law_597 : decode b_L_law 597 = .ok (.i2l, 1) := by decide +kernel
theorem d_L_law_598 : decode b_L_law 598 = .ok (.lcmp, 1) := by decide +kernel
theorem d_L_law_599 : decode b_L_law 599 = .ok (.ifCond .eq 5, 3) := by decide +kernel
theorem d_L_law_602 : decode b_L_law 602 = .ok (.iconst 0, 1) := by decide +kernel
theorem d_L_law_603 : decode b_L_law 603 = .ok (.ireturn, 1) := by decide +kernel
theorem d_L_law_604 : decode b_L_law 604 = .ok (.goto 109, 3) := by decide +kernel
theorem d_L_law_607 : decode b_L_law 607 = .ok (.aload_n 1, 1) := by decide +kernel
theorem d_L_law_608 : decode b_L_law 608 = .ok (.invokevirtual 89, 3) := by decide +kernel
theorem d_L_law_611 : decode b_L_law 611 = .ok (.aload_n 2, 1) := by decide +kernel
theorem d_L_law_612 : decode b_L_law 612 = .ok (.invokevirtual 92, 3) := by decide +kernel
theorem d_L_law_615 : decode b_L_law 615 = .ok (.if_icmp .eq 98, 3) := by decide +kernel
theorem d_L_law_618 : decode b_L_law 618 = .ok (.iconst 0, 1) := by decide +kernel
theorem d_L_law_619 : decode b_L_law 619 = .ok (.ireturn, 1) := by decide +kernel
theorem d_L_law_620 : decode b_L_law 620 = .ok (.aload_n 1, 1) := by decide +kernel
theorem d_L_law_621 : decode b_L_law 621 = .ok (.aload_n 0, 1) := by decide +kernel
end
section
theorem d_L_law_622 : decode b_L_law 622 = .ok (.iload 4, 2) := by decide +kernel
theorem d_L_law_624 : decode b_L_law 624 = .ok (.iconst 1, 1) := by decide +kernel
theorem d_L_law_625 : decode b_L_law 625 = .ok (.iadd, 1) := by decide +kernel
theorem d_L_law_626 : decode b_L_law 626 = .ok (.iaload, 1) := by decide +kernel
theorem d_L_law_627 : decode b_L_law 627 = .ok (.aload_n 0, 1) := by decide +kernel
theorem d_L_law_628 : decode b_L_law 628 = .ok (.iload 4, 2) := by decide +kernel
theorem d_L_law_630 : decode b_L_law 630 = .ok (.iconst 2, 1) := by decide +kernel
theorem d_L_law_631 : decode b_L_law 631 = .ok (.iadd, 1) := by decide +kernel
theorem d_L_law_632 : decode b_L_law 632 = .ok (.iaload, 1) := by decide +kernel
theorem d_L_law_633 : decode b_L_law 633 = .ok (.aload_n 3, 1) := by decide +kernel
theorem d_L_law_634 : decode b_L_law 634 = .ok (.invokestatic 93, 3) := by decide +kernel
theorem d_L_law_637 : decode b_L_law 637 = .ok (.istore 5, 2) := by decide +kernel
theorem d_L_law_639 : decode b_L_law 639 = .ok (.aload_n 2, 1) := by decide +kernel
theorem d_L_law_640 : decode b_L_law 640 = .ok (.aload_n 0, 1) := by decide +kernel
theorem d_L_law_641 : decode b_L_law 641 = .ok (.iload 4, 2) := by decide +kernel
theorem d_L_law_643 : decode b_L_law 643 = .ok (.iconst 1, 1) := by decide +kernel
theorem d_L_law_644 : decode b_L_law 644 = .ok (.iadd, 1) := by decide +kernel
theorem d_L_law_645 : decode b_L_law 645 = .ok (.iaload, 1) := by decide +kernel
theorem d_L_law_646 : decode b_L_law 646 = .ok (.aload_n 0, 1) := by decide +kernel
theorem d_L_law_647 : decode b_L_law 647 = .ok (.iload 4, 2) := by decide +kernel
theorem d_L_law_649 : decode b_L_law 649 = .ok (.iconst 2, 1) := by decide +kernel
theorem d_L_law_650 : decode b_L_law 650 = .ok (.iadd, 1) := by decide +kernel
theorem d_L_law_651 : decode b_L_law 651 = .ok (.iaload, 1) := by decide +kernel
theorem d_L_law_652 : decode b_L_law 652 = .ok (.invokevirtual 95, 3) := by decide +kernel
theorem d_L_law_655 : decode b_L_law 655 = .ok (.istore 6, 2) := by decide +kernel
theorem d_L_law_657 : decode b_L_law 657 = .ok (.aload_n 2, 1) := by decide +kernel
theorem d_L_law_658 : decode b_L_law 658 = .ok (.invokevirtual 52, 3) := by decide +kernel
theorem d_L_law_661 : decode b_L_law 661 = .ok (.iload 5, 2) := by decide +kernel
theorem d_L_law_663 : decode b_L_law 663 = .ok (.if_icmp .eq 5, 3) := by decide +kernel
theorem d_L_law_666 : decode b_L_law 666 = .ok (.iconst 0, 1) := by decide +kernel
theorem d_L_law_667 : decode b_L_law 667 = .ok (.ireturn, 1) := by decide +kernel
theorem d_L_law_668 : decode b_L_law 668 = .ok (.iload 5, 2) := by decide +kernel
theorem d_L_law_670 : decode b_L_law 670 = .ok (.ifCond .ne 15, 3) := by decide +kernel
theorem d_L_law_673 : decode b_L_law 673 = .ok (.aload_n 3, 1) := by decide +kernel
theorem d_L_law_674 : decode b_L_law 674 = .ok (.iconst 0, 1) := by decide +kernel
theorem d_L_law_675 : decode b_L_law 675 = .ok (.laload, 1) := by decide +kernel
theorem d_L_law_676 : decode b_L_law 676 = .ok (.iload 6, 2) := by decide +kernel
theorem d_L_law_678 : decode b_L_law 678 = .ok (.i2l, 1) := by decide +kernel
theorem d_L_law_679 : decode b_L_law 679 = .ok (.lcmp, 1) := by decide +kernel
theorem d_L_law_680 : decode b_L_law 680 = .ok (.ifCond .eq 5, 3) := by decide +kernel
theorem d_L_law_683 : decode b_L_law 683 = .ok (.iconst 0, 1) := by decide +kernel
theorem d_L_law_684 : decode b_L_law 684 = .ok (.ireturn, 1) := by decide +kernel
theorem d_L_law_685 : decode b_L_law 685 = .ok (.goto 28, 3) := by decide +kernel
theorem d_L_law_688 : decode b_L_law 688 = .ok (.aload_n 1, 1) := by decide +kernel
theorem d_L_law_689 : decode b_L_law 689 = .ok (.aload_n 0, 1) := by decide +kernel
theorem d_L_law_690 : decode b_L_law 690 = .ok (.iload 4, 2) := by decide +kernel
theorem d_L_law_692 : decode b_L_law 692 = .ok (.iconst 1, 1) := by decide +kernel
theorem d_L_law_693 : decode b_L_law 693 = .ok (.iadd, 1) := by decide +kernel
theorem d_L_law_694 : decode b_L_law 694 = .ok (.iaload, 1) := by decide +kernel
theorem d_L_law_695 : decode b_L_law 695 = .ok (.invokevirtual 96, 3) := by decide +kernel
theorem d_L_law_698 : decode b_L_law 698 = .ok (.aload_n 2, 1) := by decide +kernel
theorem d_L_law_699 : decode b_L_law 699 = .ok (.aload_n 0, 1) := by decide +kernel
theorem d_L_law_700 : decode b_L_law 700 = .ok (.iload 4, 2) := by decide +kernel
theorem d_L_law_702 : decode b_L_law 702 = .ok (.iconst 1, 1) := by decide +kernel
theorem d_L_law_703 : decode b_L_law 703 = .ok (.iadd, 1) := by decide +kernel
theorem d_L_law_704 : decode b_L_law 704 = .ok (.iaload, 1) := by decide +kernel
theorem d_L_law_705 : decode b_L_law 705 = .ok (.invokevirtual 99, 3) := by decide +kernel
theorem d_L_law_708 : decode b_L_law 708 = .ok (.if_icmp .eq 5, 3) := by decide +kernel
theorem d_L_law_711 : decode b_L_law 711 = .ok (.iconst 0, 1) := by decide +kernel
theorem d_L_law_712 : decode b_L_law 712 = .ok (.ireturn, 1) := by decide +kernel
end
section
theorem d_L_law_713 : decode b_L_law 713 = .ok (.iinc 4 4, 3) := by decide +kernel
theorem d_L_law_716 : decode b_L_law 716 = .ok (.goto (-693), 3) := by decide +kernel
theorem d_L_law_719 : decode b_L_law 719 = .ok (.iconst 1, 1) := by decide +kernel
theorem d_L_law_720 : decode b_L_law 720 = .ok (.ireturn, 1) := by decide +kernel
end
section
theorem d_A_fill_0 : decode b_A_fill 0 = .ok (.iconst 0, 1) := by decide +kernel
theorem d_A_fill_1 : decode b_A_fill 1 = .ok (.istore_n 2, 1) := by decide +kernel
theorem d_A_fill_2 : decode b_A_fill 2 = .ok (.aload_n 0, 1) := by decide +kernel
theorem d_A_fill_3 : decode b_A_fill 3 = .ok (.arraylength, 1) := by decide +kernel
theorem d_A_fill_4 : decode b_A_fill 4 = .ok (.istore_n 3, 1) := by decide +kernel
theorem d_A_fill_5 : decode b_A_fill 5 = .ok (.iload_n 2, 1) := by decide +kernel
theorem d_A_fill_6 : decode b_A_fill 6 = .ok (.iload_n 3, 1) := by decide +kernel
theorem d_A_fill_7 : decode b_A_fill 7 = .ok (.if_icmp .ge 13, 3) := by decide +kernel
theorem d_A_fill_10 : decode b_A_fill 10 = .ok (.aload_n 0, 1) := by decide +kernel
theorem d_A_fill_11 : decode b_A_fill 11 = .ok (.iload_n 2, 1) := by decide +kernel
theorem d_A_fill_12 : decode b_A_fill 12 = .ok (.iload_n 1, 1) := by decide +kernel
theorem d_A_fill_13 : decode b_A_fill 13 = .ok (.iastore, 1) := by decide +kernel
theorem d_A_fill_14 : decode b_A_fill 14 = .ok (.iinc 2 1, 3) := by decide +kernel
theorem d_A_fill_17 : decode b_A_fill 17 = .ok (.goto (-12), 3) := by decide +kernel
theorem d_A_fill_20 : decode b_A_fill 20 = .ok (.return_, 1) := by decide +kernel
end
section
theorem d_I_bitCount_0 : decode b_I_bitCount 0 = .ok (.iload_n 0, 1) := by decide +kernel
theorem d_I_bitCount_1 : decode b_I_bitCount 1 = .ok (.iload_n 0, 1) := by decide +kernel
theorem d_I_bitCount_2 : decode b_I_bitCount 2 = .ok (.iconst 1, 1) := by decide +kernel
theorem d_I_bitCount_3 : decode b_I_bitCount 3 = .ok (.iushr, 1) := by decide +kernel
theorem d_I_bitCount_4 : decode b_I_bitCount 4 = .ok (.ldc_w 265, 3) := by decide +kernel
theorem d_I_bitCount_7 : decode b_I_bitCount 7 = .ok (.iand, 1) := by decide +kernel
theorem d_I_bitCount_8 : decode b_I_bitCount 8 = .ok (.isub, 1) := by decide +kernel
theorem d_I_bitCount_9 : decode b_I_bitCount 9 = .ok (.istore_n 0, 1) := by decide +kernel
theorem d_I_bitCount_10 : decode b_I_bitCount 10 = .ok (.iload_n 0, 1) := by decide +kernel
theorem d_I_bitCount_11 : decode b_I_bitCount 11 = .ok (.ldc_w 266, 3) := by decide +kernel
theorem d_I_bitCount_14 : decode b_I_bitCount 14 = .ok (.iand, 1) := by decide +kernel
theorem d_I_bitCount_15 : decode b_I_bitCount 15 = .ok (.iload_n 0, 1) := by decide +kernel
theorem d_I_bitCount_16 : decode b_I_bitCount 16 = .ok (.iconst 2, 1) := by decide +kernel
theorem d_I_bitCount_17 : decode b_I_bitCount 17 = .ok (.iushr, 1) := by decide +kernel
theorem d_I_bitCount_18 : decode b_I_bitCount 18 = .ok (.ldc_w 266, 3) := by decide +kernel
theorem d_I_bitCount_21 : decode b_I_bitCount 21 = .ok (.iand, 1) := by decide +kernel
theorem d_I_bitCount_22 : decode b_I_bitCount 22 = .ok (.iadd, 1) := by decide +kernel
theorem d_I_bitCount_23 : decode b_I_bitCount 23 = .ok (.istore_n 0, 1) := by decide +kernel
theorem d_I_bitCount_24 : decode b_I_bitCount 24 = .ok (.iload_n 0, 1) := by decide +kernel
theorem d_I_bitCount_25 : decode b_I_bitCount 25 = .ok (.iload_n 0, 1) := by decide +kernel
theorem d_I_bitCount_26 : decode b_I_bitCount 26 = .ok (.iconst 4, 1) := by decide +kernel
theorem d_I_bitCount_27 : decode b_I_bitCount 27 = .ok (.iushr, 1) := by decide +kernel
theorem d_I_bitCount_28 : decode b_I_bitCount 28 = .ok (.iadd, 1) := by decide +kernel
theorem d_I_bitCount_29 : decode b_I_bitCount 29 = .ok (.ldc_w 267, 3) := by decide +kernel
theorem d_I_bitCount_32 : decode b_I_bitCount 32 = .ok (.iand, 1) := by decide +kernel
theorem d_I_bitCount_33 : decode b_I_bitCount 33 = .ok (.istore_n 0, 1) := by decide +kernel
theorem d_I_bitCount_34 : decode b_I_bitCount 34 = .ok (.iload_n 0, 1) := by decide +kernel
theorem d_I_bitCount_35 : decode b_I_bitCount 35 = .ok (.iload_n 0, 1) := by decide +kernel
theorem d_I_bitCount_36 : decode b_I_bitCount 36 = .ok (.bipush 8, 2) := by decide +kernel
theorem d_I_bitCount_38 : decode b_I_bitCount 38 = .ok (.iushr, 1) := by decide +kernel
theorem d_I_bitCount_39 : decode b_I_bitCount 39 = .ok (.iadd, 1) := by decide +kernel
theorem d_I_bitCount_40 : decode b_I_bitCount 40 = .ok (.istore_n 0, 1) := by decide +kernel
theorem d_I_bitCount_41 : decode b_I_bitCount 41 = .ok (.iload_n 0, 1) := by decide +kernel
theorem d_I_bitCount_42 : decode b_I_bitCount 42 = .ok (.iload_n 0, 1) := by decide +kernel
theorem d_I_bitCount_43 : decode b_I_bitCount 43 = .ok (.bipush 16, 2) := by decide +kernel
theorem d_I_bitCount_45 : decode b_I_bitCount 45 = .ok (.iushr, 1) := by decide +kernel
theorem d_I_bitCount_46 : decode b_I_bitCount 46 = .ok (.iadd, 1) := by decide +kernel
theorem d_I_bitCount_47 : decode b_I_bitCount 47 = .ok (.istore_n 0, 1) := by decide +kernel
theorem d_I_bitCount_48 : decode b_I_bitCount 48 = .ok (.iload_n 0, 1) := by decide +kernel
theorem d_I_bitCount_49 : decode b_I_bitCount 49 = .ok (.bipush 63, 2) := by decide +kernel
theorem d_I_bitCount_51 : decode b_I_bitCount 51 = .ok (.iand, 1) := by decide +kernel
theorem d_I_bitCount_52 : decode b_I_bitCount 52 = .ok (.ireturn, 1) := by decide +kernel
end
section
/-! what a state of the system is, and what each method does to it: numbers alone.
k: the system's own object. fields (1 deskCount, 4 askings, 6 turnsTold, 7 turnsRun, 8 turnsPassedOver, 10 entryCount, 11 time, 12 closed), arrays (0 holders, 1 gotAt, 2 turns, 3 entries),
desks (0 number, 1 acts, 3 failsAt, 4 present, 5 actsDone, 6 waitsFor, 7 askedAs, 8 isDead, 9 hasEnded), rows of needs -/
abbrev kS : Type := (Nat → Int32) × (Nat → Nat → Int32) × (Nat → Nat → Int32) × (Nat → Nat → Int32)
def k_f (σ : kS) (k : Nat) (v : Int32) : kS := (va_up σ.1 k v, σ.2)
def k_a (σ : kS) (a j : Nat) (v : Int32) : kS := (σ.1, va_up σ.2.1 a (upd (σ.2.1 a) j v), σ.2.2)
def k_d (σ : kS) (i k : Nat) (v : Int32) : kS := (σ.1, σ.2.1, va_up σ.2.2.1 i (va_up (σ.2.2.1 i) k v), σ.2.2.2)
def k_n (σ : kS) (i j : Nat) (v : Int32) : kS := (σ.1, σ.2.1, σ.2.2.1, va_up σ.2.2.2 i (upd (σ.2.2.2 i) j v))
/-- what deskAt finds -/
def kd_at (n : Nat) (x : Int32) : Option Nat := if x < 0 then none else if nI n ≤ x then none else some x.toNatClampNeg
def kd_sub (x : Int32) : Int32 := if x < 0 then 0 else if 16 ≤ x then 0 else 1
def kd_cond (σ : kS) (i : Nat) : Int32 :=
  if σ.2.2.1 i 9 = 0 then (if σ.2.2.1 i 8 = 0 then (if σ.2.2.1 i 4 < σ.2.2.1 i 1 then (if σ.2.2.1 i 6 = -1 then 0 else 1) else 2) else 3) else 4
def kd_ahead (σ : kS) (i : Nat) (x : Int32) : Int32 := if x < 0 then 0 else if x < σ.2.2.1 i 4 then 0 else if σ.2.2.1 i 1 ≤ x then 0 else 1
def kd_has (σ : kS) (i : Nat) (x s : Int32) : Int32 := if x < 0 then 0 else if 12 ≤ x then 0 else if (σ.2.2.2 i x.toNatClampNeg >>> (s &&& 31)) &&& 1 = 0 then 0 else 1
def kd_add (σ : kS) (i : Nat) (x s : Int32) : kS := if x < 0 then σ else if 12 ≤ x then σ else k_n σ i x.toNatClampNeg (σ.2.2.2 i x.toNatClampNeg ||| ((1 : Int32) <<< (s &&& 31)))
def kd_alive (σ : kS) (i : Nat) : Int32 := if kd_cond σ i = 0 then 1 else if kd_cond σ i = 1 then 1 else 0
def kd_heldp (h : Nat → Int32) (d : Int32) : Nat → Int32
  | 0 => 0
  | j + 1 => if h j = d then kd_heldp h d j ||| ((1 : Int32) <<< (nI j &&& 31)) else kd_heldp h d j
def kd_held (σ : kS) (i : Nat) : Int32 := kd_heldp (σ.2.1 0) (σ.2.2.1 i 0) 16
def kd_midst (σ : kS) (i : Nat) : Int32 := if σ.2.2.1 i 6 = -1 then (if kd_held σ i = 0 then 0 else 1) else 1
def kd_cntp (h : Nat → Int32) : Nat → Int32
  | 0 => 0
  | j + 1 => if h j = -1 then kd_cntp h j else kd_cntp h j + 1
def kd_llp (σ : kS) (i : Nat) : Nat → Option Nat
  | 0 => none
  | j + 1 => match kd_llp σ i j with
    | some k => some k
    | none => if kd_has σ i (σ.2.2.1 i 4) (nI j) = 0 then none else if σ.2.1 0 j = σ.2.2.1 i 0 then none else some j
def kd_take (σ : kS) (i s : Nat) : kS :=
  let σ1 := k_d σ i 6 (-1)
  let σ2 := k_a σ1 0 s (σ1.2.2.1 i 0)
  k_a σ2 1 s (σ2.1 11)
def kd_ask (σ : kS) (i s : Nat) : kS :=
  if σ.2.1 0 s = -1 then kd_take σ i s
  else
    let σ1 := k_d σ i 6 (nI s)
    let σ2 := k_d σ1 i 7 (σ1.1 4)
    k_f σ2 4 (σ2.1 4 + 1)
def kd_wap (σ : kS) (i : Nat) : Nat → Int32
  | 0 => 0
  | j + 1 => if σ.2.2.1 j 6 = σ.2.2.1 i 6 then (if σ.2.2.1 i 7 ≤ σ.2.2.1 j 7 then kd_wap σ i j else kd_wap σ i j + 1) else kd_wap σ i j
def kd_wfp (σ : kS) (n : Nat) (s pl : Int32) : Nat → Option Nat
  | 0 => none
  | j + 1 => match kd_wfp σ n s pl j with
    | some k => some k
    | none => if σ.2.2.1 j 6 = s then (if kd_wap σ j n = pl then some j else none) else none
def kd_gb (n : Nat) (σ : kS) (s : Nat) : kS :=
  let σ1 := k_a σ 0 s (-1)
  match kd_wfp σ1 n (nI s) 0 n with
  | none => σ1
  | some j => kd_take σ1 j s
def kd_gba (n : Nat) (σ : kS) (i : Nat) : Nat → kS
  | 0 => σ
  | j + 1 => if (kd_gba n σ i j).2.1 0 j = (kd_gba n σ i j).2.2.1 i 0 then kd_gb n (kd_gba n σ i j) j else kd_gba n σ i j
def kd_tell (σ : kS) (w : Int32) (i : Nat) : kS :=
  if 400 ≤ σ.1 10 then σ
  else
    let σ1 := k_a σ 3 (σ.1 10).toNatClampNeg (1000 * w + 100 * σ.2.2.1 i 0 + σ.2.2.1 i 4)
    k_f σ1 10 (σ1.1 10 + 1)
def kd_do (n : Nat) (σ : kS) (i : Nat) : Int32 × kS :=
  if σ.2.2.1 i 4 = σ.2.2.1 i 3 then (0, k_d (kd_gba n (kd_tell σ 2 i) i 16) i 3 (-1))
  else
    let σ2 := kd_gba n (kd_tell σ 1 i) i 16
    let σ3 := k_d σ2 i 4 (σ2.2.2.1 i 4 + 1)
    (1, k_d σ3 i 5 (σ3.2.2.1 i 5 + 1))
def kd_turn (n : Nat) (σ : kS) (i : Nat) : Int32 × kS :=
  if kd_cond σ i = 0 then (match kd_llp σ i 16 with
    | some j => (0, kd_ask σ i j)
    | none => kd_do n σ i)
  else (0, k_f σ 8 (σ.1 8 + 1))
def kd_runp (n : Nat) (σ : kS) (r : Nat) : Nat → Int32 × kS
  | 0 => (0, σ)
  | k + 1 => match kd_at n ((kd_runp n σ r k).2.2.1 2 (r + k)) with
    | none => kd_runp n σ r k
    | some i => (if (kd_turn n (kd_runp n σ r k).2 i).1 = 0 then (kd_runp n σ r k).1 else (kd_runp n σ r k).1 + 1, (kd_turn n (kd_runp n σ r k).2 i).2)
def kd_over (n : Nat) (σ : kS) (s : Nat) : Int32 := match kd_at n (σ.2.1 0 s) with
  | none => 0
  | some i => if kd_cond σ i = 3 then (if σ.1 11 - σ.2.1 1 s ≤ 100 then 0 else 1) else 0
def kd_tickp (n : Nat) (σ : kS) : Nat → Int32 × kS
  | 0 => (0, σ)
  | j + 1 => if kd_over n (kd_tickp n σ j).2 j = 0 then kd_tickp n σ j else ((kd_tickp n σ j).1 + 1, kd_gb n (kd_tickp n σ j).2 j)
def kd_end (n : Nat) (σ : kS) (i : Nat) : kS :=
  if kd_midst σ i = 0 then kd_gba n (k_d (k_d σ i 6 (-1)) i 9 1) i 16 else kd_tell (kd_gba n (k_d (k_d σ i 6 (-1)) i 9 1) i 16) 4 i
def kd_closep (n : Nat) (σ : kS) : Nat → Int32 × kS
  | 0 => (0, σ)
  | j + 1 => if kd_cond (kd_closep n σ j).2 j = 2 then kd_closep n σ j else ((kd_closep n σ j).1 + 1, kd_end n (kd_closep n σ j).2 j)
/-! m: the reference. fields: 0 thrown, 1 desks, 12 asks, 14 told, 15 ran, 16 passed, 17 entries, 19 time, 20 closed; arrays by their fields' numbers: 2 acts, 3 failing, 4 present, 5 done, 6 state, 7 needed, 8 holder, 9 got, 10 waitsFor, 11 askedAs, 13 turns, 18 entry -/
abbrev mS : Type := (Nat → Int32) × (Nat → Nat → Int32)
def m_f (τ : mS) (k : Nat) (v : Int32) : mS := (va_up τ.1 k v, τ.2)
def m_a (τ : mS) (a j : Nat) (v : Int32) : mS := (τ.1, va_up τ.2 a (upd (τ.2 a) j v))
def mo_in (v a b : Int32) : Int32 := if v < a then 0 else if b < v then 0 else 1
def mo_isd (τ : mS) (x : Int32) : Int32 := if x < 0 then 0 else if τ.1 1 ≤ x then 0 else 1
def mo_heldp (h : Nat → Int32) (d : Int32) : Nat → Int32
  | 0 => 0
  | j + 1 => mo_heldp h d j ||| (if h j = d then (1 : Int32) <<< (nI j &&& 31) else 0)
def mo_held (τ : mS) (d : Int32) : Int32 := mo_heldp (τ.2 8) d 16
def mo_onesp (v : Int32) : Nat → Int32
  | 0 => 0
  | j + 1 => mo_onesp v j + ((v >>> (nI j &&& 31)) &&& 1)
def mo_midst (τ : mS) (i : Nat) : Int32 := if mo_held τ (nI i) = 0 then (if τ.2 10 i = -1 then 0 else 1) else 1
def mo_write (τ : mS) (w : Int32) (i : Nat) : mS :=
  if 400 ≤ τ.1 17 then τ
  else
    let τ1 := m_a τ 18 (τ.1 17).toNatClampNeg (1000 * w + 100 * nI i + τ.2 4 i)
    m_f τ1 17 (τ1.1 17 + 1)
def mo_firstp (τ : mS) (s : Int32) : Nat → Int32
  | 0 => -1
  | j + 1 => if τ.2 10 j = s then (if mo_firstp τ s j < 0 then nI j else if τ.2 11 (mo_firstp τ s j).toNatClampNeg ≤ τ.2 11 j then mo_firstp τ s j else nI j) else mo_firstp τ s j
def mo_gb (n : Nat) (τ : mS) (s : Nat) : mS :=
  let d := mo_firstp τ (nI s) n
  let τ1 := m_a τ 8 s d
  let τ2 := m_a τ1 9 s (τ1.1 19)
  if d < 0 then τ2 else m_a (m_a τ2 10 d.toNatClampNeg (-1)) 6 d.toNatClampNeg 0
def mo_gap (n : Nat) (v : Int32) (τ : mS) : Nat → mS
  | 0 => τ
  | j + 1 => if (v >>> (nI j &&& 31)) &&& 1 = 1 then mo_gb n (mo_gap n v τ j) j else mo_gap n v τ j
def mo_ga (n : Nat) (τ : mS) (i : Nat) : mS := mo_gap n (mo_held τ (nI i)) τ 16
def mo_goes (τ : mS) (i : Nat) : mS :=
  let τ1 := m_a τ 4 i (τ.2 4 i + 1)
  m_a τ1 6 i (if τ1.2 4 i = τ1.2 2 i then 2 else 0)
def mo_wants (τ : mS) (i : Nat) : Int32 := τ.2 7 (12 * nI i + τ.2 4 i).toNatClampNeg &&& (mo_held τ (nI i) ^^^ (-1))
def mo_lowp (w : Int32) : Nat → Option Nat
  | 0 => none
  | j + 1 => match mo_lowp w j with
    | some k => some k
    | none => if (w >>> (nI j &&& 31)) &&& 1 = 0 then none else some j
def mo_ask (τ : mS) (i s : Nat) : mS :=
  if τ.2 8 s < 0 then
    let τ1 := m_a τ 8 s (nI i)
    m_a τ1 9 s (τ1.1 19)
  else
    let τ1 := m_a τ 10 i (nI s)
    let τ2 := m_a τ1 11 i (τ1.1 12)
    let τ3 := m_f τ2 12 (τ2.1 12 + 1)
    m_a τ3 6 i 1
def mo_do (n : Nat) (τ : mS) (i : Nat) : Int32 × mS :=
  if τ.2 3 i = τ.2 4 i then (0, mo_ga n (m_a (mo_write τ 2 i) 3 i (-1)) i)
  else
    let τ1 := mo_write τ 1 i
    let τ3 := mo_ga n (m_a τ1 3 i (τ1.2 3 i)) i
    (1, mo_goes (m_a τ3 5 i (τ3.2 5 i + 1)) i)
def mo_steps (n : Nat) (τ : mS) (i : Nat) : Int32 × mS :=
  if mo_wants τ i = 0 then mo_do n τ i
  else match mo_lowp (mo_wants τ i) 16 with
    | some s => (0, mo_ask τ i s)
    | none => (0, τ)
def mo_run1 (n : Nat) (q : Int32 × mS) : Int32 × mS :=
  let d := q.2.2 13 (q.2.1 15).toNatClampNeg
  let τ1 := m_f q.2 15 (q.2.1 15 + 1)
  if τ1.2 6 d.toNatClampNeg = 0 then (q.1 + (if (mo_steps n τ1 d.toNatClampNeg).1 = 0 then 0 else 1), (mo_steps n τ1 d.toNatClampNeg).2)
  else (q.1, m_f τ1 16 (τ1.1 16 + 1))
def mo_runp (n : Nat) (τ : mS) : Nat → Int32 × mS
  | 0 => (0, τ)
  | k + 1 => mo_run1 n (mo_runp n τ k)
def mo_ahp (τ : mS) (s : Int32) (i : Nat) : Nat → Int32
  | 0 => 0
  | k + 1 => mo_ahp τ s i k + (if τ.2 10 k = s then (if τ.2 11 i ≤ τ.2 11 k then 0 else 1) else 0)
def mo_wtp (τ : mS) (n : Nat) (s pl : Int32) : Nat → Option Nat
  | 0 => none
  | j + 1 => match mo_wtp τ n s pl j with
    | some k => some k
    | none => if τ.2 10 j = s then (if mo_ahp τ s j n = pl then some j else none) else none
def mo_over (τ : mS) (s : Nat) : Int32 :=
  if τ.2 8 s < 0 then 0 else if τ.2 6 (τ.2 8 s).toNatClampNeg = 3 then (if τ.1 19 - τ.2 9 s ≤ 100 then 0 else 1) else 0
def mo_tickp (n : Nat) (τ : mS) : Nat → Int32 × mS
  | 0 => (0, τ)
  | j + 1 => if mo_over (mo_tickp n τ j).2 j = 0 then mo_tickp n τ j else ((mo_tickp n τ j).1 + 1, mo_gb n (mo_tickp n τ j).2 j)
def mo_end (n : Nat) (τ : mS) (i : Nat) : mS :=
  if mo_midst τ i = 0 then mo_ga n (m_a (m_a τ 6 i 4) 10 i (-1)) i else mo_ga n (m_a (m_a (mo_write τ 4 i) 6 i 4) 10 i (-1)) i
def mo_closep (n : Nat) (τ : mS) : Nat → Int32 × mS
  | 0 => (0, τ)
  | j + 1 => if (mo_closep n τ j).2.2 6 j = 2 then mo_closep n τ j else ((mo_closep n τ j).1 + 1, mo_end n (mo_closep n τ j).2 j)
def mo_cntp (h : Nat → Int32) : Nat → Int32
  | 0 => 0
  | j + 1 => mo_cntp h j + (if h j < 0 then 0 else 1)
end
section
/-! the worlds' lists of cells, and rows that read and write them by the numbers of the state -/
def kw_ob (α : Nat → Nat) (σ : kS) : List Value := [.ref (α 1), .int (σ.1 1), .ref (α 2), .ref (α 3), .int (σ.1 4), .ref (α 4), .int (σ.1 6), .int (σ.1 7), .int (σ.1 8), .ref (α 5), .int (σ.1 10), .int (σ.1 11), .int (σ.1 12)]
def kw_dk (an : Nat → Nat) (σ : kS) (i : Nat) : List Value := [.int (σ.2.2.1 i 0), .int (σ.2.2.1 i 1), .ref (an i), .int (σ.2.2.1 i 3), .int (σ.2.2.1 i 4), .int (σ.2.2.1 i 5), .int (σ.2.2.1 i 6), .int (σ.2.2.1 i 7), .int (σ.2.2.1 i 8), .int (σ.2.2.1 i 9)]
def kw_q (ad : Nat → Nat) (n : Nat) : Nat → Option Nat := fun j => if j < n then some (ad j) else none
/-- the lengths of the arrays -/
def kw_len : Nat → Nat
  | 0 => 16
  | 1 => 16
  | 2 => 300
  | _ => 400
def kw_x (cI cQ : ClassId) (α ad : Nat → Nat) (n : Nat) (σ : kS) : va_W := [(α 0, .inr (0, kw_ob α σ)), (α 1, .inl (cQ, 8, .inr (.inr (.inr (.inr (kw_q ad n)))))), (α 2, .inl (cI, 16, .inl (σ.2.1 0))), (α 3, .inl (cI, 16, .inl (σ.2.1 1))), (α 4, .inl (cI, 300, .inl (σ.2.1 2))), (α 5, .inl (cI, 400, .inl (σ.2.1 3)))]
def kw_pd (ad an : Nat → Nat) (n : Nat) (σ : kS) : va_W := (List.range n).map (fun i => (ad i, .inr (1, kw_dk an σ i)))
def kw_pn (cI : ClassId) (an : Nat → Nat) (n : Nat) (σ : kS) : va_W := (List.range n).map (fun i => (an i, .inl (cI, 12, .inl (σ.2.2.2 i))))
def kw_w (cI cQ : ClassId) (α ad an : Nat → Nat) (n : Nat) (σ : kS) : va_W := kw_x cI cQ α ad n σ ++ (kw_pd ad an n σ ++ kw_pn cI an n σ)
def kw_al (α ad an : Nat → Nat) (n : Nat) : List Nat := [α 0, α 1, α 2, α 3, α 4, α 5] ++ ((List.range n).map ad ++ (List.range n).map an)
section KWa
variable {cI cQ : ClassId} {α ad an : Nat → Nat} {n : Nat} {σ : kS}
theorem kw_0 : (kw_w cI cQ α ad an n σ)[0]? = some (α 0, .inr (0, kw_ob α σ)) := rfl
theorem kw_1 : (kw_w cI cQ α ad an n σ)[1]? = some (α 1, .inl (cQ, 8, .inr (.inr (.inr (.inr (kw_q ad n)))))) := rfl
theorem kw_2 (a : Nat) (ha : a < 4) : (kw_w cI cQ α ad an n σ)[2 + a]? = some (α (2 + a), .inl (cI, kw_len a, .inl (σ.2.1 a))) := by
  rcases (show a = 0 ∨ a = 1 ∨ a = 2 ∨ a = 3 by omega) with rfl | rfl | rfl | rfl <;> rfl
theorem kw_3 {i : Nat} (h : i < n) : (kw_w cI cQ α ad an n σ)[6 + i]? = some (ad i, .inr (1, kw_dk an σ i)) := by
  have hx : (kw_x cI cQ α ad n σ).length = 6 := rfl
  unfold kw_w
  rw [List.getElem?_append_right (by rw [hx]; omega), hx, Nat.add_sub_cancel_left, List.getElem?_append_left (by simp [kw_pd]; exact h)]
  simp [kw_pd, h]
theorem kw_4 {i : Nat} (h : i < n) : (kw_w cI cQ α ad an n σ)[6 + n + i]? = some (an i, .inl (cI, 12, .inl (σ.2.2.2 i))) := by
  have hx : (kw_x cI cQ α ad n σ).length = 6 := rfl
  have hd : (kw_pd ad an n σ).length = n := by simp [kw_pd]
  unfold kw_w
  rw [List.getElem?_append_right (by rw [hx]; omega), hx, List.getElem?_append_right (by rw [hd]; omega), hd, show 6 + n + i - 6 - n = i by omega]
  simp [kw_pn, h]
/-- a list out of a function, one place changed -/
theorem kw_map_set {β : Type} (f g : Nat → β) {i : Nat} (h : i < n) {x : β} (hi : g i = x) (ho : ∀ j, j ≠ i → g j = f j) : ((List.range n).map f).set i x = (List.range n).map g := by
  apply List.ext_getElem?
  intro j
  by_cases hj : j = i
  · subst hj
    rw [List.getElem?_set_self (by simp; exact h)]
    simp [h, hi]
  · rw [List.getElem?_set_ne (Ne.symm hj)]
    by_cases hjn : j < n
    · simp [hjn, ho j hj]
    · simp [hjn]
theorem kw_3s {i : Nat} (h : i < n) (k : Nat) (hk : k = 3 ∨ k = 4 ∨ k = 5 ∨ k = 6 ∨ k = 7 ∨ k = 8 ∨ k = 9) (v : Int32) : (kw_w cI cQ α ad an n σ).set (6 + i) (ad i, .inr (1, (kw_dk an σ i).set k (.int v))) = kw_w cI cQ α ad an n (k_d σ i k v) := by
  have hx : (kw_x cI cQ α ad n σ).length = 6 := rfl
  have hd : (kw_pd ad an n σ).length = n := by simp [kw_pd]
  unfold kw_w
  rw [List.set_append_right _ _ (by rw [hx]; omega), hx, Nat.add_sub_cancel_left, List.set_append_left _ _ (by rw [hd]; exact h)]
  have e : (kw_pd ad an n σ).set i (ad i, .inr (1, (kw_dk an σ i).set k (.int v))) = kw_pd ad an n (k_d σ i k v) := by
    refine kw_map_set _ _ h ?_ ?_
    · rcases hk with rfl | rfl | rfl | rfl | rfl | rfl | rfl <;> simp [kw_dk, k_d, va_up]
    · intro j hj
      simp [kw_dk, k_d, va_up, hj]
  rw [e]
  rfl
theorem kw_4s {i : Nat} (h : i < n) (j : Nat) (v : Int32) : (kw_w cI cQ α ad an n σ).set (6 + n + i) (an i, .inl (cI, 12, .inl (upd (σ.2.2.2 i) j v))) = kw_w cI cQ α ad an n (k_n σ i j v) := by
  have hx : (kw_x cI cQ α ad n σ).length = 6 := rfl
  have hd : (kw_pd ad an n σ).length = n := by simp [kw_pd]
  unfold kw_w
  rw [List.set_append_right _ _ (by rw [hx]; omega), hx, List.set_append_right _ _ (by rw [hd]; omega), hd, show 6 + n + i - 6 - n = i by omega]
  have e : (kw_pn cI an n σ).set i (an i, .inl (cI, 12, .inl (upd (σ.2.2.2 i) j v))) = kw_pn cI an n (k_n σ i j v) := by
    refine kw_map_set _ _ h ?_ ?_
    · simp [k_n, va_up]
    · intro q hq
      simp [k_n, va_up, hq]
  rw [e]
  rfl
theorem kw_0s (k : Nat) (hk : k = 1 ∨ k = 4 ∨ k = 6 ∨ k = 7 ∨ k = 8 ∨ k = 10 ∨ k = 11 ∨ k = 12) (v : Int32) : (kw_w cI cQ α ad an n σ).set 0 (α 0, .inr (0, (kw_ob α σ).set k (.int v))) = kw_w cI cQ α ad an n (k_f σ k v) := by
  rcases hk with rfl | rfl | rfl | rfl | rfl | rfl | rfl | rfl <;> rfl
theorem kw_2s (a : Nat) (ha : a < 4) (j : Nat) (v : Int32) : (kw_w cI cQ α ad an n σ).set (2 + a) (α (2 + a), .inl (cI, kw_len a, .inl (upd (σ.2.1 a) j v))) = kw_w cI cQ α ad an n (k_a σ a j v) := by
  rcases (show a = 0 ∨ a = 1 ∨ a = 2 ∨ a = 3 by omega) with rfl | rfl | rfl | rfl <;> rfl
/-- the cells lie apart: that doesn't hang on the numbers -/
theorem kw_adr : (kw_w cI cQ α ad an n σ).map (fun q => q.1) = kw_al α ad an n := by
  simp [kw_w, kw_x, kw_pd, kw_pn, kw_al, Function.comp_def]
theorem kw_addr (σ' : kS) : (kw_w cI cQ α ad an n σ).map (fun q => q.1) = (kw_w cI cQ α ad an n σ').map (fun q => q.1) := kw_adr.trans kw_adr.symm
end KWa
theorem vd_addr {A : Nat → Prop} {w w' : va_W} (h : w.map (fun q => q.1) = w'.map (fun q => q.1)) (hD : va_D A w) : va_D A w' := by
  have key : ∀ (k : Nat) (q : Nat × va_E), w'[k]? = some q → ∃ q0, w[k]? = some q0 ∧ q0.1 = q.1 := by
    intro k q hk
    have h1 : (w'.map (fun q => q.1))[k]? = some q.1 := by rw [List.getElem?_map, hk]; rfl
    rw [← h, List.getElem?_map] at h1
    cases hw : w[k]? with
    | none => rw [hw] at h1; cases h1
    | some q0 => rw [hw] at h1; exact ⟨q0, rfl, Option.some.inj h1⟩
  refine ⟨fun i j x y hi hj hxy => ?_, fun k q hk => ?_⟩
  · obtain ⟨x0, h1, h2⟩ := key i x hi
    obtain ⟨y0, h3, h4⟩ := key j y hj
    exact hD.1 i j x0 y0 h1 h3 (h2.trans (hxy.trans h4.symm))
  · obtain ⟨q0, h1, h2⟩ := key k q hk
    rw [← h2]
    exact hD.2 k q0 h1
end
section
/-! a contract's start and end, by the world's list of cells -/
def gA (al : List Nat) : Nat → Prop := fun q => q ∈ al
def gPc (D : va_G) (tys : List (ClassId × FieldType)) (w : va_W) (av : List Value) : Array Value → State → Prop := va_Pc av (fun U => va_P D kcl w U.heap ∧ va_K D kcl tys U ∧ va_D (fun _ => True) w)
def gQi (D : va_G) (al : List Nat) (r : Int32) (w' : va_W) : Array Value → State → Outcome → State → Prop := va_Qi (S := Unit) (fun v _ => v = r) (fun _ t => va_P D kcl w' t.heap) (gA al)
def gQv (D : va_G) (al : List Nat) (w' : va_W) : Array Value → State → Outcome → State → Prop := va_Qv (S := Unit) (fun _ => True) (fun _ t => va_P D kcl w' t.heap) (gA al)
theorem gD {w : va_W} {al : List Nat} (h : w.map (fun q => q.1) = al) {B : Nat → Prop} (hD : va_D B w) : va_D (gA al) w := by
  refine ⟨hD.1, fun k q hk => ?_⟩
  subst h
  exact List.mem_map.mpr ⟨q, List.mem_of_getElem? hk, rfl⟩
theorem g_bl {D : va_G} {tys : List (ClassId × FieldType)} {w : va_W} {av : List Value} : FrameBlind (gPc D tys w av) := fun a U g mk q => by
  obtain ⟨q0, qP, qK, qD⟩ := q
  exact ⟨q0, qP, va_K.moved (u := U) (U := U.calling g mk a) (Vm.Alike.refl U.vm) qK, qD⟩
section GRr
variable {p : Program} {l : Launch} {e : Env} {R : Room} {s : State} {m : MethodId} {args : Array Value} {below : List Frame} {meth : Method} {c : Code} {H : Heap} {locs : List Loc} {cells slots : Nat} {Q : State → Prop}
variable {cc : ByteArray} {pc : Nat} {ls : Array Slot} {rest st0 : List Value} {D : va_G} {A B : Nat → Prop} {H0 : Heap} {tys : List (ClassId × FieldType)} {w w' : va_W} {al : List Nat} {a : Array Value}
theorem g_pre (hK : va_K D kcl tys s) (hP : va_P D kcl w H) (hD : va_D B w) (av : List Value) : ∀ U : State, U.heap = H → s.WarmedH U.vm → gPc D tys w av av.toArray U := fun U hU hW =>
  ⟨rfl, by rw [hU]; exact hP, va_K.moved hW.alike hK, hD.weaken (fun _ _ _ _ => trivial)⟩
theorem g_preS (hK : va_K D kcl tys s) (hP : va_P D kcl w H) (hD : va_D B w) {av : List Value} : PreS s H (gPc D tys w av) av := ⟨g_bl, g_pre hK hP hD av⟩
theorem g_preV (hK : va_K D kcl tys s) (hP : va_P D kcl w H) (hD : va_D B w) {b : Nat} {As : List Value} {q : vw_C} {ci q0 : Nat} {fs : List Value} (hc : kcl[ci]? = some q) (he : w[q0]? = some (b, .inr (ci, fs))) : PreV s H q.1 b (gPc D tys w (.ref b :: As)) As :=
  ⟨g_bl, va_recv hK hP hc he, g_pre hK hP hD (.ref b :: As)⟩
/-- ends of methods that only read -/
theorem r_reti (hx : p.tables.exec = Jvm.exec) (hb : c.code = cc) (hr : meth.sig.returnType = some .int) (hlocks : meth.locks = false) {v r : Int32} (hv : v = r) (hdg : decode cc pc = .ok (.ireturn, 1)) : W p l e R s m args below meth c s.heap [] cells slots (MQ below (QcRead r) args s cells slots (fun _ => False)) (F0 m pc ls [.int v]) :=
  W.iret hx hb hr (fun t ht _ => ⟨by rw [hv], ht⟩) (fun q h => nomatch h) hdg hlocks
theorem r_retz (hx : p.tables.exec = Jvm.exec) (hb : c.code = cc) (hr : meth.sig.returnType = some .boolean) (hlocks : meth.locks = false) {v r : Int32} (hn : v = 0 ∨ v = 1) (hv : v = r) (hdg : decode cc pc = .ok (.ireturn, 1)) : W p l e R s m args below meth c s.heap [] cells slots (MQ below (QcRead r) args s cells slots (fun _ => False)) (F0 m pc ls [.int v]) :=
  W.zret (ty := .boolean) hx hb hr (by rcases hn with rfl | rfl <;> decide +kernel) (fun t ht _ => ⟨by rw [hv], ht⟩) (fun q h => nomatch h) hdg hlocks
theorem r_retq (hx : p.tables.exec = Jvm.exec) (hb : c.code = cc) {C : String} (hr : meth.sig.returnType = some (.object C)) (hlocks : meth.locks = false) {v : Value} {r : Option Nat} (hv : v = va_rf r) (hdg : decode cc pc = .ok (.areturn, 1)) : W p l e R s m args below meth c s.heap [] cells slots (MQ below (va_Sq (fun q => q = r)) args s cells slots (fun _ => False)) (F0 m pc ls [v]) :=
  W.aret hx hb hr (Or.inl ⟨C, rfl⟩) (by rw [hv]; exact va_rf_or r) (fun t ht _ => ⟨r, by rw [hv], rfl, ht⟩) (fun q h => nomatch h) hdg hlocks
/-- ends of methods that write -/
theorem g_reti (hx : p.tables.exec = Jvm.exec) (hb : c.code = cc) (hr : meth.sig.returnType = some .int) (hlocks : meth.locks = false) {v r : Int32} (hv : v = r) (he : w = w') (hP : va_P D kcl w H) (hS : va_S (gA al) s.heap H locs) (hdg : decode cc pc = .ok (.ireturn, 1)) : W p l e R s m args below meth c H locs cells slots (MQ below (gQi D al r w') args s cells slots (gA al)) (F0 m pc ls [.int v]) :=
  W.iret hx hb hr (fun t ht _ => ⟨⟨v, (), rfl, hv, by show va_P D kcl w' t.heap; rw [ht, ← he]; exact hP⟩, hS.F ht⟩) hS.2.2 hdg hlocks
theorem g_retz (hx : p.tables.exec = Jvm.exec) (hb : c.code = cc) (hr : meth.sig.returnType = some .boolean) (hlocks : meth.locks = false) {v r : Int32} (hn : v = 0 ∨ v = 1) (hv : v = r) (he : w = w') (hP : va_P D kcl w H) (hS : va_S (gA al) s.heap H locs) (hdg : decode cc pc = .ok (.ireturn, 1)) : W p l e R s m args below meth c H locs cells slots (MQ below (gQi D al r w') args s cells slots (gA al)) (F0 m pc ls [.int v]) :=
  W.zret (ty := .boolean) hx hb hr (by rcases hn with rfl | rfl <;> decide +kernel) (fun t ht _ => ⟨⟨v, (), rfl, hv, by show va_P D kcl w' t.heap; rw [ht, ← he]; exact hP⟩, hS.F ht⟩) hS.2.2 hdg hlocks
theorem g_retv (hx : p.tables.exec = Jvm.exec) (hb : c.code = cc) (hr : meth.sig.returnType = none) (hlocks : meth.locks = false) (he : w = w') (hP : va_P D kcl w H) (hS : va_S (gA al) s.heap H locs) (hdg : decode cc pc = .ok (.return_, 1)) : W p l e R s m args below meth c H locs cells slots (MQ below (gQv D al w') args s cells slots (gA al)) (F0 m pc ls []) :=
  W.vret hx hb hr (fun t ht _ => ⟨⟨(), rfl, trivial, by show va_P D kcl w' t.heap; rw [ht, ← he]; exact hP⟩, hS.F ht⟩) hS.2.2 hdg hlocks
/-- behind calls -/
theorem r_calli {r : Int32} (hr : CallRun p l e R s m args below meth c H locs cells slots 0 0 (F0 m pc ls st0) rest (QcRead r a) (fun _ => False)) (kk : W p l e R s m args below meth c H locs cells slots Q (F0 m (pc + 3) ls (.int r :: rest))) : W p l e R s m args below meth c H locs cells slots Q (F0 m pc ls st0) := W.callR hr kk
theorem r_callq {r : Option Nat} (hr : CallRun p l e R s m args below meth c H locs cells slots 0 0 (F0 m pc ls st0) rest (va_Sq (fun q => q = r) a) (fun _ => False)) (kk : W p l e R s m args below meth c H locs cells slots Q (F0 m (pc + 3) ls (va_rf r :: rest))) : W p l e R s m args below meth c H locs cells slots Q (F0 m pc ls st0) := va_csq hr (fun q hq => by subst hq; exact kk)
theorem g_calli {r : Int32} (hr : va_Run p l e R s m args below meth c H locs cells slots 0 0 (F0 m pc ls st0) rest (gQi D al r w' a) (gA al)) (hD : va_D (gA al) w) (hS : va_S (gA al) H0 H locs) (he : w.map (fun q => q.1) = w'.map (fun q => q.1))
    (kk : ∀ (H1 : Heap) (locs1 : List Loc), va_P D kcl w' H1 → va_D (gA al) w' → va_S (gA al) H0 H1 locs1 → W p l e R s m args below meth c H1 locs1 cells slots Q (F0 m (pc + 3) ls (.int r :: rest))) : W p l e R s m args below meth c H locs cells slots Q (F0 m pc ls st0) := by
  refine va_calli hr hS (fun q _ h => h) (fun q h => h) (fun r1 u t H1 locs1 ht _ hw hB _ _ hS1 => ?_)
  subst hw
  rw [ht] at hB
  exact kk H1 locs1 hB (vd_addr he hD) hS1
theorem g_callv (hr : va_Run p l e R s m args below meth c H locs cells slots 0 0 (F0 m pc ls st0) rest (gQv D al w' a) (gA al)) (hD : va_D (gA al) w) (hS : va_S (gA al) H0 H locs) (he : w.map (fun q => q.1) = w'.map (fun q => q.1))
    (kk : ∀ (H1 : Heap) (locs1 : List Loc), va_P D kcl w' H1 → va_D (gA al) w' → va_S (gA al) H0 H1 locs1 → W p l e R s m args below meth c H1 locs1 cells slots Q (F0 m (pc + 3) ls rest)) : W p l e R s m args below meth c H locs cells slots Q (F0 m pc ls st0) := by
  refine va_callv hr hS (fun q _ h => h) (fun q h => h) (fun u t H1 locs1 ht _ _ hB _ _ hS1 => ?_)
  rw [ht] at hB
  exact kk H1 locs1 hB (vd_addr he hD) hS1
end GRr
section KWr
variable {p : Program} {l : Launch} {e : Env} {R : Room} {s : State} {m : MethodId} {args : Array Value} {below : List Frame} {meth : Method} {c : Code} {H : Heap} {locs : List Loc} {cells slots : Nat} {Q : State → Prop}
variable {cc : ByteArray} {pc : Nat} {ls : Array Slot} {rest : List Value} {D : va_G} {A : Nat → Prop} {H0 : Heap} {cI cQ : ClassId} {α ad an : Nat → Nat} {n : Nat} {σ : kS}
/-- the numbers of an index -/
theorem ix_cl {x : Int32} {j N : Nat} (he : x = nI j) (hj : j < N) (hN : N < 2 ^ 31) : vp_in x N ∧ x.toNatClampNeg = j := by
  subst he
  exact ⟨vp_in_nI hj hN, nI_clamp (by omega)⟩
theorem kw_get (hx : p.tables.exec = Jvm.exec) (hb : c.code = cc) {own : String} {index : Nat} (hts : ∀ w ∈ kT, w.before args s = true) (hown : s.vm.findClass own = some m.cls) (hK : va_K D kcl (kty cI cQ) s) (hP : va_P D kcl (kw_w cI cQ α ad an n σ) H) (k : Nat) (hk : k < 13) (hlink : Cond.fieldLink own index R_K (T_K k).2.1 (T_K k).2.2.1 ∈ kT) {v : Value} (hv : (kw_ob α σ)[k]? = some v) (hdg : decode cc pc = .ok (.getfield index, 3))
    (kk : W p l e R s m args below meth c H locs cells slots Q (F0 m (pc + 3) ls (v :: rest))) : W p l e R s m args below meth c H locs cells slots Q (F0 m pc ls (.ref (α 0) :: rest)) :=
  va_get (C := R_K) (T := T_K) (N := 13) (ci := 0) hx hb hts in_K hown hK hP 0 kw_0 rfl k hk (hts _ hlink) (fun _ h => by rw [show (T_K k).1 = R_K from T_K1 k hk] at h; exact h) hv hdg kk
theorem kw_put (hx : p.tables.exec = Jvm.exec) (hb : c.code = cc) {own : String} {index : Nat} (hts : ∀ w ∈ kT, w.before args s = true) (hown : s.vm.findClass own = some m.cls) (hK : va_K D kcl (kty cI cQ) s) (hP : va_P D kcl (kw_w cI cQ α ad an n σ) H) (hD : va_D A (kw_w cI cQ α ad an n σ)) (hS : va_S A H0 H locs) (k : Nat) (hk : k = 1 ∨ k = 4 ∨ k = 6 ∨ k = 7 ∨ k = 8 ∨ k = 10 ∨ k = 11 ∨ k = 12) (hlink : Cond.fieldLink own index R_K (T_K k).2.1 (T_K k).2.2.1 ∈ kT) {v : Int32} {ty : FieldType} (hty : parseFieldDescriptor (T_K k).2.2.1 = some ty) (hn : narrow ty (.int v) = .int v) (hfit : fits ty (.int v) = true) (hdg : decode cc pc = .ok (.putfield index, 3))
    (kk : ∀ (H1 : Heap) (locs1 : List Loc), va_P D kcl (kw_w cI cQ α ad an n (k_f σ k v)) H1 → va_D A (kw_w cI cQ α ad an n (k_f σ k v)) → va_S A H0 H1 locs1 → W p l e R s m args below meth c H1 locs1 cells slots Q (F0 m (pc + 3) ls rest)) : W p l e R s m args below meth c H locs cells slots Q (F0 m pc ls (.int v :: .ref (α 0) :: rest)) := by
  have hk13 : k < 13 := by omega
  refine va_put (C := R_K) (T := T_K) (N := 13) (ci := 0) hx hb hts in_K ty_K ty_K_ok nm_K hown hK hP hD hS 0 kw_0 rfl k hk13 (hts _ hlink) (fun _ h => by rw [show (T_K k).1 = R_K from T_K1 k hk13] at h; exact h) (T_Kf k hk) hty hn hfit (by show k < 13; exact hk13) hdg (fun H1 locs1 h1 h2 h3 => ?_)
  rw [kw_0s k hk v] at h1 h2
  exact kk H1 locs1 h1 h2 h3
theorem kw_dget (hx : p.tables.exec = Jvm.exec) (hb : c.code = cc) {own : String} {index : Nat} (hts : ∀ w ∈ kT, w.before args s = true) (hown : s.vm.findClass own = some m.cls) (hK : va_K D kcl (kty cI cQ) s) (hP : va_P D kcl (kw_w cI cQ α ad an n σ) H) {i : Nat} (hi : i < n) (k : Nat) (hk : k < 10) (hlink : Cond.fieldLink own index R_D (T_D k).2.1 (T_D k).2.2.1 ∈ kT) {v : Value} (hv : (kw_dk an σ i)[k]? = some v) (hdg : decode cc pc = .ok (.getfield index, 3))
    (kk : W p l e R s m args below meth c H locs cells slots Q (F0 m (pc + 3) ls (v :: rest))) : W p l e R s m args below meth c H locs cells slots Q (F0 m pc ls (.ref (ad i) :: rest)) :=
  va_get (C := R_D) (T := T_D) (N := 10) (ci := 1) hx hb hts in_D hown hK hP (6 + i) (kw_3 hi) rfl k hk (hts _ hlink) (fun _ h => by rw [show (T_D k).1 = R_D from T_D1 k hk] at h; exact h) hv hdg kk
theorem kw_dput (hx : p.tables.exec = Jvm.exec) (hb : c.code = cc) {own : String} {index : Nat} (hts : ∀ w ∈ kT, w.before args s = true) (hown : s.vm.findClass own = some m.cls) (hK : va_K D kcl (kty cI cQ) s) (hP : va_P D kcl (kw_w cI cQ α ad an n σ) H) (hD : va_D A (kw_w cI cQ α ad an n σ)) (hS : va_S A H0 H locs) {i : Nat} (hi : i < n) (k : Nat) (hk : k = 3 ∨ k = 4 ∨ k = 5 ∨ k = 6 ∨ k = 7 ∨ k = 8 ∨ k = 9) (hlink : Cond.fieldLink own index R_D (T_D k).2.1 (T_D k).2.2.1 ∈ kT) {v : Int32} {ty : FieldType} (hty : parseFieldDescriptor (T_D k).2.2.1 = some ty) (hn : narrow ty (.int v) = .int v) (hfit : fits ty (.int v) = true) (hdg : decode cc pc = .ok (.putfield index, 3))
    (kk : ∀ (H1 : Heap) (locs1 : List Loc), va_P D kcl (kw_w cI cQ α ad an n (k_d σ i k v)) H1 → va_D A (kw_w cI cQ α ad an n (k_d σ i k v)) → va_S A H0 H1 locs1 → W p l e R s m args below meth c H1 locs1 cells slots Q (F0 m (pc + 3) ls rest)) : W p l e R s m args below meth c H locs cells slots Q (F0 m pc ls (.int v :: .ref (ad i) :: rest)) := by
  have hk10 : k < 10 := by omega
  refine va_put (C := R_D) (T := T_D) (N := 10) (ci := 1) hx hb hts in_D ty_D ty_D_ok nm_D hown hK hP hD hS (6 + i) (kw_3 hi) rfl k hk10 (hts _ hlink) (fun _ h => by rw [show (T_D k).1 = R_D from T_D1 k hk10] at h; exact h) (T_Df k hk) hty hn hfit (by show k < 10; exact hk10) hdg (fun H1 locs1 h1 h2 h3 => ?_)
  rw [kw_3s hi k hk v] at h1 h2
  exact kk H1 locs1 h1 h2 h3
theorem kw_lt (a : Nat) : kw_len a < 2 ^ 31 := by unfold kw_len; split <;> decide
theorem kw_ald (hx : p.tables.exec = Jvm.exec) (hb : c.code = cc) (hK : va_K D kcl (kty cI cQ) s) (hP : va_P D kcl (kw_w cI cQ α ad an n σ) H) (a : Nat) (ha : a < 4) {x : Int32} {j : Nat} (he : x = nI j) (hj : j < kw_len a) (hdg : decode cc pc = .ok (.iaload, 1))
    (kk : W p l e R s m args below meth c H locs cells slots Q (F0 m (pc + 1) ls (.int (σ.2.1 a j) :: rest))) : W p l e R s m args below meth c H locs cells slots Q (F0 m pc ls (.int x :: .ref (α (2 + a)) :: rest)) := by
  obtain ⟨h1, h2⟩ := ix_cl he hj (kw_lt a)
  refine va_iald hx hb hK hP (2 + a) 0 (kw_2 a ha) rfl h1 hdg ?_
  rw [h2]; exact kk
theorem kw_ast (hx : p.tables.exec = Jvm.exec) (hb : c.code = cc) (hK : va_K D kcl (kty cI cQ) s) (hP : va_P D kcl (kw_w cI cQ α ad an n σ) H) (hD : va_D A (kw_w cI cQ α ad an n σ)) (hS : va_S A H0 H locs) (a : Nat) (ha : a < 4) {x v : Int32} {j : Nat} (he : x = nI j) (hj : j < kw_len a) (hdg : decode cc pc = .ok (.iastore, 1))
    (kk : ∀ (H1 : Heap) (locs1 : List Loc), va_P D kcl (kw_w cI cQ α ad an n (k_a σ a j v)) H1 → va_D A (kw_w cI cQ α ad an n (k_a σ a j v)) → va_S A H0 H1 locs1 → W p l e R s m args below meth c H1 locs1 cells slots Q (F0 m (pc + 1) ls rest)) : W p l e R s m args below meth c H locs cells slots Q (F0 m pc ls (.int v :: .int x :: .ref (α (2 + a)) :: rest)) := by
  obtain ⟨h1, h2⟩ := ix_cl he hj (kw_lt a)
  refine va_iast hx hb hK hP hD hS (2 + a) 0 (kw_2 a ha) rfl h1 hdg (fun H1 locs1 q1 q2 q3 => ?_)
  rw [h2, kw_2s a ha] at q1 q2
  exact kk H1 locs1 q1 q2 q3
theorem kw_alen (hx : p.tables.exec = Jvm.exec) (hb : c.code = cc) (hK : va_K D kcl (kty cI cQ) s) (hP : va_P D kcl (kw_w cI cQ α ad an n σ) H) (a : Nat) (ha : a < 4) {v : Int32} (hv : nI (kw_len a) = v) (hdg : decode cc pc = .ok (.arraylength, 1))
    (kk : W p l e R s m args below meth c H locs cells slots Q (F0 m (pc + 1) ls (.int v :: rest))) : W p l e R s m args below meth c H locs cells slots Q (F0 m pc ls (.ref (α (2 + a)) :: rest)) :=
  va_alen hx hb hK hP (2 + a) 0 (kw_2 a ha) (ty := .int) rfl hv hdg kk
theorem kw_qlen (hx : p.tables.exec = Jvm.exec) (hb : c.code = cc) (hK : va_K D kcl (kty cI cQ) s) (hP : va_P D kcl (kw_w cI cQ α ad an n σ) H) (hdg : decode cc pc = .ok (.arraylength, 1))
    (kk : W p l e R s m args below meth c H locs cells slots Q (F0 m (pc + 1) ls (.int 8 :: rest))) : W p l e R s m args below meth c H locs cells slots Q (F0 m pc ls (.ref (α 1) :: rest)) :=
  va_alen hx hb hK hP 1 1 kw_1 (ty := .object R_D) rfl (v := 8) rfl hdg kk
theorem kw_qld (hx : p.tables.exec = Jvm.exec) (hb : c.code = cc) (hK : va_K D kcl (kty cI cQ) s) (hP : va_P D kcl (kw_w cI cQ α ad an n σ) H) {x : Int32} {j : Nat} (he : x = nI j) (hj : j < n) (hn : n ≤ 8) (hdg : decode cc pc = .ok (.aaload, 1))
    (kk : W p l e R s m args below meth c H locs cells slots Q (F0 m (pc + 1) ls (.ref (ad j) :: rest))) : W p l e R s m args below meth c H locs cells slots Q (F0 m pc ls (.int x :: .ref (α 1) :: rest)) := by
  obtain ⟨h1, h2⟩ := ix_cl he (show j < 8 by omega) (by decide)
  refine va_aldq hx hb hK hP 1 1 kw_1 (C := R_D) rfl h1 hdg ?_
  rw [h2, show kw_q ad n j = some (ad j) from if_pos hj]; exact kk
theorem kw_nlen (hx : p.tables.exec = Jvm.exec) (hb : c.code = cc) (hK : va_K D kcl (kty cI cQ) s) (hP : va_P D kcl (kw_w cI cQ α ad an n σ) H) {i : Nat} (hi : i < n) (hdg : decode cc pc = .ok (.arraylength, 1))
    (kk : W p l e R s m args below meth c H locs cells slots Q (F0 m (pc + 1) ls (.int 12 :: rest))) : W p l e R s m args below meth c H locs cells slots Q (F0 m pc ls (.ref (an i) :: rest)) :=
  va_alen hx hb hK hP (6 + n + i) 0 (kw_4 hi) (ty := .int) rfl (v := 12) rfl hdg kk
theorem kw_nld (hx : p.tables.exec = Jvm.exec) (hb : c.code = cc) (hK : va_K D kcl (kty cI cQ) s) (hP : va_P D kcl (kw_w cI cQ α ad an n σ) H) {i : Nat} (hi : i < n) {x : Int32} {j : Nat} (he : x = nI j) (hj : j < 12) (hdg : decode cc pc = .ok (.iaload, 1))
    (kk : W p l e R s m args below meth c H locs cells slots Q (F0 m (pc + 1) ls (.int (σ.2.2.2 i j) :: rest))) : W p l e R s m args below meth c H locs cells slots Q (F0 m pc ls (.int x :: .ref (an i) :: rest)) := by
  obtain ⟨h1, h2⟩ := ix_cl he hj (by decide)
  refine va_iald hx hb hK hP (6 + n + i) 0 (kw_4 hi) rfl h1 hdg ?_
  rw [h2]; exact kk
theorem kw_nst (hx : p.tables.exec = Jvm.exec) (hb : c.code = cc) (hK : va_K D kcl (kty cI cQ) s) (hP : va_P D kcl (kw_w cI cQ α ad an n σ) H) (hD : va_D A (kw_w cI cQ α ad an n σ)) (hS : va_S A H0 H locs) {i : Nat} (hi : i < n) {x v : Int32} {j : Nat} (he : x = nI j) (hj : j < 12) (hdg : decode cc pc = .ok (.iastore, 1))
    (kk : ∀ (H1 : Heap) (locs1 : List Loc), va_P D kcl (kw_w cI cQ α ad an n (k_n σ i j v)) H1 → va_D A (kw_w cI cQ α ad an n (k_n σ i j v)) → va_S A H0 H1 locs1 → W p l e R s m args below meth c H1 locs1 cells slots Q (F0 m (pc + 1) ls rest)) : W p l e R s m args below meth c H locs cells slots Q (F0 m pc ls (.int v :: .int x :: .ref (an i) :: rest)) := by
  obtain ⟨h1, h2⟩ := ix_cl he hj (by decide)
  refine va_iast hx hb hK hP hD hS (6 + n + i) 0 (kw_4 hi) rfl h1 hdg (fun H1 locs1 q1 q2 q3 => ?_)
  rw [h2, kw_4s hi] at q1 q2
  exact kk H1 locs1 q1 q2 q3
end KWr
/-! the reference's cells -/
def mw_ob (β : Nat → Nat) (τ : mS) : List Value := [.int (τ.1 0), .int (τ.1 1), .ref (β 2), .ref (β 3), .ref (β 4), .ref (β 5), .ref (β 6), .ref (β 7), .ref (β 8), .ref (β 9), .ref (β 10), .ref (β 11), .int (τ.1 12), .ref (β 13), .int (τ.1 14), .int (τ.1 15), .int (τ.1 16), .int (τ.1 17), .ref (β 18), .int (τ.1 19), .int (τ.1 20)]
def mw_len : Nat → Nat
  | 7 => 96
  | 8 => 16
  | 9 => 16
  | 13 => 300
  | 18 => 400
  | _ => 8
def mw_ix : Nat → Nat
  | 13 => 11
  | 18 => 12
  | a => a - 1
def mw_as (a : Nat) : Prop := a = 2 ∨ a = 3 ∨ a = 4 ∨ a = 5 ∨ a = 6 ∨ a = 7 ∨ a = 8 ∨ a = 9 ∨ a = 10 ∨ a = 11 ∨ a = 13 ∨ a = 18
def mw_is (k : Nat) : Prop := k = 0 ∨ k = 1 ∨ k = 12 ∨ k = 14 ∨ k = 15 ∨ k = 16 ∨ k = 17 ∨ k = 19 ∨ k = 20
def mw_w (cI : ClassId) (β : Nat → Nat) (τ : mS) : va_W := [(β 0, .inr (2, mw_ob β τ)), (β 2, .inl (cI, 8, .inl (τ.2 2))), (β 3, .inl (cI, 8, .inl (τ.2 3))), (β 4, .inl (cI, 8, .inl (τ.2 4))), (β 5, .inl (cI, 8, .inl (τ.2 5))), (β 6, .inl (cI, 8, .inl (τ.2 6))), (β 7, .inl (cI, 96, .inl (τ.2 7))), (β 8, .inl (cI, 16, .inl (τ.2 8))), (β 9, .inl (cI, 16, .inl (τ.2 9))), (β 10, .inl (cI, 8, .inl (τ.2 10))), (β 11, .inl (cI, 8, .inl (τ.2 11))), (β 13, .inl (cI, 300, .inl (τ.2 13))), (β 18, .inl (cI, 400, .inl (τ.2 18)))]
def mw_al (β : Nat → Nat) : List Nat := [β 0, β 2, β 3, β 4, β 5, β 6, β 7, β 8, β 9, β 10, β 11, β 13, β 18]
section MWa
variable {cI : ClassId} {β : Nat → Nat} {τ : mS}
theorem mw_0 : (mw_w cI β τ)[0]? = some (β 0, .inr (2, mw_ob β τ)) := rfl
theorem mw_1 (a : Nat) (ha : mw_as a) : (mw_w cI β τ)[mw_ix a]? = some (β a, .inl (cI, mw_len a, .inl (τ.2 a))) := by
  rcases ha with rfl | rfl | rfl | rfl | rfl | rfl | rfl | rfl | rfl | rfl | rfl | rfl <;> rfl
theorem mw_0s (k : Nat) (hk : mw_is k) (v : Int32) : (mw_w cI β τ).set 0 (β 0, .inr (2, (mw_ob β τ).set k (.int v))) = mw_w cI β (m_f τ k v) := by
  rcases hk with rfl | rfl | rfl | rfl | rfl | rfl | rfl | rfl | rfl <;> rfl
theorem mw_1s (a : Nat) (ha : mw_as a) (j : Nat) (v : Int32) : (mw_w cI β τ).set (mw_ix a) (β a, .inl (cI, mw_len a, .inl (upd (τ.2 a) j v))) = mw_w cI β (m_a τ a j v) := by
  rcases ha with rfl | rfl | rfl | rfl | rfl | rfl | rfl | rfl | rfl | rfl | rfl | rfl <;> rfl
theorem mw_addr : (mw_w cI β τ).map (fun q => q.1) = mw_al β := rfl
theorem mw_lt (a : Nat) : mw_len a < 2 ^ 31 := by unfold mw_len; split <;> decide
end MWa
section MWr
variable {p : Program} {l : Launch} {e : Env} {R : Room} {s : State} {m : MethodId} {args : Array Value} {below : List Frame} {meth : Method} {c : Code} {H : Heap} {locs : List Loc} {cells slots : Nat} {Q : State → Prop}
variable {cc : ByteArray} {pc : Nat} {ls : Array Slot} {rest : List Value} {D : va_G} {A : Nat → Prop} {H0 : Heap} {cI cQ : ClassId} {β : Nat → Nat} {τ : mS}
theorem mw_get (hx : p.tables.exec = Jvm.exec) (hb : c.code = cc) {own : String} {index : Nat} (hts : ∀ w ∈ kT, w.before args s = true) (hown : s.vm.findClass own = some m.cls) (hK : va_K D kcl (kty cI cQ) s) (hP : va_P D kcl (mw_w cI β τ) H) (k : Nat) (hk : k < 21) (hlink : Cond.fieldLink own index R_M (T_M k).2.1 (T_M k).2.2.1 ∈ kT) {v : Value} (hv : (mw_ob β τ)[k]? = some v) (hdg : decode cc pc = .ok (.getfield index, 3))
    (kk : W p l e R s m args below meth c H locs cells slots Q (F0 m (pc + 3) ls (v :: rest))) : W p l e R s m args below meth c H locs cells slots Q (F0 m pc ls (.ref (β 0) :: rest)) :=
  va_get (C := R_M) (T := T_M) (N := 21) (ci := 2) hx hb hts in_M hown hK hP 0 mw_0 rfl k hk (hts _ hlink) (fun _ h => by rw [show (T_M k).1 = R_M from T_M1 k hk] at h; exact h) hv hdg kk
theorem mw_put (hx : p.tables.exec = Jvm.exec) (hb : c.code = cc) {own : String} {index : Nat} (hts : ∀ w ∈ kT, w.before args s = true) (hown : s.vm.findClass own = some m.cls) (hK : va_K D kcl (kty cI cQ) s) (hP : va_P D kcl (mw_w cI β τ) H) (hD : va_D A (mw_w cI β τ)) (hS : va_S A H0 H locs) (k : Nat) (hk : mw_is k) (hlink : Cond.fieldLink own index R_M (T_M k).2.1 (T_M k).2.2.1 ∈ kT) {v : Int32} {ty : FieldType} (hty : parseFieldDescriptor (T_M k).2.2.1 = some ty) (hn : narrow ty (.int v) = .int v) (hfit : fits ty (.int v) = true) (hdg : decode cc pc = .ok (.putfield index, 3))
    (kk : ∀ (H1 : Heap) (locs1 : List Loc), va_P D kcl (mw_w cI β (m_f τ k v)) H1 → va_D A (mw_w cI β (m_f τ k v)) → va_S A H0 H1 locs1 → W p l e R s m args below meth c H1 locs1 cells slots Q (F0 m (pc + 3) ls rest)) : W p l e R s m args below meth c H locs cells slots Q (F0 m pc ls (.int v :: .ref (β 0) :: rest)) := by
  have hk21 : k < 21 := by unfold mw_is at hk; omega
  refine va_put (C := R_M) (T := T_M) (N := 21) (ci := 2) hx hb hts in_M ty_M ty_M_ok nm_M hown hK hP hD hS 0 mw_0 rfl k hk21 (hts _ hlink) (fun _ h => by rw [show (T_M k).1 = R_M from T_M1 k hk21] at h; exact h) (T_Mf k hk) hty hn hfit (by show k < 21; exact hk21) hdg (fun H1 locs1 h1 h2 h3 => ?_)
  rw [mw_0s k hk v] at h1 h2
  exact kk H1 locs1 h1 h2 h3
theorem mw_ald (hx : p.tables.exec = Jvm.exec) (hb : c.code = cc) (hK : va_K D kcl (kty cI cQ) s) (hP : va_P D kcl (mw_w cI β τ) H) (a : Nat) (ha : mw_as a) {x : Int32} {j : Nat} (he : x = nI j) (hj : j < mw_len a) (hdg : decode cc pc = .ok (.iaload, 1))
    (kk : W p l e R s m args below meth c H locs cells slots Q (F0 m (pc + 1) ls (.int (τ.2 a j) :: rest))) : W p l e R s m args below meth c H locs cells slots Q (F0 m pc ls (.int x :: .ref (β a) :: rest)) := by
  obtain ⟨h1, h2⟩ := ix_cl he hj (mw_lt a)
  refine va_iald hx hb hK hP (mw_ix a) 0 (mw_1 a ha) rfl h1 hdg ?_
  rw [h2]; exact kk
theorem mw_ast (hx : p.tables.exec = Jvm.exec) (hb : c.code = cc) (hK : va_K D kcl (kty cI cQ) s) (hP : va_P D kcl (mw_w cI β τ) H) (hD : va_D A (mw_w cI β τ)) (hS : va_S A H0 H locs) (a : Nat) (ha : mw_as a) {x v : Int32} {j : Nat} (he : x = nI j) (hj : j < mw_len a) (hdg : decode cc pc = .ok (.iastore, 1))
    (kk : ∀ (H1 : Heap) (locs1 : List Loc), va_P D kcl (mw_w cI β (m_a τ a j v)) H1 → va_D A (mw_w cI β (m_a τ a j v)) → va_S A H0 H1 locs1 → W p l e R s m args below meth c H1 locs1 cells slots Q (F0 m (pc + 1) ls rest)) : W p l e R s m args below meth c H locs cells slots Q (F0 m pc ls (.int v :: .int x :: .ref (β a) :: rest)) := by
  obtain ⟨h1, h2⟩ := ix_cl he hj (mw_lt a)
  refine va_iast hx hb hK hP hD hS (mw_ix a) 0 (mw_1 a ha) rfl h1 hdg (fun H1 locs1 q1 q2 q3 => ?_)
  rw [h2, mw_1s a ha] at q1 q2
  exact kk H1 locs1 q1 q2 q3
end MWr
end
section
/-! what a write leaves -/
theorem ka_1 (σ : kS) (a j : Nat) (v : Int32) : (k_a σ a j v).1 = σ.1 := rfl
theorem ka_3 (σ : kS) (a j : Nat) (v : Int32) : (k_a σ a j v).2.2 = σ.2.2 := rfl
theorem ka_2 (σ : kS) (a j b k : Nat) (v : Int32) : (k_a σ a j v).2.1 b k = if b = a then (if k = j then v else σ.2.1 b k) else σ.2.1 b k := by
  unfold k_a va_up upd
  by_cases h : b = a
  · subst h; simp
  · simp [h]
theorem kd_1 (σ : kS) (i f : Nat) (v : Int32) : (k_d σ i f v).1 = σ.1 := rfl
theorem kd_2 (σ : kS) (i f : Nat) (v : Int32) : (k_d σ i f v).2.1 = σ.2.1 := rfl
theorem kd_4 (σ : kS) (i f : Nat) (v : Int32) : (k_d σ i f v).2.2.2 = σ.2.2.2 := rfl
theorem kd_3 (σ : kS) (i f k g : Nat) (v : Int32) : (k_d σ i f v).2.2.1 k g = if k = i then (if g = f then v else σ.2.2.1 k g) else σ.2.2.1 k g := by
  unfold k_d va_up
  by_cases h : k = i
  · subst h; simp
  · simp [h]
theorem kf_1 (σ : kS) (f k : Nat) (v : Int32) : (k_f σ f v).1 k = if k = f then v else σ.1 k := rfl
theorem kf_2 (σ : kS) (f : Nat) (v : Int32) : (k_f σ f v).2 = σ.2 := rfl
theorem ma_1 (τ : mS) (a j : Nat) (v : Int32) : (m_a τ a j v).1 = τ.1 := rfl
theorem ma_2 (τ : mS) (a j b k : Nat) (v : Int32) : (m_a τ a j v).2 b k = if b = a then (if k = j then v else τ.2 b k) else τ.2 b k := by
  unfold m_a va_up upd
  by_cases h : b = a
  · subst h; simp
  · simp [h]
theorem mf_1 (τ : mS) (f k : Nat) (v : Int32) : (m_f τ f v).1 k = if k = f then v else τ.1 k := rfl
theorem mf_2 (τ : mS) (f : Nat) (v : Int32) : (m_f τ f v).2 = τ.2 := rfl
theorem kt_1 (σ : kS) (i z : Nat) : (kd_take σ i z).1 = σ.1 := rfl
theorem kt_4 (σ : kS) (i z : Nat) : (kd_take σ i z).2.2.2 = σ.2.2.2 := rfl
theorem kt_3 (σ : kS) (i z k g : Nat) : (kd_take σ i z).2.2.1 k g = if k = i then (if g = 6 then -1 else σ.2.2.1 k g) else σ.2.2.1 k g := by
  unfold kd_take
  simp only [ka_3, kd_3]
theorem kt_2 (σ : kS) (i z b k : Nat) : (kd_take σ i z).2.1 b k = if b = 1 then (if k = z then σ.1 11 else σ.2.1 b k) else if b = 0 then (if k = z then σ.2.2.1 i 0 else σ.2.1 b k) else σ.2.1 b k := by
  unfold kd_take
  simp only [ka_2, ka_1, kd_1, kd_2, kd_3, if_true]
  by_cases h1 : b = 1
  · subst h1; simp
  · simp [h1]
/-! numbers of the walks -/
def kd_ll (σ : kS) (i : Nat) : Int32 := match kd_llp σ i 16 with
  | some j => nI j
  | none => -1
/-- what every state keeps: so many desks, entries, turns -/
def k_ok (n : Nat) (f : Nat → Int32) : Prop := n ≤ 8 ∧ f 1 = nI n ∧ (∃ e, e ≤ 400 ∧ f 10 = nI e) ∧ (∃ t r, r ≤ t ∧ t ≤ 300 ∧ f 6 = nI t ∧ f 7 = nI r)
theorem ix_e {x : Int32} (h : ¬ x < 0) : x = nI x.toNatClampNeg := by
  obtain ⟨j, hj, rfl⟩ := nI_of h
  rw [nI_clamp hj]
theorem ix_l {x : Int32} {B : Nat} (h0 : ¬ x < 0) (h : ¬ nI B ≤ x) (hB : B < 2 ^ 31 := by decide) : x.toNatClampNeg < B := by
  obtain ⟨j, hj, rfl⟩ := nI_of h0
  rw [nI_clamp hj]
  rcases Nat.lt_or_ge j B with q | q
  · exact q
  · exact absurd (nI_le q hj) h
theorem ix_ln {n : Nat} {f : Nat → Int32} {x : Int32} (hI : k_ok n f) (h0 : ¬ x < 0) (h : ¬ f 1 ≤ x) : x.toNatClampNeg < n := by
  rw [hI.2.1] at h
  exact ix_l h0 h (by have := hI.1; omega)
theorem kd_at_none {n : Nat} {f : Nat → Int32} {x : Int32} (hI : k_ok n f) (h : x < 0 ∨ f 1 ≤ x ∨ (8 : Int32) ≤ x) : kd_at n x = none := by
  unfold kd_at
  by_cases h0 : x < 0
  · rw [if_pos h0]
  · rw [if_neg h0, if_pos]
    rcases h with h | h | h
    · exact absurd h h0
    · rw [hI.2.1] at h; exact h
    · obtain ⟨j, hj, rfl⟩ := nI_of h0
      have h8 : nI 8 ≤ nI j := h
      have := (nI_leI (by decide) hj).mp h8
      exact nI_le (by have := hI.1; omega) hj
theorem kd_at_some {n : Nat} {f : Nat → Int32} {x : Int32} (hI : k_ok n f) (h0 : ¬ x < 0) (h : ¬ f 1 ≤ x) : kd_at n x = some x.toNatClampNeg := by
  rw [hI.2.1] at h
  unfold kd_at
  rw [if_neg h0, if_neg h]
theorem kd_at_lt {n i : Nat} {f : Nat → Int32} {x : Int32} (hI : k_ok n f) (h : kd_at n x = some i) : i < n := by
  unfold kd_at at h
  by_cases h0 : x < 0
  · rw [if_pos h0] at h; cases h
  · rw [if_neg h0] at h
    by_cases h1 : nI n ≤ x
    · rw [if_pos h1] at h; cases h
    · rw [if_neg h1] at h
      cases h
      exact ix_l h0 h1 (by have := hI.1; omega)
theorem kd_at_eq {n i : Nat} {x : Int32} (h : kd_at n x = some i) : x = nI i := by
  unfold kd_at at h
  by_cases h0 : x < 0
  · rw [if_pos h0] at h; cases h
  · rw [if_neg h0] at h
    by_cases h1 : nI n ≤ x
    · rw [if_pos h1] at h; cases h
    · rw [if_neg h1] at h
      cases h
      exact ix_e h0
theorem kd_wfp_lt {σ : kS} {n m i : Nat} {x y : Int32} (h : kd_wfp σ n x y m = some i) : i < m := by
  induction m with
  | zero => cases h
  | succ m ih =>
    unfold kd_wfp at h
    cases hm : kd_wfp σ n x y m with
    | some k => rw [hm] at h; cases h; have := ih hm; omega
    | none =>
      rw [hm] at h
      dsimp only at h
      split at h
      · split at h
        · cases h; omega
        · cases h
      · cases h
theorem kd_wfp_up {σ : kS} {n m i : Nat} {x y : Int32} {M : Nat} (h : kd_wfp σ n x y m = some i) (hm : m ≤ M) : kd_wfp σ n x y M = some i := by
  induction M with
  | zero => rw [show m = 0 by omega] at h; exact h
  | succ M ih =>
    by_cases e : m = M + 1
    · rw [← e]; exact h
    · unfold kd_wfp
      rw [ih (by omega)]
theorem kd_llp_up {σ : kS} {i m k M : Nat} (h : kd_llp σ i m = some k) (hm : m ≤ M) : kd_llp σ i M = some k := by
  induction M with
  | zero => rw [show m = 0 by omega] at h; exact h
  | succ M ih =>
    by_cases e : m = M + 1
    · rw [← e]; exact h
    · unfold kd_llp
      rw [ih (by omega)]
theorem kd_llp_lt {σ : kS} {i m k : Nat} (h : kd_llp σ i m = some k) : k < m := by
  induction m with
  | zero => cases h
  | succ m ih =>
    unfold kd_llp at h
    cases hm : kd_llp σ i m with
    | some q => rw [hm] at h; cases h; have := ih hm; omega
    | none =>
      rw [hm] at h
      dsimp only at h
      split at h
      · cases h
      · split at h
        · cases h
        · cases h; omega
theorem kd_ll_n {σ : kS} {i : Nat} (h : kd_llp σ i 16 = none) : (-1 : Int32) = kd_ll σ i := by unfold kd_ll; rw [h]
theorem kd_ll_s {σ : kS} {i j : Nat} (h : kd_llp σ i 16 = some j) : nI j = kd_ll σ i := by unfold kd_ll; rw [h]
theorem kd_sub_nI {z : Nat} (h : z < 16) : kd_sub (nI z) = 1 := by
  unfold kd_sub
  rw [if_neg (nI_pos (by omega)), if_neg (show ¬ (16 : Int32) ≤ nI z from nI_ge (b := 16) h (by decide))]
theorem kd_ll_some {σ : kS} {i : Nat} (c : ¬ kd_sub (kd_ll σ i) = 0) : ∃ z, z < 16 ∧ kd_ll σ i = nI z ∧ kd_llp σ i 16 = some z := by
  cases h : kd_llp σ i 16 with
  | some z => exact ⟨z, kd_llp_lt h, by unfold kd_ll; rw [h], rfl⟩
  | none => exact absurd (show kd_sub (kd_ll σ i) = 0 by unfold kd_ll; rw [h]; decide) c
theorem kd_ll_none {σ : kS} {i : Nat} (c : kd_sub (kd_ll σ i) = 0) : kd_llp σ i 16 = none := by
  cases h : kd_llp σ i 16 with
  | none => rfl
  | some z =>
    have e : kd_ll σ i = nI z := by unfold kd_ll; rw [h]
    rw [e, kd_sub_nI (kd_llp_lt h)] at c
    exact absurd c (by decide)
theorem lp_lt {B j : Nat} (hn : B < 2 ^ 31) (c : ¬ nI B ≤ nI j) (h : j ≤ B) : j < B := by
  rcases Nat.lt_or_ge j B with q | q
  · exact q
  · exact absurd (nI_le q (by omega)) c
theorem lp_eq {B j : Nat} (hn : B < 2 ^ 31) (c : nI B ≤ nI j) (h : j ≤ B) : j = B := by
  have := (nI_leI hn (by omega)).mp c
  omega
theorem lp_ltI {n j : Nat} {f : Nat → Int32} (hI : k_ok n f) (c : ¬ f 1 ≤ nI j) (h : j ≤ n) : j < n := by
  rw [hI.2.1] at c
  exact lp_lt (by have := hI.1; omega) c h
theorem lp_eqI {n j : Nat} {f : Nat → Int32} (hI : k_ok n f) (c : f 1 ≤ nI j) (h : j ≤ n) : j = n := by
  rw [hI.2.1] at c
  exact lp_eq (by have := hI.1; omega) c h
theorem lp_8 {n j : Nat} {f : Nat → Int32} (hI : k_ok n f) (h : j < n) : ¬ (8 : Int32) ≤ nI j := nI_ge (b := 8) (by have := hI.1; omega) (by decide)
theorem k_ok_e0 {n : Nat} {f : Nat → Int32} (hI : k_ok n f) : ¬ f 10 < 0 := by
  obtain ⟨e, he, h⟩ := hI.2.2.1
  rw [h]
  exact nI_pos (by omega)
theorem k_ok_f {n k : Nat} {σ : kS} {v : Int32} (hI : k_ok n σ.1) (hk : k ≠ 1 ∧ k ≠ 6 ∧ k ≠ 7 ∧ k ≠ 10) : k_ok n (k_f σ k v).1 := by
  obtain ⟨h1, h2, h3, h4⟩ := hI
  have e : ∀ q, q ≠ k → (k_f σ k v).1 q = σ.1 q := fun q hq => va_up_ne _ _ hq
  refine ⟨h1, ?_, ?_, ?_⟩
  · rw [e 1 (Ne.symm hk.1)]; exact h2
  · rw [e 10 (Ne.symm hk.2.2.2)]; exact h3
  · rw [e 6 (Ne.symm hk.2.1), e 7 (Ne.symm hk.2.2.1)]; exact h4
theorem kd_gb_1 (n : Nat) (σ : kS) (z : Nat) : (kd_gb n σ z).1 = σ.1 := by
  unfold kd_gb
  dsimp only
  split <;> rfl
theorem kd_gba_1 (n : Nat) (σ : kS) (i j : Nat) : (kd_gba n σ i j).1 = σ.1 := by
  induction j with
  | zero => rfl
  | succ j ih =>
    unfold kd_gba
    split
    · rw [kd_gb_1, ih]
    · exact ih
theorem k_ok_ask {n i z : Nat} {σ : kS} (hI : k_ok n σ.1) : k_ok n (kd_ask σ i z).1 := by
  unfold kd_ask
  split
  · exact hI
  · exact k_ok_f (σ := k_d (k_d σ i 6 (nI z)) i 7 (σ.1 4)) hI (by decide)
theorem k_ok_tell {n i : Nat} {σ : kS} {w : Int32} (hI : k_ok n σ.1) : k_ok n (kd_tell σ w i).1 := by
  unfold kd_tell
  split
  · exact hI
  · rename_i h
    obtain ⟨h1, h2, ⟨e, he, h3⟩, h4⟩ := hI
    refine ⟨h1, h2, ⟨e + 1, ?_, ?_⟩, h4⟩
    · rcases Nat.lt_or_ge e 400 with q | q
      · exact q
      · exact absurd (show (400 : Int32) ≤ σ.1 10 by rw [h3]; exact nI_le (a := 400) q (by omega)) h
    · show σ.1 10 + 1 = nI (e + 1)
      rw [h3, nI_1]
theorem k_ok_do {n i : Nat} {σ : kS} (hI : k_ok n σ.1) : k_ok n (kd_do n σ i).2.1 := by
  unfold kd_do
  split
  · dsimp only
    rw [kd_1, kd_gba_1]; exact k_ok_tell hI
  · dsimp only
    rw [kd_1, kd_1, kd_gba_1]; exact k_ok_tell hI
theorem k_ok_turn {n i : Nat} {σ : kS} (hI : k_ok n σ.1) : k_ok n (kd_turn n σ i).2.1 := by
  unfold kd_turn
  split
  · split
    · exact k_ok_ask hI
    · exact k_ok_do hI
  · exact k_ok_f hI (by decide)
theorem k_ok_end {n i : Nat} {σ : kS} (hI : k_ok n σ.1) : k_ok n (kd_end n σ i).1 := by
  unfold kd_end
  split
  · rw [kd_gba_1]; exact hI
  · refine k_ok_tell ?_
    rw [kd_gba_1]; exact hI
theorem kd_do_01 (n : Nat) (σ : kS) (i : Nat) : (kd_do n σ i).1 = 0 ∨ (kd_do n σ i).1 = 1 := by
  unfold kd_do
  split
  · exact Or.inl rfl
  · exact Or.inr rfl
theorem kd_turn_01 (n : Nat) (σ : kS) (i : Nat) : (kd_turn n σ i).1 = 0 ∨ (kd_turn n σ i).1 = 1 := by
  unfold kd_turn
  split
  · split
    · exact Or.inl rfl
    · exact kd_do_01 n σ i
  · exact Or.inl rfl
/-! numbers of the reference's walks -/
def m_ok (n : Nat) (f : Nat → Int32) : Prop := n ≤ 8 ∧ f 1 = nI n ∧ (∃ e, e ≤ 400 ∧ f 17 = nI e) ∧ (∃ t r, r ≤ t ∧ t ≤ 300 ∧ f 14 = nI t ∧ f 15 = nI r)
theorem m8 {n i : Nat} {f : Nat → Int32} (hI : m_ok n f) (hi : i < n) : i < 8 := Nat.lt_of_lt_of_le hi hI.1
theorem mp_ltI {n j : Nat} {f : Nat → Int32} (hI : m_ok n f) (c : ¬ f 1 ≤ nI j) (h : j ≤ n) : j < n := by
  rw [hI.2.1] at c
  exact lp_lt (by have := hI.1; omega) c h
theorem mp_eqI {n j : Nat} {f : Nat → Int32} (hI : m_ok n f) (c : f 1 ≤ nI j) (h : j ≤ n) : j = n := by
  rw [hI.2.1] at c
  exact lp_eq (by have := hI.1; omega) c h
theorem i_ge {x : Int32} (h : ¬ x < 0) : 0 ≤ x := by
  obtain ⟨j, hj, rfl⟩ := nI_of h
  exact nI_pos' hj
theorem i_lt {x : Int32} (h : ¬ 0 ≤ x) : x < 0 := by
  by_cases q : x < 0
  · exact q
  · exact absurd (i_ge q) h
theorem i_nl {x : Int32} (h : 0 ≤ x) : ¬ x < 0 := by
  intro q
  have h1 := Int32.le_iff_toInt_le.mp h
  have h2 := Int32.lt_iff_toInt_lt.mp q
  omega
theorem m_ok_e0 {n : Nat} {f : Nat → Int32} (hI : m_ok n f) : ¬ f 17 < 0 := by
  obtain ⟨e, he, h⟩ := hI.2.2.1
  rw [h]
  exact nI_pos (by omega)
theorem m_ok_f {n k : Nat} {τ : mS} {v : Int32} (hI : m_ok n τ.1) (hk : k ≠ 1 ∧ k ≠ 14 ∧ k ≠ 15 ∧ k ≠ 17) : m_ok n (m_f τ k v).1 := by
  obtain ⟨h1, h2, h3, h4⟩ := hI
  have e : ∀ q, q ≠ k → (m_f τ k v).1 q = τ.1 q := fun q hq => va_up_ne _ _ hq
  refine ⟨h1, ?_, ?_, ?_⟩
  · rw [e 1 (Ne.symm hk.1)]; exact h2
  · rw [e 17 (Ne.symm hk.2.2.2)]; exact h3
  · rw [e 14 (Ne.symm hk.2.1), e 15 (Ne.symm hk.2.2.1)]; exact h4
theorem mo_first_lt {τ : mS} {x : Int32} {j : Nat} (h : ¬ mo_firstp τ x j < 0) (hj : j < 2 ^ 31) : ∃ k, k < j ∧ mo_firstp τ x j = nI k := by
  induction j with
  | zero => exact absurd (show mo_firstp τ x 0 < 0 from (by decide : (-1 : Int32) < 0)) h
  | succ j ih =>
    unfold mo_firstp at h ⊢
    by_cases h1 : τ.2 10 j = x
    · simp only [if_pos h1] at h ⊢
      by_cases h2 : mo_firstp τ x j < 0
      · simp only [if_pos h2] at h ⊢
        exact ⟨j, by omega, rfl⟩
      · simp only [if_neg h2] at h ⊢
        obtain ⟨k, hk, ek⟩ := ih h2 (by omega)
        by_cases h3 : τ.2 11 (mo_firstp τ x j).toNatClampNeg ≤ τ.2 11 j
        · simp only [if_pos h3] at h ⊢
          exact ⟨k, by omega, ek⟩
        · simp only [if_neg h3] at h ⊢
          exact ⟨j, by omega, rfl⟩
    · simp only [if_neg h1] at h ⊢
      obtain ⟨k, hk, ek⟩ := ih h (by omega)
      exact ⟨k, by omega, ek⟩
theorem mo_first_8 {n j : Nat} {f : Nat → Int32} {τ : mS} {x a : Int32} (hI : m_ok n f) (h : ¬ a < 0) (e : a = mo_firstp τ x j) (hj : j ≤ n) : a.toNatClampNeg < 8 := by
  subst e
  have := hI.1
  obtain ⟨k, hk, ek⟩ := mo_first_lt h (by omega)
  rw [ek, nI_clamp (by omega)]
  omega
theorem mo_gb_1 (n : Nat) (τ : mS) (z : Nat) : (mo_gb n τ z).1 = τ.1 := by
  unfold mo_gb
  dsimp only
  split <;> rfl
theorem mo_gap_1 (n : Nat) (v : Int32) (τ : mS) (j : Nat) : (mo_gap n v τ j).1 = τ.1 := by
  induction j with
  | zero => rfl
  | succ j ih =>
    unfold mo_gap
    split
    · rw [mo_gb_1, ih]
    · exact ih
theorem mo_ga_1 (n : Nat) (τ : mS) (i : Nat) : (mo_ga n τ i).1 = τ.1 := mo_gap_1 _ _ _ _
theorem m_ok_write {n i : Nat} {τ : mS} {w : Int32} (hI : m_ok n τ.1) : m_ok n (mo_write τ w i).1 := by
  unfold mo_write
  split
  · exact hI
  · rename_i h
    obtain ⟨h1, h2, ⟨e, he, h3⟩, h4⟩ := hI
    refine ⟨h1, h2, ⟨e + 1, ?_, ?_⟩, h4⟩
    · rcases Nat.lt_or_ge e 400 with q | q
      · exact q
      · exact absurd (show (400 : Int32) ≤ τ.1 17 by rw [h3]; exact nI_le (a := 400) q (by omega)) h
    · show τ.1 17 + 1 = nI (e + 1)
      rw [h3, nI_1]
theorem kd_add_1 (σ : kS) (i : Nat) (x y : Int32) : (kd_add σ i x y).1 = σ.1 := by
  unfold kd_add
  split
  · rfl
  · split <;> rfl
theorem m_ok_steps {n i : Nat} {τ : mS} (hI : m_ok n τ.1) : m_ok n (mo_steps n τ i).2.1 := by
  unfold mo_steps
  split
  · unfold mo_do
    split
    · dsimp only
      rw [mo_ga_1, ma_1]; exact m_ok_write hI
    · dsimp only
      rw [show ∀ T : mS, (mo_goes T i).1 = T.1 from fun _ => rfl, ma_1, mo_ga_1, ma_1]; exact m_ok_write hI
  · split
    · unfold mo_ask
      split
      · exact hI
      · rename_i s _ _
        exact m_ok_f (τ := m_a (m_a τ 10 i (nI s)) 11 i (τ.1 12)) hI (by decide)
    · exact hI
end
section
set_option maxHeartbeats 4000000 in
set_option maxRecDepth 100000 in
theorem ct_D_condition (l : Launch) (D : va_G) (cI cQ : ClassId) (α ad an : Nat → Nat) (n : Nat) (σ : kS) (hI : k_ok n σ.1) (i : Nat) (hi : i < n) : Met l y_D_condition w_D_condition { frames := 0, cells := 0, slots := 0, locals := 0 } (gPc D (kty cI cQ) (kw_w cI cQ α ad an n σ) [.ref (ad i)]) (QcRead (kd_cond σ i)) 0 0 (fun _ => False) := by
  refine Met.ofW (cc := b_D_condition) (maxL := 1) (ret := some .int) (by decide) rfl ?_
  intro p e s m args below meth c s₁ B hml hv
  obtain ⟨rfl, hP, hK, hD⟩ := hv
  have hx := B.exec
  have hb := B.bytes
  have hr := B.returns
  have hts : ∀ w ∈ kT, w.before [.ref (ad i)].toArray s = true := fun w h => atoms_spec (ws := w_D_condition) B.pre w (List.mem_cons_of_mem _ h)
  have hown : s.vm.findClass R_D = some m.cls := findClass_of_methodNamed B.named
  have hlocks := B.notSynchronized
  have hl := lv_entry ([.ref (ad i)]) (n := 1) (Nat.le_of_ble_eq_true rfl)
  rw [lg_entry_eq]
  generalize (lg_sl ([.ref (ad i)]) ++ List.replicate (1 - (lg_sl ([.ref (ad i)])).length) Slot.unset).toArray = ls at hl ⊢
  have hl : lv_has ls 1 [(0, .ref (ad i))] := hl
  refine lv_aload_n hx hb d_D_condition_0 rfl (lv_at hl 0 rfl) ?_
  refine kw_dget hx hb hts hown hK hP hi 9 (by decide) fl_D_32 (v := .int (σ.2.2.1 i 9)) rfl d_D_condition_1 ?_
  refine lv_if_eq (tgt := 9) hx hb d_D_condition_4 (by decide) (fun c_4 => ?_) (fun c_4 => ?_)
  · -- to 9
    refine lv_aload_n hx hb d_D_condition_9 rfl (lv_at hl 0 rfl) ?_
    refine kw_dget hx hb hts hown hK hP hi 8 (by decide) fl_D_28 (v := .int (σ.2.2.1 i 8)) rfl d_D_condition_10 ?_
    refine lv_if_eq (tgt := 18) hx hb d_D_condition_13 (by decide) (fun c_13 => ?_) (fun c_13 => ?_)
    · -- to 18
      refine lv_aload_n hx hb d_D_condition_18 rfl (lv_at hl 0 rfl) ?_
      refine kw_dget hx hb hts hown hK hP hi 4 (by decide) fl_D_15 (v := .int (σ.2.2.1 i 4)) rfl d_D_condition_19 ?_
      refine lv_aload_n hx hb d_D_condition_22 rfl (lv_at hl 0 rfl) ?_
      refine kw_dget hx hb hts hown hK hP hi 1 (by decide) fl_D_38 (v := .int (σ.2.2.1 i 1)) rfl d_D_condition_23 ?_
      refine lv_icmp_lt (tgt := 31) hx hb d_D_condition_26 (by decide) (fun c_26 => ?_) (fun c_26 => ?_)
      · -- to 31
        refine lv_aload_n hx hb d_D_condition_31 rfl (lv_at hl 0 rfl) ?_
        refine kw_dget hx hb hts hown hK hP hi 6 (by decide) fl_D_22 (v := .int (σ.2.2.1 i 6)) rfl d_D_condition_32 ?_
        refine lv_iconst (v := (-1)) hx hb d_D_condition_35 (by decide) ?_
        refine lv_icmp_eq (tgt := 43) hx hb d_D_condition_36 (by decide) (fun c_36 => ?_) (fun c_36 => ?_)
        · -- to 43
          refine lv_iconst (v := 0) hx hb d_D_condition_43 (by decide) ?_
          exact r_reti hx hb hr hlocks (by simp [kd_cond, c_4, c_13, c_26, c_36]) d_D_condition_44
        · -- on 39
          refine lv_iconst (v := 1) hx hb d_D_condition_39 (by decide) ?_
          refine lv_goto (tgt := 44) hx hb d_D_condition_40 (by decide) ?_
          exact r_reti hx hb hr hlocks (by simp [kd_cond, c_4, c_13, c_26, c_36]) d_D_condition_44
      · -- on 29
        refine lv_iconst (v := 2) hx hb d_D_condition_29 (by decide) ?_
        exact r_reti hx hb hr hlocks (by simp [kd_cond, c_4, c_13, c_26]) d_D_condition_30
    · -- on 16
      refine lv_iconst (v := 3) hx hb d_D_condition_16 (by decide) ?_
      exact r_reti hx hb hr hlocks (by simp [kd_cond, c_4, c_13]) d_D_condition_17
  · -- on 7
    refine lv_iconst (v := 4) hx hb d_D_condition_7 (by decide) ?_
    exact r_reti hx hb hr hlocks (by simp [kd_cond, c_4]) d_D_condition_8

set_option maxHeartbeats 4000000 in
set_option maxRecDepth 100000 in
theorem ct_D_isAhead (l : Launch) (D : va_G) (cI cQ : ClassId) (α ad an : Nat → Nat) (n : Nat) (σ : kS) (hI : k_ok n σ.1) (i : Nat) (hi : i < n) (x : Int32) : Met l y_D_isAhead w_D_isAhead { frames := 0, cells := 0, slots := 0, locals := 0 } (gPc D (kty cI cQ) (kw_w cI cQ α ad an n σ) [.ref (ad i), .int x]) (QcRead (kd_ahead σ i x)) 0 0 (fun _ => False) := by
  refine Met.ofW (cc := b_D_isAhead) (maxL := 2) (ret := some .boolean) (by decide) rfl ?_
  intro p e s m args below meth c s₁ B hml hv
  obtain ⟨rfl, hP, hK, hD⟩ := hv
  have hx := B.exec
  have hb := B.bytes
  have hr := B.returns
  have hts : ∀ w ∈ kT, w.before [.ref (ad i), .int x].toArray s = true := fun w h => atoms_spec (ws := w_D_isAhead) B.pre w (List.mem_cons_of_mem _ h)
  have hown : s.vm.findClass R_D = some m.cls := findClass_of_methodNamed B.named
  have hlocks := B.notSynchronized
  have hl := lv_entry ([.ref (ad i), .int x]) (n := 2) (Nat.le_of_ble_eq_true rfl)
  rw [lg_entry_eq]
  generalize (lg_sl ([.ref (ad i), .int x]) ++ List.replicate (2 - (lg_sl ([.ref (ad i), .int x])).length) Slot.unset).toArray = ls at hl ⊢
  have hl : lv_has ls 2 [(0, .ref (ad i)), (1, .int x)] := hl
  refine lv_iload_n hx hb d_D_isAhead_0 rfl (lv_at hl 1 rfl) ?_
  refine lv_if_lt (tgt := 24) hx hb d_D_isAhead_1 (by decide) (fun c_1 => ?_) (fun c_1 => ?_)
  · -- to 24
    refine lv_iconst (v := 0) hx hb d_D_isAhead_24 (by decide) ?_
    exact r_retz hx hb hr hlocks (by decide) (by simp [kd_ahead, c_1]) d_D_isAhead_25
  · -- on 4
    refine lv_iload_n hx hb d_D_isAhead_4 rfl (lv_at hl 1 rfl) ?_
    refine lv_aload_n hx hb d_D_isAhead_5 rfl (lv_at hl 0 rfl) ?_
    refine kw_dget hx hb hts hown hK hP hi 4 (by decide) fl_D_15 (v := .int (σ.2.2.1 i 4)) rfl d_D_isAhead_6 ?_
    refine lv_icmp_lt (tgt := 24) hx hb d_D_isAhead_9 (by decide) (fun c_9 => ?_) (fun c_9 => ?_)
    · -- to 24
      refine lv_iconst (v := 0) hx hb d_D_isAhead_24 (by decide) ?_
      exact r_retz hx hb hr hlocks (by decide) (by simp [kd_ahead, c_1, c_9]) d_D_isAhead_25
    · -- on 12
      refine lv_iload_n hx hb d_D_isAhead_12 rfl (lv_at hl 1 rfl) ?_
      refine lv_aload_n hx hb d_D_isAhead_13 rfl (lv_at hl 0 rfl) ?_
      refine kw_dget hx hb hts hown hK hP hi 1 (by decide) fl_D_38 (v := .int (σ.2.2.1 i 1)) rfl d_D_isAhead_14 ?_
      refine lv_icmp_ge (tgt := 24) hx hb d_D_isAhead_17 (by decide) (fun c_17 => ?_) (fun c_17 => ?_)
      · -- to 24
        refine lv_iconst (v := 0) hx hb d_D_isAhead_24 (by decide) ?_
        exact r_retz hx hb hr hlocks (by decide) (by simp [kd_ahead, c_1, c_9, c_17]) d_D_isAhead_25
      · -- on 20
        refine lv_iconst (v := 1) hx hb d_D_isAhead_20 (by decide) ?_
        refine lv_goto (tgt := 25) hx hb d_D_isAhead_21 (by decide) ?_
        exact r_retz hx hb hr hlocks (by decide) (by simp [kd_ahead, c_1, c_9, c_17]) d_D_isAhead_25

set_option maxHeartbeats 4000000 in
set_option maxRecDepth 100000 in
theorem ct_D_hasNeed (l : Launch) (D : va_G) (cI cQ : ClassId) (α ad an : Nat → Nat) (n : Nat) (σ : kS) (hI : k_ok n σ.1) (i : Nat) (hi : i < n) (x y : Int32) : Met l y_D_hasNeed w_D_hasNeed { frames := 0, cells := 0, slots := 0, locals := 0 } (gPc D (kty cI cQ) (kw_w cI cQ α ad an n σ) [.ref (ad i), .int x, .int y]) (QcRead (kd_has σ i x y)) 0 0 (fun _ => False) := by
  refine Met.ofW (cc := b_D_hasNeed) (maxL := 3) (ret := some .boolean) (by decide) rfl ?_
  intro p e s m args below meth c s₁ B hml hv
  obtain ⟨rfl, hP, hK, hD⟩ := hv
  have hx := B.exec
  have hb := B.bytes
  have hr := B.returns
  have hts : ∀ w ∈ kT, w.before [.ref (ad i), .int x, .int y].toArray s = true := fun w h => atoms_spec (ws := w_D_hasNeed) B.pre w (List.mem_cons_of_mem _ h)
  have hown : s.vm.findClass R_D = some m.cls := findClass_of_methodNamed B.named
  have hlocks := B.notSynchronized
  have hl := lv_entry ([.ref (ad i), .int x, .int y]) (n := 3) (Nat.le_of_ble_eq_true rfl)
  rw [lg_entry_eq]
  generalize (lg_sl ([.ref (ad i), .int x, .int y]) ++ List.replicate (3 - (lg_sl ([.ref (ad i), .int x, .int y])).length) Slot.unset).toArray = ls at hl ⊢
  have hl : lv_has ls 3 [(0, .ref (ad i)), (1, .int x), (2, .int y)] := hl
  refine lv_iload_n hx hb d_D_hasNeed_0 rfl (lv_at hl 1 rfl) ?_
  refine lv_if_lt (tgt := 30) hx hb d_D_hasNeed_1 (by decide) (fun c_1 => ?_) (fun c_1 => ?_)
  · -- to 30
    refine lv_iconst (v := 0) hx hb d_D_hasNeed_30 (by decide) ?_
    exact r_retz hx hb hr hlocks (by decide) (by simp [kd_has, c_1]) d_D_hasNeed_31
  · -- on 4
    refine lv_iload_n hx hb d_D_hasNeed_4 rfl (lv_at hl 1 rfl) ?_
    refine lv_aload_n hx hb d_D_hasNeed_5 rfl (lv_at hl 0 rfl) ?_
    refine kw_dget hx hb hts hown hK hP hi 2 (by decide) fl_D_9 (v := .ref (an i)) rfl d_D_hasNeed_6 ?_
    refine kw_nlen hx hb hK hP hi d_D_hasNeed_9 ?_
    refine lv_icmp_ge (tgt := 30) hx hb d_D_hasNeed_10 (by decide) (fun c_10 => ?_) (fun c_10 => ?_)
    · -- to 30
      refine lv_iconst (v := 0) hx hb d_D_hasNeed_30 (by decide) ?_
      exact r_retz hx hb hr hlocks (by decide) (by simp [kd_has, c_1, c_10]) d_D_hasNeed_31
    · -- on 13
      refine lv_aload_n hx hb d_D_hasNeed_13 rfl (lv_at hl 0 rfl) ?_
      refine kw_dget hx hb hts hown hK hP hi 2 (by decide) fl_D_9 (v := .ref (an i)) rfl d_D_hasNeed_14 ?_
      refine lv_iload_n hx hb d_D_hasNeed_17 rfl (lv_at hl 1 rfl) ?_
      refine kw_nld hx hb hK hP hi (j := x.toNatClampNeg) (ix_e c_1) (ix_l (B := 12) c_1 c_10) d_D_hasNeed_18 ?_
      refine lv_iload_n hx hb d_D_hasNeed_19 rfl (lv_at hl 2 rfl) ?_
      refine lv_ishr hx hb d_D_hasNeed_20 ?_
      refine lv_iconst (v := 1) hx hb d_D_hasNeed_21 (by decide) ?_
      refine lv_iand hx hb d_D_hasNeed_22 ?_
      refine lv_if_eq (tgt := 30) hx hb d_D_hasNeed_23 (by decide) (fun c_23 => ?_) (fun c_23 => ?_)
      · -- to 30
        refine lv_iconst (v := 0) hx hb d_D_hasNeed_30 (by decide) ?_
        exact r_retz hx hb hr hlocks (by decide) (by simp [kd_has, c_1, c_10, c_23]) d_D_hasNeed_31
      · -- on 26
        refine lv_iconst (v := 1) hx hb d_D_hasNeed_26 (by decide) ?_
        refine lv_goto (tgt := 31) hx hb d_D_hasNeed_27 (by decide) ?_
        exact r_retz hx hb hr hlocks (by decide) (by simp [kd_has, c_1, c_10, c_23]) d_D_hasNeed_31

set_option maxHeartbeats 4000000 in
set_option maxRecDepth 100000 in
theorem ct_D_addNeed (l : Launch) (D : va_G) (cI cQ : ClassId) (α ad an : Nat → Nat) (n : Nat) (σ : kS) (hI : k_ok n σ.1) (i : Nat) (hi : i < n) (x y : Int32) : Met l y_D_addNeed w_D_addNeed { frames := 0, cells := 0, slots := 0, locals := 0 } (gPc D (kty cI cQ) (kw_w cI cQ α ad an n σ) [.ref (ad i), .int x, .int y]) (gQv D (kw_al α ad an n) (kw_w cI cQ α ad an n (kd_add σ i x y))) 0 0 (gA (kw_al α ad an n)) := by
  refine Met.ofW (cc := b_D_addNeed) (maxL := 3) (ret := none) (by decide) rfl ?_
  intro p e s m args below meth c s₁ B hml hv
  obtain ⟨rfl, hP, hK, hD⟩ := hv
  have hx := B.exec
  have hb := B.bytes
  have hr := B.returns
  have hts : ∀ w ∈ kT, w.before [.ref (ad i), .int x, .int y].toArray s = true := fun w h => atoms_spec (ws := w_D_addNeed) B.pre w (List.mem_cons_of_mem _ h)
  have hown : s.vm.findClass R_D = some m.cls := findClass_of_methodNamed B.named
  have hlocks := B.notSynchronized
  have hD : va_D (gA (kw_al α ad an n)) (kw_w cI cQ α ad an n σ) := gD kw_adr hD
  have hS : va_S (gA (kw_al α ad an n)) s.heap s.heap [] := va_S.rf
  have hl := lv_entry ([.ref (ad i), .int x, .int y]) (n := 3) (Nat.le_of_ble_eq_true rfl)
  rw [lg_entry_eq]
  generalize (lg_sl ([.ref (ad i), .int x, .int y]) ++ List.replicate (3 - (lg_sl ([.ref (ad i), .int x, .int y])).length) Slot.unset).toArray = ls at hl ⊢
  have hl : lv_has ls 3 [(0, .ref (ad i)), (1, .int x), (2, .int y)] := hl
  refine lv_iload_n hx hb d_D_addNeed_0 rfl (lv_at hl 1 rfl) ?_
  refine lv_if_lt (tgt := 25) hx hb d_D_addNeed_1 (by decide) (fun c_1 => ?_) (fun c_1 => ?_)
  · -- to 25
    exact g_retv hx hb hr hlocks (by simp [kd_add, c_1]) hP hS d_D_addNeed_25
  · -- on 4
    refine lv_iload_n hx hb d_D_addNeed_4 rfl (lv_at hl 1 rfl) ?_
    refine lv_aload_n hx hb d_D_addNeed_5 rfl (lv_at hl 0 rfl) ?_
    refine kw_dget hx hb hts hown hK hP hi 2 (by decide) fl_D_9 (v := .ref (an i)) rfl d_D_addNeed_6 ?_
    refine kw_nlen hx hb hK hP hi d_D_addNeed_9 ?_
    refine lv_icmp_ge (tgt := 25) hx hb d_D_addNeed_10 (by decide) (fun c_10 => ?_) (fun c_10 => ?_)
    · -- to 25
      exact g_retv hx hb hr hlocks (by simp [kd_add, c_1, c_10]) hP hS d_D_addNeed_25
    · -- on 13
      refine lv_aload_n hx hb d_D_addNeed_13 rfl (lv_at hl 0 rfl) ?_
      refine kw_dget hx hb hts hown hK hP hi 2 (by decide) fl_D_9 (v := .ref (an i)) rfl d_D_addNeed_14 ?_
      refine lv_iload_n hx hb d_D_addNeed_17 rfl (lv_at hl 1 rfl) ?_
      refine lv_dup2_11 hx hb d_D_addNeed_18 rfl rfl ?_
      refine kw_nld hx hb hK hP hi (j := x.toNatClampNeg) (ix_e c_1) (ix_l (B := 12) c_1 c_10) d_D_addNeed_19 ?_
      refine lv_iconst (v := 1) hx hb d_D_addNeed_20 (by decide) ?_
      refine lv_iload_n hx hb d_D_addNeed_21 rfl (lv_at hl 2 rfl) ?_
      refine lv_ishl hx hb d_D_addNeed_22 ?_
      refine lv_ior hx hb d_D_addNeed_23 ?_
      refine kw_nst hx hb hK hP hD hS hi (j := x.toNatClampNeg) (ix_e c_1) (ix_l (B := 12) c_1 c_10) d_D_addNeed_24 (fun H locs hP hD hS => ?_)
      obtain ⟨σ1, e_σ1⟩ : ∃ ζ, ζ = k_n σ i x.toNatClampNeg ((σ.2.2.2 i x.toNatClampNeg) ||| (1 <<< (y &&& 31))) := ⟨_, rfl⟩
      rw [← e_σ1] at hP hD
      have hI : k_ok n σ1.1 := by rw [e_σ1]; exact hI
      exact g_retv hx hb hr hlocks (by simp [e_σ1, kd_add, c_1, c_10]) hP hS d_D_addNeed_25
end
section
set_option maxHeartbeats 4000000 in
set_option maxRecDepth 100000 in
theorem ct_K_isSubject (l : Launch)  (x : Int32) : Met l y_K_isSubject w_K_isSubject { frames := 0, cells := 0, slots := 0, locals := 0 } (fun v _ => v = [.int x].toArray) (QcRead (kd_sub x)) 0 0 (fun _ => False) := by
  refine Met.ofW (cc := b_K_isSubject) (maxL := 1) (ret := some .boolean) (by decide) rfl ?_
  intro p e s m args below meth c s₁ B hml hv
  subst hv
  have hx := B.exec
  have hb := B.bytes
  have hr := B.returns
  have hts : ∀ w ∈ kT, w.before [.int x].toArray s = true := fun w h => atoms_spec (ws := w_K_isSubject) B.pre w (List.mem_cons_of_mem _ h)
  have hown : s.vm.findClass R_K = some m.cls := findClass_of_methodNamed B.named
  have hlocks := B.notSynchronized
  have hl := lv_entry ([.int x]) (n := 1) (Nat.le_of_ble_eq_true rfl)
  rw [lg_entry_eq]
  generalize (lg_sl ([.int x]) ++ List.replicate (1 - (lg_sl ([.int x])).length) Slot.unset).toArray = ls at hl ⊢
  have hl : lv_has ls 1 [(0, .int x)] := hl
  refine lv_iload_n hx hb d_K_isSubject_0 rfl (lv_at hl 0 rfl) ?_
  refine lv_if_lt (tgt := 14) hx hb d_K_isSubject_1 (by decide) (fun c_1 => ?_) (fun c_1 => ?_)
  · -- to 14
    refine lv_iconst (v := 0) hx hb d_K_isSubject_14 (by decide) ?_
    exact r_retz hx hb hr hlocks (by decide) (by simp [kd_sub, c_1]) d_K_isSubject_15
  · -- on 4
    refine lv_iload_n hx hb d_K_isSubject_4 rfl (lv_at hl 0 rfl) ?_
    refine lv_bipush (v := 16) hx hb d_K_isSubject_5 (by decide) ?_
    refine lv_icmp_ge (tgt := 14) hx hb d_K_isSubject_7 (by decide) (fun c_7 => ?_) (fun c_7 => ?_)
    · -- to 14
      refine lv_iconst (v := 0) hx hb d_K_isSubject_14 (by decide) ?_
      exact r_retz hx hb hr hlocks (by decide) (by simp [kd_sub, c_1, c_7]) d_K_isSubject_15
    · -- on 10
      refine lv_iconst (v := 1) hx hb d_K_isSubject_10 (by decide) ?_
      refine lv_goto (tgt := 15) hx hb d_K_isSubject_11 (by decide) ?_
      exact r_retz hx hb hr hlocks (by decide) (by simp [kd_sub, c_1, c_7]) d_K_isSubject_15

set_option maxHeartbeats 4000000 in
set_option maxRecDepth 100000 in
theorem ct_K_deskAt (l : Launch) (D : va_G) (cI cQ : ClassId) (α ad an : Nat → Nat) (n : Nat) (σ : kS) (hI : k_ok n σ.1) (x : Int32) : Met l y_K_deskAt w_K_deskAt { frames := 0, cells := 0, slots := 0, locals := 0 } (gPc D (kty cI cQ) (kw_w cI cQ α ad an n σ) [.ref (α 0), .int x]) (va_Sq (fun q => q = (kd_at n x).map ad)) 0 0 (fun _ => False) := by
  refine Met.ofW (cc := b_K_deskAt) (maxL := 2) (ret := (some (.object R_D))) (by decide) rfl ?_
  intro p e s m args below meth c s₁ B hml hv
  obtain ⟨rfl, hP, hK, hD⟩ := hv
  have hx := B.exec
  have hb := B.bytes
  have hr := B.returns
  have hts : ∀ w ∈ kT, w.before [.ref (α 0), .int x].toArray s = true := fun w h => atoms_spec (ws := w_K_deskAt) B.pre w (List.mem_cons_of_mem _ h)
  have hown : s.vm.findClass R_K = some m.cls := findClass_of_methodNamed B.named
  have hlocks := B.notSynchronized
  have hl := lv_entry ([.ref (α 0), .int x]) (n := 2) (Nat.le_of_ble_eq_true rfl)
  rw [lg_entry_eq]
  generalize (lg_sl ([.ref (α 0), .int x]) ++ List.replicate (2 - (lg_sl ([.ref (α 0), .int x])).length) Slot.unset).toArray = ls at hl ⊢
  have hl : lv_has ls 2 [(0, .ref (α 0)), (1, .int x)] := hl
  refine lv_iload_n hx hb d_K_deskAt_0 rfl (lv_at hl 1 rfl) ?_
  refine lv_if_lt (tgt := 30) hx hb d_K_deskAt_1 (by decide) (fun c_1 => ?_) (fun c_1 => ?_)
  · -- to 30
    refine lv_null hx hb d_K_deskAt_30 ?_
    exact r_retq hx hb hr hlocks (r := (kd_at n x).map ad) (by rw [kd_at_none hI (Or.inl c_1)]; rfl) d_K_deskAt_31
  · -- on 4
    refine lv_iload_n hx hb d_K_deskAt_4 rfl (lv_at hl 1 rfl) ?_
    refine lv_aload_n hx hb d_K_deskAt_5 rfl (lv_at hl 0 rfl) ?_
    refine kw_get hx hb hts hown hK hP 1 (by decide) fl_K_15 (v := .int (σ.1 1)) rfl d_K_deskAt_6 ?_
    refine lv_icmp_ge (tgt := 30) hx hb d_K_deskAt_9 (by decide) (fun c_9 => ?_) (fun c_9 => ?_)
    · -- to 30
      refine lv_null hx hb d_K_deskAt_30 ?_
      exact r_retq hx hb hr hlocks (r := (kd_at n x).map ad) (by rw [kd_at_none hI (Or.inr (Or.inl c_9))]; rfl) d_K_deskAt_31
    · -- on 12
      refine lv_iload_n hx hb d_K_deskAt_12 rfl (lv_at hl 1 rfl) ?_
      refine lv_aload_n hx hb d_K_deskAt_13 rfl (lv_at hl 0 rfl) ?_
      refine kw_get hx hb hts hown hK hP 0 (by decide) fl_K_11 (v := .ref (α 1)) rfl d_K_deskAt_14 ?_
      refine kw_qlen hx hb hK hP d_K_deskAt_17 ?_
      refine lv_icmp_ge (tgt := 30) hx hb d_K_deskAt_18 (by decide) (fun c_18 => ?_) (fun c_18 => ?_)
      · -- to 30
        refine lv_null hx hb d_K_deskAt_30 ?_
        exact r_retq hx hb hr hlocks (r := (kd_at n x).map ad) (by rw [kd_at_none hI (Or.inr (Or.inr c_18))]; rfl) d_K_deskAt_31
      · -- on 21
        refine lv_aload_n hx hb d_K_deskAt_21 rfl (lv_at hl 0 rfl) ?_
        refine kw_get hx hb hts hown hK hP 0 (by decide) fl_K_11 (v := .ref (α 1)) rfl d_K_deskAt_22 ?_
        refine lv_iload_n hx hb d_K_deskAt_25 rfl (lv_at hl 1 rfl) ?_
        refine kw_qld hx hb hK hP (j := x.toNatClampNeg) (ix_e c_1) (ix_ln hI c_1 c_9) hI.1 d_K_deskAt_26 ?_
        refine lv_goto (tgt := 31) hx hb d_K_deskAt_27 (by decide) ?_
        exact r_retq hx hb hr hlocks (r := (kd_at n x).map ad) (by rw [kd_at_some hI c_1 c_9]; rfl) d_K_deskAt_31

set_option maxHeartbeats 4000000 in
set_option maxRecDepth 100000 in
theorem ct_K_isAlive (l : Launch) (D : va_G) (cI cQ : ClassId) (α ad an : Nat → Nat) (n : Nat) (σ : kS) (hI : k_ok n σ.1) (i : Nat) (hi : i < n) : Met l y_K_isAlive w_K_isAlive { frames := 1, cells := 0, slots := 0, locals := 20 } (gPc D (kty cI cQ) (kw_w cI cQ α ad an n σ) [.ref (ad i)]) (QcRead (kd_alive σ i)) 0 0 (fun _ => False) := by
  refine Met.ofW (cc := b_K_isAlive) (maxL := 2) (ret := some .boolean) (by decide) rfl ?_
  intro p e s m args below meth c s₁ B hml hv
  obtain ⟨rfl, hP, hK, hD⟩ := hv
  have hx := B.exec
  have hb := B.bytes
  have hr := B.returns
  have hts : ∀ w ∈ kT, w.before [.ref (ad i)].toArray s = true := fun w h => atoms_spec (ws := w_K_isAlive) B.pre w (List.mem_cons_of_mem _ h)
  have hown : s.vm.findClass R_K = some m.cls := findClass_of_methodNamed B.named
  have hlocks := B.notSynchronized
  have hl := lv_entry ([.ref (ad i)]) (n := 2) (Nat.le_of_ble_eq_true rfl)
  rw [lg_entry_eq]
  generalize (lg_sl ([.ref (ad i)]) ++ List.replicate (2 - (lg_sl ([.ref (ad i)])).length) Slot.unset).toArray = ls at hl ⊢
  have hl : lv_has ls 2 [(0, .ref (ad i))] := hl
  refine lv_aload_n hx hb d_K_isAlive_0 rfl (lv_at hl 0 rfl) ?_
  refine r_calli (W.runV (As := []) (rest := []) ⟨hx, hb, hml, hown, hts⟩ (ct_D_condition l D cI cQ α ad an n σ hI i hi) (cwV 0 hts gd_K_157 rfl rfl rfl (by decide +kernel) ⟨Nat.le_of_ble_eq_true rfl, Nat.le_of_ble_eq_true rfl⟩) (g_preV hK hP hD (ci := 1) (q0 := 6 + i) rfl (kw_3 hi)) rfl rfl hl.1 rfl (lv_room (Nat.le_of_ble_eq_true rfl)) d_K_isAlive_1 ⟨Nat.le_refl _, Nat.le_refl _⟩) ?_
  refine lv_istore_n (lv' := [(1, .int (kd_cond σ i)), (0, .ref (ad i))]) hx hb d_K_isAlive_4 rfl hl (by decide) rfl (fun ls hl => ?_)
  refine lv_iload_n hx hb d_K_isAlive_5 rfl (lv_at hl 0 rfl) ?_
  refine lv_if_eq (tgt := 14) hx hb d_K_isAlive_6 (by decide) (fun c_6 => ?_) (fun c_6 => ?_)
  · -- to 14
    refine lv_iconst (v := 1) hx hb d_K_isAlive_14 (by decide) ?_
    refine lv_goto (tgt := 19) hx hb d_K_isAlive_15 (by decide) ?_
    exact r_retz hx hb hr hlocks (by decide) (by simp [kd_alive, c_6]) d_K_isAlive_19
  · -- on 9
    refine lv_iload_n hx hb d_K_isAlive_9 rfl (lv_at hl 0 rfl) ?_
    refine lv_iconst (v := 1) hx hb d_K_isAlive_10 (by decide) ?_
    refine lv_icmp_ne (tgt := 18) hx hb d_K_isAlive_11 (by decide) (fun c_11 => ?_) (fun c_11 => ?_)
    · -- to 18
      refine lv_iconst (v := 0) hx hb d_K_isAlive_18 (by decide) ?_
      exact r_retz hx hb hr hlocks (by decide) (by simp [kd_alive, c_6, c_11]) d_K_isAlive_19
    · -- on 14
      refine lv_iconst (v := 1) hx hb d_K_isAlive_14 (by decide) ?_
      refine lv_goto (tgt := 19) hx hb d_K_isAlive_15 (by decide) ?_
      exact r_retz hx hb hr hlocks (by decide) (by simp [kd_alive, c_6, c_11]) d_K_isAlive_19

set_option maxHeartbeats 4000000 in
set_option maxRecDepth 100000 in
theorem ct_K_heldBy (l : Launch) (D : va_G) (cI cQ : ClassId) (α ad an : Nat → Nat) (n : Nat) (σ : kS) (hI : k_ok n σ.1) (i : Nat) (hi : i < n) : Met l y_K_heldBy w_K_heldBy { frames := 0, cells := 0, slots := 0, locals := 0 } (gPc D (kty cI cQ) (kw_w cI cQ α ad an n σ) [.ref (α 0), .ref (ad i)]) (QcRead (kd_held σ i)) 0 0 (fun _ => False) := by
  refine Met.ofW (cc := b_K_heldBy) (maxL := 4) (ret := some .int) (by decide) rfl ?_
  intro p e s m args below meth c s₁ B hml hv
  obtain ⟨rfl, hP, hK, hD⟩ := hv
  have hx := B.exec
  have hb := B.bytes
  have hr := B.returns
  have hts : ∀ w ∈ kT, w.before [.ref (α 0), .ref (ad i)].toArray s = true := fun w h => atoms_spec (ws := w_K_heldBy) B.pre w (List.mem_cons_of_mem _ h)
  have hown : s.vm.findClass R_K = some m.cls := findClass_of_methodNamed B.named
  have hlocks := B.notSynchronized
  have hl := lv_entry ([.ref (α 0), .ref (ad i)]) (n := 4) (Nat.le_of_ble_eq_true rfl)
  rw [lg_entry_eq]
  generalize (lg_sl ([.ref (α 0), .ref (ad i)]) ++ List.replicate (4 - (lg_sl ([.ref (α 0), .ref (ad i)])).length) Slot.unset).toArray = ls at hl ⊢
  have hl : lv_has ls 4 [(0, .ref (α 0)), (1, .ref (ad i))] := hl
  refine lv_iconst (v := 0) hx hb d_K_heldBy_0 (by decide) ?_
  refine lv_istore_n (lv' := [(2, .int 0), (0, .ref (α 0)), (1, .ref (ad i))]) hx hb d_K_heldBy_1 rfl hl (by decide) rfl (fun ls hl => ?_)
  refine lv_iconst (v := 0) hx hb d_K_heldBy_2 (by decide) ?_
  refine lv_istore_n (lv' := [(3, .int 0), (2, .int 0), (0, .ref (α 0)), (1, .ref (ad i))]) hx hb d_K_heldBy_3 rfl hl (by decide) rfl (fun ls hl => ?_)
  have lp4 : ∀ (fu j : Nat) (acc : Int32) (ls : Array Slot), j ≤ 16 → 16 - j < fu → acc = kd_heldp (σ.2.1 0) (σ.2.2.1 i 0) j → lv_has ls 4 [(3, .int (nI j)), (2, .int acc), (0, .ref (α 0)), (1, .ref (ad i))] → W p l e (headSpec w_K_heldBy { frames := 0, cells := 0, slots := 0, locals := 0 }).room s m [.ref (α 0), .ref (ad i)].toArray below meth c s.heap [] 0 0 (MQ below (QcRead (kd_held σ i)) [.ref (α 0), .ref (ad i)].toArray s 0 0 (fun _ => False)) (F0 m 4 ls []) := by
    intro fu
    induction fu with
    | zero => intro j acc ls h1 h2; omega
    | succ fu ih =>
      intro j acc ls hj4 hf4 e_acc  hl
      refine lv_iload_n hx hb d_K_heldBy_4 rfl (lv_at hl 0 rfl) ?_
      refine lv_bipush (v := 16) hx hb d_K_heldBy_5 (by decide) ?_
      refine lv_icmp_ge (tgt := 35) hx hb d_K_heldBy_7 (by decide) (fun c_7 => ?_) (fun c_7 => ?_)
      · -- to 35
        have hx4 : j = 16 := lp_eq (B := 16) (hn := (by decide)) c_7 hj4
        subst hx4
        refine lv_iload_n hx hb d_K_heldBy_35 rfl (lv_at hl 1 rfl) ?_
        exact r_reti hx hb hr hlocks (by rw [e_acc]; rfl) d_K_heldBy_36
      · -- on 10
        have hl4 : j < 16 := lp_lt (B := 16) (hn := (by decide)) c_7 hj4
        refine lv_aload_n hx hb d_K_heldBy_10 rfl (lv_at hl 2 rfl) ?_
        refine kw_get hx hb hts hown hK hP 2 (by decide) fl_K_19 (v := .ref (α 2)) rfl d_K_heldBy_11 ?_
        refine lv_iload_n hx hb d_K_heldBy_14 rfl (lv_at hl 0 rfl) ?_
        refine kw_ald hx hb hK hP 0 (by decide) (j := j) rfl hl4 d_K_heldBy_15 ?_
        refine lv_aload_n hx hb d_K_heldBy_16 rfl (lv_at hl 3 rfl) ?_
        refine kw_dget hx hb hts hown hK hP hi 0 (by decide) fl_K_117 (v := .int (σ.2.2.1 i 0)) rfl d_K_heldBy_17 ?_
        refine lv_icmp_ne (tgt := 29) hx hb d_K_heldBy_20 (by decide) (fun c_20 => ?_) (fun c_20 => ?_)
        · -- to 29
          refine lv_iinc (v := nI (j + 1)) (lv' := [(3, .int (nI (j + 1))), (2, .int acc), (0, .ref (α 0)), (1, .ref (ad i))]) hx hb d_K_heldBy_29 hl (k := 0) rfl (nI_1 j) (by decide) rfl (fun ls hl => ?_)
          refine lv_goto (tgt := 4) hx hb d_K_heldBy_32 (by decide) ?_
          exact ih (j + 1) acc ls (by omega) (by omega) (by rw [kd_heldp, ← e_acc] <;> simp [c_7, c_20]) (lv_sub hl [0, 1, 2, 3] rfl)
        · -- on 23
          refine lv_iload_n hx hb d_K_heldBy_23 rfl (lv_at hl 1 rfl) ?_
          refine lv_iconst (v := 1) hx hb d_K_heldBy_24 (by decide) ?_
          refine lv_iload_n hx hb d_K_heldBy_25 rfl (lv_at hl 0 rfl) ?_
          refine lv_ishl hx hb d_K_heldBy_26 ?_
          refine lv_ior hx hb d_K_heldBy_27 ?_
          refine lv_istore_n (lv' := [(2, .int (acc ||| (1 <<< ((nI j) &&& 31)))), (3, .int (nI j)), (0, .ref (α 0)), (1, .ref (ad i))]) hx hb d_K_heldBy_28 rfl hl (by decide) rfl (fun ls hl => ?_)
          refine lv_iinc (v := nI (j + 1)) (lv' := [(3, .int (nI (j + 1))), (2, .int (acc ||| (1 <<< ((nI j) &&& 31)))), (0, .ref (α 0)), (1, .ref (ad i))]) hx hb d_K_heldBy_29 hl (k := 1) rfl (nI_1 j) (by decide) rfl (fun ls hl => ?_)
          refine lv_goto (tgt := 4) hx hb d_K_heldBy_32 (by decide) ?_
          exact ih (j + 1) (acc ||| (1 <<< ((nI j) &&& 31))) ls (by omega) (by omega) (by rw [kd_heldp, ← e_acc] <;> simp [c_7, c_20]) (lv_sub hl [0, 1, 2, 3] rfl)
  exact lp4 (16 - 0 + 1) 0 _ ls (by omega) (by omega) rfl  (lv_sub hl [0, 1, 2, 3] rfl)

set_option maxHeartbeats 4000000 in
set_option maxRecDepth 100000 in
theorem ct_K_isInTheMidst (l : Launch) (D : va_G) (cI cQ : ClassId) (α ad an : Nat → Nat) (n : Nat) (σ : kS) (hI : k_ok n σ.1) (i : Nat) (hi : i < n) : Met l y_K_isInTheMidst w_K_isInTheMidst { frames := 1, cells := 0, slots := 0, locals := 23 } (gPc D (kty cI cQ) (kw_w cI cQ α ad an n σ) [.ref (α 0), .ref (ad i)]) (QcRead (kd_midst σ i)) 0 0 (fun _ => False) := by
  refine Met.ofW (cc := b_K_isInTheMidst) (maxL := 2) (ret := some .boolean) (by decide) rfl ?_
  intro p e s m args below meth c s₁ B hml hv
  obtain ⟨rfl, hP, hK, hD⟩ := hv
  have hx := B.exec
  have hb := B.bytes
  have hr := B.returns
  have hts : ∀ w ∈ kT, w.before [.ref (α 0), .ref (ad i)].toArray s = true := fun w h => atoms_spec (ws := w_K_isInTheMidst) B.pre w (List.mem_cons_of_mem _ h)
  have hown : s.vm.findClass R_K = some m.cls := findClass_of_methodNamed B.named
  have hlocks := B.notSynchronized
  have hl := lv_entry ([.ref (α 0), .ref (ad i)]) (n := 2) (Nat.le_of_ble_eq_true rfl)
  rw [lg_entry_eq]
  generalize (lg_sl ([.ref (α 0), .ref (ad i)]) ++ List.replicate (2 - (lg_sl ([.ref (α 0), .ref (ad i)])).length) Slot.unset).toArray = ls at hl ⊢
  have hl : lv_has ls 2 [(0, .ref (α 0)), (1, .ref (ad i))] := hl
  refine lv_aload_n hx hb d_K_isInTheMidst_0 rfl (lv_at hl 1 rfl) ?_
  refine kw_dget hx hb hts hown hK hP hi 6 (by decide) fl_K_120 (v := .int (σ.2.2.1 i 6)) rfl d_K_isInTheMidst_1 ?_
  refine lv_iconst (v := (-1)) hx hb d_K_isInTheMidst_4 (by decide) ?_
  refine lv_icmp_ne (tgt := 16) hx hb d_K_isInTheMidst_5 (by decide) (fun c_5 => ?_) (fun c_5 => ?_)
  · -- to 16
    refine lv_iconst (v := 1) hx hb d_K_isInTheMidst_16 (by decide) ?_
    refine lv_goto (tgt := 21) hx hb d_K_isInTheMidst_17 (by decide) ?_
    exact r_retz hx hb hr hlocks (by decide) (by simp [kd_midst, c_5]) d_K_isInTheMidst_21
  · -- on 8
    refine lv_aload_n hx hb d_K_isInTheMidst_8 rfl (lv_at hl 0 rfl) ?_
    refine lv_aload_n hx hb d_K_isInTheMidst_9 rfl (lv_at hl 1 rfl) ?_
    refine r_calli (W.runV (As := [.ref (ad i)]) (rest := []) ⟨hx, hb, hml, hown, hts⟩ (ct_K_heldBy l D cI cQ α ad an n σ hI i hi) (cwV 1 hts gd_K_137 rfl rfl rfl (by decide +kernel) ⟨Nat.le_of_ble_eq_true rfl, Nat.le_of_ble_eq_true rfl⟩) (g_preV hK hP hD (ci := 0) (q0 := 0) rfl kw_0) rfl rfl hl.1 rfl (lv_room (Nat.le_of_ble_eq_true rfl)) d_K_isInTheMidst_10 ⟨Nat.le_refl _, Nat.le_refl _⟩) ?_
    refine lv_if_eq (tgt := 20) hx hb d_K_isInTheMidst_13 (by decide) (fun c_13 => ?_) (fun c_13 => ?_)
    · -- to 20
      refine lv_iconst (v := 0) hx hb d_K_isInTheMidst_20 (by decide) ?_
      exact r_retz hx hb hr hlocks (by decide) (by simp [kd_midst, c_5, c_13]) d_K_isInTheMidst_21
    · -- on 16
      refine lv_iconst (v := 1) hx hb d_K_isInTheMidst_16 (by decide) ?_
      refine lv_goto (tgt := 21) hx hb d_K_isInTheMidst_17 (by decide) ?_
      exact r_retz hx hb hr hlocks (by decide) (by simp [kd_midst, c_5, c_13]) d_K_isInTheMidst_21

set_option maxHeartbeats 4000000 in
set_option maxRecDepth 100000 in
theorem ct_K_subjectsHeld (l : Launch) (D : va_G) (cI cQ : ClassId) (α ad an : Nat → Nat) (n : Nat) (σ : kS) (hI : k_ok n σ.1)  : Met l y_K_subjectsHeld w_K_subjectsHeld { frames := 0, cells := 0, slots := 0, locals := 0 } (gPc D (kty cI cQ) (kw_w cI cQ α ad an n σ) [.ref (α 0)]) (QcRead (kd_cntp (σ.2.1 0) 16)) 0 0 (fun _ => False) := by
  refine Met.ofW (cc := b_K_subjectsHeld) (maxL := 3) (ret := some .int) (by decide) rfl ?_
  intro p e s m args below meth c s₁ B hml hv
  obtain ⟨rfl, hP, hK, hD⟩ := hv
  have hx := B.exec
  have hb := B.bytes
  have hr := B.returns
  have hts : ∀ w ∈ kT, w.before [.ref (α 0)].toArray s = true := fun w h => atoms_spec (ws := w_K_subjectsHeld) B.pre w (List.mem_cons_of_mem _ h)
  have hown : s.vm.findClass R_K = some m.cls := findClass_of_methodNamed B.named
  have hlocks := B.notSynchronized
  have hl := lv_entry ([.ref (α 0)]) (n := 3) (Nat.le_of_ble_eq_true rfl)
  rw [lg_entry_eq]
  generalize (lg_sl ([.ref (α 0)]) ++ List.replicate (3 - (lg_sl ([.ref (α 0)])).length) Slot.unset).toArray = ls at hl ⊢
  have hl : lv_has ls 3 [(0, .ref (α 0))] := hl
  refine lv_iconst (v := 0) hx hb d_K_subjectsHeld_0 (by decide) ?_
  refine lv_istore_n (lv' := [(1, .int 0), (0, .ref (α 0))]) hx hb d_K_subjectsHeld_1 rfl hl (by decide) rfl (fun ls hl => ?_)
  refine lv_iconst (v := 0) hx hb d_K_subjectsHeld_2 (by decide) ?_
  refine lv_istore_n (lv' := [(2, .int 0), (1, .int 0), (0, .ref (α 0))]) hx hb d_K_subjectsHeld_3 rfl hl (by decide) rfl (fun ls hl => ?_)
  have lp4 : ∀ (fu j : Nat) (acc : Int32) (ls : Array Slot), j ≤ 16 → 16 - j < fu → acc = kd_cntp (σ.2.1 0) j → lv_has ls 3 [(2, .int (nI j)), (1, .int acc), (0, .ref (α 0))] → W p l e (headSpec w_K_subjectsHeld { frames := 0, cells := 0, slots := 0, locals := 0 }).room s m [.ref (α 0)].toArray below meth c s.heap [] 0 0 (MQ below (QcRead (kd_cntp (σ.2.1 0) 16)) [.ref (α 0)].toArray s 0 0 (fun _ => False)) (F0 m 4 ls []) := by
    intro fu
    induction fu with
    | zero => intro j acc ls h1 h2; omega
    | succ fu ih =>
      intro j acc ls hj4 hf4 e_acc  hl
      refine lv_iload_n hx hb d_K_subjectsHeld_4 rfl (lv_at hl 0 rfl) ?_
      refine lv_bipush (v := 16) hx hb d_K_subjectsHeld_5 (by decide) ?_
      refine lv_icmp_ge (tgt := 29) hx hb d_K_subjectsHeld_7 (by decide) (fun c_7 => ?_) (fun c_7 => ?_)
      · -- to 29
        have hx4 : j = 16 := lp_eq (B := 16) (hn := (by decide)) c_7 hj4
        subst hx4
        refine lv_iload_n hx hb d_K_subjectsHeld_29 rfl (lv_at hl 1 rfl) ?_
        exact r_reti hx hb hr hlocks e_acc d_K_subjectsHeld_30
      · -- on 10
        have hl4 : j < 16 := lp_lt (B := 16) (hn := (by decide)) c_7 hj4
        refine lv_aload_n hx hb d_K_subjectsHeld_10 rfl (lv_at hl 2 rfl) ?_
        refine kw_get hx hb hts hown hK hP 2 (by decide) fl_K_19 (v := .ref (α 2)) rfl d_K_subjectsHeld_11 ?_
        refine lv_iload_n hx hb d_K_subjectsHeld_14 rfl (lv_at hl 0 rfl) ?_
        refine kw_ald hx hb hK hP 0 (by decide) (j := j) rfl hl4 d_K_subjectsHeld_15 ?_
        refine lv_iconst (v := (-1)) hx hb d_K_subjectsHeld_16 (by decide) ?_
        refine lv_icmp_eq (tgt := 23) hx hb d_K_subjectsHeld_17 (by decide) (fun c_17 => ?_) (fun c_17 => ?_)
        · -- to 23
          refine lv_iinc (v := nI (j + 1)) (lv' := [(2, .int (nI (j + 1))), (1, .int acc), (0, .ref (α 0))]) hx hb d_K_subjectsHeld_23 hl (k := 0) rfl (nI_1 j) (by decide) rfl (fun ls hl => ?_)
          refine lv_goto (tgt := 4) hx hb d_K_subjectsHeld_26 (by decide) ?_
          exact ih (j + 1) acc ls (by omega) (by omega) (by rw [kd_cntp, ← e_acc] <;> simp [c_7, c_17]) (lv_sub hl [0, 1, 2] rfl)
        · -- on 20
          refine lv_iinc (v := acc + 1) (lv' := [(1, .int (acc + 1)), (2, .int (nI j)), (0, .ref (α 0))]) hx hb d_K_subjectsHeld_20 hl (k := 1) rfl rfl (by decide) rfl (fun ls hl => ?_)
          refine lv_iinc (v := nI (j + 1)) (lv' := [(2, .int (nI (j + 1))), (1, .int (acc + 1)), (0, .ref (α 0))]) hx hb d_K_subjectsHeld_23 hl (k := 1) rfl (nI_1 j) (by decide) rfl (fun ls hl => ?_)
          refine lv_goto (tgt := 4) hx hb d_K_subjectsHeld_26 (by decide) ?_
          exact ih (j + 1) (acc + 1) ls (by omega) (by omega) (by rw [kd_cntp, ← e_acc] <;> simp [c_7, c_17]) (lv_sub hl [0, 1, 2] rfl)
  exact lp4 (16 - 0 + 1) 0 _ ls (by omega) (by omega) rfl  (lv_sub hl [0, 1, 2] rfl)
end
section
set_option maxHeartbeats 4000000 in
set_option maxRecDepth 100000 in
theorem ct_K_leastLacking (l : Launch) (D : va_G) (cI cQ : ClassId) (α ad an : Nat → Nat) (n : Nat) (σ : kS) (hI : k_ok n σ.1) (i : Nat) (hi : i < n) : Met l y_K_leastLacking w_K_leastLacking { frames := 1, cells := 0, slots := 0, locals := 22 } (gPc D (kty cI cQ) (kw_w cI cQ α ad an n σ) [.ref (α 0), .ref (ad i)]) (QcRead (kd_ll σ i)) 0 0 (fun _ => False) := by
  refine Met.ofW (cc := b_K_leastLacking) (maxL := 3) (ret := some .int) (by decide) rfl ?_
  intro p e s m args below meth c s₁ B hml hv
  obtain ⟨rfl, hP, hK, hD⟩ := hv
  have hx := B.exec
  have hb := B.bytes
  have hr := B.returns
  have hts : ∀ w ∈ kT, w.before [.ref (α 0), .ref (ad i)].toArray s = true := fun w h => atoms_spec (ws := w_K_leastLacking) B.pre w (List.mem_cons_of_mem _ h)
  have hown : s.vm.findClass R_K = some m.cls := findClass_of_methodNamed B.named
  have hlocks := B.notSynchronized
  have hl := lv_entry ([.ref (α 0), .ref (ad i)]) (n := 3) (Nat.le_of_ble_eq_true rfl)
  rw [lg_entry_eq]
  generalize (lg_sl ([.ref (α 0), .ref (ad i)]) ++ List.replicate (3 - (lg_sl ([.ref (α 0), .ref (ad i)])).length) Slot.unset).toArray = ls at hl ⊢
  have hl : lv_has ls 3 [(0, .ref (α 0)), (1, .ref (ad i))] := hl
  refine lv_iconst (v := 0) hx hb d_K_leastLacking_0 (by decide) ?_
  refine lv_istore_n (lv' := [(2, .int 0), (0, .ref (α 0)), (1, .ref (ad i))]) hx hb d_K_leastLacking_1 rfl hl (by decide) rfl (fun ls hl => ?_)
  have lp2 : ∀ (fu j : Nat) (ls : Array Slot), j ≤ 16 → 16 - j < fu → kd_llp σ i j = none → lv_has ls 3 [(2, .int (nI j)), (0, .ref (α 0)), (1, .ref (ad i))] → W p l e (headSpec w_K_leastLacking { frames := 1, cells := 0, slots := 0, locals := 22 }).room s m [.ref (α 0), .ref (ad i)].toArray below meth c s.heap [] 0 0 (MQ below (QcRead (kd_ll σ i)) [.ref (α 0), .ref (ad i)].toArray s 0 0 (fun _ => False)) (F0 m 2 ls []) := by
    intro fu
    induction fu with
    | zero => intro j  ls h1 h2; omega
    | succ fu ih =>
      intro j  ls hj2 hf2  e_ll hl
      refine lv_iload_n hx hb d_K_leastLacking_2 rfl (lv_at hl 0 rfl) ?_
      refine lv_bipush (v := 16) hx hb d_K_leastLacking_3 (by decide) ?_
      refine lv_icmp_ge (tgt := 41) hx hb d_K_leastLacking_5 (by decide) (fun c_5 => ?_) (fun c_5 => ?_)
      · -- to 41
        have hx2 : j = 16 := lp_eq (B := 16) (hn := (by decide)) c_5 hj2
        subst hx2
        refine lv_iconst (v := (-1)) hx hb d_K_leastLacking_41 (by decide) ?_
        exact r_reti hx hb hr hlocks (kd_ll_n e_ll) d_K_leastLacking_42
      · -- on 8
        have hl2 : j < 16 := lp_lt (B := 16) (hn := (by decide)) c_5 hj2
        refine lv_aload_n hx hb d_K_leastLacking_8 rfl (lv_at hl 2 rfl) ?_
        refine lv_aload_n hx hb d_K_leastLacking_9 rfl (lv_at hl 2 rfl) ?_
        refine kw_dget hx hb hts hown hK hP hi 4 (by decide) fl_K_92 (v := .int (σ.2.2.1 i 4)) rfl d_K_leastLacking_10 ?_
        refine lv_iload_n hx hb d_K_leastLacking_13 rfl (lv_at hl 0 rfl) ?_
        refine r_calli (W.runV (As := [.int (σ.2.2.1 i 4), .int (nI j)]) (rest := []) ⟨hx, hb, hml, hown, hts⟩ (ct_D_hasNeed l D cI cQ α ad an n σ hI i hi (σ.2.2.1 i 4) (nI j)) (cwV 2 hts gd_K_88 rfl rfl rfl (by decide +kernel) ⟨Nat.le_of_ble_eq_true rfl, Nat.le_of_ble_eq_true rfl⟩) (g_preV hK hP hD (ci := 1) (q0 := 6 + i) rfl (kw_3 hi)) rfl rfl hl.1 rfl (lv_room (Nat.le_of_ble_eq_true rfl)) d_K_leastLacking_14 ⟨Nat.le_refl _, Nat.le_refl _⟩) ?_
        refine lv_if_eq (tgt := 35) hx hb d_K_leastLacking_17 (by decide) (fun c_17 => ?_) (fun c_17 => ?_)
        · -- to 35
          refine lv_iinc (v := nI (j + 1)) (lv' := [(2, .int (nI (j + 1))), (0, .ref (α 0)), (1, .ref (ad i))]) hx hb d_K_leastLacking_35 hl (k := 0) rfl (nI_1 j) (by decide) rfl (fun ls hl => ?_)
          refine lv_goto (tgt := 2) hx hb d_K_leastLacking_38 (by decide) ?_
          exact ih (j + 1)  ls (by omega) (by omega) (by simp [kd_llp, e_ll, c_5, c_17]) (lv_sub hl [0, 1, 2] rfl)
        · -- on 20
          refine lv_aload_n hx hb d_K_leastLacking_20 rfl (lv_at hl 1 rfl) ?_
          refine kw_get hx hb hts hown hK hP 2 (by decide) fl_K_19 (v := .ref (α 2)) rfl d_K_leastLacking_21 ?_
          refine lv_iload_n hx hb d_K_leastLacking_24 rfl (lv_at hl 0 rfl) ?_
          refine kw_ald hx hb hK hP 0 (by decide) (j := j) rfl hl2 d_K_leastLacking_25 ?_
          refine lv_aload_n hx hb d_K_leastLacking_26 rfl (lv_at hl 2 rfl) ?_
          refine kw_dget hx hb hts hown hK hP hi 0 (by decide) fl_K_117 (v := .int (σ.2.2.1 i 0)) rfl d_K_leastLacking_27 ?_
          refine lv_icmp_eq (tgt := 35) hx hb d_K_leastLacking_30 (by decide) (fun c_30 => ?_) (fun c_30 => ?_)
          · -- to 35
            refine lv_iinc (v := nI (j + 1)) (lv' := [(2, .int (nI (j + 1))), (0, .ref (α 0)), (1, .ref (ad i))]) hx hb d_K_leastLacking_35 hl (k := 0) rfl (nI_1 j) (by decide) rfl (fun ls hl => ?_)
            refine lv_goto (tgt := 2) hx hb d_K_leastLacking_38 (by decide) ?_
            exact ih (j + 1)  ls (by omega) (by omega) (by simp [kd_llp, e_ll, c_5, c_17, c_30]) (lv_sub hl [0, 1, 2] rfl)
          · -- on 33
            refine lv_iload_n hx hb d_K_leastLacking_33 rfl (lv_at hl 0 rfl) ?_
            exact r_reti hx hb hr hlocks (kd_ll_s (kd_llp_up (m := j + 1) (by rw [kd_llp, e_ll]; simp [c_17, c_30]) (show j + 1 ≤ 16 by omega))) d_K_leastLacking_34
  exact lp2 (16 - 0 + 1) 0  ls (by omega) (by omega)  rfl (lv_sub hl [0, 1, 2] rfl)

set_option maxHeartbeats 4000000 in
set_option maxRecDepth 100000 in
theorem ct_K_waitersAheadOf (l : Launch) (D : va_G) (cI cQ : ClassId) (α ad an : Nat → Nat) (n : Nat) (σ : kS) (hI : k_ok n σ.1) (i : Nat) (hi : i < n) : Met l y_K_waitersAheadOf w_K_waitersAheadOf { frames := 0, cells := 0, slots := 0, locals := 0 } (gPc D (kty cI cQ) (kw_w cI cQ α ad an n σ) [.ref (α 0), .ref (ad i)]) (QcRead (kd_wap σ i n)) 0 0 (fun _ => False) := by
  refine Met.ofW (cc := b_K_waitersAheadOf) (maxL := 5) (ret := some .int) (by decide) rfl ?_
  intro p e s m args below meth c s₁ B hml hv
  obtain ⟨rfl, hP, hK, hD⟩ := hv
  have hx := B.exec
  have hb := B.bytes
  have hr := B.returns
  have hts : ∀ w ∈ kT, w.before [.ref (α 0), .ref (ad i)].toArray s = true := fun w h => atoms_spec (ws := w_K_waitersAheadOf) B.pre w (List.mem_cons_of_mem _ h)
  have hown : s.vm.findClass R_K = some m.cls := findClass_of_methodNamed B.named
  have hlocks := B.notSynchronized
  have hl := lv_entry ([.ref (α 0), .ref (ad i)]) (n := 5) (Nat.le_of_ble_eq_true rfl)
  rw [lg_entry_eq]
  generalize (lg_sl ([.ref (α 0), .ref (ad i)]) ++ List.replicate (5 - (lg_sl ([.ref (α 0), .ref (ad i)])).length) Slot.unset).toArray = ls at hl ⊢
  have hl : lv_has ls 5 [(0, .ref (α 0)), (1, .ref (ad i))] := hl
  refine lv_iconst (v := 0) hx hb d_K_waitersAheadOf_0 (by decide) ?_
  refine lv_istore_n (lv' := [(2, .int 0), (0, .ref (α 0)), (1, .ref (ad i))]) hx hb d_K_waitersAheadOf_1 rfl hl (by decide) rfl (fun ls hl => ?_)
  refine lv_iconst (v := 0) hx hb d_K_waitersAheadOf_2 (by decide) ?_
  refine lv_istore_n (lv' := [(3, .int 0), (2, .int 0), (0, .ref (α 0)), (1, .ref (ad i))]) hx hb d_K_waitersAheadOf_3 rfl hl (by decide) rfl (fun ls hl => ?_)
  have lp4 : ∀ (fu j : Nat) (acc : Int32) (ls : Array Slot), j ≤ n → n - j < fu → acc = kd_wap σ i j → lv_has ls 5 [(3, .int (nI j)), (2, .int acc), (0, .ref (α 0)), (1, .ref (ad i))] → W p l e (headSpec w_K_waitersAheadOf { frames := 0, cells := 0, slots := 0, locals := 0 }).room s m [.ref (α 0), .ref (ad i)].toArray below meth c s.heap [] 0 0 (MQ below (QcRead (kd_wap σ i n)) [.ref (α 0), .ref (ad i)].toArray s 0 0 (fun _ => False)) (F0 m 4 ls []) := by
    intro fu
    induction fu with
    | zero => intro j acc ls h1 h2; omega
    | succ fu ih =>
      intro j acc ls hj4 hf4 e_acc  hl
      refine lv_iload_n hx hb d_K_waitersAheadOf_4 rfl (lv_at hl 0 rfl) ?_
      refine lv_aload_n hx hb d_K_waitersAheadOf_5 rfl (lv_at hl 2 rfl) ?_
      refine kw_get hx hb hts hown hK hP 1 (by decide) fl_K_15 (v := .int (σ.1 1)) rfl d_K_waitersAheadOf_6 ?_
      refine lv_icmp_ge (tgt := 67) hx hb d_K_waitersAheadOf_9 (by decide) (fun c_9 => ?_) (fun c_9 => ?_)
      · -- to 67
        have hx4 : j = n := lp_eqI hI c_9 hj4
        rw [hx4] at e_acc
        refine lv_iload_n hx hb d_K_waitersAheadOf_67 rfl (lv_at hl 1 rfl) ?_
        exact r_reti hx hb hr hlocks e_acc d_K_waitersAheadOf_68
      · -- on 12
        have hl4 : j < n := lp_ltI hI c_9 hj4
        refine lv_iload_n hx hb d_K_waitersAheadOf_12 rfl (lv_at hl 0 rfl) ?_
        refine lv_aload_n hx hb d_K_waitersAheadOf_13 rfl (lv_at hl 2 rfl) ?_
        refine kw_get hx hb hts hown hK hP 0 (by decide) fl_K_11 (v := .ref (α 1)) rfl d_K_waitersAheadOf_14 ?_
        refine kw_qlen hx hb hK hP d_K_waitersAheadOf_17 ?_
        refine lv_icmp_ge (tgt := 67) hx hb d_K_waitersAheadOf_18 (by decide) (fun c_18 => ?_) (fun c_18 => ?_)
        · -- to 67
          exact absurd c_18 (lp_8 hI hl4)
        · -- on 21
          refine lv_aload_n hx hb d_K_waitersAheadOf_21 rfl (lv_at hl 2 rfl) ?_
          refine kw_get hx hb hts hown hK hP 0 (by decide) fl_K_11 (v := .ref (α 1)) rfl d_K_waitersAheadOf_22 ?_
          refine lv_iload_n hx hb d_K_waitersAheadOf_25 rfl (lv_at hl 0 rfl) ?_
          refine kw_qld hx hb hK hP (j := j) rfl hl4 hI.1 d_K_waitersAheadOf_26 ?_
          refine lv_astore (lv' := [(4, .ref (ad j)), (3, .int (nI j)), (2, .int acc), (0, .ref (α 0)), (1, .ref (ad i))]) hx hb d_K_waitersAheadOf_27 hl (by decide) rfl (fun ls hl => ?_)
          refine lv_aload hx hb d_K_waitersAheadOf_29 (lv_at hl 0 rfl) ?_
          refine lv_ifnull hx hb d_K_waitersAheadOf_31 ?_
          refine lv_aload hx hb d_K_waitersAheadOf_34 (lv_at hl 0 rfl) ?_
          refine kw_dget hx hb hts hown hK hP hl4 6 (by decide) fl_K_120 (v := .int (σ.2.2.1 j 6)) rfl d_K_waitersAheadOf_36 ?_
          refine lv_aload_n hx hb d_K_waitersAheadOf_39 rfl (lv_at hl 4 rfl) ?_
          refine kw_dget hx hb hts hown hK hP hi 6 (by decide) fl_K_120 (v := .int (σ.2.2.1 i 6)) rfl d_K_waitersAheadOf_40 ?_
          refine lv_icmp_ne (tgt := 61) hx hb d_K_waitersAheadOf_43 (by decide) (fun c_43 => ?_) (fun c_43 => ?_)
          · -- to 61
            refine lv_iinc (v := nI (j + 1)) (lv' := [(3, .int (nI (j + 1))), (4, .ref (ad j)), (2, .int acc), (0, .ref (α 0)), (1, .ref (ad i))]) hx hb d_K_waitersAheadOf_61 hl (k := 1) rfl (nI_1 j) (by decide) rfl (fun ls hl => ?_)
            refine lv_goto (tgt := 4) hx hb d_K_waitersAheadOf_64 (by decide) ?_
            exact ih (j + 1) acc ls (by omega) (by omega) (by rw [kd_wap, ← e_acc] <;> simp [c_9, c_18, c_43]) (lv_sub hl [0, 2, 3, 4] rfl)
          · -- on 46
            refine lv_aload hx hb d_K_waitersAheadOf_46 (lv_at hl 0 rfl) ?_
            refine kw_dget hx hb hts hown hK hP hl4 7 (by decide) fl_K_188 (v := .int (σ.2.2.1 j 7)) rfl d_K_waitersAheadOf_48 ?_
            refine lv_aload_n hx hb d_K_waitersAheadOf_51 rfl (lv_at hl 4 rfl) ?_
            refine kw_dget hx hb hts hown hK hP hi 7 (by decide) fl_K_188 (v := .int (σ.2.2.1 i 7)) rfl d_K_waitersAheadOf_52 ?_
            refine lv_icmp_ge (tgt := 61) hx hb d_K_waitersAheadOf_55 (by decide) (fun c_55 => ?_) (fun c_55 => ?_)
            · -- to 61
              refine lv_iinc (v := nI (j + 1)) (lv' := [(3, .int (nI (j + 1))), (4, .ref (ad j)), (2, .int acc), (0, .ref (α 0)), (1, .ref (ad i))]) hx hb d_K_waitersAheadOf_61 hl (k := 1) rfl (nI_1 j) (by decide) rfl (fun ls hl => ?_)
              refine lv_goto (tgt := 4) hx hb d_K_waitersAheadOf_64 (by decide) ?_
              exact ih (j + 1) acc ls (by omega) (by omega) (by rw [kd_wap, ← e_acc] <;> simp [c_9, c_18, c_43, c_55]) (lv_sub hl [0, 2, 3, 4] rfl)
            · -- on 58
              refine lv_iinc (v := acc + 1) (lv' := [(2, .int (acc + 1)), (4, .ref (ad j)), (3, .int (nI j)), (0, .ref (α 0)), (1, .ref (ad i))]) hx hb d_K_waitersAheadOf_58 hl (k := 2) rfl rfl (by decide) rfl (fun ls hl => ?_)
              refine lv_iinc (v := nI (j + 1)) (lv' := [(3, .int (nI (j + 1))), (2, .int (acc + 1)), (4, .ref (ad j)), (0, .ref (α 0)), (1, .ref (ad i))]) hx hb d_K_waitersAheadOf_61 hl (k := 2) rfl (nI_1 j) (by decide) rfl (fun ls hl => ?_)
              refine lv_goto (tgt := 4) hx hb d_K_waitersAheadOf_64 (by decide) ?_
              exact ih (j + 1) (acc + 1) ls (by omega) (by omega) (by rw [kd_wap, ← e_acc] <;> simp [c_9, c_18, c_43, c_55]) (lv_sub hl [0, 1, 3, 4] rfl)
  exact lp4 (n - 0 + 1) 0 _ ls (by omega) (by omega) rfl  (lv_sub hl [0, 1, 2, 3] rfl)

set_option maxHeartbeats 4000000 in
set_option maxRecDepth 100000 in
theorem ct_K_waiterFor (l : Launch) (D : va_G) (cI cQ : ClassId) (α ad an : Nat → Nat) (n : Nat) (σ : kS) (hI : k_ok n σ.1) (x y : Int32) : Met l y_K_waiterFor w_K_waiterFor { frames := 1, cells := 0, slots := 0, locals := 24 } (gPc D (kty cI cQ) (kw_w cI cQ α ad an n σ) [.ref (α 0), .int x, .int y]) (va_Sq (fun q => q = (kd_wfp σ n x y n).map ad)) 0 0 (fun _ => False) := by
  refine Met.ofW (cc := b_K_waiterFor) (maxL := 5) (ret := (some (.object R_D))) (by decide) rfl ?_
  intro p e s m args below meth c s₁ B hml hv
  obtain ⟨rfl, hP, hK, hD⟩ := hv
  have hx := B.exec
  have hb := B.bytes
  have hr := B.returns
  have hts : ∀ w ∈ kT, w.before [.ref (α 0), .int x, .int y].toArray s = true := fun w h => atoms_spec (ws := w_K_waiterFor) B.pre w (List.mem_cons_of_mem _ h)
  have hown : s.vm.findClass R_K = some m.cls := findClass_of_methodNamed B.named
  have hlocks := B.notSynchronized
  have hl := lv_entry ([.ref (α 0), .int x, .int y]) (n := 5) (Nat.le_of_ble_eq_true rfl)
  rw [lg_entry_eq]
  generalize (lg_sl ([.ref (α 0), .int x, .int y]) ++ List.replicate (5 - (lg_sl ([.ref (α 0), .int x, .int y])).length) Slot.unset).toArray = ls at hl ⊢
  have hl : lv_has ls 5 [(0, .ref (α 0)), (1, .int x), (2, .int y)] := hl
  refine lv_iconst (v := 0) hx hb d_K_waiterFor_0 (by decide) ?_
  refine lv_istore_n (lv' := [(3, .int 0), (0, .ref (α 0)), (1, .int x), (2, .int y)]) hx hb d_K_waiterFor_1 rfl hl (by decide) rfl (fun ls hl => ?_)
  have lp2 : ∀ (fu j : Nat) (ls : Array Slot), j ≤ n → n - j < fu → kd_wfp σ n x y j = none → lv_has ls 5 [(3, .int (nI j)), (0, .ref (α 0)), (1, .int x), (2, .int y)] → W p l e (headSpec w_K_waiterFor { frames := 1, cells := 0, slots := 0, locals := 24 }).room s m [.ref (α 0), .int x, .int y].toArray below meth c s.heap [] 0 0 (MQ below (va_Sq (fun q => q = (kd_wfp σ n x y n).map ad)) [.ref (α 0), .int x, .int y].toArray s 0 0 (fun _ => False)) (F0 m 2 ls []) := by
    intro fu
    induction fu with
    | zero => intro j  ls h1 h2; omega
    | succ fu ih =>
      intro j  ls hj2 hf2  e_wf hl
      refine lv_iload_n hx hb d_K_waiterFor_2 rfl (lv_at hl 0 rfl) ?_
      refine lv_aload_n hx hb d_K_waiterFor_3 rfl (lv_at hl 1 rfl) ?_
      refine kw_get hx hb hts hown hK hP 1 (by decide) fl_K_15 (v := .int (σ.1 1)) rfl d_K_waiterFor_4 ?_
      refine lv_icmp_ge (tgt := 60) hx hb d_K_waiterFor_7 (by decide) (fun c_7 => ?_) (fun c_7 => ?_)
      · -- to 60
        have hx2 : j = n := lp_eqI hI c_7 hj2
        rw [hx2] at e_wf
        refine lv_null hx hb d_K_waiterFor_60 ?_
        exact r_retq hx hb hr hlocks (r := (kd_wfp σ n x y n).map ad) (by rw [e_wf]; rfl) d_K_waiterFor_61
      · -- on 10
        have hl2 : j < n := lp_ltI hI c_7 hj2
        refine lv_iload_n hx hb d_K_waiterFor_10 rfl (lv_at hl 0 rfl) ?_
        refine lv_aload_n hx hb d_K_waiterFor_11 rfl (lv_at hl 1 rfl) ?_
        refine kw_get hx hb hts hown hK hP 0 (by decide) fl_K_11 (v := .ref (α 1)) rfl d_K_waiterFor_12 ?_
        refine kw_qlen hx hb hK hP d_K_waiterFor_15 ?_
        refine lv_icmp_ge (tgt := 60) hx hb d_K_waiterFor_16 (by decide) (fun c_16 => ?_) (fun c_16 => ?_)
        · -- to 60
          exact absurd c_16 (lp_8 hI hl2)
        · -- on 19
          refine lv_aload_n hx hb d_K_waiterFor_19 rfl (lv_at hl 1 rfl) ?_
          refine kw_get hx hb hts hown hK hP 0 (by decide) fl_K_11 (v := .ref (α 1)) rfl d_K_waiterFor_20 ?_
          refine lv_iload_n hx hb d_K_waiterFor_23 rfl (lv_at hl 0 rfl) ?_
          refine kw_qld hx hb hK hP (j := j) rfl hl2 hI.1 d_K_waiterFor_24 ?_
          refine lv_astore (lv' := [(4, .ref (ad j)), (3, .int (nI j)), (0, .ref (α 0)), (1, .int x), (2, .int y)]) hx hb d_K_waiterFor_25 hl (by decide) rfl (fun ls hl => ?_)
          refine lv_aload hx hb d_K_waiterFor_27 (lv_at hl 0 rfl) ?_
          refine lv_ifnull hx hb d_K_waiterFor_29 ?_
          refine lv_aload hx hb d_K_waiterFor_32 (lv_at hl 0 rfl) ?_
          refine kw_dget hx hb hts hown hK hP hl2 6 (by decide) fl_K_120 (v := .int (σ.2.2.1 j 6)) rfl d_K_waiterFor_34 ?_
          refine lv_iload_n hx hb d_K_waiterFor_37 rfl (lv_at hl 3 rfl) ?_
          refine lv_icmp_ne (tgt := 54) hx hb d_K_waiterFor_38 (by decide) (fun c_38 => ?_) (fun c_38 => ?_)
          · -- to 54
            refine lv_iinc (v := nI (j + 1)) (lv' := [(3, .int (nI (j + 1))), (4, .ref (ad j)), (0, .ref (α 0)), (1, .int x), (2, .int y)]) hx hb d_K_waiterFor_54 hl (k := 1) rfl (nI_1 j) (by decide) rfl (fun ls hl => ?_)
            refine lv_goto (tgt := 2) hx hb d_K_waiterFor_57 (by decide) ?_
            exact ih (j + 1)  ls (by omega) (by omega) (by simp [kd_wfp, e_wf, c_7, c_16, c_38]) (lv_sub hl [0, 2, 3, 4] rfl)
          · -- on 41
            refine lv_aload_n hx hb d_K_waiterFor_41 rfl (lv_at hl 2 rfl) ?_
            refine lv_aload hx hb d_K_waiterFor_42 (lv_at hl 0 rfl) ?_
            refine r_calli (W.runV (As := [.ref (ad j)]) (rest := []) ⟨hx, hb, hml, hown, hts⟩ (ct_K_waitersAheadOf l D cI cQ α ad an n σ hI j hl2) (cwV 1 hts gd_K_194 rfl rfl rfl (by decide +kernel) ⟨Nat.le_of_ble_eq_true rfl, Nat.le_of_ble_eq_true rfl⟩) (g_preV hK hP hD (ci := 0) (q0 := 0) rfl kw_0) rfl rfl hl.1 rfl (lv_room (Nat.le_of_ble_eq_true rfl)) d_K_waiterFor_44 ⟨Nat.le_refl _, Nat.le_refl _⟩) ?_
            refine lv_iload_n hx hb d_K_waiterFor_47 rfl (lv_at hl 4 rfl) ?_
            refine lv_icmp_ne (tgt := 54) hx hb d_K_waiterFor_48 (by decide) (fun c_48 => ?_) (fun c_48 => ?_)
            · -- to 54
              refine lv_iinc (v := nI (j + 1)) (lv' := [(3, .int (nI (j + 1))), (4, .ref (ad j)), (0, .ref (α 0)), (1, .int x), (2, .int y)]) hx hb d_K_waiterFor_54 hl (k := 1) rfl (nI_1 j) (by decide) rfl (fun ls hl => ?_)
              refine lv_goto (tgt := 2) hx hb d_K_waiterFor_57 (by decide) ?_
              exact ih (j + 1)  ls (by omega) (by omega) (by simp [kd_wfp, e_wf, c_7, c_16, c_38, c_48]) (lv_sub hl [0, 2, 3, 4] rfl)
            · -- on 51
              refine lv_aload hx hb d_K_waiterFor_51 (lv_at hl 0 rfl) ?_
              exact r_retq hx hb hr hlocks (r := (kd_wfp σ n x y n).map ad) (by rw [kd_wfp_up (m := j + 1) (i := j) (by rw [kd_wfp, e_wf]; simp [c_38, c_48]) (show j + 1 ≤ n by omega)]; rfl) d_K_waiterFor_53
  exact lp2 (n - 0 + 1) 0  ls (by omega) (by omega)  rfl (lv_sub hl [0, 1, 2, 3] rfl)
end
section
set_option maxHeartbeats 4000000 in
set_option maxRecDepth 100000 in
theorem ct_K_take (l : Launch) (D : va_G) (cI cQ : ClassId) (α ad an : Nat → Nat) (n : Nat) (σ : kS) (hI : k_ok n σ.1) (i : Nat) (hi : i < n) (z : Nat) (hz : z < 16) : Met l y_K_take w_K_take { frames := 0, cells := 0, slots := 0, locals := 0 } (gPc D (kty cI cQ) (kw_w cI cQ α ad an n σ) [.ref (α 0), .ref (ad i), .int (nI z)]) (gQv D (kw_al α ad an n) (kw_w cI cQ α ad an n (kd_take σ i z))) 0 0 (gA (kw_al α ad an n)) := by
  refine Met.ofW (cc := b_K_take) (maxL := 3) (ret := none) (by decide) rfl ?_
  intro p e s m args below meth c s₁ B hml hv
  obtain ⟨rfl, hP, hK, hD⟩ := hv
  have hx := B.exec
  have hb := B.bytes
  have hr := B.returns
  have hts : ∀ w ∈ kT, w.before [.ref (α 0), .ref (ad i), .int (nI z)].toArray s = true := fun w h => atoms_spec (ws := w_K_take) B.pre w (List.mem_cons_of_mem _ h)
  have hown : s.vm.findClass R_K = some m.cls := findClass_of_methodNamed B.named
  have hlocks := B.notSynchronized
  have hD : va_D (gA (kw_al α ad an n)) (kw_w cI cQ α ad an n σ) := gD kw_adr hD
  have hS : va_S (gA (kw_al α ad an n)) s.heap s.heap [] := va_S.rf
  have hl := lv_entry ([.ref (α 0), .ref (ad i), .int (nI z)]) (n := 3) (Nat.le_of_ble_eq_true rfl)
  rw [lg_entry_eq]
  generalize (lg_sl ([.ref (α 0), .ref (ad i), .int (nI z)]) ++ List.replicate (3 - (lg_sl ([.ref (α 0), .ref (ad i), .int (nI z)])).length) Slot.unset).toArray = ls at hl ⊢
  have hl : lv_has ls 3 [(0, .ref (α 0)), (1, .ref (ad i)), (2, .int (nI z))] := hl
  refine lv_aload_n hx hb d_K_take_0 rfl (lv_at hl 1 rfl) ?_
  refine lv_iconst (v := (-1)) hx hb d_K_take_1 (by decide) ?_
  refine kw_dput hx hb hts hown hK hP hD hS hi 6 (by decide) fl_K_120 rfl rfl rfl d_K_take_2 (fun H locs hP hD hS => ?_)
  obtain ⟨σ1, e_σ1⟩ : ∃ ζ, ζ = k_d σ i 6 (-1) := ⟨_, rfl⟩
  rw [← e_σ1] at hP hD
  have hI : k_ok n σ1.1 := by rw [e_σ1]; exact hI
  refine lv_aload_n hx hb d_K_take_5 rfl (lv_at hl 0 rfl) ?_
  refine kw_get hx hb hts hown hK hP 2 (by decide) fl_K_19 (v := .ref (α 2)) rfl d_K_take_6 ?_
  refine lv_iload_n hx hb d_K_take_9 rfl (lv_at hl 2 rfl) ?_
  refine lv_aload_n hx hb d_K_take_10 rfl (lv_at hl 1 rfl) ?_
  refine kw_dget hx hb hts hown hK hP hi 0 (by decide) fl_K_117 (v := .int (σ1.2.2.1 i 0)) rfl d_K_take_11 ?_
  refine kw_ast hx hb hK hP hD hS 0 (by decide) (j := z) rfl hz d_K_take_14 (fun H locs hP hD hS => ?_)
  obtain ⟨σ2, e_σ2⟩ : ∃ ζ, ζ = k_a σ1 0 z (σ1.2.2.1 i 0) := ⟨_, rfl⟩
  rw [← e_σ2] at hP hD
  have hI : k_ok n σ2.1 := by rw [e_σ2]; exact hI
  refine lv_aload_n hx hb d_K_take_15 rfl (lv_at hl 0 rfl) ?_
  refine kw_get hx hb hts hown hK hP 3 (by decide) fl_K_23 (v := .ref (α 3)) rfl d_K_take_16 ?_
  refine lv_iload_n hx hb d_K_take_19 rfl (lv_at hl 2 rfl) ?_
  refine lv_aload_n hx hb d_K_take_20 rfl (lv_at hl 0 rfl) ?_
  refine kw_get hx hb hts hown hK hP 11 (by decide) fl_K_47 (v := .int (σ2.1 11)) rfl d_K_take_21 ?_
  refine kw_ast hx hb hK hP hD hS 1 (by decide) (j := z) rfl hz d_K_take_24 (fun H locs hP hD hS => ?_)
  obtain ⟨σ3, e_σ3⟩ : ∃ ζ, ζ = k_a σ2 1 z (σ2.1 11) := ⟨_, rfl⟩
  rw [← e_σ3] at hP hD
  have hI : k_ok n σ3.1 := by rw [e_σ3]; exact hI
  exact g_retv hx hb hr hlocks (by rw [e_σ3, e_σ2, e_σ1]; rfl) hP hS d_K_take_25

set_option maxHeartbeats 4000000 in
set_option maxRecDepth 100000 in
theorem ct_K_ask (l : Launch) (D : va_G) (cI cQ : ClassId) (α ad an : Nat → Nat) (n : Nat) (σ : kS) (hI : k_ok n σ.1) (i : Nat) (hi : i < n) (z : Nat) (hz : z < 16) : Met l y_K_ask w_K_ask { frames := 1, cells := 0, slots := 0, locals := 22 } (gPc D (kty cI cQ) (kw_w cI cQ α ad an n σ) [.ref (α 0), .ref (ad i), .int (nI z)]) (gQv D (kw_al α ad an n) (kw_w cI cQ α ad an n (kd_ask σ i z))) 0 0 (gA (kw_al α ad an n)) := by
  refine Met.ofW (cc := b_K_ask) (maxL := 3) (ret := none) (by decide) rfl ?_
  intro p e s m args below meth c s₁ B hml hv
  obtain ⟨rfl, hP, hK, hD⟩ := hv
  have hx := B.exec
  have hb := B.bytes
  have hr := B.returns
  have hts : ∀ w ∈ kT, w.before [.ref (α 0), .ref (ad i), .int (nI z)].toArray s = true := fun w h => atoms_spec (ws := w_K_ask) B.pre w (List.mem_cons_of_mem _ h)
  have hown : s.vm.findClass R_K = some m.cls := findClass_of_methodNamed B.named
  have hlocks := B.notSynchronized
  have hD : va_D (gA (kw_al α ad an n)) (kw_w cI cQ α ad an n σ) := gD kw_adr hD
  have hS : va_S (gA (kw_al α ad an n)) s.heap s.heap [] := va_S.rf
  have hl := lv_entry ([.ref (α 0), .ref (ad i), .int (nI z)]) (n := 3) (Nat.le_of_ble_eq_true rfl)
  rw [lg_entry_eq]
  generalize (lg_sl ([.ref (α 0), .ref (ad i), .int (nI z)]) ++ List.replicate (3 - (lg_sl ([.ref (α 0), .ref (ad i), .int (nI z)])).length) Slot.unset).toArray = ls at hl ⊢
  have hl : lv_has ls 3 [(0, .ref (α 0)), (1, .ref (ad i)), (2, .int (nI z))] := hl
  refine lv_aload_n hx hb d_K_ask_0 rfl (lv_at hl 0 rfl) ?_
  refine kw_get hx hb hts hown hK hP 2 (by decide) fl_K_19 (v := .ref (α 2)) rfl d_K_ask_1 ?_
  refine lv_iload_n hx hb d_K_ask_4 rfl (lv_at hl 2 rfl) ?_
  refine kw_ald hx hb hK hP 0 (by decide) (j := z) rfl hz d_K_ask_5 ?_
  refine lv_iconst (v := (-1)) hx hb d_K_ask_6 (by decide) ?_
  refine lv_icmp_ne (tgt := 17) hx hb d_K_ask_7 (by decide) (fun c_7 => ?_) (fun c_7 => ?_)
  · -- to 17
    refine lv_aload_n hx hb d_K_ask_17 rfl (lv_at hl 1 rfl) ?_
    refine lv_iload_n hx hb d_K_ask_18 rfl (lv_at hl 2 rfl) ?_
    refine kw_dput hx hb hts hown hK hP hD hS hi 6 (by decide) fl_K_120 rfl rfl rfl d_K_ask_19 (fun H locs hP hD hS => ?_)
    obtain ⟨σ1, e_σ1⟩ : ∃ ζ, ζ = k_d σ i 6 (nI z) := ⟨_, rfl⟩
    rw [← e_σ1] at hP hD
    have hI : k_ok n σ1.1 := by rw [e_σ1]; exact hI
    refine lv_aload_n hx hb d_K_ask_22 rfl (lv_at hl 1 rfl) ?_
    refine lv_aload_n hx hb d_K_ask_23 rfl (lv_at hl 0 rfl) ?_
    refine kw_get hx hb hts hown hK hP 4 (by decide) fl_K_26 (v := .int (σ1.1 4)) rfl d_K_ask_24 ?_
    refine kw_dput hx hb hts hown hK hP hD hS hi 7 (by decide) fl_K_188 rfl rfl rfl d_K_ask_27 (fun H locs hP hD hS => ?_)
    obtain ⟨σ2, e_σ2⟩ : ∃ ζ, ζ = k_d σ1 i 7 (σ1.1 4) := ⟨_, rfl⟩
    rw [← e_σ2] at hP hD
    have hI : k_ok n σ2.1 := by rw [e_σ2]; exact hI
    refine lv_aload_n hx hb d_K_ask_30 rfl (lv_at hl 0 rfl) ?_
    refine lv_dup hx hb d_K_ask_31 rfl ?_
    refine kw_get hx hb hts hown hK hP 4 (by decide) fl_K_26 (v := .int (σ2.1 4)) rfl d_K_ask_32 ?_
    refine lv_iconst (v := 1) hx hb d_K_ask_35 (by decide) ?_
    refine lv_iadd hx hb d_K_ask_36 ?_
    refine kw_put hx hb hts hown hK hP hD hS 4 (by decide) fl_K_26 rfl rfl rfl d_K_ask_37 (fun H locs hP hD hS => ?_)
    obtain ⟨σ3, e_σ3⟩ : ∃ ζ, ζ = k_f σ2 4 ((σ2.1 4) + 1) := ⟨_, rfl⟩
    rw [← e_σ3] at hP hD
    have hI : k_ok n σ3.1 := by rw [e_σ3]; exact (k_ok_f hI (by decide))
    exact g_retv hx hb hr hlocks (by rw [kd_ask, if_neg c_7, e_σ3, e_σ2, e_σ1]) hP hS d_K_ask_40
  · -- on 10
    refine lv_aload_n hx hb d_K_ask_10 rfl (lv_at hl 0 rfl) ?_
    refine lv_aload_n hx hb d_K_ask_11 rfl (lv_at hl 1 rfl) ?_
    refine lv_iload_n hx hb d_K_ask_12 rfl (lv_at hl 2 rfl) ?_
    refine g_callv (va_runV (As := [.ref (ad i), .int (nI z)]) (rest := []) ⟨hx, hb, hml, hown, hts⟩ (ct_K_take l D cI cQ α ad an n σ hI i hi z hz) (cwV 2 hts gd_K_185 rfl rfl rfl (by decide +kernel) ⟨Nat.le_of_ble_eq_true rfl, Nat.le_of_ble_eq_true rfl⟩) (g_preV hK hP hD (ci := 0) (q0 := 0) rfl kw_0) rfl rfl hl.1 rfl (lv_room (Nat.le_of_ble_eq_true rfl)) d_K_ask_13 ⟨Nat.le_refl _, Nat.le_refl _⟩) hD hS (kw_addr _) (fun H locs hP hD hS => ?_)
    obtain ⟨σ4, e_σ4⟩ : ∃ ζ, ζ = kd_take σ i z := ⟨_, rfl⟩
    rw [← e_σ4] at hP hD
    have hI : k_ok n σ4.1 := by rw [e_σ4]; exact hI
    exact g_retv hx hb hr hlocks (by rw [kd_ask, if_pos c_7, e_σ4]) hP hS d_K_ask_16

set_option maxHeartbeats 4000000 in
set_option maxRecDepth 100000 in
theorem ct_K_giveBack (l : Launch) (D : va_G) (cI cQ : ClassId) (α ad an : Nat → Nat) (n : Nat) (σ : kS) (hI : k_ok n σ.1) (z : Nat) (hz : z < 16) : Met l y_K_giveBack w_K_giveBack { frames := 2, cells := 0, slots := 0, locals := 48 } (gPc D (kty cI cQ) (kw_w cI cQ α ad an n σ) [.ref (α 0), .int (nI z)]) (gQv D (kw_al α ad an n) (kw_w cI cQ α ad an n (kd_gb n σ z))) 0 0 (gA (kw_al α ad an n)) := by
  refine Met.ofW (cc := b_K_giveBack) (maxL := 3) (ret := none) (by decide) rfl ?_
  intro p e s m args below meth c s₁ B hml hv
  obtain ⟨rfl, hP, hK, hD⟩ := hv
  have hx := B.exec
  have hb := B.bytes
  have hr := B.returns
  have hts : ∀ w ∈ kT, w.before [.ref (α 0), .int (nI z)].toArray s = true := fun w h => atoms_spec (ws := w_K_giveBack) B.pre w (List.mem_cons_of_mem _ h)
  have hown : s.vm.findClass R_K = some m.cls := findClass_of_methodNamed B.named
  have hlocks := B.notSynchronized
  have hD : va_D (gA (kw_al α ad an n)) (kw_w cI cQ α ad an n σ) := gD kw_adr hD
  have hS : va_S (gA (kw_al α ad an n)) s.heap s.heap [] := va_S.rf
  have hl := lv_entry ([.ref (α 0), .int (nI z)]) (n := 3) (Nat.le_of_ble_eq_true rfl)
  rw [lg_entry_eq]
  generalize (lg_sl ([.ref (α 0), .int (nI z)]) ++ List.replicate (3 - (lg_sl ([.ref (α 0), .int (nI z)])).length) Slot.unset).toArray = ls at hl ⊢
  have hl : lv_has ls 3 [(0, .ref (α 0)), (1, .int (nI z))] := hl
  refine lv_aload_n hx hb d_K_giveBack_0 rfl (lv_at hl 0 rfl) ?_
  refine kw_get hx hb hts hown hK hP 2 (by decide) fl_K_19 (v := .ref (α 2)) rfl d_K_giveBack_1 ?_
  refine lv_iload_n hx hb d_K_giveBack_4 rfl (lv_at hl 1 rfl) ?_
  refine lv_iconst (v := (-1)) hx hb d_K_giveBack_5 (by decide) ?_
  refine kw_ast hx hb hK hP hD hS 0 (by decide) (j := z) rfl hz d_K_giveBack_6 (fun H locs hP hD hS => ?_)
  obtain ⟨σ1, e_σ1⟩ : ∃ ζ, ζ = k_a σ 0 z (-1) := ⟨_, rfl⟩
  rw [← e_σ1] at hP hD
  have hI : k_ok n σ1.1 := by rw [e_σ1]; exact hI
  refine lv_aload_n hx hb d_K_giveBack_7 rfl (lv_at hl 0 rfl) ?_
  refine lv_iload_n hx hb d_K_giveBack_8 rfl (lv_at hl 1 rfl) ?_
  refine lv_iconst (v := 0) hx hb d_K_giveBack_9 (by decide) ?_
  refine r_callq (W.runV (As := [.int (nI z), .int 0]) (rest := []) ⟨hx, hb, hml, hown, hts⟩ (ct_K_waiterFor l D cI cQ α ad an n σ1 hI (nI z) 0) (cwV 2 hts gd_K_113 rfl rfl rfl (by decide +kernel) ⟨Nat.le_of_ble_eq_true rfl, Nat.le_of_ble_eq_true rfl⟩) (g_preV hK hP hD (ci := 0) (q0 := 0) rfl kw_0) rfl rfl hl.1 rfl (lv_room (Nat.le_of_ble_eq_true rfl)) d_K_giveBack_10 ⟨Nat.le_refl _, Nat.le_refl _⟩) ?_
  rcases q_10 : kd_wfp σ1 n (nI z) 0 n with _ | i1
  · -- nobody
    refine W.eq (g2 := F0 m 13 ls [.null]) rfl ?_
    refine lv_astore_nN (lv' := [(2, .null), (0, .ref (α 0)), (1, .int (nI z))]) hx hb d_K_giveBack_13 rfl hl (by decide) rfl (fun ls hl => ?_)
    refine lv_aload_nN hx hb d_K_giveBack_14 rfl (lv_at hl 0 rfl) ?_
    refine lv_ifnullN (tgt := 24) hx hb d_K_giveBack_15 (by decide) ?_
    rw [e_σ1] at q_10
    exact g_retv hx hb hr hlocks (by simp only [kd_gb]; rw [q_10, e_σ1]) hP hS d_K_giveBack_24
  · -- i1
    have hi1 : i1 < n := kd_wfp_lt q_10
    refine W.eq (g2 := F0 m 13 ls [.ref (ad i1)]) rfl ?_
    refine lv_astore_n (lv' := [(2, .ref (ad i1)), (0, .ref (α 0)), (1, .int (nI z))]) hx hb d_K_giveBack_13 rfl hl (by decide) rfl (fun ls hl => ?_)
    refine lv_aload_n hx hb d_K_giveBack_14 rfl (lv_at hl 0 rfl) ?_
    refine lv_ifnull hx hb d_K_giveBack_15 ?_
    refine lv_aload_n hx hb d_K_giveBack_18 rfl (lv_at hl 1 rfl) ?_
    refine lv_aload_n hx hb d_K_giveBack_19 rfl (lv_at hl 0 rfl) ?_
    refine lv_iload_n hx hb d_K_giveBack_20 rfl (lv_at hl 2 rfl) ?_
    refine g_callv (va_runV (As := [.ref (ad i1), .int (nI z)]) (rest := []) ⟨hx, hb, hml, hown, hts⟩ (ct_K_take l D cI cQ α ad an n σ1 hI i1 hi1 z hz) (cwV 2 hts gd_K_185 rfl rfl rfl (by decide +kernel) ⟨Nat.le_of_ble_eq_true rfl, Nat.le_of_ble_eq_true rfl⟩) (g_preV hK hP hD (ci := 0) (q0 := 0) rfl kw_0) rfl rfl hl.1 rfl (lv_room (Nat.le_of_ble_eq_true rfl)) d_K_giveBack_21 ⟨Nat.le_refl _, Nat.le_refl _⟩) hD hS (kw_addr _) (fun H locs hP hD hS => ?_)
    obtain ⟨σ2, e_σ2⟩ : ∃ ζ, ζ = kd_take σ1 i1 z := ⟨_, rfl⟩
    rw [← e_σ2] at hP hD
    have hI : k_ok n σ2.1 := by rw [e_σ2]; exact hI
    rw [e_σ1] at q_10
    exact g_retv hx hb hr hlocks (by simp only [kd_gb]; rw [q_10, e_σ2, e_σ1]) hP hS d_K_giveBack_24

set_option maxHeartbeats 4000000 in
set_option maxRecDepth 100000 in
theorem ct_K_giveBackAll (l : Launch) (D : va_G) (cI cQ : ClassId) (α ad an : Nat → Nat) (n : Nat) (σ : kS) (hI : k_ok n σ.1) (i : Nat) (hi : i < n) : Met l y_K_giveBackAll w_K_giveBackAll { frames := 3, cells := 0, slots := 0, locals := 70 } (gPc D (kty cI cQ) (kw_w cI cQ α ad an n σ) [.ref (α 0), .ref (ad i)]) (gQv D (kw_al α ad an n) (kw_w cI cQ α ad an n (kd_gba n σ i 16))) 0 0 (gA (kw_al α ad an n)) := by
  refine Met.ofW (cc := b_K_giveBackAll) (maxL := 3) (ret := none) (by decide) rfl ?_
  intro p e s m args below meth c s₁ B hml hv
  obtain ⟨rfl, hP, hK, hD⟩ := hv
  have hx := B.exec
  have hb := B.bytes
  have hr := B.returns
  have hts : ∀ w ∈ kT, w.before [.ref (α 0), .ref (ad i)].toArray s = true := fun w h => atoms_spec (ws := w_K_giveBackAll) B.pre w (List.mem_cons_of_mem _ h)
  have hown : s.vm.findClass R_K = some m.cls := findClass_of_methodNamed B.named
  have hlocks := B.notSynchronized
  have hD : va_D (gA (kw_al α ad an n)) (kw_w cI cQ α ad an n σ) := gD kw_adr hD
  have hS : va_S (gA (kw_al α ad an n)) s.heap s.heap [] := va_S.rf
  have hl := lv_entry ([.ref (α 0), .ref (ad i)]) (n := 3) (Nat.le_of_ble_eq_true rfl)
  rw [lg_entry_eq]
  generalize (lg_sl ([.ref (α 0), .ref (ad i)]) ++ List.replicate (3 - (lg_sl ([.ref (α 0), .ref (ad i)])).length) Slot.unset).toArray = ls at hl ⊢
  have hl : lv_has ls 3 [(0, .ref (α 0)), (1, .ref (ad i))] := hl
  refine lv_iconst (v := 0) hx hb d_K_giveBackAll_0 (by decide) ?_
  refine lv_istore_n (lv' := [(2, .int 0), (0, .ref (α 0)), (1, .ref (ad i))]) hx hb d_K_giveBackAll_1 rfl hl (by decide) rfl (fun ls hl => ?_)
  have lp2 : ∀ (fu j : Nat) (ς : kS) (H : Heap) (locs : List Loc) (ls : Array Slot), j ≤ 16 → 16 - j < fu → ς = kd_gba n σ i j → va_P D kcl (kw_w cI cQ α ad an n ς) H → va_D (gA (kw_al α ad an n)) (kw_w cI cQ α ad an n ς) → va_S (gA (kw_al α ad an n)) s.heap H locs → lv_has ls 3 [(2, .int (nI j)), (0, .ref (α 0)), (1, .ref (ad i))] → W p l e (headSpec w_K_giveBackAll { frames := 3, cells := 0, slots := 0, locals := 70 }).room s m [.ref (α 0), .ref (ad i)].toArray below meth c H locs 0 0 (MQ below (gQv D (kw_al α ad an n) (kw_w cI cQ α ad an n (kd_gba n σ i 16))) [.ref (α 0), .ref (ad i)].toArray s 0 0 (gA (kw_al α ad an n))) (F0 m 2 ls []) := by
    intro fu
    induction fu with
    | zero => intro j  ς H locs ls h1 h2; omega
    | succ fu ih =>
      intro j  ς H locs ls hj2 hf2   e_ς hP hD hS hl
      have hI : k_ok n ς.1 := by rw [e_ς, kd_gba_1]; exact hI
      refine lv_iload_n hx hb d_K_giveBackAll_2 rfl (lv_at hl 0 rfl) ?_
      refine lv_bipush (v := 16) hx hb d_K_giveBackAll_3 (by decide) ?_
      refine lv_icmp_ge (tgt := 32) hx hb d_K_giveBackAll_5 (by decide) (fun c_5 => ?_) (fun c_5 => ?_)
      · -- to 32
        have hx2 : j = 16 := lp_eq (B := 16) (hn := (by decide)) c_5 hj2
        subst hx2
        exact g_retv hx hb hr hlocks (by rw [e_ς]) hP hS d_K_giveBackAll_32
      · -- on 8
        have hl2 : j < 16 := lp_lt (B := 16) (hn := (by decide)) c_5 hj2
        refine lv_aload_n hx hb d_K_giveBackAll_8 rfl (lv_at hl 1 rfl) ?_
        refine kw_get hx hb hts hown hK hP 2 (by decide) fl_K_19 (v := .ref (α 2)) rfl d_K_giveBackAll_9 ?_
        refine lv_iload_n hx hb d_K_giveBackAll_12 rfl (lv_at hl 0 rfl) ?_
        refine kw_ald hx hb hK hP 0 (by decide) (j := j) rfl hl2 d_K_giveBackAll_13 ?_
        refine lv_aload_n hx hb d_K_giveBackAll_14 rfl (lv_at hl 2 rfl) ?_
        refine kw_dget hx hb hts hown hK hP hi 0 (by decide) fl_K_117 (v := .int (ς.2.2.1 i 0)) rfl d_K_giveBackAll_15 ?_
        refine lv_icmp_ne (tgt := 26) hx hb d_K_giveBackAll_18 (by decide) (fun c_18 => ?_) (fun c_18 => ?_)
        · -- to 26
          refine lv_iinc (v := nI (j + 1)) (lv' := [(2, .int (nI (j + 1))), (0, .ref (α 0)), (1, .ref (ad i))]) hx hb d_K_giveBackAll_26 hl (k := 0) rfl (nI_1 j) (by decide) rfl (fun ls hl => ?_)
          refine lv_goto (tgt := 2) hx hb d_K_giveBackAll_29 (by decide) ?_
          exact ih (j + 1)  _ _ _ ls (by omega) (by omega)  (by rw [kd_gba, ← e_ς, if_neg c_18]) hP hD hS (lv_sub hl [0, 1, 2] rfl)
        · -- on 21
          refine lv_aload_n hx hb d_K_giveBackAll_21 rfl (lv_at hl 1 rfl) ?_
          refine lv_iload_n hx hb d_K_giveBackAll_22 rfl (lv_at hl 0 rfl) ?_
          refine g_callv (va_runV (As := [.int (nI j)]) (rest := []) ⟨hx, hb, hml, hown, hts⟩ (ct_K_giveBack l D cI cQ α ad an n ς hI j hl2) (cwV 1 hts gd_K_153 rfl rfl rfl (by decide +kernel) ⟨Nat.le_of_ble_eq_true rfl, Nat.le_of_ble_eq_true rfl⟩) (g_preV hK hP hD (ci := 0) (q0 := 0) rfl kw_0) rfl rfl hl.1 rfl (lv_room (Nat.le_of_ble_eq_true rfl)) d_K_giveBackAll_23 ⟨Nat.le_refl _, Nat.le_refl _⟩) hD hS (kw_addr _) (fun H locs hP hD hS => ?_)
          obtain ⟨σ1, e_σ1⟩ : ∃ ζ, ζ = kd_gb n ς j := ⟨_, rfl⟩
          rw [← e_σ1] at hP hD
          have hI : k_ok n σ1.1 := by rw [e_σ1]; exact (by rw [kd_gb_1]; exact hI)
          refine lv_iinc (v := nI (j + 1)) (lv' := [(2, .int (nI (j + 1))), (0, .ref (α 0)), (1, .ref (ad i))]) hx hb d_K_giveBackAll_26 hl (k := 0) rfl (nI_1 j) (by decide) rfl (fun ls hl => ?_)
          refine lv_goto (tgt := 2) hx hb d_K_giveBackAll_29 (by decide) ?_
          exact ih (j + 1)  _ _ _ ls (by omega) (by omega)  (by rw [e_σ1, kd_gba, ← e_ς, if_pos c_18]) hP hD hS (lv_sub hl [0, 1, 2] rfl)
  exact lp2 (16 - 0 + 1) 0  _ _ _ ls (by omega) (by omega)   rfl hP hD hS (lv_sub hl [0, 1, 2] rfl)

set_option maxHeartbeats 4000000 in
set_option maxRecDepth 100000 in
theorem ct_K_tell (l : Launch) (D : va_G) (cI cQ : ClassId) (α ad an : Nat → Nat) (n : Nat) (σ : kS) (hI : k_ok n σ.1) (x : Int32) (i : Nat) (hi : i < n) : Met l y_K_tell w_K_tell { frames := 0, cells := 0, slots := 0, locals := 0 } (gPc D (kty cI cQ) (kw_w cI cQ α ad an n σ) [.ref (α 0), .int x, .ref (ad i)]) (gQv D (kw_al α ad an n) (kw_w cI cQ α ad an n (kd_tell σ x i))) 0 0 (gA (kw_al α ad an n)) := by
  refine Met.ofW (cc := b_K_tell) (maxL := 3) (ret := none) (by decide) rfl ?_
  intro p e s m args below meth c s₁ B hml hv
  obtain ⟨rfl, hP, hK, hD⟩ := hv
  have hx := B.exec
  have hb := B.bytes
  have hr := B.returns
  have hts : ∀ w ∈ kT, w.before [.ref (α 0), .int x, .ref (ad i)].toArray s = true := fun w h => atoms_spec (ws := w_K_tell) B.pre w (List.mem_cons_of_mem _ h)
  have hown : s.vm.findClass R_K = some m.cls := findClass_of_methodNamed B.named
  have hlocks := B.notSynchronized
  have hD : va_D (gA (kw_al α ad an n)) (kw_w cI cQ α ad an n σ) := gD kw_adr hD
  have hS : va_S (gA (kw_al α ad an n)) s.heap s.heap [] := va_S.rf
  have hl := lv_entry ([.ref (α 0), .int x, .ref (ad i)]) (n := 3) (Nat.le_of_ble_eq_true rfl)
  rw [lg_entry_eq]
  generalize (lg_sl ([.ref (α 0), .int x, .ref (ad i)]) ++ List.replicate (3 - (lg_sl ([.ref (α 0), .int x, .ref (ad i)])).length) Slot.unset).toArray = ls at hl ⊢
  have hl : lv_has ls 3 [(0, .ref (α 0)), (1, .int x), (2, .ref (ad i))] := hl
  refine lv_aload_n hx hb d_K_tell_0 rfl (lv_at hl 0 rfl) ?_
  refine kw_get hx hb hts hown hK hP 10 (by decide) fl_K_44 (v := .int (σ.1 10)) rfl d_K_tell_1 ?_
  refine lv_aload_n hx hb d_K_tell_4 rfl (lv_at hl 0 rfl) ?_
  refine kw_get hx hb hts hown hK hP 9 (by decide) fl_K_41 (v := .ref (α 5)) rfl d_K_tell_5 ?_
  refine kw_alen hx hb hK hP 3 (by decide) (v := 400) rfl d_K_tell_8 ?_
  refine lv_icmp_ge (tgt := 49) hx hb d_K_tell_9 (by decide) (fun c_9 => ?_) (fun c_9 => ?_)
  · -- to 49
    exact g_retv hx hb hr hlocks (by rw [kd_tell, if_pos c_9]) hP hS d_K_tell_49
  · -- on 12
    refine lv_aload_n hx hb d_K_tell_12 rfl (lv_at hl 0 rfl) ?_
    refine kw_get hx hb hts hown hK hP 9 (by decide) fl_K_41 (v := .ref (α 5)) rfl d_K_tell_13 ?_
    refine lv_aload_n hx hb d_K_tell_16 rfl (lv_at hl 0 rfl) ?_
    refine kw_get hx hb hts hown hK hP 10 (by decide) fl_K_44 (v := .int (σ.1 10)) rfl d_K_tell_17 ?_
    refine lv_sipush (v := 1000) hx hb d_K_tell_20 (by decide) ?_
    refine lv_iload_n hx hb d_K_tell_23 rfl (lv_at hl 1 rfl) ?_
    refine lv_imul hx hb d_K_tell_24 ?_
    refine lv_bipush (v := 100) hx hb d_K_tell_25 (by decide) ?_
    refine lv_aload_n hx hb d_K_tell_27 rfl (lv_at hl 2 rfl) ?_
    refine kw_dget hx hb hts hown hK hP hi 0 (by decide) fl_K_117 (v := .int (σ.2.2.1 i 0)) rfl d_K_tell_28 ?_
    refine lv_imul hx hb d_K_tell_31 ?_
    refine lv_iadd hx hb d_K_tell_32 ?_
    refine lv_aload_n hx hb d_K_tell_33 rfl (lv_at hl 2 rfl) ?_
    refine kw_dget hx hb hts hown hK hP hi 4 (by decide) fl_K_92 (v := .int (σ.2.2.1 i 4)) rfl d_K_tell_34 ?_
    refine lv_iadd hx hb d_K_tell_37 ?_
    refine kw_ast hx hb hK hP hD hS 3 (by decide) (j := (σ.1 10).toNatClampNeg) (ix_e (k_ok_e0 hI)) (ix_l (B := 400) (k_ok_e0 hI) c_9) d_K_tell_38 (fun H locs hP hD hS => ?_)
    obtain ⟨σ1, e_σ1⟩ : ∃ ζ, ζ = k_a σ 3 ((σ.1 10).toNatClampNeg) (((1000 * x) + (100 * (σ.2.2.1 i 0))) + (σ.2.2.1 i 4)) := ⟨_, rfl⟩
    rw [← e_σ1] at hP hD
    have hI : k_ok n σ1.1 := by rw [e_σ1]; exact hI
    refine lv_aload_n hx hb d_K_tell_39 rfl (lv_at hl 0 rfl) ?_
    refine lv_dup hx hb d_K_tell_40 rfl ?_
    refine kw_get hx hb hts hown hK hP 10 (by decide) fl_K_44 (v := .int (σ1.1 10)) rfl d_K_tell_41 ?_
    refine lv_iconst (v := 1) hx hb d_K_tell_44 (by decide) ?_
    refine lv_iadd hx hb d_K_tell_45 ?_
    refine kw_put hx hb hts hown hK hP hD hS 10 (by decide) fl_K_44 rfl rfl rfl d_K_tell_46 (fun H locs hP hD hS => ?_)
    obtain ⟨σ2, e_σ2⟩ : ∃ ζ, ζ = k_f σ1 10 ((σ1.1 10) + 1) := ⟨_, rfl⟩
    rw [← e_σ2] at hP hD
    exact g_retv hx hb hr hlocks (by rw [kd_tell, if_neg c_9, e_σ2, e_σ1]) hP hS d_K_tell_49
end
section
set_option maxHeartbeats 4000000 in
set_option maxRecDepth 100000 in
theorem ct_K_doOrUndo (l : Launch) (D : va_G) (cI cQ : ClassId) (α ad an : Nat → Nat) (n : Nat) (σ : kS) (hI : k_ok n σ.1) (i : Nat) (hi : i < n) : Met l y_K_doOrUndo w_K_doOrUndo { frames := 4, cells := 0, slots := 0, locals := 92 } (gPc D (kty cI cQ) (kw_w cI cQ α ad an n σ) [.ref (α 0), .ref (ad i)]) (gQi D (kw_al α ad an n) ((kd_do n σ i).1) (kw_w cI cQ α ad an n ((kd_do n σ i).2))) 0 0 (gA (kw_al α ad an n)) := by
  refine Met.ofW (cc := b_K_doOrUndo) (maxL := 3) (ret := some .boolean) (by decide) rfl ?_
  intro p e s m args below meth c s₁ B hml hv
  obtain ⟨rfl, hP, hK, hD⟩ := hv
  have hx := B.exec
  have hb := B.bytes
  have hr := B.returns
  have hts : ∀ w ∈ kT, w.before [.ref (α 0), .ref (ad i)].toArray s = true := fun w h => atoms_spec (ws := w_K_doOrUndo) B.pre w (List.mem_cons_of_mem _ h)
  have hown : s.vm.findClass R_K = some m.cls := findClass_of_methodNamed B.named
  have hlocks := B.notSynchronized
  have hD : va_D (gA (kw_al α ad an n)) (kw_w cI cQ α ad an n σ) := gD kw_adr hD
  have hS : va_S (gA (kw_al α ad an n)) s.heap s.heap [] := va_S.rf
  have hl := lv_entry ([.ref (α 0), .ref (ad i)]) (n := 3) (Nat.le_of_ble_eq_true rfl)
  rw [lg_entry_eq]
  generalize (lg_sl ([.ref (α 0), .ref (ad i)]) ++ List.replicate (3 - (lg_sl ([.ref (α 0), .ref (ad i)])).length) Slot.unset).toArray = ls at hl ⊢
  have hl : lv_has ls 3 [(0, .ref (α 0)), (1, .ref (ad i))] := hl
  refine lv_aload_n hx hb d_K_doOrUndo_0 rfl (lv_at hl 1 rfl) ?_
  refine kw_dget hx hb hts hown hK hP hi 4 (by decide) fl_K_92 (v := .int (σ.2.2.1 i 4)) rfl d_K_doOrUndo_1 ?_
  refine lv_aload_n hx hb d_K_doOrUndo_4 rfl (lv_at hl 1 rfl) ?_
  refine kw_dget hx hb hts hown hK hP hi 3 (by decide) fl_K_191 (v := .int (σ.2.2.1 i 3)) rfl d_K_doOrUndo_5 ?_
  refine lv_icmp_ne (tgt := 15) hx hb d_K_doOrUndo_8 (by decide) (fun c_8 => ?_) (fun c_8 => ?_)
  · -- to 15
    refine lv_iconst (v := 0) hx hb d_K_doOrUndo_15 (by decide) ?_
    refine lv_istore_n (lv' := [(2, .int 0), (0, .ref (α 0)), (1, .ref (ad i))]) hx hb d_K_doOrUndo_16 rfl hl (by decide) rfl (fun ls hl => ?_)
    refine lv_aload_n hx hb d_K_doOrUndo_17 rfl (lv_at hl 1 rfl) ?_
    refine lv_iload_n hx hb d_K_doOrUndo_18 rfl (lv_at hl 0 rfl) ?_
    refine lv_if_eq (tgt := 26) hx hb d_K_doOrUndo_19 (by decide) (fun c_19 => ?_) (fun c_19 => ?_)
    · -- to 26
      refine lv_iconst (v := 1) hx hb d_K_doOrUndo_26 (by decide) ?_
      refine lv_aload_n hx hb d_K_doOrUndo_27 rfl (lv_at hl 2 rfl) ?_
      refine g_callv (va_runV (As := [.int 1, .ref (ad i)]) (rest := []) ⟨hx, hb, hml, hown, hts⟩ (ct_K_tell l D cI cQ α ad an n σ hI 1 i hi) (cwV 2 hts gd_K_127 rfl rfl rfl (by decide +kernel) ⟨Nat.le_of_ble_eq_true rfl, Nat.le_of_ble_eq_true rfl⟩) (g_preV hK hP hD (ci := 0) (q0 := 0) rfl kw_0) rfl rfl hl.1 rfl (lv_room (Nat.le_of_ble_eq_true rfl)) d_K_doOrUndo_28 ⟨Nat.le_refl _, Nat.le_refl _⟩) hD hS (kw_addr _) (fun H locs hP hD hS => ?_)
      obtain ⟨σ1, e_σ1⟩ : ∃ ζ, ζ = kd_tell σ 1 i := ⟨_, rfl⟩
      rw [← e_σ1] at hP hD
      have hI : k_ok n σ1.1 := by rw [e_σ1]; exact (k_ok_tell hI)
      refine lv_aload_n hx hb d_K_doOrUndo_31 rfl (lv_at hl 1 rfl) ?_
      refine lv_aload_n hx hb d_K_doOrUndo_32 rfl (lv_at hl 2 rfl) ?_
      refine g_callv (va_runV (As := [.ref (ad i)]) (rest := []) ⟨hx, hb, hml, hown, hts⟩ (ct_K_giveBackAll l D cI cQ α ad an n σ1 hI i hi) (cwV 1 hts gd_K_123 rfl rfl rfl (by decide +kernel) ⟨Nat.le_of_ble_eq_true rfl, Nat.le_of_ble_eq_true rfl⟩) (g_preV hK hP hD (ci := 0) (q0 := 0) rfl kw_0) rfl rfl hl.1 rfl (lv_room (Nat.le_of_ble_eq_true rfl)) d_K_doOrUndo_33 ⟨Nat.le_refl _, Nat.le_refl _⟩) hD hS (kw_addr _) (fun H locs hP hD hS => ?_)
      obtain ⟨σ2, e_σ2⟩ : ∃ ζ, ζ = kd_gba n σ1 i 16 := ⟨_, rfl⟩
      rw [← e_σ2] at hP hD
      have hI : k_ok n σ2.1 := by rw [e_σ2]; exact (by rw [kd_gba_1]; exact hI)
      refine lv_iload_n hx hb d_K_doOrUndo_36 rfl (lv_at hl 0 rfl) ?_
      refine lv_if_eq (tgt := 47) hx hb d_K_doOrUndo_37 (by decide) (fun c_37 => ?_) (fun c_37 => ?_)
      · -- to 47
        refine lv_aload_n hx hb d_K_doOrUndo_47 rfl (lv_at hl 2 rfl) ?_
        refine lv_dup hx hb d_K_doOrUndo_48 rfl ?_
        refine kw_dget hx hb hts hown hK hP hi 4 (by decide) fl_K_92 (v := .int (σ2.2.2.1 i 4)) rfl d_K_doOrUndo_49 ?_
        refine lv_iconst (v := 1) hx hb d_K_doOrUndo_52 (by decide) ?_
        refine lv_iadd hx hb d_K_doOrUndo_53 ?_
        refine kw_dput hx hb hts hown hK hP hD hS hi 4 (by decide) fl_K_92 rfl rfl rfl d_K_doOrUndo_54 (fun H locs hP hD hS => ?_)
        obtain ⟨σ3, e_σ3⟩ : ∃ ζ, ζ = k_d σ2 i 4 ((σ2.2.2.1 i 4) + 1) := ⟨_, rfl⟩
        rw [← e_σ3] at hP hD
        have hI : k_ok n σ3.1 := by rw [e_σ3]; exact hI
        refine lv_aload_n hx hb d_K_doOrUndo_57 rfl (lv_at hl 2 rfl) ?_
        refine lv_dup hx hb d_K_doOrUndo_58 rfl ?_
        refine kw_dget hx hb hts hown hK hP hi 5 (by decide) fl_K_167 (v := .int (σ3.2.2.1 i 5)) rfl d_K_doOrUndo_59 ?_
        refine lv_iconst (v := 1) hx hb d_K_doOrUndo_62 (by decide) ?_
        refine lv_iadd hx hb d_K_doOrUndo_63 ?_
        refine kw_dput hx hb hts hown hK hP hD hS hi 5 (by decide) fl_K_167 rfl rfl rfl d_K_doOrUndo_64 (fun H locs hP hD hS => ?_)
        obtain ⟨σ4, e_σ4⟩ : ∃ ζ, ζ = k_d σ3 i 5 ((σ3.2.2.1 i 5) + 1) := ⟨_, rfl⟩
        rw [← e_σ4] at hP hD
        have hI : k_ok n σ4.1 := by rw [e_σ4]; exact hI
        refine lv_iconst (v := 1) hx hb d_K_doOrUndo_67 (by decide) ?_
        exact g_retz hx hb hr hlocks (by decide) (by rw [kd_do, if_neg c_8]) (by rw [kd_do, if_neg c_8, e_σ4, e_σ3, e_σ2, e_σ1]) hP hS d_K_doOrUndo_68
      · -- on 40
        exact absurd c_37 (by decide)
    · -- on 22
      exact absurd c_19 (by decide)
  · -- on 11
    refine lv_iconst (v := 1) hx hb d_K_doOrUndo_11 (by decide) ?_
    refine lv_goto (tgt := 16) hx hb d_K_doOrUndo_12 (by decide) ?_
    refine lv_istore_n (lv' := [(2, .int 1), (0, .ref (α 0)), (1, .ref (ad i))]) hx hb d_K_doOrUndo_16 rfl hl (by decide) rfl (fun ls hl => ?_)
    refine lv_aload_n hx hb d_K_doOrUndo_17 rfl (lv_at hl 1 rfl) ?_
    refine lv_iload_n hx hb d_K_doOrUndo_18 rfl (lv_at hl 0 rfl) ?_
    refine lv_if_eq (tgt := 26) hx hb d_K_doOrUndo_19 (by decide) (fun c_19 => ?_) (fun c_19 => ?_)
    · -- to 26
      exact absurd c_19 (by decide)
    · -- on 22
      refine lv_iconst (v := 2) hx hb d_K_doOrUndo_22 (by decide) ?_
      refine lv_goto (tgt := 27) hx hb d_K_doOrUndo_23 (by decide) ?_
      refine lv_aload_n hx hb d_K_doOrUndo_27 rfl (lv_at hl 2 rfl) ?_
      refine g_callv (va_runV (As := [.int 2, .ref (ad i)]) (rest := []) ⟨hx, hb, hml, hown, hts⟩ (ct_K_tell l D cI cQ α ad an n σ hI 2 i hi) (cwV 2 hts gd_K_127 rfl rfl rfl (by decide +kernel) ⟨Nat.le_of_ble_eq_true rfl, Nat.le_of_ble_eq_true rfl⟩) (g_preV hK hP hD (ci := 0) (q0 := 0) rfl kw_0) rfl rfl hl.1 rfl (lv_room (Nat.le_of_ble_eq_true rfl)) d_K_doOrUndo_28 ⟨Nat.le_refl _, Nat.le_refl _⟩) hD hS (kw_addr _) (fun H locs hP hD hS => ?_)
      obtain ⟨σ5, e_σ5⟩ : ∃ ζ, ζ = kd_tell σ 2 i := ⟨_, rfl⟩
      rw [← e_σ5] at hP hD
      have hI : k_ok n σ5.1 := by rw [e_σ5]; exact (k_ok_tell hI)
      refine lv_aload_n hx hb d_K_doOrUndo_31 rfl (lv_at hl 1 rfl) ?_
      refine lv_aload_n hx hb d_K_doOrUndo_32 rfl (lv_at hl 2 rfl) ?_
      refine g_callv (va_runV (As := [.ref (ad i)]) (rest := []) ⟨hx, hb, hml, hown, hts⟩ (ct_K_giveBackAll l D cI cQ α ad an n σ5 hI i hi) (cwV 1 hts gd_K_123 rfl rfl rfl (by decide +kernel) ⟨Nat.le_of_ble_eq_true rfl, Nat.le_of_ble_eq_true rfl⟩) (g_preV hK hP hD (ci := 0) (q0 := 0) rfl kw_0) rfl rfl hl.1 rfl (lv_room (Nat.le_of_ble_eq_true rfl)) d_K_doOrUndo_33 ⟨Nat.le_refl _, Nat.le_refl _⟩) hD hS (kw_addr _) (fun H locs hP hD hS => ?_)
      obtain ⟨σ6, e_σ6⟩ : ∃ ζ, ζ = kd_gba n σ5 i 16 := ⟨_, rfl⟩
      rw [← e_σ6] at hP hD
      have hI : k_ok n σ6.1 := by rw [e_σ6]; exact (by rw [kd_gba_1]; exact hI)
      refine lv_iload_n hx hb d_K_doOrUndo_36 rfl (lv_at hl 0 rfl) ?_
      refine lv_if_eq (tgt := 47) hx hb d_K_doOrUndo_37 (by decide) (fun c_37 => ?_) (fun c_37 => ?_)
      · -- to 47
        exact absurd c_37 (by decide)
      · -- on 40
        refine lv_aload_n hx hb d_K_doOrUndo_40 rfl (lv_at hl 2 rfl) ?_
        refine lv_iconst (v := (-1)) hx hb d_K_doOrUndo_41 (by decide) ?_
        refine kw_dput hx hb hts hown hK hP hD hS hi 3 (by decide) fl_K_191 rfl rfl rfl d_K_doOrUndo_42 (fun H locs hP hD hS => ?_)
        obtain ⟨σ7, e_σ7⟩ : ∃ ζ, ζ = k_d σ6 i 3 (-1) := ⟨_, rfl⟩
        rw [← e_σ7] at hP hD
        have hI : k_ok n σ7.1 := by rw [e_σ7]; exact hI
        refine lv_iconst (v := 0) hx hb d_K_doOrUndo_45 (by decide) ?_
        exact g_retz hx hb hr hlocks (by decide) (by rw [kd_do, if_pos c_8]) (by rw [kd_do, if_pos c_8, e_σ7, e_σ6, e_σ5]) hP hS d_K_doOrUndo_46

set_option maxHeartbeats 4000000 in
set_option maxRecDepth 100000 in
theorem ct_K_takeTurn (l : Launch) (D : va_G) (cI cQ : ClassId) (α ad an : Nat → Nat) (n : Nat) (σ : kS) (hI : k_ok n σ.1) (i : Nat) (hi : i < n) : Met l y_K_takeTurn w_K_takeTurn { frames := 5, cells := 0, slots := 0, locals := 114 } (gPc D (kty cI cQ) (kw_w cI cQ α ad an n σ) [.ref (α 0), .ref (ad i)]) (gQi D (kw_al α ad an n) ((kd_turn n σ i).1) (kw_w cI cQ α ad an n ((kd_turn n σ i).2))) 0 0 (gA (kw_al α ad an n)) := by
  refine Met.ofW (cc := b_K_takeTurn) (maxL := 3) (ret := some .boolean) (by decide) rfl ?_
  intro p e s m args below meth c s₁ B hml hv
  obtain ⟨rfl, hP, hK, hD⟩ := hv
  have hx := B.exec
  have hb := B.bytes
  have hr := B.returns
  have hts : ∀ w ∈ kT, w.before [.ref (α 0), .ref (ad i)].toArray s = true := fun w h => atoms_spec (ws := w_K_takeTurn) B.pre w (List.mem_cons_of_mem _ h)
  have hown : s.vm.findClass R_K = some m.cls := findClass_of_methodNamed B.named
  have hlocks := B.notSynchronized
  have hD : va_D (gA (kw_al α ad an n)) (kw_w cI cQ α ad an n σ) := gD kw_adr hD
  have hS : va_S (gA (kw_al α ad an n)) s.heap s.heap [] := va_S.rf
  have hl := lv_entry ([.ref (α 0), .ref (ad i)]) (n := 3) (Nat.le_of_ble_eq_true rfl)
  rw [lg_entry_eq]
  generalize (lg_sl ([.ref (α 0), .ref (ad i)]) ++ List.replicate (3 - (lg_sl ([.ref (α 0), .ref (ad i)])).length) Slot.unset).toArray = ls at hl ⊢
  have hl : lv_has ls 3 [(0, .ref (α 0)), (1, .ref (ad i))] := hl
  refine lv_aload_n hx hb d_K_takeTurn_0 rfl (lv_at hl 1 rfl) ?_
  refine r_calli (W.runV (As := []) (rest := []) ⟨hx, hb, hml, hown, hts⟩ (ct_D_condition l D cI cQ α ad an n σ hI i hi) (cwV 0 hts gd_K_157 rfl rfl rfl (by decide +kernel) ⟨Nat.le_of_ble_eq_true rfl, Nat.le_of_ble_eq_true rfl⟩) (g_preV hK hP hD (ci := 1) (q0 := 6 + i) rfl (kw_3 hi)) rfl rfl hl.1 rfl (lv_room (Nat.le_of_ble_eq_true rfl)) d_K_takeTurn_1 ⟨Nat.le_refl _, Nat.le_refl _⟩) ?_
  refine lv_if_eq (tgt := 19) hx hb d_K_takeTurn_4 (by decide) (fun c_4 => ?_) (fun c_4 => ?_)
  · -- to 19
    refine lv_aload_n hx hb d_K_takeTurn_19 rfl (lv_at hl 0 rfl) ?_
    refine lv_aload_n hx hb d_K_takeTurn_20 rfl (lv_at hl 1 rfl) ?_
    refine r_calli (W.runV (As := [.ref (ad i)]) (rest := []) ⟨hx, hb, hml, hown, hts⟩ (ct_K_leastLacking l D cI cQ α ad an n σ hI i hi) (cwV 1 hts gd_K_175 rfl rfl rfl (by decide +kernel) ⟨Nat.le_of_ble_eq_true rfl, Nat.le_of_ble_eq_true rfl⟩) (g_preV hK hP hD (ci := 0) (q0 := 0) rfl kw_0) rfl rfl hl.1 rfl (lv_room (Nat.le_of_ble_eq_true rfl)) d_K_takeTurn_21 ⟨Nat.le_refl _, Nat.le_refl _⟩) ?_
    refine lv_istore_n (lv' := [(2, .int (kd_ll σ i)), (0, .ref (α 0)), (1, .ref (ad i))]) hx hb d_K_takeTurn_24 rfl hl (by decide) rfl (fun ls hl => ?_)
    refine lv_iload_n hx hb d_K_takeTurn_25 rfl (lv_at hl 0 rfl) ?_
    refine r_calli (W.runS (As := [.int (kd_ll σ i)]) (rest := []) ⟨hx, hb, hml, hown, hts⟩ (ct_K_isSubject l (kd_ll σ i)) (cwS 1 hts gd_K_81 rfl rfl rfl (by decide +kernel) ⟨Nat.le_of_ble_eq_true rfl, Nat.le_of_ble_eq_true rfl⟩) preEq rfl rfl hl.1 rfl (lv_room (Nat.le_of_ble_eq_true rfl)) d_K_takeTurn_26 ⟨Nat.le_refl _, Nat.le_refl _⟩) ?_
    refine lv_if_eq (tgt := 40) hx hb d_K_takeTurn_29 (by decide) (fun c_29 => ?_) (fun c_29 => ?_)
    · -- to 40
      have ell := kd_ll_none c_29
      refine lv_aload_n hx hb d_K_takeTurn_40 rfl (lv_at hl 1 rfl) ?_
      refine lv_aload_n hx hb d_K_takeTurn_41 rfl (lv_at hl 2 rfl) ?_
      refine g_calli (va_runV (As := [.ref (ad i)]) (rest := []) ⟨hx, hb, hml, hown, hts⟩ (ct_K_doOrUndo l D cI cQ α ad an n σ hI i hi) (cwV 1 hts gd_K_182 rfl rfl rfl (by decide +kernel) ⟨Nat.le_of_ble_eq_true rfl, Nat.le_of_ble_eq_true rfl⟩) (g_preV hK hP hD (ci := 0) (q0 := 0) rfl kw_0) rfl rfl hl.1 rfl (lv_room (Nat.le_of_ble_eq_true rfl)) d_K_takeTurn_42 ⟨Nat.le_refl _, Nat.le_refl _⟩) hD hS (kw_addr _) (fun H locs hP hD hS => ?_)
      obtain ⟨σ1, e_σ1⟩ : ∃ ζ, ζ = (kd_do n σ i).2 := ⟨_, rfl⟩
      rw [← e_σ1] at hP hD
      have hI : k_ok n σ1.1 := by rw [e_σ1]; exact (k_ok_do hI)
      exact g_retz hx hb hr hlocks (kd_do_01 n σ i) (by rw [kd_turn, if_pos c_4, ell]) (by rw [kd_turn, if_pos c_4, ell, e_σ1]) hP hS d_K_takeTurn_45
    · -- on 32
      obtain ⟨z, hz, ez, ell⟩ := kd_ll_some c_29
      rw [ez] at hl
      refine lv_aload_n hx hb d_K_takeTurn_32 rfl (lv_at hl 1 rfl) ?_
      refine lv_aload_n hx hb d_K_takeTurn_33 rfl (lv_at hl 2 rfl) ?_
      refine lv_iload_n hx hb d_K_takeTurn_34 rfl (lv_at hl 0 rfl) ?_
      refine g_callv (va_runV (As := [.ref (ad i), .int (nI z)]) (rest := []) ⟨hx, hb, hml, hown, hts⟩ (ct_K_ask l D cI cQ α ad an n σ hI i hi z hz) (cwV 2 hts gd_K_178 rfl rfl rfl (by decide +kernel) ⟨Nat.le_of_ble_eq_true rfl, Nat.le_of_ble_eq_true rfl⟩) (g_preV hK hP hD (ci := 0) (q0 := 0) rfl kw_0) rfl rfl hl.1 rfl (lv_room (Nat.le_of_ble_eq_true rfl)) d_K_takeTurn_35 ⟨Nat.le_refl _, Nat.le_refl _⟩) hD hS (kw_addr _) (fun H locs hP hD hS => ?_)
      obtain ⟨σ2, e_σ2⟩ : ∃ ζ, ζ = kd_ask σ i z := ⟨_, rfl⟩
      rw [← e_σ2] at hP hD
      have hI : k_ok n σ2.1 := by rw [e_σ2]; exact (k_ok_ask hI)
      refine lv_iconst (v := 0) hx hb d_K_takeTurn_38 (by decide) ?_
      exact g_retz hx hb hr hlocks (by decide) (by rw [kd_turn, if_pos c_4, ell]) (by rw [kd_turn, if_pos c_4, ell, e_σ2]) hP hS d_K_takeTurn_39
  · -- on 7
    refine lv_aload_n hx hb d_K_takeTurn_7 rfl (lv_at hl 0 rfl) ?_
    refine lv_dup hx hb d_K_takeTurn_8 rfl ?_
    refine kw_get hx hb hts hown hK hP 8 (by decide) fl_K_38 (v := .int (σ.1 8)) rfl d_K_takeTurn_9 ?_
    refine lv_iconst (v := 1) hx hb d_K_takeTurn_12 (by decide) ?_
    refine lv_iadd hx hb d_K_takeTurn_13 ?_
    refine kw_put hx hb hts hown hK hP hD hS 8 (by decide) fl_K_38 rfl rfl rfl d_K_takeTurn_14 (fun H locs hP hD hS => ?_)
    obtain ⟨σ3, e_σ3⟩ : ∃ ζ, ζ = k_f σ 8 ((σ.1 8) + 1) := ⟨_, rfl⟩
    rw [← e_σ3] at hP hD
    have hI : k_ok n σ3.1 := by rw [e_σ3]; exact (k_ok_f hI (by decide))
    refine lv_iconst (v := 0) hx hb d_K_takeTurn_17 (by decide) ?_
    exact g_retz hx hb hr hlocks (by decide) (by rw [kd_turn, if_neg c_4]) (by rw [kd_turn, if_neg c_4, e_σ3]) hP hS d_K_takeTurn_18

set_option maxHeartbeats 4000000 in
set_option maxRecDepth 100000 in
theorem ct_K_isOverdue (l : Launch) (D : va_G) (cI cQ : ClassId) (α ad an : Nat → Nat) (n : Nat) (σ : kS) (hI : k_ok n σ.1) (z : Nat) (hz : z < 16) : Met l y_K_isOverdue w_K_isOverdue { frames := 1, cells := 0, slots := 0, locals := 21 } (gPc D (kty cI cQ) (kw_w cI cQ α ad an n σ) [.ref (α 0), .int (nI z)]) (QcRead (kd_over n σ z)) 0 0 (fun _ => False) := by
  refine Met.ofW (cc := b_K_isOverdue) (maxL := 3) (ret := some .boolean) (by decide) rfl ?_
  intro p e s m args below meth c s₁ B hml hv
  obtain ⟨rfl, hP, hK, hD⟩ := hv
  have hx := B.exec
  have hb := B.bytes
  have hr := B.returns
  have hts : ∀ w ∈ kT, w.before [.ref (α 0), .int (nI z)].toArray s = true := fun w h => atoms_spec (ws := w_K_isOverdue) B.pre w (List.mem_cons_of_mem _ h)
  have hown : s.vm.findClass R_K = some m.cls := findClass_of_methodNamed B.named
  have hlocks := B.notSynchronized
  have hl := lv_entry ([.ref (α 0), .int (nI z)]) (n := 3) (Nat.le_of_ble_eq_true rfl)
  rw [lg_entry_eq]
  generalize (lg_sl ([.ref (α 0), .int (nI z)]) ++ List.replicate (3 - (lg_sl ([.ref (α 0), .int (nI z)])).length) Slot.unset).toArray = ls at hl ⊢
  have hl : lv_has ls 3 [(0, .ref (α 0)), (1, .int (nI z))] := hl
  refine lv_aload_n hx hb d_K_isOverdue_0 rfl (lv_at hl 0 rfl) ?_
  refine lv_aload_n hx hb d_K_isOverdue_1 rfl (lv_at hl 0 rfl) ?_
  refine kw_get hx hb hts hown hK hP 2 (by decide) fl_K_19 (v := .ref (α 2)) rfl d_K_isOverdue_2 ?_
  refine lv_iload_n hx hb d_K_isOverdue_5 rfl (lv_at hl 1 rfl) ?_
  refine kw_ald hx hb hK hP 0 (by decide) (j := z) rfl hz d_K_isOverdue_6 ?_
  refine r_callq (W.runV (As := [.int (σ.2.1 0 z)]) (rest := []) ⟨hx, hb, hml, hown, hts⟩ (ct_K_deskAt l D cI cQ α ad an n σ hI (σ.2.1 0 z)) (cwV 1 hts gd_K_77 rfl rfl rfl (by decide +kernel) ⟨Nat.le_of_ble_eq_true rfl, Nat.le_of_ble_eq_true rfl⟩) (g_preV hK hP hD (ci := 0) (q0 := 0) rfl kw_0) rfl rfl hl.1 rfl (lv_room (Nat.le_of_ble_eq_true rfl)) d_K_isOverdue_7 ⟨Nat.le_refl _, Nat.le_refl _⟩) ?_
  rcases q_7 : kd_at n (σ.2.1 0 z) with _ | i1
  · -- nobody
    refine W.eq (g2 := F0 m 10 ls [.null]) rfl ?_
    refine lv_astore_nN (lv' := [(2, .null), (0, .ref (α 0)), (1, .int (nI z))]) hx hb d_K_isOverdue_10 rfl hl (by decide) rfl (fun ls hl => ?_)
    refine lv_aload_nN hx hb d_K_isOverdue_11 rfl (lv_at hl 0 rfl) ?_
    refine lv_ifnullN (tgt := 43) hx hb d_K_isOverdue_12 (by decide) ?_
    refine lv_iconst (v := 0) hx hb d_K_isOverdue_43 (by decide) ?_
    exact r_retz hx hb hr hlocks (by decide) (by simp [kd_over, q_7]) d_K_isOverdue_44
  · -- i1
    have hi1 : i1 < n := kd_at_lt hI q_7
    refine W.eq (g2 := F0 m 10 ls [.ref (ad i1)]) rfl ?_
    refine lv_astore_n (lv' := [(2, .ref (ad i1)), (0, .ref (α 0)), (1, .int (nI z))]) hx hb d_K_isOverdue_10 rfl hl (by decide) rfl (fun ls hl => ?_)
    refine lv_aload_n hx hb d_K_isOverdue_11 rfl (lv_at hl 0 rfl) ?_
    refine lv_ifnull hx hb d_K_isOverdue_12 ?_
    refine lv_aload_n hx hb d_K_isOverdue_15 rfl (lv_at hl 0 rfl) ?_
    refine r_calli (W.runV (As := []) (rest := []) ⟨hx, hb, hml, hown, hts⟩ (ct_D_condition l D cI cQ α ad an n σ hI i1 hi1) (cwV 0 hts gd_K_157 rfl rfl rfl (by decide +kernel) ⟨Nat.le_of_ble_eq_true rfl, Nat.le_of_ble_eq_true rfl⟩) (g_preV hK hP hD (ci := 1) (q0 := 6 + i1) rfl (kw_3 hi1)) rfl rfl hl.1 rfl (lv_room (Nat.le_of_ble_eq_true rfl)) d_K_isOverdue_16 ⟨Nat.le_refl _, Nat.le_refl _⟩) ?_
    refine lv_iconst (v := 3) hx hb d_K_isOverdue_19 (by decide) ?_
    refine lv_icmp_ne (tgt := 43) hx hb d_K_isOverdue_20 (by decide) (fun c_20 => ?_) (fun c_20 => ?_)
    · -- to 43
      refine lv_iconst (v := 0) hx hb d_K_isOverdue_43 (by decide) ?_
      exact r_retz hx hb hr hlocks (by decide) (by simp [kd_over, q_7, c_20]) d_K_isOverdue_44
    · -- on 23
      refine lv_aload_n hx hb d_K_isOverdue_23 rfl (lv_at hl 1 rfl) ?_
      refine kw_get hx hb hts hown hK hP 11 (by decide) fl_K_47 (v := .int (σ.1 11)) rfl d_K_isOverdue_24 ?_
      refine lv_aload_n hx hb d_K_isOverdue_27 rfl (lv_at hl 1 rfl) ?_
      refine kw_get hx hb hts hown hK hP 3 (by decide) fl_K_23 (v := .ref (α 3)) rfl d_K_isOverdue_28 ?_
      refine lv_iload_n hx hb d_K_isOverdue_31 rfl (lv_at hl 2 rfl) ?_
      refine kw_ald hx hb hK hP 1 (by decide) (j := z) rfl hz d_K_isOverdue_32 ?_
      refine lv_isub hx hb d_K_isOverdue_33 ?_
      refine lv_bipush (v := 100) hx hb d_K_isOverdue_34 (by decide) ?_
      refine lv_icmp_le (tgt := 43) hx hb d_K_isOverdue_36 (by decide) (fun c_36 => ?_) (fun c_36 => ?_)
      · -- to 43
        refine lv_iconst (v := 0) hx hb d_K_isOverdue_43 (by decide) ?_
        exact r_retz hx hb hr hlocks (by decide) (by simp [kd_over, q_7, c_20, c_36]) d_K_isOverdue_44
      · -- on 39
        refine lv_iconst (v := 1) hx hb d_K_isOverdue_39 (by decide) ?_
        refine lv_goto (tgt := 44) hx hb d_K_isOverdue_40 (by decide) ?_
        exact r_retz hx hb hr hlocks (by decide) (by simp [kd_over, q_7, c_20, c_36]) d_K_isOverdue_44

set_option maxHeartbeats 4000000 in
set_option maxRecDepth 100000 in
theorem ct_K_end (l : Launch) (D : va_G) (cI cQ : ClassId) (α ad an : Nat → Nat) (n : Nat) (σ : kS) (hI : k_ok n σ.1) (i : Nat) (hi : i < n) : Met l y_K_end w_K_end { frames := 4, cells := 0, slots := 0, locals := 92 } (gPc D (kty cI cQ) (kw_w cI cQ α ad an n σ) [.ref (α 0), .ref (ad i)]) (gQv D (kw_al α ad an n) (kw_w cI cQ α ad an n (kd_end n σ i))) 0 0 (gA (kw_al α ad an n)) := by
  refine Met.ofW (cc := b_K_end) (maxL := 3) (ret := none) (by decide) rfl ?_
  intro p e s m args below meth c s₁ B hml hv
  obtain ⟨rfl, hP, hK, hD⟩ := hv
  have hx := B.exec
  have hb := B.bytes
  have hr := B.returns
  have hts : ∀ w ∈ kT, w.before [.ref (α 0), .ref (ad i)].toArray s = true := fun w h => atoms_spec (ws := w_K_end) B.pre w (List.mem_cons_of_mem _ h)
  have hown : s.vm.findClass R_K = some m.cls := findClass_of_methodNamed B.named
  have hlocks := B.notSynchronized
  have hD : va_D (gA (kw_al α ad an n)) (kw_w cI cQ α ad an n σ) := gD kw_adr hD
  have hS : va_S (gA (kw_al α ad an n)) s.heap s.heap [] := va_S.rf
  have hl := lv_entry ([.ref (α 0), .ref (ad i)]) (n := 3) (Nat.le_of_ble_eq_true rfl)
  rw [lg_entry_eq]
  generalize (lg_sl ([.ref (α 0), .ref (ad i)]) ++ List.replicate (3 - (lg_sl ([.ref (α 0), .ref (ad i)])).length) Slot.unset).toArray = ls at hl ⊢
  have hl : lv_has ls 3 [(0, .ref (α 0)), (1, .ref (ad i))] := hl
  refine lv_aload_n hx hb d_K_end_0 rfl (lv_at hl 0 rfl) ?_
  refine lv_aload_n hx hb d_K_end_1 rfl (lv_at hl 1 rfl) ?_
  refine r_calli (W.runV (As := [.ref (ad i)]) (rest := []) ⟨hx, hb, hml, hown, hts⟩ (ct_K_isInTheMidst l D cI cQ α ad an n σ hI i hi) (cwV 1 hts gd_K_95 rfl rfl rfl (by decide +kernel) ⟨Nat.le_of_ble_eq_true rfl, Nat.le_of_ble_eq_true rfl⟩) (g_preV hK hP hD (ci := 0) (q0 := 0) rfl kw_0) rfl rfl hl.1 rfl (lv_room (Nat.le_of_ble_eq_true rfl)) d_K_end_2 ⟨Nat.le_refl _, Nat.le_refl _⟩) ?_
  refine lv_istore_n (lv' := [(2, .int (kd_midst σ i)), (0, .ref (α 0)), (1, .ref (ad i))]) hx hb d_K_end_5 rfl hl (by decide) rfl (fun ls hl => ?_)
  refine lv_aload_n hx hb d_K_end_6 rfl (lv_at hl 2 rfl) ?_
  refine lv_iconst (v := (-1)) hx hb d_K_end_7 (by decide) ?_
  refine kw_dput hx hb hts hown hK hP hD hS hi 6 (by decide) fl_K_120 rfl rfl rfl d_K_end_8 (fun H locs hP hD hS => ?_)
  obtain ⟨σ1, e_σ1⟩ : ∃ ζ, ζ = k_d σ i 6 (-1) := ⟨_, rfl⟩
  rw [← e_σ1] at hP hD
  have hI : k_ok n σ1.1 := by rw [e_σ1]; exact hI
  refine lv_aload_n hx hb d_K_end_11 rfl (lv_at hl 2 rfl) ?_
  refine lv_iconst (v := 1) hx hb d_K_end_12 (by decide) ?_
  refine kw_dput hx hb hts hown hK hP hD hS hi 9 (by decide) fl_K_197 rfl (by decide +kernel) (by decide +kernel) d_K_end_13 (fun H locs hP hD hS => ?_)
  obtain ⟨σ2, e_σ2⟩ : ∃ ζ, ζ = k_d σ1 i 9 1 := ⟨_, rfl⟩
  rw [← e_σ2] at hP hD
  have hI : k_ok n σ2.1 := by rw [e_σ2]; exact hI
  refine lv_aload_n hx hb d_K_end_16 rfl (lv_at hl 1 rfl) ?_
  refine lv_aload_n hx hb d_K_end_17 rfl (lv_at hl 2 rfl) ?_
  refine g_callv (va_runV (As := [.ref (ad i)]) (rest := []) ⟨hx, hb, hml, hown, hts⟩ (ct_K_giveBackAll l D cI cQ α ad an n σ2 hI i hi) (cwV 1 hts gd_K_123 rfl rfl rfl (by decide +kernel) ⟨Nat.le_of_ble_eq_true rfl, Nat.le_of_ble_eq_true rfl⟩) (g_preV hK hP hD (ci := 0) (q0 := 0) rfl kw_0) rfl rfl hl.1 rfl (lv_room (Nat.le_of_ble_eq_true rfl)) d_K_end_18 ⟨Nat.le_refl _, Nat.le_refl _⟩) hD hS (kw_addr _) (fun H locs hP hD hS => ?_)
  obtain ⟨σ3, e_σ3⟩ : ∃ ζ, ζ = kd_gba n σ2 i 16 := ⟨_, rfl⟩
  rw [← e_σ3] at hP hD
  have hI : k_ok n σ3.1 := by rw [e_σ3]; exact (by rw [kd_gba_1]; exact hI)
  refine lv_iload_n hx hb d_K_end_21 rfl (lv_at hl 0 rfl) ?_
  refine lv_if_eq (tgt := 31) hx hb d_K_end_22 (by decide) (fun c_22 => ?_) (fun c_22 => ?_)
  · -- to 31
    exact g_retv hx hb hr hlocks (by rw [kd_end, if_pos c_22, e_σ3, e_σ2, e_σ1]) hP hS d_K_end_31
  · -- on 25
    refine lv_aload_n hx hb d_K_end_25 rfl (lv_at hl 1 rfl) ?_
    refine lv_iconst (v := 4) hx hb d_K_end_26 (by decide) ?_
    refine lv_aload_n hx hb d_K_end_27 rfl (lv_at hl 2 rfl) ?_
    refine g_callv (va_runV (As := [.int 4, .ref (ad i)]) (rest := []) ⟨hx, hb, hml, hown, hts⟩ (ct_K_tell l D cI cQ α ad an n σ3 hI 4 i hi) (cwV 2 hts gd_K_127 rfl rfl rfl (by decide +kernel) ⟨Nat.le_of_ble_eq_true rfl, Nat.le_of_ble_eq_true rfl⟩) (g_preV hK hP hD (ci := 0) (q0 := 0) rfl kw_0) rfl rfl hl.1 rfl (lv_room (Nat.le_of_ble_eq_true rfl)) d_K_end_28 ⟨Nat.le_refl _, Nat.le_refl _⟩) hD hS (kw_addr _) (fun H locs hP hD hS => ?_)
    obtain ⟨σ4, e_σ4⟩ : ∃ ζ, ζ = kd_tell σ3 4 i := ⟨_, rfl⟩
    rw [← e_σ4] at hP hD
    have hI : k_ok n σ4.1 := by rw [e_σ4]; exact (k_ok_tell hI)
    exact g_retv hx hb hr hlocks (by rw [kd_end, if_neg c_22, e_σ4, e_σ3, e_σ2, e_σ1]) hP hS d_K_end_31
end
section
/-! the system's public methods, by numbers; Integer.bitCount -/
theorem ini_A : Cond.initialized R_A ∈ kT := mk_T 2 rfl rfl
theorem ini_I : Cond.initialized R_I ∈ kT := mk_T 10 rfl rfl
theorem gdX {own : String} {ix : Nat} {y : MethodName} {b : ByteArray} {n : Nat} {r : Option FieldType} (h1 : Cond.methodLink own ix y ∈ kT) (h2 : Cond.static y ∈ kT) (h3 : Cond.initialized y.cls ∈ kT) (h5 : Cond.code y b n r ∈ kT) : GoodIn kT (va_wsS own ix y (Cond.code y b n r :: kT)) := by
  intro w hw
  have h : w ∈ kT := by
    rcases List.mem_append.mp hw with h | h
    · simp only [List.mem_cons, List.not_mem_nil, or_false] at h
      rcases h with rfl | rfl | rfl
      · exact h1
      · exact h2
      · exact h3
    · rcases List.mem_cons.mp h with rfl | h
      · exact h5
      · exact h
  exact ⟨h, kT_good w h⟩
theorem gd_K_141 : GoodIn kT (va_wsS R_K 141 y_I_bitCount w_I_bitCount) := gdX ml_K_141 st_I_bitCount ini_I cd_I_bitCount
theorem gd_K_54 : GoodIn kT (va_wsS R_K 54 y_A_fill w_A_fill) := gdX ml_K_54 st_A_fill ini_A cd_A_fill
def us (x y : Int32) : Int32 := (x.toUInt32 >>> (y.toUInt32 &&& Int32.toUInt32 31)).toInt32
def bc1 (x : Int32) : Int32 := x - (us x 1 &&& 1431655765)
def bc2 (x : Int32) : Int32 := (x &&& 858993459) + (us x 2 &&& 858993459)
def bc3 (x : Int32) : Int32 := (x + us x 4) &&& 252645135
def bc4 (x : Int32) : Int32 := x + us x 8
def bc5 (x : Int32) : Int32 := x + us x 16
def bc (x : Int32) : Int32 := bc5 (bc4 (bc3 (bc2 (bc1 x)))) &&& 63
def kp_needs (n : Nat) (σ : kS) (x y z : Int32) : Int32 × kS := match kd_at n x with
  | none => (0, σ)
  | some i => if σ.1 12 = 0 then
      (if kd_sub z = 0 then (0, σ)
      else if kd_ahead σ i y = 0 then (0, σ)
      else if kd_has σ i y z = 0 then
        (if y = σ.2.2.1 i 4 then (if kd_midst σ i = 0 then (1, kd_add σ i y z) else (0, σ)) else (1, kd_add σ i y z))
      else (0, σ))
    else (0, σ)
def kp_turn (σ : kS) (x : Int32) : Int32 × kS :=
  let σ2 := k_f (k_a σ 2 (σ.1 6).toNatClampNeg x) 6 ((k_a σ 2 (σ.1 6).toNatClampNeg x).1 6 + 1)
  (σ2.1 6 - σ2.1 7, σ2)
def kp_run (n : Nat) (σ : kS) (r k : Nat) : Int32 × kS := ((kd_runp n σ r k).1, k_f (kd_runp n σ r k).2 7 ((kd_runp n σ r k).2.1 6))
def kp_log (σ : kS) (x : Int32) : Int32 := if x < 0 then -1 else if σ.1 10 ≤ x then -1 else σ.2.1 3 x.toNatClampNeg
def kp_wt (σ : kS) (n z : Nat) (y : Int32) : Int32 := match kd_wfp σ n (nI z) y n with
  | none => -1
  | some j => σ.2.2.1 j 0
def kp_int (n : Nat) (σ : kS) (x : Int32) : Int32 × kS := match kd_at n x with
  | none => (0, σ)
  | some i => if σ.2.2.1 i 6 = -1 then (0, σ)
    else
      let σ3 := kd_tell (kd_gba n (k_d σ i 6 (-1)) i 16) 3 i
      (1, k_d σ3 i 4 (σ3.2.2.1 i 4 + 1))
def kp_dead (σ : kS) (i : Nat) : Int32 × kS :=
  if kd_alive σ i = 0 then (-1, σ) else (bc (kd_held (k_d (k_d σ i 6 (-1)) i 8 1) i), k_d (k_d σ i 6 (-1)) i 8 1)
def kp_close (n : Nat) (σ : kS) : Int32 × kS := if σ.1 12 = 0 then kd_closep n (k_f σ 12 1) n else (-1, σ)
def kp_look (σ : kS) (i : Nat) (y : Int32) : Int32 :=
  if y = 0 then σ.2.2.1 i 4 else if y = 1 then σ.2.2.1 i 5 else if y = 2 then kd_cond σ i else if y = 3 then kd_held σ i else σ.2.2.1 i 6
def kp_count (σ : kS) (x : Int32) : Int32 :=
  if x = 0 then σ.1 1 else if x = 1 then σ.1 10 else if x = 2 then σ.1 6 else if x = 3 then σ.1 8 else if x = 4 then σ.1 11 else if x = 5 then (if σ.1 12 = 0 then 0 else 1) else if x = 6 then kd_cntp (σ.2.1 0) 16 else -1
theorem k_log400 {n : Nat} {f : Nat → Int32} {x : Int32} (hI : k_ok n f) (h0 : ¬ x < 0) (h : ¬ f 10 ≤ x) : x.toNatClampNeg < 400 := by
  obtain ⟨e, he, h2⟩ := hI.2.2.1
  rw [h2] at h
  have := ix_l h0 h (by omega)
  omega
theorem k_nle400 {x : Int32} (h0 : ¬ x < 0) (h : x.toNatClampNeg < 400) : ¬ (400 : Int32) ≤ x := by
  rw [ix_e h0]; exact nI_ge (b := 400) h (by decide)
theorem k_ok_t0 {n : Nat} {f : Nat → Int32} (hI : k_ok n f) : ¬ f 6 < 0 := by
  obtain ⟨t, r, h1, h2, h3, h4⟩ := hI.2.2.2
  rw [h3]; exact nI_pos (by omega)
theorem k_ok_6 {n t r : Nat} {σ : kS} {x : Int32} (hI : k_ok n σ.1) (hx : x = nI t) (hr : σ.1 7 = nI r) (h1 : r ≤ t) (h2 : t ≤ 300) : k_ok n (k_f σ 6 x).1 := by
  obtain ⟨a, b, c, -⟩ := hI
  exact ⟨a, b, c, t, r, h1, h2, hx, hr⟩
theorem kd_tickp_1 (n : Nat) (σ : kS) (j : Nat) : (kd_tickp n σ j).2.1 = σ.1 := by
  induction j with
  | zero => rfl
  | succ j ih =>
    unfold kd_tickp
    split
    · exact ih
    · dsimp only
      rw [kd_gb_1, ih]
theorem k_ok_closep {n : Nat} {σ : kS} (hI : k_ok n σ.1) (j : Nat) : k_ok n (kd_closep n σ j).2.1 := by
  induction j with
  | zero => exact hI
  | succ j ih =>
    unfold kd_closep
    split
    · exact ih
    · exact k_ok_end ih
theorem trn_f {n i k : Nat} {σ : kS} (h4 : k ≠ 4) (h8 : k ≠ 8) (h10 : k ≠ 10) : (kd_turn n σ i).2.1 k = σ.1 k := by
  have ht : ∀ (ρ : kS) (w : Int32), (kd_tell ρ w i).1 k = ρ.1 k := by
    intro ρ w
    unfold kd_tell
    split
    · rfl
    · exact va_up_ne _ _ h10
  unfold kd_turn
  split
  · split
    · unfold kd_ask
      split
      · rfl
      · exact va_up_ne _ _ h4
    · unfold kd_do
      split
      · dsimp only
        rw [kd_1, kd_gba_1, ht]
      · dsimp only
        rw [kd_1, kd_1, kd_gba_1, ht]
  · exact va_up_ne _ _ h8
theorem kd_runp_ok {n r : Nat} {σ : kS} (hI : k_ok n σ.1) (k : Nat) : k_ok n (kd_runp n σ r k).2.1 ∧ (kd_runp n σ r k).2.1 6 = σ.1 6 := by
  induction k with
  | zero => exact ⟨hI, rfl⟩
  | succ k ih =>
    unfold kd_runp
    split
    · exact ih
    · exact ⟨k_ok_turn ih.1, (trn_f (by decide) (by decide) (by decide)).trans ih.2⟩
theorem kd_at_nI {n i : Nat} {f : Nat → Int32} (hI : k_ok n f) (hi : i < n) : kd_at n (nI i) = some i := by
  have := hI.1
  unfold kd_at
  rw [if_neg (nI_pos (by omega)), if_neg (nI_ge hi (by omega)), nI_clamp (by omega)]
theorem i32_lt_of {a b : Int32} (h : ¬ a ≤ b) : b < a := by
  rw [Int32.le_iff_toInt_le] at h; rw [Int32.lt_iff_toInt_lt]; omega
theorem i32_toInt_ne {x : Int32} {k : Nat} (hk : k < 2 ^ 31) (h : ¬ x = nI k) : x.toInt ≠ k := by
  intro e
  apply h
  apply Int32.toInt_inj.mp
  rw [e, nI_toInt hk]
theorem tb_7 {x : Int32} (h0 : ¬ x = 0) (h1 : ¬ x = 1) (h2 : ¬ x = 2) (h3 : ¬ x = 3) (h4 : ¬ x = 4) (h5 : ¬ x = 5) (h6 : ¬ x = 6) : x.toInt < 0 ∨ 6 < x.toInt := by
  have a0 := i32_toInt_ne (k := 0) (by decide) h0
  have a1 := i32_toInt_ne (k := 1) (by decide) h1
  have a2 := i32_toInt_ne (k := 2) (by decide) h2
  have a3 := i32_toInt_ne (k := 3) (by decide) h3
  have a4 := i32_toInt_ne (k := 4) (by decide) h4
  have a5 := i32_toInt_ne (k := 5) (by decide) h5
  have a6 := i32_toInt_ne (k := 6) (by decide) h6
  omega
theorem tb_5 {x : Int32} (h0 : ¬ x = 0) (h1 : ¬ x = 1) (h2 : ¬ x = 2) (h3 : ¬ x = 3) (h4 : ¬ x = 4) : x.toInt < 0 ∨ 4 < x.toInt := by
  have a0 := i32_toInt_ne (k := 0) (by decide) h0
  have a1 := i32_toInt_ne (k := 1) (by decide) h1
  have a2 := i32_toInt_ne (k := 2) (by decide) h2
  have a3 := i32_toInt_ne (k := 3) (by decide) h3
  have a4 := i32_toInt_ne (k := 4) (by decide) h4
  omega
theorem tb_4 {x : Int32} (h0 : ¬ x = 0) (h1 : ¬ x = 1) (h2 : ¬ x = 2) (h3 : ¬ x = 3) : x.toInt < 0 ∨ 3 < x.toInt := by
  have a0 := i32_toInt_ne (k := 0) (by decide) h0
  have a1 := i32_toInt_ne (k := 1) (by decide) h1
  have a2 := i32_toInt_ne (k := 2) (by decide) h2
  have a3 := i32_toInt_ne (k := 3) (by decide) h3
  omega
end
section
set_option maxHeartbeats 4000000 in
set_option maxRecDepth 100000 in
theorem ct_I_bitCount (l : Launch)  (x : Int32) : Met l y_I_bitCount w_I_bitCount { frames := 0, cells := 0, slots := 0, locals := 0 } (fun v _ => v = [.int x].toArray) (QcRead (bc x)) 0 0 (fun _ => False) := by
  refine Met.ofW (cc := b_I_bitCount) (maxL := 1) (ret := some .int) (by decide) rfl ?_
  intro p e s m args below meth c s₁ B hml hv
  subst hv
  have hx := B.exec
  have hb := B.bytes
  have hr := B.returns
  have hts : ∀ w ∈ kT, w.before [.int x].toArray s = true := fun w h => atoms_spec (ws := w_I_bitCount) B.pre w (List.mem_cons_of_mem _ h)
  have hown : s.vm.findClass R_I = some m.cls := findClass_of_methodNamed B.named
  have hlocks := B.notSynchronized
  have hl := lv_entry ([.int x]) (n := 1) (Nat.le_of_ble_eq_true rfl)
  rw [lg_entry_eq]
  generalize (lg_sl ([.int x]) ++ List.replicate (1 - (lg_sl ([.int x])).length) Slot.unset).toArray = ls at hl ⊢
  have hl : lv_has ls 1 [(0, .int x)] := hl
  refine lv_iload_n hx hb d_I_bitCount_0 rfl (lv_at hl 0 rfl) ?_
  refine lv_iload_n hx hb d_I_bitCount_1 rfl (lv_at hl 0 rfl) ?_
  refine lv_iconst (v := 1) hx hb d_I_bitCount_2 (by decide) ?_
  refine lv_iushr (v := us x 1) hx hb d_I_bitCount_3 rfl ?_
  refine lv_ldcw (v := 1431655765) hx hb hown (hts _ kc_I_265) d_I_bitCount_4 ?_
  refine lv_iand hx hb d_I_bitCount_7 ?_
  refine lv_isub hx hb d_I_bitCount_8 ?_
  refine lv_istore_n (lv' := [(0, .int (x - ((us x 1) &&& 1431655765)))]) hx hb d_I_bitCount_9 rfl hl (by decide) rfl (fun ls hl => ?_)
  have hl : lv_has ls 1 [(0, .int (bc1 x))] := hl
  refine lv_iload_n hx hb d_I_bitCount_10 rfl (lv_at hl 0 rfl) ?_
  refine lv_ldcw (v := 858993459) hx hb hown (hts _ kc_I_266) d_I_bitCount_11 ?_
  refine lv_iand hx hb d_I_bitCount_14 ?_
  refine lv_iload_n hx hb d_I_bitCount_15 rfl (lv_at hl 0 rfl) ?_
  refine lv_iconst (v := 2) hx hb d_I_bitCount_16 (by decide) ?_
  refine lv_iushr (v := us (bc1 x) 2) hx hb d_I_bitCount_17 rfl ?_
  refine lv_ldcw (v := 858993459) hx hb hown (hts _ kc_I_266) d_I_bitCount_18 ?_
  refine lv_iand hx hb d_I_bitCount_21 ?_
  refine lv_iadd hx hb d_I_bitCount_22 ?_
  refine lv_istore_n (lv' := [(0, .int (((bc1 x) &&& 858993459) + ((us (bc1 x) 2) &&& 858993459)))]) hx hb d_I_bitCount_23 rfl hl (by decide) rfl (fun ls hl => ?_)
  have hl : lv_has ls 1 [(0, .int (bc2 (bc1 x)))] := hl
  refine lv_iload_n hx hb d_I_bitCount_24 rfl (lv_at hl 0 rfl) ?_
  refine lv_iload_n hx hb d_I_bitCount_25 rfl (lv_at hl 0 rfl) ?_
  refine lv_iconst (v := 4) hx hb d_I_bitCount_26 (by decide) ?_
  refine lv_iushr (v := us (bc2 (bc1 x)) 4) hx hb d_I_bitCount_27 rfl ?_
  refine lv_iadd hx hb d_I_bitCount_28 ?_
  refine lv_ldcw (v := 252645135) hx hb hown (hts _ kc_I_267) d_I_bitCount_29 ?_
  refine lv_iand hx hb d_I_bitCount_32 ?_
  refine lv_istore_n (lv' := [(0, .int (((bc2 (bc1 x)) + (us (bc2 (bc1 x)) 4)) &&& 252645135))]) hx hb d_I_bitCount_33 rfl hl (by decide) rfl (fun ls hl => ?_)
  have hl : lv_has ls 1 [(0, .int (bc3 (bc2 (bc1 x))))] := hl
  refine lv_iload_n hx hb d_I_bitCount_34 rfl (lv_at hl 0 rfl) ?_
  refine lv_iload_n hx hb d_I_bitCount_35 rfl (lv_at hl 0 rfl) ?_
  refine lv_bipush (v := 8) hx hb d_I_bitCount_36 (by decide) ?_
  refine lv_iushr (v := us (bc3 (bc2 (bc1 x))) 8) hx hb d_I_bitCount_38 rfl ?_
  refine lv_iadd hx hb d_I_bitCount_39 ?_
  refine lv_istore_n (lv' := [(0, .int ((bc3 (bc2 (bc1 x))) + (us (bc3 (bc2 (bc1 x))) 8)))]) hx hb d_I_bitCount_40 rfl hl (by decide) rfl (fun ls hl => ?_)
  have hl : lv_has ls 1 [(0, .int (bc4 (bc3 (bc2 (bc1 x)))))] := hl
  refine lv_iload_n hx hb d_I_bitCount_41 rfl (lv_at hl 0 rfl) ?_
  refine lv_iload_n hx hb d_I_bitCount_42 rfl (lv_at hl 0 rfl) ?_
  refine lv_bipush (v := 16) hx hb d_I_bitCount_43 (by decide) ?_
  refine lv_iushr (v := us (bc4 (bc3 (bc2 (bc1 x)))) 16) hx hb d_I_bitCount_45 rfl ?_
  refine lv_iadd hx hb d_I_bitCount_46 ?_
  refine lv_istore_n (lv' := [(0, .int ((bc4 (bc3 (bc2 (bc1 x)))) + (us (bc4 (bc3 (bc2 (bc1 x)))) 16)))]) hx hb d_I_bitCount_47 rfl hl (by decide) rfl (fun ls hl => ?_)
  have hl : lv_has ls 1 [(0, .int (bc5 (bc4 (bc3 (bc2 (bc1 x))))))] := hl
  refine lv_iload_n hx hb d_I_bitCount_48 rfl (lv_at hl 0 rfl) ?_
  refine lv_bipush (v := 63) hx hb d_I_bitCount_49 (by decide) ?_
  refine lv_iand hx hb d_I_bitCount_51 ?_
  exact r_reti hx hb hr hlocks rfl d_I_bitCount_52

set_option maxHeartbeats 4000000 in
set_option maxRecDepth 100000 in
theorem ct_K_needs (l : Launch) (D : va_G) (cI cQ : ClassId) (α ad an : Nat → Nat) (n : Nat) (σ : kS) (hI : k_ok n σ.1) (x y z : Int32) : Met l y_K_needs w_K_needs { frames := 2, cells := 0, slots := 0, locals := 44 } (gPc D (kty cI cQ) (kw_w cI cQ α ad an n σ) [.ref (α 0), .int x, .int y, .int z]) (gQi D (kw_al α ad an n) ((kp_needs n σ x y z).1) (kw_w cI cQ α ad an n ((kp_needs n σ x y z).2))) 0 0 (gA (kw_al α ad an n)) := by
  refine Met.ofW (cc := b_K_needs) (maxL := 5) (ret := some .boolean) (by decide) rfl ?_
  intro p e s m args below meth c s₁ B hml hv
  obtain ⟨rfl, hP, hK, hD⟩ := hv
  have hx := B.exec
  have hb := B.bytes
  have hr := B.returns
  have hts : ∀ w ∈ kT, w.before [.ref (α 0), .int x, .int y, .int z].toArray s = true := fun w h => atoms_spec (ws := w_K_needs) B.pre w (List.mem_cons_of_mem _ h)
  have hown : s.vm.findClass R_K = some m.cls := findClass_of_methodNamed B.named
  have hlocks := B.notSynchronized
  have hD : va_D (gA (kw_al α ad an n)) (kw_w cI cQ α ad an n σ) := gD kw_adr hD
  have hS : va_S (gA (kw_al α ad an n)) s.heap s.heap [] := va_S.rf
  have hl := lv_entry ([.ref (α 0), .int x, .int y, .int z]) (n := 5) (Nat.le_of_ble_eq_true rfl)
  rw [lg_entry_eq]
  generalize (lg_sl ([.ref (α 0), .int x, .int y, .int z]) ++ List.replicate (5 - (lg_sl ([.ref (α 0), .int x, .int y, .int z])).length) Slot.unset).toArray = ls at hl ⊢
  have hl : lv_has ls 5 [(0, .ref (α 0)), (1, .int x), (2, .int y), (3, .int z)] := hl
  refine lv_aload_n hx hb d_K_needs_0 rfl (lv_at hl 0 rfl) ?_
  refine lv_iload_n hx hb d_K_needs_1 rfl (lv_at hl 1 rfl) ?_
  refine r_callq (W.runV (As := [.int x]) (rest := []) ⟨hx, hb, hml, hown, hts⟩ (ct_K_deskAt l D cI cQ α ad an n σ hI x) (cwV 1 hts gd_K_77 rfl rfl rfl (by decide +kernel) ⟨Nat.le_of_ble_eq_true rfl, Nat.le_of_ble_eq_true rfl⟩) (g_preV hK hP hD (ci := 0) (q0 := 0) rfl kw_0) rfl rfl hl.1 rfl (lv_room (Nat.le_of_ble_eq_true rfl)) d_K_needs_2 ⟨Nat.le_refl _, Nat.le_refl _⟩) ?_
  rcases q_2 : kd_at n x with _ | i1
  · -- nobody
    refine W.eq (g2 := F0 m 5 ls [.null]) rfl ?_
    refine lv_astoreN (lv' := [(4, .null), (0, .ref (α 0)), (1, .int x), (2, .int y), (3, .int z)]) hx hb d_K_needs_5 hl (by decide) rfl (fun ls hl => ?_)
    refine lv_aload_n hx hb d_K_needs_7 rfl (lv_at hl 1 rfl) ?_
    refine kw_get hx hb hts hown hK hP 12 (by decide) fl_K_50 (v := .int (σ.1 12)) rfl d_K_needs_8 ?_
    refine lv_if_ne (tgt := 26) hx hb d_K_needs_11 (by decide) (fun c_11 => ?_) (fun c_11 => ?_)
    · -- to 26
      refine lv_iconst (v := 0) hx hb d_K_needs_26 (by decide) ?_
      exact g_retz hx hb hr hlocks (by decide) (by rw [kp_needs, q_2]) (by rw [kp_needs, q_2]) hP hS d_K_needs_27
    · -- on 14
      refine lv_aloadN hx hb d_K_needs_14 (lv_at hl 0 rfl) ?_
      refine lv_ifnullN (tgt := 26) hx hb d_K_needs_16 (by decide) ?_
      refine lv_iconst (v := 0) hx hb d_K_needs_26 (by decide) ?_
      exact g_retz hx hb hr hlocks (by decide) (by rw [kp_needs, q_2]) (by rw [kp_needs, q_2]) hP hS d_K_needs_27
  · -- i1
    have hi1 : i1 < n := kd_at_lt hI q_2
    refine W.eq (g2 := F0 m 5 ls [.ref (ad i1)]) rfl ?_
    refine lv_astore (lv' := [(4, .ref (ad i1)), (0, .ref (α 0)), (1, .int x), (2, .int y), (3, .int z)]) hx hb d_K_needs_5 hl (by decide) rfl (fun ls hl => ?_)
    refine lv_aload_n hx hb d_K_needs_7 rfl (lv_at hl 1 rfl) ?_
    refine kw_get hx hb hts hown hK hP 12 (by decide) fl_K_50 (v := .int (σ.1 12)) rfl d_K_needs_8 ?_
    refine lv_if_ne (tgt := 26) hx hb d_K_needs_11 (by decide) (fun c_11 => ?_) (fun c_11 => ?_)
    · -- to 26
      refine lv_iconst (v := 0) hx hb d_K_needs_26 (by decide) ?_
      exact g_retz hx hb hr hlocks (by decide) (by rw [kp_needs, q_2]; dsimp only; rw [if_neg c_11]) (by rw [kp_needs, q_2]; dsimp only; rw [if_neg c_11]) hP hS d_K_needs_27
    · -- on 14
      refine lv_aload hx hb d_K_needs_14 (lv_at hl 0 rfl) ?_
      refine lv_ifnull hx hb d_K_needs_16 ?_
      refine lv_iload_n hx hb d_K_needs_19 rfl (lv_at hl 4 rfl) ?_
      refine r_calli (W.runS (As := [.int z]) (rest := []) ⟨hx, hb, hml, hown, hts⟩ (ct_K_isSubject l z) (cwS 1 hts gd_K_81 rfl rfl rfl (by decide +kernel) ⟨Nat.le_of_ble_eq_true rfl, Nat.le_of_ble_eq_true rfl⟩) preEq rfl rfl hl.1 rfl (lv_room (Nat.le_of_ble_eq_true rfl)) d_K_needs_20 ⟨Nat.le_refl _, Nat.le_refl _⟩) ?_
      refine lv_if_ne (tgt := 28) hx hb d_K_needs_23 (by decide) (fun c_23 => ?_) (fun c_23 => ?_)
      · -- to 28
        refine lv_aload hx hb d_K_needs_28 (lv_at hl 0 rfl) ?_
        refine lv_iload_n hx hb d_K_needs_30 rfl (lv_at hl 3 rfl) ?_
        refine r_calli (W.runV (As := [.int y]) (rest := []) ⟨hx, hb, hml, hown, hts⟩ (ct_D_isAhead l D cI cQ α ad an n σ hI i1 hi1 y) (cwV 1 hts gd_K_85 rfl rfl rfl (by decide +kernel) ⟨Nat.le_of_ble_eq_true rfl, Nat.le_of_ble_eq_true rfl⟩) (g_preV hK hP hD (ci := 1) (q0 := 6 + i1) rfl (kw_3 hi1)) rfl rfl hl.1 rfl (lv_room (Nat.le_of_ble_eq_true rfl)) d_K_needs_31 ⟨Nat.le_refl _, Nat.le_refl _⟩) ?_
        refine lv_if_eq (tgt := 47) hx hb d_K_needs_34 (by decide) (fun c_34 => ?_) (fun c_34 => ?_)
        · -- to 47
          refine lv_iconst (v := 0) hx hb d_K_needs_47 (by decide) ?_
          exact g_retz hx hb hr hlocks (by decide) (by rw [kp_needs, q_2]; dsimp only; rw [if_pos c_11, if_neg c_23, if_pos c_34]) (by rw [kp_needs, q_2]; dsimp only; rw [if_pos c_11, if_neg c_23, if_pos c_34]) hP hS d_K_needs_48
        · -- on 37
          refine lv_aload hx hb d_K_needs_37 (lv_at hl 0 rfl) ?_
          refine lv_iload_n hx hb d_K_needs_39 rfl (lv_at hl 3 rfl) ?_
          refine lv_iload_n hx hb d_K_needs_40 rfl (lv_at hl 4 rfl) ?_
          refine r_calli (W.runV (As := [.int y, .int z]) (rest := []) ⟨hx, hb, hml, hown, hts⟩ (ct_D_hasNeed l D cI cQ α ad an n σ hI i1 hi1 y z) (cwV 2 hts gd_K_88 rfl rfl rfl (by decide +kernel) ⟨Nat.le_of_ble_eq_true rfl, Nat.le_of_ble_eq_true rfl⟩) (g_preV hK hP hD (ci := 1) (q0 := 6 + i1) rfl (kw_3 hi1)) rfl rfl hl.1 rfl (lv_room (Nat.le_of_ble_eq_true rfl)) d_K_needs_41 ⟨Nat.le_refl _, Nat.le_refl _⟩) ?_
          refine lv_if_eq (tgt := 49) hx hb d_K_needs_44 (by decide) (fun c_44 => ?_) (fun c_44 => ?_)
          · -- to 49
            refine lv_iload_n hx hb d_K_needs_49 rfl (lv_at hl 3 rfl) ?_
            refine lv_aload hx hb d_K_needs_50 (lv_at hl 0 rfl) ?_
            refine kw_dget hx hb hts hown hK hP hi1 4 (by decide) fl_K_92 (v := .int (σ.2.2.1 i1 4)) rfl d_K_needs_52 ?_
            refine lv_icmp_ne (tgt := 69) hx hb d_K_needs_55 (by decide) (fun c_55 => ?_) (fun c_55 => ?_)
            · -- to 69
              refine lv_aload hx hb d_K_needs_69 (lv_at hl 0 rfl) ?_
              refine lv_iload_n hx hb d_K_needs_71 rfl (lv_at hl 3 rfl) ?_
              refine lv_iload_n hx hb d_K_needs_72 rfl (lv_at hl 4 rfl) ?_
              refine g_callv (va_runV (As := [.int y, .int z]) (rest := []) ⟨hx, hb, hml, hown, hts⟩ (ct_D_addNeed l D cI cQ α ad an n σ hI i1 hi1 y z) (cwV 2 hts gd_K_99 rfl rfl rfl (by decide +kernel) ⟨Nat.le_of_ble_eq_true rfl, Nat.le_of_ble_eq_true rfl⟩) (g_preV hK hP hD (ci := 1) (q0 := 6 + i1) rfl (kw_3 hi1)) rfl rfl hl.1 rfl (lv_room (Nat.le_of_ble_eq_true rfl)) d_K_needs_73 ⟨Nat.le_refl _, Nat.le_refl _⟩) hD hS (kw_addr _) (fun H locs hP hD hS => ?_)
              obtain ⟨σ1, e_σ1⟩ : ∃ ζ, ζ = kd_add σ i1 y z := ⟨_, rfl⟩
              rw [← e_σ1] at hP hD
              have hI : k_ok n σ1.1 := by rw [e_σ1]; exact (by rw [kd_add_1]; exact hI)
              refine lv_iconst (v := 1) hx hb d_K_needs_76 (by decide) ?_
              exact g_retz hx hb hr hlocks (by decide) (by rw [kp_needs, q_2]; dsimp only; rw [if_pos c_11, if_neg c_23, if_neg c_34, if_pos c_44, if_neg c_55]) (by rw [kp_needs, q_2]; dsimp only; rw [if_pos c_11, if_neg c_23, if_neg c_34, if_pos c_44, if_neg c_55, e_σ1]) hP hS d_K_needs_77
            · -- on 58
              refine lv_aload_n hx hb d_K_needs_58 rfl (lv_at hl 1 rfl) ?_
              refine lv_aload hx hb d_K_needs_59 (lv_at hl 0 rfl) ?_
              refine r_calli (W.runV (As := [.ref (ad i1)]) (rest := []) ⟨hx, hb, hml, hown, hts⟩ (ct_K_isInTheMidst l D cI cQ α ad an n σ hI i1 hi1) (cwV 1 hts gd_K_95 rfl rfl rfl (by decide +kernel) ⟨Nat.le_of_ble_eq_true rfl, Nat.le_of_ble_eq_true rfl⟩) (g_preV hK hP hD (ci := 0) (q0 := 0) rfl kw_0) rfl rfl hl.1 rfl (lv_room (Nat.le_of_ble_eq_true rfl)) d_K_needs_61 ⟨Nat.le_refl _, Nat.le_refl _⟩) ?_
              refine lv_if_eq (tgt := 69) hx hb d_K_needs_64 (by decide) (fun c_64 => ?_) (fun c_64 => ?_)
              · -- to 69
                refine lv_aload hx hb d_K_needs_69 (lv_at hl 0 rfl) ?_
                refine lv_iload_n hx hb d_K_needs_71 rfl (lv_at hl 3 rfl) ?_
                refine lv_iload_n hx hb d_K_needs_72 rfl (lv_at hl 4 rfl) ?_
                refine g_callv (va_runV (As := [.int y, .int z]) (rest := []) ⟨hx, hb, hml, hown, hts⟩ (ct_D_addNeed l D cI cQ α ad an n σ hI i1 hi1 y z) (cwV 2 hts gd_K_99 rfl rfl rfl (by decide +kernel) ⟨Nat.le_of_ble_eq_true rfl, Nat.le_of_ble_eq_true rfl⟩) (g_preV hK hP hD (ci := 1) (q0 := 6 + i1) rfl (kw_3 hi1)) rfl rfl hl.1 rfl (lv_room (Nat.le_of_ble_eq_true rfl)) d_K_needs_73 ⟨Nat.le_refl _, Nat.le_refl _⟩) hD hS (kw_addr _) (fun H locs hP hD hS => ?_)
                obtain ⟨σ2, e_σ2⟩ : ∃ ζ, ζ = kd_add σ i1 y z := ⟨_, rfl⟩
                rw [← e_σ2] at hP hD
                have hI : k_ok n σ2.1 := by rw [e_σ2]; exact (by rw [kd_add_1]; exact hI)
                refine lv_iconst (v := 1) hx hb d_K_needs_76 (by decide) ?_
                exact g_retz hx hb hr hlocks (by decide) (by rw [kp_needs, q_2]; dsimp only; rw [if_pos c_11, if_neg c_23, if_neg c_34, if_pos c_44, if_pos c_55, if_pos c_64]) (by rw [kp_needs, q_2]; dsimp only; rw [if_pos c_11, if_neg c_23, if_neg c_34, if_pos c_44, if_pos c_55, if_pos c_64, e_σ2]) hP hS d_K_needs_77
              · -- on 67
                refine lv_iconst (v := 0) hx hb d_K_needs_67 (by decide) ?_
                exact g_retz hx hb hr hlocks (by decide) (by rw [kp_needs, q_2]; dsimp only; rw [if_pos c_11, if_neg c_23, if_neg c_34, if_pos c_44, if_pos c_55, if_neg c_64]) (by rw [kp_needs, q_2]; dsimp only; rw [if_pos c_11, if_neg c_23, if_neg c_34, if_pos c_44, if_pos c_55, if_neg c_64]) hP hS d_K_needs_68
          · -- on 47
            refine lv_iconst (v := 0) hx hb d_K_needs_47 (by decide) ?_
            exact g_retz hx hb hr hlocks (by decide) (by rw [kp_needs, q_2]; dsimp only; rw [if_pos c_11, if_neg c_23, if_neg c_34, if_neg c_44]) (by rw [kp_needs, q_2]; dsimp only; rw [if_pos c_11, if_neg c_23, if_neg c_34, if_neg c_44]) hP hS d_K_needs_48
      · -- on 26
        refine lv_iconst (v := 0) hx hb d_K_needs_26 (by decide) ?_
        exact g_retz hx hb hr hlocks (by decide) (by rw [kp_needs, q_2]; dsimp only; rw [if_pos c_11, if_pos c_23]) (by rw [kp_needs, q_2]; dsimp only; rw [if_pos c_11, if_pos c_23]) hP hS d_K_needs_27

set_option maxHeartbeats 4000000 in
set_option maxRecDepth 100000 in
theorem ct_K_interrupt (l : Launch) (D : va_G) (cI cQ : ClassId) (α ad an : Nat → Nat) (n : Nat) (σ : kS) (hI : k_ok n σ.1) (x : Int32) : Met l y_K_interrupt w_K_interrupt { frames := 4, cells := 0, slots := 0, locals := 92 } (gPc D (kty cI cQ) (kw_w cI cQ α ad an n σ) [.ref (α 0), .int x]) (gQi D (kw_al α ad an n) ((kp_int n σ x).1) (kw_w cI cQ α ad an n ((kp_int n σ x).2))) 0 0 (gA (kw_al α ad an n)) := by
  refine Met.ofW (cc := b_K_interrupt) (maxL := 3) (ret := some .boolean) (by decide) rfl ?_
  intro p e s m args below meth c s₁ B hml hv
  obtain ⟨rfl, hP, hK, hD⟩ := hv
  have hx := B.exec
  have hb := B.bytes
  have hr := B.returns
  have hts : ∀ w ∈ kT, w.before [.ref (α 0), .int x].toArray s = true := fun w h => atoms_spec (ws := w_K_interrupt) B.pre w (List.mem_cons_of_mem _ h)
  have hown : s.vm.findClass R_K = some m.cls := findClass_of_methodNamed B.named
  have hlocks := B.notSynchronized
  have hD : va_D (gA (kw_al α ad an n)) (kw_w cI cQ α ad an n σ) := gD kw_adr hD
  have hS : va_S (gA (kw_al α ad an n)) s.heap s.heap [] := va_S.rf
  have hl := lv_entry ([.ref (α 0), .int x]) (n := 3) (Nat.le_of_ble_eq_true rfl)
  rw [lg_entry_eq]
  generalize (lg_sl ([.ref (α 0), .int x]) ++ List.replicate (3 - (lg_sl ([.ref (α 0), .int x])).length) Slot.unset).toArray = ls at hl ⊢
  have hl : lv_has ls 3 [(0, .ref (α 0)), (1, .int x)] := hl
  refine lv_aload_n hx hb d_K_interrupt_0 rfl (lv_at hl 0 rfl) ?_
  refine lv_iload_n hx hb d_K_interrupt_1 rfl (lv_at hl 1 rfl) ?_
  refine r_callq (W.runV (As := [.int x]) (rest := []) ⟨hx, hb, hml, hown, hts⟩ (ct_K_deskAt l D cI cQ α ad an n σ hI x) (cwV 1 hts gd_K_77 rfl rfl rfl (by decide +kernel) ⟨Nat.le_of_ble_eq_true rfl, Nat.le_of_ble_eq_true rfl⟩) (g_preV hK hP hD (ci := 0) (q0 := 0) rfl kw_0) rfl rfl hl.1 rfl (lv_room (Nat.le_of_ble_eq_true rfl)) d_K_interrupt_2 ⟨Nat.le_refl _, Nat.le_refl _⟩) ?_
  rcases q_2 : kd_at n x with _ | i1
  · -- nobody
    refine W.eq (g2 := F0 m 5 ls [.null]) rfl ?_
    refine lv_astore_nN (lv' := [(2, .null), (0, .ref (α 0)), (1, .int x)]) hx hb d_K_interrupt_5 rfl hl (by decide) rfl (fun ls hl => ?_)
    refine lv_aload_nN hx hb d_K_interrupt_6 rfl (lv_at hl 0 rfl) ?_
    refine lv_ifnullN (tgt := 18) hx hb d_K_interrupt_7 (by decide) ?_
    refine lv_iconst (v := 0) hx hb d_K_interrupt_18 (by decide) ?_
    exact g_retz hx hb hr hlocks (by decide) (by rw [kp_int, q_2]) (by rw [kp_int, q_2]) hP hS d_K_interrupt_19
  · -- i1
    have hi1 : i1 < n := kd_at_lt hI q_2
    refine W.eq (g2 := F0 m 5 ls [.ref (ad i1)]) rfl ?_
    refine lv_astore_n (lv' := [(2, .ref (ad i1)), (0, .ref (α 0)), (1, .int x)]) hx hb d_K_interrupt_5 rfl hl (by decide) rfl (fun ls hl => ?_)
    refine lv_aload_n hx hb d_K_interrupt_6 rfl (lv_at hl 0 rfl) ?_
    refine lv_ifnull hx hb d_K_interrupt_7 ?_
    refine lv_aload_n hx hb d_K_interrupt_10 rfl (lv_at hl 0 rfl) ?_
    refine kw_dget hx hb hts hown hK hP hi1 6 (by decide) fl_K_120 (v := .int (σ.2.2.1 i1 6)) rfl d_K_interrupt_11 ?_
    refine lv_iconst (v := (-1)) hx hb d_K_interrupt_14 (by decide) ?_
    refine lv_icmp_ne (tgt := 20) hx hb d_K_interrupt_15 (by decide) (fun c_15 => ?_) (fun c_15 => ?_)
    · -- to 20
      refine lv_aload_n hx hb d_K_interrupt_20 rfl (lv_at hl 0 rfl) ?_
      refine lv_iconst (v := (-1)) hx hb d_K_interrupt_21 (by decide) ?_
      refine kw_dput hx hb hts hown hK hP hD hS hi1 6 (by decide) fl_K_120 rfl rfl rfl d_K_interrupt_22 (fun H locs hP hD hS => ?_)
      obtain ⟨σ1, e_σ1⟩ : ∃ ζ, ζ = k_d σ i1 6 (-1) := ⟨_, rfl⟩
      rw [← e_σ1] at hP hD
      have hI : k_ok n σ1.1 := by rw [e_σ1]; exact hI
      refine lv_aload_n hx hb d_K_interrupt_25 rfl (lv_at hl 1 rfl) ?_
      refine lv_aload_n hx hb d_K_interrupt_26 rfl (lv_at hl 0 rfl) ?_
      refine g_callv (va_runV (As := [.ref (ad i1)]) (rest := []) ⟨hx, hb, hml, hown, hts⟩ (ct_K_giveBackAll l D cI cQ α ad an n σ1 hI i1 hi1) (cwV 1 hts gd_K_123 rfl rfl rfl (by decide +kernel) ⟨Nat.le_of_ble_eq_true rfl, Nat.le_of_ble_eq_true rfl⟩) (g_preV hK hP hD (ci := 0) (q0 := 0) rfl kw_0) rfl rfl hl.1 rfl (lv_room (Nat.le_of_ble_eq_true rfl)) d_K_interrupt_27 ⟨Nat.le_refl _, Nat.le_refl _⟩) hD hS (kw_addr _) (fun H locs hP hD hS => ?_)
      obtain ⟨σ2, e_σ2⟩ : ∃ ζ, ζ = kd_gba n σ1 i1 16 := ⟨_, rfl⟩
      rw [← e_σ2] at hP hD
      have hI : k_ok n σ2.1 := by rw [e_σ2]; exact (by rw [kd_gba_1]; exact hI)
      refine lv_aload_n hx hb d_K_interrupt_30 rfl (lv_at hl 1 rfl) ?_
      refine lv_iconst (v := 3) hx hb d_K_interrupt_31 (by decide) ?_
      refine lv_aload_n hx hb d_K_interrupt_32 rfl (lv_at hl 0 rfl) ?_
      refine g_callv (va_runV (As := [.int 3, .ref (ad i1)]) (rest := []) ⟨hx, hb, hml, hown, hts⟩ (ct_K_tell l D cI cQ α ad an n σ2 hI 3 i1 hi1) (cwV 2 hts gd_K_127 rfl rfl rfl (by decide +kernel) ⟨Nat.le_of_ble_eq_true rfl, Nat.le_of_ble_eq_true rfl⟩) (g_preV hK hP hD (ci := 0) (q0 := 0) rfl kw_0) rfl rfl hl.1 rfl (lv_room (Nat.le_of_ble_eq_true rfl)) d_K_interrupt_33 ⟨Nat.le_refl _, Nat.le_refl _⟩) hD hS (kw_addr _) (fun H locs hP hD hS => ?_)
      obtain ⟨σ3, e_σ3⟩ : ∃ ζ, ζ = kd_tell σ2 3 i1 := ⟨_, rfl⟩
      rw [← e_σ3] at hP hD
      have hI : k_ok n σ3.1 := by rw [e_σ3]; exact (k_ok_tell hI)
      refine lv_aload_n hx hb d_K_interrupt_36 rfl (lv_at hl 0 rfl) ?_
      refine lv_dup hx hb d_K_interrupt_37 rfl ?_
      refine kw_dget hx hb hts hown hK hP hi1 4 (by decide) fl_K_92 (v := .int (σ3.2.2.1 i1 4)) rfl d_K_interrupt_38 ?_
      refine lv_iconst (v := 1) hx hb d_K_interrupt_41 (by decide) ?_
      refine lv_iadd hx hb d_K_interrupt_42 ?_
      refine kw_dput hx hb hts hown hK hP hD hS hi1 4 (by decide) fl_K_92 rfl rfl rfl d_K_interrupt_43 (fun H locs hP hD hS => ?_)
      obtain ⟨σ4, e_σ4⟩ : ∃ ζ, ζ = k_d σ3 i1 4 ((σ3.2.2.1 i1 4) + 1) := ⟨_, rfl⟩
      rw [← e_σ4] at hP hD
      have hI : k_ok n σ4.1 := by rw [e_σ4]; exact hI
      refine lv_iconst (v := 1) hx hb d_K_interrupt_46 (by decide) ?_
      exact g_retz hx hb hr hlocks (by decide) (by rw [kp_int, q_2]; dsimp only; rw [if_neg c_15]) (by rw [kp_int, q_2]; dsimp only; rw [if_neg c_15, e_σ4, e_σ3, e_σ2, e_σ1]) hP hS d_K_interrupt_47
    · -- on 18
      refine lv_iconst (v := 0) hx hb d_K_interrupt_18 (by decide) ?_
      exact g_retz hx hb hr hlocks (by decide) (by rw [kp_int, q_2]; dsimp only; rw [if_pos c_15]) (by rw [kp_int, q_2]; dsimp only; rw [if_pos c_15]) hP hS d_K_interrupt_19

set_option maxHeartbeats 4000000 in
set_option maxRecDepth 100000 in
theorem ct_K_log (l : Launch) (D : va_G) (cI cQ : ClassId) (α ad an : Nat → Nat) (n : Nat) (σ : kS) (hI : k_ok n σ.1) (x : Int32) : Met l y_K_log w_K_log { frames := 0, cells := 0, slots := 0, locals := 0 } (gPc D (kty cI cQ) (kw_w cI cQ α ad an n σ) [.ref (α 0), .int x]) (QcRead (kp_log σ x)) 0 0 (fun _ => False) := by
  refine Met.ofW (cc := b_K_log) (maxL := 2) (ret := some .int) (by decide) rfl ?_
  intro p e s m args below meth c s₁ B hml hv
  obtain ⟨rfl, hP, hK, hD⟩ := hv
  have hx := B.exec
  have hb := B.bytes
  have hr := B.returns
  have hts : ∀ w ∈ kT, w.before [.ref (α 0), .int x].toArray s = true := fun w h => atoms_spec (ws := w_K_log) B.pre w (List.mem_cons_of_mem _ h)
  have hown : s.vm.findClass R_K = some m.cls := findClass_of_methodNamed B.named
  have hlocks := B.notSynchronized
  have hl := lv_entry ([.ref (α 0), .int x]) (n := 2) (Nat.le_of_ble_eq_true rfl)
  rw [lg_entry_eq]
  generalize (lg_sl ([.ref (α 0), .int x]) ++ List.replicate (2 - (lg_sl ([.ref (α 0), .int x])).length) Slot.unset).toArray = ls at hl ⊢
  have hl : lv_has ls 2 [(0, .ref (α 0)), (1, .int x)] := hl
  refine lv_iload_n hx hb d_K_log_0 rfl (lv_at hl 1 rfl) ?_
  refine lv_if_lt (tgt := 30) hx hb d_K_log_1 (by decide) (fun c_1 => ?_) (fun c_1 => ?_)
  · -- to 30
    refine lv_iconst (v := (-1)) hx hb d_K_log_30 (by decide) ?_
    exact r_reti hx hb hr hlocks (by simp [kp_log, c_1]) d_K_log_31
  · -- on 4
    refine lv_iload_n hx hb d_K_log_4 rfl (lv_at hl 1 rfl) ?_
    refine lv_aload_n hx hb d_K_log_5 rfl (lv_at hl 0 rfl) ?_
    refine kw_get hx hb hts hown hK hP 10 (by decide) fl_K_44 (v := .int (σ.1 10)) rfl d_K_log_6 ?_
    refine lv_icmp_ge (tgt := 30) hx hb d_K_log_9 (by decide) (fun c_9 => ?_) (fun c_9 => ?_)
    · -- to 30
      refine lv_iconst (v := (-1)) hx hb d_K_log_30 (by decide) ?_
      exact r_reti hx hb hr hlocks (by simp [kp_log, c_1, c_9]) d_K_log_31
    · -- on 12
      refine lv_iload_n hx hb d_K_log_12 rfl (lv_at hl 1 rfl) ?_
      refine lv_aload_n hx hb d_K_log_13 rfl (lv_at hl 0 rfl) ?_
      refine kw_get hx hb hts hown hK hP 9 (by decide) fl_K_41 (v := .ref (α 5)) rfl d_K_log_14 ?_
      refine kw_alen hx hb hK hP 3 (by decide) (v := 400) rfl d_K_log_17 ?_
      refine lv_icmp_ge (tgt := 30) hx hb d_K_log_18 (by decide) (fun c_18 => ?_) (fun c_18 => ?_)
      · -- to 30
        exact absurd c_18 (k_nle400 c_1 (k_log400 hI c_1 c_9))
      · -- on 21
        refine lv_aload_n hx hb d_K_log_21 rfl (lv_at hl 0 rfl) ?_
        refine kw_get hx hb hts hown hK hP 9 (by decide) fl_K_41 (v := .ref (α 5)) rfl d_K_log_22 ?_
        refine lv_iload_n hx hb d_K_log_25 rfl (lv_at hl 1 rfl) ?_
        refine kw_ald hx hb hK hP 3 (by decide) (j := x.toNatClampNeg) (ix_e c_1) (k_log400 hI c_1 c_9) d_K_log_26 ?_
        refine lv_goto (tgt := 31) hx hb d_K_log_27 (by decide) ?_
        exact r_reti hx hb hr hlocks (by simp [kp_log, c_1, c_9, c_18]) d_K_log_31

set_option maxHeartbeats 4000000 in
set_option maxRecDepth 100000 in
theorem ct_K_count (l : Launch) (D : va_G) (cI cQ : ClassId) (α ad an : Nat → Nat) (n : Nat) (σ : kS) (hI : k_ok n σ.1) (x : Int32) : Met l y_K_count w_K_count { frames := 1, cells := 0, slots := 0, locals := 22 } (gPc D (kty cI cQ) (kw_w cI cQ α ad an n σ) [.ref (α 0), .int x]) (QcRead (kp_count σ x)) 0 0 (fun _ => False) := by
  refine Met.ofW (cc := b_K_count) (maxL := 2) (ret := some .int) (by decide) rfl ?_
  intro p e s m args below meth c s₁ B hml hv
  obtain ⟨rfl, hP, hK, hD⟩ := hv
  have hx := B.exec
  have hb := B.bytes
  have hr := B.returns
  have hts : ∀ w ∈ kT, w.before [.ref (α 0), .int x].toArray s = true := fun w h => atoms_spec (ws := w_K_count) B.pre w (List.mem_cons_of_mem _ h)
  have hown : s.vm.findClass R_K = some m.cls := findClass_of_methodNamed B.named
  have hlocks := B.notSynchronized
  have hl := lv_entry ([.ref (α 0), .int x]) (n := 2) (Nat.le_of_ble_eq_true rfl)
  rw [lg_entry_eq]
  generalize (lg_sl ([.ref (α 0), .int x]) ++ List.replicate (2 - (lg_sl ([.ref (α 0), .int x])).length) Slot.unset).toArray = ls at hl ⊢
  have hl : lv_has ls 2 [(0, .ref (α 0)), (1, .int x)] := hl
  refine lv_iload_n hx hb d_K_count_0 rfl (lv_at hl 1 rfl) ?_
  by_cases h_0 : x = 0
  · subst h_0
    refine lv_tableIn (tgt := 44) (off := 43) hx hb d_K_count_1 (by decide) (by decide) rfl (by decide) ?_
    refine lv_aload_n hx hb d_K_count_44 rfl (lv_at hl 0 rfl) ?_
    refine kw_get hx hb hts hown hK hP 1 (by decide) fl_K_15 (v := .int (σ.1 1)) rfl d_K_count_45 ?_
    exact r_reti hx hb hr hlocks rfl d_K_count_48
  by_cases h_1 : x = 1
  · subst h_1
    refine lv_tableIn (tgt := 49) (off := 48) hx hb d_K_count_1 (by decide) (by decide) rfl (by decide) ?_
    refine lv_aload_n hx hb d_K_count_49 rfl (lv_at hl 0 rfl) ?_
    refine kw_get hx hb hts hown hK hP 10 (by decide) fl_K_44 (v := .int (σ.1 10)) rfl d_K_count_50 ?_
    exact r_reti hx hb hr hlocks rfl d_K_count_53
  by_cases h_2 : x = 2
  · subst h_2
    refine lv_tableIn (tgt := 54) (off := 53) hx hb d_K_count_1 (by decide) (by decide) rfl (by decide) ?_
    refine lv_aload_n hx hb d_K_count_54 rfl (lv_at hl 0 rfl) ?_
    refine kw_get hx hb hts hown hK hP 6 (by decide) fl_K_32 (v := .int (σ.1 6)) rfl d_K_count_55 ?_
    exact r_reti hx hb hr hlocks rfl d_K_count_58
  by_cases h_3 : x = 3
  · subst h_3
    refine lv_tableIn (tgt := 59) (off := 58) hx hb d_K_count_1 (by decide) (by decide) rfl (by decide) ?_
    refine lv_aload_n hx hb d_K_count_59 rfl (lv_at hl 0 rfl) ?_
    refine kw_get hx hb hts hown hK hP 8 (by decide) fl_K_38 (v := .int (σ.1 8)) rfl d_K_count_60 ?_
    exact r_reti hx hb hr hlocks rfl d_K_count_63
  by_cases h_4 : x = 4
  · subst h_4
    refine lv_tableIn (tgt := 64) (off := 63) hx hb d_K_count_1 (by decide) (by decide) rfl (by decide) ?_
    refine lv_aload_n hx hb d_K_count_64 rfl (lv_at hl 0 rfl) ?_
    refine kw_get hx hb hts hown hK hP 11 (by decide) fl_K_47 (v := .int (σ.1 11)) rfl d_K_count_65 ?_
    exact r_reti hx hb hr hlocks rfl d_K_count_68
  by_cases h_5 : x = 5
  · subst h_5
    refine lv_tableIn (tgt := 69) (off := 68) hx hb d_K_count_1 (by decide) (by decide) rfl (by decide) ?_
    refine lv_aload_n hx hb d_K_count_69 rfl (lv_at hl 0 rfl) ?_
    refine kw_get hx hb hts hown hK hP 12 (by decide) fl_K_50 (v := .int (σ.1 12)) rfl d_K_count_70 ?_
    refine lv_if_eq (tgt := 80) hx hb d_K_count_73 (by decide) (fun c_73 => ?_) (fun c_73 => ?_)
    · -- to 80
      refine lv_iconst (v := 0) hx hb d_K_count_80 (by decide) ?_
      exact r_reti hx hb hr hlocks (by rw [show kp_count σ 5 = if σ.1 12 = 0 then 0 else 1 from rfl, if_pos c_73]) d_K_count_81
    · -- on 76
      refine lv_iconst (v := 1) hx hb d_K_count_76 (by decide) ?_
      refine lv_goto (tgt := 81) hx hb d_K_count_77 (by decide) ?_
      exact r_reti hx hb hr hlocks (by rw [show kp_count σ 5 = if σ.1 12 = 0 then 0 else 1 from rfl, if_neg c_73]) d_K_count_81
  by_cases h_6 : x = 6
  · subst h_6
    refine lv_tableIn (tgt := 82) (off := 81) hx hb d_K_count_1 (by decide) (by decide) rfl (by decide) ?_
    refine lv_aload_n hx hb d_K_count_82 rfl (lv_at hl 0 rfl) ?_
    refine r_calli (W.runV (As := []) (rest := []) ⟨hx, hb, hml, hown, hts⟩ (ct_K_subjectsHeld l D cI cQ α ad an n σ hI ) (cwV 0 hts gd_K_172 rfl rfl rfl (by decide +kernel) ⟨Nat.le_of_ble_eq_true rfl, Nat.le_of_ble_eq_true rfl⟩) (g_preV hK hP hD (ci := 0) (q0 := 0) rfl kw_0) rfl rfl hl.1 rfl (lv_room (Nat.le_of_ble_eq_true rfl)) d_K_count_83 ⟨Nat.le_refl _, Nat.le_refl _⟩) ?_
    exact r_reti hx hb hr hlocks rfl d_K_count_86
  refine lv_tableOut (tgt := 87) hx hb d_K_count_1 (tb_7 h_0 h_1 h_2 h_3 h_4 h_5 h_6) (by decide) ?_
  refine lv_iconst (v := (-1)) hx hb d_K_count_87 (by decide) ?_
  exact r_reti hx hb hr hlocks (by rw [kp_count, if_neg h_0, if_neg h_1, if_neg h_2, if_neg h_3, if_neg h_4, if_neg h_5, if_neg h_6]) d_K_count_88

set_option maxHeartbeats 4000000 in
set_option maxRecDepth 100000 in
theorem ct_K_close (l : Launch) (D : va_G) (cI cQ : ClassId) (α ad an : Nat → Nat) (n : Nat) (σ : kS) (hI : k_ok n σ.1)  : Met l y_K_close w_K_close { frames := 5, cells := 0, slots := 0, locals := 114 } (gPc D (kty cI cQ) (kw_w cI cQ α ad an n σ) [.ref (α 0)]) (gQi D (kw_al α ad an n) ((kp_close n σ).1) (kw_w cI cQ α ad an n ((kp_close n σ).2))) 0 0 (gA (kw_al α ad an n)) := by
  refine Met.ofW (cc := b_K_close) (maxL := 4) (ret := some .int) (by decide) rfl ?_
  intro p e s m args below meth c s₁ B hml hv
  obtain ⟨rfl, hP, hK, hD⟩ := hv
  have hx := B.exec
  have hb := B.bytes
  have hr := B.returns
  have hts : ∀ w ∈ kT, w.before [.ref (α 0)].toArray s = true := fun w h => atoms_spec (ws := w_K_close) B.pre w (List.mem_cons_of_mem _ h)
  have hown : s.vm.findClass R_K = some m.cls := findClass_of_methodNamed B.named
  have hlocks := B.notSynchronized
  have hD : va_D (gA (kw_al α ad an n)) (kw_w cI cQ α ad an n σ) := gD kw_adr hD
  have hS : va_S (gA (kw_al α ad an n)) s.heap s.heap [] := va_S.rf
  have hl := lv_entry ([.ref (α 0)]) (n := 4) (Nat.le_of_ble_eq_true rfl)
  rw [lg_entry_eq]
  generalize (lg_sl ([.ref (α 0)]) ++ List.replicate (4 - (lg_sl ([.ref (α 0)])).length) Slot.unset).toArray = ls at hl ⊢
  have hl : lv_has ls 4 [(0, .ref (α 0))] := hl
  refine lv_aload_n hx hb d_K_close_0 rfl (lv_at hl 0 rfl) ?_
  refine kw_get hx hb hts hown hK hP 12 (by decide) fl_K_50 (v := .int (σ.1 12)) rfl d_K_close_1 ?_
  refine lv_if_eq (tgt := 9) hx hb d_K_close_4 (by decide) (fun c_4 => ?_) (fun c_4 => ?_)
  · -- to 9
    refine lv_aload_n hx hb d_K_close_9 rfl (lv_at hl 0 rfl) ?_
    refine lv_iconst (v := 1) hx hb d_K_close_10 (by decide) ?_
    refine kw_put hx hb hts hown hK hP hD hS 12 (by decide) fl_K_50 rfl (by decide +kernel) (by decide +kernel) d_K_close_11 (fun H locs hP hD hS => ?_)
    obtain ⟨σ1, e_σ1⟩ : ∃ ζ, ζ = k_f σ 12 1 := ⟨_, rfl⟩
    rw [← e_σ1] at hP hD
    have hI : k_ok n σ1.1 := by rw [e_σ1]; exact (k_ok_f hI (by decide))
    refine lv_iconst (v := 0) hx hb d_K_close_14 (by decide) ?_
    refine lv_istore_n (lv' := [(1, .int 0), (0, .ref (α 0))]) hx hb d_K_close_15 rfl hl (by decide) rfl (fun ls hl => ?_)
    refine lv_iconst (v := 0) hx hb d_K_close_16 (by decide) ?_
    refine lv_istore_n (lv' := [(2, .int 0), (1, .int 0), (0, .ref (α 0))]) hx hb d_K_close_17 rfl hl (by decide) rfl (fun ls hl => ?_)
    have lp18 : ∀ (fu j : Nat) (acc : Int32) (ς : kS) (H : Heap) (locs : List Loc) (ls : Array Slot), j ≤ n → n - j < fu → acc = (kd_closep n σ1 j).1 → ς = (kd_closep n σ1 j).2 → va_P D kcl (kw_w cI cQ α ad an n ς) H → va_D (gA (kw_al α ad an n)) (kw_w cI cQ α ad an n ς) → va_S (gA (kw_al α ad an n)) s.heap H locs → lv_has ls 4 [(2, .int (nI j)), (1, .int acc), (0, .ref (α 0))] → W p l e (headSpec w_K_close { frames := 5, cells := 0, slots := 0, locals := 114 }).room s m [.ref (α 0)].toArray below meth c H locs 0 0 (MQ below (gQi D (kw_al α ad an n) ((kp_close n σ).1) (kw_w cI cQ α ad an n ((kp_close n σ).2))) [.ref (α 0)].toArray s 0 0 (gA (kw_al α ad an n))) (F0 m 18 ls []) := by
      intro fu
      induction fu with
      | zero => intro j acc ς H locs ls h1 h2; omega
      | succ fu ih =>
        intro j acc ς H locs ls hj18 hf18 e_acc  e_ς hP hD hS hl
        have hI : k_ok n ς.1 := by rw [e_ς]; exact k_ok_closep hI _
        refine lv_iload_n hx hb d_K_close_18 rfl (lv_at hl 0 rfl) ?_
        refine lv_aload_n hx hb d_K_close_19 rfl (lv_at hl 2 rfl) ?_
        refine kw_get hx hb hts hown hK hP 1 (by decide) fl_K_15 (v := .int (ς.1 1)) rfl d_K_close_20 ?_
        refine lv_icmp_ge (tgt := 68) hx hb d_K_close_23 (by decide) (fun c_23 => ?_) (fun c_23 => ?_)
        · -- to 68
          have hx18 : j = n := lp_eqI hI c_23 hj18
          rw [hx18] at e_acc e_ς
          refine lv_iload_n hx hb d_K_close_68 rfl (lv_at hl 1 rfl) ?_
          exact g_reti hx hb hr hlocks (by rw [kp_close, if_pos c_4, e_acc, e_σ1]) (by rw [kp_close, if_pos c_4, e_ς, e_σ1]) hP hS d_K_close_69
        · -- on 26
          have hl18 : j < n := lp_ltI hI c_23 hj18
          refine lv_iload_n hx hb d_K_close_26 rfl (lv_at hl 0 rfl) ?_
          refine lv_aload_n hx hb d_K_close_27 rfl (lv_at hl 2 rfl) ?_
          refine kw_get hx hb hts hown hK hP 0 (by decide) fl_K_11 (v := .ref (α 1)) rfl d_K_close_28 ?_
          refine kw_qlen hx hb hK hP d_K_close_31 ?_
          refine lv_icmp_ge (tgt := 68) hx hb d_K_close_32 (by decide) (fun c_32 => ?_) (fun c_32 => ?_)
          · -- to 68
            exact absurd c_32 (lp_8 hI hl18)
          · -- on 35
            refine lv_aload_n hx hb d_K_close_35 rfl (lv_at hl 2 rfl) ?_
            refine kw_get hx hb hts hown hK hP 0 (by decide) fl_K_11 (v := .ref (α 1)) rfl d_K_close_36 ?_
            refine lv_iload_n hx hb d_K_close_39 rfl (lv_at hl 0 rfl) ?_
            refine kw_qld hx hb hK hP (j := j) rfl hl18 hI.1 d_K_close_40 ?_
            refine lv_astore_n (lv' := [(3, .ref (ad j)), (2, .int (nI j)), (1, .int acc), (0, .ref (α 0))]) hx hb d_K_close_41 rfl hl (by decide) rfl (fun ls hl => ?_)
            refine lv_aload_n hx hb d_K_close_42 rfl (lv_at hl 0 rfl) ?_
            refine lv_ifnull hx hb d_K_close_43 ?_
            refine lv_aload_n hx hb d_K_close_46 rfl (lv_at hl 0 rfl) ?_
            refine r_calli (W.runV (As := []) (rest := []) ⟨hx, hb, hml, hown, hts⟩ (ct_D_condition l D cI cQ α ad an n ς hI j hl18) (cwV 0 hts gd_K_157 rfl rfl rfl (by decide +kernel) ⟨Nat.le_of_ble_eq_true rfl, Nat.le_of_ble_eq_true rfl⟩) (g_preV hK hP hD (ci := 1) (q0 := 6 + j) rfl (kw_3 hl18)) rfl rfl hl.1 rfl (lv_room (Nat.le_of_ble_eq_true rfl)) d_K_close_47 ⟨Nat.le_refl _, Nat.le_refl _⟩) ?_
            refine lv_iconst (v := 2) hx hb d_K_close_50 (by decide) ?_
            refine lv_icmp_eq (tgt := 62) hx hb d_K_close_51 (by decide) (fun c_51 => ?_) (fun c_51 => ?_)
            · -- to 62
              refine lv_iinc (v := nI (j + 1)) (lv' := [(2, .int (nI (j + 1))), (3, .ref (ad j)), (1, .int acc), (0, .ref (α 0))]) hx hb d_K_close_62 hl (k := 1) rfl (nI_1 j) (by decide) rfl (fun ls hl => ?_)
              refine lv_goto (tgt := 18) hx hb d_K_close_65 (by decide) ?_
              exact ih (j + 1) acc _ _ _ ls (by omega) (by omega) (by rw [kd_closep, ← e_ς, if_pos c_51]; exact e_acc) (by rw [kd_closep, ← e_ς, if_pos c_51]; exact e_ς) hP hD hS (lv_sub hl [0, 2, 3] rfl)
            · -- on 54
              refine lv_aload_n hx hb d_K_close_54 rfl (lv_at hl 3 rfl) ?_
              refine lv_aload_n hx hb d_K_close_55 rfl (lv_at hl 0 rfl) ?_
              refine g_callv (va_runV (As := [.ref (ad j)]) (rest := []) ⟨hx, hb, hml, hown, hts⟩ (ct_K_end l D cI cQ α ad an n ς hI j hl18) (cwV 1 hts gd_K_161 rfl rfl rfl (by decide +kernel) ⟨Nat.le_of_ble_eq_true rfl, Nat.le_of_ble_eq_true rfl⟩) (g_preV hK hP hD (ci := 0) (q0 := 0) rfl kw_0) rfl rfl hl.1 rfl (lv_room (Nat.le_of_ble_eq_true rfl)) d_K_close_56 ⟨Nat.le_refl _, Nat.le_refl _⟩) hD hS (kw_addr _) (fun H locs hP hD hS => ?_)
              obtain ⟨σ2, e_σ2⟩ : ∃ ζ, ζ = kd_end n ς j := ⟨_, rfl⟩
              rw [← e_σ2] at hP hD
              have hI : k_ok n σ2.1 := by rw [e_σ2]; exact (k_ok_end hI)
              refine lv_iinc (v := acc + 1) (lv' := [(1, .int (acc + 1)), (3, .ref (ad j)), (2, .int (nI j)), (0, .ref (α 0))]) hx hb d_K_close_59 hl (k := 2) rfl rfl (by decide) rfl (fun ls hl => ?_)
              refine lv_iinc (v := nI (j + 1)) (lv' := [(2, .int (nI (j + 1))), (1, .int (acc + 1)), (3, .ref (ad j)), (0, .ref (α 0))]) hx hb d_K_close_62 hl (k := 2) rfl (nI_1 j) (by decide) rfl (fun ls hl => ?_)
              refine lv_goto (tgt := 18) hx hb d_K_close_65 (by decide) ?_
              exact ih (j + 1) (acc + 1) _ _ _ ls (by omega) (by omega) (by rw [kd_closep, ← e_ς, if_neg c_51]; exact congrArg (fun z => z + 1) e_acc) (by rw [e_σ2, kd_closep, ← e_ς, if_neg c_51]) hP hD hS (lv_sub hl [0, 1, 3] rfl)
    exact lp18 (n - 0 + 1) 0 _ _ _ _ ls (by omega) (by omega) rfl  rfl hP hD hS (lv_sub hl [0, 1, 2] rfl)
  · -- on 7
    refine lv_iconst (v := (-1)) hx hb d_K_close_7 (by decide) ?_
    exact g_reti hx hb hr hlocks (by rw [kp_close, if_neg c_4]) (by rw [kp_close, if_neg c_4]) hP hS d_K_close_8
end
section
set_option maxHeartbeats 4000000 in
set_option maxRecDepth 100000 in
theorem ct_K_holder (l : Launch) (D : va_G) (cI cQ : ClassId) (α ad an : Nat → Nat) (n : Nat) (σ : kS) (hI : k_ok n σ.1) (z : Nat) (hz : z < 16) : Met l y_K_holder w_K_holder { frames := 1, cells := 0, slots := 0, locals := 20 } (gPc D (kty cI cQ) (kw_w cI cQ α ad an n σ) [.ref (α 0), .int (nI z)]) (QcRead (σ.2.1 0 z)) 0 0 (fun _ => False) := by
  refine Met.ofW (cc := b_K_holder) (maxL := 2) (ret := some .int) (by decide) rfl ?_
  intro p e s m args below meth c s₁ B hml hv
  obtain ⟨rfl, hP, hK, hD⟩ := hv
  have hx := B.exec
  have hb := B.bytes
  have hr := B.returns
  have hts : ∀ w ∈ kT, w.before [.ref (α 0), .int (nI z)].toArray s = true := fun w h => atoms_spec (ws := w_K_holder) B.pre w (List.mem_cons_of_mem _ h)
  have hown : s.vm.findClass R_K = some m.cls := findClass_of_methodNamed B.named
  have hlocks := B.notSynchronized
  have hl := lv_entry ([.ref (α 0), .int (nI z)]) (n := 2) (Nat.le_of_ble_eq_true rfl)
  rw [lg_entry_eq]
  generalize (lg_sl ([.ref (α 0), .int (nI z)]) ++ List.replicate (2 - (lg_sl ([.ref (α 0), .int (nI z)])).length) Slot.unset).toArray = ls at hl ⊢
  have hl : lv_has ls 2 [(0, .ref (α 0)), (1, .int (nI z))] := hl
  refine lv_iload_n hx hb d_K_holder_0 rfl (lv_at hl 1 rfl) ?_
  refine r_calli (W.runS (As := [.int (nI z)]) (rest := []) ⟨hx, hb, hml, hown, hts⟩ (ct_K_isSubject l (nI z)) (cwS 1 hts gd_K_81 rfl rfl rfl (by decide +kernel) ⟨Nat.le_of_ble_eq_true rfl, Nat.le_of_ble_eq_true rfl⟩) preEq rfl rfl hl.1 rfl (lv_room (Nat.le_of_ble_eq_true rfl)) d_K_holder_1 ⟨Nat.le_refl _, Nat.le_refl _⟩) ?_
  refine lv_if_ne (tgt := 17) hx hb d_K_holder_4 (by decide) (fun c_4 => ?_) (fun c_4 => ?_)
  · -- to 17
    refine lv_aload_n hx hb d_K_holder_17 rfl (lv_at hl 0 rfl) ?_
    refine kw_get hx hb hts hown hK hP 2 (by decide) fl_K_19 (v := .ref (α 2)) rfl d_K_holder_18 ?_
    refine lv_iload_n hx hb d_K_holder_21 rfl (lv_at hl 1 rfl) ?_
    refine kw_ald hx hb hK hP 0 (by decide) (j := z) rfl hz d_K_holder_22 ?_
    exact r_reti hx hb hr hlocks rfl d_K_holder_23
  · -- on 7
    exact absurd c_4 (by rw [kd_sub_nI hz]; decide)

set_option maxHeartbeats 4000000 in
set_option maxRecDepth 100000 in
theorem ct_K_waits (l : Launch) (D : va_G) (cI cQ : ClassId) (α ad an : Nat → Nat) (n : Nat) (σ : kS) (hI : k_ok n σ.1) (z : Nat) (hz : z < 16) (y : Int32) : Met l y_K_waits w_K_waits { frames := 2, cells := 0, slots := 0, locals := 48 } (gPc D (kty cI cQ) (kw_w cI cQ α ad an n σ) [.ref (α 0), .int (nI z), .int y]) (QcRead (kp_wt σ n z y)) 0 0 (fun _ => False) := by
  refine Met.ofW (cc := b_K_waits) (maxL := 4) (ret := some .int) (by decide) rfl ?_
  intro p e s m args below meth c s₁ B hml hv
  obtain ⟨rfl, hP, hK, hD⟩ := hv
  have hx := B.exec
  have hb := B.bytes
  have hr := B.returns
  have hts : ∀ w ∈ kT, w.before [.ref (α 0), .int (nI z), .int y].toArray s = true := fun w h => atoms_spec (ws := w_K_waits) B.pre w (List.mem_cons_of_mem _ h)
  have hown : s.vm.findClass R_K = some m.cls := findClass_of_methodNamed B.named
  have hlocks := B.notSynchronized
  have hl := lv_entry ([.ref (α 0), .int (nI z), .int y]) (n := 4) (Nat.le_of_ble_eq_true rfl)
  rw [lg_entry_eq]
  generalize (lg_sl ([.ref (α 0), .int (nI z), .int y]) ++ List.replicate (4 - (lg_sl ([.ref (α 0), .int (nI z), .int y])).length) Slot.unset).toArray = ls at hl ⊢
  have hl : lv_has ls 4 [(0, .ref (α 0)), (1, .int (nI z)), (2, .int y)] := hl
  refine lv_iload_n hx hb d_K_waits_0 rfl (lv_at hl 1 rfl) ?_
  refine r_calli (W.runS (As := [.int (nI z)]) (rest := []) ⟨hx, hb, hml, hown, hts⟩ (ct_K_isSubject l (nI z)) (cwS 1 hts gd_K_81 rfl rfl rfl (by decide +kernel) ⟨Nat.le_of_ble_eq_true rfl, Nat.le_of_ble_eq_true rfl⟩) preEq rfl rfl hl.1 rfl (lv_room (Nat.le_of_ble_eq_true rfl)) d_K_waits_1 ⟨Nat.le_refl _, Nat.le_refl _⟩) ?_
  refine lv_if_ne (tgt := 17) hx hb d_K_waits_4 (by decide) (fun c_4 => ?_) (fun c_4 => ?_)
  · -- to 17
    refine lv_aload_n hx hb d_K_waits_17 rfl (lv_at hl 0 rfl) ?_
    refine lv_iload_n hx hb d_K_waits_18 rfl (lv_at hl 1 rfl) ?_
    refine lv_iload_n hx hb d_K_waits_19 rfl (lv_at hl 2 rfl) ?_
    refine r_callq (W.runV (As := [.int (nI z), .int y]) (rest := []) ⟨hx, hb, hml, hown, hts⟩ (ct_K_waiterFor l D cI cQ α ad an n σ hI (nI z) y) (cwV 2 hts gd_K_113 rfl rfl rfl (by decide +kernel) ⟨Nat.le_of_ble_eq_true rfl, Nat.le_of_ble_eq_true rfl⟩) (g_preV hK hP hD (ci := 0) (q0 := 0) rfl kw_0) rfl rfl hl.1 rfl (lv_room (Nat.le_of_ble_eq_true rfl)) d_K_waits_20 ⟨Nat.le_refl _, Nat.le_refl _⟩) ?_
    rcases q_20 : kd_wfp σ n (nI z) y n with _ | i1
    · -- nobody
      refine W.eq (g2 := F0 m 23 ls [.null]) rfl ?_
      refine lv_astore_nN (lv' := [(3, .null), (0, .ref (α 0)), (1, .int (nI z)), (2, .int y)]) hx hb d_K_waits_23 rfl hl (by decide) rfl (fun ls hl => ?_)
      refine lv_aload_nN hx hb d_K_waits_24 rfl (lv_at hl 0 rfl) ?_
      refine lv_ifnonnullN hx hb d_K_waits_25 ?_
      refine lv_iconst (v := (-1)) hx hb d_K_waits_28 (by decide) ?_
      refine lv_goto (tgt := 36) hx hb d_K_waits_29 (by decide) ?_
      exact r_reti hx hb hr hlocks (by rw [kp_wt, q_20]) d_K_waits_36
    · -- i1
      have hi1 : i1 < n := kd_wfp_lt q_20
      refine W.eq (g2 := F0 m 23 ls [.ref (ad i1)]) rfl ?_
      refine lv_astore_n (lv' := [(3, .ref (ad i1)), (0, .ref (α 0)), (1, .int (nI z)), (2, .int y)]) hx hb d_K_waits_23 rfl hl (by decide) rfl (fun ls hl => ?_)
      refine lv_aload_n hx hb d_K_waits_24 rfl (lv_at hl 0 rfl) ?_
      refine lv_ifnonnull (tgt := 32) hx hb d_K_waits_25 (by decide) ?_
      refine lv_aload_n hx hb d_K_waits_32 rfl (lv_at hl 0 rfl) ?_
      refine kw_dget hx hb hts hown hK hP hi1 0 (by decide) fl_K_117 (v := .int (σ.2.2.1 i1 0)) rfl d_K_waits_33 ?_
      exact r_reti hx hb hr hlocks (by rw [kp_wt, q_20]) d_K_waits_36
  · -- on 7
    exact absurd c_4 (by rw [kd_sub_nI hz]; decide)

set_option maxHeartbeats 4000000 in
set_option maxRecDepth 100000 in
theorem ct_K_dead (l : Launch) (D : va_G) (cI cQ : ClassId) (α ad an : Nat → Nat) (n : Nat) (σ : kS) (hI : k_ok n σ.1) (i : Nat) (hi : i < n) : Met l y_K_dead w_K_dead { frames := 2, cells := 0, slots := 0, locals := 41 } (gPc D (kty cI cQ) (kw_w cI cQ α ad an n σ) [.ref (α 0), .int (nI i)]) (gQi D (kw_al α ad an n) ((kp_dead σ i).1) (kw_w cI cQ α ad an n ((kp_dead σ i).2))) 0 0 (gA (kw_al α ad an n)) := by
  refine Met.ofW (cc := b_K_dead) (maxL := 3) (ret := some .int) (by decide) rfl ?_
  intro p e s m args below meth c s₁ B hml hv
  obtain ⟨rfl, hP, hK, hD⟩ := hv
  have hx := B.exec
  have hb := B.bytes
  have hr := B.returns
  have hts : ∀ w ∈ kT, w.before [.ref (α 0), .int (nI i)].toArray s = true := fun w h => atoms_spec (ws := w_K_dead) B.pre w (List.mem_cons_of_mem _ h)
  have hown : s.vm.findClass R_K = some m.cls := findClass_of_methodNamed B.named
  have hlocks := B.notSynchronized
  have hD : va_D (gA (kw_al α ad an n)) (kw_w cI cQ α ad an n σ) := gD kw_adr hD
  have hS : va_S (gA (kw_al α ad an n)) s.heap s.heap [] := va_S.rf
  have hl := lv_entry ([.ref (α 0), .int (nI i)]) (n := 3) (Nat.le_of_ble_eq_true rfl)
  rw [lg_entry_eq]
  generalize (lg_sl ([.ref (α 0), .int (nI i)]) ++ List.replicate (3 - (lg_sl ([.ref (α 0), .int (nI i)])).length) Slot.unset).toArray = ls at hl ⊢
  have hl : lv_has ls 3 [(0, .ref (α 0)), (1, .int (nI i))] := hl
  refine lv_aload_n hx hb d_K_dead_0 rfl (lv_at hl 0 rfl) ?_
  refine lv_iload_n hx hb d_K_dead_1 rfl (lv_at hl 1 rfl) ?_
  refine r_callq (W.runV (As := [.int (nI i)]) (rest := []) ⟨hx, hb, hml, hown, hts⟩ (ct_K_deskAt l D cI cQ α ad an n σ hI (nI i)) (cwV 1 hts gd_K_77 rfl rfl rfl (by decide +kernel) ⟨Nat.le_of_ble_eq_true rfl, Nat.le_of_ble_eq_true rfl⟩) (g_preV hK hP hD (ci := 0) (q0 := 0) rfl kw_0) rfl rfl hl.1 rfl (lv_room (Nat.le_of_ble_eq_true rfl)) d_K_dead_2 ⟨Nat.le_refl _, Nat.le_refl _⟩) ?_
  rw [kd_at_nI hI hi]
  refine W.eq (g2 := F0 m 5 ls [.ref (ad i)]) rfl ?_
  refine lv_astore_n (lv' := [(2, .ref (ad i)), (0, .ref (α 0)), (1, .int (nI i))]) hx hb d_K_dead_5 rfl hl (by decide) rfl (fun ls hl => ?_)
  refine lv_aload_n hx hb d_K_dead_6 rfl (lv_at hl 0 rfl) ?_
  refine lv_ifnonnull (tgt := 20) hx hb d_K_dead_7 (by decide) ?_
  refine lv_aload_n hx hb d_K_dead_20 rfl (lv_at hl 0 rfl) ?_
  refine r_calli (W.runS (As := [.ref (ad i)]) (rest := []) ⟨hx, hb, hml, hown, hts⟩ (ct_K_isAlive l D cI cQ α ad an n σ hI i hi) (cwS 1 hts gd_K_131 rfl rfl rfl (by decide +kernel) ⟨Nat.le_of_ble_eq_true rfl, Nat.le_of_ble_eq_true rfl⟩) (g_preS hK hP hD) rfl rfl hl.1 rfl (lv_room (Nat.le_of_ble_eq_true rfl)) d_K_dead_21 ⟨Nat.le_refl _, Nat.le_refl _⟩) ?_
  refine lv_if_ne (tgt := 29) hx hb d_K_dead_24 (by decide) (fun c_24 => ?_) (fun c_24 => ?_)
  · -- to 29
    refine lv_aload_n hx hb d_K_dead_29 rfl (lv_at hl 0 rfl) ?_
    refine lv_iconst (v := (-1)) hx hb d_K_dead_30 (by decide) ?_
    refine kw_dput hx hb hts hown hK hP hD hS hi 6 (by decide) fl_K_120 rfl rfl rfl d_K_dead_31 (fun H locs hP hD hS => ?_)
    obtain ⟨σ1, e_σ1⟩ : ∃ ζ, ζ = k_d σ i 6 (-1) := ⟨_, rfl⟩
    rw [← e_σ1] at hP hD
    have hI : k_ok n σ1.1 := by rw [e_σ1]; exact hI
    refine lv_aload_n hx hb d_K_dead_34 rfl (lv_at hl 0 rfl) ?_
    refine lv_iconst (v := 1) hx hb d_K_dead_35 (by decide) ?_
    refine kw_dput hx hb hts hown hK hP hD hS hi 8 (by decide) fl_K_134 rfl (by decide +kernel) (by decide +kernel) d_K_dead_36 (fun H locs hP hD hS => ?_)
    obtain ⟨σ2, e_σ2⟩ : ∃ ζ, ζ = k_d σ1 i 8 1 := ⟨_, rfl⟩
    rw [← e_σ2] at hP hD
    have hI : k_ok n σ2.1 := by rw [e_σ2]; exact hI
    refine lv_aload_n hx hb d_K_dead_39 rfl (lv_at hl 1 rfl) ?_
    refine lv_aload_n hx hb d_K_dead_40 rfl (lv_at hl 0 rfl) ?_
    refine r_calli (W.runV (As := [.ref (ad i)]) (rest := []) ⟨hx, hb, hml, hown, hts⟩ (ct_K_heldBy l D cI cQ α ad an n σ2 hI i hi) (cwV 1 hts gd_K_137 rfl rfl rfl (by decide +kernel) ⟨Nat.le_of_ble_eq_true rfl, Nat.le_of_ble_eq_true rfl⟩) (g_preV hK hP hD (ci := 0) (q0 := 0) rfl kw_0) rfl rfl hl.1 rfl (lv_room (Nat.le_of_ble_eq_true rfl)) d_K_dead_41 ⟨Nat.le_refl _, Nat.le_refl _⟩) ?_
    refine r_calli (W.runS (As := [.int (kd_held σ2 i)]) (rest := []) ⟨hx, hb, hml, hown, hts⟩ (ct_I_bitCount l (kd_held σ2 i)) (va_cwS 1 hts gd_K_141 rfl rfl rfl (by decide +kernel) ⟨Nat.le_of_ble_eq_true rfl, Nat.le_of_ble_eq_true rfl⟩) preEq rfl rfl hl.1 rfl (lv_room (Nat.le_of_ble_eq_true rfl)) d_K_dead_44 ⟨Nat.le_refl _, Nat.le_refl _⟩) ?_
    exact g_reti hx hb hr hlocks (by rw [kp_dead, if_neg c_24, e_σ2, e_σ1]) (by rw [kp_dead, if_neg c_24, e_σ2, e_σ1]) hP hS d_K_dead_47
  · -- on 27
    refine lv_iconst (v := (-1)) hx hb d_K_dead_27 (by decide) ?_
    exact g_reti hx hb hr hlocks (by rw [kp_dead, if_pos c_24]) (by rw [kp_dead, if_pos c_24]) hP hS d_K_dead_28

set_option maxHeartbeats 4000000 in
set_option maxRecDepth 100000 in
theorem ct_K_look (l : Launch) (D : va_G) (cI cQ : ClassId) (α ad an : Nat → Nat) (n : Nat) (σ : kS) (hI : k_ok n σ.1) (i : Nat) (hi : i < n) (y : Int32) (hy0 : y = 0 ∨ y = 1 ∨ y = 2 ∨ y = 3 ∨ y = 4) : Met l y_K_look w_K_look { frames := 1, cells := 0, slots := 0, locals := 23 } (gPc D (kty cI cQ) (kw_w cI cQ α ad an n σ) [.ref (α 0), .int (nI i), .int y]) (QcRead (kp_look σ i y)) 0 0 (fun _ => False) := by
  refine Met.ofW (cc := b_K_look) (maxL := 4) (ret := some .int) (by decide) rfl ?_
  intro p e s m args below meth c s₁ B hml hv
  obtain ⟨rfl, hP, hK, hD⟩ := hv
  have hx := B.exec
  have hb := B.bytes
  have hr := B.returns
  have hts : ∀ w ∈ kT, w.before [.ref (α 0), .int (nI i), .int y].toArray s = true := fun w h => atoms_spec (ws := w_K_look) B.pre w (List.mem_cons_of_mem _ h)
  have hown : s.vm.findClass R_K = some m.cls := findClass_of_methodNamed B.named
  have hlocks := B.notSynchronized
  have hl := lv_entry ([.ref (α 0), .int (nI i), .int y]) (n := 4) (Nat.le_of_ble_eq_true rfl)
  rw [lg_entry_eq]
  generalize (lg_sl ([.ref (α 0), .int (nI i), .int y]) ++ List.replicate (4 - (lg_sl ([.ref (α 0), .int (nI i), .int y])).length) Slot.unset).toArray = ls at hl ⊢
  have hl : lv_has ls 4 [(0, .ref (α 0)), (1, .int (nI i)), (2, .int y)] := hl
  refine lv_aload_n hx hb d_K_look_0 rfl (lv_at hl 0 rfl) ?_
  refine lv_iload_n hx hb d_K_look_1 rfl (lv_at hl 1 rfl) ?_
  refine r_callq (W.runV (As := [.int (nI i)]) (rest := []) ⟨hx, hb, hml, hown, hts⟩ (ct_K_deskAt l D cI cQ α ad an n σ hI (nI i)) (cwV 1 hts gd_K_77 rfl rfl rfl (by decide +kernel) ⟨Nat.le_of_ble_eq_true rfl, Nat.le_of_ble_eq_true rfl⟩) (g_preV hK hP hD (ci := 0) (q0 := 0) rfl kw_0) rfl rfl hl.1 rfl (lv_room (Nat.le_of_ble_eq_true rfl)) d_K_look_2 ⟨Nat.le_refl _, Nat.le_refl _⟩) ?_
  rw [kd_at_nI hI hi]
  refine W.eq (g2 := F0 m 5 ls [.ref (ad i)]) rfl ?_
  refine lv_astore_n (lv' := [(3, .ref (ad i)), (0, .ref (α 0)), (1, .int (nI i)), (2, .int y)]) hx hb d_K_look_5 rfl hl (by decide) rfl (fun ls hl => ?_)
  refine lv_aload_n hx hb d_K_look_6 rfl (lv_at hl 0 rfl) ?_
  refine lv_ifnonnull (tgt := 20) hx hb d_K_look_7 (by decide) ?_
  refine lv_iload_n hx hb d_K_look_20 rfl (lv_at hl 3 rfl) ?_
  by_cases h_0 : y = 0
  · subst h_0
    refine lv_tableIn (tgt := 56) (off := 35) hx hb d_K_look_21 (by decide) (by decide) rfl (by decide) ?_
    refine lv_aload_n hx hb d_K_look_56 rfl (lv_at hl 0 rfl) ?_
    refine kw_dget hx hb hts hown hK hP hi 4 (by decide) fl_K_92 (v := .int (σ.2.2.1 i 4)) rfl d_K_look_57 ?_
    exact r_reti hx hb hr hlocks rfl d_K_look_60
  by_cases h_1 : y = 1
  · subst h_1
    refine lv_tableIn (tgt := 61) (off := 40) hx hb d_K_look_21 (by decide) (by decide) rfl (by decide) ?_
    refine lv_aload_n hx hb d_K_look_61 rfl (lv_at hl 0 rfl) ?_
    refine kw_dget hx hb hts hown hK hP hi 5 (by decide) fl_K_167 (v := .int (σ.2.2.1 i 5)) rfl d_K_look_62 ?_
    exact r_reti hx hb hr hlocks rfl d_K_look_65
  by_cases h_2 : y = 2
  · subst h_2
    refine lv_tableIn (tgt := 66) (off := 45) hx hb d_K_look_21 (by decide) (by decide) rfl (by decide) ?_
    refine lv_aload_n hx hb d_K_look_66 rfl (lv_at hl 0 rfl) ?_
    refine r_calli (W.runV (As := []) (rest := []) ⟨hx, hb, hml, hown, hts⟩ (ct_D_condition l D cI cQ α ad an n σ hI i hi) (cwV 0 hts gd_K_157 rfl rfl rfl (by decide +kernel) ⟨Nat.le_of_ble_eq_true rfl, Nat.le_of_ble_eq_true rfl⟩) (g_preV hK hP hD (ci := 1) (q0 := 6 + i) rfl (kw_3 hi)) rfl rfl hl.1 rfl (lv_room (Nat.le_of_ble_eq_true rfl)) d_K_look_67 ⟨Nat.le_refl _, Nat.le_refl _⟩) ?_
    exact r_reti hx hb hr hlocks rfl d_K_look_70
  by_cases h_3 : y = 3
  · subst h_3
    refine lv_tableIn (tgt := 71) (off := 50) hx hb d_K_look_21 (by decide) (by decide) rfl (by decide) ?_
    refine lv_aload_n hx hb d_K_look_71 rfl (lv_at hl 1 rfl) ?_
    refine lv_aload_n hx hb d_K_look_72 rfl (lv_at hl 0 rfl) ?_
    refine r_calli (W.runV (As := [.ref (ad i)]) (rest := []) ⟨hx, hb, hml, hown, hts⟩ (ct_K_heldBy l D cI cQ α ad an n σ hI i hi) (cwV 1 hts gd_K_137 rfl rfl rfl (by decide +kernel) ⟨Nat.le_of_ble_eq_true rfl, Nat.le_of_ble_eq_true rfl⟩) (g_preV hK hP hD (ci := 0) (q0 := 0) rfl kw_0) rfl rfl hl.1 rfl (lv_room (Nat.le_of_ble_eq_true rfl)) d_K_look_73 ⟨Nat.le_refl _, Nat.le_refl _⟩) ?_
    exact r_reti hx hb hr hlocks rfl d_K_look_76
  by_cases h_4 : y = 4
  · subst h_4
    refine lv_tableIn (tgt := 77) (off := 56) hx hb d_K_look_21 (by decide) (by decide) rfl (by decide) ?_
    refine lv_aload_n hx hb d_K_look_77 rfl (lv_at hl 0 rfl) ?_
    refine kw_dget hx hb hts hown hK hP hi 6 (by decide) fl_K_120 (v := .int (σ.2.2.1 i 6)) rfl d_K_look_78 ?_
    exact r_reti hx hb hr hlocks rfl d_K_look_81
  refine lv_tableOut (tgt := 82) hx hb d_K_look_21 (tb_5 h_0 h_1 h_2 h_3 h_4) (by decide) ?_
  exact absurd hy0 (fun q => q.elim h_0 (fun q => q.elim h_1 (fun q => q.elim h_2 (fun q => q.elim h_3 h_4))))

set_option maxHeartbeats 4000000 in
set_option maxRecDepth 100000 in
theorem ct_K_tick (l : Launch) (D : va_G) (cI cQ : ClassId) (α ad an : Nat → Nat) (n : Nat) (σ : kS) (hI : k_ok n σ.1) (x : Int32) (hx1 : ¬ x < σ.1 11) (hx2 : x ≤ 100000) : Met l y_K_tick w_K_tick { frames := 3, cells := 0, slots := 0, locals := 70 } (gPc D (kty cI cQ) (kw_w cI cQ α ad an n σ) [.ref (α 0), .int x]) (gQi D (kw_al α ad an n) ((kd_tickp n (k_f σ 11 x) 16).1) (kw_w cI cQ α ad an n ((kd_tickp n (k_f σ 11 x) 16).2))) 0 0 (gA (kw_al α ad an n)) := by
  refine Met.ofW (cc := b_K_tick) (maxL := 4) (ret := some .int) (by decide) rfl ?_
  intro p e s m args below meth c s₁ B hml hv
  obtain ⟨rfl, hP, hK, hD⟩ := hv
  have hx := B.exec
  have hb := B.bytes
  have hr := B.returns
  have hts : ∀ w ∈ kT, w.before [.ref (α 0), .int x].toArray s = true := fun w h => atoms_spec (ws := w_K_tick) B.pre w (List.mem_cons_of_mem _ h)
  have hown : s.vm.findClass R_K = some m.cls := findClass_of_methodNamed B.named
  have hlocks := B.notSynchronized
  have hD : va_D (gA (kw_al α ad an n)) (kw_w cI cQ α ad an n σ) := gD kw_adr hD
  have hS : va_S (gA (kw_al α ad an n)) s.heap s.heap [] := va_S.rf
  have hl := lv_entry ([.ref (α 0), .int x]) (n := 4) (Nat.le_of_ble_eq_true rfl)
  rw [lg_entry_eq]
  generalize (lg_sl ([.ref (α 0), .int x]) ++ List.replicate (4 - (lg_sl ([.ref (α 0), .int x])).length) Slot.unset).toArray = ls at hl ⊢
  have hl : lv_has ls 4 [(0, .ref (α 0)), (1, .int x)] := hl
  refine lv_iload_n hx hb d_K_tick_0 rfl (lv_at hl 1 rfl) ?_
  refine lv_aload_n hx hb d_K_tick_1 rfl (lv_at hl 0 rfl) ?_
  refine kw_get hx hb hts hown hK hP 11 (by decide) fl_K_47 (v := .int (σ.1 11)) rfl d_K_tick_2 ?_
  refine lv_icmp_lt (tgt := 14) hx hb d_K_tick_5 (by decide) (fun c_5 => ?_) (fun c_5 => ?_)
  · -- to 14
    exact absurd c_5 hx1
  · -- on 8
    refine lv_iload_n hx hb d_K_tick_8 rfl (lv_at hl 1 rfl) ?_
    refine lv_ldc (v := 100000) hx hb hown (hts _ kc_K_147) d_K_tick_9 ?_
    refine lv_icmp_le (tgt := 24) hx hb d_K_tick_11 (by decide) (fun c_11 => ?_) (fun c_11 => ?_)
    · -- to 24
      refine lv_aload_n hx hb d_K_tick_24 rfl (lv_at hl 0 rfl) ?_
      refine lv_iload_n hx hb d_K_tick_25 rfl (lv_at hl 1 rfl) ?_
      refine kw_put hx hb hts hown hK hP hD hS 11 (by decide) fl_K_47 rfl rfl rfl d_K_tick_26 (fun H locs hP hD hS => ?_)
      obtain ⟨σ1, e_σ1⟩ : ∃ ζ, ζ = k_f σ 11 x := ⟨_, rfl⟩
      rw [← e_σ1] at hP hD
      have hI : k_ok n σ1.1 := by rw [e_σ1]; exact (k_ok_f hI (by decide))
      refine lv_iconst (v := 0) hx hb d_K_tick_29 (by decide) ?_
      refine lv_istore_n (lv' := [(2, .int 0), (0, .ref (α 0)), (1, .int x)]) hx hb d_K_tick_30 rfl hl (by decide) rfl (fun ls hl => ?_)
      refine lv_iconst (v := 0) hx hb d_K_tick_31 (by decide) ?_
      refine lv_istore_n (lv' := [(3, .int 0), (2, .int 0), (0, .ref (α 0)), (1, .int x)]) hx hb d_K_tick_32 rfl hl (by decide) rfl (fun ls hl => ?_)
      have lp33 : ∀ (fu j : Nat) (acc : Int32) (ς : kS) (H : Heap) (locs : List Loc) (ls : Array Slot), j ≤ 16 → 16 - j < fu → acc = (kd_tickp n σ1 j).1 → ς = (kd_tickp n σ1 j).2 → va_P D kcl (kw_w cI cQ α ad an n ς) H → va_D (gA (kw_al α ad an n)) (kw_w cI cQ α ad an n ς) → va_S (gA (kw_al α ad an n)) s.heap H locs → lv_has ls 4 [(3, .int (nI j)), (2, .int acc), (0, .ref (α 0)), (1, .int x)] → W p l e (headSpec w_K_tick { frames := 3, cells := 0, slots := 0, locals := 70 }).room s m [.ref (α 0), .int x].toArray below meth c H locs 0 0 (MQ below (gQi D (kw_al α ad an n) ((kd_tickp n (k_f σ 11 x) 16).1) (kw_w cI cQ α ad an n ((kd_tickp n (k_f σ 11 x) 16).2))) [.ref (α 0), .int x].toArray s 0 0 (gA (kw_al α ad an n))) (F0 m 33 ls []) := by
        intro fu
        induction fu with
        | zero => intro j acc ς H locs ls h1 h2; omega
        | succ fu ih =>
          intro j acc ς H locs ls hj33 hf33 e_acc  e_ς hP hD hS hl
          have hI : k_ok n ς.1 := by rw [e_ς, kd_tickp_1]; exact hI
          refine lv_iload_n hx hb d_K_tick_33 rfl (lv_at hl 0 rfl) ?_
          refine lv_bipush (v := 16) hx hb d_K_tick_34 (by decide) ?_
          refine lv_icmp_ge (tgt := 61) hx hb d_K_tick_36 (by decide) (fun c_36 => ?_) (fun c_36 => ?_)
          · -- to 61
            have hx33 : j = 16 := lp_eq (B := 16) (hn := (by decide)) c_36 hj33
            subst hx33
            refine lv_iload_n hx hb d_K_tick_61 rfl (lv_at hl 1 rfl) ?_
            exact g_reti hx hb hr hlocks (by rw [e_acc, e_σ1]) (by rw [e_ς, e_σ1]) hP hS d_K_tick_62
          · -- on 39
            have hl33 : j < 16 := lp_lt (B := 16) (hn := (by decide)) c_36 hj33
            refine lv_aload_n hx hb d_K_tick_39 rfl (lv_at hl 2 rfl) ?_
            refine lv_iload_n hx hb d_K_tick_40 rfl (lv_at hl 0 rfl) ?_
            refine r_calli (W.runV (As := [.int (nI j)]) (rest := []) ⟨hx, hb, hml, hown, hts⟩ (ct_K_isOverdue l D cI cQ α ad an n ς hI j hl33) (cwV 1 hts gd_K_150 rfl rfl rfl (by decide +kernel) ⟨Nat.le_of_ble_eq_true rfl, Nat.le_of_ble_eq_true rfl⟩) (g_preV hK hP hD (ci := 0) (q0 := 0) rfl kw_0) rfl rfl hl.1 rfl (lv_room (Nat.le_of_ble_eq_true rfl)) d_K_tick_41 ⟨Nat.le_refl _, Nat.le_refl _⟩) ?_
            refine lv_if_eq (tgt := 55) hx hb d_K_tick_44 (by decide) (fun c_44 => ?_) (fun c_44 => ?_)
            · -- to 55
              refine lv_iinc (v := nI (j + 1)) (lv' := [(3, .int (nI (j + 1))), (2, .int acc), (0, .ref (α 0)), (1, .int x)]) hx hb d_K_tick_55 hl (k := 0) rfl (nI_1 j) (by decide) rfl (fun ls hl => ?_)
              refine lv_goto (tgt := 33) hx hb d_K_tick_58 (by decide) ?_
              exact ih (j + 1) acc _ _ _ ls (by omega) (by omega) (by rw [kd_tickp, ← e_ς, if_pos c_44]; exact e_acc) (by rw [kd_tickp, ← e_ς, if_pos c_44]; exact e_ς) hP hD hS (lv_sub hl [0, 1, 2, 3] rfl)
            · -- on 47
              refine lv_aload_n hx hb d_K_tick_47 rfl (lv_at hl 2 rfl) ?_
              refine lv_iload_n hx hb d_K_tick_48 rfl (lv_at hl 0 rfl) ?_
              refine g_callv (va_runV (As := [.int (nI j)]) (rest := []) ⟨hx, hb, hml, hown, hts⟩ (ct_K_giveBack l D cI cQ α ad an n ς hI j hl33) (cwV 1 hts gd_K_153 rfl rfl rfl (by decide +kernel) ⟨Nat.le_of_ble_eq_true rfl, Nat.le_of_ble_eq_true rfl⟩) (g_preV hK hP hD (ci := 0) (q0 := 0) rfl kw_0) rfl rfl hl.1 rfl (lv_room (Nat.le_of_ble_eq_true rfl)) d_K_tick_49 ⟨Nat.le_refl _, Nat.le_refl _⟩) hD hS (kw_addr _) (fun H locs hP hD hS => ?_)
              obtain ⟨σ2, e_σ2⟩ : ∃ ζ, ζ = kd_gb n ς j := ⟨_, rfl⟩
              rw [← e_σ2] at hP hD
              have hI : k_ok n σ2.1 := by rw [e_σ2]; exact (by rw [kd_gb_1]; exact hI)
              refine lv_iinc (v := acc + 1) (lv' := [(2, .int (acc + 1)), (3, .int (nI j)), (0, .ref (α 0)), (1, .int x)]) hx hb d_K_tick_52 hl (k := 1) rfl rfl (by decide) rfl (fun ls hl => ?_)
              refine lv_iinc (v := nI (j + 1)) (lv' := [(3, .int (nI (j + 1))), (2, .int (acc + 1)), (0, .ref (α 0)), (1, .int x)]) hx hb d_K_tick_55 hl (k := 1) rfl (nI_1 j) (by decide) rfl (fun ls hl => ?_)
              refine lv_goto (tgt := 33) hx hb d_K_tick_58 (by decide) ?_
              exact ih (j + 1) (acc + 1) _ _ _ ls (by omega) (by omega) (by rw [kd_tickp, ← e_ς, if_neg c_44]; exact congrArg (fun z => z + 1) e_acc) (by rw [e_σ2, kd_tickp, ← e_ς, if_neg c_44]) hP hD hS (lv_sub hl [0, 1, 2, 3] rfl)
      exact lp33 (16 - 0 + 1) 0 _ _ _ _ ls (by omega) (by omega) rfl  rfl hP hD hS (lv_sub hl [0, 1, 2, 3] rfl)
    · -- on 14
      exact absurd hx2 c_11

set_option maxHeartbeats 4000000 in
set_option maxRecDepth 100000 in
theorem ct_K_turn (l : Launch) (D : va_G) (cI cQ : ClassId) (α ad an : Nat → Nat) (n : Nat) (σ : kS) (hI : k_ok n σ.1) (i : Nat) (hi : i < n) (hc0 : σ.1 12 = 0) (ht0 : ¬ (300 : Int32) ≤ σ.1 6) : Met l y_K_turn w_K_turn { frames := 1, cells := 0, slots := 0, locals := 21 } (gPc D (kty cI cQ) (kw_w cI cQ α ad an n σ) [.ref (α 0), .int (nI i)]) (gQi D (kw_al α ad an n) ((kp_turn σ (nI i)).1) (kw_w cI cQ α ad an n ((kp_turn σ (nI i)).2))) 0 0 (gA (kw_al α ad an n)) := by
  refine Met.ofW (cc := b_K_turn) (maxL := 2) (ret := some .int) (by decide) rfl ?_
  intro p e s m args below meth c s₁ B hml hv
  obtain ⟨rfl, hP, hK, hD⟩ := hv
  have hx := B.exec
  have hb := B.bytes
  have hr := B.returns
  have hts : ∀ w ∈ kT, w.before [.ref (α 0), .int (nI i)].toArray s = true := fun w h => atoms_spec (ws := w_K_turn) B.pre w (List.mem_cons_of_mem _ h)
  have hown : s.vm.findClass R_K = some m.cls := findClass_of_methodNamed B.named
  have hlocks := B.notSynchronized
  have hD : va_D (gA (kw_al α ad an n)) (kw_w cI cQ α ad an n σ) := gD kw_adr hD
  have hS : va_S (gA (kw_al α ad an n)) s.heap s.heap [] := va_S.rf
  have hl := lv_entry ([.ref (α 0), .int (nI i)]) (n := 2) (Nat.le_of_ble_eq_true rfl)
  rw [lg_entry_eq]
  generalize (lg_sl ([.ref (α 0), .int (nI i)]) ++ List.replicate (2 - (lg_sl ([.ref (α 0), .int (nI i)])).length) Slot.unset).toArray = ls at hl ⊢
  have hl : lv_has ls 2 [(0, .ref (α 0)), (1, .int (nI i))] := hl
  refine lv_aload_n hx hb d_K_turn_0 rfl (lv_at hl 0 rfl) ?_
  refine lv_iload_n hx hb d_K_turn_1 rfl (lv_at hl 1 rfl) ?_
  refine r_callq (W.runV (As := [.int (nI i)]) (rest := []) ⟨hx, hb, hml, hown, hts⟩ (ct_K_deskAt l D cI cQ α ad an n σ hI (nI i)) (cwV 1 hts gd_K_77 rfl rfl rfl (by decide +kernel) ⟨Nat.le_of_ble_eq_true rfl, Nat.le_of_ble_eq_true rfl⟩) (g_preV hK hP hD (ci := 0) (q0 := 0) rfl kw_0) rfl rfl hl.1 rfl (lv_room (Nat.le_of_ble_eq_true rfl)) d_K_turn_2 ⟨Nat.le_refl _, Nat.le_refl _⟩) ?_
  rw [kd_at_nI hI hi]
  refine W.eq (g2 := F0 m 5 ls [.ref (ad i)]) rfl ?_
  refine lv_ifnonnull (tgt := 18) hx hb d_K_turn_5 (by decide) ?_
  refine lv_aload_n hx hb d_K_turn_18 rfl (lv_at hl 0 rfl) ?_
  refine kw_get hx hb hts hown hK hP 12 (by decide) fl_K_50 (v := .int (σ.1 12)) rfl d_K_turn_19 ?_
  refine lv_if_ne (tgt := 35) hx hb d_K_turn_22 (by decide) (fun c_22 => ?_) (fun c_22 => ?_)
  · -- to 35
    exact absurd hc0 c_22
  · -- on 25
    refine lv_aload_n hx hb d_K_turn_25 rfl (lv_at hl 0 rfl) ?_
    refine kw_get hx hb hts hown hK hP 6 (by decide) fl_K_32 (v := .int (σ.1 6)) rfl d_K_turn_26 ?_
    refine lv_sipush (v := 300) hx hb d_K_turn_29 (by decide) ?_
    refine lv_icmp_lt (tgt := 45) hx hb d_K_turn_32 (by decide) (fun c_32 => ?_) (fun c_32 => ?_)
    · -- to 45
      refine lv_aload_n hx hb d_K_turn_45 rfl (lv_at hl 0 rfl) ?_
      refine kw_get hx hb hts hown hK hP 5 (by decide) fl_K_29 (v := .ref (α 4)) rfl d_K_turn_46 ?_
      refine lv_aload_n hx hb d_K_turn_49 rfl (lv_at hl 0 rfl) ?_
      refine kw_get hx hb hts hown hK hP 6 (by decide) fl_K_32 (v := .int (σ.1 6)) rfl d_K_turn_50 ?_
      refine lv_iload_n hx hb d_K_turn_53 rfl (lv_at hl 1 rfl) ?_
      refine kw_ast hx hb hK hP hD hS 2 (by decide) (j := (σ.1 6).toNatClampNeg) (ix_e (k_ok_t0 hI)) (ix_l (B := 300) (k_ok_t0 hI) ht0) d_K_turn_54 (fun H locs hP hD hS => ?_)
      obtain ⟨σ1, e_σ1⟩ : ∃ ζ, ζ = k_a σ 2 ((σ.1 6).toNatClampNeg) (nI i) := ⟨_, rfl⟩
      rw [← e_σ1] at hP hD
      have hI : k_ok n σ1.1 := by rw [e_σ1]; exact hI
      refine lv_aload_n hx hb d_K_turn_55 rfl (lv_at hl 0 rfl) ?_
      refine lv_dup hx hb d_K_turn_56 rfl ?_
      refine kw_get hx hb hts hown hK hP 6 (by decide) fl_K_32 (v := .int (σ1.1 6)) rfl d_K_turn_57 ?_
      refine lv_iconst (v := 1) hx hb d_K_turn_60 (by decide) ?_
      refine lv_iadd hx hb d_K_turn_61 ?_
      refine kw_put hx hb hts hown hK hP hD hS 6 (by decide) fl_K_32 rfl rfl rfl d_K_turn_62 (fun H locs hP hD hS => ?_)
      obtain ⟨σ2, e_σ2⟩ : ∃ ζ, ζ = k_f σ1 6 ((σ1.1 6) + 1) := ⟨_, rfl⟩
      rw [← e_σ2] at hP hD
      refine lv_aload_n hx hb d_K_turn_65 rfl (lv_at hl 0 rfl) ?_
      refine kw_get hx hb hts hown hK hP 6 (by decide) fl_K_32 (v := .int (σ2.1 6)) rfl d_K_turn_66 ?_
      refine lv_aload_n hx hb d_K_turn_69 rfl (lv_at hl 0 rfl) ?_
      refine kw_get hx hb hts hown hK hP 7 (by decide) fl_K_35 (v := .int (σ2.1 7)) rfl d_K_turn_70 ?_
      refine lv_isub hx hb d_K_turn_73 ?_
      exact g_reti hx hb hr hlocks (by rw [kp_turn, e_σ2, e_σ1]) (by rw [kp_turn, e_σ2, e_σ1]) hP hS d_K_turn_74
    · -- on 35
      exact absurd (i32_lt_of ht0) c_32
end
section
set_option maxHeartbeats 4000000 in
set_option maxRecDepth 100000 in
theorem ct_K_run (l : Launch) (D : va_G) (cI cQ : ClassId) (α ad an : Nat → Nat) (n : Nat) (σ : kS) (hI : k_ok n σ.1) (hc0 : σ.1 12 = 0) (t r : Nat) (hrt : r ≤ t) (ht : t ≤ 300) (e6 : σ.1 6 = nI t) (e7 : σ.1 7 = nI r) : Met l y_K_run w_K_run { frames := 6, cells := 0, slots := 0, locals := 136 } (gPc D (kty cI cQ) (kw_w cI cQ α ad an n σ) [.ref (α 0)]) (gQi D (kw_al α ad an n) ((kp_run n σ r (t - r)).1) (kw_w cI cQ α ad an n ((kp_run n σ r (t - r)).2))) 0 0 (gA (kw_al α ad an n)) := by
  refine Met.ofW (cc := b_K_run) (maxL := 4) (ret := some .int) (by decide) rfl ?_
  intro p e s m args below meth c s₁ B hml hv
  obtain ⟨rfl, hP, hK, hD⟩ := hv
  have hx := B.exec
  have hb := B.bytes
  have hr := B.returns
  have hts : ∀ w ∈ kT, w.before [.ref (α 0)].toArray s = true := fun w h => atoms_spec (ws := w_K_run) B.pre w (List.mem_cons_of_mem _ h)
  have hown : s.vm.findClass R_K = some m.cls := findClass_of_methodNamed B.named
  have hlocks := B.notSynchronized
  have hD : va_D (gA (kw_al α ad an n)) (kw_w cI cQ α ad an n σ) := gD kw_adr hD
  have hS : va_S (gA (kw_al α ad an n)) s.heap s.heap [] := va_S.rf
  have hl := lv_entry ([.ref (α 0)]) (n := 4) (Nat.le_of_ble_eq_true rfl)
  rw [lg_entry_eq]
  generalize (lg_sl ([.ref (α 0)]) ++ List.replicate (4 - (lg_sl ([.ref (α 0)])).length) Slot.unset).toArray = ls at hl ⊢
  have hl : lv_has ls 4 [(0, .ref (α 0))] := hl
  refine lv_aload_n hx hb d_K_run_0 rfl (lv_at hl 0 rfl) ?_
  refine kw_get hx hb hts hown hK hP 12 (by decide) fl_K_50 (v := .int (σ.1 12)) rfl d_K_run_1 ?_
  refine lv_if_eq (tgt := 17) hx hb d_K_run_4 (by decide) (fun c_4 => ?_) (fun c_4 => ?_)
  · -- to 17
    refine lv_iconst (v := 0) hx hb d_K_run_17 (by decide) ?_
    refine lv_istore_n (lv' := [(1, .int 0), (0, .ref (α 0))]) hx hb d_K_run_18 rfl hl (by decide) rfl (fun ls hl => ?_)
    refine lv_aload_n hx hb d_K_run_19 rfl (lv_at hl 1 rfl) ?_
    refine kw_get hx hb hts hown hK hP 7 (by decide) fl_K_35 (v := .int (σ.1 7)) rfl d_K_run_20 ?_
    refine lv_istore_n (lv' := [(2, .int (σ.1 7)), (1, .int 0), (0, .ref (α 0))]) hx hb d_K_run_23 rfl hl (by decide) rfl (fun ls hl => ?_)
    have lp24 : ∀ (fu k : Nat) (acc : Int32) (ς : kS) (H : Heap) (locs : List Loc) (ls : Array Slot), r + k ≤ t → t - (r + k) < fu → acc = (kd_runp n σ r k).1 → ς = (kd_runp n σ r k).2 → va_P D kcl (kw_w cI cQ α ad an n ς) H → va_D (gA (kw_al α ad an n)) (kw_w cI cQ α ad an n ς) → va_S (gA (kw_al α ad an n)) s.heap H locs → lv_has ls 4 [(2, .int (nI (r + k))), (1, .int acc), (0, .ref (α 0))] → W p l e (headSpec w_K_run { frames := 6, cells := 0, slots := 0, locals := 136 }).room s m [.ref (α 0)].toArray below meth c H locs 0 0 (MQ below (gQi D (kw_al α ad an n) ((kp_run n σ r (t - r)).1) (kw_w cI cQ α ad an n ((kp_run n σ r (t - r)).2))) [.ref (α 0)].toArray s 0 0 (gA (kw_al α ad an n))) (F0 m 24 ls []) := by
      intro fu
      induction fu with
      | zero => intro k acc ς H locs ls h1 h2; omega
      | succ fu ih =>
        intro k acc ς H locs ls hk24 hf24 e_acc e_ς hP hD hS hl
        obtain ⟨hI, h6⟩ : k_ok n ς.1 ∧ ς.1 6 = nI t := by rw [e_ς, ← e6]; exact kd_runp_ok hI k
        have epq : kd_runp n σ r k = (acc, ς) := by rw [e_acc, e_ς]
        refine lv_iload_n hx hb d_K_run_24 rfl (lv_at hl 0 rfl) ?_
        refine lv_aload_n hx hb d_K_run_25 rfl (lv_at hl 2 rfl) ?_
        refine kw_get hx hb hts hown hK hP 6 (by decide) fl_K_32 (v := .int (ς.1 6)) rfl d_K_run_26 ?_
        refine lv_icmp_ge (tgt := 73) hx hb d_K_run_29 (by decide) (fun c_29 => ?_) (fun c_29 => ?_)
        · -- to 73
          have hkt : k = t - r := by
            rw [h6] at c_29
            have := lp_eq (B := t) (hn := by omega) c_29 hk24
            omega
          rw [hkt] at e_acc e_ς
          refine lv_aload_n hx hb d_K_run_73 rfl (lv_at hl 2 rfl) ?_
          refine lv_aload_n hx hb d_K_run_74 rfl (lv_at hl 2 rfl) ?_
          refine kw_get hx hb hts hown hK hP 6 (by decide) fl_K_32 (v := .int (ς.1 6)) rfl d_K_run_75 ?_
          refine kw_put hx hb hts hown hK hP hD hS 7 (by decide) fl_K_35 rfl rfl rfl d_K_run_78 (fun H locs hP hD hS => ?_)
          obtain ⟨σ1, e_σ1⟩ : ∃ ζ, ζ = k_f ς 7 (ς.1 6) := ⟨_, rfl⟩
          rw [← e_σ1] at hP hD
          refine lv_iload_n hx hb d_K_run_81 rfl (lv_at hl 1 rfl) ?_
          exact g_reti hx hb hr hlocks (by rw [kp_run, e_acc]) (by rw [kp_run, e_σ1, e_ς]) hP hS d_K_run_82
        · -- on 32
          have hlt : r + k < t := by
            rw [h6] at c_29
            exact lp_lt (B := t) (hn := by omega) c_29 hk24
          refine lv_iload_n hx hb d_K_run_32 rfl (lv_at hl 0 rfl) ?_
          refine lv_aload_n hx hb d_K_run_33 rfl (lv_at hl 2 rfl) ?_
          refine kw_get hx hb hts hown hK hP 5 (by decide) fl_K_29 (v := .ref (α 4)) rfl d_K_run_34 ?_
          refine kw_alen hx hb hK hP 2 (by decide) (v := 300) rfl d_K_run_37 ?_
          refine lv_icmp_ge (tgt := 73) hx hb d_K_run_38 (by decide) (fun c_38 => ?_) (fun c_38 => ?_)
          · -- to 73
            exact absurd c_38 (nI_ge (b := 300) (show r + k < 300 by omega) (by decide))
          · -- on 41
            refine lv_aload_n hx hb d_K_run_41 rfl (lv_at hl 2 rfl) ?_
            refine lv_aload_n hx hb d_K_run_42 rfl (lv_at hl 2 rfl) ?_
            refine kw_get hx hb hts hown hK hP 5 (by decide) fl_K_29 (v := .ref (α 4)) rfl d_K_run_43 ?_
            refine lv_iload_n hx hb d_K_run_46 rfl (lv_at hl 0 rfl) ?_
            refine kw_ald hx hb hK hP 2 (by decide) (j := (r + k)) rfl (show r + k < 300 by omega) d_K_run_47 ?_
            refine r_callq (W.runV (As := [.int (ς.2.1 2 (r + k))]) (rest := []) ⟨hx, hb, hml, hown, hts⟩ (ct_K_deskAt l D cI cQ α ad an n ς hI (ς.2.1 2 (r + k))) (cwV 1 hts gd_K_77 rfl rfl rfl (by decide +kernel) ⟨Nat.le_of_ble_eq_true rfl, Nat.le_of_ble_eq_true rfl⟩) (g_preV hK hP hD (ci := 0) (q0 := 0) rfl kw_0) rfl rfl hl.1 rfl (lv_room (Nat.le_of_ble_eq_true rfl)) d_K_run_48 ⟨Nat.le_refl _, Nat.le_refl _⟩) ?_
            rcases q_48 : kd_at n (ς.2.1 2 (r + k)) with _ | i1
            · -- nobody
              refine W.eq (g2 := F0 m 51 ls [.null]) rfl ?_
              refine lv_astore_nN (lv' := [(3, .null), (2, .int (nI (r + k))), (1, .int acc), (0, .ref (α 0))]) hx hb d_K_run_51 rfl hl (by decide) rfl (fun ls hl => ?_)
              refine lv_aload_nN hx hb d_K_run_52 rfl (lv_at hl 0 rfl) ?_
              refine lv_ifnullN (tgt := 67) hx hb d_K_run_53 (by decide) ?_
              refine lv_iinc (v := nI ((r + k) + 1)) (lv' := [(2, .int (nI ((r + k) + 1))), (3, .null), (1, .int acc), (0, .ref (α 0))]) hx hb d_K_run_67 hl (k := 1) rfl (nI_1 (r + k)) (by decide) rfl (fun ls hl => ?_)
              refine lv_goto (tgt := 24) hx hb d_K_run_70 (by decide) ?_
              have e9 : kd_runp n σ r (k + 1) = (match kd_at n (ς.2.1 2 (r + k)) with
                | none => (acc, ς)
                | some i => (if (kd_turn n ς i).1 = 0 then acc else acc + 1, (kd_turn n ς i).2)) := by rw [kd_runp, epq]; rfl
              rw [q_48] at e9
              dsimp only at e9
              have hl : lv_has ls 4 [(2, .int (nI (r + (k + 1)))), (1, .int acc), (0, .ref (α 0))] := lv_sub hl [0, 2, 3] rfl
              exact ih (k + 1) acc _ _ _ ls (by omega) (by omega) (by rw [e9]) (by rw [e9]) hP hD hS hl
            · -- i1
              have hi1 : i1 < n := kd_at_lt hI q_48
              refine W.eq (g2 := F0 m 51 ls [.ref (ad i1)]) rfl ?_
              refine lv_astore_n (lv' := [(3, .ref (ad i1)), (2, .int (nI (r + k))), (1, .int acc), (0, .ref (α 0))]) hx hb d_K_run_51 rfl hl (by decide) rfl (fun ls hl => ?_)
              refine lv_aload_n hx hb d_K_run_52 rfl (lv_at hl 0 rfl) ?_
              refine lv_ifnull hx hb d_K_run_53 ?_
              refine lv_aload_n hx hb d_K_run_56 rfl (lv_at hl 3 rfl) ?_
              refine lv_aload_n hx hb d_K_run_57 rfl (lv_at hl 0 rfl) ?_
              refine g_calli (va_runV (As := [.ref (ad i1)]) (rest := []) ⟨hx, hb, hml, hown, hts⟩ (ct_K_takeTurn l D cI cQ α ad an n ς hI i1 hi1) (cwV 1 hts gd_K_108 rfl rfl rfl (by decide +kernel) ⟨Nat.le_of_ble_eq_true rfl, Nat.le_of_ble_eq_true rfl⟩) (g_preV hK hP hD (ci := 0) (q0 := 0) rfl kw_0) rfl rfl hl.1 rfl (lv_room (Nat.le_of_ble_eq_true rfl)) d_K_run_58 ⟨Nat.le_refl _, Nat.le_refl _⟩) hD hS (kw_addr _) (fun H locs hP hD hS => ?_)
              obtain ⟨σ2, e_σ2⟩ : ∃ ζ, ζ = (kd_turn n ς i1).2 := ⟨_, rfl⟩
              rw [← e_σ2] at hP hD
              have hI : k_ok n σ2.1 := by rw [e_σ2]; exact (k_ok_turn hI)
              refine lv_if_eq (tgt := 67) hx hb d_K_run_61 (by decide) (fun c_61 => ?_) (fun c_61 => ?_)
              · -- to 67
                refine lv_iinc (v := nI ((r + k) + 1)) (lv' := [(2, .int (nI ((r + k) + 1))), (3, .ref (ad i1)), (1, .int acc), (0, .ref (α 0))]) hx hb d_K_run_67 hl (k := 1) rfl (nI_1 (r + k)) (by decide) rfl (fun ls hl => ?_)
                refine lv_goto (tgt := 24) hx hb d_K_run_70 (by decide) ?_
                have e9 : kd_runp n σ r (k + 1) = (match kd_at n (ς.2.1 2 (r + k)) with
                  | none => (acc, ς)
                  | some i => (if (kd_turn n ς i).1 = 0 then acc else acc + 1, (kd_turn n ς i).2)) := by rw [kd_runp, epq]; rfl
                rw [q_48] at e9
                dsimp only at e9
                have hl : lv_has ls 4 [(2, .int (nI (r + (k + 1)))), (1, .int acc), (0, .ref (α 0))] := lv_sub hl [0, 2, 3] rfl
                exact ih (k + 1) acc _ _ _ ls (by omega) (by omega) (by rw [e9, if_pos c_61]) (by rw [e9, e_σ2]) hP hD hS hl
              · -- on 64
                refine lv_iinc (v := acc + 1) (lv' := [(1, .int (acc + 1)), (3, .ref (ad i1)), (2, .int (nI (r + k))), (0, .ref (α 0))]) hx hb d_K_run_64 hl (k := 2) rfl rfl (by decide) rfl (fun ls hl => ?_)
                refine lv_iinc (v := nI ((r + k) + 1)) (lv' := [(2, .int (nI ((r + k) + 1))), (1, .int (acc + 1)), (3, .ref (ad i1)), (0, .ref (α 0))]) hx hb d_K_run_67 hl (k := 2) rfl (nI_1 (r + k)) (by decide) rfl (fun ls hl => ?_)
                refine lv_goto (tgt := 24) hx hb d_K_run_70 (by decide) ?_
                have e9 : kd_runp n σ r (k + 1) = (match kd_at n (ς.2.1 2 (r + k)) with
                  | none => (acc, ς)
                  | some i => (if (kd_turn n ς i).1 = 0 then acc else acc + 1, (kd_turn n ς i).2)) := by rw [kd_runp, epq]; rfl
                rw [q_48] at e9
                dsimp only at e9
                have hl : lv_has ls 4 [(2, .int (nI (r + (k + 1)))), (1, .int (acc + 1)), (0, .ref (α 0))] := lv_sub hl [0, 1, 3] rfl
                exact ih (k + 1) (acc + 1) _ _ _ ls (by omega) (by omega) (by rw [e9, if_neg c_61]) (by rw [e9, e_σ2]) hP hD hS hl
    have hl : lv_has ls 4 [(2, .int (nI (r + 0))), (1, .int 0), (0, .ref (α 0))] := by rw [Nat.add_zero, ← e7]; exact lv_sub hl [0, 1, 2] rfl
    exact lp24 (t - r + 1) 0 _ _ _ _ ls (by omega) (by omega) rfl rfl hP hD hS hl
  · -- on 7
    exact absurd hc0 c_4
end
section
set_option maxHeartbeats 4000000 in
set_option maxRecDepth 100000 in
theorem ct_M_thrown (l : Launch) (D : va_G) (cI cQ : ClassId) (β : Nat → Nat) (n : Nat) (τ : mS) (hI : m_ok n τ.1)  : Met l y_M_thrown w_M_thrown { frames := 0, cells := 0, slots := 0, locals := 0 } (gPc D (kty cI cQ) (mw_w cI β τ) [.ref (β 0)]) (QcRead (τ.1 0)) 0 0 (fun _ => False) := by
  refine Met.ofW (cc := b_M_thrown) (maxL := 1) (ret := some .int) (by decide) rfl ?_
  intro p e s m args below meth c s₁ B hml hv
  obtain ⟨rfl, hP, hK, hD⟩ := hv
  have hx := B.exec
  have hb := B.bytes
  have hr := B.returns
  have hts : ∀ w ∈ kT, w.before [.ref (β 0)].toArray s = true := fun w h => atoms_spec (ws := w_M_thrown) B.pre w (List.mem_cons_of_mem _ h)
  have hown : s.vm.findClass R_M = some m.cls := findClass_of_methodNamed B.named
  have hlocks := B.notSynchronized
  have hl := lv_entry ([.ref (β 0)]) (n := 1) (Nat.le_of_ble_eq_true rfl)
  rw [lg_entry_eq]
  generalize (lg_sl ([.ref (β 0)]) ++ List.replicate (1 - (lg_sl ([.ref (β 0)])).length) Slot.unset).toArray = ls at hl ⊢
  have hl : lv_has ls 1 [(0, .ref (β 0))] := hl
  refine lv_aload_n hx hb d_M_thrown_0 rfl (lv_at hl 0 rfl) ?_
  refine mw_get hx hb hts hown hK hP 0 (by decide) fl_M_46 (v := .int (τ.1 0)) rfl d_M_thrown_1 ?_
  exact r_reti hx hb hr hlocks rfl d_M_thrown_4

set_option maxHeartbeats 4000000 in
set_option maxRecDepth 100000 in
theorem ct_M_refuse (l : Launch) (D : va_G) (cI cQ : ClassId) (β : Nat → Nat) (n : Nat) (τ : mS) (hI : m_ok n τ.1) (x : Int32) : Met l y_M_refuse w_M_refuse { frames := 0, cells := 0, slots := 0, locals := 0 } (gPc D (kty cI cQ) (mw_w cI β τ) [.ref (β 0), .int x]) (gQi D (mw_al β) (0) (mw_w cI β (m_f τ 0 x))) 0 0 (gA (mw_al β)) := by
  refine Met.ofW (cc := b_M_refuse) (maxL := 2) (ret := some .int) (by decide) rfl ?_
  intro p e s m args below meth c s₁ B hml hv
  obtain ⟨rfl, hP, hK, hD⟩ := hv
  have hx := B.exec
  have hb := B.bytes
  have hr := B.returns
  have hts : ∀ w ∈ kT, w.before [.ref (β 0), .int x].toArray s = true := fun w h => atoms_spec (ws := w_M_refuse) B.pre w (List.mem_cons_of_mem _ h)
  have hown : s.vm.findClass R_M = some m.cls := findClass_of_methodNamed B.named
  have hlocks := B.notSynchronized
  have hD : va_D (gA (mw_al β)) (mw_w cI β τ) := gD mw_addr hD
  have hS : va_S (gA (mw_al β)) s.heap s.heap [] := va_S.rf
  have hl := lv_entry ([.ref (β 0), .int x]) (n := 2) (Nat.le_of_ble_eq_true rfl)
  rw [lg_entry_eq]
  generalize (lg_sl ([.ref (β 0), .int x]) ++ List.replicate (2 - (lg_sl ([.ref (β 0), .int x])).length) Slot.unset).toArray = ls at hl ⊢
  have hl : lv_has ls 2 [(0, .ref (β 0)), (1, .int x)] := hl
  refine lv_aload_n hx hb d_M_refuse_0 rfl (lv_at hl 0 rfl) ?_
  refine lv_iload_n hx hb d_M_refuse_1 rfl (lv_at hl 1 rfl) ?_
  refine mw_put hx hb hts hown hK hP hD hS 0 (by unfold mw_is; decide) fl_M_46 rfl rfl rfl d_M_refuse_2 (fun H locs hP hD hS => ?_)
  obtain ⟨τ1, e_τ1⟩ : ∃ ζ, ζ = m_f τ 0 x := ⟨_, rfl⟩
  rw [← e_τ1] at hP hD
  have hI : m_ok n τ1.1 := by rw [e_τ1]; exact (m_ok_f hI (by decide))
  refine lv_iconst (v := 0) hx hb d_M_refuse_5 (by decide) ?_
  exact g_reti hx hb hr hlocks rfl (by rw [e_τ1]) hP hS d_M_refuse_6

set_option maxHeartbeats 4000000 in
set_option maxRecDepth 100000 in
theorem ct_M_in (l : Launch)  (x y z : Int32) : Met l y_M_in w_M_in { frames := 0, cells := 0, slots := 0, locals := 0 } (fun v _ => v = [.int x, .int y, .int z].toArray) (QcRead (mo_in x y z)) 0 0 (fun _ => False) := by
  refine Met.ofW (cc := b_M_in) (maxL := 3) (ret := some .boolean) (by decide) rfl ?_
  intro p e s m args below meth c s₁ B hml hv
  subst hv
  have hx := B.exec
  have hb := B.bytes
  have hr := B.returns
  have hts : ∀ w ∈ kT, w.before [.int x, .int y, .int z].toArray s = true := fun w h => atoms_spec (ws := w_M_in) B.pre w (List.mem_cons_of_mem _ h)
  have hown : s.vm.findClass R_M = some m.cls := findClass_of_methodNamed B.named
  have hlocks := B.notSynchronized
  have hl := lv_entry ([.int x, .int y, .int z]) (n := 3) (Nat.le_of_ble_eq_true rfl)
  rw [lg_entry_eq]
  generalize (lg_sl ([.int x, .int y, .int z]) ++ List.replicate (3 - (lg_sl ([.int x, .int y, .int z])).length) Slot.unset).toArray = ls at hl ⊢
  have hl : lv_has ls 3 [(0, .int x), (1, .int y), (2, .int z)] := hl
  refine lv_iload_n hx hb d_M_in_0 rfl (lv_at hl 0 rfl) ?_
  refine lv_iload_n hx hb d_M_in_1 rfl (lv_at hl 1 rfl) ?_
  refine lv_icmp_lt (tgt := 14) hx hb d_M_in_2 (by decide) (fun c_2 => ?_) (fun c_2 => ?_)
  · -- to 14
    refine lv_iconst (v := 0) hx hb d_M_in_14 (by decide) ?_
    exact r_retz hx hb hr hlocks (by decide) (by simp [mo_in, c_2]) d_M_in_15
  · -- on 5
    refine lv_iload_n hx hb d_M_in_5 rfl (lv_at hl 0 rfl) ?_
    refine lv_iload_n hx hb d_M_in_6 rfl (lv_at hl 2 rfl) ?_
    refine lv_icmp_gt (tgt := 14) hx hb d_M_in_7 (by decide) (fun c_7 => ?_) (fun c_7 => ?_)
    · -- to 14
      refine lv_iconst (v := 0) hx hb d_M_in_14 (by decide) ?_
      exact r_retz hx hb hr hlocks (by decide) (by simp [mo_in, c_2, c_7]) d_M_in_15
    · -- on 10
      refine lv_iconst (v := 1) hx hb d_M_in_10 (by decide) ?_
      refine lv_goto (tgt := 15) hx hb d_M_in_11 (by decide) ?_
      exact r_retz hx hb hr hlocks (by decide) (by simp [mo_in, c_2, c_7]) d_M_in_15

set_option maxHeartbeats 4000000 in
set_option maxRecDepth 100000 in
theorem ct_M_isDesk (l : Launch) (D : va_G) (cI cQ : ClassId) (β : Nat → Nat) (n : Nat) (τ : mS) (hI : m_ok n τ.1) (x : Int32) : Met l y_M_isDesk w_M_isDesk { frames := 0, cells := 0, slots := 0, locals := 0 } (gPc D (kty cI cQ) (mw_w cI β τ) [.ref (β 0), .int x]) (QcRead (mo_isd τ x)) 0 0 (fun _ => False) := by
  refine Met.ofW (cc := b_M_isDesk) (maxL := 2) (ret := some .boolean) (by decide) rfl ?_
  intro p e s m args below meth c s₁ B hml hv
  obtain ⟨rfl, hP, hK, hD⟩ := hv
  have hx := B.exec
  have hb := B.bytes
  have hr := B.returns
  have hts : ∀ w ∈ kT, w.before [.ref (β 0), .int x].toArray s = true := fun w h => atoms_spec (ws := w_M_isDesk) B.pre w (List.mem_cons_of_mem _ h)
  have hown : s.vm.findClass R_M = some m.cls := findClass_of_methodNamed B.named
  have hlocks := B.notSynchronized
  have hl := lv_entry ([.ref (β 0), .int x]) (n := 2) (Nat.le_of_ble_eq_true rfl)
  rw [lg_entry_eq]
  generalize (lg_sl ([.ref (β 0), .int x]) ++ List.replicate (2 - (lg_sl ([.ref (β 0), .int x])).length) Slot.unset).toArray = ls at hl ⊢
  have hl : lv_has ls 2 [(0, .ref (β 0)), (1, .int x)] := hl
  refine lv_iload_n hx hb d_M_isDesk_0 rfl (lv_at hl 1 rfl) ?_
  refine lv_if_lt (tgt := 16) hx hb d_M_isDesk_1 (by decide) (fun c_1 => ?_) (fun c_1 => ?_)
  · -- to 16
    refine lv_iconst (v := 0) hx hb d_M_isDesk_16 (by decide) ?_
    exact r_retz hx hb hr hlocks (by decide) (by simp [mo_isd, c_1]) d_M_isDesk_17
  · -- on 4
    refine lv_iload_n hx hb d_M_isDesk_4 rfl (lv_at hl 1 rfl) ?_
    refine lv_aload_n hx hb d_M_isDesk_5 rfl (lv_at hl 0 rfl) ?_
    refine mw_get hx hb hts hown hK hP 1 (by decide) fl_M_50 (v := .int (τ.1 1)) rfl d_M_isDesk_6 ?_
    refine lv_icmp_ge (tgt := 16) hx hb d_M_isDesk_9 (by decide) (fun c_9 => ?_) (fun c_9 => ?_)
    · -- to 16
      refine lv_iconst (v := 0) hx hb d_M_isDesk_16 (by decide) ?_
      exact r_retz hx hb hr hlocks (by decide) (by simp [mo_isd, c_1, c_9]) d_M_isDesk_17
    · -- on 12
      refine lv_iconst (v := 1) hx hb d_M_isDesk_12 (by decide) ?_
      refine lv_goto (tgt := 17) hx hb d_M_isDesk_13 (by decide) ?_
      exact r_retz hx hb hr hlocks (by decide) (by simp [mo_isd, c_1, c_9]) d_M_isDesk_17

set_option maxHeartbeats 4000000 in
set_option maxRecDepth 100000 in
theorem ct_M_isSubject (l : Launch)  (x : Int32) : Met l y_M_isSubject w_M_isSubject { frames := 0, cells := 0, slots := 0, locals := 0 } (fun v _ => v = [.int x].toArray) (QcRead (kd_sub x)) 0 0 (fun _ => False) := by
  refine Met.ofW (cc := b_M_isSubject) (maxL := 1) (ret := some .boolean) (by decide) rfl ?_
  intro p e s m args below meth c s₁ B hml hv
  subst hv
  have hx := B.exec
  have hb := B.bytes
  have hr := B.returns
  have hts : ∀ w ∈ kT, w.before [.int x].toArray s = true := fun w h => atoms_spec (ws := w_M_isSubject) B.pre w (List.mem_cons_of_mem _ h)
  have hown : s.vm.findClass R_M = some m.cls := findClass_of_methodNamed B.named
  have hlocks := B.notSynchronized
  have hl := lv_entry ([.int x]) (n := 1) (Nat.le_of_ble_eq_true rfl)
  rw [lg_entry_eq]
  generalize (lg_sl ([.int x]) ++ List.replicate (1 - (lg_sl ([.int x])).length) Slot.unset).toArray = ls at hl ⊢
  have hl : lv_has ls 1 [(0, .int x)] := hl
  refine lv_iload_n hx hb d_M_isSubject_0 rfl (lv_at hl 0 rfl) ?_
  refine lv_if_lt (tgt := 14) hx hb d_M_isSubject_1 (by decide) (fun c_1 => ?_) (fun c_1 => ?_)
  · -- to 14
    refine lv_iconst (v := 0) hx hb d_M_isSubject_14 (by decide) ?_
    exact r_retz hx hb hr hlocks (by decide) (by simp [kd_sub, c_1]) d_M_isSubject_15
  · -- on 4
    refine lv_iload_n hx hb d_M_isSubject_4 rfl (lv_at hl 0 rfl) ?_
    refine lv_bipush (v := 16) hx hb d_M_isSubject_5 (by decide) ?_
    refine lv_icmp_ge (tgt := 14) hx hb d_M_isSubject_7 (by decide) (fun c_7 => ?_) (fun c_7 => ?_)
    · -- to 14
      refine lv_iconst (v := 0) hx hb d_M_isSubject_14 (by decide) ?_
      exact r_retz hx hb hr hlocks (by decide) (by simp [kd_sub, c_1, c_7]) d_M_isSubject_15
    · -- on 10
      refine lv_iconst (v := 1) hx hb d_M_isSubject_10 (by decide) ?_
      refine lv_goto (tgt := 15) hx hb d_M_isSubject_11 (by decide) ?_
      exact r_retz hx hb hr hlocks (by decide) (by simp [kd_sub, c_1, c_7]) d_M_isSubject_15

set_option maxHeartbeats 4000000 in
set_option maxRecDepth 100000 in
theorem ct_M_held (l : Launch) (D : va_G) (cI cQ : ClassId) (β : Nat → Nat) (n : Nat) (τ : mS) (hI : m_ok n τ.1) (x : Int32) : Met l y_M_held w_M_held { frames := 0, cells := 0, slots := 0, locals := 0 } (gPc D (kty cI cQ) (mw_w cI β τ) [.ref (β 0), .int x]) (QcRead (mo_held τ x)) 0 0 (fun _ => False) := by
  refine Met.ofW (cc := b_M_held) (maxL := 4) (ret := some .int) (by decide) rfl ?_
  intro p e s m args below meth c s₁ B hml hv
  obtain ⟨rfl, hP, hK, hD⟩ := hv
  have hx := B.exec
  have hb := B.bytes
  have hr := B.returns
  have hts : ∀ w ∈ kT, w.before [.ref (β 0), .int x].toArray s = true := fun w h => atoms_spec (ws := w_M_held) B.pre w (List.mem_cons_of_mem _ h)
  have hown : s.vm.findClass R_M = some m.cls := findClass_of_methodNamed B.named
  have hlocks := B.notSynchronized
  have hl := lv_entry ([.ref (β 0), .int x]) (n := 4) (Nat.le_of_ble_eq_true rfl)
  rw [lg_entry_eq]
  generalize (lg_sl ([.ref (β 0), .int x]) ++ List.replicate (4 - (lg_sl ([.ref (β 0), .int x])).length) Slot.unset).toArray = ls at hl ⊢
  have hl : lv_has ls 4 [(0, .ref (β 0)), (1, .int x)] := hl
  refine lv_iconst (v := 0) hx hb d_M_held_0 (by decide) ?_
  refine lv_istore_n (lv' := [(2, .int 0), (0, .ref (β 0)), (1, .int x)]) hx hb d_M_held_1 rfl hl (by decide) rfl (fun ls hl => ?_)
  refine lv_iconst (v := 0) hx hb d_M_held_2 (by decide) ?_
  refine lv_istore_n (lv' := [(3, .int 0), (2, .int 0), (0, .ref (β 0)), (1, .int x)]) hx hb d_M_held_3 rfl hl (by decide) rfl (fun ls hl => ?_)
  have lp4 : ∀ (fu j : Nat) (acc : Int32) (ls : Array Slot), j ≤ 16 → 16 - j < fu → acc = mo_heldp (τ.2 8) x j → lv_has ls 4 [(3, .int (nI j)), (2, .int acc), (0, .ref (β 0)), (1, .int x)] → W p l e (headSpec w_M_held { frames := 0, cells := 0, slots := 0, locals := 0 }).room s m [.ref (β 0), .int x].toArray below meth c s.heap [] 0 0 (MQ below (QcRead (mo_held τ x)) [.ref (β 0), .int x].toArray s 0 0 (fun _ => False)) (F0 m 4 ls []) := by
    intro fu
    induction fu with
    | zero => intro j acc ls h1 h2; omega
    | succ fu ih =>
      intro j acc ls hj4 hf4 e_acc  hl
      refine lv_iload_n hx hb d_M_held_4 rfl (lv_at hl 0 rfl) ?_
      refine lv_bipush (v := 16) hx hb d_M_held_5 (by decide) ?_
      refine lv_icmp_ge (tgt := 36) hx hb d_M_held_7 (by decide) (fun c_7 => ?_) (fun c_7 => ?_)
      · -- to 36
        have hx4 : j = 16 := lp_eq (B := 16) (hn := (by decide)) c_7 hj4
        subst hx4
        refine lv_iload_n hx hb d_M_held_36 rfl (lv_at hl 1 rfl) ?_
        exact r_reti hx hb hr hlocks (by rw [e_acc] <;> rfl) d_M_held_37
      · -- on 10
        have hl4 : j < 16 := lp_lt (B := 16) (hn := (by decide)) c_7 hj4
        refine lv_iload_n hx hb d_M_held_10 rfl (lv_at hl 1 rfl) ?_
        refine lv_aload_n hx hb d_M_held_11 rfl (lv_at hl 2 rfl) ?_
        refine mw_get hx hb hts hown hK hP 8 (by decide) fl_M_28 (v := .ref (β 8)) rfl d_M_held_12 ?_
        refine lv_iload_n hx hb d_M_held_15 rfl (lv_at hl 0 rfl) ?_
        refine mw_ald hx hb hK hP 8 (by unfold mw_as; decide) (j := j) rfl hl4 d_M_held_16 ?_
        refine lv_iload_n hx hb d_M_held_17 rfl (lv_at hl 3 rfl) ?_
        refine lv_icmp_ne (tgt := 27) hx hb d_M_held_18 (by decide) (fun c_18 => ?_) (fun c_18 => ?_)
        · -- to 27
          refine lv_iconst (v := 0) hx hb d_M_held_27 (by decide) ?_
          refine lv_ior hx hb d_M_held_28 ?_
          refine lv_istore_n (lv' := [(2, .int (acc ||| 0)), (3, .int (nI j)), (0, .ref (β 0)), (1, .int x)]) hx hb d_M_held_29 rfl hl (by decide) rfl (fun ls hl => ?_)
          refine lv_iinc (v := nI (j + 1)) (lv' := [(3, .int (nI (j + 1))), (2, .int (acc ||| 0)), (0, .ref (β 0)), (1, .int x)]) hx hb d_M_held_30 hl (k := 1) rfl (nI_1 j) (by decide) rfl (fun ls hl => ?_)
          refine lv_goto (tgt := 4) hx hb d_M_held_33 (by decide) ?_
          exact ih (j + 1) (acc ||| 0) ls (by omega) (by omega) (by rw [mo_heldp, ← e_acc] <;> simp [c_7, c_18]) (lv_sub hl [0, 1, 2, 3] rfl)
        · -- on 21
          refine lv_iconst (v := 1) hx hb d_M_held_21 (by decide) ?_
          refine lv_iload_n hx hb d_M_held_22 rfl (lv_at hl 0 rfl) ?_
          refine lv_ishl hx hb d_M_held_23 ?_
          refine lv_goto (tgt := 28) hx hb d_M_held_24 (by decide) ?_
          refine lv_ior hx hb d_M_held_28 ?_
          refine lv_istore_n (lv' := [(2, .int (acc ||| (1 <<< ((nI j) &&& 31)))), (3, .int (nI j)), (0, .ref (β 0)), (1, .int x)]) hx hb d_M_held_29 rfl hl (by decide) rfl (fun ls hl => ?_)
          refine lv_iinc (v := nI (j + 1)) (lv' := [(3, .int (nI (j + 1))), (2, .int (acc ||| (1 <<< ((nI j) &&& 31)))), (0, .ref (β 0)), (1, .int x)]) hx hb d_M_held_30 hl (k := 1) rfl (nI_1 j) (by decide) rfl (fun ls hl => ?_)
          refine lv_goto (tgt := 4) hx hb d_M_held_33 (by decide) ?_
          exact ih (j + 1) (acc ||| (1 <<< ((nI j) &&& 31))) ls (by omega) (by omega) (by rw [mo_heldp, ← e_acc] <;> simp [c_7, c_18]) (lv_sub hl [0, 1, 2, 3] rfl)
  exact lp4 (16 - 0 + 1) 0 _ ls (by omega) (by omega) rfl  (lv_sub hl [0, 1, 2, 3] rfl)

set_option maxHeartbeats 4000000 in
set_option maxRecDepth 100000 in
theorem ct_M_ones (l : Launch)  (x : Int32) : Met l y_M_ones w_M_ones { frames := 0, cells := 0, slots := 0, locals := 0 } (fun v _ => v = [.int x].toArray) (QcRead (mo_onesp x 16)) 0 0 (fun _ => False) := by
  refine Met.ofW (cc := b_M_ones) (maxL := 3) (ret := some .int) (by decide) rfl ?_
  intro p e s m args below meth c s₁ B hml hv
  subst hv
  have hx := B.exec
  have hb := B.bytes
  have hr := B.returns
  have hts : ∀ w ∈ kT, w.before [.int x].toArray s = true := fun w h => atoms_spec (ws := w_M_ones) B.pre w (List.mem_cons_of_mem _ h)
  have hown : s.vm.findClass R_M = some m.cls := findClass_of_methodNamed B.named
  have hlocks := B.notSynchronized
  have hl := lv_entry ([.int x]) (n := 3) (Nat.le_of_ble_eq_true rfl)
  rw [lg_entry_eq]
  generalize (lg_sl ([.int x]) ++ List.replicate (3 - (lg_sl ([.int x])).length) Slot.unset).toArray = ls at hl ⊢
  have hl : lv_has ls 3 [(0, .int x)] := hl
  refine lv_iconst (v := 0) hx hb d_M_ones_0 (by decide) ?_
  refine lv_istore_n (lv' := [(1, .int 0), (0, .int x)]) hx hb d_M_ones_1 rfl hl (by decide) rfl (fun ls hl => ?_)
  refine lv_iconst (v := 0) hx hb d_M_ones_2 (by decide) ?_
  refine lv_istore_n (lv' := [(2, .int 0), (1, .int 0), (0, .int x)]) hx hb d_M_ones_3 rfl hl (by decide) rfl (fun ls hl => ?_)
  have lp4 : ∀ (fu j : Nat) (acc : Int32) (ls : Array Slot), j ≤ 16 → 16 - j < fu → acc = mo_onesp x j → lv_has ls 3 [(2, .int (nI j)), (1, .int acc), (0, .int x)] → W p l e (headSpec w_M_ones { frames := 0, cells := 0, slots := 0, locals := 0 }).room s m [.int x].toArray below meth c s.heap [] 0 0 (MQ below (QcRead (mo_onesp x 16)) [.int x].toArray s 0 0 (fun _ => False)) (F0 m 4 ls []) := by
    intro fu
    induction fu with
    | zero => intro j acc ls h1 h2; omega
    | succ fu ih =>
      intro j acc ls hj4 hf4 e_acc  hl
      refine lv_iload_n hx hb d_M_ones_4 rfl (lv_at hl 0 rfl) ?_
      refine lv_bipush (v := 16) hx hb d_M_ones_5 (by decide) ?_
      refine lv_icmp_ge (tgt := 24) hx hb d_M_ones_7 (by decide) (fun c_7 => ?_) (fun c_7 => ?_)
      · -- to 24
        have hx4 : j = 16 := lp_eq (B := 16) (hn := (by decide)) c_7 hj4
        subst hx4
        refine lv_iload_n hx hb d_M_ones_24 rfl (lv_at hl 1 rfl) ?_
        exact r_reti hx hb hr hlocks (by rw [e_acc] <;> rfl) d_M_ones_25
      · -- on 10
        have hl4 : j < 16 := lp_lt (B := 16) (hn := (by decide)) c_7 hj4
        refine lv_iload_n hx hb d_M_ones_10 rfl (lv_at hl 1 rfl) ?_
        refine lv_iload_n hx hb d_M_ones_11 rfl (lv_at hl 2 rfl) ?_
        refine lv_iload_n hx hb d_M_ones_12 rfl (lv_at hl 0 rfl) ?_
        refine lv_ishr hx hb d_M_ones_13 ?_
        refine lv_iconst (v := 1) hx hb d_M_ones_14 (by decide) ?_
        refine lv_iand hx hb d_M_ones_15 ?_
        refine lv_iadd hx hb d_M_ones_16 ?_
        refine lv_istore_n (lv' := [(1, .int (acc + ((x >>> ((nI j) &&& 31)) &&& 1))), (2, .int (nI j)), (0, .int x)]) hx hb d_M_ones_17 rfl hl (by decide) rfl (fun ls hl => ?_)
        refine lv_iinc (v := nI (j + 1)) (lv' := [(2, .int (nI (j + 1))), (1, .int (acc + ((x >>> ((nI j) &&& 31)) &&& 1))), (0, .int x)]) hx hb d_M_ones_18 hl (k := 1) rfl (nI_1 j) (by decide) rfl (fun ls hl => ?_)
        refine lv_goto (tgt := 4) hx hb d_M_ones_21 (by decide) ?_
        exact ih (j + 1) (acc + ((x >>> ((nI j) &&& 31)) &&& 1)) ls (by omega) (by omega) (by rw [mo_onesp, ← e_acc] <;> simp [c_7]) (lv_sub hl [0, 1, 2] rfl)
  exact lp4 (16 - 0 + 1) 0 _ ls (by omega) (by omega) rfl  (lv_sub hl [0, 1, 2] rfl)

set_option maxHeartbeats 4000000 in
set_option maxRecDepth 100000 in
theorem ct_M_isMidst (l : Launch) (D : va_G) (cI cQ : ClassId) (β : Nat → Nat) (n : Nat) (τ : mS) (hI : m_ok n τ.1) (i : Nat) (hi : i < n) : Met l y_M_isMidst w_M_isMidst { frames := 1, cells := 0, slots := 0, locals := 23 } (gPc D (kty cI cQ) (mw_w cI β τ) [.ref (β 0), .int (nI i)]) (QcRead (mo_midst τ i)) 0 0 (fun _ => False) := by
  refine Met.ofW (cc := b_M_isMidst) (maxL := 2) (ret := some .boolean) (by decide) rfl ?_
  intro p e s m args below meth c s₁ B hml hv
  obtain ⟨rfl, hP, hK, hD⟩ := hv
  have hx := B.exec
  have hb := B.bytes
  have hr := B.returns
  have hts : ∀ w ∈ kT, w.before [.ref (β 0), .int (nI i)].toArray s = true := fun w h => atoms_spec (ws := w_M_isMidst) B.pre w (List.mem_cons_of_mem _ h)
  have hown : s.vm.findClass R_M = some m.cls := findClass_of_methodNamed B.named
  have hlocks := B.notSynchronized
  have hl := lv_entry ([.ref (β 0), .int (nI i)]) (n := 2) (Nat.le_of_ble_eq_true rfl)
  rw [lg_entry_eq]
  generalize (lg_sl ([.ref (β 0), .int (nI i)]) ++ List.replicate (2 - (lg_sl ([.ref (β 0), .int (nI i)])).length) Slot.unset).toArray = ls at hl ⊢
  have hl : lv_has ls 2 [(0, .ref (β 0)), (1, .int (nI i))] := hl
  refine lv_aload_n hx hb d_M_isMidst_0 rfl (lv_at hl 0 rfl) ?_
  refine lv_iload_n hx hb d_M_isMidst_1 rfl (lv_at hl 1 rfl) ?_
  refine r_calli (W.runV (As := [.int (nI i)]) (rest := []) ⟨hx, hb, hml, hown, hts⟩ (ct_M_held l D cI cQ β n τ hI (nI i)) (cwV 1 hts gd_M_65 rfl rfl rfl (by decide +kernel) ⟨Nat.le_of_ble_eq_true rfl, Nat.le_of_ble_eq_true rfl⟩) (g_preV hK hP hD (ci := 2) (q0 := 0) rfl mw_0) rfl rfl hl.1 rfl (lv_room (Nat.le_of_ble_eq_true rfl)) d_M_isMidst_2 ⟨Nat.le_refl _, Nat.le_refl _⟩) ?_
  refine lv_if_ne (tgt := 18) hx hb d_M_isMidst_5 (by decide) (fun c_5 => ?_) (fun c_5 => ?_)
  · -- to 18
    refine lv_iconst (v := 1) hx hb d_M_isMidst_18 (by decide) ?_
    refine lv_goto (tgt := 23) hx hb d_M_isMidst_19 (by decide) ?_
    exact r_retz hx hb hr hlocks (by decide) (by simp [mo_midst, c_5]) d_M_isMidst_23
  · -- on 8
    refine lv_aload_n hx hb d_M_isMidst_8 rfl (lv_at hl 0 rfl) ?_
    refine mw_get hx hb hts hown hK hP 10 (by decide) fl_M_34 (v := .ref (β 10)) rfl d_M_isMidst_9 ?_
    refine lv_iload_n hx hb d_M_isMidst_12 rfl (lv_at hl 1 rfl) ?_
    refine mw_ald hx hb hK hP 10 (by unfold mw_as; decide) (j := i) rfl (m8 hI hi) d_M_isMidst_13 ?_
    refine lv_iconst (v := (-1)) hx hb d_M_isMidst_14 (by decide) ?_
    refine lv_icmp_eq (tgt := 22) hx hb d_M_isMidst_15 (by decide) (fun c_15 => ?_) (fun c_15 => ?_)
    · -- to 22
      refine lv_iconst (v := 0) hx hb d_M_isMidst_22 (by decide) ?_
      exact r_retz hx hb hr hlocks (by decide) (by simp [mo_midst, c_5, c_15]) d_M_isMidst_23
    · -- on 18
      refine lv_iconst (v := 1) hx hb d_M_isMidst_18 (by decide) ?_
      refine lv_goto (tgt := 23) hx hb d_M_isMidst_19 (by decide) ?_
      exact r_retz hx hb hr hlocks (by decide) (by simp [mo_midst, c_5, c_15]) d_M_isMidst_23
end
section
set_option maxHeartbeats 4000000 in
set_option maxRecDepth 100000 in
theorem ct_M_write (l : Launch) (D : va_G) (cI cQ : ClassId) (β : Nat → Nat) (n : Nat) (τ : mS) (hI : m_ok n τ.1) (x : Int32) (i : Nat) (hi : i < n) : Met l y_M_write w_M_write { frames := 0, cells := 0, slots := 0, locals := 0 } (gPc D (kty cI cQ) (mw_w cI β τ) [.ref (β 0), .int x, .int (nI i)]) (gQv D (mw_al β) (mw_w cI β (mo_write τ x i))) 0 0 (gA (mw_al β)) := by
  refine Met.ofW (cc := b_M_write) (maxL := 3) (ret := none) (by decide) rfl ?_
  intro p e s m args below meth c s₁ B hml hv
  obtain ⟨rfl, hP, hK, hD⟩ := hv
  have hx := B.exec
  have hb := B.bytes
  have hr := B.returns
  have hts : ∀ w ∈ kT, w.before [.ref (β 0), .int x, .int (nI i)].toArray s = true := fun w h => atoms_spec (ws := w_M_write) B.pre w (List.mem_cons_of_mem _ h)
  have hown : s.vm.findClass R_M = some m.cls := findClass_of_methodNamed B.named
  have hlocks := B.notSynchronized
  have hD : va_D (gA (mw_al β)) (mw_w cI β τ) := gD mw_addr hD
  have hS : va_S (gA (mw_al β)) s.heap s.heap [] := va_S.rf
  have hl := lv_entry ([.ref (β 0), .int x, .int (nI i)]) (n := 3) (Nat.le_of_ble_eq_true rfl)
  rw [lg_entry_eq]
  generalize (lg_sl ([.ref (β 0), .int x, .int (nI i)]) ++ List.replicate (3 - (lg_sl ([.ref (β 0), .int x, .int (nI i)])).length) Slot.unset).toArray = ls at hl ⊢
  have hl : lv_has ls 3 [(0, .ref (β 0)), (1, .int x), (2, .int (nI i))] := hl
  refine lv_aload_n hx hb d_M_write_0 rfl (lv_at hl 0 rfl) ?_
  refine mw_get hx hb hts hown hK hP 17 (by decide) fl_M_78 (v := .int (τ.1 17)) rfl d_M_write_1 ?_
  refine lv_sipush (v := 400) hx hb d_M_write_4 (by decide) ?_
  refine lv_icmp_ge (tgt := 46) hx hb d_M_write_7 (by decide) (fun c_7 => ?_) (fun c_7 => ?_)
  · -- to 46
    exact g_retv hx hb hr hlocks (by rw [mo_write, if_pos c_7]) hP hS d_M_write_46
  · -- on 10
    refine lv_aload_n hx hb d_M_write_10 rfl (lv_at hl 0 rfl) ?_
    refine mw_get hx hb hts hown hK hP 18 (by decide) fl_M_43 (v := .ref (β 18)) rfl d_M_write_11 ?_
    refine lv_aload_n hx hb d_M_write_14 rfl (lv_at hl 0 rfl) ?_
    refine mw_get hx hb hts hown hK hP 17 (by decide) fl_M_78 (v := .int (τ.1 17)) rfl d_M_write_15 ?_
    refine lv_sipush (v := 1000) hx hb d_M_write_18 (by decide) ?_
    refine lv_iload_n hx hb d_M_write_21 rfl (lv_at hl 1 rfl) ?_
    refine lv_imul hx hb d_M_write_22 ?_
    refine lv_bipush (v := 100) hx hb d_M_write_23 (by decide) ?_
    refine lv_iload_n hx hb d_M_write_25 rfl (lv_at hl 2 rfl) ?_
    refine lv_imul hx hb d_M_write_26 ?_
    refine lv_iadd hx hb d_M_write_27 ?_
    refine lv_aload_n hx hb d_M_write_28 rfl (lv_at hl 0 rfl) ?_
    refine mw_get hx hb hts hown hK hP 4 (by decide) fl_M_16 (v := .ref (β 4)) rfl d_M_write_29 ?_
    refine lv_iload_n hx hb d_M_write_32 rfl (lv_at hl 2 rfl) ?_
    refine mw_ald hx hb hK hP 4 (by unfold mw_as; decide) (j := i) rfl (m8 hI hi) d_M_write_33 ?_
    refine lv_iadd hx hb d_M_write_34 ?_
    refine mw_ast hx hb hK hP hD hS 18 (by unfold mw_as; decide) (j := (τ.1 17).toNatClampNeg) (ix_e (m_ok_e0 hI)) (ix_l (B := 400) (m_ok_e0 hI) c_7) d_M_write_35 (fun H locs hP hD hS => ?_)
    obtain ⟨τ1, e_τ1⟩ : ∃ ζ, ζ = m_a τ 18 ((τ.1 17).toNatClampNeg) (((1000 * x) + (100 * (nI i))) + (τ.2 4 i)) := ⟨_, rfl⟩
    rw [← e_τ1] at hP hD
    have hI : m_ok n τ1.1 := by rw [e_τ1]; exact hI
    refine lv_aload_n hx hb d_M_write_36 rfl (lv_at hl 0 rfl) ?_
    refine lv_dup hx hb d_M_write_37 rfl ?_
    refine mw_get hx hb hts hown hK hP 17 (by decide) fl_M_78 (v := .int (τ1.1 17)) rfl d_M_write_38 ?_
    refine lv_iconst (v := 1) hx hb d_M_write_41 (by decide) ?_
    refine lv_iadd hx hb d_M_write_42 ?_
    refine mw_put hx hb hts hown hK hP hD hS 17 (by unfold mw_is; decide) fl_M_78 rfl rfl rfl d_M_write_43 (fun H locs hP hD hS => ?_)
    obtain ⟨τ2, e_τ2⟩ : ∃ ζ, ζ = m_f τ1 17 ((τ1.1 17) + 1) := ⟨_, rfl⟩
    rw [← e_τ2] at hP hD
    exact g_retv hx hb hr hlocks (by rw [mo_write, if_neg c_7, e_τ2, e_τ1]) hP hS d_M_write_46

set_option maxHeartbeats 4000000 in
set_option maxRecDepth 100000 in
theorem ct_M_first (l : Launch) (D : va_G) (cI cQ : ClassId) (β : Nat → Nat) (n : Nat) (τ : mS) (hI : m_ok n τ.1) (x : Int32) : Met l y_M_first w_M_first { frames := 0, cells := 0, slots := 0, locals := 0 } (gPc D (kty cI cQ) (mw_w cI β τ) [.ref (β 0), .int x]) (QcRead (mo_firstp τ x n)) 0 0 (fun _ => False) := by
  refine Met.ofW (cc := b_M_first) (maxL := 4) (ret := some .int) (by decide) rfl ?_
  intro p e s m args below meth c s₁ B hml hv
  obtain ⟨rfl, hP, hK, hD⟩ := hv
  have hx := B.exec
  have hb := B.bytes
  have hr := B.returns
  have hts : ∀ w ∈ kT, w.before [.ref (β 0), .int x].toArray s = true := fun w h => atoms_spec (ws := w_M_first) B.pre w (List.mem_cons_of_mem _ h)
  have hown : s.vm.findClass R_M = some m.cls := findClass_of_methodNamed B.named
  have hlocks := B.notSynchronized
  have hl := lv_entry ([.ref (β 0), .int x]) (n := 4) (Nat.le_of_ble_eq_true rfl)
  rw [lg_entry_eq]
  generalize (lg_sl ([.ref (β 0), .int x]) ++ List.replicate (4 - (lg_sl ([.ref (β 0), .int x])).length) Slot.unset).toArray = ls at hl ⊢
  have hl : lv_has ls 4 [(0, .ref (β 0)), (1, .int x)] := hl
  refine lv_iconst (v := (-1)) hx hb d_M_first_0 (by decide) ?_
  refine lv_istore_n (lv' := [(2, .int (-1)), (0, .ref (β 0)), (1, .int x)]) hx hb d_M_first_1 rfl hl (by decide) rfl (fun ls hl => ?_)
  refine lv_iconst (v := 0) hx hb d_M_first_2 (by decide) ?_
  refine lv_istore_n (lv' := [(3, .int 0), (2, .int (-1)), (0, .ref (β 0)), (1, .int x)]) hx hb d_M_first_3 rfl hl (by decide) rfl (fun ls hl => ?_)
  have lp4 : ∀ (fu j : Nat) (acc : Int32) (ls : Array Slot), j ≤ n → n - j < fu → acc = mo_firstp τ x j → lv_has ls 4 [(3, .int (nI j)), (2, .int acc), (0, .ref (β 0)), (1, .int x)] → W p l e (headSpec w_M_first { frames := 0, cells := 0, slots := 0, locals := 0 }).room s m [.ref (β 0), .int x].toArray below meth c s.heap [] 0 0 (MQ below (QcRead (mo_firstp τ x n)) [.ref (β 0), .int x].toArray s 0 0 (fun _ => False)) (F0 m 4 ls []) := by
    intro fu
    induction fu with
    | zero => intro j acc ls h1 h2; omega
    | succ fu ih =>
      intro j acc ls hj4 hf4 e_acc  hl
      refine lv_iload_n hx hb d_M_first_4 rfl (lv_at hl 0 rfl) ?_
      refine lv_aload_n hx hb d_M_first_5 rfl (lv_at hl 2 rfl) ?_
      refine mw_get hx hb hts hown hK hP 1 (by decide) fl_M_50 (v := .int (τ.1 1)) rfl d_M_first_6 ?_
      refine lv_icmp_ge (tgt := 61) hx hb d_M_first_9 (by decide) (fun c_9 => ?_) (fun c_9 => ?_)
      · -- to 61
        have hx4 : j = n := mp_eqI hI c_9 hj4
        rw [hx4] at e_acc
        refine lv_iload_n hx hb d_M_first_61 rfl (lv_at hl 1 rfl) ?_
        exact r_reti hx hb hr hlocks (by rw [e_acc] <;> rfl) d_M_first_62
      · -- on 12
        have hl4 : j < n := mp_ltI hI c_9 hj4
        refine lv_aload_n hx hb d_M_first_12 rfl (lv_at hl 2 rfl) ?_
        refine mw_get hx hb hts hown hK hP 10 (by decide) fl_M_34 (v := .ref (β 10)) rfl d_M_first_13 ?_
        refine lv_iload_n hx hb d_M_first_16 rfl (lv_at hl 0 rfl) ?_
        refine mw_ald hx hb hK hP 10 (by unfold mw_as; decide) (j := j) rfl (m8 hI hl4) d_M_first_17 ?_
        refine lv_iload_n hx hb d_M_first_18 rfl (lv_at hl 3 rfl) ?_
        refine lv_icmp_ne (tgt := 53) hx hb d_M_first_19 (by decide) (fun c_19 => ?_) (fun c_19 => ?_)
        · -- to 53
          refine lv_iload_n hx hb d_M_first_53 rfl (lv_at hl 1 rfl) ?_
          refine lv_istore_n (lv' := [(2, .int acc), (3, .int (nI j)), (0, .ref (β 0)), (1, .int x)]) hx hb d_M_first_54 rfl hl (by decide) rfl (fun ls hl => ?_)
          refine lv_iinc (v := nI (j + 1)) (lv' := [(3, .int (nI (j + 1))), (2, .int acc), (0, .ref (β 0)), (1, .int x)]) hx hb d_M_first_55 hl (k := 1) rfl (nI_1 j) (by decide) rfl (fun ls hl => ?_)
          refine lv_goto (tgt := 4) hx hb d_M_first_58 (by decide) ?_
          exact ih (j + 1) acc ls (by omega) (by omega) (by rw [mo_firstp, ← e_acc] <;> simp [c_9, c_19]) (lv_sub hl [0, 1, 2, 3] rfl)
        · -- on 22
          refine lv_iload_n hx hb d_M_first_22 rfl (lv_at hl 1 rfl) ?_
          refine lv_if_lt (tgt := 49) hx hb d_M_first_23 (by decide) (fun c_23 => ?_) (fun c_23 => ?_)
          · -- to 49
            refine lv_iload_n hx hb d_M_first_49 rfl (lv_at hl 0 rfl) ?_
            refine lv_goto (tgt := 54) hx hb d_M_first_50 (by decide) ?_
            refine lv_istore_n (lv' := [(2, .int (nI j)), (3, .int (nI j)), (0, .ref (β 0)), (1, .int x)]) hx hb d_M_first_54 rfl hl (by decide) rfl (fun ls hl => ?_)
            refine lv_iinc (v := nI (j + 1)) (lv' := [(3, .int (nI (j + 1))), (2, .int (nI j)), (0, .ref (β 0)), (1, .int x)]) hx hb d_M_first_55 hl (k := 1) rfl (nI_1 j) (by decide) rfl (fun ls hl => ?_)
            refine lv_goto (tgt := 4) hx hb d_M_first_58 (by decide) ?_
            exact ih (j + 1) (nI j) ls (by omega) (by omega) (by rw [mo_firstp, ← e_acc] <;> simp [c_9, c_19, c_23]) (lv_sub hl [0, 1, 2, 3] rfl)
          · -- on 26
            refine lv_aload_n hx hb d_M_first_26 rfl (lv_at hl 2 rfl) ?_
            refine mw_get hx hb hts hown hK hP 11 (by decide) fl_M_37 (v := .ref (β 11)) rfl d_M_first_27 ?_
            refine lv_iload_n hx hb d_M_first_30 rfl (lv_at hl 0 rfl) ?_
            refine mw_ald hx hb hK hP 11 (by unfold mw_as; decide) (j := j) rfl (m8 hI hl4) d_M_first_31 ?_
            refine lv_aload_n hx hb d_M_first_32 rfl (lv_at hl 2 rfl) ?_
            refine mw_get hx hb hts hown hK hP 11 (by decide) fl_M_37 (v := .ref (β 11)) rfl d_M_first_33 ?_
            refine lv_iload_n hx hb d_M_first_36 rfl (lv_at hl 1 rfl) ?_
            refine lv_if_ge (tgt := 44) hx hb d_M_first_37 (by decide) (fun c_37 => ?_) (fun c_37 => ?_)
            · -- to 44
              refine lv_iload_n hx hb d_M_first_44 rfl (lv_at hl 1 rfl) ?_
              refine mw_ald hx hb hK hP 11 (by unfold mw_as; decide) (j := acc.toNatClampNeg) (ix_e c_23) (mo_first_8 hI c_23 e_acc hj4) d_M_first_45 ?_
              refine lv_icmp_ge (tgt := 53) hx hb d_M_first_46 (by decide) (fun c_46 => ?_) (fun c_46 => ?_)
              · -- to 53
                refine lv_iload_n hx hb d_M_first_53 rfl (lv_at hl 1 rfl) ?_
                refine lv_istore_n (lv' := [(2, .int acc), (3, .int (nI j)), (0, .ref (β 0)), (1, .int x)]) hx hb d_M_first_54 rfl hl (by decide) rfl (fun ls hl => ?_)
                refine lv_iinc (v := nI (j + 1)) (lv' := [(3, .int (nI (j + 1))), (2, .int acc), (0, .ref (β 0)), (1, .int x)]) hx hb d_M_first_55 hl (k := 1) rfl (nI_1 j) (by decide) rfl (fun ls hl => ?_)
                refine lv_goto (tgt := 4) hx hb d_M_first_58 (by decide) ?_
                exact ih (j + 1) acc ls (by omega) (by omega) (by rw [mo_firstp, ← e_acc] <;> simp [c_9, c_19, c_23, c_37, c_46]) (lv_sub hl [0, 1, 2, 3] rfl)
              · -- on 49
                refine lv_iload_n hx hb d_M_first_49 rfl (lv_at hl 0 rfl) ?_
                refine lv_goto (tgt := 54) hx hb d_M_first_50 (by decide) ?_
                refine lv_istore_n (lv' := [(2, .int (nI j)), (3, .int (nI j)), (0, .ref (β 0)), (1, .int x)]) hx hb d_M_first_54 rfl hl (by decide) rfl (fun ls hl => ?_)
                refine lv_iinc (v := nI (j + 1)) (lv' := [(3, .int (nI (j + 1))), (2, .int (nI j)), (0, .ref (β 0)), (1, .int x)]) hx hb d_M_first_55 hl (k := 1) rfl (nI_1 j) (by decide) rfl (fun ls hl => ?_)
                refine lv_goto (tgt := 4) hx hb d_M_first_58 (by decide) ?_
                exact ih (j + 1) (nI j) ls (by omega) (by omega) (by rw [mo_firstp, ← e_acc] <;> simp [c_9, c_19, c_23, c_37, c_46]) (lv_sub hl [0, 1, 2, 3] rfl)
            · -- on 40
              exact absurd (i_ge c_23) c_37
  exact lp4 (n - 0 + 1) 0 _ ls (by omega) (by omega) rfl  (lv_sub hl [0, 1, 2, 3] rfl)

set_option maxHeartbeats 4000000 in
set_option maxRecDepth 100000 in
theorem ct_M_giveBack (l : Launch) (D : va_G) (cI cQ : ClassId) (β : Nat → Nat) (n : Nat) (τ : mS) (hI : m_ok n τ.1) (z : Nat) (hz : z < 16) : Met l y_M_giveBack w_M_giveBack { frames := 1, cells := 0, slots := 0, locals := 23 } (gPc D (kty cI cQ) (mw_w cI β τ) [.ref (β 0), .int (nI z)]) (gQv D (mw_al β) (mw_w cI β (mo_gb n τ z))) 0 0 (gA (mw_al β)) := by
  refine Met.ofW (cc := b_M_giveBack) (maxL := 3) (ret := none) (by decide) rfl ?_
  intro p e s m args below meth c s₁ B hml hv
  obtain ⟨rfl, hP, hK, hD⟩ := hv
  have hx := B.exec
  have hb := B.bytes
  have hr := B.returns
  have hts : ∀ w ∈ kT, w.before [.ref (β 0), .int (nI z)].toArray s = true := fun w h => atoms_spec (ws := w_M_giveBack) B.pre w (List.mem_cons_of_mem _ h)
  have hown : s.vm.findClass R_M = some m.cls := findClass_of_methodNamed B.named
  have hlocks := B.notSynchronized
  have hD : va_D (gA (mw_al β)) (mw_w cI β τ) := gD mw_addr hD
  have hS : va_S (gA (mw_al β)) s.heap s.heap [] := va_S.rf
  have hl := lv_entry ([.ref (β 0), .int (nI z)]) (n := 3) (Nat.le_of_ble_eq_true rfl)
  rw [lg_entry_eq]
  generalize (lg_sl ([.ref (β 0), .int (nI z)]) ++ List.replicate (3 - (lg_sl ([.ref (β 0), .int (nI z)])).length) Slot.unset).toArray = ls at hl ⊢
  have hl : lv_has ls 3 [(0, .ref (β 0)), (1, .int (nI z))] := hl
  have hI0 := hI
  refine lv_aload_n hx hb d_M_giveBack_0 rfl (lv_at hl 0 rfl) ?_
  refine lv_iload_n hx hb d_M_giveBack_1 rfl (lv_at hl 1 rfl) ?_
  refine r_calli (W.runV (As := [.int (nI z)]) (rest := []) ⟨hx, hb, hml, hown, hts⟩ (ct_M_first l D cI cQ β n τ hI (nI z)) (cwV 1 hts gd_M_81 rfl rfl rfl (by decide +kernel) ⟨Nat.le_of_ble_eq_true rfl, Nat.le_of_ble_eq_true rfl⟩) (g_preV hK hP hD (ci := 2) (q0 := 0) rfl mw_0) rfl rfl hl.1 rfl (lv_room (Nat.le_of_ble_eq_true rfl)) d_M_giveBack_2 ⟨Nat.le_refl _, Nat.le_refl _⟩) ?_
  refine lv_istore_n (lv' := [(2, .int (mo_firstp τ (nI z) n)), (0, .ref (β 0)), (1, .int (nI z))]) hx hb d_M_giveBack_5 rfl hl (by decide) rfl (fun ls hl => ?_)
  obtain ⟨dd, e_dd⟩ : ∃ ζ, ζ = mo_firstp τ (nI z) n := ⟨_, rfl⟩
  rw [← e_dd] at hl
  refine lv_aload_n hx hb d_M_giveBack_6 rfl (lv_at hl 1 rfl) ?_
  refine mw_get hx hb hts hown hK hP 8 (by decide) fl_M_28 (v := .ref (β 8)) rfl d_M_giveBack_7 ?_
  refine lv_iload_n hx hb d_M_giveBack_10 rfl (lv_at hl 2 rfl) ?_
  refine lv_iload_n hx hb d_M_giveBack_11 rfl (lv_at hl 0 rfl) ?_
  refine mw_ast hx hb hK hP hD hS 8 (by unfold mw_as; decide) (j := z) rfl hz d_M_giveBack_12 (fun H locs hP hD hS => ?_)
  obtain ⟨τ1, e_τ1⟩ : ∃ ζ, ζ = m_a τ 8 z dd := ⟨_, rfl⟩
  rw [← e_τ1] at hP hD
  have hI : m_ok n τ1.1 := by rw [e_τ1]; exact hI
  refine lv_aload_n hx hb d_M_giveBack_13 rfl (lv_at hl 1 rfl) ?_
  refine mw_get hx hb hts hown hK hP 9 (by decide) fl_M_31 (v := .ref (β 9)) rfl d_M_giveBack_14 ?_
  refine lv_iload_n hx hb d_M_giveBack_17 rfl (lv_at hl 2 rfl) ?_
  refine lv_aload_n hx hb d_M_giveBack_18 rfl (lv_at hl 1 rfl) ?_
  refine mw_get hx hb hts hown hK hP 19 (by decide) fl_M_84 (v := .int (τ1.1 19)) rfl d_M_giveBack_19 ?_
  refine mw_ast hx hb hK hP hD hS 9 (by unfold mw_as; decide) (j := z) rfl hz d_M_giveBack_22 (fun H locs hP hD hS => ?_)
  obtain ⟨τ2, e_τ2⟩ : ∃ ζ, ζ = m_a τ1 9 z (τ1.1 19) := ⟨_, rfl⟩
  rw [← e_τ2] at hP hD
  have hI : m_ok n τ2.1 := by rw [e_τ2]; exact hI
  refine lv_iload_n hx hb d_M_giveBack_23 rfl (lv_at hl 0 rfl) ?_
  refine lv_if_lt (tgt := 41) hx hb d_M_giveBack_24 (by decide) (fun c_24 => ?_) (fun c_24 => ?_)
  · -- to 41
    exact g_retv hx hb hr hlocks (by simp only [mo_gb]; rw [← e_dd, if_pos c_24, e_τ2, e_τ1]) hP hS d_M_giveBack_41
  · -- on 27
    refine lv_aload_n hx hb d_M_giveBack_27 rfl (lv_at hl 1 rfl) ?_
    refine mw_get hx hb hts hown hK hP 10 (by decide) fl_M_34 (v := .ref (β 10)) rfl d_M_giveBack_28 ?_
    refine lv_iload_n hx hb d_M_giveBack_31 rfl (lv_at hl 0 rfl) ?_
    refine lv_iconst (v := (-1)) hx hb d_M_giveBack_32 (by decide) ?_
    refine mw_ast hx hb hK hP hD hS 10 (by unfold mw_as; decide) (j := dd.toNatClampNeg) (ix_e c_24) (mo_first_8 hI0 c_24 e_dd (Nat.le_refl n)) d_M_giveBack_33 (fun H locs hP hD hS => ?_)
    obtain ⟨τ3, e_τ3⟩ : ∃ ζ, ζ = m_a τ2 10 dd.toNatClampNeg (-1) := ⟨_, rfl⟩
    rw [← e_τ3] at hP hD
    have hI : m_ok n τ3.1 := by rw [e_τ3]; exact hI
    refine lv_aload_n hx hb d_M_giveBack_34 rfl (lv_at hl 1 rfl) ?_
    refine mw_get hx hb hts hown hK hP 6 (by decide) fl_M_22 (v := .ref (β 6)) rfl d_M_giveBack_35 ?_
    refine lv_iload_n hx hb d_M_giveBack_38 rfl (lv_at hl 0 rfl) ?_
    refine lv_iconst (v := 0) hx hb d_M_giveBack_39 (by decide) ?_
    refine mw_ast hx hb hK hP hD hS 6 (by unfold mw_as; decide) (j := dd.toNatClampNeg) (ix_e c_24) (mo_first_8 hI0 c_24 e_dd (Nat.le_refl n)) d_M_giveBack_40 (fun H locs hP hD hS => ?_)
    obtain ⟨τ4, e_τ4⟩ : ∃ ζ, ζ = m_a τ3 6 dd.toNatClampNeg 0 := ⟨_, rfl⟩
    rw [← e_τ4] at hP hD
    have hI : m_ok n τ4.1 := by rw [e_τ4]; exact hI
    exact g_retv hx hb hr hlocks (by simp only [mo_gb]; rw [← e_dd, if_neg c_24, e_τ4, e_τ3, e_τ2, e_τ1]) hP hS d_M_giveBack_41

set_option maxHeartbeats 4000000 in
set_option maxRecDepth 100000 in
theorem ct_M_giveAll (l : Launch) (D : va_G) (cI cQ : ClassId) (β : Nat → Nat) (n : Nat) (τ : mS) (hI : m_ok n τ.1) (i : Nat) (hi : i < n) : Met l y_M_giveAll w_M_giveAll { frames := 2, cells := 0, slots := 0, locals := 45 } (gPc D (kty cI cQ) (mw_w cI β τ) [.ref (β 0), .int (nI i)]) (gQv D (mw_al β) (mw_w cI β (mo_ga n τ i))) 0 0 (gA (mw_al β)) := by
  refine Met.ofW (cc := b_M_giveAll) (maxL := 4) (ret := none) (by decide) rfl ?_
  intro p e s m args below meth c s₁ B hml hv
  obtain ⟨rfl, hP, hK, hD⟩ := hv
  have hx := B.exec
  have hb := B.bytes
  have hr := B.returns
  have hts : ∀ w ∈ kT, w.before [.ref (β 0), .int (nI i)].toArray s = true := fun w h => atoms_spec (ws := w_M_giveAll) B.pre w (List.mem_cons_of_mem _ h)
  have hown : s.vm.findClass R_M = some m.cls := findClass_of_methodNamed B.named
  have hlocks := B.notSynchronized
  have hD : va_D (gA (mw_al β)) (mw_w cI β τ) := gD mw_addr hD
  have hS : va_S (gA (mw_al β)) s.heap s.heap [] := va_S.rf
  have hl := lv_entry ([.ref (β 0), .int (nI i)]) (n := 4) (Nat.le_of_ble_eq_true rfl)
  rw [lg_entry_eq]
  generalize (lg_sl ([.ref (β 0), .int (nI i)]) ++ List.replicate (4 - (lg_sl ([.ref (β 0), .int (nI i)])).length) Slot.unset).toArray = ls at hl ⊢
  have hl : lv_has ls 4 [(0, .ref (β 0)), (1, .int (nI i))] := hl
  refine lv_aload_n hx hb d_M_giveAll_0 rfl (lv_at hl 0 rfl) ?_
  refine lv_iload_n hx hb d_M_giveAll_1 rfl (lv_at hl 1 rfl) ?_
  refine r_calli (W.runV (As := [.int (nI i)]) (rest := []) ⟨hx, hb, hml, hown, hts⟩ (ct_M_held l D cI cQ β n τ hI (nI i)) (cwV 1 hts gd_M_65 rfl rfl rfl (by decide +kernel) ⟨Nat.le_of_ble_eq_true rfl, Nat.le_of_ble_eq_true rfl⟩) (g_preV hK hP hD (ci := 2) (q0 := 0) rfl mw_0) rfl rfl hl.1 rfl (lv_room (Nat.le_of_ble_eq_true rfl)) d_M_giveAll_2 ⟨Nat.le_refl _, Nat.le_refl _⟩) ?_
  refine lv_istore_n (lv' := [(2, .int (mo_held τ (nI i))), (0, .ref (β 0)), (1, .int (nI i))]) hx hb d_M_giveAll_5 rfl hl (by decide) rfl (fun ls hl => ?_)
  obtain ⟨vv, e_vv⟩ : ∃ ζ, ζ = mo_held τ (nI i) := ⟨_, rfl⟩
  rw [← e_vv] at hl
  refine lv_iconst (v := 0) hx hb d_M_giveAll_6 (by decide) ?_
  refine lv_istore_n (lv' := [(3, .int 0), (2, .int vv), (0, .ref (β 0)), (1, .int (nI i))]) hx hb d_M_giveAll_7 rfl hl (by decide) rfl (fun ls hl => ?_)
  have lp8 : ∀ (fu j : Nat) (ς : mS) (H : Heap) (locs : List Loc) (ls : Array Slot), j ≤ 16 → 16 - j < fu → ς = mo_gap n vv τ j → va_P D kcl (mw_w cI β ς) H → va_D (gA (mw_al β)) (mw_w cI β ς) → va_S (gA (mw_al β)) s.heap H locs → lv_has ls 4 [(3, .int (nI j)), (0, .ref (β 0)), (1, .int (nI i)), (2, .int vv)] → W p l e (headSpec w_M_giveAll { frames := 2, cells := 0, slots := 0, locals := 45 }).room s m [.ref (β 0), .int (nI i)].toArray below meth c H locs 0 0 (MQ below (gQv D (mw_al β) (mw_w cI β (mo_ga n τ i))) [.ref (β 0), .int (nI i)].toArray s 0 0 (gA (mw_al β))) (F0 m 8 ls []) := by
    intro fu
    induction fu with
    | zero => intro j  ς H locs ls h1 h2; omega
    | succ fu ih =>
      intro j  ς H locs ls hj8 hf8   e_ς hP hD hS hl
      have hI : m_ok n ς.1 := by rw [e_ς, mo_gap_1]; exact hI
      refine lv_iload_n hx hb d_M_giveAll_8 rfl (lv_at hl 0 rfl) ?_
      refine lv_bipush (v := 16) hx hb d_M_giveAll_9 (by decide) ?_
      refine lv_icmp_ge (tgt := 34) hx hb d_M_giveAll_11 (by decide) (fun c_11 => ?_) (fun c_11 => ?_)
      · -- to 34
        have hx8 : j = 16 := lp_eq (B := 16) (hn := (by decide)) c_11 hj8
        subst hx8
        exact g_retv hx hb hr hlocks (by rw [e_ς, mo_ga, e_vv]) hP hS d_M_giveAll_34
      · -- on 14
        have hl8 : j < 16 := lp_lt (B := 16) (hn := (by decide)) c_11 hj8
        refine lv_iload_n hx hb d_M_giveAll_14 rfl (lv_at hl 3 rfl) ?_
        refine lv_iload_n hx hb d_M_giveAll_15 rfl (lv_at hl 0 rfl) ?_
        refine lv_ishr hx hb d_M_giveAll_16 ?_
        refine lv_iconst (v := 1) hx hb d_M_giveAll_17 (by decide) ?_
        refine lv_iand hx hb d_M_giveAll_18 ?_
        refine lv_iconst (v := 1) hx hb d_M_giveAll_19 (by decide) ?_
        refine lv_icmp_ne (tgt := 28) hx hb d_M_giveAll_20 (by decide) (fun c_20 => ?_) (fun c_20 => ?_)
        · -- to 28
          refine lv_iinc (v := nI (j + 1)) (lv' := [(3, .int (nI (j + 1))), (0, .ref (β 0)), (1, .int (nI i)), (2, .int vv)]) hx hb d_M_giveAll_28 hl (k := 0) rfl (nI_1 j) (by decide) rfl (fun ls hl => ?_)
          refine lv_goto (tgt := 8) hx hb d_M_giveAll_31 (by decide) ?_
          exact ih (j + 1)  _ _ _ ls (by omega) (by omega)  (by rw [mo_gap, ← e_ς, if_neg c_20]) hP hD hS (lv_sub hl [0, 1, 2, 3] rfl)
        · -- on 23
          refine lv_aload_n hx hb d_M_giveAll_23 rfl (lv_at hl 1 rfl) ?_
          refine lv_iload_n hx hb d_M_giveAll_24 rfl (lv_at hl 0 rfl) ?_
          refine g_callv (va_runV (As := [.int (nI j)]) (rest := []) ⟨hx, hb, hml, hown, hts⟩ (ct_M_giveBack l D cI cQ β n ς hI j hl8) (cwV 1 hts gd_M_87 rfl rfl rfl (by decide +kernel) ⟨Nat.le_of_ble_eq_true rfl, Nat.le_of_ble_eq_true rfl⟩) (g_preV hK hP hD (ci := 2) (q0 := 0) rfl mw_0) rfl rfl hl.1 rfl (lv_room (Nat.le_of_ble_eq_true rfl)) d_M_giveAll_25 ⟨Nat.le_refl _, Nat.le_refl _⟩) hD hS (mw_addr.trans mw_addr.symm) (fun H locs hP hD hS => ?_)
          obtain ⟨τ1, e_τ1⟩ : ∃ ζ, ζ = mo_gb n ς j := ⟨_, rfl⟩
          rw [← e_τ1] at hP hD
          have hI : m_ok n τ1.1 := by rw [e_τ1]; exact (by rw [mo_gb_1]; exact hI)
          refine lv_iinc (v := nI (j + 1)) (lv' := [(3, .int (nI (j + 1))), (0, .ref (β 0)), (1, .int (nI i)), (2, .int vv)]) hx hb d_M_giveAll_28 hl (k := 0) rfl (nI_1 j) (by decide) rfl (fun ls hl => ?_)
          refine lv_goto (tgt := 8) hx hb d_M_giveAll_31 (by decide) ?_
          exact ih (j + 1)  _ _ _ ls (by omega) (by omega)  (by rw [e_τ1, mo_gap, ← e_ς, if_pos c_20]) hP hD hS (lv_sub hl [0, 1, 2, 3] rfl)
  exact lp8 (16 - 0 + 1) 0  _ _ _ ls (by omega) (by omega)   rfl hP hD hS (lv_sub hl [0, 2, 3, 1] rfl)

set_option maxHeartbeats 4000000 in
set_option maxRecDepth 100000 in
theorem ct_M_goesOn (l : Launch) (D : va_G) (cI cQ : ClassId) (β : Nat → Nat) (n : Nat) (τ : mS) (hI : m_ok n τ.1) (i : Nat) (hi : i < n) : Met l y_M_goesOn w_M_goesOn { frames := 0, cells := 0, slots := 0, locals := 0 } (gPc D (kty cI cQ) (mw_w cI β τ) [.ref (β 0), .int (nI i)]) (gQv D (mw_al β) (mw_w cI β (mo_goes τ i))) 0 0 (gA (mw_al β)) := by
  refine Met.ofW (cc := b_M_goesOn) (maxL := 2) (ret := none) (by decide) rfl ?_
  intro p e s m args below meth c s₁ B hml hv
  obtain ⟨rfl, hP, hK, hD⟩ := hv
  have hx := B.exec
  have hb := B.bytes
  have hr := B.returns
  have hts : ∀ w ∈ kT, w.before [.ref (β 0), .int (nI i)].toArray s = true := fun w h => atoms_spec (ws := w_M_goesOn) B.pre w (List.mem_cons_of_mem _ h)
  have hown : s.vm.findClass R_M = some m.cls := findClass_of_methodNamed B.named
  have hlocks := B.notSynchronized
  have hD : va_D (gA (mw_al β)) (mw_w cI β τ) := gD mw_addr hD
  have hS : va_S (gA (mw_al β)) s.heap s.heap [] := va_S.rf
  have hl := lv_entry ([.ref (β 0), .int (nI i)]) (n := 2) (Nat.le_of_ble_eq_true rfl)
  rw [lg_entry_eq]
  generalize (lg_sl ([.ref (β 0), .int (nI i)]) ++ List.replicate (2 - (lg_sl ([.ref (β 0), .int (nI i)])).length) Slot.unset).toArray = ls at hl ⊢
  have hl : lv_has ls 2 [(0, .ref (β 0)), (1, .int (nI i))] := hl
  refine lv_aload_n hx hb d_M_goesOn_0 rfl (lv_at hl 0 rfl) ?_
  refine mw_get hx hb hts hown hK hP 4 (by decide) fl_M_16 (v := .ref (β 4)) rfl d_M_goesOn_1 ?_
  refine lv_iload_n hx hb d_M_goesOn_4 rfl (lv_at hl 1 rfl) ?_
  refine lv_dup2_11 hx hb d_M_goesOn_5 rfl rfl ?_
  refine mw_ald hx hb hK hP 4 (by unfold mw_as; decide) (j := i) rfl (m8 hI hi) d_M_goesOn_6 ?_
  refine lv_iconst (v := 1) hx hb d_M_goesOn_7 (by decide) ?_
  refine lv_iadd hx hb d_M_goesOn_8 ?_
  refine mw_ast hx hb hK hP hD hS 4 (by unfold mw_as; decide) (j := i) rfl (m8 hI hi) d_M_goesOn_9 (fun H locs hP hD hS => ?_)
  obtain ⟨τ1, e_τ1⟩ : ∃ ζ, ζ = m_a τ 4 i ((τ.2 4 i) + 1) := ⟨_, rfl⟩
  rw [← e_τ1] at hP hD
  have hI : m_ok n τ1.1 := by rw [e_τ1]; exact hI
  refine lv_aload_n hx hb d_M_goesOn_10 rfl (lv_at hl 0 rfl) ?_
  refine mw_get hx hb hts hown hK hP 6 (by decide) fl_M_22 (v := .ref (β 6)) rfl d_M_goesOn_11 ?_
  refine lv_iload_n hx hb d_M_goesOn_14 rfl (lv_at hl 1 rfl) ?_
  refine lv_aload_n hx hb d_M_goesOn_15 rfl (lv_at hl 0 rfl) ?_
  refine mw_get hx hb hts hown hK hP 4 (by decide) fl_M_16 (v := .ref (β 4)) rfl d_M_goesOn_16 ?_
  refine lv_iload_n hx hb d_M_goesOn_19 rfl (lv_at hl 1 rfl) ?_
  refine mw_ald hx hb hK hP 4 (by unfold mw_as; decide) (j := i) rfl (m8 hI hi) d_M_goesOn_20 ?_
  refine lv_aload_n hx hb d_M_goesOn_21 rfl (lv_at hl 0 rfl) ?_
  refine mw_get hx hb hts hown hK hP 2 (by decide) fl_M_7 (v := .ref (β 2)) rfl d_M_goesOn_22 ?_
  refine lv_iload_n hx hb d_M_goesOn_25 rfl (lv_at hl 1 rfl) ?_
  refine mw_ald hx hb hK hP 2 (by unfold mw_as; decide) (j := i) rfl (m8 hI hi) d_M_goesOn_26 ?_
  refine lv_icmp_ne (tgt := 34) hx hb d_M_goesOn_27 (by decide) (fun c_27 => ?_) (fun c_27 => ?_)
  · -- to 34
    refine lv_iconst (v := 0) hx hb d_M_goesOn_34 (by decide) ?_
    refine mw_ast hx hb hK hP hD hS 6 (by unfold mw_as; decide) (j := i) rfl (m8 hI hi) d_M_goesOn_35 (fun H locs hP hD hS => ?_)
    obtain ⟨τ2, e_τ2⟩ : ∃ ζ, ζ = m_a τ1 6 i 0 := ⟨_, rfl⟩
    rw [← e_τ2] at hP hD
    have hI : m_ok n τ2.1 := by rw [e_τ2]; exact hI
    exact g_retv hx hb hr hlocks (by simp only [mo_goes]; rw [← e_τ1, if_neg c_27, e_τ2]) hP hS d_M_goesOn_36
  · -- on 30
    refine lv_iconst (v := 2) hx hb d_M_goesOn_30 (by decide) ?_
    refine lv_goto (tgt := 35) hx hb d_M_goesOn_31 (by decide) ?_
    refine mw_ast hx hb hK hP hD hS 6 (by unfold mw_as; decide) (j := i) rfl (m8 hI hi) d_M_goesOn_35 (fun H locs hP hD hS => ?_)
    obtain ⟨τ3, e_τ3⟩ : ∃ ζ, ζ = m_a τ1 6 i 2 := ⟨_, rfl⟩
    rw [← e_τ3] at hP hD
    have hI : m_ok n τ3.1 := by rw [e_τ3]; exact hI
    exact g_retv hx hb hr hlocks (by simp only [mo_goes]; rw [← e_τ1, if_pos c_27, e_τ3]) hP hS d_M_goesOn_36
end
section
/-! the reference's public methods, by numbers -/
def mo_desk2 (n : Nat) (τ : mS) (x y : Int32) : Int32 × mS :=
  if τ.1 1 = 8 then (0, m_f τ 0 2)
  else if τ.1 20 = 0 then
    (let τ5 := m_f (m_a (m_a (m_a (m_f τ 0 0) 2 n x) 3 n y) 10 n (-1)) 1 ((m_a (m_a (m_a (m_f τ 0 0) 2 n x) 3 n y) 10 n (-1)).1 1 + 1)
    (τ5.1 1 - 1, τ5))
  else (0, m_f τ 0 2)
def mo_desk (n : Nat) (τ : mS) (x y : Int32) : Int32 × mS :=
  if mo_in x 1 12 = 0 then (0, m_f τ 0 1)
  else if y = -1 then mo_desk2 n τ x y
  else if mo_in y 0 (x - 1) = 0 then (0, m_f τ 0 1) else mo_desk2 n τ x y
def mo_turn (τ : mS) (x : Int32) : Int32 × mS :=
  if mo_isd τ x = 0 then (0, m_f τ 0 1)
  else if τ.1 14 = 300 then (0, m_f τ 0 2)
  else if τ.1 20 = 0 then
    (let τ3 := m_f (m_a (m_f τ 0 0) 13 ((m_f τ 0 0).1 14).toNatClampNeg x) 14 ((m_a (m_f τ 0 0) 13 ((m_f τ 0 0).1 14).toNatClampNeg x).1 14 + 1)
    (τ3.1 14 - τ3.1 15, τ3))
  else (0, m_f τ 0 2)
def mo_run (n : Nat) (τ : mS) (k : Nat) : Int32 × mS :=
  if τ.1 20 = 0 then mo_runp n (m_f τ 0 0) k else (0, m_f τ 0 1)
def mo_log (τ : mS) (x : Int32) : Int32 := if x < 0 then -1 else if τ.1 17 ≤ x then -1 else τ.2 18 x.toNatClampNeg
def mo_dead (τ : mS) (i : Nat) : Int32 × mS :=
  if (m_f τ 0 0).2 6 i ≤ 1 then (mo_onesp (mo_held (m_a (m_a (m_f τ 0 0) 6 i 3) 10 i (-1)) (nI i)) 16, m_a (m_a (m_f τ 0 0) 6 i 3) 10 i (-1))
  else (-1, m_f τ 0 0)
def mo_tick (n : Nat) (τ : mS) (x : Int32) : Int32 × mS := mo_tickp n (m_f (m_f τ 0 0) 19 x) 16
def mo_close (n : Nat) (τ : mS) : Int32 × mS :=
  if (m_f τ 0 0).1 20 = 0 then mo_closep n (m_f (m_f τ 0 0) 20 1) n else (-1, m_f τ 0 0)
def mo_look (τ : mS) (i : Nat) (y : Int32) : Int32 :=
  if y = 0 then τ.2 4 i else if y = 1 then τ.2 5 i else if y = 2 then τ.2 6 i else if y = 3 then mo_held τ (nI i) else τ.2 10 i
def mo_count (τ : mS) (x : Int32) : Int32 :=
  if x = 0 then τ.1 1 else if x = 1 then τ.1 17 else if x = 2 then τ.1 14 else if x = 3 then τ.1 16 else if x = 4 then τ.1 19 else if x = 5 then (if τ.1 20 = 0 then 0 else 1) else if x = 6 then mo_cntp (τ.2 8) 16 else -1
def mo_needs (n : Nat) (τ : mS) (i : Nat) (y z : Int32) : Int32 × mS :=
  if kd_sub z = 0 then (0, m_f τ 0 0)
  else if mo_in y 0 ((m_f τ 0 0).2 2 i - 1) = 0 then (0, m_f τ 0 0)
  else if (m_f τ 0 0).1 20 = 0 then
    (if ((m_f τ 0 0).2 7 (12 * nI i + y).toNatClampNeg >>> (z &&& 31)) &&& 1 = 1 then (0, m_f τ 0 0)
    else if y < (m_f τ 0 0).2 4 i then (0, m_f τ 0 0)
    else if y = (m_f τ 0 0).2 4 i then (if mo_midst (m_f τ 0 0) i = 0 then (1, m_a (m_f τ 0 0) 7 (12 * nI i + y).toNatClampNeg ((m_f τ 0 0).2 7 (12 * nI i + y).toNatClampNeg ||| ((1 : Int32) <<< (z &&& 31)))) else (0, m_f τ 0 0))
    else (1, m_a (m_f τ 0 0) 7 (12 * nI i + y).toNatClampNeg ((m_f τ 0 0).2 7 (12 * nI i + y).toNatClampNeg ||| ((1 : Int32) <<< (z &&& 31)))))
  else (0, m_f τ 0 0)
/-- what a step of a desk needs: its present act is one of twelve, what it wants is among the sixteen -/
def so_ok (τ : mS) (i : Nat) : Prop := (∃ p, p < 12 ∧ τ.2 4 i = nI p) ∧ (mo_wants τ i ≠ 0 → ∃ q, q < 16 ∧ mo_lowp (mo_wants τ i) 16 = some q)
theorem lowp_is {w : Int32} {j q : Nat} (h : mo_lowp w j = some q) : q < j ∧ ¬ (w >>> (nI q &&& 31)) &&& 1 = 0 ∧ ∀ z, z < q → (w >>> (nI z &&& 31)) &&& 1 = 0 := by
  have hn : ∀ j, mo_lowp w j = none → ∀ z, z < j → (w >>> (nI z &&& 31)) &&& 1 = 0 := by
    intro j
    induction j with
    | zero => exact fun _ z hz => absurd hz (by omega)
    | succ j ih =>
      intro h z hz
      unfold mo_lowp at h
      cases hm : mo_lowp w j with
      | some k => rw [hm] at h; cases h
      | none =>
        rw [hm] at h
        dsimp only at h
        by_cases c : (w >>> (nI j &&& 31)) &&& 1 = 0
        · by_cases e : z = j
          · subst e; exact c
          · exact ih hm z (by omega)
        · rw [if_neg c] at h; cases h
  induction j with
  | zero => cases h
  | succ j ih =>
    unfold mo_lowp at h
    cases hm : mo_lowp w j with
    | some k =>
      rw [hm] at h
      cases h
      obtain ⟨a, b⟩ := ih hm
      exact ⟨by omega, b⟩
    | none =>
      rw [hm] at h
      dsimp only at h
      by_cases c : (w >>> (nI j &&& 31)) &&& 1 = 0
      · rw [if_pos c] at h; cases h
      · rw [if_neg c] at h
        cases h
        exact ⟨by omega, c, hn _ hm⟩
theorem m_n96 {n i p : Nat} {f : Nat → Int32} {x : Int32} (hI : m_ok n f) (hi : i < n) (hp : p < 12) (ep : x = nI p) : ¬ (12 * nI i + x) < 0 ∧ (12 * nI i + x).toNatClampNeg < 96 := by
  have := hI.1
  rw [ep, show (12 : Int32) = nI 12 from rfl, pk_mul, nI_add]
  exact ⟨nI_pos (by omega), by rw [nI_clamp (by omega)]; omega⟩
theorem m_ok_t0 {n : Nat} {f : Nat → Int32} (hI : m_ok n f) : ¬ f 14 < 0 := by
  obtain ⟨t, r, h1, h2, h3, h4⟩ := hI.2.2.2
  rw [h3]; exact nI_pos (by omega)
theorem m_ok_t3 {n : Nat} {f : Nat → Int32} (hI : m_ok n f) (c : ¬ f 14 = 300) : (f 14).toNatClampNeg < 300 := by
  obtain ⟨t, r, h1, h2, h3, h4⟩ := hI.2.2.2
  rw [h3, nI_clamp (by omega)]
  rcases Nat.lt_or_ge t 300 with q | q
  · exact q
  · exact absurd (by rw [h3, show t = 300 by omega]; rfl) c
theorem m_n8 {n : Nat} {f : Nat → Int32} (hI : m_ok n f) (c : ¬ f 1 = 8) : n < 8 := by
  have h := hI.1
  rcases Nat.lt_or_ge n 8 with q | q
  · exact q
  · exact absurd (by rw [hI.2.1, show n = 8 by omega]; rfl) c
theorem mo_isd_some {n : Nat} {τ : mS} {x : Int32} (hI : m_ok n τ.1) (c : ¬ mo_isd τ x = 0) : ∃ i, i < n ∧ x = nI i := by
  unfold mo_isd at c
  by_cases h0 : x < 0
  · rw [if_pos h0] at c; exact absurd rfl c
  · rw [if_neg h0] at c
    by_cases h1 : τ.1 1 ≤ x
    · rw [if_pos h1] at c; exact absurd rfl c
    · rw [hI.2.1] at h1
      exact ⟨x.toNatClampNeg, ix_l h0 h1 (by have := hI.1; omega), ix_e h0⟩
theorem m_ok_log {n : Nat} {f : Nat → Int32} {x : Int32} (hI : m_ok n f) (h0 : ¬ x < 0) (h : ¬ f 17 ≤ x) : x.toNatClampNeg < 400 := by
  obtain ⟨e, he, h2⟩ := hI.2.2.1
  rw [h2] at h
  have := ix_l h0 h (by omega)
  omega
def mo_inti (n : Nat) (τ : mS) (i : Nat) : Int32 × mS :=
  if (m_f τ 0 0).2 6 i = 1 then (1, mo_goes (mo_ga n (mo_write (m_a (m_f τ 0 0) 10 i (-1)) 3 i) i) i) else (0, m_f τ 0 0)
def mo_wt (τ : mS) (n z : Nat) (y : Int32) : Int32 := match mo_wtp (m_f τ 0 0) n (nI z) y n with
  | some j => nI j
  | none => -1
theorem mo_wt_n {τ : mS} {n z : Nat} {y : Int32} (h : mo_wtp (m_f τ 0 0) n (nI z) y n = none) : (-1 : Int32) = mo_wt τ n z y := by unfold mo_wt; rw [h]
theorem mo_wt_s {τ : mS} {n z j : Nat} {y : Int32} (h : mo_wtp (m_f τ 0 0) n (nI z) y n = some j) : nI j = mo_wt τ n z y := by unfold mo_wt; rw [h]
theorem mo_wtp_up {τ : mS} {n m i : Nat} {x y : Int32} {M : Nat} (h : mo_wtp τ n x y m = some i) (hm : m ≤ M) : mo_wtp τ n x y M = some i := by
  induction M with
  | zero => rw [show m = 0 by omega] at h; exact h
  | succ M ih =>
    by_cases e : m = M + 1
    · rw [← e]; exact h
    · unfold mo_wtp
      rw [ih (by omega)]
theorem mo_isd_nI {n i : Nat} {τ : mS} (hI : m_ok n τ.1) (hi : i < n) : mo_isd τ (nI i) = 1 := by
  have := hI.1
  unfold mo_isd
  rw [if_neg (nI_pos (by omega)), hI.2.1, if_neg (nI_ge hi (by omega))]
theorem mo_tickp_1 (n : Nat) (τ : mS) (j : Nat) : (mo_tickp n τ j).2.1 = τ.1 := by
  induction j with
  | zero => rfl
  | succ j ih =>
    unfold mo_tickp
    split
    · exact ih
    · dsimp only
      rw [mo_gb_1, ih]
theorem h8_ix {n : Nat} {f : Nat → Int32} {x : Int32} (hI : m_ok n f) (h0 : ¬ x < 0) (h : x = -1 ∨ ∃ d, d < n ∧ x = nI d) : x.toNatClampNeg < 8 := by
  have := hI.1
  rcases h with h | ⟨d, hd, h⟩
  · exact absurd (by rw [h]; decide) h0
  · rw [h, nI_clamp (by omega)]; omega
theorem m_ok_end {n i : Nat} {τ : mS} (hI : m_ok n τ.1) : m_ok n (mo_end n τ i).1 := by
  unfold mo_end
  split
  · rw [mo_ga_1]; exact hI
  · rw [mo_ga_1]; exact m_ok_write hI
theorem m_ok_closep {n : Nat} {τ : mS} (hI : m_ok n τ.1) (j : Nat) : m_ok n (mo_closep n τ j).2.1 := by
  induction j with
  | zero => exact hI
  | succ j ih =>
    unfold mo_closep
    split
    · exact ih
    · exact m_ok_end ih
theorem mo_in_ix {x a : Int32} {b : Nat} (c : ¬ mo_in x 0 (nI b - 1) = 0) (h1 : 1 ≤ b) (h2 : b ≤ 12) : ∃ p, p < 12 ∧ x = nI p := by
  unfold mo_in at c
  by_cases h0 : x < 0
  · rw [if_pos h0] at c; exact absurd rfl c
  · rw [if_neg h0] at c
    by_cases h3 : nI b - 1 < x
    · rw [if_pos h3] at c; exact absurd rfl c
    · obtain ⟨j, hj, rfl⟩ := nI_of h0
      refine ⟨j, ?_, rfl⟩
      rw [show nI b - 1 = nI (b - 1) by rw [show b = (b - 1) + 1 by omega, nI_pred]; rfl] at h3
      rcases Nat.lt_or_ge (b - 1) j with q | q
      · exact absurd (nI_lt q hj) h3
      · omega
end
section
set_option maxHeartbeats 4000000 in
set_option maxRecDepth 100000 in
theorem ct_M_steps (l : Launch) (D : va_G) (cI cQ : ClassId) (β : Nat → Nat) (n : Nat) (τ : mS) (hI : m_ok n τ.1) (i : Nat) (hi : i < n) (hs : so_ok τ i) : Met l y_M_steps w_M_steps { frames := 3, cells := 0, slots := 0, locals := 68 } (gPc D (kty cI cQ) (mw_w cI β τ) [.ref (β 0), .int (nI i)]) (gQi D (mw_al β) ((mo_steps n τ i).1) (mw_w cI β ((mo_steps n τ i).2))) 0 0 (gA (mw_al β)) := by
  refine Met.ofW (cc := b_M_steps) (maxL := 4) (ret := some .boolean) (by decide) rfl ?_
  intro p e s m args below meth c s₁ B hml hv
  obtain ⟨rfl, hP, hK, hD⟩ := hv
  have hx := B.exec
  have hb := B.bytes
  have hr := B.returns
  have hts : ∀ w ∈ kT, w.before [.ref (β 0), .int (nI i)].toArray s = true := fun w h => atoms_spec (ws := w_M_steps) B.pre w (List.mem_cons_of_mem _ h)
  have hown : s.vm.findClass R_M = some m.cls := findClass_of_methodNamed B.named
  have hlocks := B.notSynchronized
  have hD : va_D (gA (mw_al β)) (mw_w cI β τ) := gD mw_addr hD
  have hS : va_S (gA (mw_al β)) s.heap s.heap [] := va_S.rf
  have hl := lv_entry ([.ref (β 0), .int (nI i)]) (n := 4) (Nat.le_of_ble_eq_true rfl)
  rw [lg_entry_eq]
  generalize (lg_sl ([.ref (β 0), .int (nI i)]) ++ List.replicate (4 - (lg_sl ([.ref (β 0), .int (nI i)])).length) Slot.unset).toArray = ls at hl ⊢
  have hl : lv_has ls 4 [(0, .ref (β 0)), (1, .int (nI i))] := hl
  obtain ⟨⟨p0, hp0, ep0⟩, hlow⟩ := hs
  refine lv_aload_n hx hb d_M_steps_0 rfl (lv_at hl 0 rfl) ?_
  refine mw_get hx hb hts hown hK hP 7 (by decide) fl_M_25 (v := .ref (β 7)) rfl d_M_steps_1 ?_
  refine lv_bipush (v := 12) hx hb d_M_steps_4 (by decide) ?_
  refine lv_iload_n hx hb d_M_steps_6 rfl (lv_at hl 1 rfl) ?_
  refine lv_imul hx hb d_M_steps_7 ?_
  refine lv_aload_n hx hb d_M_steps_8 rfl (lv_at hl 0 rfl) ?_
  refine mw_get hx hb hts hown hK hP 4 (by decide) fl_M_16 (v := .ref (β 4)) rfl d_M_steps_9 ?_
  refine lv_iload_n hx hb d_M_steps_12 rfl (lv_at hl 1 rfl) ?_
  refine mw_ald hx hb hK hP 4 (by unfold mw_as; decide) (j := i) rfl (m8 hI hi) d_M_steps_13 ?_
  refine lv_iadd hx hb d_M_steps_14 ?_
  refine mw_ald hx hb hK hP 7 (by unfold mw_as; decide) (j := (12 * nI i + τ.2 4 i).toNatClampNeg) (ix_e (m_n96 hI hi hp0 ep0).1) (m_n96 hI hi hp0 ep0).2 d_M_steps_15 ?_
  refine lv_aload_n hx hb d_M_steps_16 rfl (lv_at hl 0 rfl) ?_
  refine lv_iload_n hx hb d_M_steps_17 rfl (lv_at hl 1 rfl) ?_
  refine r_calli (W.runV (As := [.int (nI i)]) (rest := [.int (τ.2 7 ((12 * nI i + τ.2 4 i).toNatClampNeg))]) ⟨hx, hb, hml, hown, hts⟩ (ct_M_held l D cI cQ β n τ hI (nI i)) (cwV 1 hts gd_M_65 rfl rfl rfl (by decide +kernel) ⟨Nat.le_of_ble_eq_true rfl, Nat.le_of_ble_eq_true rfl⟩) (g_preV hK hP hD (ci := 2) (q0 := 0) rfl mw_0) rfl rfl hl.1 rfl (lv_room (Nat.le_of_ble_eq_true rfl)) d_M_steps_18 ⟨Nat.le_refl _, Nat.le_refl _⟩) ?_
  refine lv_iconst (v := (-1)) hx hb d_M_steps_21 (by decide) ?_
  refine lv_ixor hx hb d_M_steps_22 ?_
  refine lv_iand hx hb d_M_steps_23 ?_
  refine lv_istore_n (lv' := [(2, .int ((τ.2 7 ((12 * nI i + τ.2 4 i).toNatClampNeg)) &&& ((mo_held τ (nI i)) ^^^ (-1)))), (0, .ref (β 0)), (1, .int (nI i))]) hx hb d_M_steps_24 rfl hl (by decide) rfl (fun ls hl => ?_)
  obtain ⟨ww, e_ww⟩ : ∃ ζ, ζ = mo_wants τ i := ⟨_, rfl⟩
  have hl : lv_has ls 4 [(2, .int ww), (0, .ref (β 0)), (1, .int (nI i))] := by rw [e_ww]; exact hl
  refine lv_iload_n hx hb d_M_steps_25 rfl (lv_at hl 0 rfl) ?_
  refine lv_if_eq (tgt := 110) hx hb d_M_steps_26 (by decide) (fun c_26 => ?_) (fun c_26 => ?_)
  · -- to 110
    refine lv_aload_n hx hb d_M_steps_110 rfl (lv_at hl 1 rfl) ?_
    refine mw_get hx hb hts hown hK hP 3 (by decide) fl_M_13 (v := .ref (β 3)) rfl d_M_steps_111 ?_
    refine lv_iload_n hx hb d_M_steps_114 rfl (lv_at hl 2 rfl) ?_
    refine mw_ald hx hb hK hP 3 (by unfold mw_as; decide) (j := i) rfl (m8 hI hi) d_M_steps_115 ?_
    refine lv_aload_n hx hb d_M_steps_116 rfl (lv_at hl 1 rfl) ?_
    refine mw_get hx hb hts hown hK hP 4 (by decide) fl_M_16 (v := .ref (β 4)) rfl d_M_steps_117 ?_
    refine lv_iload_n hx hb d_M_steps_120 rfl (lv_at hl 2 rfl) ?_
    refine mw_ald hx hb hK hP 4 (by unfold mw_as; decide) (j := i) rfl (m8 hI hi) d_M_steps_121 ?_
    refine lv_icmp_ne (tgt := 129) hx hb d_M_steps_122 (by decide) (fun c_122 => ?_) (fun c_122 => ?_)
    · -- to 129
      refine lv_iconst (v := 0) hx hb d_M_steps_129 (by decide) ?_
      refine lv_istore_n (lv' := [(3, .int 0), (2, .int ww), (0, .ref (β 0)), (1, .int (nI i))]) hx hb d_M_steps_130 rfl hl (by decide) rfl (fun ls hl => ?_)
      refine lv_aload_n hx hb d_M_steps_131 rfl (lv_at hl 2 rfl) ?_
      refine lv_iload_n hx hb d_M_steps_132 rfl (lv_at hl 0 rfl) ?_
      refine lv_if_eq (tgt := 140) hx hb d_M_steps_133 (by decide) (fun c_133 => ?_) (fun c_133 => ?_)
      · -- to 140
        refine lv_iconst (v := 1) hx hb d_M_steps_140 (by decide) ?_
        refine lv_iload_n hx hb d_M_steps_141 rfl (lv_at hl 3 rfl) ?_
        refine g_callv (va_runV (As := [.int 1, .int (nI i)]) (rest := []) ⟨hx, hb, hml, hown, hts⟩ (ct_M_write l D cI cQ β n τ hI 1 i hi) (cwV 2 hts gd_M_94 rfl rfl rfl (by decide +kernel) ⟨Nat.le_of_ble_eq_true rfl, Nat.le_of_ble_eq_true rfl⟩) (g_preV hK hP hD (ci := 2) (q0 := 0) rfl mw_0) rfl rfl hl.1 rfl (lv_room (Nat.le_of_ble_eq_true rfl)) d_M_steps_142 ⟨Nat.le_refl _, Nat.le_refl _⟩) hD hS (mw_addr.trans mw_addr.symm) (fun H locs hP hD hS => ?_)
        obtain ⟨τ1, e_τ1⟩ : ∃ ζ, ζ = mo_write τ 1 i := ⟨_, rfl⟩
        rw [← e_τ1] at hP hD
        have hI : m_ok n τ1.1 := by rw [e_τ1]; exact (m_ok_write hI)
        refine lv_aload_n hx hb d_M_steps_145 rfl (lv_at hl 2 rfl) ?_
        refine mw_get hx hb hts hown hK hP 3 (by decide) fl_M_13 (v := .ref (β 3)) rfl d_M_steps_146 ?_
        refine lv_iload_n hx hb d_M_steps_149 rfl (lv_at hl 3 rfl) ?_
        refine lv_iload_n hx hb d_M_steps_150 rfl (lv_at hl 0 rfl) ?_
        refine lv_if_eq (tgt := 158) hx hb d_M_steps_151 (by decide) (fun c_151 => ?_) (fun c_151 => ?_)
        · -- to 158
          refine lv_aload_n hx hb d_M_steps_158 rfl (lv_at hl 2 rfl) ?_
          refine mw_get hx hb hts hown hK hP 3 (by decide) fl_M_13 (v := .ref (β 3)) rfl d_M_steps_159 ?_
          refine lv_iload_n hx hb d_M_steps_162 rfl (lv_at hl 3 rfl) ?_
          refine mw_ald hx hb hK hP 3 (by unfold mw_as; decide) (j := i) rfl (m8 hI hi) d_M_steps_163 ?_
          refine mw_ast hx hb hK hP hD hS 3 (by unfold mw_as; decide) (j := i) rfl (m8 hI hi) d_M_steps_164 (fun H locs hP hD hS => ?_)
          obtain ⟨τ2, e_τ2⟩ : ∃ ζ, ζ = m_a τ1 3 i (τ1.2 3 i) := ⟨_, rfl⟩
          rw [← e_τ2] at hP hD
          have hI : m_ok n τ2.1 := by rw [e_τ2]; exact hI
          refine lv_aload_n hx hb d_M_steps_165 rfl (lv_at hl 2 rfl) ?_
          refine lv_iload_n hx hb d_M_steps_166 rfl (lv_at hl 3 rfl) ?_
          refine g_callv (va_runV (As := [.int (nI i)]) (rest := []) ⟨hx, hb, hml, hown, hts⟩ (ct_M_giveAll l D cI cQ β n τ2 hI i hi) (cwV 1 hts gd_M_98 rfl rfl rfl (by decide +kernel) ⟨Nat.le_of_ble_eq_true rfl, Nat.le_of_ble_eq_true rfl⟩) (g_preV hK hP hD (ci := 2) (q0 := 0) rfl mw_0) rfl rfl hl.1 rfl (lv_room (Nat.le_of_ble_eq_true rfl)) d_M_steps_167 ⟨Nat.le_refl _, Nat.le_refl _⟩) hD hS (mw_addr.trans mw_addr.symm) (fun H locs hP hD hS => ?_)
          obtain ⟨τ3, e_τ3⟩ : ∃ ζ, ζ = mo_ga n τ2 i := ⟨_, rfl⟩
          rw [← e_τ3] at hP hD
          have hI : m_ok n τ3.1 := by rw [e_τ3]; exact (by rw [mo_ga_1]; exact hI)
          refine lv_iload_n hx hb d_M_steps_170 rfl (lv_at hl 0 rfl) ?_
          refine lv_if_ne (tgt := 189) hx hb d_M_steps_171 (by decide) (fun c_171 => ?_) (fun c_171 => ?_)
          · -- to 189
            exact absurd c_171 (by decide)
          · -- on 174
            refine lv_aload_n hx hb d_M_steps_174 rfl (lv_at hl 2 rfl) ?_
            refine mw_get hx hb hts hown hK hP 5 (by decide) fl_M_19 (v := .ref (β 5)) rfl d_M_steps_175 ?_
            refine lv_iload_n hx hb d_M_steps_178 rfl (lv_at hl 3 rfl) ?_
            refine lv_dup2_11 hx hb d_M_steps_179 rfl rfl ?_
            refine mw_ald hx hb hK hP 5 (by unfold mw_as; decide) (j := i) rfl (m8 hI hi) d_M_steps_180 ?_
            refine lv_iconst (v := 1) hx hb d_M_steps_181 (by decide) ?_
            refine lv_iadd hx hb d_M_steps_182 ?_
            refine mw_ast hx hb hK hP hD hS 5 (by unfold mw_as; decide) (j := i) rfl (m8 hI hi) d_M_steps_183 (fun H locs hP hD hS => ?_)
            obtain ⟨τ4, e_τ4⟩ : ∃ ζ, ζ = m_a τ3 5 i ((τ3.2 5 i) + 1) := ⟨_, rfl⟩
            rw [← e_τ4] at hP hD
            have hI : m_ok n τ4.1 := by rw [e_τ4]; exact hI
            refine lv_aload_n hx hb d_M_steps_184 rfl (lv_at hl 2 rfl) ?_
            refine lv_iload_n hx hb d_M_steps_185 rfl (lv_at hl 3 rfl) ?_
            refine g_callv (va_runV (As := [.int (nI i)]) (rest := []) ⟨hx, hb, hml, hown, hts⟩ (ct_M_goesOn l D cI cQ β n τ4 hI i hi) (cwV 1 hts gd_M_101 rfl rfl rfl (by decide +kernel) ⟨Nat.le_of_ble_eq_true rfl, Nat.le_of_ble_eq_true rfl⟩) (g_preV hK hP hD (ci := 2) (q0 := 0) rfl mw_0) rfl rfl hl.1 rfl (lv_room (Nat.le_of_ble_eq_true rfl)) d_M_steps_186 ⟨Nat.le_refl _, Nat.le_refl _⟩) hD hS (mw_addr.trans mw_addr.symm) (fun H locs hP hD hS => ?_)
            obtain ⟨τ5, e_τ5⟩ : ∃ ζ, ζ = mo_goes τ4 i := ⟨_, rfl⟩
            rw [← e_τ5] at hP hD
            have hI : m_ok n τ5.1 := by rw [e_τ5]; exact hI
            refine lv_iload_n hx hb d_M_steps_189 rfl (lv_at hl 0 rfl) ?_
            refine lv_if_ne (tgt := 197) hx hb d_M_steps_190 (by decide) (fun c_190 => ?_) (fun c_190 => ?_)
            · -- to 197
              exact absurd c_190 (by decide)
            · -- on 193
              refine lv_iconst (v := 1) hx hb d_M_steps_193 (by decide) ?_
              refine lv_goto (tgt := 198) hx hb d_M_steps_194 (by decide) ?_
              exact g_retz hx hb hr hlocks (by decide) (by rw [mo_steps, ← e_ww, if_pos c_26, mo_do, if_neg c_122]) (by rw [mo_steps, ← e_ww, if_pos c_26, mo_do, if_neg c_122, e_τ5, e_τ4, e_τ3, e_τ2, e_τ1]) hP hS d_M_steps_198
        · -- on 154
          exact absurd c_151 (by decide)
      · -- on 136
        exact absurd c_133 (by decide)
    · -- on 125
      refine lv_iconst (v := 1) hx hb d_M_steps_125 (by decide) ?_
      refine lv_goto (tgt := 130) hx hb d_M_steps_126 (by decide) ?_
      refine lv_istore_n (lv' := [(3, .int 1), (2, .int ww), (0, .ref (β 0)), (1, .int (nI i))]) hx hb d_M_steps_130 rfl hl (by decide) rfl (fun ls hl => ?_)
      refine lv_aload_n hx hb d_M_steps_131 rfl (lv_at hl 2 rfl) ?_
      refine lv_iload_n hx hb d_M_steps_132 rfl (lv_at hl 0 rfl) ?_
      refine lv_if_eq (tgt := 140) hx hb d_M_steps_133 (by decide) (fun c_133 => ?_) (fun c_133 => ?_)
      · -- to 140
        exact absurd c_133 (by decide)
      · -- on 136
        refine lv_iconst (v := 2) hx hb d_M_steps_136 (by decide) ?_
        refine lv_goto (tgt := 141) hx hb d_M_steps_137 (by decide) ?_
        refine lv_iload_n hx hb d_M_steps_141 rfl (lv_at hl 3 rfl) ?_
        refine g_callv (va_runV (As := [.int 2, .int (nI i)]) (rest := []) ⟨hx, hb, hml, hown, hts⟩ (ct_M_write l D cI cQ β n τ hI 2 i hi) (cwV 2 hts gd_M_94 rfl rfl rfl (by decide +kernel) ⟨Nat.le_of_ble_eq_true rfl, Nat.le_of_ble_eq_true rfl⟩) (g_preV hK hP hD (ci := 2) (q0 := 0) rfl mw_0) rfl rfl hl.1 rfl (lv_room (Nat.le_of_ble_eq_true rfl)) d_M_steps_142 ⟨Nat.le_refl _, Nat.le_refl _⟩) hD hS (mw_addr.trans mw_addr.symm) (fun H locs hP hD hS => ?_)
        obtain ⟨τ6, e_τ6⟩ : ∃ ζ, ζ = mo_write τ 2 i := ⟨_, rfl⟩
        rw [← e_τ6] at hP hD
        have hI : m_ok n τ6.1 := by rw [e_τ6]; exact (m_ok_write hI)
        refine lv_aload_n hx hb d_M_steps_145 rfl (lv_at hl 2 rfl) ?_
        refine mw_get hx hb hts hown hK hP 3 (by decide) fl_M_13 (v := .ref (β 3)) rfl d_M_steps_146 ?_
        refine lv_iload_n hx hb d_M_steps_149 rfl (lv_at hl 3 rfl) ?_
        refine lv_iload_n hx hb d_M_steps_150 rfl (lv_at hl 0 rfl) ?_
        refine lv_if_eq (tgt := 158) hx hb d_M_steps_151 (by decide) (fun c_151 => ?_) (fun c_151 => ?_)
        · -- to 158
          exact absurd c_151 (by decide)
        · -- on 154
          refine lv_iconst (v := (-1)) hx hb d_M_steps_154 (by decide) ?_
          refine lv_goto (tgt := 164) hx hb d_M_steps_155 (by decide) ?_
          refine mw_ast hx hb hK hP hD hS 3 (by unfold mw_as; decide) (j := i) rfl (m8 hI hi) d_M_steps_164 (fun H locs hP hD hS => ?_)
          obtain ⟨τ7, e_τ7⟩ : ∃ ζ, ζ = m_a τ6 3 i (-1) := ⟨_, rfl⟩
          rw [← e_τ7] at hP hD
          have hI : m_ok n τ7.1 := by rw [e_τ7]; exact hI
          refine lv_aload_n hx hb d_M_steps_165 rfl (lv_at hl 2 rfl) ?_
          refine lv_iload_n hx hb d_M_steps_166 rfl (lv_at hl 3 rfl) ?_
          refine g_callv (va_runV (As := [.int (nI i)]) (rest := []) ⟨hx, hb, hml, hown, hts⟩ (ct_M_giveAll l D cI cQ β n τ7 hI i hi) (cwV 1 hts gd_M_98 rfl rfl rfl (by decide +kernel) ⟨Nat.le_of_ble_eq_true rfl, Nat.le_of_ble_eq_true rfl⟩) (g_preV hK hP hD (ci := 2) (q0 := 0) rfl mw_0) rfl rfl hl.1 rfl (lv_room (Nat.le_of_ble_eq_true rfl)) d_M_steps_167 ⟨Nat.le_refl _, Nat.le_refl _⟩) hD hS (mw_addr.trans mw_addr.symm) (fun H locs hP hD hS => ?_)
          obtain ⟨τ8, e_τ8⟩ : ∃ ζ, ζ = mo_ga n τ7 i := ⟨_, rfl⟩
          rw [← e_τ8] at hP hD
          have hI : m_ok n τ8.1 := by rw [e_τ8]; exact (by rw [mo_ga_1]; exact hI)
          refine lv_iload_n hx hb d_M_steps_170 rfl (lv_at hl 0 rfl) ?_
          refine lv_if_ne (tgt := 189) hx hb d_M_steps_171 (by decide) (fun c_171 => ?_) (fun c_171 => ?_)
          · -- to 189
            refine lv_iload_n hx hb d_M_steps_189 rfl (lv_at hl 0 rfl) ?_
            refine lv_if_ne (tgt := 197) hx hb d_M_steps_190 (by decide) (fun c_190 => ?_) (fun c_190 => ?_)
            · -- to 197
              refine lv_iconst (v := 0) hx hb d_M_steps_197 (by decide) ?_
              exact g_retz hx hb hr hlocks (by decide) (by rw [mo_steps, ← e_ww, if_pos c_26, mo_do, if_pos c_122]) (by rw [mo_steps, ← e_ww, if_pos c_26, mo_do, if_pos c_122, e_τ8, e_τ7, e_τ6]) hP hS d_M_steps_198
            · -- on 193
              exact absurd c_190 (by decide)
          · -- on 174
            exact absurd c_171 (by decide)
  · -- on 29
    obtain ⟨q0, hq0, elow⟩ := hlow (by rw [← e_ww]; exact c_26)
    rw [← e_ww] at elow
    obtain ⟨-, hb1, hb0⟩ := lowp_is elow
    refine lv_iconst (v := 0) hx hb d_M_steps_29 (by decide) ?_
    refine lv_istore_n (lv' := [(3, .int 0), (2, .int ww), (0, .ref (β 0)), (1, .int (nI i))]) hx hb d_M_steps_30 rfl hl (by decide) rfl (fun ls hl => ?_)
    have lp31 : ∀ (fu j : Nat) (ls : Array Slot), j ≤ q0 → q0 - j < fu → lv_has ls 4 [(3, .int (nI j)), (2, .int ww), (0, .ref (β 0)), (1, .int (nI i))] → W p l e (headSpec w_M_steps { frames := 3, cells := 0, slots := 0, locals := 68 }).room s m [.ref (β 0), .int (nI i)].toArray below meth c s.heap [] 0 0 (MQ below (gQi D (mw_al β) ((mo_steps n τ i).1) (mw_w cI β ((mo_steps n τ i).2))) [.ref (β 0), .int (nI i)].toArray s 0 0 (gA (mw_al β))) (F0 m 31 ls []) := by
      intro fu
      induction fu with
      | zero => intro j ls h1 h2; omega
      | succ fu ih =>
        intro j ls hj31 hf31 hl
        refine lv_iload_n hx hb d_M_steps_31 rfl (lv_at hl 1 rfl) ?_
        refine lv_iload_n hx hb d_M_steps_32 rfl (lv_at hl 0 rfl) ?_
        refine lv_ishr hx hb d_M_steps_33 ?_
        refine lv_iconst (v := 1) hx hb d_M_steps_34 (by decide) ?_
        refine lv_iand hx hb d_M_steps_35 ?_
        refine lv_if_ne (tgt := 45) hx hb d_M_steps_36 (by decide) (fun c_36 => ?_) (fun c_36 => ?_)
        · -- to 45
          have hjq : j = q0 := by
            rcases Nat.lt_or_ge j q0 with q | q
            · exact absurd (hb0 j q) c_36
            · omega
          have hl : lv_has ls 4 [(3, .int (nI q0)), (2, .int ww), (0, .ref (β 0)), (1, .int (nI i))] := by rw [← hjq]; exact hl
          refine lv_aload_n hx hb d_M_steps_45 rfl (lv_at hl 2 rfl) ?_
          refine mw_get hx hb hts hown hK hP 8 (by decide) fl_M_28 (v := .ref (β 8)) rfl d_M_steps_46 ?_
          refine lv_iload_n hx hb d_M_steps_49 rfl (lv_at hl 0 rfl) ?_
          refine mw_ald hx hb hK hP 8 (by unfold mw_as; decide) (j := q0) rfl hq0 d_M_steps_50 ?_
          refine lv_if_ge (tgt := 74) hx hb d_M_steps_51 (by decide) (fun c_51 => ?_) (fun c_51 => ?_)
          · -- to 74
            refine lv_aload_n hx hb d_M_steps_74 rfl (lv_at hl 2 rfl) ?_
            refine mw_get hx hb hts hown hK hP 10 (by decide) fl_M_34 (v := .ref (β 10)) rfl d_M_steps_75 ?_
            refine lv_iload_n hx hb d_M_steps_78 rfl (lv_at hl 3 rfl) ?_
            refine lv_iload_n hx hb d_M_steps_79 rfl (lv_at hl 0 rfl) ?_
            refine mw_ast hx hb hK hP hD hS 10 (by unfold mw_as; decide) (j := i) rfl (m8 hI hi) d_M_steps_80 (fun H locs hP hD hS => ?_)
            obtain ⟨τ9, e_τ9⟩ : ∃ ζ, ζ = m_a τ 10 i (nI q0) := ⟨_, rfl⟩
            rw [← e_τ9] at hP hD
            have hI : m_ok n τ9.1 := by rw [e_τ9]; exact hI
            refine lv_aload_n hx hb d_M_steps_81 rfl (lv_at hl 2 rfl) ?_
            refine mw_get hx hb hts hown hK hP 11 (by decide) fl_M_37 (v := .ref (β 11)) rfl d_M_steps_82 ?_
            refine lv_iload_n hx hb d_M_steps_85 rfl (lv_at hl 3 rfl) ?_
            refine lv_aload_n hx hb d_M_steps_86 rfl (lv_at hl 2 rfl) ?_
            refine mw_get hx hb hts hown hK hP 12 (by decide) fl_M_91 (v := .int (τ9.1 12)) rfl d_M_steps_87 ?_
            refine mw_ast hx hb hK hP hD hS 11 (by unfold mw_as; decide) (j := i) rfl (m8 hI hi) d_M_steps_90 (fun H locs hP hD hS => ?_)
            obtain ⟨τ10, e_τ10⟩ : ∃ ζ, ζ = m_a τ9 11 i (τ9.1 12) := ⟨_, rfl⟩
            rw [← e_τ10] at hP hD
            have hI : m_ok n τ10.1 := by rw [e_τ10]; exact hI
            refine lv_aload_n hx hb d_M_steps_91 rfl (lv_at hl 2 rfl) ?_
            refine lv_dup hx hb d_M_steps_92 rfl ?_
            refine mw_get hx hb hts hown hK hP 12 (by decide) fl_M_91 (v := .int (τ10.1 12)) rfl d_M_steps_93 ?_
            refine lv_iconst (v := 1) hx hb d_M_steps_96 (by decide) ?_
            refine lv_iadd hx hb d_M_steps_97 ?_
            refine mw_put hx hb hts hown hK hP hD hS 12 (by unfold mw_is; decide) fl_M_91 rfl rfl rfl d_M_steps_98 (fun H locs hP hD hS => ?_)
            obtain ⟨τ11, e_τ11⟩ : ∃ ζ, ζ = m_f τ10 12 ((τ10.1 12) + 1) := ⟨_, rfl⟩
            rw [← e_τ11] at hP hD
            have hI : m_ok n τ11.1 := by rw [e_τ11]; exact (m_ok_f hI (by decide))
            refine lv_aload_n hx hb d_M_steps_101 rfl (lv_at hl 2 rfl) ?_
            refine mw_get hx hb hts hown hK hP 6 (by decide) fl_M_22 (v := .ref (β 6)) rfl d_M_steps_102 ?_
            refine lv_iload_n hx hb d_M_steps_105 rfl (lv_at hl 3 rfl) ?_
            refine lv_iconst (v := 1) hx hb d_M_steps_106 (by decide) ?_
            refine mw_ast hx hb hK hP hD hS 6 (by unfold mw_as; decide) (j := i) rfl (m8 hI hi) d_M_steps_107 (fun H locs hP hD hS => ?_)
            obtain ⟨τ12, e_τ12⟩ : ∃ ζ, ζ = m_a τ11 6 i 1 := ⟨_, rfl⟩
            rw [← e_τ12] at hP hD
            have hI : m_ok n τ12.1 := by rw [e_τ12]; exact hI
            refine lv_iconst (v := 0) hx hb d_M_steps_108 (by decide) ?_
            exact g_retz hx hb hr hlocks (by decide) (by rw [mo_steps, ← e_ww, if_neg c_26, elow]) (by rw [mo_steps, ← e_ww, if_neg c_26, elow]; dsimp only; rw [mo_ask, if_neg (i_nl c_51), e_τ12, e_τ11, e_τ10, e_τ9]) hP hS d_M_steps_109
          · -- on 54
            refine lv_aload_n hx hb d_M_steps_54 rfl (lv_at hl 2 rfl) ?_
            refine mw_get hx hb hts hown hK hP 8 (by decide) fl_M_28 (v := .ref (β 8)) rfl d_M_steps_55 ?_
            refine lv_iload_n hx hb d_M_steps_58 rfl (lv_at hl 0 rfl) ?_
            refine lv_iload_n hx hb d_M_steps_59 rfl (lv_at hl 3 rfl) ?_
            refine mw_ast hx hb hK hP hD hS 8 (by unfold mw_as; decide) (j := q0) rfl hq0 d_M_steps_60 (fun H locs hP hD hS => ?_)
            obtain ⟨τ13, e_τ13⟩ : ∃ ζ, ζ = m_a τ 8 q0 (nI i) := ⟨_, rfl⟩
            rw [← e_τ13] at hP hD
            have hI : m_ok n τ13.1 := by rw [e_τ13]; exact hI
            refine lv_aload_n hx hb d_M_steps_61 rfl (lv_at hl 2 rfl) ?_
            refine mw_get hx hb hts hown hK hP 9 (by decide) fl_M_31 (v := .ref (β 9)) rfl d_M_steps_62 ?_
            refine lv_iload_n hx hb d_M_steps_65 rfl (lv_at hl 0 rfl) ?_
            refine lv_aload_n hx hb d_M_steps_66 rfl (lv_at hl 2 rfl) ?_
            refine mw_get hx hb hts hown hK hP 19 (by decide) fl_M_84 (v := .int (τ13.1 19)) rfl d_M_steps_67 ?_
            refine mw_ast hx hb hK hP hD hS 9 (by unfold mw_as; decide) (j := q0) rfl hq0 d_M_steps_70 (fun H locs hP hD hS => ?_)
            obtain ⟨τ14, e_τ14⟩ : ∃ ζ, ζ = m_a τ13 9 q0 (τ13.1 19) := ⟨_, rfl⟩
            rw [← e_τ14] at hP hD
            have hI : m_ok n τ14.1 := by rw [e_τ14]; exact hI
            refine lv_goto (tgt := 108) hx hb d_M_steps_71 (by decide) ?_
            refine lv_iconst (v := 0) hx hb d_M_steps_108 (by decide) ?_
            exact g_retz hx hb hr hlocks (by decide) (by rw [mo_steps, ← e_ww, if_neg c_26, elow]) (by rw [mo_steps, ← e_ww, if_neg c_26, elow]; dsimp only; rw [mo_ask, if_pos (i_lt c_51), e_τ14, e_τ13]) hP hS d_M_steps_109
        · -- on 39
          have hjl : j < q0 := by
            rcases Nat.lt_or_ge j q0 with q | q
            · exact q
            · exact absurd c_36 (by rw [show j = q0 by omega]; exact hb1)
          refine lv_iinc (v := nI (j + 1)) (lv' := [(3, .int (nI (j + 1))), (2, .int ww), (0, .ref (β 0)), (1, .int (nI i))]) hx hb d_M_steps_39 hl (k := 0) rfl (nI_1 j) (by decide) rfl (fun ls hl => ?_)
          refine lv_goto (tgt := 31) hx hb d_M_steps_42 (by decide) ?_
          exact ih (j + 1) ls (by omega) (by omega) (lv_sub hl [0, 1, 2, 3] rfl)
    exact lp31 (q0 + 1) 0 ls (by omega) (by omega) (lv_sub hl [0, 1, 2, 3] rfl)
end
section
set_option maxHeartbeats 4000000 in
set_option maxRecDepth 100000 in
theorem ct_M_desk (l : Launch) (D : va_G) (cI cQ : ClassId) (β : Nat → Nat) (n : Nat) (τ : mS) (hI : m_ok n τ.1) (x y : Int32) : Met l y_M_desk w_M_desk { frames := 1, cells := 0, slots := 0, locals := 22 } (gPc D (kty cI cQ) (mw_w cI β τ) [.ref (β 0), .int x, .int y]) (gQi D (mw_al β) ((mo_desk n τ x y).1) (mw_w cI β ((mo_desk n τ x y).2))) 0 0 (gA (mw_al β)) := by
  refine Met.ofW (cc := b_M_desk) (maxL := 3) (ret := some .int) (by decide) rfl ?_
  intro p e s m args below meth c s₁ B hml hv
  obtain ⟨rfl, hP, hK, hD⟩ := hv
  have hx := B.exec
  have hb := B.bytes
  have hr := B.returns
  have hts : ∀ w ∈ kT, w.before [.ref (β 0), .int x, .int y].toArray s = true := fun w h => atoms_spec (ws := w_M_desk) B.pre w (List.mem_cons_of_mem _ h)
  have hown : s.vm.findClass R_M = some m.cls := findClass_of_methodNamed B.named
  have hlocks := B.notSynchronized
  have hD : va_D (gA (mw_al β)) (mw_w cI β τ) := gD mw_addr hD
  have hS : va_S (gA (mw_al β)) s.heap s.heap [] := va_S.rf
  have hl := lv_entry ([.ref (β 0), .int x, .int y]) (n := 3) (Nat.le_of_ble_eq_true rfl)
  rw [lg_entry_eq]
  generalize (lg_sl ([.ref (β 0), .int x, .int y]) ++ List.replicate (3 - (lg_sl ([.ref (β 0), .int x, .int y])).length) Slot.unset).toArray = ls at hl ⊢
  have hl : lv_has ls 3 [(0, .ref (β 0)), (1, .int x), (2, .int y)] := hl
  have hI0 := hI
  refine lv_iload_n hx hb d_M_desk_0 rfl (lv_at hl 1 rfl) ?_
  refine lv_iconst (v := 1) hx hb d_M_desk_1 (by decide) ?_
  refine lv_bipush (v := 12) hx hb d_M_desk_2 (by decide) ?_
  refine r_calli (W.runS (As := [.int x, .int 1, .int 12]) (rest := []) ⟨hx, hb, hml, hown, hts⟩ (ct_M_in l x 1 12) (cwS 3 hts gd_M_53 rfl rfl rfl (by decide +kernel) ⟨Nat.le_of_ble_eq_true rfl, Nat.le_of_ble_eq_true rfl⟩) preEq rfl rfl hl.1 rfl (lv_room (Nat.le_of_ble_eq_true rfl)) d_M_desk_4 ⟨Nat.le_refl _, Nat.le_refl _⟩) ?_
  refine lv_if_eq (tgt := 26) hx hb d_M_desk_7 (by decide) (fun c_7 => ?_) (fun c_7 => ?_)
  · -- to 26
    refine lv_aload_n hx hb d_M_desk_26 rfl (lv_at hl 0 rfl) ?_
    refine lv_iconst (v := 1) hx hb d_M_desk_27 (by decide) ?_
    refine g_calli (va_runV (As := [.int 1]) (rest := []) ⟨hx, hb, hml, hown, hts⟩ (ct_M_refuse l D cI cQ β n τ hI 1) (cwV 1 hts gd_M_57 rfl rfl rfl (by decide +kernel) ⟨Nat.le_of_ble_eq_true rfl, Nat.le_of_ble_eq_true rfl⟩) (g_preV hK hP hD (ci := 2) (q0 := 0) rfl mw_0) rfl rfl hl.1 rfl (lv_room (Nat.le_of_ble_eq_true rfl)) d_M_desk_28 ⟨Nat.le_refl _, Nat.le_refl _⟩) hD hS (mw_addr.trans mw_addr.symm) (fun H locs hP hD hS => ?_)
    obtain ⟨τ1, e_τ1⟩ : ∃ ζ, ζ = m_f τ 0 1 := ⟨_, rfl⟩
    rw [← e_τ1] at hP hD
    have hI : m_ok n τ1.1 := by rw [e_τ1]; exact (m_ok_f hI (by decide))
    exact g_reti hx hb hr hlocks (by rw [mo_desk, if_pos c_7]) (by rw [mo_desk, if_pos c_7, e_τ1]) hP hS d_M_desk_31
  · -- on 10
    refine lv_iload_n hx hb d_M_desk_10 rfl (lv_at hl 2 rfl) ?_
    refine lv_iconst (v := (-1)) hx hb d_M_desk_11 (by decide) ?_
    refine lv_icmp_eq (tgt := 32) hx hb d_M_desk_12 (by decide) (fun c_12 => ?_) (fun c_12 => ?_)
    · -- to 32
      refine lv_aload_n hx hb d_M_desk_32 rfl (lv_at hl 0 rfl) ?_
      refine mw_get hx hb hts hown hK hP 1 (by decide) fl_M_50 (v := .int (τ.1 1)) rfl d_M_desk_33 ?_
      refine lv_bipush (v := 8) hx hb d_M_desk_36 (by decide) ?_
      refine lv_icmp_eq (tgt := 48) hx hb d_M_desk_38 (by decide) (fun c_38 => ?_) (fun c_38 => ?_)
      · -- to 48
        refine lv_aload_n hx hb d_M_desk_48 rfl (lv_at hl 0 rfl) ?_
        refine lv_iconst (v := 2) hx hb d_M_desk_49 (by decide) ?_
        refine g_calli (va_runV (As := [.int 2]) (rest := []) ⟨hx, hb, hml, hown, hts⟩ (ct_M_refuse l D cI cQ β n τ hI 2) (cwV 1 hts gd_M_57 rfl rfl rfl (by decide +kernel) ⟨Nat.le_of_ble_eq_true rfl, Nat.le_of_ble_eq_true rfl⟩) (g_preV hK hP hD (ci := 2) (q0 := 0) rfl mw_0) rfl rfl hl.1 rfl (lv_room (Nat.le_of_ble_eq_true rfl)) d_M_desk_50 ⟨Nat.le_refl _, Nat.le_refl _⟩) hD hS (mw_addr.trans mw_addr.symm) (fun H locs hP hD hS => ?_)
        obtain ⟨τ2, e_τ2⟩ : ∃ ζ, ζ = m_f τ 0 2 := ⟨_, rfl⟩
        rw [← e_τ2] at hP hD
        have hI : m_ok n τ2.1 := by rw [e_τ2]; exact (m_ok_f hI (by decide))
        exact g_reti hx hb hr hlocks (by rw [mo_desk, if_neg c_7, if_pos c_12, mo_desk2, if_pos c_38]) (by rw [mo_desk, if_neg c_7, if_pos c_12, mo_desk2, if_pos c_38, e_τ2]) hP hS d_M_desk_53
      · -- on 41
        refine lv_aload_n hx hb d_M_desk_41 rfl (lv_at hl 0 rfl) ?_
        refine mw_get hx hb hts hown hK hP 20 (by decide) fl_M_61 (v := .int (τ.1 20)) rfl d_M_desk_42 ?_
        refine lv_if_eq (tgt := 54) hx hb d_M_desk_45 (by decide) (fun c_45 => ?_) (fun c_45 => ?_)
        · -- to 54
          refine lv_aload_n hx hb d_M_desk_54 rfl (lv_at hl 0 rfl) ?_
          refine lv_iconst (v := 0) hx hb d_M_desk_55 (by decide) ?_
          refine mw_put hx hb hts hown hK hP hD hS 0 (by unfold mw_is; decide) fl_M_46 rfl rfl rfl d_M_desk_56 (fun H locs hP hD hS => ?_)
          obtain ⟨τ3, e_τ3⟩ : ∃ ζ, ζ = m_f τ 0 0 := ⟨_, rfl⟩
          rw [← e_τ3] at hP hD
          have hI : m_ok n τ3.1 := by rw [e_τ3]; exact (m_ok_f hI (by decide))
          refine lv_aload_n hx hb d_M_desk_59 rfl (lv_at hl 0 rfl) ?_
          refine mw_get hx hb hts hown hK hP 2 (by decide) fl_M_7 (v := .ref (β 2)) rfl d_M_desk_60 ?_
          refine lv_aload_n hx hb d_M_desk_63 rfl (lv_at hl 0 rfl) ?_
          refine mw_get hx hb hts hown hK hP 1 (by decide) fl_M_50 (v := .int (τ3.1 1)) rfl d_M_desk_64 ?_
          refine lv_iload_n hx hb d_M_desk_67 rfl (lv_at hl 1 rfl) ?_
          refine mw_ast hx hb hK hP hD hS 2 (by unfold mw_as; decide) (j := n) hI.2.1 (m_n8 hI0 c_38) d_M_desk_68 (fun H locs hP hD hS => ?_)
          obtain ⟨τ4, e_τ4⟩ : ∃ ζ, ζ = m_a τ3 2 n x := ⟨_, rfl⟩
          rw [← e_τ4] at hP hD
          have hI : m_ok n τ4.1 := by rw [e_τ4]; exact hI
          refine lv_aload_n hx hb d_M_desk_69 rfl (lv_at hl 0 rfl) ?_
          refine mw_get hx hb hts hown hK hP 3 (by decide) fl_M_13 (v := .ref (β 3)) rfl d_M_desk_70 ?_
          refine lv_aload_n hx hb d_M_desk_73 rfl (lv_at hl 0 rfl) ?_
          refine mw_get hx hb hts hown hK hP 1 (by decide) fl_M_50 (v := .int (τ4.1 1)) rfl d_M_desk_74 ?_
          refine lv_iload_n hx hb d_M_desk_77 rfl (lv_at hl 2 rfl) ?_
          refine mw_ast hx hb hK hP hD hS 3 (by unfold mw_as; decide) (j := n) hI.2.1 (m_n8 hI0 c_38) d_M_desk_78 (fun H locs hP hD hS => ?_)
          obtain ⟨τ5, e_τ5⟩ : ∃ ζ, ζ = m_a τ4 3 n y := ⟨_, rfl⟩
          rw [← e_τ5] at hP hD
          have hI : m_ok n τ5.1 := by rw [e_τ5]; exact hI
          refine lv_aload_n hx hb d_M_desk_79 rfl (lv_at hl 0 rfl) ?_
          refine mw_get hx hb hts hown hK hP 10 (by decide) fl_M_34 (v := .ref (β 10)) rfl d_M_desk_80 ?_
          refine lv_aload_n hx hb d_M_desk_83 rfl (lv_at hl 0 rfl) ?_
          refine mw_get hx hb hts hown hK hP 1 (by decide) fl_M_50 (v := .int (τ5.1 1)) rfl d_M_desk_84 ?_
          refine lv_iconst (v := (-1)) hx hb d_M_desk_87 (by decide) ?_
          refine mw_ast hx hb hK hP hD hS 10 (by unfold mw_as; decide) (j := n) hI.2.1 (m_n8 hI0 c_38) d_M_desk_88 (fun H locs hP hD hS => ?_)
          obtain ⟨τ6, e_τ6⟩ : ∃ ζ, ζ = m_a τ5 10 n (-1) := ⟨_, rfl⟩
          rw [← e_τ6] at hP hD
          have hI : m_ok n τ6.1 := by rw [e_τ6]; exact hI
          refine lv_aload_n hx hb d_M_desk_89 rfl (lv_at hl 0 rfl) ?_
          refine lv_dup hx hb d_M_desk_90 rfl ?_
          refine mw_get hx hb hts hown hK hP 1 (by decide) fl_M_50 (v := .int (τ6.1 1)) rfl d_M_desk_91 ?_
          refine lv_iconst (v := 1) hx hb d_M_desk_94 (by decide) ?_
          refine lv_iadd hx hb d_M_desk_95 ?_
          refine mw_put hx hb hts hown hK hP hD hS 1 (by unfold mw_is; decide) fl_M_50 rfl rfl rfl d_M_desk_96 (fun H locs hP hD hS => ?_)
          obtain ⟨τ7, e_τ7⟩ : ∃ ζ, ζ = m_f τ6 1 ((τ6.1 1) + 1) := ⟨_, rfl⟩
          rw [← e_τ7] at hP hD
          refine lv_aload_n hx hb d_M_desk_99 rfl (lv_at hl 0 rfl) ?_
          refine mw_get hx hb hts hown hK hP 1 (by decide) fl_M_50 (v := .int (τ7.1 1)) rfl d_M_desk_100 ?_
          refine lv_iconst (v := 1) hx hb d_M_desk_103 (by decide) ?_
          refine lv_isub hx hb d_M_desk_104 ?_
          exact g_reti hx hb hr hlocks (by rw [mo_desk, if_neg c_7, if_pos c_12, mo_desk2, if_neg c_38, if_pos c_45, e_τ7, e_τ6, e_τ5, e_τ4, e_τ3]) (by rw [mo_desk, if_neg c_7, if_pos c_12, mo_desk2, if_neg c_38, if_pos c_45, e_τ7, e_τ6, e_τ5, e_τ4, e_τ3]) hP hS d_M_desk_105
        · -- on 48
          refine lv_aload_n hx hb d_M_desk_48 rfl (lv_at hl 0 rfl) ?_
          refine lv_iconst (v := 2) hx hb d_M_desk_49 (by decide) ?_
          refine g_calli (va_runV (As := [.int 2]) (rest := []) ⟨hx, hb, hml, hown, hts⟩ (ct_M_refuse l D cI cQ β n τ hI 2) (cwV 1 hts gd_M_57 rfl rfl rfl (by decide +kernel) ⟨Nat.le_of_ble_eq_true rfl, Nat.le_of_ble_eq_true rfl⟩) (g_preV hK hP hD (ci := 2) (q0 := 0) rfl mw_0) rfl rfl hl.1 rfl (lv_room (Nat.le_of_ble_eq_true rfl)) d_M_desk_50 ⟨Nat.le_refl _, Nat.le_refl _⟩) hD hS (mw_addr.trans mw_addr.symm) (fun H locs hP hD hS => ?_)
          obtain ⟨τ8, e_τ8⟩ : ∃ ζ, ζ = m_f τ 0 2 := ⟨_, rfl⟩
          rw [← e_τ8] at hP hD
          have hI : m_ok n τ8.1 := by rw [e_τ8]; exact (m_ok_f hI (by decide))
          exact g_reti hx hb hr hlocks (by rw [mo_desk, if_neg c_7, if_pos c_12, mo_desk2, if_neg c_38, if_neg c_45]) (by rw [mo_desk, if_neg c_7, if_pos c_12, mo_desk2, if_neg c_38, if_neg c_45, e_τ8]) hP hS d_M_desk_53
    · -- on 15
      refine lv_iload_n hx hb d_M_desk_15 rfl (lv_at hl 2 rfl) ?_
      refine lv_iconst (v := 0) hx hb d_M_desk_16 (by decide) ?_
      refine lv_iload_n hx hb d_M_desk_17 rfl (lv_at hl 1 rfl) ?_
      refine lv_iconst (v := 1) hx hb d_M_desk_18 (by decide) ?_
      refine lv_isub hx hb d_M_desk_19 ?_
      refine r_calli (W.runS (As := [.int y, .int 0, .int (x - 1)]) (rest := []) ⟨hx, hb, hml, hown, hts⟩ (ct_M_in l y 0 (x - 1)) (cwS 3 hts gd_M_53 rfl rfl rfl (by decide +kernel) ⟨Nat.le_of_ble_eq_true rfl, Nat.le_of_ble_eq_true rfl⟩) preEq rfl rfl hl.1 rfl (lv_room (Nat.le_of_ble_eq_true rfl)) d_M_desk_20 ⟨Nat.le_refl _, Nat.le_refl _⟩) ?_
      refine lv_if_ne (tgt := 32) hx hb d_M_desk_23 (by decide) (fun c_23 => ?_) (fun c_23 => ?_)
      · -- to 32
        refine lv_aload_n hx hb d_M_desk_32 rfl (lv_at hl 0 rfl) ?_
        refine mw_get hx hb hts hown hK hP 1 (by decide) fl_M_50 (v := .int (τ.1 1)) rfl d_M_desk_33 ?_
        refine lv_bipush (v := 8) hx hb d_M_desk_36 (by decide) ?_
        refine lv_icmp_eq (tgt := 48) hx hb d_M_desk_38 (by decide) (fun c_38 => ?_) (fun c_38 => ?_)
        · -- to 48
          refine lv_aload_n hx hb d_M_desk_48 rfl (lv_at hl 0 rfl) ?_
          refine lv_iconst (v := 2) hx hb d_M_desk_49 (by decide) ?_
          refine g_calli (va_runV (As := [.int 2]) (rest := []) ⟨hx, hb, hml, hown, hts⟩ (ct_M_refuse l D cI cQ β n τ hI 2) (cwV 1 hts gd_M_57 rfl rfl rfl (by decide +kernel) ⟨Nat.le_of_ble_eq_true rfl, Nat.le_of_ble_eq_true rfl⟩) (g_preV hK hP hD (ci := 2) (q0 := 0) rfl mw_0) rfl rfl hl.1 rfl (lv_room (Nat.le_of_ble_eq_true rfl)) d_M_desk_50 ⟨Nat.le_refl _, Nat.le_refl _⟩) hD hS (mw_addr.trans mw_addr.symm) (fun H locs hP hD hS => ?_)
          obtain ⟨τ9, e_τ9⟩ : ∃ ζ, ζ = m_f τ 0 2 := ⟨_, rfl⟩
          rw [← e_τ9] at hP hD
          have hI : m_ok n τ9.1 := by rw [e_τ9]; exact (m_ok_f hI (by decide))
          exact g_reti hx hb hr hlocks (by rw [mo_desk, if_neg c_7, if_neg c_12, if_neg c_23, mo_desk2, if_pos c_38]) (by rw [mo_desk, if_neg c_7, if_neg c_12, if_neg c_23, mo_desk2, if_pos c_38, e_τ9]) hP hS d_M_desk_53
        · -- on 41
          refine lv_aload_n hx hb d_M_desk_41 rfl (lv_at hl 0 rfl) ?_
          refine mw_get hx hb hts hown hK hP 20 (by decide) fl_M_61 (v := .int (τ.1 20)) rfl d_M_desk_42 ?_
          refine lv_if_eq (tgt := 54) hx hb d_M_desk_45 (by decide) (fun c_45 => ?_) (fun c_45 => ?_)
          · -- to 54
            refine lv_aload_n hx hb d_M_desk_54 rfl (lv_at hl 0 rfl) ?_
            refine lv_iconst (v := 0) hx hb d_M_desk_55 (by decide) ?_
            refine mw_put hx hb hts hown hK hP hD hS 0 (by unfold mw_is; decide) fl_M_46 rfl rfl rfl d_M_desk_56 (fun H locs hP hD hS => ?_)
            obtain ⟨τ10, e_τ10⟩ : ∃ ζ, ζ = m_f τ 0 0 := ⟨_, rfl⟩
            rw [← e_τ10] at hP hD
            have hI : m_ok n τ10.1 := by rw [e_τ10]; exact (m_ok_f hI (by decide))
            refine lv_aload_n hx hb d_M_desk_59 rfl (lv_at hl 0 rfl) ?_
            refine mw_get hx hb hts hown hK hP 2 (by decide) fl_M_7 (v := .ref (β 2)) rfl d_M_desk_60 ?_
            refine lv_aload_n hx hb d_M_desk_63 rfl (lv_at hl 0 rfl) ?_
            refine mw_get hx hb hts hown hK hP 1 (by decide) fl_M_50 (v := .int (τ10.1 1)) rfl d_M_desk_64 ?_
            refine lv_iload_n hx hb d_M_desk_67 rfl (lv_at hl 1 rfl) ?_
            refine mw_ast hx hb hK hP hD hS 2 (by unfold mw_as; decide) (j := n) hI.2.1 (m_n8 hI0 c_38) d_M_desk_68 (fun H locs hP hD hS => ?_)
            obtain ⟨τ11, e_τ11⟩ : ∃ ζ, ζ = m_a τ10 2 n x := ⟨_, rfl⟩
            rw [← e_τ11] at hP hD
            have hI : m_ok n τ11.1 := by rw [e_τ11]; exact hI
            refine lv_aload_n hx hb d_M_desk_69 rfl (lv_at hl 0 rfl) ?_
            refine mw_get hx hb hts hown hK hP 3 (by decide) fl_M_13 (v := .ref (β 3)) rfl d_M_desk_70 ?_
            refine lv_aload_n hx hb d_M_desk_73 rfl (lv_at hl 0 rfl) ?_
            refine mw_get hx hb hts hown hK hP 1 (by decide) fl_M_50 (v := .int (τ11.1 1)) rfl d_M_desk_74 ?_
            refine lv_iload_n hx hb d_M_desk_77 rfl (lv_at hl 2 rfl) ?_
            refine mw_ast hx hb hK hP hD hS 3 (by unfold mw_as; decide) (j := n) hI.2.1 (m_n8 hI0 c_38) d_M_desk_78 (fun H locs hP hD hS => ?_)
            obtain ⟨τ12, e_τ12⟩ : ∃ ζ, ζ = m_a τ11 3 n y := ⟨_, rfl⟩
            rw [← e_τ12] at hP hD
            have hI : m_ok n τ12.1 := by rw [e_τ12]; exact hI
            refine lv_aload_n hx hb d_M_desk_79 rfl (lv_at hl 0 rfl) ?_
            refine mw_get hx hb hts hown hK hP 10 (by decide) fl_M_34 (v := .ref (β 10)) rfl d_M_desk_80 ?_
            refine lv_aload_n hx hb d_M_desk_83 rfl (lv_at hl 0 rfl) ?_
            refine mw_get hx hb hts hown hK hP 1 (by decide) fl_M_50 (v := .int (τ12.1 1)) rfl d_M_desk_84 ?_
            refine lv_iconst (v := (-1)) hx hb d_M_desk_87 (by decide) ?_
            refine mw_ast hx hb hK hP hD hS 10 (by unfold mw_as; decide) (j := n) hI.2.1 (m_n8 hI0 c_38) d_M_desk_88 (fun H locs hP hD hS => ?_)
            obtain ⟨τ13, e_τ13⟩ : ∃ ζ, ζ = m_a τ12 10 n (-1) := ⟨_, rfl⟩
            rw [← e_τ13] at hP hD
            have hI : m_ok n τ13.1 := by rw [e_τ13]; exact hI
            refine lv_aload_n hx hb d_M_desk_89 rfl (lv_at hl 0 rfl) ?_
            refine lv_dup hx hb d_M_desk_90 rfl ?_
            refine mw_get hx hb hts hown hK hP 1 (by decide) fl_M_50 (v := .int (τ13.1 1)) rfl d_M_desk_91 ?_
            refine lv_iconst (v := 1) hx hb d_M_desk_94 (by decide) ?_
            refine lv_iadd hx hb d_M_desk_95 ?_
            refine mw_put hx hb hts hown hK hP hD hS 1 (by unfold mw_is; decide) fl_M_50 rfl rfl rfl d_M_desk_96 (fun H locs hP hD hS => ?_)
            obtain ⟨τ14, e_τ14⟩ : ∃ ζ, ζ = m_f τ13 1 ((τ13.1 1) + 1) := ⟨_, rfl⟩
            rw [← e_τ14] at hP hD
            refine lv_aload_n hx hb d_M_desk_99 rfl (lv_at hl 0 rfl) ?_
            refine mw_get hx hb hts hown hK hP 1 (by decide) fl_M_50 (v := .int (τ14.1 1)) rfl d_M_desk_100 ?_
            refine lv_iconst (v := 1) hx hb d_M_desk_103 (by decide) ?_
            refine lv_isub hx hb d_M_desk_104 ?_
            exact g_reti hx hb hr hlocks (by rw [mo_desk, if_neg c_7, if_neg c_12, if_neg c_23, mo_desk2, if_neg c_38, if_pos c_45, e_τ14, e_τ13, e_τ12, e_τ11, e_τ10]) (by rw [mo_desk, if_neg c_7, if_neg c_12, if_neg c_23, mo_desk2, if_neg c_38, if_pos c_45, e_τ14, e_τ13, e_τ12, e_τ11, e_τ10]) hP hS d_M_desk_105
          · -- on 48
            refine lv_aload_n hx hb d_M_desk_48 rfl (lv_at hl 0 rfl) ?_
            refine lv_iconst (v := 2) hx hb d_M_desk_49 (by decide) ?_
            refine g_calli (va_runV (As := [.int 2]) (rest := []) ⟨hx, hb, hml, hown, hts⟩ (ct_M_refuse l D cI cQ β n τ hI 2) (cwV 1 hts gd_M_57 rfl rfl rfl (by decide +kernel) ⟨Nat.le_of_ble_eq_true rfl, Nat.le_of_ble_eq_true rfl⟩) (g_preV hK hP hD (ci := 2) (q0 := 0) rfl mw_0) rfl rfl hl.1 rfl (lv_room (Nat.le_of_ble_eq_true rfl)) d_M_desk_50 ⟨Nat.le_refl _, Nat.le_refl _⟩) hD hS (mw_addr.trans mw_addr.symm) (fun H locs hP hD hS => ?_)
            obtain ⟨τ15, e_τ15⟩ : ∃ ζ, ζ = m_f τ 0 2 := ⟨_, rfl⟩
            rw [← e_τ15] at hP hD
            have hI : m_ok n τ15.1 := by rw [e_τ15]; exact (m_ok_f hI (by decide))
            exact g_reti hx hb hr hlocks (by rw [mo_desk, if_neg c_7, if_neg c_12, if_neg c_23, mo_desk2, if_neg c_38, if_neg c_45]) (by rw [mo_desk, if_neg c_7, if_neg c_12, if_neg c_23, mo_desk2, if_neg c_38, if_neg c_45, e_τ15]) hP hS d_M_desk_53
      · -- on 26
        refine lv_aload_n hx hb d_M_desk_26 rfl (lv_at hl 0 rfl) ?_
        refine lv_iconst (v := 1) hx hb d_M_desk_27 (by decide) ?_
        refine g_calli (va_runV (As := [.int 1]) (rest := []) ⟨hx, hb, hml, hown, hts⟩ (ct_M_refuse l D cI cQ β n τ hI 1) (cwV 1 hts gd_M_57 rfl rfl rfl (by decide +kernel) ⟨Nat.le_of_ble_eq_true rfl, Nat.le_of_ble_eq_true rfl⟩) (g_preV hK hP hD (ci := 2) (q0 := 0) rfl mw_0) rfl rfl hl.1 rfl (lv_room (Nat.le_of_ble_eq_true rfl)) d_M_desk_28 ⟨Nat.le_refl _, Nat.le_refl _⟩) hD hS (mw_addr.trans mw_addr.symm) (fun H locs hP hD hS => ?_)
        obtain ⟨τ16, e_τ16⟩ : ∃ ζ, ζ = m_f τ 0 1 := ⟨_, rfl⟩
        rw [← e_τ16] at hP hD
        have hI : m_ok n τ16.1 := by rw [e_τ16]; exact (m_ok_f hI (by decide))
        exact g_reti hx hb hr hlocks (by rw [mo_desk, if_neg c_7, if_neg c_12, if_pos c_23]) (by rw [mo_desk, if_neg c_7, if_neg c_12, if_pos c_23, e_τ16]) hP hS d_M_desk_31

set_option maxHeartbeats 4000000 in
set_option maxRecDepth 100000 in
theorem ct_M_turn (l : Launch) (D : va_G) (cI cQ : ClassId) (β : Nat → Nat) (n : Nat) (τ : mS) (hI : m_ok n τ.1) (x : Int32) : Met l y_M_turn w_M_turn { frames := 1, cells := 0, slots := 0, locals := 21 } (gPc D (kty cI cQ) (mw_w cI β τ) [.ref (β 0), .int x]) (gQi D (mw_al β) ((mo_turn τ x).1) (mw_w cI β ((mo_turn τ x).2))) 0 0 (gA (mw_al β)) := by
  refine Met.ofW (cc := b_M_turn) (maxL := 2) (ret := some .int) (by decide) rfl ?_
  intro p e s m args below meth c s₁ B hml hv
  obtain ⟨rfl, hP, hK, hD⟩ := hv
  have hx := B.exec
  have hb := B.bytes
  have hr := B.returns
  have hts : ∀ w ∈ kT, w.before [.ref (β 0), .int x].toArray s = true := fun w h => atoms_spec (ws := w_M_turn) B.pre w (List.mem_cons_of_mem _ h)
  have hown : s.vm.findClass R_M = some m.cls := findClass_of_methodNamed B.named
  have hlocks := B.notSynchronized
  have hD : va_D (gA (mw_al β)) (mw_w cI β τ) := gD mw_addr hD
  have hS : va_S (gA (mw_al β)) s.heap s.heap [] := va_S.rf
  have hl := lv_entry ([.ref (β 0), .int x]) (n := 2) (Nat.le_of_ble_eq_true rfl)
  rw [lg_entry_eq]
  generalize (lg_sl ([.ref (β 0), .int x]) ++ List.replicate (2 - (lg_sl ([.ref (β 0), .int x])).length) Slot.unset).toArray = ls at hl ⊢
  have hl : lv_has ls 2 [(0, .ref (β 0)), (1, .int x)] := hl
  have hI0 := hI
  refine lv_aload_n hx hb d_M_turn_0 rfl (lv_at hl 0 rfl) ?_
  refine lv_iload_n hx hb d_M_turn_1 rfl (lv_at hl 1 rfl) ?_
  refine r_calli (W.runV (As := [.int x]) (rest := []) ⟨hx, hb, hml, hown, hts⟩ (ct_M_isDesk l D cI cQ β n τ hI x) (cwV 1 hts gd_M_68 rfl rfl rfl (by decide +kernel) ⟨Nat.le_of_ble_eq_true rfl, Nat.le_of_ble_eq_true rfl⟩) (g_preV hK hP hD (ci := 2) (q0 := 0) rfl mw_0) rfl rfl hl.1 rfl (lv_room (Nat.le_of_ble_eq_true rfl)) d_M_turn_2 ⟨Nat.le_refl _, Nat.le_refl _⟩) ?_
  refine lv_if_ne (tgt := 14) hx hb d_M_turn_5 (by decide) (fun c_5 => ?_) (fun c_5 => ?_)
  · -- to 14
    refine lv_aload_n hx hb d_M_turn_14 rfl (lv_at hl 0 rfl) ?_
    refine mw_get hx hb hts hown hK hP 14 (by decide) fl_M_104 (v := .int (τ.1 14)) rfl d_M_turn_15 ?_
    refine lv_sipush (v := 300) hx hb d_M_turn_18 (by decide) ?_
    refine lv_icmp_eq (tgt := 31) hx hb d_M_turn_21 (by decide) (fun c_21 => ?_) (fun c_21 => ?_)
    · -- to 31
      refine lv_aload_n hx hb d_M_turn_31 rfl (lv_at hl 0 rfl) ?_
      refine lv_iconst (v := 2) hx hb d_M_turn_32 (by decide) ?_
      refine g_calli (va_runV (As := [.int 2]) (rest := []) ⟨hx, hb, hml, hown, hts⟩ (ct_M_refuse l D cI cQ β n τ hI 2) (cwV 1 hts gd_M_57 rfl rfl rfl (by decide +kernel) ⟨Nat.le_of_ble_eq_true rfl, Nat.le_of_ble_eq_true rfl⟩) (g_preV hK hP hD (ci := 2) (q0 := 0) rfl mw_0) rfl rfl hl.1 rfl (lv_room (Nat.le_of_ble_eq_true rfl)) d_M_turn_33 ⟨Nat.le_refl _, Nat.le_refl _⟩) hD hS (mw_addr.trans mw_addr.symm) (fun H locs hP hD hS => ?_)
      obtain ⟨τ1, e_τ1⟩ : ∃ ζ, ζ = m_f τ 0 2 := ⟨_, rfl⟩
      rw [← e_τ1] at hP hD
      have hI : m_ok n τ1.1 := by rw [e_τ1]; exact (m_ok_f hI (by decide))
      exact g_reti hx hb hr hlocks (by rw [mo_turn, if_neg c_5, if_pos c_21]) (by rw [mo_turn, if_neg c_5, if_pos c_21, e_τ1]) hP hS d_M_turn_36
    · -- on 24
      refine lv_aload_n hx hb d_M_turn_24 rfl (lv_at hl 0 rfl) ?_
      refine mw_get hx hb hts hown hK hP 20 (by decide) fl_M_61 (v := .int (τ.1 20)) rfl d_M_turn_25 ?_
      refine lv_if_eq (tgt := 37) hx hb d_M_turn_28 (by decide) (fun c_28 => ?_) (fun c_28 => ?_)
      · -- to 37
        refine lv_aload_n hx hb d_M_turn_37 rfl (lv_at hl 0 rfl) ?_
        refine lv_iconst (v := 0) hx hb d_M_turn_38 (by decide) ?_
        refine mw_put hx hb hts hown hK hP hD hS 0 (by unfold mw_is; decide) fl_M_46 rfl rfl rfl d_M_turn_39 (fun H locs hP hD hS => ?_)
        obtain ⟨τ2, e_τ2⟩ : ∃ ζ, ζ = m_f τ 0 0 := ⟨_, rfl⟩
        rw [← e_τ2] at hP hD
        have hI : m_ok n τ2.1 := by rw [e_τ2]; exact (m_ok_f hI (by decide))
        refine lv_aload_n hx hb d_M_turn_42 rfl (lv_at hl 0 rfl) ?_
        refine mw_get hx hb hts hown hK hP 13 (by decide) fl_M_40 (v := .ref (β 13)) rfl d_M_turn_43 ?_
        refine lv_aload_n hx hb d_M_turn_46 rfl (lv_at hl 0 rfl) ?_
        refine mw_get hx hb hts hown hK hP 14 (by decide) fl_M_104 (v := .int (τ2.1 14)) rfl d_M_turn_47 ?_
        refine lv_iload_n hx hb d_M_turn_50 rfl (lv_at hl 1 rfl) ?_
        refine mw_ast hx hb hK hP hD hS 13 (by unfold mw_as; decide) (j := (τ2.1 14).toNatClampNeg) (ix_e (m_ok_t0 hI)) (by rw [e_τ2]; exact m_ok_t3 hI0 c_21) d_M_turn_51 (fun H locs hP hD hS => ?_)
        obtain ⟨τ3, e_τ3⟩ : ∃ ζ, ζ = m_a τ2 13 ((τ2.1 14).toNatClampNeg) x := ⟨_, rfl⟩
        rw [← e_τ3] at hP hD
        have hI : m_ok n τ3.1 := by rw [e_τ3]; exact hI
        refine lv_aload_n hx hb d_M_turn_52 rfl (lv_at hl 0 rfl) ?_
        refine lv_dup hx hb d_M_turn_53 rfl ?_
        refine mw_get hx hb hts hown hK hP 14 (by decide) fl_M_104 (v := .int (τ3.1 14)) rfl d_M_turn_54 ?_
        refine lv_iconst (v := 1) hx hb d_M_turn_57 (by decide) ?_
        refine lv_iadd hx hb d_M_turn_58 ?_
        refine mw_put hx hb hts hown hK hP hD hS 14 (by unfold mw_is; decide) fl_M_104 rfl rfl rfl d_M_turn_59 (fun H locs hP hD hS => ?_)
        obtain ⟨τ4, e_τ4⟩ : ∃ ζ, ζ = m_f τ3 14 ((τ3.1 14) + 1) := ⟨_, rfl⟩
        rw [← e_τ4] at hP hD
        refine lv_aload_n hx hb d_M_turn_62 rfl (lv_at hl 0 rfl) ?_
        refine mw_get hx hb hts hown hK hP 14 (by decide) fl_M_104 (v := .int (τ4.1 14)) rfl d_M_turn_63 ?_
        refine lv_aload_n hx hb d_M_turn_66 rfl (lv_at hl 0 rfl) ?_
        refine mw_get hx hb hts hown hK hP 15 (by decide) fl_M_107 (v := .int (τ4.1 15)) rfl d_M_turn_67 ?_
        refine lv_isub hx hb d_M_turn_70 ?_
        exact g_reti hx hb hr hlocks (by rw [mo_turn, if_neg c_5, if_neg c_21, if_pos c_28, e_τ4, e_τ3, e_τ2]) (by rw [mo_turn, if_neg c_5, if_neg c_21, if_pos c_28, e_τ4, e_τ3, e_τ2]) hP hS d_M_turn_71
      · -- on 31
        refine lv_aload_n hx hb d_M_turn_31 rfl (lv_at hl 0 rfl) ?_
        refine lv_iconst (v := 2) hx hb d_M_turn_32 (by decide) ?_
        refine g_calli (va_runV (As := [.int 2]) (rest := []) ⟨hx, hb, hml, hown, hts⟩ (ct_M_refuse l D cI cQ β n τ hI 2) (cwV 1 hts gd_M_57 rfl rfl rfl (by decide +kernel) ⟨Nat.le_of_ble_eq_true rfl, Nat.le_of_ble_eq_true rfl⟩) (g_preV hK hP hD (ci := 2) (q0 := 0) rfl mw_0) rfl rfl hl.1 rfl (lv_room (Nat.le_of_ble_eq_true rfl)) d_M_turn_33 ⟨Nat.le_refl _, Nat.le_refl _⟩) hD hS (mw_addr.trans mw_addr.symm) (fun H locs hP hD hS => ?_)
        obtain ⟨τ5, e_τ5⟩ : ∃ ζ, ζ = m_f τ 0 2 := ⟨_, rfl⟩
        rw [← e_τ5] at hP hD
        have hI : m_ok n τ5.1 := by rw [e_τ5]; exact (m_ok_f hI (by decide))
        exact g_reti hx hb hr hlocks (by rw [mo_turn, if_neg c_5, if_neg c_21, if_neg c_28]) (by rw [mo_turn, if_neg c_5, if_neg c_21, if_neg c_28, e_τ5]) hP hS d_M_turn_36
  · -- on 8
    refine lv_aload_n hx hb d_M_turn_8 rfl (lv_at hl 0 rfl) ?_
    refine lv_iconst (v := 1) hx hb d_M_turn_9 (by decide) ?_
    refine g_calli (va_runV (As := [.int 1]) (rest := []) ⟨hx, hb, hml, hown, hts⟩ (ct_M_refuse l D cI cQ β n τ hI 1) (cwV 1 hts gd_M_57 rfl rfl rfl (by decide +kernel) ⟨Nat.le_of_ble_eq_true rfl, Nat.le_of_ble_eq_true rfl⟩) (g_preV hK hP hD (ci := 2) (q0 := 0) rfl mw_0) rfl rfl hl.1 rfl (lv_room (Nat.le_of_ble_eq_true rfl)) d_M_turn_10 ⟨Nat.le_refl _, Nat.le_refl _⟩) hD hS (mw_addr.trans mw_addr.symm) (fun H locs hP hD hS => ?_)
    obtain ⟨τ6, e_τ6⟩ : ∃ ζ, ζ = m_f τ 0 1 := ⟨_, rfl⟩
    rw [← e_τ6] at hP hD
    have hI : m_ok n τ6.1 := by rw [e_τ6]; exact (m_ok_f hI (by decide))
    exact g_reti hx hb hr hlocks (by rw [mo_turn, if_pos c_5]) (by rw [mo_turn, if_pos c_5, e_τ6]) hP hS d_M_turn_13

set_option maxHeartbeats 4000000 in
set_option maxRecDepth 100000 in
theorem ct_M_log (l : Launch) (D : va_G) (cI cQ : ClassId) (β : Nat → Nat) (n : Nat) (τ : mS) (hI : m_ok n τ.1) (x : Int32) : Met l y_M_log w_M_log { frames := 0, cells := 0, slots := 0, locals := 0 } (gPc D (kty cI cQ) (mw_w cI β τ) [.ref (β 0), .int x]) (gQi D (mw_al β) (mo_log (m_f τ 0 0) x) (mw_w cI β (m_f τ 0 0))) 0 0 (gA (mw_al β)) := by
  refine Met.ofW (cc := b_M_log) (maxL := 2) (ret := some .int) (by decide) rfl ?_
  intro p e s m args below meth c s₁ B hml hv
  obtain ⟨rfl, hP, hK, hD⟩ := hv
  have hx := B.exec
  have hb := B.bytes
  have hr := B.returns
  have hts : ∀ w ∈ kT, w.before [.ref (β 0), .int x].toArray s = true := fun w h => atoms_spec (ws := w_M_log) B.pre w (List.mem_cons_of_mem _ h)
  have hown : s.vm.findClass R_M = some m.cls := findClass_of_methodNamed B.named
  have hlocks := B.notSynchronized
  have hD : va_D (gA (mw_al β)) (mw_w cI β τ) := gD mw_addr hD
  have hS : va_S (gA (mw_al β)) s.heap s.heap [] := va_S.rf
  have hl := lv_entry ([.ref (β 0), .int x]) (n := 2) (Nat.le_of_ble_eq_true rfl)
  rw [lg_entry_eq]
  generalize (lg_sl ([.ref (β 0), .int x]) ++ List.replicate (2 - (lg_sl ([.ref (β 0), .int x])).length) Slot.unset).toArray = ls at hl ⊢
  have hl : lv_has ls 2 [(0, .ref (β 0)), (1, .int x)] := hl
  have hI0 := hI
  refine lv_aload_n hx hb d_M_log_0 rfl (lv_at hl 0 rfl) ?_
  refine lv_iconst (v := 0) hx hb d_M_log_1 (by decide) ?_
  refine mw_put hx hb hts hown hK hP hD hS 0 (by unfold mw_is; decide) fl_M_46 rfl rfl rfl d_M_log_2 (fun H locs hP hD hS => ?_)
  obtain ⟨τ1, e_τ1⟩ : ∃ ζ, ζ = m_f τ 0 0 := ⟨_, rfl⟩
  rw [← e_τ1] at hP hD
  have hI : m_ok n τ1.1 := by rw [e_τ1]; exact (m_ok_f hI (by decide))
  refine lv_iload_n hx hb d_M_log_5 rfl (lv_at hl 1 rfl) ?_
  refine lv_if_lt (tgt := 26) hx hb d_M_log_6 (by decide) (fun c_6 => ?_) (fun c_6 => ?_)
  · -- to 26
    refine lv_iconst (v := (-1)) hx hb d_M_log_26 (by decide) ?_
    exact g_reti hx hb hr hlocks (by rw [mo_log, ← e_τ1, if_pos c_6]) (by rw [e_τ1]) hP hS d_M_log_27
  · -- on 9
    refine lv_iload_n hx hb d_M_log_9 rfl (lv_at hl 1 rfl) ?_
    refine lv_aload_n hx hb d_M_log_10 rfl (lv_at hl 0 rfl) ?_
    refine mw_get hx hb hts hown hK hP 17 (by decide) fl_M_78 (v := .int (τ1.1 17)) rfl d_M_log_11 ?_
    refine lv_icmp_ge (tgt := 26) hx hb d_M_log_14 (by decide) (fun c_14 => ?_) (fun c_14 => ?_)
    · -- to 26
      refine lv_iconst (v := (-1)) hx hb d_M_log_26 (by decide) ?_
      exact g_reti hx hb hr hlocks (by rw [mo_log, ← e_τ1, if_neg c_6, if_pos c_14]) (by rw [e_τ1]) hP hS d_M_log_27
    · -- on 17
      refine lv_aload_n hx hb d_M_log_17 rfl (lv_at hl 0 rfl) ?_
      refine mw_get hx hb hts hown hK hP 18 (by decide) fl_M_43 (v := .ref (β 18)) rfl d_M_log_18 ?_
      refine lv_iload_n hx hb d_M_log_21 rfl (lv_at hl 1 rfl) ?_
      refine mw_ald hx hb hK hP 18 (by unfold mw_as; decide) (j := x.toNatClampNeg) (ix_e c_6) (m_ok_log hI c_6 c_14) d_M_log_22 ?_
      refine lv_goto (tgt := 27) hx hb d_M_log_23 (by decide) ?_
      exact g_reti hx hb hr hlocks (by rw [mo_log, ← e_τ1, if_neg c_6, if_neg c_14]) (by rw [e_τ1]) hP hS d_M_log_27

set_option maxHeartbeats 4000000 in
set_option maxRecDepth 100000 in
theorem ct_M_holder (l : Launch) (D : va_G) (cI cQ : ClassId) (β : Nat → Nat) (n : Nat) (τ : mS) (hI : m_ok n τ.1) (z : Nat) (hz : z < 16) : Met l y_M_holder w_M_holder { frames := 1, cells := 0, slots := 0, locals := 20 } (gPc D (kty cI cQ) (mw_w cI β τ) [.ref (β 0), .int (nI z)]) (gQi D (mw_al β) (τ.2 8 z) (mw_w cI β (m_f τ 0 0))) 0 0 (gA (mw_al β)) := by
  refine Met.ofW (cc := b_M_holder) (maxL := 2) (ret := some .int) (by decide) rfl ?_
  intro p e s m args below meth c s₁ B hml hv
  obtain ⟨rfl, hP, hK, hD⟩ := hv
  have hx := B.exec
  have hb := B.bytes
  have hr := B.returns
  have hts : ∀ w ∈ kT, w.before [.ref (β 0), .int (nI z)].toArray s = true := fun w h => atoms_spec (ws := w_M_holder) B.pre w (List.mem_cons_of_mem _ h)
  have hown : s.vm.findClass R_M = some m.cls := findClass_of_methodNamed B.named
  have hlocks := B.notSynchronized
  have hD : va_D (gA (mw_al β)) (mw_w cI β τ) := gD mw_addr hD
  have hS : va_S (gA (mw_al β)) s.heap s.heap [] := va_S.rf
  have hl := lv_entry ([.ref (β 0), .int (nI z)]) (n := 2) (Nat.le_of_ble_eq_true rfl)
  rw [lg_entry_eq]
  generalize (lg_sl ([.ref (β 0), .int (nI z)]) ++ List.replicate (2 - (lg_sl ([.ref (β 0), .int (nI z)])).length) Slot.unset).toArray = ls at hl ⊢
  have hl : lv_has ls 2 [(0, .ref (β 0)), (1, .int (nI z))] := hl
  refine lv_aload_n hx hb d_M_holder_0 rfl (lv_at hl 0 rfl) ?_
  refine lv_iload_n hx hb d_M_holder_1 rfl (lv_at hl 1 rfl) ?_
  refine r_calli (W.runS (As := [.int (nI z)]) (rest := [.ref (β 0)]) ⟨hx, hb, hml, hown, hts⟩ (ct_M_isSubject l (nI z)) (cwS 1 hts gd_M_72 rfl rfl rfl (by decide +kernel) ⟨Nat.le_of_ble_eq_true rfl, Nat.le_of_ble_eq_true rfl⟩) preEq rfl rfl hl.1 rfl (lv_room (Nat.le_of_ble_eq_true rfl)) d_M_holder_2 ⟨Nat.le_refl _, Nat.le_refl _⟩) ?_
  refine lv_if_eq (tgt := 12) hx hb d_M_holder_5 (by decide) (fun c_5 => ?_) (fun c_5 => ?_)
  · -- to 12
    exact absurd c_5 (by rw [kd_sub_nI hz]; decide)
  · -- on 8
    refine lv_iconst (v := 0) hx hb d_M_holder_8 (by decide) ?_
    refine lv_goto (tgt := 13) hx hb d_M_holder_9 (by decide) ?_
    refine mw_put hx hb hts hown hK hP hD hS 0 (by unfold mw_is; decide) fl_M_46 rfl rfl rfl d_M_holder_13 (fun H locs hP hD hS => ?_)
    obtain ⟨τ1, e_τ1⟩ : ∃ ζ, ζ = m_f τ 0 0 := ⟨_, rfl⟩
    rw [← e_τ1] at hP hD
    have hI : m_ok n τ1.1 := by rw [e_τ1]; exact (m_ok_f hI (by decide))
    refine lv_aload_n hx hb d_M_holder_16 rfl (lv_at hl 0 rfl) ?_
    refine mw_get hx hb hts hown hK hP 0 (by decide) fl_M_46 (v := .int (τ1.1 0)) rfl d_M_holder_17 ?_
    refine lv_if_le (tgt := 27) hx hb d_M_holder_20 (by decide) (fun c_20 => ?_) (fun c_20 => ?_)
    · -- to 27
      refine lv_aload_n hx hb d_M_holder_27 rfl (lv_at hl 0 rfl) ?_
      refine mw_get hx hb hts hown hK hP 8 (by decide) fl_M_28 (v := .ref (β 8)) rfl d_M_holder_28 ?_
      refine lv_iload_n hx hb d_M_holder_31 rfl (lv_at hl 1 rfl) ?_
      refine mw_ald hx hb hK hP 8 (by unfold mw_as; decide) (j := z) rfl hz d_M_holder_32 ?_
      exact g_reti hx hb hr hlocks (by rw [e_τ1]; rfl) (by rw [e_τ1]) hP hS d_M_holder_33
    · -- on 23
      exact absurd (by rw [e_τ1]; exact (by decide : (0 : Int32) ≤ 0)) c_20

set_option maxHeartbeats 4000000 in
set_option maxRecDepth 100000 in
theorem ct_M_holderN (l : Launch) (D : va_G) (cI cQ : ClassId) (β : Nat → Nat) (n : Nat) (τ : mS) (hI : m_ok n τ.1) (x : Int32) (hx0 : kd_sub x = 0) : Met l y_M_holder w_M_holder { frames := 1, cells := 0, slots := 0, locals := 20 } (gPc D (kty cI cQ) (mw_w cI β τ) [.ref (β 0), .int x]) (gQi D (mw_al β) (0) (mw_w cI β (m_f τ 0 1))) 0 0 (gA (mw_al β)) := by
  refine Met.ofW (cc := b_M_holder) (maxL := 2) (ret := some .int) (by decide) rfl ?_
  intro p e s m args below meth c s₁ B hml hv
  obtain ⟨rfl, hP, hK, hD⟩ := hv
  have hx := B.exec
  have hb := B.bytes
  have hr := B.returns
  have hts : ∀ w ∈ kT, w.before [.ref (β 0), .int x].toArray s = true := fun w h => atoms_spec (ws := w_M_holder) B.pre w (List.mem_cons_of_mem _ h)
  have hown : s.vm.findClass R_M = some m.cls := findClass_of_methodNamed B.named
  have hlocks := B.notSynchronized
  have hD : va_D (gA (mw_al β)) (mw_w cI β τ) := gD mw_addr hD
  have hS : va_S (gA (mw_al β)) s.heap s.heap [] := va_S.rf
  have hl := lv_entry ([.ref (β 0), .int x]) (n := 2) (Nat.le_of_ble_eq_true rfl)
  rw [lg_entry_eq]
  generalize (lg_sl ([.ref (β 0), .int x]) ++ List.replicate (2 - (lg_sl ([.ref (β 0), .int x])).length) Slot.unset).toArray = ls at hl ⊢
  have hl : lv_has ls 2 [(0, .ref (β 0)), (1, .int x)] := hl
  refine lv_aload_n hx hb d_M_holder_0 rfl (lv_at hl 0 rfl) ?_
  refine lv_iload_n hx hb d_M_holder_1 rfl (lv_at hl 1 rfl) ?_
  refine r_calli (W.runS (As := [.int x]) (rest := [.ref (β 0)]) ⟨hx, hb, hml, hown, hts⟩ (ct_M_isSubject l x) (cwS 1 hts gd_M_72 rfl rfl rfl (by decide +kernel) ⟨Nat.le_of_ble_eq_true rfl, Nat.le_of_ble_eq_true rfl⟩) preEq rfl rfl hl.1 rfl (lv_room (Nat.le_of_ble_eq_true rfl)) d_M_holder_2 ⟨Nat.le_refl _, Nat.le_refl _⟩) ?_
  refine lv_if_eq (tgt := 12) hx hb d_M_holder_5 (by decide) (fun c_5 => ?_) (fun c_5 => ?_)
  · -- to 12
    refine lv_iconst (v := 1) hx hb d_M_holder_12 (by decide) ?_
    refine mw_put hx hb hts hown hK hP hD hS 0 (by unfold mw_is; decide) fl_M_46 rfl rfl rfl d_M_holder_13 (fun H locs hP hD hS => ?_)
    obtain ⟨τ1, e_τ1⟩ : ∃ ζ, ζ = m_f τ 0 1 := ⟨_, rfl⟩
    rw [← e_τ1] at hP hD
    have hI : m_ok n τ1.1 := by rw [e_τ1]; exact (m_ok_f hI (by decide))
    refine lv_aload_n hx hb d_M_holder_16 rfl (lv_at hl 0 rfl) ?_
    refine mw_get hx hb hts hown hK hP 0 (by decide) fl_M_46 (v := .int (τ1.1 0)) rfl d_M_holder_17 ?_
    refine lv_if_le (tgt := 27) hx hb d_M_holder_20 (by decide) (fun c_20 => ?_) (fun c_20 => ?_)
    · -- to 27
      exact absurd c_20 (by rw [e_τ1]; exact (by decide : ¬ (1 : Int32) ≤ 0))
    · -- on 23
      refine lv_iconst (v := 0) hx hb d_M_holder_23 (by decide) ?_
      refine lv_goto (tgt := 33) hx hb d_M_holder_24 (by decide) ?_
      exact g_reti hx hb hr hlocks rfl (by rw [e_τ1]) hP hS d_M_holder_33
  · -- on 8
    exact absurd hx0 c_5

set_option maxHeartbeats 4000000 in
set_option maxRecDepth 100000 in
theorem ct_M_waitsN (l : Launch) (D : va_G) (cI cQ : ClassId) (β : Nat → Nat) (n : Nat) (τ : mS) (hI : m_ok n τ.1) (x y : Int32) (hx0 : kd_sub x = 0) : Met l y_M_waits w_M_waits { frames := 1, cells := 0, slots := 0, locals := 20 } (gPc D (kty cI cQ) (mw_w cI β τ) [.ref (β 0), .int x, .int y]) (gQi D (mw_al β) (0) (mw_w cI β (m_f τ 0 1))) 0 0 (gA (mw_al β)) := by
  refine Met.ofW (cc := b_M_waits) (maxL := 6) (ret := some .int) (by decide) rfl ?_
  intro p e s m args below meth c s₁ B hml hv
  obtain ⟨rfl, hP, hK, hD⟩ := hv
  have hx := B.exec
  have hb := B.bytes
  have hr := B.returns
  have hts : ∀ w ∈ kT, w.before [.ref (β 0), .int x, .int y].toArray s = true := fun w h => atoms_spec (ws := w_M_waits) B.pre w (List.mem_cons_of_mem _ h)
  have hown : s.vm.findClass R_M = some m.cls := findClass_of_methodNamed B.named
  have hlocks := B.notSynchronized
  have hD : va_D (gA (mw_al β)) (mw_w cI β τ) := gD mw_addr hD
  have hS : va_S (gA (mw_al β)) s.heap s.heap [] := va_S.rf
  have hl := lv_entry ([.ref (β 0), .int x, .int y]) (n := 6) (Nat.le_of_ble_eq_true rfl)
  rw [lg_entry_eq]
  generalize (lg_sl ([.ref (β 0), .int x, .int y]) ++ List.replicate (6 - (lg_sl ([.ref (β 0), .int x, .int y])).length) Slot.unset).toArray = ls at hl ⊢
  have hl : lv_has ls 6 [(0, .ref (β 0)), (1, .int x), (2, .int y)] := hl
  refine lv_aload_n hx hb d_M_waits_0 rfl (lv_at hl 0 rfl) ?_
  refine lv_iload_n hx hb d_M_waits_1 rfl (lv_at hl 1 rfl) ?_
  refine r_calli (W.runS (As := [.int x]) (rest := [.ref (β 0)]) ⟨hx, hb, hml, hown, hts⟩ (ct_M_isSubject l x) (cwS 1 hts gd_M_72 rfl rfl rfl (by decide +kernel) ⟨Nat.le_of_ble_eq_true rfl, Nat.le_of_ble_eq_true rfl⟩) preEq rfl rfl hl.1 rfl (lv_room (Nat.le_of_ble_eq_true rfl)) d_M_waits_2 ⟨Nat.le_refl _, Nat.le_refl _⟩) ?_
  refine lv_if_eq (tgt := 12) hx hb d_M_waits_5 (by decide) (fun c_5 => ?_) (fun c_5 => ?_)
  · -- to 12
    refine lv_iconst (v := 1) hx hb d_M_waits_12 (by decide) ?_
    refine mw_put hx hb hts hown hK hP hD hS 0 (by unfold mw_is; decide) fl_M_46 rfl rfl rfl d_M_waits_13 (fun H locs hP hD hS => ?_)
    obtain ⟨τ1, e_τ1⟩ : ∃ ζ, ζ = m_f τ 0 1 := ⟨_, rfl⟩
    rw [← e_τ1] at hP hD
    have hI : m_ok n τ1.1 := by rw [e_τ1]; exact (m_ok_f hI (by decide))
    refine lv_aload_n hx hb d_M_waits_16 rfl (lv_at hl 0 rfl) ?_
    refine mw_get hx hb hts hown hK hP 0 (by decide) fl_M_46 (v := .int (τ1.1 0)) rfl d_M_waits_17 ?_
    refine lv_if_le (tgt := 25) hx hb d_M_waits_20 (by decide) (fun c_20 => ?_) (fun c_20 => ?_)
    · -- to 25
      exact absurd c_20 (by rw [e_τ1]; exact (by decide : ¬ (1 : Int32) ≤ 0))
    · -- on 23
      refine lv_iconst (v := 0) hx hb d_M_waits_23 (by decide) ?_
      exact g_reti hx hb hr hlocks rfl (by rw [e_τ1]) hP hS d_M_waits_24
  · -- on 8
    exact absurd hx0 c_5

set_option maxHeartbeats 4000000 in
set_option maxRecDepth 100000 in
theorem ct_M_waits (l : Launch) (D : va_G) (cI cQ : ClassId) (β : Nat → Nat) (n : Nat) (τ : mS) (hI : m_ok n τ.1) (z : Nat) (hz : z < 16) (y : Int32) : Met l y_M_waits w_M_waits { frames := 1, cells := 0, slots := 0, locals := 20 } (gPc D (kty cI cQ) (mw_w cI β τ) [.ref (β 0), .int (nI z), .int y]) (gQi D (mw_al β) (mo_wt τ n z y) (mw_w cI β (m_f τ 0 0))) 0 0 (gA (mw_al β)) := by
  refine Met.ofW (cc := b_M_waits) (maxL := 6) (ret := some .int) (by decide) rfl ?_
  intro p e s m args below meth c s₁ B hml hv
  obtain ⟨rfl, hP, hK, hD⟩ := hv
  have hx := B.exec
  have hb := B.bytes
  have hr := B.returns
  have hts : ∀ w ∈ kT, w.before [.ref (β 0), .int (nI z), .int y].toArray s = true := fun w h => atoms_spec (ws := w_M_waits) B.pre w (List.mem_cons_of_mem _ h)
  have hown : s.vm.findClass R_M = some m.cls := findClass_of_methodNamed B.named
  have hlocks := B.notSynchronized
  have hD : va_D (gA (mw_al β)) (mw_w cI β τ) := gD mw_addr hD
  have hS : va_S (gA (mw_al β)) s.heap s.heap [] := va_S.rf
  have hl := lv_entry ([.ref (β 0), .int (nI z), .int y]) (n := 6) (Nat.le_of_ble_eq_true rfl)
  rw [lg_entry_eq]
  generalize (lg_sl ([.ref (β 0), .int (nI z), .int y]) ++ List.replicate (6 - (lg_sl ([.ref (β 0), .int (nI z), .int y])).length) Slot.unset).toArray = ls at hl ⊢
  have hl : lv_has ls 6 [(0, .ref (β 0)), (1, .int (nI z)), (2, .int y)] := hl
  refine lv_aload_n hx hb d_M_waits_0 rfl (lv_at hl 0 rfl) ?_
  refine lv_iload_n hx hb d_M_waits_1 rfl (lv_at hl 1 rfl) ?_
  refine r_calli (W.runS (As := [.int (nI z)]) (rest := [.ref (β 0)]) ⟨hx, hb, hml, hown, hts⟩ (ct_M_isSubject l (nI z)) (cwS 1 hts gd_M_72 rfl rfl rfl (by decide +kernel) ⟨Nat.le_of_ble_eq_true rfl, Nat.le_of_ble_eq_true rfl⟩) preEq rfl rfl hl.1 rfl (lv_room (Nat.le_of_ble_eq_true rfl)) d_M_waits_2 ⟨Nat.le_refl _, Nat.le_refl _⟩) ?_
  refine lv_if_eq (tgt := 12) hx hb d_M_waits_5 (by decide) (fun c_5 => ?_) (fun c_5 => ?_)
  · -- to 12
    exact absurd c_5 (by rw [kd_sub_nI hz]; decide)
  · -- on 8
    refine lv_iconst (v := 0) hx hb d_M_waits_8 (by decide) ?_
    refine lv_goto (tgt := 13) hx hb d_M_waits_9 (by decide) ?_
    refine mw_put hx hb hts hown hK hP hD hS 0 (by unfold mw_is; decide) fl_M_46 rfl rfl rfl d_M_waits_13 (fun H locs hP hD hS => ?_)
    obtain ⟨τ1, e_τ1⟩ : ∃ ζ, ζ = m_f τ 0 0 := ⟨_, rfl⟩
    rw [← e_τ1] at hP hD
    have hI : m_ok n τ1.1 := by rw [e_τ1]; exact (m_ok_f hI (by decide))
    refine lv_aload_n hx hb d_M_waits_16 rfl (lv_at hl 0 rfl) ?_
    refine mw_get hx hb hts hown hK hP 0 (by decide) fl_M_46 (v := .int (τ1.1 0)) rfl d_M_waits_17 ?_
    refine lv_if_le (tgt := 25) hx hb d_M_waits_20 (by decide) (fun c_20 => ?_) (fun c_20 => ?_)
    · -- to 25
      refine lv_iconst (v := 0) hx hb d_M_waits_25 (by decide) ?_
      refine lv_istore_n (lv' := [(3, .int 0), (0, .ref (β 0)), (1, .int (nI z)), (2, .int y)]) hx hb d_M_waits_26 rfl hl (by decide) rfl (fun ls hl => ?_)
      have lp27 : ∀ (fu j : Nat) (ls : Array Slot), j ≤ n → n - j < fu → mo_wtp τ1 n (nI z) y j = none → lv_has ls 6 [(3, .int (nI j)), (0, .ref (β 0)), (1, .int (nI z)), (2, .int y)] → W p l e (headSpec w_M_waits { frames := 1, cells := 0, slots := 0, locals := 20 }).room s m [.ref (β 0), .int (nI z), .int y].toArray below meth c H locs 0 0 (MQ below (gQi D (mw_al β) (mo_wt τ n z y) (mw_w cI β (m_f τ 0 0))) [.ref (β 0), .int (nI z), .int y].toArray s 0 0 (gA (mw_al β))) (F0 m 27 ls []) := by
        intro fu
        induction fu with
        | zero => intro j ls h1 h2; omega
        | succ fu ih =>
          intro j ls hj27 hf27 e_wt hl
          refine lv_iload_n hx hb d_M_waits_27 rfl (lv_at hl 0 rfl) ?_
          refine lv_aload_n hx hb d_M_waits_28 rfl (lv_at hl 1 rfl) ?_
          refine mw_get hx hb hts hown hK hP 1 (by decide) fl_M_50 (v := .int (τ1.1 1)) rfl d_M_waits_29 ?_
          refine lv_icmp_ge (tgt := 117) hx hb d_M_waits_32 (by decide) (fun c_32 => ?_) (fun c_32 => ?_)
          · -- to 117
            have hx27 : j = n := mp_eqI hI c_32 hj27
            rw [hx27] at e_wt
            refine lv_iconst (v := (-1)) hx hb d_M_waits_117 (by decide) ?_
            exact g_reti hx hb hr hlocks (mo_wt_n (by rw [← e_τ1]; exact e_wt)) (by rw [e_τ1]) hP hS d_M_waits_118
          · -- on 35
            have hl27 : j < n := mp_ltI hI c_32 hj27
            refine lv_iconst (v := 0) hx hb d_M_waits_35 (by decide) ?_
            refine lv_istore (lv' := [(4, .int 0), (3, .int (nI j)), (0, .ref (β 0)), (1, .int (nI z)), (2, .int y)]) hx hb d_M_waits_36 hl (by decide) rfl (fun ls hl => ?_)
            refine lv_iconst (v := 0) hx hb d_M_waits_38 (by decide) ?_
            refine lv_istore (lv' := [(5, .int 0), (4, .int 0), (3, .int (nI j)), (0, .ref (β 0)), (1, .int (nI z)), (2, .int y)]) hx hb d_M_waits_39 hl (by decide) rfl (fun ls hl => ?_)
            have lp41 : ∀ (gu k : Nat) (ac : Int32) (ls : Array Slot), k ≤ n → n - k < gu → ac = mo_ahp τ1 (nI z) j k → lv_has ls 6 [(5, .int (nI k)), (4, .int ac), (3, .int (nI j)), (0, .ref (β 0)), (1, .int (nI z)), (2, .int y)] → W p l e (headSpec w_M_waits { frames := 1, cells := 0, slots := 0, locals := 20 }).room s m [.ref (β 0), .int (nI z), .int y].toArray below meth c H locs 0 0 (MQ below (gQi D (mw_al β) (mo_wt τ n z y) (mw_w cI β (m_f τ 0 0))) [.ref (β 0), .int (nI z), .int y].toArray s 0 0 (gA (mw_al β))) (F0 m 41 ls []) := by
              intro gu
              induction gu with
              | zero => intro k ac ls h1 h2; omega
              | succ gu ih2 =>
                intro k ac ls hj41 hf41 e_ac hl
                refine lv_iload hx hb d_M_waits_41 (lv_at hl 0 rfl) ?_
                refine lv_aload_n hx hb d_M_waits_43 rfl (lv_at hl 3 rfl) ?_
                refine mw_get hx hb hts hown hK hP 1 (by decide) fl_M_50 (v := .int (τ1.1 1)) rfl d_M_waits_44 ?_
                refine lv_icmp_ge (tgt := 93) hx hb d_M_waits_47 (by decide) (fun c_47 => ?_) (fun c_47 => ?_)
                · -- to 93
                  have hx41 : k = n := mp_eqI hI c_47 hj41
                  rw [hx41] at e_ac
                  refine lv_aload_n hx hb d_M_waits_93 rfl (lv_at hl 3 rfl) ?_
                  refine mw_get hx hb hts hown hK hP 10 (by decide) fl_M_34 (v := .ref (β 10)) rfl d_M_waits_94 ?_
                  refine lv_iload_n hx hb d_M_waits_97 rfl (lv_at hl 2 rfl) ?_
                  refine mw_ald hx hb hK hP 10 (by unfold mw_as; decide) (j := j) rfl (m8 hI hl27) d_M_waits_98 ?_
                  refine lv_iload_n hx hb d_M_waits_99 rfl (lv_at hl 4 rfl) ?_
                  refine lv_icmp_ne (tgt := 111) hx hb d_M_waits_100 (by decide) (fun c_100 => ?_) (fun c_100 => ?_)
                  · -- to 111
                    refine lv_iinc (v := nI (j + 1)) (lv' := [(3, .int (nI (j + 1))), (5, .int (nI k)), (4, .int ac), (0, .ref (β 0)), (1, .int (nI z)), (2, .int y)]) hx hb d_M_waits_111 hl (k := 2) rfl (nI_1 j) (by decide) rfl (fun ls hl => ?_)
                    refine lv_goto (tgt := 27) hx hb d_M_waits_114 (by decide) ?_
                    exact ih (j + 1) ls (by omega) (by omega) (by rw [mo_wtp, e_wt, ← e_ac]; simp [c_100]) (lv_sub hl [0, 3, 4, 5] rfl)
                  · -- on 103
                    refine lv_iload hx hb d_M_waits_103 (lv_at hl 1 rfl) ?_
                    refine lv_iload_n hx hb d_M_waits_105 rfl (lv_at hl 5 rfl) ?_
                    refine lv_icmp_ne (tgt := 111) hx hb d_M_waits_106 (by decide) (fun c_106 => ?_) (fun c_106 => ?_)
                    · -- to 111
                      refine lv_iinc (v := nI (j + 1)) (lv' := [(3, .int (nI (j + 1))), (5, .int (nI k)), (4, .int ac), (0, .ref (β 0)), (1, .int (nI z)), (2, .int y)]) hx hb d_M_waits_111 hl (k := 2) rfl (nI_1 j) (by decide) rfl (fun ls hl => ?_)
                      refine lv_goto (tgt := 27) hx hb d_M_waits_114 (by decide) ?_
                      exact ih (j + 1) ls (by omega) (by omega) (by rw [mo_wtp, e_wt, ← e_ac]; simp [c_100, c_106]) (lv_sub hl [0, 3, 4, 5] rfl)
                    · -- on 109
                      refine lv_iload_n hx hb d_M_waits_109 rfl (lv_at hl 2 rfl) ?_
                      exact g_reti hx hb hr hlocks (mo_wt_s (by rw [← e_τ1]; exact mo_wtp_up (m := j + 1) (by rw [mo_wtp, e_wt, ← e_ac]; simp [c_100, c_106]) (show j + 1 ≤ n by omega))) (by rw [e_τ1]) hP hS d_M_waits_110
                · -- on 50
                  have hl41 : k < n := mp_ltI hI c_47 hj41
                  refine lv_iload hx hb d_M_waits_50 (lv_at hl 1 rfl) ?_
                  refine lv_aload_n hx hb d_M_waits_52 rfl (lv_at hl 3 rfl) ?_
                  refine mw_get hx hb hts hown hK hP 10 (by decide) fl_M_34 (v := .ref (β 10)) rfl d_M_waits_53 ?_
                  refine lv_iload hx hb d_M_waits_56 (lv_at hl 0 rfl) ?_
                  refine mw_ald hx hb hK hP 10 (by unfold mw_as; decide) (j := k) rfl (m8 hI hl41) d_M_waits_58 ?_
                  refine lv_iload_n hx hb d_M_waits_59 rfl (lv_at hl 4 rfl) ?_
                  refine lv_icmp_ne (tgt := 83) hx hb d_M_waits_60 (by decide) (fun c_60 => ?_) (fun c_60 => ?_)
                  · -- to 83
                    refine lv_iconst (v := 0) hx hb d_M_waits_83 (by decide) ?_
                    refine lv_iadd hx hb d_M_waits_84 ?_
                    refine lv_istore (lv' := [(4, .int (ac + 0)), (5, .int (nI k)), (3, .int (nI j)), (0, .ref (β 0)), (1, .int (nI z)), (2, .int y)]) hx hb d_M_waits_85 hl (by decide) rfl (fun ls hl => ?_)
                    refine lv_iinc (v := nI (k + 1)) (lv' := [(5, .int (nI (k + 1))), (4, .int (ac + 0)), (3, .int (nI j)), (0, .ref (β 0)), (1, .int (nI z)), (2, .int y)]) hx hb d_M_waits_87 hl (k := 1) rfl (nI_1 k) (by decide) rfl (fun ls hl => ?_)
                    refine lv_goto (tgt := 41) hx hb d_M_waits_90 (by decide) ?_
                    exact ih2 (k + 1) (ac + 0) ls (by omega) (by omega) (by rw [mo_ahp, ← e_ac]; simp [c_60]) (lv_sub hl [0, 1, 2, 3, 4, 5] rfl)
                  · -- on 63
                    refine lv_aload_n hx hb d_M_waits_63 rfl (lv_at hl 3 rfl) ?_
                    refine mw_get hx hb hts hown hK hP 11 (by decide) fl_M_37 (v := .ref (β 11)) rfl d_M_waits_64 ?_
                    refine lv_iload hx hb d_M_waits_67 (lv_at hl 0 rfl) ?_
                    refine mw_ald hx hb hK hP 11 (by unfold mw_as; decide) (j := k) rfl (m8 hI hl41) d_M_waits_69 ?_
                    refine lv_aload_n hx hb d_M_waits_70 rfl (lv_at hl 3 rfl) ?_
                    refine mw_get hx hb hts hown hK hP 11 (by decide) fl_M_37 (v := .ref (β 11)) rfl d_M_waits_71 ?_
                    refine lv_iload_n hx hb d_M_waits_74 rfl (lv_at hl 2 rfl) ?_
                    refine mw_ald hx hb hK hP 11 (by unfold mw_as; decide) (j := j) rfl (m8 hI hl27) d_M_waits_75 ?_
                    refine lv_icmp_ge (tgt := 83) hx hb d_M_waits_76 (by decide) (fun c_76 => ?_) (fun c_76 => ?_)
                    · -- to 83
                      refine lv_iconst (v := 0) hx hb d_M_waits_83 (by decide) ?_
                      refine lv_iadd hx hb d_M_waits_84 ?_
                      refine lv_istore (lv' := [(4, .int (ac + 0)), (5, .int (nI k)), (3, .int (nI j)), (0, .ref (β 0)), (1, .int (nI z)), (2, .int y)]) hx hb d_M_waits_85 hl (by decide) rfl (fun ls hl => ?_)
                      refine lv_iinc (v := nI (k + 1)) (lv' := [(5, .int (nI (k + 1))), (4, .int (ac + 0)), (3, .int (nI j)), (0, .ref (β 0)), (1, .int (nI z)), (2, .int y)]) hx hb d_M_waits_87 hl (k := 1) rfl (nI_1 k) (by decide) rfl (fun ls hl => ?_)
                      refine lv_goto (tgt := 41) hx hb d_M_waits_90 (by decide) ?_
                      exact ih2 (k + 1) (ac + 0) ls (by omega) (by omega) (by rw [mo_ahp, ← e_ac]; simp [c_60, c_76]) (lv_sub hl [0, 1, 2, 3, 4, 5] rfl)
                    · -- on 79
                      refine lv_iconst (v := 1) hx hb d_M_waits_79 (by decide) ?_
                      refine lv_goto (tgt := 84) hx hb d_M_waits_80 (by decide) ?_
                      refine lv_iadd hx hb d_M_waits_84 ?_
                      refine lv_istore (lv' := [(4, .int (ac + 1)), (5, .int (nI k)), (3, .int (nI j)), (0, .ref (β 0)), (1, .int (nI z)), (2, .int y)]) hx hb d_M_waits_85 hl (by decide) rfl (fun ls hl => ?_)
                      refine lv_iinc (v := nI (k + 1)) (lv' := [(5, .int (nI (k + 1))), (4, .int (ac + 1)), (3, .int (nI j)), (0, .ref (β 0)), (1, .int (nI z)), (2, .int y)]) hx hb d_M_waits_87 hl (k := 1) rfl (nI_1 k) (by decide) rfl (fun ls hl => ?_)
                      refine lv_goto (tgt := 41) hx hb d_M_waits_90 (by decide) ?_
                      exact ih2 (k + 1) (ac + 1) ls (by omega) (by omega) (by rw [mo_ahp, ← e_ac]; simp [c_60, c_76]) (lv_sub hl [0, 1, 2, 3, 4, 5] rfl)
            exact lp41 (n + 1) 0 _ ls (by omega) (by omega) rfl (lv_sub hl [0, 1, 2, 3, 4, 5] rfl)
      exact lp27 (n + 1) 0 ls (by omega) (by omega) rfl (lv_sub hl [0, 1, 2, 3] rfl)
    · -- on 23
      exact absurd (by rw [e_τ1]; exact (by decide : (0 : Int32) ≤ 0)) c_20
end
section
set_option maxHeartbeats 4000000 in
set_option maxRecDepth 100000 in
theorem ct_M_interruptN (l : Launch) (D : va_G) (cI cQ : ClassId) (β : Nat → Nat) (n : Nat) (τ : mS) (hI : m_ok n τ.1) (x : Int32) (hx0 : mo_isd (m_f τ 0 0) x = 0) : Met l y_M_interrupt w_M_interrupt { frames := 3, cells := 0, slots := 0, locals := 68 } (gPc D (kty cI cQ) (mw_w cI β τ) [.ref (β 0), .int x]) (gQi D (mw_al β) (0) (mw_w cI β (m_f τ 0 0))) 0 0 (gA (mw_al β)) := by
  refine Met.ofW (cc := b_M_interrupt) (maxL := 2) (ret := some .boolean) (by decide) rfl ?_
  intro p e s m args below meth c s₁ B hml hv
  obtain ⟨rfl, hP, hK, hD⟩ := hv
  have hx := B.exec
  have hb := B.bytes
  have hr := B.returns
  have hts : ∀ w ∈ kT, w.before [.ref (β 0), .int x].toArray s = true := fun w h => atoms_spec (ws := w_M_interrupt) B.pre w (List.mem_cons_of_mem _ h)
  have hown : s.vm.findClass R_M = some m.cls := findClass_of_methodNamed B.named
  have hlocks := B.notSynchronized
  have hD : va_D (gA (mw_al β)) (mw_w cI β τ) := gD mw_addr hD
  have hS : va_S (gA (mw_al β)) s.heap s.heap [] := va_S.rf
  have hl := lv_entry ([.ref (β 0), .int x]) (n := 2) (Nat.le_of_ble_eq_true rfl)
  rw [lg_entry_eq]
  generalize (lg_sl ([.ref (β 0), .int x]) ++ List.replicate (2 - (lg_sl ([.ref (β 0), .int x])).length) Slot.unset).toArray = ls at hl ⊢
  have hl : lv_has ls 2 [(0, .ref (β 0)), (1, .int x)] := hl
  refine lv_aload_n hx hb d_M_interrupt_0 rfl (lv_at hl 0 rfl) ?_
  refine lv_iconst (v := 0) hx hb d_M_interrupt_1 (by decide) ?_
  refine mw_put hx hb hts hown hK hP hD hS 0 (by unfold mw_is; decide) fl_M_46 rfl rfl rfl d_M_interrupt_2 (fun H locs hP hD hS => ?_)
  obtain ⟨τ1, e_τ1⟩ : ∃ ζ, ζ = m_f τ 0 0 := ⟨_, rfl⟩
  rw [← e_τ1] at hP hD
  have hI : m_ok n τ1.1 := by rw [e_τ1]; exact (m_ok_f hI (by decide))
  refine lv_aload_n hx hb d_M_interrupt_5 rfl (lv_at hl 0 rfl) ?_
  refine lv_iload_n hx hb d_M_interrupt_6 rfl (lv_at hl 1 rfl) ?_
  refine r_calli (W.runV (As := [.int x]) (rest := []) ⟨hx, hb, hml, hown, hts⟩ (ct_M_isDesk l D cI cQ β n τ1 hI x) (cwV 1 hts gd_M_68 rfl rfl rfl (by decide +kernel) ⟨Nat.le_of_ble_eq_true rfl, Nat.le_of_ble_eq_true rfl⟩) (g_preV hK hP hD (ci := 2) (q0 := 0) rfl mw_0) rfl rfl hl.1 rfl (lv_room (Nat.le_of_ble_eq_true rfl)) d_M_interrupt_7 ⟨Nat.le_refl _, Nat.le_refl _⟩) ?_
  refine lv_if_eq (tgt := 23) hx hb d_M_interrupt_10 (by decide) (fun c_10 => ?_) (fun c_10 => ?_)
  · -- to 23
    refine lv_iconst (v := 0) hx hb d_M_interrupt_23 (by decide) ?_
    exact g_retz hx hb hr hlocks (by decide) rfl (by rw [e_τ1]) hP hS d_M_interrupt_24
  · -- on 13
    exact absurd (by rw [e_τ1]; exact hx0) c_10

set_option maxHeartbeats 4000000 in
set_option maxRecDepth 100000 in
theorem ct_M_interrupt (l : Launch) (D : va_G) (cI cQ : ClassId) (β : Nat → Nat) (n : Nat) (τ : mS) (hI : m_ok n τ.1) (i : Nat) (hi : i < n) : Met l y_M_interrupt w_M_interrupt { frames := 3, cells := 0, slots := 0, locals := 68 } (gPc D (kty cI cQ) (mw_w cI β τ) [.ref (β 0), .int (nI i)]) (gQi D (mw_al β) ((mo_inti n τ i).1) (mw_w cI β ((mo_inti n τ i).2))) 0 0 (gA (mw_al β)) := by
  refine Met.ofW (cc := b_M_interrupt) (maxL := 2) (ret := some .boolean) (by decide) rfl ?_
  intro p e s m args below meth c s₁ B hml hv
  obtain ⟨rfl, hP, hK, hD⟩ := hv
  have hx := B.exec
  have hb := B.bytes
  have hr := B.returns
  have hts : ∀ w ∈ kT, w.before [.ref (β 0), .int (nI i)].toArray s = true := fun w h => atoms_spec (ws := w_M_interrupt) B.pre w (List.mem_cons_of_mem _ h)
  have hown : s.vm.findClass R_M = some m.cls := findClass_of_methodNamed B.named
  have hlocks := B.notSynchronized
  have hD : va_D (gA (mw_al β)) (mw_w cI β τ) := gD mw_addr hD
  have hS : va_S (gA (mw_al β)) s.heap s.heap [] := va_S.rf
  have hl := lv_entry ([.ref (β 0), .int (nI i)]) (n := 2) (Nat.le_of_ble_eq_true rfl)
  rw [lg_entry_eq]
  generalize (lg_sl ([.ref (β 0), .int (nI i)]) ++ List.replicate (2 - (lg_sl ([.ref (β 0), .int (nI i)])).length) Slot.unset).toArray = ls at hl ⊢
  have hl : lv_has ls 2 [(0, .ref (β 0)), (1, .int (nI i))] := hl
  refine lv_aload_n hx hb d_M_interrupt_0 rfl (lv_at hl 0 rfl) ?_
  refine lv_iconst (v := 0) hx hb d_M_interrupt_1 (by decide) ?_
  refine mw_put hx hb hts hown hK hP hD hS 0 (by unfold mw_is; decide) fl_M_46 rfl rfl rfl d_M_interrupt_2 (fun H locs hP hD hS => ?_)
  obtain ⟨τ1, e_τ1⟩ : ∃ ζ, ζ = m_f τ 0 0 := ⟨_, rfl⟩
  rw [← e_τ1] at hP hD
  have hI : m_ok n τ1.1 := by rw [e_τ1]; exact (m_ok_f hI (by decide))
  refine lv_aload_n hx hb d_M_interrupt_5 rfl (lv_at hl 0 rfl) ?_
  refine lv_iload_n hx hb d_M_interrupt_6 rfl (lv_at hl 1 rfl) ?_
  refine r_calli (W.runV (As := [.int (nI i)]) (rest := []) ⟨hx, hb, hml, hown, hts⟩ (ct_M_isDesk l D cI cQ β n τ1 hI (nI i)) (cwV 1 hts gd_M_68 rfl rfl rfl (by decide +kernel) ⟨Nat.le_of_ble_eq_true rfl, Nat.le_of_ble_eq_true rfl⟩) (g_preV hK hP hD (ci := 2) (q0 := 0) rfl mw_0) rfl rfl hl.1 rfl (lv_room (Nat.le_of_ble_eq_true rfl)) d_M_interrupt_7 ⟨Nat.le_refl _, Nat.le_refl _⟩) ?_
  refine lv_if_eq (tgt := 23) hx hb d_M_interrupt_10 (by decide) (fun c_10 => ?_) (fun c_10 => ?_)
  · -- to 23
    exact absurd c_10 (by rw [mo_isd_nI hI hi]; decide)
  · -- on 13
    refine lv_aload_n hx hb d_M_interrupt_13 rfl (lv_at hl 0 rfl) ?_
    refine mw_get hx hb hts hown hK hP 6 (by decide) fl_M_22 (v := .ref (β 6)) rfl d_M_interrupt_14 ?_
    refine lv_iload_n hx hb d_M_interrupt_17 rfl (lv_at hl 1 rfl) ?_
    refine mw_ald hx hb hK hP 6 (by unfold mw_as; decide) (j := i) rfl (m8 hI hi) d_M_interrupt_18 ?_
    refine lv_iconst (v := 1) hx hb d_M_interrupt_19 (by decide) ?_
    refine lv_icmp_eq (tgt := 25) hx hb d_M_interrupt_20 (by decide) (fun c_20 => ?_) (fun c_20 => ?_)
    · -- to 25
      refine lv_aload_n hx hb d_M_interrupt_25 rfl (lv_at hl 0 rfl) ?_
      refine mw_get hx hb hts hown hK hP 10 (by decide) fl_M_34 (v := .ref (β 10)) rfl d_M_interrupt_26 ?_
      refine lv_iload_n hx hb d_M_interrupt_29 rfl (lv_at hl 1 rfl) ?_
      refine lv_iconst (v := (-1)) hx hb d_M_interrupt_30 (by decide) ?_
      refine mw_ast hx hb hK hP hD hS 10 (by unfold mw_as; decide) (j := i) rfl (m8 hI hi) d_M_interrupt_31 (fun H locs hP hD hS => ?_)
      obtain ⟨τ2, e_τ2⟩ : ∃ ζ, ζ = m_a τ1 10 i (-1) := ⟨_, rfl⟩
      rw [← e_τ2] at hP hD
      have hI : m_ok n τ2.1 := by rw [e_τ2]; exact hI
      refine lv_aload_n hx hb d_M_interrupt_32 rfl (lv_at hl 0 rfl) ?_
      refine lv_iconst (v := 3) hx hb d_M_interrupt_33 (by decide) ?_
      refine lv_iload_n hx hb d_M_interrupt_34 rfl (lv_at hl 1 rfl) ?_
      refine g_callv (va_runV (As := [.int 3, .int (nI i)]) (rest := []) ⟨hx, hb, hml, hown, hts⟩ (ct_M_write l D cI cQ β n τ2 hI 3 i hi) (cwV 2 hts gd_M_94 rfl rfl rfl (by decide +kernel) ⟨Nat.le_of_ble_eq_true rfl, Nat.le_of_ble_eq_true rfl⟩) (g_preV hK hP hD (ci := 2) (q0 := 0) rfl mw_0) rfl rfl hl.1 rfl (lv_room (Nat.le_of_ble_eq_true rfl)) d_M_interrupt_35 ⟨Nat.le_refl _, Nat.le_refl _⟩) hD hS (mw_addr.trans mw_addr.symm) (fun H locs hP hD hS => ?_)
      obtain ⟨τ3, e_τ3⟩ : ∃ ζ, ζ = mo_write τ2 3 i := ⟨_, rfl⟩
      rw [← e_τ3] at hP hD
      have hI : m_ok n τ3.1 := by rw [e_τ3]; exact (m_ok_write hI)
      refine lv_aload_n hx hb d_M_interrupt_38 rfl (lv_at hl 0 rfl) ?_
      refine lv_iload_n hx hb d_M_interrupt_39 rfl (lv_at hl 1 rfl) ?_
      refine g_callv (va_runV (As := [.int (nI i)]) (rest := []) ⟨hx, hb, hml, hown, hts⟩ (ct_M_giveAll l D cI cQ β n τ3 hI i hi) (cwV 1 hts gd_M_98 rfl rfl rfl (by decide +kernel) ⟨Nat.le_of_ble_eq_true rfl, Nat.le_of_ble_eq_true rfl⟩) (g_preV hK hP hD (ci := 2) (q0 := 0) rfl mw_0) rfl rfl hl.1 rfl (lv_room (Nat.le_of_ble_eq_true rfl)) d_M_interrupt_40 ⟨Nat.le_refl _, Nat.le_refl _⟩) hD hS (mw_addr.trans mw_addr.symm) (fun H locs hP hD hS => ?_)
      obtain ⟨τ4, e_τ4⟩ : ∃ ζ, ζ = mo_ga n τ3 i := ⟨_, rfl⟩
      rw [← e_τ4] at hP hD
      have hI : m_ok n τ4.1 := by rw [e_τ4]; exact (by rw [mo_ga_1]; exact hI)
      refine lv_aload_n hx hb d_M_interrupt_43 rfl (lv_at hl 0 rfl) ?_
      refine lv_iload_n hx hb d_M_interrupt_44 rfl (lv_at hl 1 rfl) ?_
      refine g_callv (va_runV (As := [.int (nI i)]) (rest := []) ⟨hx, hb, hml, hown, hts⟩ (ct_M_goesOn l D cI cQ β n τ4 hI i hi) (cwV 1 hts gd_M_101 rfl rfl rfl (by decide +kernel) ⟨Nat.le_of_ble_eq_true rfl, Nat.le_of_ble_eq_true rfl⟩) (g_preV hK hP hD (ci := 2) (q0 := 0) rfl mw_0) rfl rfl hl.1 rfl (lv_room (Nat.le_of_ble_eq_true rfl)) d_M_interrupt_45 ⟨Nat.le_refl _, Nat.le_refl _⟩) hD hS (mw_addr.trans mw_addr.symm) (fun H locs hP hD hS => ?_)
      obtain ⟨τ5, e_τ5⟩ : ∃ ζ, ζ = mo_goes τ4 i := ⟨_, rfl⟩
      rw [← e_τ5] at hP hD
      have hI : m_ok n τ5.1 := by rw [e_τ5]; exact hI
      refine lv_iconst (v := 1) hx hb d_M_interrupt_48 (by decide) ?_
      exact g_retz hx hb hr hlocks (by decide) (by rw [mo_inti, if_pos (by rw [← e_τ1]; exact c_20)]) (by rw [mo_inti, if_pos (by rw [← e_τ1]; exact c_20), e_τ5, e_τ4, e_τ3, e_τ2, e_τ1]) hP hS d_M_interrupt_49
    · -- on 23
      refine lv_iconst (v := 0) hx hb d_M_interrupt_23 (by decide) ?_
      exact g_retz hx hb hr hlocks (by decide) (by rw [mo_inti, if_neg (by rw [← e_τ1]; exact c_20)]) (by rw [mo_inti, if_neg (by rw [← e_τ1]; exact c_20), e_τ1]) hP hS d_M_interrupt_24

set_option maxHeartbeats 4000000 in
set_option maxRecDepth 100000 in
theorem ct_M_deadN (l : Launch) (D : va_G) (cI cQ : ClassId) (β : Nat → Nat) (n : Nat) (τ : mS) (hI : m_ok n τ.1) (x : Int32) (hx0 : mo_isd τ x = 0) : Met l y_M_dead w_M_dead { frames := 1, cells := 0, slots := 0, locals := 23 } (gPc D (kty cI cQ) (mw_w cI β τ) [.ref (β 0), .int x]) (gQi D (mw_al β) (0) (mw_w cI β (m_f τ 0 1))) 0 0 (gA (mw_al β)) := by
  refine Met.ofW (cc := b_M_dead) (maxL := 2) (ret := some .int) (by decide) rfl ?_
  intro p e s m args below meth c s₁ B hml hv
  obtain ⟨rfl, hP, hK, hD⟩ := hv
  have hx := B.exec
  have hb := B.bytes
  have hr := B.returns
  have hts : ∀ w ∈ kT, w.before [.ref (β 0), .int x].toArray s = true := fun w h => atoms_spec (ws := w_M_dead) B.pre w (List.mem_cons_of_mem _ h)
  have hown : s.vm.findClass R_M = some m.cls := findClass_of_methodNamed B.named
  have hlocks := B.notSynchronized
  have hD : va_D (gA (mw_al β)) (mw_w cI β τ) := gD mw_addr hD
  have hS : va_S (gA (mw_al β)) s.heap s.heap [] := va_S.rf
  have hl := lv_entry ([.ref (β 0), .int x]) (n := 2) (Nat.le_of_ble_eq_true rfl)
  rw [lg_entry_eq]
  generalize (lg_sl ([.ref (β 0), .int x]) ++ List.replicate (2 - (lg_sl ([.ref (β 0), .int x])).length) Slot.unset).toArray = ls at hl ⊢
  have hl : lv_has ls 2 [(0, .ref (β 0)), (1, .int x)] := hl
  refine lv_aload_n hx hb d_M_dead_0 rfl (lv_at hl 0 rfl) ?_
  refine lv_iload_n hx hb d_M_dead_1 rfl (lv_at hl 1 rfl) ?_
  refine r_calli (W.runV (As := [.int x]) (rest := []) ⟨hx, hb, hml, hown, hts⟩ (ct_M_isDesk l D cI cQ β n τ hI x) (cwV 1 hts gd_M_68 rfl rfl rfl (by decide +kernel) ⟨Nat.le_of_ble_eq_true rfl, Nat.le_of_ble_eq_true rfl⟩) (g_preV hK hP hD (ci := 2) (q0 := 0) rfl mw_0) rfl rfl hl.1 rfl (lv_room (Nat.le_of_ble_eq_true rfl)) d_M_dead_2 ⟨Nat.le_refl _, Nat.le_refl _⟩) ?_
  refine lv_if_ne (tgt := 14) hx hb d_M_dead_5 (by decide) (fun c_5 => ?_) (fun c_5 => ?_)
  · -- to 14
    exact absurd hx0 c_5
  · -- on 8
    refine lv_aload_n hx hb d_M_dead_8 rfl (lv_at hl 0 rfl) ?_
    refine lv_iconst (v := 1) hx hb d_M_dead_9 (by decide) ?_
    refine g_calli (va_runV (As := [.int 1]) (rest := []) ⟨hx, hb, hml, hown, hts⟩ (ct_M_refuse l D cI cQ β n τ hI 1) (cwV 1 hts gd_M_57 rfl rfl rfl (by decide +kernel) ⟨Nat.le_of_ble_eq_true rfl, Nat.le_of_ble_eq_true rfl⟩) (g_preV hK hP hD (ci := 2) (q0 := 0) rfl mw_0) rfl rfl hl.1 rfl (lv_room (Nat.le_of_ble_eq_true rfl)) d_M_dead_10 ⟨Nat.le_refl _, Nat.le_refl _⟩) hD hS (mw_addr.trans mw_addr.symm) (fun H locs hP hD hS => ?_)
    obtain ⟨τ1, e_τ1⟩ : ∃ ζ, ζ = m_f τ 0 1 := ⟨_, rfl⟩
    rw [← e_τ1] at hP hD
    have hI : m_ok n τ1.1 := by rw [e_τ1]; exact (m_ok_f hI (by decide))
    exact g_reti hx hb hr hlocks rfl (by rw [e_τ1]) hP hS d_M_dead_13

set_option maxHeartbeats 4000000 in
set_option maxRecDepth 100000 in
theorem ct_M_dead (l : Launch) (D : va_G) (cI cQ : ClassId) (β : Nat → Nat) (n : Nat) (τ : mS) (hI : m_ok n τ.1) (i : Nat) (hi : i < n) : Met l y_M_dead w_M_dead { frames := 1, cells := 0, slots := 0, locals := 23 } (gPc D (kty cI cQ) (mw_w cI β τ) [.ref (β 0), .int (nI i)]) (gQi D (mw_al β) ((mo_dead τ i).1) (mw_w cI β ((mo_dead τ i).2))) 0 0 (gA (mw_al β)) := by
  refine Met.ofW (cc := b_M_dead) (maxL := 2) (ret := some .int) (by decide) rfl ?_
  intro p e s m args below meth c s₁ B hml hv
  obtain ⟨rfl, hP, hK, hD⟩ := hv
  have hx := B.exec
  have hb := B.bytes
  have hr := B.returns
  have hts : ∀ w ∈ kT, w.before [.ref (β 0), .int (nI i)].toArray s = true := fun w h => atoms_spec (ws := w_M_dead) B.pre w (List.mem_cons_of_mem _ h)
  have hown : s.vm.findClass R_M = some m.cls := findClass_of_methodNamed B.named
  have hlocks := B.notSynchronized
  have hD : va_D (gA (mw_al β)) (mw_w cI β τ) := gD mw_addr hD
  have hS : va_S (gA (mw_al β)) s.heap s.heap [] := va_S.rf
  have hl := lv_entry ([.ref (β 0), .int (nI i)]) (n := 2) (Nat.le_of_ble_eq_true rfl)
  rw [lg_entry_eq]
  generalize (lg_sl ([.ref (β 0), .int (nI i)]) ++ List.replicate (2 - (lg_sl ([.ref (β 0), .int (nI i)])).length) Slot.unset).toArray = ls at hl ⊢
  have hl : lv_has ls 2 [(0, .ref (β 0)), (1, .int (nI i))] := hl
  refine lv_aload_n hx hb d_M_dead_0 rfl (lv_at hl 0 rfl) ?_
  refine lv_iload_n hx hb d_M_dead_1 rfl (lv_at hl 1 rfl) ?_
  refine r_calli (W.runV (As := [.int (nI i)]) (rest := []) ⟨hx, hb, hml, hown, hts⟩ (ct_M_isDesk l D cI cQ β n τ hI (nI i)) (cwV 1 hts gd_M_68 rfl rfl rfl (by decide +kernel) ⟨Nat.le_of_ble_eq_true rfl, Nat.le_of_ble_eq_true rfl⟩) (g_preV hK hP hD (ci := 2) (q0 := 0) rfl mw_0) rfl rfl hl.1 rfl (lv_room (Nat.le_of_ble_eq_true rfl)) d_M_dead_2 ⟨Nat.le_refl _, Nat.le_refl _⟩) ?_
  refine lv_if_ne (tgt := 14) hx hb d_M_dead_5 (by decide) (fun c_5 => ?_) (fun c_5 => ?_)
  · -- to 14
    refine lv_aload_n hx hb d_M_dead_14 rfl (lv_at hl 0 rfl) ?_
    refine lv_iconst (v := 0) hx hb d_M_dead_15 (by decide) ?_
    refine mw_put hx hb hts hown hK hP hD hS 0 (by unfold mw_is; decide) fl_M_46 rfl rfl rfl d_M_dead_16 (fun H locs hP hD hS => ?_)
    obtain ⟨τ1, e_τ1⟩ : ∃ ζ, ζ = m_f τ 0 0 := ⟨_, rfl⟩
    rw [← e_τ1] at hP hD
    have hI : m_ok n τ1.1 := by rw [e_τ1]; exact (m_ok_f hI (by decide))
    refine lv_aload_n hx hb d_M_dead_19 rfl (lv_at hl 0 rfl) ?_
    refine mw_get hx hb hts hown hK hP 6 (by decide) fl_M_22 (v := .ref (β 6)) rfl d_M_dead_20 ?_
    refine lv_iload_n hx hb d_M_dead_23 rfl (lv_at hl 1 rfl) ?_
    refine mw_ald hx hb hK hP 6 (by unfold mw_as; decide) (j := i) rfl (m8 hI hi) d_M_dead_24 ?_
    refine lv_iconst (v := 1) hx hb d_M_dead_25 (by decide) ?_
    refine lv_icmp_le (tgt := 31) hx hb d_M_dead_26 (by decide) (fun c_26 => ?_) (fun c_26 => ?_)
    · -- to 31
      refine lv_aload_n hx hb d_M_dead_31 rfl (lv_at hl 0 rfl) ?_
      refine mw_get hx hb hts hown hK hP 6 (by decide) fl_M_22 (v := .ref (β 6)) rfl d_M_dead_32 ?_
      refine lv_iload_n hx hb d_M_dead_35 rfl (lv_at hl 1 rfl) ?_
      refine lv_iconst (v := 3) hx hb d_M_dead_36 (by decide) ?_
      refine mw_ast hx hb hK hP hD hS 6 (by unfold mw_as; decide) (j := i) rfl (m8 hI hi) d_M_dead_37 (fun H locs hP hD hS => ?_)
      obtain ⟨τ2, e_τ2⟩ : ∃ ζ, ζ = m_a τ1 6 i 3 := ⟨_, rfl⟩
      rw [← e_τ2] at hP hD
      have hI : m_ok n τ2.1 := by rw [e_τ2]; exact hI
      refine lv_aload_n hx hb d_M_dead_38 rfl (lv_at hl 0 rfl) ?_
      refine mw_get hx hb hts hown hK hP 10 (by decide) fl_M_34 (v := .ref (β 10)) rfl d_M_dead_39 ?_
      refine lv_iload_n hx hb d_M_dead_42 rfl (lv_at hl 1 rfl) ?_
      refine lv_iconst (v := (-1)) hx hb d_M_dead_43 (by decide) ?_
      refine mw_ast hx hb hK hP hD hS 10 (by unfold mw_as; decide) (j := i) rfl (m8 hI hi) d_M_dead_44 (fun H locs hP hD hS => ?_)
      obtain ⟨τ3, e_τ3⟩ : ∃ ζ, ζ = m_a τ2 10 i (-1) := ⟨_, rfl⟩
      rw [← e_τ3] at hP hD
      have hI : m_ok n τ3.1 := by rw [e_τ3]; exact hI
      refine lv_aload_n hx hb d_M_dead_45 rfl (lv_at hl 0 rfl) ?_
      refine lv_iload_n hx hb d_M_dead_46 rfl (lv_at hl 1 rfl) ?_
      refine r_calli (W.runV (As := [.int (nI i)]) (rest := []) ⟨hx, hb, hml, hown, hts⟩ (ct_M_held l D cI cQ β n τ3 hI (nI i)) (cwV 1 hts gd_M_65 rfl rfl rfl (by decide +kernel) ⟨Nat.le_of_ble_eq_true rfl, Nat.le_of_ble_eq_true rfl⟩) (g_preV hK hP hD (ci := 2) (q0 := 0) rfl mw_0) rfl rfl hl.1 rfl (lv_room (Nat.le_of_ble_eq_true rfl)) d_M_dead_47 ⟨Nat.le_refl _, Nat.le_refl _⟩) ?_
      refine r_calli (W.runS (As := [.int (mo_held τ3 (nI i))]) (rest := []) ⟨hx, hb, hml, hown, hts⟩ (ct_M_ones l (mo_held τ3 (nI i))) (cwS 1 hts gd_M_116 rfl rfl rfl (by decide +kernel) ⟨Nat.le_of_ble_eq_true rfl, Nat.le_of_ble_eq_true rfl⟩) preEq rfl rfl hl.1 rfl (lv_room (Nat.le_of_ble_eq_true rfl)) d_M_dead_50 ⟨Nat.le_refl _, Nat.le_refl _⟩) ?_
      exact g_reti hx hb hr hlocks (by rw [mo_dead, if_pos (by rw [← e_τ1]; exact c_26), e_τ3, e_τ2, e_τ1]) (by rw [mo_dead, if_pos (by rw [← e_τ1]; exact c_26), e_τ3, e_τ2, e_τ1]) hP hS d_M_dead_53
    · -- on 29
      refine lv_iconst (v := (-1)) hx hb d_M_dead_29 (by decide) ?_
      exact g_reti hx hb hr hlocks (by rw [mo_dead, if_neg (by rw [← e_τ1]; exact c_26)]) (by rw [mo_dead, if_neg (by rw [← e_τ1]; exact c_26), e_τ1]) hP hS d_M_dead_30
  · -- on 8
    exact absurd c_5 (by rw [mo_isd_nI hI hi]; decide)
end
section
set_option maxHeartbeats 4000000 in
set_option maxRecDepth 100000 in
theorem ct_M_tickN (l : Launch) (D : va_G) (cI cQ : ClassId) (β : Nat → Nat) (n : Nat) (τ : mS) (hI : m_ok n τ.1) (x : Int32) (hx0 : mo_in x (τ.1 19) 100000 = 0) : Met l y_M_tick w_M_tick { frames := 1, cells := 0, slots := 0, locals := 22 } (gPc D (kty cI cQ) (mw_w cI β τ) [.ref (β 0), .int x]) (gQi D (mw_al β) (0) (mw_w cI β (m_f τ 0 1))) 0 0 (gA (mw_al β)) := by
  refine Met.ofW (cc := b_M_tick) (maxL := 5) (ret := some .int) (by decide) rfl ?_
  intro p e s m args below meth c s₁ B hml hv
  obtain ⟨rfl, hP, hK, hD⟩ := hv
  have hx := B.exec
  have hb := B.bytes
  have hr := B.returns
  have hts : ∀ w ∈ kT, w.before [.ref (β 0), .int x].toArray s = true := fun w h => atoms_spec (ws := w_M_tick) B.pre w (List.mem_cons_of_mem _ h)
  have hown : s.vm.findClass R_M = some m.cls := findClass_of_methodNamed B.named
  have hlocks := B.notSynchronized
  have hD : va_D (gA (mw_al β)) (mw_w cI β τ) := gD mw_addr hD
  have hS : va_S (gA (mw_al β)) s.heap s.heap [] := va_S.rf
  have hl := lv_entry ([.ref (β 0), .int x]) (n := 5) (Nat.le_of_ble_eq_true rfl)
  rw [lg_entry_eq]
  generalize (lg_sl ([.ref (β 0), .int x]) ++ List.replicate (5 - (lg_sl ([.ref (β 0), .int x])).length) Slot.unset).toArray = ls at hl ⊢
  have hl : lv_has ls 5 [(0, .ref (β 0)), (1, .int x)] := hl
  refine lv_iload_n hx hb d_M_tick_0 rfl (lv_at hl 1 rfl) ?_
  refine lv_aload_n hx hb d_M_tick_1 rfl (lv_at hl 0 rfl) ?_
  refine mw_get hx hb hts hown hK hP 19 (by decide) fl_M_84 (v := .int (τ.1 19)) rfl d_M_tick_2 ?_
  refine lv_ldc (v := 100000) hx hb hown (hts _ kc_M_119) d_M_tick_5 ?_
  refine r_calli (W.runS (As := [.int x, .int (τ.1 19), .int 100000]) (rest := []) ⟨hx, hb, hml, hown, hts⟩ (ct_M_in l x (τ.1 19) 100000) (cwS 3 hts gd_M_53 rfl rfl rfl (by decide +kernel) ⟨Nat.le_of_ble_eq_true rfl, Nat.le_of_ble_eq_true rfl⟩) preEq rfl rfl hl.1 rfl (lv_room (Nat.le_of_ble_eq_true rfl)) d_M_tick_7 ⟨Nat.le_refl _, Nat.le_refl _⟩) ?_
  refine lv_if_ne (tgt := 19) hx hb d_M_tick_10 (by decide) (fun c_10 => ?_) (fun c_10 => ?_)
  · -- to 19
    exact absurd hx0 c_10
  · -- on 13
    refine lv_aload_n hx hb d_M_tick_13 rfl (lv_at hl 0 rfl) ?_
    refine lv_iconst (v := 1) hx hb d_M_tick_14 (by decide) ?_
    refine g_calli (va_runV (As := [.int 1]) (rest := []) ⟨hx, hb, hml, hown, hts⟩ (ct_M_refuse l D cI cQ β n τ hI 1) (cwV 1 hts gd_M_57 rfl rfl rfl (by decide +kernel) ⟨Nat.le_of_ble_eq_true rfl, Nat.le_of_ble_eq_true rfl⟩) (g_preV hK hP hD (ci := 2) (q0 := 0) rfl mw_0) rfl rfl hl.1 rfl (lv_room (Nat.le_of_ble_eq_true rfl)) d_M_tick_15 ⟨Nat.le_refl _, Nat.le_refl _⟩) hD hS (mw_addr.trans mw_addr.symm) (fun H locs hP hD hS => ?_)
    obtain ⟨τ1, e_τ1⟩ : ∃ ζ, ζ = m_f τ 0 1 := ⟨_, rfl⟩
    rw [← e_τ1] at hP hD
    have hI : m_ok n τ1.1 := by rw [e_τ1]; exact (m_ok_f hI (by decide))
    exact g_reti hx hb hr hlocks rfl (by rw [e_τ1]) hP hS d_M_tick_18

set_option maxHeartbeats 4000000 in
set_option maxRecDepth 100000 in
theorem ct_M_tick (l : Launch) (D : va_G) (cI cQ : ClassId) (β : Nat → Nat) (n : Nat) (τ : mS) (hI : m_ok n τ.1) (x : Int32) (hx0 : ¬ mo_in x (τ.1 19) 100000 = 0) (hh : ∀ j, j < 16 → (mo_tickp n (m_f (m_f τ 0 0) 19 x) j).2.2 8 j = -1 ∨ ∃ d, d < n ∧ (mo_tickp n (m_f (m_f τ 0 0) 19 x) j).2.2 8 j = nI d) : Met l y_M_tick w_M_tick { frames := 2, cells := 0, slots := 0, locals := 45 } (gPc D (kty cI cQ) (mw_w cI β τ) [.ref (β 0), .int x]) (gQi D (mw_al β) ((mo_tick n τ x).1) (mw_w cI β ((mo_tick n τ x).2))) 0 0 (gA (mw_al β)) := by
  refine Met.ofW (cc := b_M_tick) (maxL := 5) (ret := some .int) (by decide) rfl ?_
  intro p e s m args below meth c s₁ B hml hv
  obtain ⟨rfl, hP, hK, hD⟩ := hv
  have hx := B.exec
  have hb := B.bytes
  have hr := B.returns
  have hts : ∀ w ∈ kT, w.before [.ref (β 0), .int x].toArray s = true := fun w h => atoms_spec (ws := w_M_tick) B.pre w (List.mem_cons_of_mem _ h)
  have hown : s.vm.findClass R_M = some m.cls := findClass_of_methodNamed B.named
  have hlocks := B.notSynchronized
  have hD : va_D (gA (mw_al β)) (mw_w cI β τ) := gD mw_addr hD
  have hS : va_S (gA (mw_al β)) s.heap s.heap [] := va_S.rf
  have hl := lv_entry ([.ref (β 0), .int x]) (n := 5) (Nat.le_of_ble_eq_true rfl)
  rw [lg_entry_eq]
  generalize (lg_sl ([.ref (β 0), .int x]) ++ List.replicate (5 - (lg_sl ([.ref (β 0), .int x])).length) Slot.unset).toArray = ls at hl ⊢
  have hl : lv_has ls 5 [(0, .ref (β 0)), (1, .int x)] := hl
  refine lv_iload_n hx hb d_M_tick_0 rfl (lv_at hl 1 rfl) ?_
  refine lv_aload_n hx hb d_M_tick_1 rfl (lv_at hl 0 rfl) ?_
  refine mw_get hx hb hts hown hK hP 19 (by decide) fl_M_84 (v := .int (τ.1 19)) rfl d_M_tick_2 ?_
  refine lv_ldc (v := 100000) hx hb hown (hts _ kc_M_119) d_M_tick_5 ?_
  refine r_calli (W.runS (As := [.int x, .int (τ.1 19), .int 100000]) (rest := []) ⟨hx, hb, hml, hown, hts⟩ (ct_M_in l x (τ.1 19) 100000) (cwS 3 hts gd_M_53 rfl rfl rfl (by decide +kernel) ⟨Nat.le_of_ble_eq_true rfl, Nat.le_of_ble_eq_true rfl⟩) preEq rfl rfl hl.1 rfl (lv_room (Nat.le_of_ble_eq_true rfl)) d_M_tick_7 ⟨Nat.le_refl _, Nat.le_refl _⟩) ?_
  refine lv_if_ne (tgt := 19) hx hb d_M_tick_10 (by decide) (fun c_10 => ?_) (fun c_10 => ?_)
  · -- to 19
    refine lv_aload_n hx hb d_M_tick_19 rfl (lv_at hl 0 rfl) ?_
    refine lv_iconst (v := 0) hx hb d_M_tick_20 (by decide) ?_
    refine mw_put hx hb hts hown hK hP hD hS 0 (by unfold mw_is; decide) fl_M_46 rfl rfl rfl d_M_tick_21 (fun H locs hP hD hS => ?_)
    obtain ⟨τ1, e_τ1⟩ : ∃ ζ, ζ = m_f τ 0 0 := ⟨_, rfl⟩
    rw [← e_τ1] at hP hD
    have hI : m_ok n τ1.1 := by rw [e_τ1]; exact (m_ok_f hI (by decide))
    refine lv_aload_n hx hb d_M_tick_24 rfl (lv_at hl 0 rfl) ?_
    refine lv_iload_n hx hb d_M_tick_25 rfl (lv_at hl 1 rfl) ?_
    refine mw_put hx hb hts hown hK hP hD hS 19 (by unfold mw_is; decide) fl_M_84 rfl rfl rfl d_M_tick_26 (fun H locs hP hD hS => ?_)
    obtain ⟨τ2, e_τ2⟩ : ∃ ζ, ζ = m_f τ1 19 x := ⟨_, rfl⟩
    rw [← e_τ2] at hP hD
    have hI : m_ok n τ2.1 := by rw [e_τ2]; exact (m_ok_f hI (by decide))
    refine lv_iconst (v := 0) hx hb d_M_tick_29 (by decide) ?_
    refine lv_istore_n (lv' := [(2, .int 0), (0, .ref (β 0)), (1, .int x)]) hx hb d_M_tick_30 rfl hl (by decide) rfl (fun ls hl => ?_)
    refine lv_iconst (v := 0) hx hb d_M_tick_31 (by decide) ?_
    refine lv_istore_n (lv' := [(3, .int 0), (2, .int 0), (0, .ref (β 0)), (1, .int x)]) hx hb d_M_tick_32 rfl hl (by decide) rfl (fun ls hl => ?_)
    have lp33 : ∀ (fu j : Nat) (acc : Int32) (ς : mS) (H : Heap) (locs : List Loc) (ls : Array Slot), j ≤ 16 → 16 - j < fu → acc = (mo_tickp n τ2 j).1 → ς = (mo_tickp n τ2 j).2 → va_P D kcl (mw_w cI β ς) H → va_D (gA (mw_al β)) (mw_w cI β ς) → va_S (gA (mw_al β)) s.heap H locs → lv_has ls 5 [(3, .int (nI j)), (2, .int acc), (0, .ref (β 0)), (1, .int x)] → W p l e (headSpec w_M_tick { frames := 2, cells := 0, slots := 0, locals := 45 }).room s m [.ref (β 0), .int x].toArray below meth c H locs 0 0 (MQ below (gQi D (mw_al β) ((mo_tick n τ x).1) (mw_w cI β ((mo_tick n τ x).2))) [.ref (β 0), .int x].toArray s 0 0 (gA (mw_al β))) (F0 m 33 ls []) := by
      intro fu
      induction fu with
      | zero => intro j acc ς H locs ls h1 h2; omega
      | succ fu ih =>
        intro j acc ς H locs ls hj33 hf33 e_acc  e_ς hP hD hS hl
        have hI : m_ok n ς.1 := by rw [e_ς, mo_tickp_1]; exact hI
        refine lv_iload_n hx hb d_M_tick_33 rfl (lv_at hl 0 rfl) ?_
        refine lv_bipush (v := 16) hx hb d_M_tick_34 (by decide) ?_
        refine lv_icmp_ge (tgt := 93) hx hb d_M_tick_36 (by decide) (fun c_36 => ?_) (fun c_36 => ?_)
        · -- to 93
          have hx33 : j = 16 := lp_eq (B := 16) (hn := (by decide)) c_36 hj33
          subst hx33
          refine lv_iload_n hx hb d_M_tick_93 rfl (lv_at hl 1 rfl) ?_
          exact g_reti hx hb hr hlocks (by rw [e_acc, e_τ2, e_τ1]; rfl) (by rw [e_ς, e_τ2, e_τ1]; rfl) hP hS d_M_tick_94
        · -- on 39
          have hl33 : j < 16 := lp_lt (B := 16) (hn := (by decide)) c_36 hj33
          refine lv_aload_n hx hb d_M_tick_39 rfl (lv_at hl 2 rfl) ?_
          refine mw_get hx hb hts hown hK hP 8 (by decide) fl_M_28 (v := .ref (β 8)) rfl d_M_tick_40 ?_
          refine lv_iload_n hx hb d_M_tick_43 rfl (lv_at hl 0 rfl) ?_
          refine mw_ald hx hb hK hP 8 (by unfold mw_as; decide) (j := j) rfl hl33 d_M_tick_44 ?_
          refine lv_istore (lv' := [(4, .int (ς.2 8 j)), (3, .int (nI j)), (2, .int acc), (0, .ref (β 0)), (1, .int x)]) hx hb d_M_tick_45 hl (by decide) rfl (fun ls hl => ?_)
          refine lv_iload hx hb d_M_tick_47 (lv_at hl 0 rfl) ?_
          refine lv_if_lt (tgt := 87) hx hb d_M_tick_49 (by decide) (fun c_49 => ?_) (fun c_49 => ?_)
          · -- to 87
            refine lv_iinc (v := nI (j + 1)) (lv' := [(3, .int (nI (j + 1))), (4, .int (ς.2 8 j)), (2, .int acc), (0, .ref (β 0)), (1, .int x)]) hx hb d_M_tick_87 hl (k := 1) rfl (nI_1 j) (by decide) rfl (fun ls hl => ?_)
            refine lv_goto (tgt := 33) hx hb d_M_tick_90 (by decide) ?_
            have ho : mo_over ς j = 0 := by simp [mo_over, c_49]
            exact ih (j + 1) acc _ _ _ ls (by omega) (by omega) (by rw [mo_tickp, ← e_ς, if_pos ho]; exact e_acc) (by rw [mo_tickp, ← e_ς, if_pos ho]; exact e_ς) hP hD hS (lv_sub hl [0, 2, 3, 4] rfl)
          · -- on 52
            refine lv_aload_n hx hb d_M_tick_52 rfl (lv_at hl 3 rfl) ?_
            refine mw_get hx hb hts hown hK hP 6 (by decide) fl_M_22 (v := .ref (β 6)) rfl d_M_tick_53 ?_
            refine lv_iload hx hb d_M_tick_56 (lv_at hl 0 rfl) ?_
            refine mw_ald hx hb hK hP 6 (by unfold mw_as; decide) (j := (ς.2 8 j).toNatClampNeg) (ix_e c_49) (h8_ix hI c_49 (by rw [e_ς, e_τ2, e_τ1]; exact hh j hl33)) d_M_tick_58 ?_
            refine lv_iconst (v := 3) hx hb d_M_tick_59 (by decide) ?_
            refine lv_icmp_ne (tgt := 87) hx hb d_M_tick_60 (by decide) (fun c_60 => ?_) (fun c_60 => ?_)
            · -- to 87
              refine lv_iinc (v := nI (j + 1)) (lv' := [(3, .int (nI (j + 1))), (4, .int (ς.2 8 j)), (2, .int acc), (0, .ref (β 0)), (1, .int x)]) hx hb d_M_tick_87 hl (k := 1) rfl (nI_1 j) (by decide) rfl (fun ls hl => ?_)
              refine lv_goto (tgt := 33) hx hb d_M_tick_90 (by decide) ?_
              have ho : mo_over ς j = 0 := by simp [mo_over, c_49, c_60]
              exact ih (j + 1) acc _ _ _ ls (by omega) (by omega) (by rw [mo_tickp, ← e_ς, if_pos ho]; exact e_acc) (by rw [mo_tickp, ← e_ς, if_pos ho]; exact e_ς) hP hD hS (lv_sub hl [0, 2, 3, 4] rfl)
            · -- on 63
              refine lv_aload_n hx hb d_M_tick_63 rfl (lv_at hl 3 rfl) ?_
              refine mw_get hx hb hts hown hK hP 19 (by decide) fl_M_84 (v := .int (ς.1 19)) rfl d_M_tick_64 ?_
              refine lv_aload_n hx hb d_M_tick_67 rfl (lv_at hl 3 rfl) ?_
              refine mw_get hx hb hts hown hK hP 9 (by decide) fl_M_31 (v := .ref (β 9)) rfl d_M_tick_68 ?_
              refine lv_iload_n hx hb d_M_tick_71 rfl (lv_at hl 1 rfl) ?_
              refine mw_ald hx hb hK hP 9 (by unfold mw_as; decide) (j := j) rfl hl33 d_M_tick_72 ?_
              refine lv_isub hx hb d_M_tick_73 ?_
              refine lv_bipush (v := 100) hx hb d_M_tick_74 (by decide) ?_
              refine lv_icmp_le (tgt := 87) hx hb d_M_tick_76 (by decide) (fun c_76 => ?_) (fun c_76 => ?_)
              · -- to 87
                refine lv_iinc (v := nI (j + 1)) (lv' := [(3, .int (nI (j + 1))), (4, .int (ς.2 8 j)), (2, .int acc), (0, .ref (β 0)), (1, .int x)]) hx hb d_M_tick_87 hl (k := 1) rfl (nI_1 j) (by decide) rfl (fun ls hl => ?_)
                refine lv_goto (tgt := 33) hx hb d_M_tick_90 (by decide) ?_
                have ho : mo_over ς j = 0 := by simp [mo_over, c_49, c_60, c_76]
                exact ih (j + 1) acc _ _ _ ls (by omega) (by omega) (by rw [mo_tickp, ← e_ς, if_pos ho]; exact e_acc) (by rw [mo_tickp, ← e_ς, if_pos ho]; exact e_ς) hP hD hS (lv_sub hl [0, 2, 3, 4] rfl)
              · -- on 79
                refine lv_aload_n hx hb d_M_tick_79 rfl (lv_at hl 3 rfl) ?_
                refine lv_iload_n hx hb d_M_tick_80 rfl (lv_at hl 1 rfl) ?_
                refine g_callv (va_runV (As := [.int (nI j)]) (rest := []) ⟨hx, hb, hml, hown, hts⟩ (ct_M_giveBack l D cI cQ β n ς hI j hl33) (cwV 1 hts gd_M_87 rfl rfl rfl (by decide +kernel) ⟨Nat.le_of_ble_eq_true rfl, Nat.le_of_ble_eq_true rfl⟩) (g_preV hK hP hD (ci := 2) (q0 := 0) rfl mw_0) rfl rfl hl.1 rfl (lv_room (Nat.le_of_ble_eq_true rfl)) d_M_tick_81 ⟨Nat.le_refl _, Nat.le_refl _⟩) hD hS (mw_addr.trans mw_addr.symm) (fun H locs hP hD hS => ?_)
                obtain ⟨τ3, e_τ3⟩ : ∃ ζ, ζ = mo_gb n ς j := ⟨_, rfl⟩
                rw [← e_τ3] at hP hD
                have hI : m_ok n τ3.1 := by rw [e_τ3]; exact (by rw [mo_gb_1]; exact hI)
                refine lv_iinc (v := acc + 1) (lv' := [(2, .int (acc + 1)), (4, .int (ς.2 8 j)), (3, .int (nI j)), (0, .ref (β 0)), (1, .int x)]) hx hb d_M_tick_84 hl (k := 2) rfl rfl (by decide) rfl (fun ls hl => ?_)
                refine lv_iinc (v := nI (j + 1)) (lv' := [(3, .int (nI (j + 1))), (2, .int (acc + 1)), (4, .int (ς.2 8 j)), (0, .ref (β 0)), (1, .int x)]) hx hb d_M_tick_87 hl (k := 2) rfl (nI_1 j) (by decide) rfl (fun ls hl => ?_)
                refine lv_goto (tgt := 33) hx hb d_M_tick_90 (by decide) ?_
                have ho : ¬ mo_over ς j = 0 := by simp [mo_over, c_49, c_60, c_76]
                exact ih (j + 1) (acc + 1) _ _ _ ls (by omega) (by omega) (by rw [mo_tickp, ← e_ς, if_neg ho]; exact congrArg (fun z => z + 1) e_acc) (by rw [e_τ3, mo_tickp, ← e_ς, if_neg ho]) hP hD hS (lv_sub hl [0, 1, 3, 4] rfl)
    exact lp33 (16 - 0 + 1) 0 _ _ _ _ ls (by omega) (by omega) rfl  rfl hP hD hS (lv_sub hl [0, 1, 2, 3] rfl)
  · -- on 13
    exact absurd c_10 hx0

set_option maxHeartbeats 4000000 in
set_option maxRecDepth 100000 in
theorem ct_M_close (l : Launch) (D : va_G) (cI cQ : ClassId) (β : Nat → Nat) (n : Nat) (τ : mS) (hI : m_ok n τ.1)  : Met l y_M_close w_M_close { frames := 3, cells := 0, slots := 0, locals := 68 } (gPc D (kty cI cQ) (mw_w cI β τ) [.ref (β 0)]) (gQi D (mw_al β) ((mo_close n τ).1) (mw_w cI β ((mo_close n τ).2))) 0 0 (gA (mw_al β)) := by
  refine Met.ofW (cc := b_M_close) (maxL := 3) (ret := some .int) (by decide) rfl ?_
  intro p e s m args below meth c s₁ B hml hv
  obtain ⟨rfl, hP, hK, hD⟩ := hv
  have hx := B.exec
  have hb := B.bytes
  have hr := B.returns
  have hts : ∀ w ∈ kT, w.before [.ref (β 0)].toArray s = true := fun w h => atoms_spec (ws := w_M_close) B.pre w (List.mem_cons_of_mem _ h)
  have hown : s.vm.findClass R_M = some m.cls := findClass_of_methodNamed B.named
  have hlocks := B.notSynchronized
  have hD : va_D (gA (mw_al β)) (mw_w cI β τ) := gD mw_addr hD
  have hS : va_S (gA (mw_al β)) s.heap s.heap [] := va_S.rf
  have hl := lv_entry ([.ref (β 0)]) (n := 3) (Nat.le_of_ble_eq_true rfl)
  rw [lg_entry_eq]
  generalize (lg_sl ([.ref (β 0)]) ++ List.replicate (3 - (lg_sl ([.ref (β 0)])).length) Slot.unset).toArray = ls at hl ⊢
  have hl : lv_has ls 3 [(0, .ref (β 0))] := hl
  refine lv_aload_n hx hb d_M_close_0 rfl (lv_at hl 0 rfl) ?_
  refine lv_iconst (v := 0) hx hb d_M_close_1 (by decide) ?_
  refine mw_put hx hb hts hown hK hP hD hS 0 (by unfold mw_is; decide) fl_M_46 rfl rfl rfl d_M_close_2 (fun H locs hP hD hS => ?_)
  obtain ⟨τ1, e_τ1⟩ : ∃ ζ, ζ = m_f τ 0 0 := ⟨_, rfl⟩
  rw [← e_τ1] at hP hD
  have hI : m_ok n τ1.1 := by rw [e_τ1]; exact (m_ok_f hI (by decide))
  refine lv_aload_n hx hb d_M_close_5 rfl (lv_at hl 0 rfl) ?_
  refine mw_get hx hb hts hown hK hP 20 (by decide) fl_M_61 (v := .int (τ1.1 20)) rfl d_M_close_6 ?_
  refine lv_if_eq (tgt := 14) hx hb d_M_close_9 (by decide) (fun c_9 => ?_) (fun c_9 => ?_)
  · -- to 14
    refine lv_aload_n hx hb d_M_close_14 rfl (lv_at hl 0 rfl) ?_
    refine lv_iconst (v := 1) hx hb d_M_close_15 (by decide) ?_
    refine mw_put hx hb hts hown hK hP hD hS 20 (by unfold mw_is; decide) fl_M_61 rfl (by decide +kernel) (by decide +kernel) d_M_close_16 (fun H locs hP hD hS => ?_)
    obtain ⟨τ2, e_τ2⟩ : ∃ ζ, ζ = m_f τ1 20 1 := ⟨_, rfl⟩
    rw [← e_τ2] at hP hD
    have hI : m_ok n τ2.1 := by rw [e_τ2]; exact (m_ok_f hI (by decide))
    refine lv_iconst (v := 0) hx hb d_M_close_19 (by decide) ?_
    refine lv_istore_n (lv' := [(1, .int 0), (0, .ref (β 0))]) hx hb d_M_close_20 rfl hl (by decide) rfl (fun ls hl => ?_)
    refine lv_iconst (v := 0) hx hb d_M_close_21 (by decide) ?_
    refine lv_istore_n (lv' := [(2, .int 0), (1, .int 0), (0, .ref (β 0))]) hx hb d_M_close_22 rfl hl (by decide) rfl (fun ls hl => ?_)
    have lp23 : ∀ (fu j : Nat) (acc : Int32) (ς : mS) (H : Heap) (locs : List Loc) (ls : Array Slot), j ≤ n → n - j < fu → acc = (mo_closep n τ2 j).1 → ς = (mo_closep n τ2 j).2 → va_P D kcl (mw_w cI β ς) H → va_D (gA (mw_al β)) (mw_w cI β ς) → va_S (gA (mw_al β)) s.heap H locs → lv_has ls 3 [(2, .int (nI j)), (1, .int acc), (0, .ref (β 0))] → W p l e (headSpec w_M_close { frames := 3, cells := 0, slots := 0, locals := 68 }).room s m [.ref (β 0)].toArray below meth c H locs 0 0 (MQ below (gQi D (mw_al β) ((mo_close n τ).1) (mw_w cI β ((mo_close n τ).2))) [.ref (β 0)].toArray s 0 0 (gA (mw_al β))) (F0 m 23 ls []) := by
      intro fu
      induction fu with
      | zero => intro j acc ς H locs ls h1 h2; omega
      | succ fu ih =>
        intro j acc ς H locs ls hj23 hf23 e_acc  e_ς hP hD hS hl
        have hI : m_ok n ς.1 := by rw [e_ς]; exact m_ok_closep hI _
        refine lv_iload_n hx hb d_M_close_23 rfl (lv_at hl 0 rfl) ?_
        refine lv_aload_n hx hb d_M_close_24 rfl (lv_at hl 2 rfl) ?_
        refine mw_get hx hb hts hown hK hP 1 (by decide) fl_M_50 (v := .int (ς.1 1)) rfl d_M_close_25 ?_
        refine lv_icmp_ge (tgt := 83) hx hb d_M_close_28 (by decide) (fun c_28 => ?_) (fun c_28 => ?_)
        · -- to 83
          have hx23 : j = n := mp_eqI hI c_28 hj23
          rw [hx23] at e_acc e_ς
          refine lv_iload_n hx hb d_M_close_83 rfl (lv_at hl 1 rfl) ?_
          exact g_reti hx hb hr hlocks (by rw [mo_close, if_pos (by rw [← e_τ1]; exact c_9), e_acc, e_τ2, e_τ1]) (by rw [mo_close, if_pos (by rw [← e_τ1]; exact c_9), e_ς, e_τ2, e_τ1]) hP hS d_M_close_84
        · -- on 31
          have hl23 : j < n := mp_ltI hI c_28 hj23
          refine lv_aload_n hx hb d_M_close_31 rfl (lv_at hl 2 rfl) ?_
          refine mw_get hx hb hts hown hK hP 6 (by decide) fl_M_22 (v := .ref (β 6)) rfl d_M_close_32 ?_
          refine lv_iload_n hx hb d_M_close_35 rfl (lv_at hl 0 rfl) ?_
          refine mw_ald hx hb hK hP 6 (by unfold mw_as; decide) (j := j) rfl (m8 hI hl23) d_M_close_36 ?_
          refine lv_iconst (v := 2) hx hb d_M_close_37 (by decide) ?_
          refine lv_icmp_eq (tgt := 77) hx hb d_M_close_38 (by decide) (fun c_38 => ?_) (fun c_38 => ?_)
          · -- to 77
            refine lv_iinc (v := nI (j + 1)) (lv' := [(2, .int (nI (j + 1))), (1, .int acc), (0, .ref (β 0))]) hx hb d_M_close_77 hl (k := 0) rfl (nI_1 j) (by decide) rfl (fun ls hl => ?_)
            refine lv_goto (tgt := 23) hx hb d_M_close_80 (by decide) ?_
            exact ih (j + 1) acc _ _ _ ls (by omega) (by omega) (by rw [mo_closep, ← e_ς, if_pos c_38]; exact e_acc) (by rw [mo_closep, ← e_ς, if_pos c_38]; exact e_ς) hP hD hS (lv_sub hl [0, 1, 2] rfl)
          · -- on 41
            refine lv_aload_n hx hb d_M_close_41 rfl (lv_at hl 2 rfl) ?_
            refine lv_iload_n hx hb d_M_close_42 rfl (lv_at hl 0 rfl) ?_
            refine r_calli (W.runV (As := [.int (nI j)]) (rest := []) ⟨hx, hb, hml, hown, hts⟩ (ct_M_isMidst l D cI cQ β n ς hI j hl23) (cwV 1 hts gd_M_75 rfl rfl rfl (by decide +kernel) ⟨Nat.le_of_ble_eq_true rfl, Nat.le_of_ble_eq_true rfl⟩) (g_preV hK hP hD (ci := 2) (q0 := 0) rfl mw_0) rfl rfl hl.1 rfl (lv_room (Nat.le_of_ble_eq_true rfl)) d_M_close_43 ⟨Nat.le_refl _, Nat.le_refl _⟩) ?_
            refine lv_if_eq (tgt := 55) hx hb d_M_close_46 (by decide) (fun c_46 => ?_) (fun c_46 => ?_)
            · -- to 55
              refine lv_aload_n hx hb d_M_close_55 rfl (lv_at hl 2 rfl) ?_
              refine mw_get hx hb hts hown hK hP 6 (by decide) fl_M_22 (v := .ref (β 6)) rfl d_M_close_56 ?_
              refine lv_iload_n hx hb d_M_close_59 rfl (lv_at hl 0 rfl) ?_
              refine lv_iconst (v := 4) hx hb d_M_close_60 (by decide) ?_
              refine mw_ast hx hb hK hP hD hS 6 (by unfold mw_as; decide) (j := j) rfl (m8 hI hl23) d_M_close_61 (fun H locs hP hD hS => ?_)
              obtain ⟨τ3, e_τ3⟩ : ∃ ζ, ζ = m_a ς 6 j 4 := ⟨_, rfl⟩
              rw [← e_τ3] at hP hD
              have hI : m_ok n τ3.1 := by rw [e_τ3]; exact hI
              refine lv_aload_n hx hb d_M_close_62 rfl (lv_at hl 2 rfl) ?_
              refine mw_get hx hb hts hown hK hP 10 (by decide) fl_M_34 (v := .ref (β 10)) rfl d_M_close_63 ?_
              refine lv_iload_n hx hb d_M_close_66 rfl (lv_at hl 0 rfl) ?_
              refine lv_iconst (v := (-1)) hx hb d_M_close_67 (by decide) ?_
              refine mw_ast hx hb hK hP hD hS 10 (by unfold mw_as; decide) (j := j) rfl (m8 hI hl23) d_M_close_68 (fun H locs hP hD hS => ?_)
              obtain ⟨τ4, e_τ4⟩ : ∃ ζ, ζ = m_a τ3 10 j (-1) := ⟨_, rfl⟩
              rw [← e_τ4] at hP hD
              have hI : m_ok n τ4.1 := by rw [e_τ4]; exact hI
              refine lv_aload_n hx hb d_M_close_69 rfl (lv_at hl 2 rfl) ?_
              refine lv_iload_n hx hb d_M_close_70 rfl (lv_at hl 0 rfl) ?_
              refine g_callv (va_runV (As := [.int (nI j)]) (rest := []) ⟨hx, hb, hml, hown, hts⟩ (ct_M_giveAll l D cI cQ β n τ4 hI j hl23) (cwV 1 hts gd_M_98 rfl rfl rfl (by decide +kernel) ⟨Nat.le_of_ble_eq_true rfl, Nat.le_of_ble_eq_true rfl⟩) (g_preV hK hP hD (ci := 2) (q0 := 0) rfl mw_0) rfl rfl hl.1 rfl (lv_room (Nat.le_of_ble_eq_true rfl)) d_M_close_71 ⟨Nat.le_refl _, Nat.le_refl _⟩) hD hS (mw_addr.trans mw_addr.symm) (fun H locs hP hD hS => ?_)
              obtain ⟨τ5, e_τ5⟩ : ∃ ζ, ζ = mo_ga n τ4 j := ⟨_, rfl⟩
              rw [← e_τ5] at hP hD
              have hI : m_ok n τ5.1 := by rw [e_τ5]; exact (by rw [mo_ga_1]; exact hI)
              refine lv_iinc (v := acc + 1) (lv' := [(1, .int (acc + 1)), (2, .int (nI j)), (0, .ref (β 0))]) hx hb d_M_close_74 hl (k := 1) rfl rfl (by decide) rfl (fun ls hl => ?_)
              refine lv_iinc (v := nI (j + 1)) (lv' := [(2, .int (nI (j + 1))), (1, .int (acc + 1)), (0, .ref (β 0))]) hx hb d_M_close_77 hl (k := 1) rfl (nI_1 j) (by decide) rfl (fun ls hl => ?_)
              refine lv_goto (tgt := 23) hx hb d_M_close_80 (by decide) ?_
              exact ih (j + 1) (acc + 1) _ _ _ ls (by omega) (by omega) (by rw [mo_closep, ← e_ς, if_neg c_38]; exact congrArg (fun z => z + 1) e_acc) (by rw [e_τ5, e_τ4, e_τ3, mo_closep, ← e_ς, if_neg c_38, mo_end, if_pos c_46]) hP hD hS (lv_sub hl [0, 1, 2] rfl)
            · -- on 49
              refine lv_aload_n hx hb d_M_close_49 rfl (lv_at hl 2 rfl) ?_
              refine lv_iconst (v := 4) hx hb d_M_close_50 (by decide) ?_
              refine lv_iload_n hx hb d_M_close_51 rfl (lv_at hl 0 rfl) ?_
              refine g_callv (va_runV (As := [.int 4, .int (nI j)]) (rest := []) ⟨hx, hb, hml, hown, hts⟩ (ct_M_write l D cI cQ β n ς hI 4 j hl23) (cwV 2 hts gd_M_94 rfl rfl rfl (by decide +kernel) ⟨Nat.le_of_ble_eq_true rfl, Nat.le_of_ble_eq_true rfl⟩) (g_preV hK hP hD (ci := 2) (q0 := 0) rfl mw_0) rfl rfl hl.1 rfl (lv_room (Nat.le_of_ble_eq_true rfl)) d_M_close_52 ⟨Nat.le_refl _, Nat.le_refl _⟩) hD hS (mw_addr.trans mw_addr.symm) (fun H locs hP hD hS => ?_)
              obtain ⟨τ6, e_τ6⟩ : ∃ ζ, ζ = mo_write ς 4 j := ⟨_, rfl⟩
              rw [← e_τ6] at hP hD
              have hI : m_ok n τ6.1 := by rw [e_τ6]; exact (m_ok_write hI)
              refine lv_aload_n hx hb d_M_close_55 rfl (lv_at hl 2 rfl) ?_
              refine mw_get hx hb hts hown hK hP 6 (by decide) fl_M_22 (v := .ref (β 6)) rfl d_M_close_56 ?_
              refine lv_iload_n hx hb d_M_close_59 rfl (lv_at hl 0 rfl) ?_
              refine lv_iconst (v := 4) hx hb d_M_close_60 (by decide) ?_
              refine mw_ast hx hb hK hP hD hS 6 (by unfold mw_as; decide) (j := j) rfl (m8 hI hl23) d_M_close_61 (fun H locs hP hD hS => ?_)
              obtain ⟨τ7, e_τ7⟩ : ∃ ζ, ζ = m_a τ6 6 j 4 := ⟨_, rfl⟩
              rw [← e_τ7] at hP hD
              have hI : m_ok n τ7.1 := by rw [e_τ7]; exact hI
              refine lv_aload_n hx hb d_M_close_62 rfl (lv_at hl 2 rfl) ?_
              refine mw_get hx hb hts hown hK hP 10 (by decide) fl_M_34 (v := .ref (β 10)) rfl d_M_close_63 ?_
              refine lv_iload_n hx hb d_M_close_66 rfl (lv_at hl 0 rfl) ?_
              refine lv_iconst (v := (-1)) hx hb d_M_close_67 (by decide) ?_
              refine mw_ast hx hb hK hP hD hS 10 (by unfold mw_as; decide) (j := j) rfl (m8 hI hl23) d_M_close_68 (fun H locs hP hD hS => ?_)
              obtain ⟨τ8, e_τ8⟩ : ∃ ζ, ζ = m_a τ7 10 j (-1) := ⟨_, rfl⟩
              rw [← e_τ8] at hP hD
              have hI : m_ok n τ8.1 := by rw [e_τ8]; exact hI
              refine lv_aload_n hx hb d_M_close_69 rfl (lv_at hl 2 rfl) ?_
              refine lv_iload_n hx hb d_M_close_70 rfl (lv_at hl 0 rfl) ?_
              refine g_callv (va_runV (As := [.int (nI j)]) (rest := []) ⟨hx, hb, hml, hown, hts⟩ (ct_M_giveAll l D cI cQ β n τ8 hI j hl23) (cwV 1 hts gd_M_98 rfl rfl rfl (by decide +kernel) ⟨Nat.le_of_ble_eq_true rfl, Nat.le_of_ble_eq_true rfl⟩) (g_preV hK hP hD (ci := 2) (q0 := 0) rfl mw_0) rfl rfl hl.1 rfl (lv_room (Nat.le_of_ble_eq_true rfl)) d_M_close_71 ⟨Nat.le_refl _, Nat.le_refl _⟩) hD hS (mw_addr.trans mw_addr.symm) (fun H locs hP hD hS => ?_)
              obtain ⟨τ9, e_τ9⟩ : ∃ ζ, ζ = mo_ga n τ8 j := ⟨_, rfl⟩
              rw [← e_τ9] at hP hD
              have hI : m_ok n τ9.1 := by rw [e_τ9]; exact (by rw [mo_ga_1]; exact hI)
              refine lv_iinc (v := acc + 1) (lv' := [(1, .int (acc + 1)), (2, .int (nI j)), (0, .ref (β 0))]) hx hb d_M_close_74 hl (k := 1) rfl rfl (by decide) rfl (fun ls hl => ?_)
              refine lv_iinc (v := nI (j + 1)) (lv' := [(2, .int (nI (j + 1))), (1, .int (acc + 1)), (0, .ref (β 0))]) hx hb d_M_close_77 hl (k := 1) rfl (nI_1 j) (by decide) rfl (fun ls hl => ?_)
              refine lv_goto (tgt := 23) hx hb d_M_close_80 (by decide) ?_
              exact ih (j + 1) (acc + 1) _ _ _ ls (by omega) (by omega) (by rw [mo_closep, ← e_ς, if_neg c_38]; exact congrArg (fun z => z + 1) e_acc) (by rw [e_τ9, e_τ8, e_τ7, e_τ6, mo_closep, ← e_ς, if_neg c_38, mo_end, if_neg c_46]) hP hD hS (lv_sub hl [0, 1, 2] rfl)
    exact lp23 (n - 0 + 1) 0 _ _ _ _ ls (by omega) (by omega) rfl  rfl hP hD hS (lv_sub hl [0, 1, 2] rfl)
  · -- on 12
    refine lv_iconst (v := (-1)) hx hb d_M_close_12 (by decide) ?_
    exact g_reti hx hb hr hlocks (by rw [mo_close, if_neg (by rw [← e_τ1]; exact c_9)]) (by rw [mo_close, if_neg (by rw [← e_τ1]; exact c_9), e_τ1]) hP hS d_M_close_13
end
section
set_option maxHeartbeats 4000000 in
set_option maxRecDepth 100000 in
theorem ct_M_lookN (l : Launch) (D : va_G) (cI cQ : ClassId) (β : Nat → Nat) (n : Nat) (τ : mS) (hI : m_ok n τ.1) (x y : Int32) (hx0 : mo_isd τ x = 0 ∨ mo_in y 0 4 = 0) : Met l y_M_look w_M_look { frames := 1, cells := 0, slots := 0, locals := 23 } (gPc D (kty cI cQ) (mw_w cI β τ) [.ref (β 0), .int x, .int y]) (gQi D (mw_al β) (0) (mw_w cI β (m_f τ 0 1))) 0 0 (gA (mw_al β)) := by
  refine Met.ofW (cc := b_M_look) (maxL := 3) (ret := some .int) (by decide) rfl ?_
  intro p e s m args below meth c s₁ B hml hv
  obtain ⟨rfl, hP, hK, hD⟩ := hv
  have hx := B.exec
  have hb := B.bytes
  have hr := B.returns
  have hts : ∀ w ∈ kT, w.before [.ref (β 0), .int x, .int y].toArray s = true := fun w h => atoms_spec (ws := w_M_look) B.pre w (List.mem_cons_of_mem _ h)
  have hown : s.vm.findClass R_M = some m.cls := findClass_of_methodNamed B.named
  have hlocks := B.notSynchronized
  have hD : va_D (gA (mw_al β)) (mw_w cI β τ) := gD mw_addr hD
  have hS : va_S (gA (mw_al β)) s.heap s.heap [] := va_S.rf
  have hl := lv_entry ([.ref (β 0), .int x, .int y]) (n := 3) (Nat.le_of_ble_eq_true rfl)
  rw [lg_entry_eq]
  generalize (lg_sl ([.ref (β 0), .int x, .int y]) ++ List.replicate (3 - (lg_sl ([.ref (β 0), .int x, .int y])).length) Slot.unset).toArray = ls at hl ⊢
  have hl : lv_has ls 3 [(0, .ref (β 0)), (1, .int x), (2, .int y)] := hl
  refine lv_aload_n hx hb d_M_look_0 rfl (lv_at hl 0 rfl) ?_
  refine lv_iload_n hx hb d_M_look_1 rfl (lv_at hl 1 rfl) ?_
  refine r_calli (W.runV (As := [.int x]) (rest := []) ⟨hx, hb, hml, hown, hts⟩ (ct_M_isDesk l D cI cQ β n τ hI x) (cwV 1 hts gd_M_68 rfl rfl rfl (by decide +kernel) ⟨Nat.le_of_ble_eq_true rfl, Nat.le_of_ble_eq_true rfl⟩) (g_preV hK hP hD (ci := 2) (q0 := 0) rfl mw_0) rfl rfl hl.1 rfl (lv_room (Nat.le_of_ble_eq_true rfl)) d_M_look_2 ⟨Nat.le_refl _, Nat.le_refl _⟩) ?_
  refine lv_if_eq (tgt := 17) hx hb d_M_look_5 (by decide) (fun c_5 => ?_) (fun c_5 => ?_)
  · -- to 17
    refine lv_aload_n hx hb d_M_look_17 rfl (lv_at hl 0 rfl) ?_
    refine lv_iconst (v := 1) hx hb d_M_look_18 (by decide) ?_
    refine g_calli (va_runV (As := [.int 1]) (rest := []) ⟨hx, hb, hml, hown, hts⟩ (ct_M_refuse l D cI cQ β n τ hI 1) (cwV 1 hts gd_M_57 rfl rfl rfl (by decide +kernel) ⟨Nat.le_of_ble_eq_true rfl, Nat.le_of_ble_eq_true rfl⟩) (g_preV hK hP hD (ci := 2) (q0 := 0) rfl mw_0) rfl rfl hl.1 rfl (lv_room (Nat.le_of_ble_eq_true rfl)) d_M_look_19 ⟨Nat.le_refl _, Nat.le_refl _⟩) hD hS (mw_addr.trans mw_addr.symm) (fun H locs hP hD hS => ?_)
    obtain ⟨τ1, e_τ1⟩ : ∃ ζ, ζ = m_f τ 0 1 := ⟨_, rfl⟩
    rw [← e_τ1] at hP hD
    have hI : m_ok n τ1.1 := by rw [e_τ1]; exact (m_ok_f hI (by decide))
    exact g_reti hx hb hr hlocks rfl (by rw [e_τ1]) hP hS d_M_look_22
  · -- on 8
    refine lv_iload_n hx hb d_M_look_8 rfl (lv_at hl 2 rfl) ?_
    refine lv_iconst (v := 0) hx hb d_M_look_9 (by decide) ?_
    refine lv_iconst (v := 4) hx hb d_M_look_10 (by decide) ?_
    refine r_calli (W.runS (As := [.int y, .int 0, .int 4]) (rest := []) ⟨hx, hb, hml, hown, hts⟩ (ct_M_in l y 0 4) (cwS 3 hts gd_M_53 rfl rfl rfl (by decide +kernel) ⟨Nat.le_of_ble_eq_true rfl, Nat.le_of_ble_eq_true rfl⟩) preEq rfl rfl hl.1 rfl (lv_room (Nat.le_of_ble_eq_true rfl)) d_M_look_11 ⟨Nat.le_refl _, Nat.le_refl _⟩) ?_
    refine lv_if_ne (tgt := 23) hx hb d_M_look_14 (by decide) (fun c_14 => ?_) (fun c_14 => ?_)
    · -- to 23
      exact absurd hx0 (fun q => q.elim c_5 c_14)
    · -- on 17
      refine lv_aload_n hx hb d_M_look_17 rfl (lv_at hl 0 rfl) ?_
      refine lv_iconst (v := 1) hx hb d_M_look_18 (by decide) ?_
      refine g_calli (va_runV (As := [.int 1]) (rest := []) ⟨hx, hb, hml, hown, hts⟩ (ct_M_refuse l D cI cQ β n τ hI 1) (cwV 1 hts gd_M_57 rfl rfl rfl (by decide +kernel) ⟨Nat.le_of_ble_eq_true rfl, Nat.le_of_ble_eq_true rfl⟩) (g_preV hK hP hD (ci := 2) (q0 := 0) rfl mw_0) rfl rfl hl.1 rfl (lv_room (Nat.le_of_ble_eq_true rfl)) d_M_look_19 ⟨Nat.le_refl _, Nat.le_refl _⟩) hD hS (mw_addr.trans mw_addr.symm) (fun H locs hP hD hS => ?_)
      obtain ⟨τ2, e_τ2⟩ : ∃ ζ, ζ = m_f τ 0 1 := ⟨_, rfl⟩
      rw [← e_τ2] at hP hD
      have hI : m_ok n τ2.1 := by rw [e_τ2]; exact (m_ok_f hI (by decide))
      exact g_reti hx hb hr hlocks rfl (by rw [e_τ2]) hP hS d_M_look_22

set_option maxHeartbeats 4000000 in
set_option maxRecDepth 100000 in
theorem ct_M_look (l : Launch) (D : va_G) (cI cQ : ClassId) (β : Nat → Nat) (n : Nat) (τ : mS) (hI : m_ok n τ.1) (i : Nat) (hi : i < n) (y : Int32) (hy0 : ¬ mo_in y 0 4 = 0) : Met l y_M_look w_M_look { frames := 1, cells := 0, slots := 0, locals := 23 } (gPc D (kty cI cQ) (mw_w cI β τ) [.ref (β 0), .int (nI i), .int y]) (gQi D (mw_al β) (mo_look τ i y) (mw_w cI β (m_f τ 0 0))) 0 0 (gA (mw_al β)) := by
  refine Met.ofW (cc := b_M_look) (maxL := 3) (ret := some .int) (by decide) rfl ?_
  intro p e s m args below meth c s₁ B hml hv
  obtain ⟨rfl, hP, hK, hD⟩ := hv
  have hx := B.exec
  have hb := B.bytes
  have hr := B.returns
  have hts : ∀ w ∈ kT, w.before [.ref (β 0), .int (nI i), .int y].toArray s = true := fun w h => atoms_spec (ws := w_M_look) B.pre w (List.mem_cons_of_mem _ h)
  have hown : s.vm.findClass R_M = some m.cls := findClass_of_methodNamed B.named
  have hlocks := B.notSynchronized
  have hD : va_D (gA (mw_al β)) (mw_w cI β τ) := gD mw_addr hD
  have hS : va_S (gA (mw_al β)) s.heap s.heap [] := va_S.rf
  have hl := lv_entry ([.ref (β 0), .int (nI i), .int y]) (n := 3) (Nat.le_of_ble_eq_true rfl)
  rw [lg_entry_eq]
  generalize (lg_sl ([.ref (β 0), .int (nI i), .int y]) ++ List.replicate (3 - (lg_sl ([.ref (β 0), .int (nI i), .int y])).length) Slot.unset).toArray = ls at hl ⊢
  have hl : lv_has ls 3 [(0, .ref (β 0)), (1, .int (nI i)), (2, .int y)] := hl
  refine lv_aload_n hx hb d_M_look_0 rfl (lv_at hl 0 rfl) ?_
  refine lv_iload_n hx hb d_M_look_1 rfl (lv_at hl 1 rfl) ?_
  refine r_calli (W.runV (As := [.int (nI i)]) (rest := []) ⟨hx, hb, hml, hown, hts⟩ (ct_M_isDesk l D cI cQ β n τ hI (nI i)) (cwV 1 hts gd_M_68 rfl rfl rfl (by decide +kernel) ⟨Nat.le_of_ble_eq_true rfl, Nat.le_of_ble_eq_true rfl⟩) (g_preV hK hP hD (ci := 2) (q0 := 0) rfl mw_0) rfl rfl hl.1 rfl (lv_room (Nat.le_of_ble_eq_true rfl)) d_M_look_2 ⟨Nat.le_refl _, Nat.le_refl _⟩) ?_
  refine lv_if_eq (tgt := 17) hx hb d_M_look_5 (by decide) (fun c_5 => ?_) (fun c_5 => ?_)
  · -- to 17
    exact absurd c_5 (by rw [mo_isd_nI hI hi]; decide)
  · -- on 8
    refine lv_iload_n hx hb d_M_look_8 rfl (lv_at hl 2 rfl) ?_
    refine lv_iconst (v := 0) hx hb d_M_look_9 (by decide) ?_
    refine lv_iconst (v := 4) hx hb d_M_look_10 (by decide) ?_
    refine r_calli (W.runS (As := [.int y, .int 0, .int 4]) (rest := []) ⟨hx, hb, hml, hown, hts⟩ (ct_M_in l y 0 4) (cwS 3 hts gd_M_53 rfl rfl rfl (by decide +kernel) ⟨Nat.le_of_ble_eq_true rfl, Nat.le_of_ble_eq_true rfl⟩) preEq rfl rfl hl.1 rfl (lv_room (Nat.le_of_ble_eq_true rfl)) d_M_look_11 ⟨Nat.le_refl _, Nat.le_refl _⟩) ?_
    refine lv_if_ne (tgt := 23) hx hb d_M_look_14 (by decide) (fun c_14 => ?_) (fun c_14 => ?_)
    · -- to 23
      refine lv_aload_n hx hb d_M_look_23 rfl (lv_at hl 0 rfl) ?_
      refine lv_iconst (v := 0) hx hb d_M_look_24 (by decide) ?_
      refine mw_put hx hb hts hown hK hP hD hS 0 (by unfold mw_is; decide) fl_M_46 rfl rfl rfl d_M_look_25 (fun H locs hP hD hS => ?_)
      obtain ⟨τ1, e_τ1⟩ : ∃ ζ, ζ = m_f τ 0 0 := ⟨_, rfl⟩
      rw [← e_τ1] at hP hD
      have hI : m_ok n τ1.1 := by rw [e_τ1]; exact (m_ok_f hI (by decide))
      refine lv_iload_n hx hb d_M_look_28 rfl (lv_at hl 2 rfl) ?_
      by_cases h_0 : y = 0
      · subst h_0
        refine lv_tableIn (tgt := 60) (off := 31) hx hb d_M_look_29 (by decide) (by decide) rfl (by decide) ?_
        refine lv_aload_n hx hb d_M_look_60 rfl (lv_at hl 0 rfl) ?_
        refine mw_get hx hb hts hown hK hP 4 (by decide) fl_M_16 (v := .ref (β 4)) rfl d_M_look_61 ?_
        refine lv_iload_n hx hb d_M_look_64 rfl (lv_at hl 1 rfl) ?_
        refine mw_ald hx hb hK hP 4 (by unfold mw_as; decide) (j := i) rfl (m8 hI hi) d_M_look_65 ?_
        exact g_reti hx hb hr hlocks (by rw [e_τ1]; rfl) (by rw [e_τ1]) hP hS d_M_look_66
      by_cases h_1 : y = 1
      · subst h_1
        refine lv_tableIn (tgt := 67) (off := 38) hx hb d_M_look_29 (by decide) (by decide) rfl (by decide) ?_
        refine lv_aload_n hx hb d_M_look_67 rfl (lv_at hl 0 rfl) ?_
        refine mw_get hx hb hts hown hK hP 5 (by decide) fl_M_19 (v := .ref (β 5)) rfl d_M_look_68 ?_
        refine lv_iload_n hx hb d_M_look_71 rfl (lv_at hl 1 rfl) ?_
        refine mw_ald hx hb hK hP 5 (by unfold mw_as; decide) (j := i) rfl (m8 hI hi) d_M_look_72 ?_
        exact g_reti hx hb hr hlocks (by rw [e_τ1]; rfl) (by rw [e_τ1]) hP hS d_M_look_73
      by_cases h_2 : y = 2
      · subst h_2
        refine lv_tableIn (tgt := 74) (off := 45) hx hb d_M_look_29 (by decide) (by decide) rfl (by decide) ?_
        refine lv_aload_n hx hb d_M_look_74 rfl (lv_at hl 0 rfl) ?_
        refine mw_get hx hb hts hown hK hP 6 (by decide) fl_M_22 (v := .ref (β 6)) rfl d_M_look_75 ?_
        refine lv_iload_n hx hb d_M_look_78 rfl (lv_at hl 1 rfl) ?_
        refine mw_ald hx hb hK hP 6 (by unfold mw_as; decide) (j := i) rfl (m8 hI hi) d_M_look_79 ?_
        exact g_reti hx hb hr hlocks (by rw [e_τ1]; rfl) (by rw [e_τ1]) hP hS d_M_look_80
      by_cases h_3 : y = 3
      · subst h_3
        refine lv_tableIn (tgt := 81) (off := 52) hx hb d_M_look_29 (by decide) (by decide) rfl (by decide) ?_
        refine lv_aload_n hx hb d_M_look_81 rfl (lv_at hl 0 rfl) ?_
        refine lv_iload_n hx hb d_M_look_82 rfl (lv_at hl 1 rfl) ?_
        refine r_calli (W.runV (As := [.int (nI i)]) (rest := []) ⟨hx, hb, hml, hown, hts⟩ (ct_M_held l D cI cQ β n τ1 hI (nI i)) (cwV 1 hts gd_M_65 rfl rfl rfl (by decide +kernel) ⟨Nat.le_of_ble_eq_true rfl, Nat.le_of_ble_eq_true rfl⟩) (g_preV hK hP hD (ci := 2) (q0 := 0) rfl mw_0) rfl rfl hl.1 rfl (lv_room (Nat.le_of_ble_eq_true rfl)) d_M_look_83 ⟨Nat.le_refl _, Nat.le_refl _⟩) ?_
        exact g_reti hx hb hr hlocks (by rw [e_τ1]; rfl) (by rw [e_τ1]) hP hS d_M_look_86
      refine lv_tableOut (tgt := 87) hx hb d_M_look_29 (tb_4 h_0 h_1 h_2 h_3) (by decide) ?_
      refine lv_aload_n hx hb d_M_look_87 rfl (lv_at hl 0 rfl) ?_
      refine mw_get hx hb hts hown hK hP 10 (by decide) fl_M_34 (v := .ref (β 10)) rfl d_M_look_88 ?_
      refine lv_iload_n hx hb d_M_look_91 rfl (lv_at hl 1 rfl) ?_
      refine mw_ald hx hb hK hP 10 (by unfold mw_as; decide) (j := i) rfl (m8 hI hi) d_M_look_92 ?_
      exact g_reti hx hb hr hlocks (by rw [e_τ1, mo_look, if_neg h_0, if_neg h_1, if_neg h_2, if_neg h_3]; rfl) (by rw [e_τ1]) hP hS d_M_look_93
    · -- on 17
      exact absurd c_14 hy0

set_option maxHeartbeats 4000000 in
set_option maxRecDepth 100000 in
theorem ct_M_count (l : Launch) (D : va_G) (cI cQ : ClassId) (β : Nat → Nat) (n : Nat) (τ : mS) (hI : m_ok n τ.1) (x : Int32) : Met l y_M_count w_M_count { frames := 0, cells := 0, slots := 0, locals := 0 } (gPc D (kty cI cQ) (mw_w cI β τ) [.ref (β 0), .int x]) (gQi D (mw_al β) (mo_count τ x) (mw_w cI β (m_f τ 0 0))) 0 0 (gA (mw_al β)) := by
  refine Met.ofW (cc := b_M_count) (maxL := 4) (ret := some .int) (by decide) rfl ?_
  intro p e s m args below meth c s₁ B hml hv
  obtain ⟨rfl, hP, hK, hD⟩ := hv
  have hx := B.exec
  have hb := B.bytes
  have hr := B.returns
  have hts : ∀ w ∈ kT, w.before [.ref (β 0), .int x].toArray s = true := fun w h => atoms_spec (ws := w_M_count) B.pre w (List.mem_cons_of_mem _ h)
  have hown : s.vm.findClass R_M = some m.cls := findClass_of_methodNamed B.named
  have hlocks := B.notSynchronized
  have hD : va_D (gA (mw_al β)) (mw_w cI β τ) := gD mw_addr hD
  have hS : va_S (gA (mw_al β)) s.heap s.heap [] := va_S.rf
  have hl := lv_entry ([.ref (β 0), .int x]) (n := 4) (Nat.le_of_ble_eq_true rfl)
  rw [lg_entry_eq]
  generalize (lg_sl ([.ref (β 0), .int x]) ++ List.replicate (4 - (lg_sl ([.ref (β 0), .int x])).length) Slot.unset).toArray = ls at hl ⊢
  have hl : lv_has ls 4 [(0, .ref (β 0)), (1, .int x)] := hl
  refine lv_aload_n hx hb d_M_count_0 rfl (lv_at hl 0 rfl) ?_
  refine lv_iconst (v := 0) hx hb d_M_count_1 (by decide) ?_
  refine mw_put hx hb hts hown hK hP hD hS 0 (by unfold mw_is; decide) fl_M_46 rfl rfl rfl d_M_count_2 (fun H locs hP hD hS => ?_)
  obtain ⟨τ1, e_τ1⟩ : ∃ ζ, ζ = m_f τ 0 0 := ⟨_, rfl⟩
  rw [← e_τ1] at hP hD
  have hI : m_ok n τ1.1 := by rw [e_τ1]; exact (m_ok_f hI (by decide))
  refine lv_iconst (v := 0) hx hb d_M_count_5 (by decide) ?_
  refine lv_istore_n (lv' := [(2, .int 0), (0, .ref (β 0)), (1, .int x)]) hx hb d_M_count_6 rfl hl (by decide) rfl (fun ls hl => ?_)
  refine lv_iconst (v := 0) hx hb d_M_count_7 (by decide) ?_
  refine lv_istore_n (lv' := [(3, .int 0), (2, .int 0), (0, .ref (β 0)), (1, .int x)]) hx hb d_M_count_8 rfl hl (by decide) rfl (fun ls hl => ?_)
  have lp9 : ∀ (fu j : Nat) (acc : Int32) (ls : Array Slot), j ≤ 16 → 16 - j < fu → acc = mo_cntp (τ1.2 8) j → lv_has ls 4 [(3, .int (nI j)), (2, .int acc), (0, .ref (β 0)), (1, .int x)] → W p l e (headSpec w_M_count { frames := 0, cells := 0, slots := 0, locals := 0 }).room s m [.ref (β 0), .int x].toArray below meth c H locs 0 0 (MQ below (gQi D (mw_al β) (mo_count τ x) (mw_w cI β (m_f τ 0 0))) [.ref (β 0), .int x].toArray s 0 0 (gA (mw_al β))) (F0 m 9 ls []) := by
    intro fu
    induction fu with
    | zero => intro j acc ls h1 h2; omega
    | succ fu ih =>
      intro j acc ls hj9 hf9 e_acc hl
      refine lv_iload_n hx hb d_M_count_9 rfl (lv_at hl 0 rfl) ?_
      refine lv_bipush (v := 16) hx hb d_M_count_10 (by decide) ?_
      refine lv_icmp_ge (tgt := 38) hx hb d_M_count_12 (by decide) (fun c_12 => ?_) (fun c_12 => ?_)
      · -- to 38
        have hx9 : j = 16 := lp_eq (B := 16) (hn := (by decide)) c_12 hj9
        rw [hx9] at e_acc
        refine lv_iload_n hx hb d_M_count_38 rfl (lv_at hl 3 rfl) ?_
        by_cases h_0 : x = 0
        · subst h_0
          refine lv_tableIn (tgt := 80) (off := 41) hx hb d_M_count_39 (by decide) (by decide) rfl (by decide) ?_
          refine lv_aload_n hx hb d_M_count_80 rfl (lv_at hl 2 rfl) ?_
          refine mw_get hx hb hts hown hK hP 1 (by decide) fl_M_50 (v := .int (τ1.1 1)) rfl d_M_count_81 ?_
          exact g_reti hx hb hr hlocks (by rw [e_τ1]; rfl) (by rw [e_τ1]) hP hS d_M_count_84
        by_cases h_1 : x = 1
        · subst h_1
          refine lv_tableIn (tgt := 85) (off := 46) hx hb d_M_count_39 (by decide) (by decide) rfl (by decide) ?_
          refine lv_aload_n hx hb d_M_count_85 rfl (lv_at hl 2 rfl) ?_
          refine mw_get hx hb hts hown hK hP 17 (by decide) fl_M_78 (v := .int (τ1.1 17)) rfl d_M_count_86 ?_
          exact g_reti hx hb hr hlocks (by rw [e_τ1]; rfl) (by rw [e_τ1]) hP hS d_M_count_89
        by_cases h_2 : x = 2
        · subst h_2
          refine lv_tableIn (tgt := 90) (off := 51) hx hb d_M_count_39 (by decide) (by decide) rfl (by decide) ?_
          refine lv_aload_n hx hb d_M_count_90 rfl (lv_at hl 2 rfl) ?_
          refine mw_get hx hb hts hown hK hP 14 (by decide) fl_M_104 (v := .int (τ1.1 14)) rfl d_M_count_91 ?_
          exact g_reti hx hb hr hlocks (by rw [e_τ1]; rfl) (by rw [e_τ1]) hP hS d_M_count_94
        by_cases h_3 : x = 3
        · subst h_3
          refine lv_tableIn (tgt := 95) (off := 56) hx hb d_M_count_39 (by decide) (by decide) rfl (by decide) ?_
          refine lv_aload_n hx hb d_M_count_95 rfl (lv_at hl 2 rfl) ?_
          refine mw_get hx hb hts hown hK hP 16 (by decide) fl_M_110 (v := .int (τ1.1 16)) rfl d_M_count_96 ?_
          exact g_reti hx hb hr hlocks (by rw [e_τ1]; rfl) (by rw [e_τ1]) hP hS d_M_count_99
        by_cases h_4 : x = 4
        · subst h_4
          refine lv_tableIn (tgt := 100) (off := 61) hx hb d_M_count_39 (by decide) (by decide) rfl (by decide) ?_
          refine lv_aload_n hx hb d_M_count_100 rfl (lv_at hl 2 rfl) ?_
          refine mw_get hx hb hts hown hK hP 19 (by decide) fl_M_84 (v := .int (τ1.1 19)) rfl d_M_count_101 ?_
          exact g_reti hx hb hr hlocks (by rw [e_τ1]; rfl) (by rw [e_τ1]) hP hS d_M_count_104
        by_cases h_5 : x = 5
        · subst h_5
          refine lv_tableIn (tgt := 105) (off := 66) hx hb d_M_count_39 (by decide) (by decide) rfl (by decide) ?_
          refine lv_aload_n hx hb d_M_count_105 rfl (lv_at hl 2 rfl) ?_
          refine mw_get hx hb hts hown hK hP 20 (by decide) fl_M_61 (v := .int (τ1.1 20)) rfl d_M_count_106 ?_
          refine lv_if_eq (tgt := 116) hx hb d_M_count_109 (by decide) (fun c_109 => ?_) (fun c_109 => ?_)
          · -- to 116
            refine lv_iconst (v := 0) hx hb d_M_count_116 (by decide) ?_
            exact g_reti hx hb hr hlocks (by rw [show mo_count τ 5 = if τ.1 20 = 0 then 0 else 1 from rfl, if_pos (by have := c_109; rw [e_τ1] at this; exact this)]) (by rw [e_τ1]) hP hS d_M_count_117
          · -- on 112
            refine lv_iconst (v := 1) hx hb d_M_count_112 (by decide) ?_
            refine lv_goto (tgt := 117) hx hb d_M_count_113 (by decide) ?_
            exact g_reti hx hb hr hlocks (by rw [show mo_count τ 5 = if τ.1 20 = 0 then 0 else 1 from rfl, if_neg (by have := c_109; rw [e_τ1] at this; exact this)]) (by rw [e_τ1]) hP hS d_M_count_117
        by_cases h_6 : x = 6
        · subst h_6
          refine lv_tableIn (tgt := 118) (off := 79) hx hb d_M_count_39 (by decide) (by decide) rfl (by decide) ?_
          refine lv_iload_n hx hb d_M_count_118 rfl (lv_at hl 1 rfl) ?_
          exact g_reti hx hb hr hlocks (by rw [e_acc, e_τ1]; rfl) (by rw [e_τ1]) hP hS d_M_count_119
        refine lv_tableOut (tgt := 120) hx hb d_M_count_39 (tb_7 h_0 h_1 h_2 h_3 h_4 h_5 h_6) (by decide) ?_
        refine lv_iconst (v := (-1)) hx hb d_M_count_120 (by decide) ?_
        exact g_reti hx hb hr hlocks (by rw [mo_count, if_neg h_0, if_neg h_1, if_neg h_2, if_neg h_3, if_neg h_4, if_neg h_5, if_neg h_6]) (by rw [e_τ1]) hP hS d_M_count_121
      · -- on 15
        have hl9 : j < 16 := lp_lt (B := 16) (hn := (by decide)) c_12 hj9
        refine lv_iload_n hx hb d_M_count_15 rfl (lv_at hl 1 rfl) ?_
        refine lv_aload_n hx hb d_M_count_16 rfl (lv_at hl 2 rfl) ?_
        refine mw_get hx hb hts hown hK hP 8 (by decide) fl_M_28 (v := .ref (β 8)) rfl d_M_count_17 ?_
        refine lv_iload_n hx hb d_M_count_20 rfl (lv_at hl 0 rfl) ?_
        refine mw_ald hx hb hK hP 8 (by unfold mw_as; decide) (j := j) rfl hl9 d_M_count_21 ?_
        refine lv_if_lt (tgt := 29) hx hb d_M_count_22 (by decide) (fun c_22 => ?_) (fun c_22 => ?_)
        · -- to 29
          refine lv_iconst (v := 0) hx hb d_M_count_29 (by decide) ?_
          refine lv_iadd hx hb d_M_count_30 ?_
          refine lv_istore_n (lv' := [(2, .int (acc + 0)), (3, .int (nI j)), (0, .ref (β 0)), (1, .int x)]) hx hb d_M_count_31 rfl hl (by decide) rfl (fun ls hl => ?_)
          refine lv_iinc (v := nI (j + 1)) (lv' := [(3, .int (nI (j + 1))), (2, .int (acc + 0)), (0, .ref (β 0)), (1, .int x)]) hx hb d_M_count_32 hl (k := 1) rfl (nI_1 j) (by decide) rfl (fun ls hl => ?_)
          refine lv_goto (tgt := 9) hx hb d_M_count_35 (by decide) ?_
          exact ih (j + 1) (acc + 0) ls (by omega) (by omega) (by rw [mo_cntp, ← e_acc]; simp [c_22]) (lv_sub hl [0, 1, 2, 3] rfl)
        · -- on 25
          refine lv_iconst (v := 1) hx hb d_M_count_25 (by decide) ?_
          refine lv_goto (tgt := 30) hx hb d_M_count_26 (by decide) ?_
          refine lv_iadd hx hb d_M_count_30 ?_
          refine lv_istore_n (lv' := [(2, .int (acc + 1)), (3, .int (nI j)), (0, .ref (β 0)), (1, .int x)]) hx hb d_M_count_31 rfl hl (by decide) rfl (fun ls hl => ?_)
          refine lv_iinc (v := nI (j + 1)) (lv' := [(3, .int (nI (j + 1))), (2, .int (acc + 1)), (0, .ref (β 0)), (1, .int x)]) hx hb d_M_count_32 hl (k := 1) rfl (nI_1 j) (by decide) rfl (fun ls hl => ?_)
          refine lv_goto (tgt := 9) hx hb d_M_count_35 (by decide) ?_
          exact ih (j + 1) (acc + 1) ls (by omega) (by omega) (by rw [mo_cntp, ← e_acc]; simp [c_22]) (lv_sub hl [0, 1, 2, 3] rfl)
  exact lp9 (16 + 1) 0 _ ls (by omega) (by omega) rfl (lv_sub hl [0, 1, 2, 3] rfl)
end
section
theorem run1_1 {n i j : Nat} {q : Int32 × mS} (h15 : q.2.1 15 = nI j) (hj : j < 2 ^ 31) (e : q.2.2 13 j = nI i) (hi : i < 2 ^ 31) (c : q.2.2 6 i = 0) :
    mo_run1 n q = (q.1 + (if (mo_steps n (m_f q.2 15 (q.2.1 15 + 1)) i).1 = 0 then 0 else 1), (mo_steps n (m_f q.2 15 (q.2.1 15 + 1)) i).2) := by
  have e1 : (q.2.2 13 (q.2.1 15).toNatClampNeg).toNatClampNeg = i := by rw [h15, nI_clamp hj, e, nI_clamp hi]
  unfold mo_run1
  dsimp only
  rw [e1, if_pos (show (m_f q.2 15 (q.2.1 15 + 1)).2 6 i = 0 from c)]
theorem run1_0 {n i j : Nat} {q : Int32 × mS} (h15 : q.2.1 15 = nI j) (hj : j < 2 ^ 31) (e : q.2.2 13 j = nI i) (hi : i < 2 ^ 31) (c : ¬ q.2.2 6 i = 0) :
    mo_run1 n q = (q.1, m_f (m_f q.2 15 (q.2.1 15 + 1)) 16 ((m_f q.2 15 (q.2.1 15 + 1)).1 16 + 1)) := by
  have e1 : (q.2.2 13 (q.2.1 15).toNatClampNeg).toNatClampNeg = i := by rw [h15, nI_clamp hj, e, nI_clamp hi]
  unfold mo_run1
  dsimp only
  rw [e1, if_neg (show ¬ (m_f q.2 15 (q.2.1 15 + 1)).2 6 i = 0 from c)]
theorem m_ok_15 {n r k t : Nat} {τ : mS} (hI : m_ok n τ.1) (h14 : τ.1 14 = nI t) (h15 : τ.1 15 = nI (r + k)) (hlt : r + k < t) (ht : t ≤ 300) : m_ok n (m_f τ 15 (τ.1 15 + 1)).1 := by
  obtain ⟨h1, h2, h3, -⟩ := hI
  refine ⟨h1, h2, h3, t, r + k + 1, hlt, ht, h14, ?_⟩
  show τ.1 15 + 1 = _
  rw [h15, nI_1]
theorem wr_f {τ : mS} {w : Int32} {i k : Nat} (hk : k ≠ 17) : (mo_write τ w i).1 k = τ.1 k := by
  unfold mo_write
  split
  · rfl
  · exact va_up_ne _ _ hk
theorem stp_f {n i k : Nat} {τ : mS} (h12 : k ≠ 12) (h17 : k ≠ 17) : (mo_steps n τ i).2.1 k = τ.1 k := by
  unfold mo_steps
  split
  · unfold mo_do
    split
    · dsimp only
      rw [mo_ga_1, ma_1]; exact wr_f h17
    · dsimp only
      rw [show ∀ T : mS, (mo_goes T i).1 = T.1 from fun _ => rfl, ma_1, mo_ga_1, ma_1]; exact wr_f h17
  · split
    · unfold mo_ask
      split
      · rfl
      · exact va_up_ne _ _ h12
    · rfl
theorem mo_runp_ok {n r t : Nat} {τ : mS} (hI : m_ok n τ.1) (h14 : τ.1 14 = nI t) (h15 : τ.1 15 = nI r) (ht : t ≤ 300) (k : Nat) (hk : r + k ≤ t) : m_ok n (mo_runp n τ k).2.1 ∧ (mo_runp n τ k).2.1 14 = nI t ∧ (mo_runp n τ k).2.1 15 = nI (r + k) := by
  induction k with
  | zero => exact ⟨hI, h14, h15⟩
  | succ k ih =>
    obtain ⟨a, b, c⟩ := ih (by omega)
    unfold mo_runp
    generalize mo_runp n τ k = q at a b c ⊢
    have a2 := m_ok_15 a b c (by omega) ht
    have b2 : (m_f q.2 15 (q.2.1 15 + 1)).1 14 = nI t := b
    have c2 : (m_f q.2 15 (q.2.1 15 + 1)).1 15 = nI (r + (k + 1)) := by
      show q.2.1 15 + 1 = _
      rw [c, nI_1]; rfl
    unfold mo_run1
    dsimp only
    split
    · exact ⟨m_ok_steps a2, by dsimp only; rw [stp_f (by decide) (by decide)]; exact b2, by dsimp only; rw [stp_f (by decide) (by decide)]; exact c2⟩
    · exact ⟨m_ok_f a2 (by decide), b2, c2⟩
end
section
set_option maxHeartbeats 4000000 in
set_option maxRecDepth 100000 in
theorem ct_M_needsN (l : Launch) (D : va_G) (cI cQ : ClassId) (β : Nat → Nat) (n : Nat) (τ : mS) (hI : m_ok n τ.1) (x y z : Int32) (hx0 : mo_isd (m_f τ 0 0) x = 0) : Met l y_M_needs w_M_needs { frames := 2, cells := 0, slots := 0, locals := 44 } (gPc D (kty cI cQ) (mw_w cI β τ) [.ref (β 0), .int x, .int y, .int z]) (gQi D (mw_al β) (0) (mw_w cI β (m_f τ 0 0))) 0 0 (gA (mw_al β)) := by
  refine Met.ofW (cc := b_M_needs) (maxL := 5) (ret := some .boolean) (by decide) rfl ?_
  intro p e s m args below meth c s₁ B hml hv
  obtain ⟨rfl, hP, hK, hD⟩ := hv
  have hx := B.exec
  have hb := B.bytes
  have hr := B.returns
  have hts : ∀ w ∈ kT, w.before [.ref (β 0), .int x, .int y, .int z].toArray s = true := fun w h => atoms_spec (ws := w_M_needs) B.pre w (List.mem_cons_of_mem _ h)
  have hown : s.vm.findClass R_M = some m.cls := findClass_of_methodNamed B.named
  have hlocks := B.notSynchronized
  have hD : va_D (gA (mw_al β)) (mw_w cI β τ) := gD mw_addr hD
  have hS : va_S (gA (mw_al β)) s.heap s.heap [] := va_S.rf
  have hl := lv_entry ([.ref (β 0), .int x, .int y, .int z]) (n := 5) (Nat.le_of_ble_eq_true rfl)
  rw [lg_entry_eq]
  generalize (lg_sl ([.ref (β 0), .int x, .int y, .int z]) ++ List.replicate (5 - (lg_sl ([.ref (β 0), .int x, .int y, .int z])).length) Slot.unset).toArray = ls at hl ⊢
  have hl : lv_has ls 5 [(0, .ref (β 0)), (1, .int x), (2, .int y), (3, .int z)] := hl
  refine lv_aload_n hx hb d_M_needs_0 rfl (lv_at hl 0 rfl) ?_
  refine lv_iconst (v := 0) hx hb d_M_needs_1 (by decide) ?_
  refine mw_put hx hb hts hown hK hP hD hS 0 (by unfold mw_is; decide) fl_M_46 rfl rfl rfl d_M_needs_2 (fun H locs hP hD hS => ?_)
  obtain ⟨τ1, e_τ1⟩ : ∃ ζ, ζ = m_f τ 0 0 := ⟨_, rfl⟩
  rw [← e_τ1] at hP hD
  have hI : m_ok n τ1.1 := by rw [e_τ1]; exact (m_ok_f hI (by decide))
  refine lv_aload_n hx hb d_M_needs_5 rfl (lv_at hl 0 rfl) ?_
  refine lv_iload_n hx hb d_M_needs_6 rfl (lv_at hl 1 rfl) ?_
  refine r_calli (W.runV (As := [.int x]) (rest := []) ⟨hx, hb, hml, hown, hts⟩ (ct_M_isDesk l D cI cQ β n τ1 hI x) (cwV 1 hts gd_M_68 rfl rfl rfl (by decide +kernel) ⟨Nat.le_of_ble_eq_true rfl, Nat.le_of_ble_eq_true rfl⟩) (g_preV hK hP hD (ci := 2) (q0 := 0) rfl mw_0) rfl rfl hl.1 rfl (lv_room (Nat.le_of_ble_eq_true rfl)) d_M_needs_7 ⟨Nat.le_refl _, Nat.le_refl _⟩) ?_
  refine lv_if_eq (tgt := 55) hx hb d_M_needs_10 (by decide) (fun c_10 => ?_) (fun c_10 => ?_)
  · -- to 55
    refine lv_iconst (v := 0) hx hb d_M_needs_55 (by decide) ?_
    exact g_retz hx hb hr hlocks (by decide) rfl (by rw [e_τ1]) hP hS d_M_needs_56
  · -- on 13
    exact absurd (by rw [e_τ1]; exact hx0) c_10

set_option maxHeartbeats 4000000 in
set_option maxRecDepth 100000 in
theorem ct_M_needs (l : Launch) (D : va_G) (cI cQ : ClassId) (β : Nat → Nat) (n : Nat) (τ : mS) (hI : m_ok n τ.1) (i : Nat) (hi : i < n) (y z : Int32) (ha : ∃ b, 1 ≤ b ∧ b ≤ 12 ∧ τ.2 2 i = nI b) : Met l y_M_needs w_M_needs { frames := 2, cells := 0, slots := 0, locals := 44 } (gPc D (kty cI cQ) (mw_w cI β τ) [.ref (β 0), .int (nI i), .int y, .int z]) (gQi D (mw_al β) ((mo_needs n τ i y z).1) (mw_w cI β ((mo_needs n τ i y z).2))) 0 0 (gA (mw_al β)) := by
  refine Met.ofW (cc := b_M_needs) (maxL := 5) (ret := some .boolean) (by decide) rfl ?_
  intro p e s m args below meth c s₁ B hml hv
  obtain ⟨rfl, hP, hK, hD⟩ := hv
  have hx := B.exec
  have hb := B.bytes
  have hr := B.returns
  have hts : ∀ w ∈ kT, w.before [.ref (β 0), .int (nI i), .int y, .int z].toArray s = true := fun w h => atoms_spec (ws := w_M_needs) B.pre w (List.mem_cons_of_mem _ h)
  have hown : s.vm.findClass R_M = some m.cls := findClass_of_methodNamed B.named
  have hlocks := B.notSynchronized
  have hD : va_D (gA (mw_al β)) (mw_w cI β τ) := gD mw_addr hD
  have hS : va_S (gA (mw_al β)) s.heap s.heap [] := va_S.rf
  have hl := lv_entry ([.ref (β 0), .int (nI i), .int y, .int z]) (n := 5) (Nat.le_of_ble_eq_true rfl)
  rw [lg_entry_eq]
  generalize (lg_sl ([.ref (β 0), .int (nI i), .int y, .int z]) ++ List.replicate (5 - (lg_sl ([.ref (β 0), .int (nI i), .int y, .int z])).length) Slot.unset).toArray = ls at hl ⊢
  have hl : lv_has ls 5 [(0, .ref (β 0)), (1, .int (nI i)), (2, .int y), (3, .int z)] := hl
  refine lv_aload_n hx hb d_M_needs_0 rfl (lv_at hl 0 rfl) ?_
  refine lv_iconst (v := 0) hx hb d_M_needs_1 (by decide) ?_
  refine mw_put hx hb hts hown hK hP hD hS 0 (by unfold mw_is; decide) fl_M_46 rfl rfl rfl d_M_needs_2 (fun H locs hP hD hS => ?_)
  obtain ⟨τ1, e_τ1⟩ : ∃ ζ, ζ = m_f τ 0 0 := ⟨_, rfl⟩
  rw [← e_τ1] at hP hD
  have hI : m_ok n τ1.1 := by rw [e_τ1]; exact (m_ok_f hI (by decide))
  refine lv_aload_n hx hb d_M_needs_5 rfl (lv_at hl 0 rfl) ?_
  refine lv_iload_n hx hb d_M_needs_6 rfl (lv_at hl 1 rfl) ?_
  refine r_calli (W.runV (As := [.int (nI i)]) (rest := []) ⟨hx, hb, hml, hown, hts⟩ (ct_M_isDesk l D cI cQ β n τ1 hI (nI i)) (cwV 1 hts gd_M_68 rfl rfl rfl (by decide +kernel) ⟨Nat.le_of_ble_eq_true rfl, Nat.le_of_ble_eq_true rfl⟩) (g_preV hK hP hD (ci := 2) (q0 := 0) rfl mw_0) rfl rfl hl.1 rfl (lv_room (Nat.le_of_ble_eq_true rfl)) d_M_needs_7 ⟨Nat.le_refl _, Nat.le_refl _⟩) ?_
  refine lv_if_eq (tgt := 55) hx hb d_M_needs_10 (by decide) (fun c_10 => ?_) (fun c_10 => ?_)
  · -- to 55
    exact absurd c_10 (by rw [mo_isd_nI hI hi]; decide)
  · -- on 13
    refine lv_iload_n hx hb d_M_needs_13 rfl (lv_at hl 3 rfl) ?_
    refine r_calli (W.runS (As := [.int z]) (rest := []) ⟨hx, hb, hml, hown, hts⟩ (ct_M_isSubject l z) (cwS 1 hts gd_M_72 rfl rfl rfl (by decide +kernel) ⟨Nat.le_of_ble_eq_true rfl, Nat.le_of_ble_eq_true rfl⟩) preEq rfl rfl hl.1 rfl (lv_room (Nat.le_of_ble_eq_true rfl)) d_M_needs_14 ⟨Nat.le_refl _, Nat.le_refl _⟩) ?_
    refine lv_if_eq (tgt := 55) hx hb d_M_needs_17 (by decide) (fun c_17 => ?_) (fun c_17 => ?_)
    · -- to 55
      refine lv_iconst (v := 0) hx hb d_M_needs_55 (by decide) ?_
      exact g_retz hx hb hr hlocks (by decide) (by rw [mo_needs, ← e_τ1, if_pos c_17]) (by rw [mo_needs, ← e_τ1, if_pos c_17]) hP hS d_M_needs_56
    · -- on 20
      refine lv_iload_n hx hb d_M_needs_20 rfl (lv_at hl 2 rfl) ?_
      refine lv_iconst (v := 0) hx hb d_M_needs_21 (by decide) ?_
      refine lv_aload_n hx hb d_M_needs_22 rfl (lv_at hl 0 rfl) ?_
      refine mw_get hx hb hts hown hK hP 2 (by decide) fl_M_7 (v := .ref (β 2)) rfl d_M_needs_23 ?_
      refine lv_aload_n hx hb d_M_needs_26 rfl (lv_at hl 0 rfl) ?_
      refine lv_iload_n hx hb d_M_needs_27 rfl (lv_at hl 1 rfl) ?_
      refine r_calli (W.runV (As := [.int (nI i)]) (rest := [.ref (β 2), .int 0, .int y]) ⟨hx, hb, hml, hown, hts⟩ (ct_M_isDesk l D cI cQ β n τ1 hI (nI i)) (cwV 1 hts gd_M_68 rfl rfl rfl (by decide +kernel) ⟨Nat.le_of_ble_eq_true rfl, Nat.le_of_ble_eq_true rfl⟩) (g_preV hK hP hD (ci := 2) (q0 := 0) rfl mw_0) rfl rfl hl.1 rfl (lv_room (Nat.le_of_ble_eq_true rfl)) d_M_needs_28 ⟨Nat.le_refl _, Nat.le_refl _⟩) ?_
      refine lv_if_eq (tgt := 38) hx hb d_M_needs_31 (by decide) (fun c_31 => ?_) (fun c_31 => ?_)
      · -- to 38
        exact absurd c_31 (by rw [mo_isd_nI hI hi]; decide)
      · -- on 34
        refine lv_iload_n hx hb d_M_needs_34 rfl (lv_at hl 1 rfl) ?_
        refine lv_goto (tgt := 39) hx hb d_M_needs_35 (by decide) ?_
        refine mw_ald hx hb hK hP 2 (by unfold mw_as; decide) (j := i) rfl (m8 hI hi) d_M_needs_39 ?_
        refine lv_iconst (v := 1) hx hb d_M_needs_40 (by decide) ?_
        refine lv_isub hx hb d_M_needs_41 ?_
        refine r_calli (W.runS (As := [.int y, .int 0, .int ((τ1.2 2 i) - 1)]) (rest := []) ⟨hx, hb, hml, hown, hts⟩ (ct_M_in l y 0 ((τ1.2 2 i) - 1)) (cwS 3 hts gd_M_53 rfl rfl rfl (by decide +kernel) ⟨Nat.le_of_ble_eq_true rfl, Nat.le_of_ble_eq_true rfl⟩) preEq rfl rfl hl.1 rfl (lv_room (Nat.le_of_ble_eq_true rfl)) d_M_needs_42 ⟨Nat.le_refl _, Nat.le_refl _⟩) ?_
        refine lv_if_eq (tgt := 55) hx hb d_M_needs_45 (by decide) (fun c_45 => ?_) (fun c_45 => ?_)
        · -- to 55
          refine lv_iconst (v := 0) hx hb d_M_needs_55 (by decide) ?_
          exact g_retz hx hb hr hlocks (by decide) (by rw [mo_needs, ← e_τ1, if_neg c_17, if_pos c_45]) (by rw [mo_needs, ← e_τ1, if_neg c_17, if_pos c_45]) hP hS d_M_needs_56
        · -- on 48
          refine lv_aload_n hx hb d_M_needs_48 rfl (lv_at hl 0 rfl) ?_
          refine mw_get hx hb hts hown hK hP 20 (by decide) fl_M_61 (v := .int (τ1.1 20)) rfl d_M_needs_49 ?_
          refine lv_if_eq (tgt := 57) hx hb d_M_needs_52 (by decide) (fun c_52 => ?_) (fun c_52 => ?_)
          · -- to 57
            obtain ⟨b0, hb1, hb2, eb⟩ := ha
            have c45 := c_45
            rw [e_τ1, show (m_f τ 0 0).2 2 i = nI b0 from eb] at c45
            obtain ⟨p0, hp0, ep0⟩ := mo_in_ix (a := 0) c45 hb1 hb2
            refine lv_bipush (v := 12) hx hb d_M_needs_57 (by decide) ?_
            refine lv_iload_n hx hb d_M_needs_59 rfl (lv_at hl 1 rfl) ?_
            refine lv_imul hx hb d_M_needs_60 ?_
            refine lv_iload_n hx hb d_M_needs_61 rfl (lv_at hl 2 rfl) ?_
            refine lv_iadd hx hb d_M_needs_62 ?_
            refine lv_istore (lv' := [(4, .int ((12 * (nI i)) + y)), (0, .ref (β 0)), (1, .int (nI i)), (2, .int y), (3, .int z)]) hx hb d_M_needs_63 hl (by decide) rfl (fun ls hl => ?_)
            refine lv_aload_n hx hb d_M_needs_65 rfl (lv_at hl 1 rfl) ?_
            refine mw_get hx hb hts hown hK hP 7 (by decide) fl_M_25 (v := .ref (β 7)) rfl d_M_needs_66 ?_
            refine lv_iload hx hb d_M_needs_69 (lv_at hl 0 rfl) ?_
            refine mw_ald hx hb hK hP 7 (by unfold mw_as; decide) (j := (12 * nI i + y).toNatClampNeg) (ix_e (m_n96 hI hi hp0 ep0).1) (m_n96 hI hi hp0 ep0).2 d_M_needs_71 ?_
            refine lv_iload_n hx hb d_M_needs_72 rfl (lv_at hl 4 rfl) ?_
            refine lv_ishr hx hb d_M_needs_73 ?_
            refine lv_iconst (v := 1) hx hb d_M_needs_74 (by decide) ?_
            refine lv_iand hx hb d_M_needs_75 ?_
            refine lv_iconst (v := 1) hx hb d_M_needs_76 (by decide) ?_
            refine lv_icmp_eq (tgt := 108) hx hb d_M_needs_77 (by decide) (fun c_77 => ?_) (fun c_77 => ?_)
            · -- to 108
              refine lv_iconst (v := 0) hx hb d_M_needs_108 (by decide) ?_
              exact g_retz hx hb hr hlocks (by decide) (by rw [mo_needs, ← e_τ1, if_neg c_17, if_neg c_45, if_pos c_52, if_pos c_77]) (by rw [mo_needs, ← e_τ1, if_neg c_17, if_neg c_45, if_pos c_52, if_pos c_77]) hP hS d_M_needs_109
            · -- on 80
              refine lv_iload_n hx hb d_M_needs_80 rfl (lv_at hl 3 rfl) ?_
              refine lv_aload_n hx hb d_M_needs_81 rfl (lv_at hl 1 rfl) ?_
              refine mw_get hx hb hts hown hK hP 4 (by decide) fl_M_16 (v := .ref (β 4)) rfl d_M_needs_82 ?_
              refine lv_iload_n hx hb d_M_needs_85 rfl (lv_at hl 2 rfl) ?_
              refine mw_ald hx hb hK hP 4 (by unfold mw_as; decide) (j := i) rfl (m8 hI hi) d_M_needs_86 ?_
              refine lv_icmp_lt (tgt := 108) hx hb d_M_needs_87 (by decide) (fun c_87 => ?_) (fun c_87 => ?_)
              · -- to 108
                refine lv_iconst (v := 0) hx hb d_M_needs_108 (by decide) ?_
                exact g_retz hx hb hr hlocks (by decide) (by rw [mo_needs, ← e_τ1, if_neg c_17, if_neg c_45, if_pos c_52, if_neg c_77, if_pos c_87]) (by rw [mo_needs, ← e_τ1, if_neg c_17, if_neg c_45, if_pos c_52, if_neg c_77, if_pos c_87]) hP hS d_M_needs_109
              · -- on 90
                refine lv_iload_n hx hb d_M_needs_90 rfl (lv_at hl 3 rfl) ?_
                refine lv_aload_n hx hb d_M_needs_91 rfl (lv_at hl 1 rfl) ?_
                refine mw_get hx hb hts hown hK hP 4 (by decide) fl_M_16 (v := .ref (β 4)) rfl d_M_needs_92 ?_
                refine lv_iload_n hx hb d_M_needs_95 rfl (lv_at hl 2 rfl) ?_
                refine mw_ald hx hb hK hP 4 (by unfold mw_as; decide) (j := i) rfl (m8 hI hi) d_M_needs_96 ?_
                refine lv_icmp_ne (tgt := 110) hx hb d_M_needs_97 (by decide) (fun c_97 => ?_) (fun c_97 => ?_)
                · -- to 110
                  refine lv_aload_n hx hb d_M_needs_110 rfl (lv_at hl 1 rfl) ?_
                  refine mw_get hx hb hts hown hK hP 7 (by decide) fl_M_25 (v := .ref (β 7)) rfl d_M_needs_111 ?_
                  refine lv_iload hx hb d_M_needs_114 (lv_at hl 0 rfl) ?_
                  refine lv_dup2_11 hx hb d_M_needs_116 rfl rfl ?_
                  refine mw_ald hx hb hK hP 7 (by unfold mw_as; decide) (j := (12 * nI i + y).toNatClampNeg) (ix_e (m_n96 hI hi hp0 ep0).1) (m_n96 hI hi hp0 ep0).2 d_M_needs_117 ?_
                  refine lv_iconst (v := 1) hx hb d_M_needs_118 (by decide) ?_
                  refine lv_iload_n hx hb d_M_needs_119 rfl (lv_at hl 4 rfl) ?_
                  refine lv_ishl hx hb d_M_needs_120 ?_
                  refine lv_ior hx hb d_M_needs_121 ?_
                  refine mw_ast hx hb hK hP hD hS 7 (by unfold mw_as; decide) (j := (12 * nI i + y).toNatClampNeg) (ix_e (m_n96 hI hi hp0 ep0).1) (m_n96 hI hi hp0 ep0).2 d_M_needs_122 (fun H locs hP hD hS => ?_)
                  obtain ⟨τ2, e_τ2⟩ : ∃ ζ, ζ = m_a τ1 7 ((12 * nI i + y).toNatClampNeg) ((τ1.2 7 ((12 * nI i + y).toNatClampNeg)) ||| (1 <<< (z &&& 31))) := ⟨_, rfl⟩
                  rw [← e_τ2] at hP hD
                  have hI : m_ok n τ2.1 := by rw [e_τ2]; exact hI
                  refine lv_iconst (v := 1) hx hb d_M_needs_123 (by decide) ?_
                  exact g_retz hx hb hr hlocks (by decide) (by rw [mo_needs, ← e_τ1, if_neg c_17, if_neg c_45, if_pos c_52, if_neg c_77, if_neg c_87, if_neg c_97]) (by rw [mo_needs, ← e_τ1, if_neg c_17, if_neg c_45, if_pos c_52, if_neg c_77, if_neg c_87, if_neg c_97, e_τ2]) hP hS d_M_needs_124
                · -- on 100
                  refine lv_aload_n hx hb d_M_needs_100 rfl (lv_at hl 1 rfl) ?_
                  refine lv_iload_n hx hb d_M_needs_101 rfl (lv_at hl 2 rfl) ?_
                  refine r_calli (W.runV (As := [.int (nI i)]) (rest := []) ⟨hx, hb, hml, hown, hts⟩ (ct_M_isMidst l D cI cQ β n τ1 hI i hi) (cwV 1 hts gd_M_75 rfl rfl rfl (by decide +kernel) ⟨Nat.le_of_ble_eq_true rfl, Nat.le_of_ble_eq_true rfl⟩) (g_preV hK hP hD (ci := 2) (q0 := 0) rfl mw_0) rfl rfl hl.1 rfl (lv_room (Nat.le_of_ble_eq_true rfl)) d_M_needs_102 ⟨Nat.le_refl _, Nat.le_refl _⟩) ?_
                  refine lv_if_eq (tgt := 110) hx hb d_M_needs_105 (by decide) (fun c_105 => ?_) (fun c_105 => ?_)
                  · -- to 110
                    refine lv_aload_n hx hb d_M_needs_110 rfl (lv_at hl 1 rfl) ?_
                    refine mw_get hx hb hts hown hK hP 7 (by decide) fl_M_25 (v := .ref (β 7)) rfl d_M_needs_111 ?_
                    refine lv_iload hx hb d_M_needs_114 (lv_at hl 0 rfl) ?_
                    refine lv_dup2_11 hx hb d_M_needs_116 rfl rfl ?_
                    refine mw_ald hx hb hK hP 7 (by unfold mw_as; decide) (j := (12 * nI i + y).toNatClampNeg) (ix_e (m_n96 hI hi hp0 ep0).1) (m_n96 hI hi hp0 ep0).2 d_M_needs_117 ?_
                    refine lv_iconst (v := 1) hx hb d_M_needs_118 (by decide) ?_
                    refine lv_iload_n hx hb d_M_needs_119 rfl (lv_at hl 4 rfl) ?_
                    refine lv_ishl hx hb d_M_needs_120 ?_
                    refine lv_ior hx hb d_M_needs_121 ?_
                    refine mw_ast hx hb hK hP hD hS 7 (by unfold mw_as; decide) (j := (12 * nI i + y).toNatClampNeg) (ix_e (m_n96 hI hi hp0 ep0).1) (m_n96 hI hi hp0 ep0).2 d_M_needs_122 (fun H locs hP hD hS => ?_)
                    obtain ⟨τ3, e_τ3⟩ : ∃ ζ, ζ = m_a τ1 7 ((12 * nI i + y).toNatClampNeg) ((τ1.2 7 ((12 * nI i + y).toNatClampNeg)) ||| (1 <<< (z &&& 31))) := ⟨_, rfl⟩
                    rw [← e_τ3] at hP hD
                    have hI : m_ok n τ3.1 := by rw [e_τ3]; exact hI
                    refine lv_iconst (v := 1) hx hb d_M_needs_123 (by decide) ?_
                    exact g_retz hx hb hr hlocks (by decide) (by rw [mo_needs, ← e_τ1, if_neg c_17, if_neg c_45, if_pos c_52, if_neg c_77, if_neg c_87, if_pos c_97, if_pos c_105]) (by rw [mo_needs, ← e_τ1, if_neg c_17, if_neg c_45, if_pos c_52, if_neg c_77, if_neg c_87, if_pos c_97, if_pos c_105, e_τ3]) hP hS d_M_needs_124
                  · -- on 108
                    refine lv_iconst (v := 0) hx hb d_M_needs_108 (by decide) ?_
                    exact g_retz hx hb hr hlocks (by decide) (by rw [mo_needs, ← e_τ1, if_neg c_17, if_neg c_45, if_pos c_52, if_neg c_77, if_neg c_87, if_pos c_97, if_neg c_105]) (by rw [mo_needs, ← e_τ1, if_neg c_17, if_neg c_45, if_pos c_52, if_neg c_77, if_neg c_87, if_pos c_97, if_neg c_105]) hP hS d_M_needs_109
          · -- on 55
            refine lv_iconst (v := 0) hx hb d_M_needs_55 (by decide) ?_
            exact g_retz hx hb hr hlocks (by decide) (by rw [mo_needs, ← e_τ1, if_neg c_17, if_neg c_45, if_neg c_52]) (by rw [mo_needs, ← e_τ1, if_neg c_17, if_neg c_45, if_neg c_52]) hP hS d_M_needs_56

set_option maxHeartbeats 4000000 in
set_option maxRecDepth 100000 in
theorem ct_M_runN (l : Launch) (D : va_G) (cI cQ : ClassId) (β : Nat → Nat) (n : Nat) (τ : mS) (hI : m_ok n τ.1) (hc0 : ¬ τ.1 20 = 0) : Met l y_M_run w_M_run { frames := 1, cells := 0, slots := 0, locals := 21 } (gPc D (kty cI cQ) (mw_w cI β τ) [.ref (β 0)]) (gQi D (mw_al β) (0) (mw_w cI β (m_f τ 0 1))) 0 0 (gA (mw_al β)) := by
  refine Met.ofW (cc := b_M_run) (maxL := 3) (ret := some .int) (by decide) rfl ?_
  intro p e s m args below meth c s₁ B hml hv
  obtain ⟨rfl, hP, hK, hD⟩ := hv
  have hx := B.exec
  have hb := B.bytes
  have hr := B.returns
  have hts : ∀ w ∈ kT, w.before [.ref (β 0)].toArray s = true := fun w h => atoms_spec (ws := w_M_run) B.pre w (List.mem_cons_of_mem _ h)
  have hown : s.vm.findClass R_M = some m.cls := findClass_of_methodNamed B.named
  have hlocks := B.notSynchronized
  have hD : va_D (gA (mw_al β)) (mw_w cI β τ) := gD mw_addr hD
  have hS : va_S (gA (mw_al β)) s.heap s.heap [] := va_S.rf
  have hl := lv_entry ([.ref (β 0)]) (n := 3) (Nat.le_of_ble_eq_true rfl)
  rw [lg_entry_eq]
  generalize (lg_sl ([.ref (β 0)]) ++ List.replicate (3 - (lg_sl ([.ref (β 0)])).length) Slot.unset).toArray = ls at hl ⊢
  have hl : lv_has ls 3 [(0, .ref (β 0))] := hl
  refine lv_aload_n hx hb d_M_run_0 rfl (lv_at hl 0 rfl) ?_
  refine mw_get hx hb hts hown hK hP 20 (by decide) fl_M_61 (v := .int (τ.1 20)) rfl d_M_run_1 ?_
  refine lv_if_eq (tgt := 13) hx hb d_M_run_4 (by decide) (fun c_4 => ?_) (fun c_4 => ?_)
  · -- to 13
    exact absurd c_4 hc0
  · -- on 7
    refine lv_aload_n hx hb d_M_run_7 rfl (lv_at hl 0 rfl) ?_
    refine lv_iconst (v := 1) hx hb d_M_run_8 (by decide) ?_
    refine g_calli (va_runV (As := [.int 1]) (rest := []) ⟨hx, hb, hml, hown, hts⟩ (ct_M_refuse l D cI cQ β n τ hI 1) (cwV 1 hts gd_M_57 rfl rfl rfl (by decide +kernel) ⟨Nat.le_of_ble_eq_true rfl, Nat.le_of_ble_eq_true rfl⟩) (g_preV hK hP hD (ci := 2) (q0 := 0) rfl mw_0) rfl rfl hl.1 rfl (lv_room (Nat.le_of_ble_eq_true rfl)) d_M_run_9 ⟨Nat.le_refl _, Nat.le_refl _⟩) hD hS (mw_addr.trans mw_addr.symm) (fun H locs hP hD hS => ?_)
    obtain ⟨τ1, e_τ1⟩ : ∃ ζ, ζ = m_f τ 0 1 := ⟨_, rfl⟩
    rw [← e_τ1] at hP hD
    have hI : m_ok n τ1.1 := by rw [e_τ1]; exact (m_ok_f hI (by decide))
    exact g_reti hx hb hr hlocks rfl (by rw [e_τ1]) hP hS d_M_run_12

set_option maxHeartbeats 4000000 in
set_option maxRecDepth 100000 in
theorem ct_M_run (l : Launch) (D : va_G) (cI cQ : ClassId) (β : Nat → Nat) (n : Nat) (τ : mS) (hI : m_ok n τ.1) (hc0 : τ.1 20 = 0) (t r : Nat) (hrt : r ≤ t) (ht : t ≤ 300) (e14 : τ.1 14 = nI t) (e15 : τ.1 15 = nI r) (hst : ∀ k, r + k < t → ∃ i, i < n ∧ (mo_runp n (m_f τ 0 0) k).2.2 13 (r + k) = nI i ∧ ((mo_runp n (m_f τ 0 0) k).2.2 6 i = 0 → so_ok (m_f (mo_runp n (m_f τ 0 0) k).2 15 ((mo_runp n (m_f τ 0 0) k).2.1 15 + 1)) i)) : Met l y_M_run w_M_run { frames := 4, cells := 0, slots := 0, locals := 91 } (gPc D (kty cI cQ) (mw_w cI β τ) [.ref (β 0)]) (gQi D (mw_al β) ((mo_runp n (m_f τ 0 0) (t - r)).1) (mw_w cI β ((mo_runp n (m_f τ 0 0) (t - r)).2))) 0 0 (gA (mw_al β)) := by
  refine Met.ofW (cc := b_M_run) (maxL := 3) (ret := some .int) (by decide) rfl ?_
  intro p e s m args below meth c s₁ B hml hv
  obtain ⟨rfl, hP, hK, hD⟩ := hv
  have hx := B.exec
  have hb := B.bytes
  have hr := B.returns
  have hts : ∀ w ∈ kT, w.before [.ref (β 0)].toArray s = true := fun w h => atoms_spec (ws := w_M_run) B.pre w (List.mem_cons_of_mem _ h)
  have hown : s.vm.findClass R_M = some m.cls := findClass_of_methodNamed B.named
  have hlocks := B.notSynchronized
  have hD : va_D (gA (mw_al β)) (mw_w cI β τ) := gD mw_addr hD
  have hS : va_S (gA (mw_al β)) s.heap s.heap [] := va_S.rf
  have hl := lv_entry ([.ref (β 0)]) (n := 3) (Nat.le_of_ble_eq_true rfl)
  rw [lg_entry_eq]
  generalize (lg_sl ([.ref (β 0)]) ++ List.replicate (3 - (lg_sl ([.ref (β 0)])).length) Slot.unset).toArray = ls at hl ⊢
  have hl : lv_has ls 3 [(0, .ref (β 0))] := hl
  refine lv_aload_n hx hb d_M_run_0 rfl (lv_at hl 0 rfl) ?_
  refine mw_get hx hb hts hown hK hP 20 (by decide) fl_M_61 (v := .int (τ.1 20)) rfl d_M_run_1 ?_
  refine lv_if_eq (tgt := 13) hx hb d_M_run_4 (by decide) (fun c_4 => ?_) (fun c_4 => ?_)
  · -- to 13
    refine lv_aload_n hx hb d_M_run_13 rfl (lv_at hl 0 rfl) ?_
    refine lv_iconst (v := 0) hx hb d_M_run_14 (by decide) ?_
    refine mw_put hx hb hts hown hK hP hD hS 0 (by unfold mw_is; decide) fl_M_46 rfl rfl rfl d_M_run_15 (fun H locs hP hD hS => ?_)
    obtain ⟨τ1, e_τ1⟩ : ∃ ζ, ζ = m_f τ 0 0 := ⟨_, rfl⟩
    rw [← e_τ1] at hP hD
    have hI : m_ok n τ1.1 := by rw [e_τ1]; exact (m_ok_f hI (by decide))
    refine lv_iconst (v := 0) hx hb d_M_run_18 (by decide) ?_
    refine lv_istore_n (lv' := [(1, .int 0), (0, .ref (β 0))]) hx hb d_M_run_19 rfl hl (by decide) rfl (fun ls hl => ?_)
    have lp20 : ∀ (fu k : Nat) (acc : Int32) (ς : mS) (H : Heap) (locs : List Loc) (ls : Array Slot), r + k ≤ t → t - (r + k) < fu → acc = (mo_runp n τ1 k).1 → ς = (mo_runp n τ1 k).2 → va_P D kcl (mw_w cI β ς) H → va_D (gA (mw_al β)) (mw_w cI β ς) → va_S (gA (mw_al β)) s.heap H locs → lv_has ls 3 [(1, .int acc), (0, .ref (β 0))] → W p l e (headSpec w_M_run { frames := 4, cells := 0, slots := 0, locals := 91 }).room s m [.ref (β 0)].toArray below meth c H locs 0 0 (MQ below (gQi D (mw_al β) ((mo_runp n (m_f τ 0 0) (t - r)).1) (mw_w cI β ((mo_runp n (m_f τ 0 0) (t - r)).2))) [.ref (β 0)].toArray s 0 0 (gA (mw_al β))) (F0 m 20 ls []) := by
      intro fu
      induction fu with
      | zero => intro k acc ς H locs ls h1 h2; omega
      | succ fu ih =>
        intro k acc ς H locs ls hk20 hf20 e_acc e_ς hP hD hS hl
        obtain ⟨hI, h14, h15⟩ : m_ok n ς.1 ∧ ς.1 14 = nI t ∧ ς.1 15 = nI (r + k) := by rw [e_ς]; exact mo_runp_ok hI (by rw [e_τ1]; exact e14) (by rw [e_τ1]; exact e15) ht k hk20
        have epq : mo_runp n τ1 k = (acc, ς) := by rw [e_acc, e_ς]
        refine lv_aload_n hx hb d_M_run_20 rfl (lv_at hl 1 rfl) ?_
        refine mw_get hx hb hts hown hK hP 15 (by decide) fl_M_107 (v := .int (ς.1 15)) rfl d_M_run_21 ?_
        refine lv_aload_n hx hb d_M_run_24 rfl (lv_at hl 1 rfl) ?_
        refine mw_get hx hb hts hown hK hP 14 (by decide) fl_M_104 (v := .int (ς.1 14)) rfl d_M_run_25 ?_
        refine lv_icmp_ge (tgt := 92) hx hb d_M_run_28 (by decide) (fun c_28 => ?_) (fun c_28 => ?_)
        · -- to 92
          have hkt : k = t - r := by
            rw [h14, h15] at c_28
            have := lp_eq (B := t) (hn := by omega) c_28 hk20
            omega
          rw [hkt] at e_acc e_ς
          refine lv_iload_n hx hb d_M_run_92 rfl (lv_at hl 0 rfl) ?_
          exact g_reti hx hb hr hlocks (by rw [e_acc, e_τ1]) (by rw [e_ς, e_τ1]) hP hS d_M_run_93
        · -- on 31
          have hlt : r + k < t := by
            rw [h14, h15] at c_28
            exact lp_lt (B := t) (hn := by omega) c_28 hk20
          obtain ⟨i, hi, ei, hso⟩ := hst k hlt
          rw [← e_τ1, ← e_ς] at ei hso
          have hi8 : i < 2 ^ 31 := by have := hI.1; omega
          refine lv_aload_n hx hb d_M_run_31 rfl (lv_at hl 1 rfl) ?_
          refine mw_get hx hb hts hown hK hP 13 (by decide) fl_M_40 (v := .ref (β 13)) rfl d_M_run_32 ?_
          refine lv_aload_n hx hb d_M_run_35 rfl (lv_at hl 1 rfl) ?_
          refine mw_get hx hb hts hown hK hP 15 (by decide) fl_M_107 (v := .int (ς.1 15)) rfl d_M_run_36 ?_
          refine mw_ald hx hb hK hP 13 (by unfold mw_as; decide) (j := r + k) h15 (show r + k < 300 by omega) d_M_run_39 ?_
          refine lv_istore_n (lv' := [(2, .int (ς.2 13 (r + k))), (1, .int acc), (0, .ref (β 0))]) hx hb d_M_run_40 rfl hl (by decide) rfl (fun ls hl => ?_)
          have hl : lv_has ls 3 [(2, .int (nI i)), (1, .int acc), (0, .ref (β 0))] := by rw [← ei]; exact hl
          refine lv_aload_n hx hb d_M_run_41 rfl (lv_at hl 2 rfl) ?_
          refine lv_dup hx hb d_M_run_42 rfl ?_
          refine mw_get hx hb hts hown hK hP 15 (by decide) fl_M_107 (v := .int (ς.1 15)) rfl d_M_run_43 ?_
          refine lv_iconst (v := 1) hx hb d_M_run_46 (by decide) ?_
          refine lv_iadd hx hb d_M_run_47 ?_
          refine mw_put hx hb hts hown hK hP hD hS 15 (by unfold mw_is; decide) fl_M_107 rfl rfl rfl d_M_run_48 (fun H locs hP hD hS => ?_)
          obtain ⟨τ2, e_τ2⟩ : ∃ ζ, ζ = m_f ς 15 ((ς.1 15) + 1) := ⟨_, rfl⟩
          rw [← e_τ2] at hP hD
          have hI : m_ok n τ2.1 := by rw [e_τ2]; exact m_ok_15 hI h14 h15 hlt ht
          refine lv_aload_n hx hb d_M_run_51 rfl (lv_at hl 2 rfl) ?_
          refine mw_get hx hb hts hown hK hP 6 (by decide) fl_M_22 (v := .ref (β 6)) rfl d_M_run_52 ?_
          refine lv_iload_n hx hb d_M_run_55 rfl (lv_at hl 0 rfl) ?_
          refine mw_ald hx hb hK hP 6 (by unfold mw_as; decide) (j := i) rfl (m8 hI hi) d_M_run_56 ?_
          refine lv_if_eq (tgt := 73) hx hb d_M_run_57 (by decide) (fun c_57 => ?_) (fun c_57 => ?_)
          · -- to 73
            have hso2 : so_ok τ2 i := by rw [e_τ2]; exact hso (by have := c_57; rw [e_τ2] at this; exact this)
            refine lv_iload_n hx hb d_M_run_73 rfl (lv_at hl 1 rfl) ?_
            refine lv_aload_n hx hb d_M_run_74 rfl (lv_at hl 2 rfl) ?_
            refine lv_iload_n hx hb d_M_run_75 rfl (lv_at hl 0 rfl) ?_
            refine g_calli (va_runV (As := [.int (nI i)]) (rest := [.int acc]) ⟨hx, hb, hml, hown, hts⟩ (ct_M_steps l D cI cQ β n τ2 hI i hi hso2) (cwV 1 hts gd_M_113 rfl rfl rfl (by decide +kernel) ⟨Nat.le_of_ble_eq_true rfl, Nat.le_of_ble_eq_true rfl⟩) (g_preV hK hP hD (ci := 2) (q0 := 0) rfl mw_0) rfl rfl hl.1 rfl (lv_room (Nat.le_of_ble_eq_true rfl)) d_M_run_76 ⟨Nat.le_refl _, Nat.le_refl _⟩) hD hS (mw_addr.trans mw_addr.symm) (fun H locs hP hD hS => ?_)
            obtain ⟨τ3, e_τ3⟩ : ∃ ζ, ζ = (mo_steps n τ2 i).2 := ⟨_, rfl⟩
            rw [← e_τ3] at hP hD
            have hI : m_ok n τ3.1 := by rw [e_τ3]; exact (m_ok_steps hI)
            refine lv_if_eq (tgt := 86) hx hb d_M_run_79 (by decide) (fun c_79 => ?_) (fun c_79 => ?_)
            · -- to 86
              refine lv_iconst (v := 0) hx hb d_M_run_86 (by decide) ?_
              refine lv_iadd hx hb d_M_run_87 ?_
              refine lv_istore_n (lv' := [(1, .int (acc + 0)), (2, .int (nI i)), (0, .ref (β 0))]) hx hb d_M_run_88 rfl hl (by decide) rfl (fun ls hl => ?_)
              refine lv_goto (tgt := 20) hx hb d_M_run_89 (by decide) ?_
              have e9 := (congrArg (mo_run1 n) epq).trans (run1_1 (q := (acc, ς)) h15 (by omega) ei hi8 (by have := c_57; rw [e_τ2] at this; exact this))
              dsimp only at e9
              exact ih (k + 1) (acc + 0) _ _ _ ls (by omega) (by omega) (by rw [mo_runp, e9, if_pos (by rw [← e_τ2]; exact c_79)]) (by rw [mo_runp, e9, e_τ3, e_τ2]) hP hD hS (lv_sub hl [0, 2] rfl)
            · -- on 82
              refine lv_iconst (v := 1) hx hb d_M_run_82 (by decide) ?_
              refine lv_goto (tgt := 87) hx hb d_M_run_83 (by decide) ?_
              refine lv_iadd hx hb d_M_run_87 ?_
              refine lv_istore_n (lv' := [(1, .int (acc + 1)), (2, .int (nI i)), (0, .ref (β 0))]) hx hb d_M_run_88 rfl hl (by decide) rfl (fun ls hl => ?_)
              refine lv_goto (tgt := 20) hx hb d_M_run_89 (by decide) ?_
              have e9 := (congrArg (mo_run1 n) epq).trans (run1_1 (q := (acc, ς)) h15 (by omega) ei hi8 (by have := c_57; rw [e_τ2] at this; exact this))
              dsimp only at e9
              exact ih (k + 1) (acc + 1) _ _ _ ls (by omega) (by omega) (by rw [mo_runp, e9, if_neg (by rw [← e_τ2]; exact c_79)]) (by rw [mo_runp, e9, e_τ3, e_τ2]) hP hD hS (lv_sub hl [0, 2] rfl)
          · -- on 60
            refine lv_aload_n hx hb d_M_run_60 rfl (lv_at hl 2 rfl) ?_
            refine lv_dup hx hb d_M_run_61 rfl ?_
            refine mw_get hx hb hts hown hK hP 16 (by decide) fl_M_110 (v := .int (τ2.1 16)) rfl d_M_run_62 ?_
            refine lv_iconst (v := 1) hx hb d_M_run_65 (by decide) ?_
            refine lv_iadd hx hb d_M_run_66 ?_
            refine mw_put hx hb hts hown hK hP hD hS 16 (by unfold mw_is; decide) fl_M_110 rfl rfl rfl d_M_run_67 (fun H locs hP hD hS => ?_)
            obtain ⟨τ4, e_τ4⟩ : ∃ ζ, ζ = m_f τ2 16 ((τ2.1 16) + 1) := ⟨_, rfl⟩
            rw [← e_τ4] at hP hD
            have hI : m_ok n τ4.1 := by rw [e_τ4]; exact (m_ok_f hI (by decide))
            refine lv_goto (tgt := 89) hx hb d_M_run_70 (by decide) ?_
            refine lv_goto (tgt := 20) hx hb d_M_run_89 (by decide) ?_
            have e9 := (congrArg (mo_run1 n) epq).trans (run1_0 (q := (acc, ς)) h15 (by omega) ei hi8 (by have := c_57; rw [e_τ2] at this; exact this))
            dsimp only at e9
            exact ih (k + 1) acc _ _ _ ls (by omega) (by omega) (by rw [mo_runp, e9]) (by rw [mo_runp, e9, e_τ4, e_τ2]) hP hD hS (lv_sub hl [1, 2] rfl)
    exact lp20 (t - r + 1) 0 _ _ _ _ ls (by omega) (by omega) rfl rfl hP hD hS (lv_sub hl [0, 1] rfl)
  · -- on 7
    exact absurd hc0 c_4
end
section
/-! bits of small numbers -/
theorem qb_or (a b : Nat) : nI a ||| nI b = nI (a ||| b) := by
  apply Int32.toBitVec_inj.1
  show BitVec.ofNat 32 a ||| BitVec.ofNat 32 b = BitVec.ofNat 32 (a ||| b)
  apply BitVec.eq_of_getLsbD_eq
  intro i hi
  simp [hi]
theorem qb_and (a b : Nat) : nI a &&& nI b = nI (a &&& b) := by
  apply Int32.toBitVec_inj.1
  show BitVec.ofNat 32 a &&& BitVec.ofNat 32 b = BitVec.ofNat 32 (a &&& b)
  apply BitVec.eq_of_getLsbD_eq
  intro i hi
  simp [hi]
theorem qb_sm : ∀ j, j < 32 → ((nI j &&& 31).toBitVec.smod 32).toNat = j := by decide +kernel
theorem qb_shl {j : Nat} (hj : j < 16) : (1 : Int32) <<< (nI j &&& 31) = nI (2 ^ j) := by
  have h : 2 ^ j < 2 ^ 16 := Nat.pow_lt_pow_right (by decide) hj
  have e := pk_shlN (n := 1) (nI j &&& 31) j (qb_sm j (by omega)) (by omega)
  rw [Nat.one_mul] at e
  exact e
/-- bit j of a small number -/
theorem qb_bit {k j : Nat} (hk : k < 65536) (hj : j < 16) : (nI k >>> (nI j &&& 31)) &&& 1 = nI (k / 2 ^ j % 2) := by
  rw [pk_shrN (by omega) (nI j &&& 31) j (qb_sm j (by omega))]
  exact pk_andN (n := k / 2 ^ j) (Nat.lt_of_le_of_lt (Nat.div_le_self _ _) (by omega)) 1 rfl
theorem qb_bit0 {k j : Nat} (hk : k < 65536) (hj : j < 16) : (nI k >>> (nI j &&& 31)) &&& 1 = 0 ↔ k.testBit j = false := by
  rw [qb_bit hk hj, ← nI_0, nI_eq (by omega) (by omega), Nat.testBit_eq_decide_div_mod_eq, decide_eq_false_iff_not]
  omega
theorem qb_bit1 {k j : Nat} (hk : k < 65536) (hj : j < 16) : (nI k >>> (nI j &&& 31)) &&& 1 = 1 ↔ k.testBit j = true := by
  rw [qb_bit hk hj, show (1 : Int32) = nI 1 from rfl, nI_eq (by omega) (by omega), Nat.testBit_eq_decide_div_mod_eq, decide_eq_true_iff]
/-- who holds what, as bits -/
def hbt (h : Nat → Int32) (d : Int32) : Nat → Nat
  | 0 => 0
  | j + 1 => if h j = d then hbt h d j ||| 2 ^ j else hbt h d j
theorem hbt_lt (h : Nat → Int32) (d : Int32) (j : Nat) : hbt h d j < 2 ^ j := by
  induction j with
  | zero => exact Nat.zero_lt_one
  | succ j ih =>
    unfold hbt
    have h2 : 2 ^ (j + 1) = 2 ^ j + 2 ^ j := by rw [Nat.pow_succ]; omega
    split
    · exact Nat.or_lt_two_pow (by omega) (by have := Nat.two_pow_pos j; omega)
    · omega
theorem hbt_bit (h : Nat → Int32) (d : Int32) (j z : Nat) : (hbt h d j).testBit z = (decide (z < j) && decide (h z = d)) := by
  induction j with
  | zero => simp [hbt]
  | succ j ih =>
    unfold hbt
    by_cases hz : z = j
    · subst hz
      split
      · rename_i e
        simp [Nat.testBit_or, e, Nat.testBit_two_pow_self]
      · rename_i e
        simp [ih, e]
    · have e1 : decide (z < j + 1) = decide (z < j) := by simp; omega
      split
      · rw [Nat.testBit_or, ih, Nat.testBit_two_pow_of_ne (Ne.symm hz), Bool.or_false, e1]
      · rw [ih, e1]
theorem kd_heldp_hbt (h : Nat → Int32) (d : Int32) {j : Nat} (hj : j ≤ 16) : kd_heldp h d j = nI (hbt h d j) := by
  induction j with
  | zero => rfl
  | succ j ih =>
    unfold kd_heldp hbt
    rw [ih (by omega)]
    split
    · rw [qb_shl (by omega), qb_or]
    · rfl
theorem mo_heldp_hbt (h : Nat → Int32) (d : Int32) {j : Nat} (hj : j ≤ 16) : mo_heldp h d j = nI (hbt h d j) := by
  induction j with
  | zero => rfl
  | succ j ih =>
    unfold mo_heldp hbt
    rw [ih (by omega)]
    split
    · rw [qb_shl (by omega), qb_or]
    · rw [show (0 : Int32) = nI 0 from rfl, qb_or, Nat.or_zero]
theorem hbt_congr {h h' : Nat → Int32} {d : Int32} {j : Nat} (e : ∀ z, z < j → h z = h' z) : hbt h d j = hbt h' d j := by
  induction j with
  | zero => rfl
  | succ j ih =>
    unfold hbt
    rw [ih (fun z hz => e z (by omega)), e j (by omega)]
/-! the two states tell the same; e: a desk whose state and failing act aren't spoken of -/
def sm (n e : Nat) (σ : kS) (τ : mS) : Prop :=
  (∀ i, i < n → σ.2.2.1 i 0 = nI i) ∧
  (∀ i, i < n → τ.2 2 i = σ.2.2.1 i 1 ∧ τ.2 4 i = σ.2.2.1 i 4 ∧ τ.2 5 i = σ.2.2.1 i 5 ∧ τ.2 10 i = σ.2.2.1 i 6 ∧ τ.2 11 i = σ.2.2.1 i 7) ∧
  (∀ i, i < n → i ≠ e → τ.2 6 i = kd_cond σ i ∧ τ.2 3 i = σ.2.2.1 i 3) ∧
  (∀ i, i < n → ∀ j, j < 12 → τ.2 7 (12 * i + j) = σ.2.2.2 i j) ∧
  (∀ z, z < 16 → τ.2 8 z = σ.2.1 0 z) ∧ (∀ z, z < 16 → σ.2.1 0 z ≠ -1 → τ.2 9 z = σ.2.1 1 z) ∧
  (τ.1 12 = σ.1 4 ∧ τ.1 14 = σ.1 6 ∧ τ.1 16 = σ.1 8 ∧ τ.1 17 = σ.1 10 ∧ τ.1 19 = σ.1 11 ∧ τ.1 20 = σ.1 12) ∧
  (∀ j, j < 300 → τ.2 13 j = σ.2.1 2 j) ∧ (∀ j, j < 400 → τ.2 18 j = σ.2.1 3 j)
/-- what the system's own state keeps -/
def iv (n : Nat) (σ : kS) : Prop :=
  (∀ i, i < n → ∃ a p, 1 ≤ a ∧ a ≤ 12 ∧ p ≤ a ∧ σ.2.2.1 i 1 = nI a ∧ σ.2.2.1 i 4 = nI p) ∧
  (∀ z, z < 16 → σ.2.1 0 z = -1 ∨ ∃ i, i < n ∧ σ.2.1 0 z = nI i) ∧
  (∀ i, i < n → σ.2.2.1 i 6 = -1 ∨ ((∃ z, z < 16 ∧ σ.2.2.1 i 6 = nI z) ∧ σ.2.2.1 i 8 = 0 ∧ σ.2.2.1 i 9 = 0 ∧ σ.2.2.1 i 4 < σ.2.2.1 i 1)) ∧
  (∀ i, i < n → ∀ j, j < 12 → ∃ b, b < 65536 ∧ σ.2.2.2 i j = nI b)
theorem nI_m1 {i : Nat} (h : i < 2 ^ 31) : nI i ≠ -1 := by
  intro e
  have h1 : (nI i).toInt = i := nI_toInt h
  rw [e] at h1
  have h2 : (-1 : Int32).toInt = -1 := by decide
  omega
/-- the waiters ahead of one -/
theorem sm_wap {n e : Nat} {σ : kS} {τ : mS} (h : sm n e σ τ) {i : Nat} (hi : i < n) {j : Nat} (hj : j ≤ n) : kd_wap σ i j = mo_ahp τ (σ.2.2.1 i 6) i j := by
  induction j with
  | zero => rfl
  | succ j ih =>
    unfold kd_wap mo_ahp
    obtain ⟨-, -, -, q1, q2⟩ := h.2.1 j (by omega)
    obtain ⟨-, -, -, r1, r2⟩ := h.2.1 i hi
    rw [ih (by omega), q1, q2, r2]
    split
    · split
      · rw [Int32.add_zero]
      · rfl
    · rw [Int32.add_zero]
theorem sm_wtp {n e : Nat} {σ : kS} {τ : mS} (h : sm n e σ τ) (x y : Int32) {j : Nat} (hj : j ≤ n) : kd_wfp σ n x y j = mo_wtp τ n x y j := by
  induction j with
  | zero => rfl
  | succ j ih =>
    unfold kd_wfp mo_wtp
    obtain ⟨-, -, -, q1, q2⟩ := h.2.1 j (by omega)
    rw [ih (by omega), q1]
    split
    · rfl
    · split
      · rename_i e1
        rw [sm_wap h (by omega) (Nat.le_refl n), e1]
      · rfl
end
section
/-! the first that waits -/
theorem i32_le_total (a b : Int32) : a ≤ b ∨ b < a := by
  rw [Int32.le_iff_toInt_le, Int32.lt_iff_toInt_lt]; omega
theorem i32_nle {a b : Int32} (h : b < a) : ¬ a ≤ b := by
  rw [Int32.le_iff_toInt_le]; rw [Int32.lt_iff_toInt_lt] at h; omega
theorem i32_le_trans {a b c : Int32} (h : a ≤ b) (h2 : b ≤ c) : a ≤ c := by
  rw [Int32.le_iff_toInt_le] at *; omega
theorem i32_lt_le {a b c : Int32} (h : a < b) (h2 : b ≤ c) : a ≤ c := by
  rw [Int32.lt_iff_toInt_lt] at h; rw [Int32.le_iff_toInt_le] at *; omega
theorem i32_le_lt {a b c : Int32} (h : a < b) (h2 : b ≤ c) : a < c := by
  rw [Int32.lt_iff_toInt_lt] at *; rw [Int32.le_iff_toInt_le] at h2; omega
theorem i32_lt_trans {a b c : Int32} (h : a < b) (h2 : b < c) : a < c := by
  rw [Int32.lt_iff_toInt_lt] at *; omega
theorem i32_le_refl (a : Int32) : a ≤ a := by rw [Int32.le_iff_toInt_le]; omega
/-- what 'first' has found among the first m -/
theorem mo_first_is (τ : mS) (x : Int32) (m : Nat) (hm : m < 2 ^ 31) :
    (mo_firstp τ x m = -1 ∧ ∀ k, k < m → τ.2 10 k ≠ x) ∨
    ∃ j, j < m ∧ mo_firstp τ x m = nI j ∧ τ.2 10 j = x ∧ (∀ k, k < m → τ.2 10 k = x → τ.2 11 j ≤ τ.2 11 k) ∧ (∀ k, k < j → τ.2 10 k = x → τ.2 11 j < τ.2 11 k) := by
  induction m with
  | zero => exact Or.inl ⟨rfl, fun k h => absurd h (by omega)⟩
  | succ m ih =>
    unfold mo_firstp
    rcases ih (by omega) with ⟨h1, h2⟩ | ⟨j, hj, h1, h2, h3, h4⟩
    · rw [h1]
      by_cases hx : τ.2 10 m = x
      · refine Or.inr ⟨m, by omega, ?_, hx, fun k hk hkx => ?_, fun k hk hkx => absurd hkx (h2 k hk)⟩
        · rw [if_pos hx, if_pos (by decide)]
        · by_cases e : k = m
          · subst e; exact i32_le_refl _
          · exact absurd hkx (h2 k (by omega))
      · refine Or.inl ⟨by rw [if_neg hx], fun k hk => ?_⟩
        by_cases e : k = m
        · subst e; exact hx
        · exact h2 k (by omega)
    · rw [h1]
      have hjn : ¬ nI j < 0 := nI_pos (by omega)
      by_cases hx : τ.2 10 m = x
      · rw [if_pos hx, if_neg hjn, nI_clamp (by omega)]
        by_cases hle : τ.2 11 j ≤ τ.2 11 m
        · rw [if_pos hle]
          refine Or.inr ⟨j, by omega, rfl, h2, fun k hk hkx => ?_, h4⟩
          by_cases e : k = m
          · subst e; exact hle
          · exact h3 k (by omega) hkx
        · rw [if_neg hle]
          have hlt := i32_lt_of hle
          refine Or.inr ⟨m, by omega, rfl, hx, fun k hk hkx => ?_, fun k hk hkx => i32_le_lt hlt (h3 k hk hkx)⟩
          by_cases e : k = m
          · subst e; exact i32_le_refl _
          · exact i32_lt_le hlt (h3 k (by omega) hkx)
      · rw [if_neg hx]
        refine Or.inr ⟨j, by omega, rfl, h2, fun k hk hkx => ?_, h4⟩
        by_cases e : k = m
        · subst e; exact absurd hkx hx
        · exact h3 k (by omega) hkx
/-- how many are ahead: none, or not none -/
theorem kd_wap_is (σ : kS) (i m : Nat) : ∃ c, c ≤ m ∧ kd_wap σ i m = nI c ∧ (c = 0 ↔ ∀ k, k < m → σ.2.2.1 k 6 = σ.2.2.1 i 6 → σ.2.2.1 i 7 ≤ σ.2.2.1 k 7) := by
  induction m with
  | zero => exact ⟨0, Nat.le_refl 0, rfl, fun _ k h => absurd h (by omega), fun _ => rfl⟩
  | succ m ih =>
    obtain ⟨c, hc, e, hz⟩ := ih
    unfold kd_wap
    rw [e]
    by_cases h1 : σ.2.2.1 m 6 = σ.2.2.1 i 6
    · rw [if_pos h1]
      by_cases h2 : σ.2.2.1 i 7 ≤ σ.2.2.1 m 7
      · rw [if_pos h2]
        refine ⟨c, by omega, rfl, fun h k hk hkx => ?_, fun h => hz.mpr (fun k hk hkx => h k (by omega) hkx)⟩
        by_cases e : k = m
        · subst e; exact h2
        · exact hz.mp h k (by omega) hkx
      · rw [if_neg h2]
        exact ⟨c + 1, by omega, by rw [nI_1], fun h => by omega, fun h => absurd (h m (by omega) h1) h2⟩
    · rw [if_neg h1]
      refine ⟨c, by omega, rfl, fun h k hk hkx => ?_, fun h => hz.mpr (fun k hk hkx => h k (by omega) hkx)⟩
      by_cases e : k = m
      · subst e; exact absurd hkx h1
      · exact hz.mp h k (by omega) hkx
theorem kd_wap_0 (σ : kS) (i m : Nat) (hm : m < 2 ^ 31) : kd_wap σ i m = 0 ↔ ∀ k, k < m → σ.2.2.1 k 6 = σ.2.2.1 i 6 → σ.2.2.1 i 7 ≤ σ.2.2.1 k 7 := by
  obtain ⟨c, hc, e, hz⟩ := kd_wap_is σ i m
  rw [e, ← hz, ← nI_0, nI_eq (by omega) (by omega)]
theorem kd_wfp_none {σ : kS} {n : Nat} {x y : Int32} {m : Nat} (h : kd_wfp σ n x y m = none) : ∀ k, k < m → ¬ (σ.2.2.1 k 6 = x ∧ kd_wap σ k n = y) := by
  induction m with
  | zero => exact fun k hk => absurd hk (by omega)
  | succ m ih =>
    intro k hk ⟨h1, h2⟩
    unfold kd_wfp at h
    cases hm : kd_wfp σ n x y m with
    | some q => rw [hm] at h; cases h
    | none =>
      rw [hm] at h
      by_cases e : k = m
      · subst e
        dsimp only at h
        rw [if_pos h1, if_pos h2] at h
        cases h
      · exact ih hm k (by omega) ⟨h1, h2⟩
theorem kd_wfp_some {σ : kS} {n : Nat} {x y : Int32} {m j : Nat} (h : kd_wfp σ n x y m = some j) : j < m ∧ σ.2.2.1 j 6 = x ∧ kd_wap σ j n = y ∧ ∀ k, k < j → ¬ (σ.2.2.1 k 6 = x ∧ kd_wap σ k n = y) := by
  induction m with
  | zero => cases h
  | succ m ih =>
    unfold kd_wfp at h
    cases hm : kd_wfp σ n x y m with
    | some q =>
      rw [hm] at h
      cases h
      obtain ⟨a, b⟩ := ih hm
      exact ⟨by omega, b⟩
    | none =>
      rw [hm] at h
      dsimp only at h
      by_cases h1 : σ.2.2.1 m 6 = x
      · rw [if_pos h1] at h
        by_cases h2 : kd_wap σ m n = y
        · rw [if_pos h2] at h
          cases h
          exact ⟨by omega, h1, h2, kd_wfp_none hm⟩
        · rw [if_neg h2] at h; cases h
      · rw [if_neg h1] at h; cases h
/-- the first that waits is the same -/
theorem sm_first {n e : Nat} {σ : kS} {τ : mS} (h : sm n e σ τ) (hn : n ≤ 8) (x : Int32) : mo_firstp τ x n = (match kd_wfp σ n x 0 n with
    | some j => nI j
    | none => -1) := by
  have q6 : ∀ k, k < n → τ.2 10 k = σ.2.2.1 k 6 := fun k hk => (h.2.1 k hk).2.2.2.1
  have q7 : ∀ k, k < n → τ.2 11 k = σ.2.2.1 k 7 := fun k hk => (h.2.1 k hk).2.2.2.2
  rcases mo_first_is τ x n (by omega) with ⟨h1, h2⟩ | ⟨j, hj, h1, h2, h3, h4⟩
  · rw [h1]
    cases hw : kd_wfp σ n x 0 n with
    | none => rfl
    | some k =>
      obtain ⟨a, b, -⟩ := kd_wfp_some hw
      exact absurd (by rw [q6 k a]; exact b) (h2 k a)
  · rw [h1]
    have hG : σ.2.2.1 j 6 = x ∧ kd_wap σ j n = 0 := by
      refine ⟨by rw [← q6 j hj]; exact h2, (kd_wap_0 σ j n (by omega)).mpr (fun k hk hkx => ?_)⟩
      rw [← q7 j hj, ← q7 k hk]
      exact h3 k hk (by rw [q6 k hk, hkx, ← q6 j hj]; exact h2)
    cases hw : kd_wfp σ n x 0 n with
    | none => exact absurd hG (kd_wfp_none hw j hj)
    | some k =>
      obtain ⟨a, b, c, d⟩ := kd_wfp_some hw
      have hkj : k = j := by
        rcases Nat.lt_trichotomy k j with q | q | q
        · have g1 := (kd_wap_0 σ k n (by omega)).mp c j hj (by rw [hG.1, b])
          have g2 := h4 k q (by rw [q6 k a]; exact b)
          rw [q7 j hj, q7 k a] at g2
          exact absurd g1 (i32_nle g2)
        · exact q
        · exact absurd hG (d j q)
      rw [hkj]
end
section
theorem kd_wap_congr {σ σ' : kS} (h : σ.2.2.1 = σ'.2.2.1) (i m : Nat) : kd_wap σ i m = kd_wap σ' i m := by
  induction m with
  | zero => rfl
  | succ m ih => unfold kd_wap; rw [ih, h]
theorem kd_wfp_congr {σ σ' : kS} (h : σ.2.2.1 = σ'.2.2.1) (n : Nat) (x y : Int32) (m : Nat) : kd_wfp σ n x y m = kd_wfp σ' n x y m := by
  induction m with
  | zero => rfl
  | succ m ih => unfold kd_wfp; rw [ih, h, kd_wap_congr h]
theorem kd_cond_congr {σ σ' : kS} {i : Nat} (h : σ.2.2.1 i = σ'.2.2.1 i) : kd_cond σ i = kd_cond σ' i := by unfold kd_cond; rw [h]
/-- a subject is given back -/
theorem sm_gb {n e z : Nat} {σ : kS} {τ : mS} (h : sm n e σ τ) (hv : iv n σ) (hn : n ≤ 8) (he : e < n → σ.2.2.1 e 6 = -1) (hz : z < 16) :
    sm n e (kd_gb n σ z) (mo_gb n τ z) ∧ iv n (kd_gb n σ z) ∧ (∀ i f, f ≠ 6 → (kd_gb n σ z).2.2.1 i f = σ.2.2.1 i f) ∧ (∀ i, σ.2.2.1 i 6 = -1 → (kd_gb n σ z).2.2.1 i 6 = -1) ∧ (∀ w, w ≠ z → (kd_gb n σ z).2.1 0 w = σ.2.1 0 w) ∧ (kd_gb n σ z).2.2.2 = σ.2.2.2 ∧ (∀ w, (kd_gb n σ z).2.1 2 w = σ.2.1 2 w) ∧ (∀ i, i < n → σ.2.2.1 i 6 = -1 → (mo_gb n τ z).2 6 i = τ.2 6 i) ∧ (∀ i, (mo_gb n τ z).2 3 i = τ.2 3 i) := by
  obtain ⟨s1, s2, s3, s4, s5, s6, s7, s8, s9⟩ := h
  obtain ⟨v1, v2, v3, v4⟩ := hv
  have hf := sm_first (x := nI z) ⟨s1, s2, s3, s4, s5, s6, s7, s8, s9⟩ hn
  unfold kd_gb mo_gb
  dsimp only
  rw [kd_wfp_congr (σ := k_a σ 0 z (-1)) (σ' := σ) rfl, hf]
  cases hw : kd_wfp σ n (nI z) 0 n with
  | none =>
    dsimp only
    rw [if_pos (show (-1 : Int32) < 0 by decide)]
    refine ⟨⟨s1, ?_, ?_, ?_, ?_, ?_, s7, ?_, ?_⟩, ⟨v1, ?_, v3, v4⟩, fun i f _ => rfl, fun i q => q, ?_, rfl, ?_, ?_, ?_⟩
    · intro i hi; simp only [ma_2]; exact s2 i hi
    · intro i hi hie; simp only [ma_2]; exact s3 i hi hie
    · intro i hi j hj; simp only [ma_2]; exact s4 i hi j hj
    · intro w hw2
      by_cases e : w = z
      · subst e; simp [ma_2, ka_2]
      · simp [ma_2, ka_2, e]; exact s5 w hw2
    · intro w hw2 hne
      by_cases e : w = z
      · subst e; simp [ka_2] at hne
      · simp [ma_2, ka_2, e] at hne ⊢; exact s6 w hw2 hne
    · intro j hj; simp [ma_2, ka_2]; exact s8 j hj
    · intro j hj; simp [ma_2, ka_2]; exact s9 j hj
    · intro w hw2
      by_cases e : w = z
      · subst e; exact Or.inl (by simp [ka_2])
      · rw [show (k_a σ 0 z (-1)).2.1 0 w = σ.2.1 0 w by simp [ka_2, e]]; exact v2 w hw2
    · intro w hw2; simp [ka_2, hw2]
    · intro w; simp [ka_2]
    · intro i _ _; simp [ma_2]
    · intro i; simp [ma_2]
  | some j =>
    dsimp only
    obtain ⟨hj, hj6, -, -⟩ := kd_wfp_some hw
    have hjz : σ.2.2.1 j 6 ≠ -1 := by rw [hj6]; exact nI_m1 (by omega)
    have hje : j ≠ e := fun q => by subst q; exact hjz (he hj)
    rw [if_neg (nI_pos (by omega)), nI_clamp (by omega)]
    obtain ⟨-, w8, w9, w4⟩ := (v3 j hj).resolve_left hjz
    refine ⟨⟨?_, ?_, ?_, ?_, ?_, ?_, ?_, ?_, ?_⟩, ⟨?_, ?_, ?_, ?_⟩, ?_, ?_, ?_, rfl, ?_, ?_, ?_⟩
    · intro i hi
      rw [kt_3, ka_3]
      by_cases q : i = j
      · rw [if_pos q, if_neg (by decide)]; exact s1 i hi
      · rw [if_neg q]; exact s1 i hi
    · intro i hi
      obtain ⟨a1, a3, a4, a5, a6⟩ := s2 i hi
      by_cases q : i = j
      · subst q; simp [ma_2, kt_3, ka_3, a1, a3, a4, a6]
      · simp [ma_2, kt_3, ka_3, q, a1, a3, a4, a5, a6]
    · intro i hi hie
      by_cases q : i = j
      · subst q
        have e1 : kd_cond (kd_take (k_a σ 0 z (-1)) i z) i = 0 := by
          unfold kd_cond
          simp [kt_3, ka_3, w8, w9, w4]
        rw [e1]
        have := (s3 i hi hie).2
        simp [ma_2, kt_3, ka_3, this]
      · rw [kd_cond_congr (σ' := σ) (by funext g; simp [kt_3, ka_3, q])]
        simp [ma_2, kt_3, ka_3, q]
        exact s3 i hi hie
    · intro i hi k hk; simp only [ma_2, kt_4, ka_3]; exact s4 i hi k hk
    · intro w hw2
      by_cases q : w = z
      · subst q; simp [ma_2, kt_2, ka_3, s1 j hj]
      · simp [ma_2, kt_2, ka_2, q]; exact s5 w hw2
    · intro w hw2 hne
      by_cases q : w = z
      · subst q; simp [ma_2, ma_1, kt_2, ka_1]; exact s7.2.2.2.2.1
      · simp [ma_2, kt_2, ka_2, q] at hne ⊢; exact s6 w hw2 hne
    · exact s7
    · intro k hk; simp [ma_2, kt_2, ka_2]; exact s8 k hk
    · intro k hk; simp [ma_2, kt_2, ka_2]; exact s9 k hk
    · intro i hi
      obtain ⟨a, p, a1, a2, a3, a4, a5⟩ := v1 i hi
      exact ⟨a, p, a1, a2, a3, by simp [kt_3, ka_3, a4], by simp [kt_3, ka_3, a5]⟩
    · intro w hw2
      by_cases q : w = z
      · subst q; exact Or.inr ⟨j, hj, by simp [kt_2, ka_3, s1 j hj]⟩
      · rw [show (kd_take (k_a σ 0 z (-1)) j z).2.1 0 w = σ.2.1 0 w by simp [kt_2, ka_2, q]]; exact v2 w hw2
    · intro i hi
      by_cases q : i = j
      · subst q; exact Or.inl (by simp [kt_3])
      · have e1 : ∀ g, (kd_take (k_a σ 0 z (-1)) j z).2.2.1 i g = σ.2.2.1 i g := fun g => by simp [kt_3, ka_3, q]
        rw [e1, e1, e1, e1, e1]; exact v3 i hi
    · exact v4
    · intro i f hf6; simp [kt_3, ka_3, hf6]
    · intro i hi6
      by_cases q : i = j
      · simp [kt_3, q]
      · simp [kt_3, ka_3, q, hi6]
    · intro w hw2; simp [kt_2, ka_2, hw2]
    · intro w; simp [kt_2, ka_2]
    · intro i _ hi6
      have q : i ≠ j := fun q => by subst q; exact hjz hi6
      simp [ma_2, q]
    · intro i; simp [ma_2]
end
section
/-- all that a desk holds is given back -/
theorem sm_gba {n i : Nat} {σ : kS} {τ : mS} (h : sm n i σ τ) (hv : iv n σ) (hn : n ≤ 8) (hi : i < n) (he : σ.2.2.1 i 6 = -1) {j : Nat} (hj : j ≤ 16) :
    sm n i (kd_gba n σ i j) (mo_gap n (mo_held τ (nI i)) τ j) ∧ iv n (kd_gba n σ i j) ∧ (∀ k f, f ≠ 6 → (kd_gba n σ i j).2.2.1 k f = σ.2.2.1 k f) ∧ (kd_gba n σ i j).2.2.1 i 6 = -1 ∧ (∀ w, j ≤ w → (kd_gba n σ i j).2.1 0 w = σ.2.1 0 w) ∧ (kd_gba n σ i j).2.2.2 = σ.2.2.2 ∧ (∀ w, (kd_gba n σ i j).2.1 2 w = σ.2.1 2 w) ∧ (mo_gap n (mo_held τ (nI i)) τ j).2 6 i = τ.2 6 i ∧ (∀ k, (mo_gap n (mo_held τ (nI i)) τ j).2 3 k = τ.2 3 k) := by
  have hbit : ∀ z, z < 16 → ((mo_held τ (nI i) >>> (nI z &&& 31)) &&& 1 = 1 ↔ σ.2.1 0 z = nI i) := by
    intro z hz
    have hlt := hbt_lt (τ.2 8) (nI i) 16
    rw [show mo_held τ (nI i) = nI (hbt (τ.2 8) (nI i) 16) from mo_heldp_hbt _ _ (Nat.le_refl 16), qb_bit1 hlt hz, hbt_bit]
    rw [h.2.2.2.2.1 z hz]
    simp [hz]
  induction j with
  | zero => exact ⟨h, hv, fun _ _ _ => rfl, he, fun _ _ => rfl, rfl, fun _ => rfl, rfl, fun _ => rfl⟩
  | succ j ih =>
    obtain ⟨q1, q2, q3, q4, q5, q6, q7, q8, q9⟩ := ih (by omega)
    have hnum : (kd_gba n σ i j).2.2.1 i 0 = nI i := by rw [q3 i 0 (by decide)]; exact h.1 i hi
    unfold kd_gba mo_gap
    by_cases hc : σ.2.1 0 j = nI i
    · rw [if_pos (by rw [q5 j (Nat.le_refl j), hnum]; exact hc), if_pos ((hbit j (by omega)).mpr hc)]
      obtain ⟨g1, g2, g3, g4, g5, g6, g7, g8, g9⟩ := sm_gb q1 q2 hn (fun _ => q4) (show j < 16 by omega)
      exact ⟨g1, g2, fun k f hf => (g3 k f hf).trans (q3 k f hf), g4 i q4, fun w hw => (g5 w (by omega)).trans (q5 w (by omega)), g6.trans q6, fun w => (g7 w).trans (q7 w), (g8 i hi q4).trans q8, fun k => (g9 k).trans (q9 k)⟩
    · rw [if_neg (by rw [q5 j (Nat.le_refl j), hnum]; exact hc), if_neg (fun z => hc ((hbit j (by omega)).mp z))]
      exact ⟨q1, q2, q3, q4, fun w hw => q5 w (by omega), q6, q7, q8, q9⟩
/-- told in the log -/
theorem sm_tell {n e i : Nat} {σ : kS} {τ : mS} (h : sm n e σ τ) (hi : i < n) (w : Int32) : sm n e (kd_tell σ w i) (mo_write τ w i) ∧ (kd_tell σ w i).2.2 = σ.2.2 ∧ (∀ z, (kd_tell σ w i).2.1 0 z = σ.2.1 0 z) ∧ (∀ z, (kd_tell σ w i).2.1 2 z = σ.2.1 2 z) := by
  obtain ⟨s1, s2, s3, s4, s5, s6, ⟨t1, t2, t4, t5, t6, t7⟩, s8, s9⟩ := h
  unfold kd_tell mo_write
  rw [t5]
  by_cases hc : (400 : Int32) ≤ σ.1 10
  · rw [if_pos hc, if_pos hc]
    exact ⟨⟨s1, s2, s3, s4, s5, s6, ⟨t1, t2, t4, t5, t6, t7⟩, s8, s9⟩, rfl, fun _ => rfl, fun _ => rfl⟩
  · rw [if_neg hc, if_neg hc]
    dsimp only
    refine ⟨⟨s1, ?_, ?_, ?_, ?_, ?_, ⟨?_, ?_, ?_, ?_, ?_, ?_⟩, ?_, ?_⟩, rfl, ?_, ?_⟩
    · intro k hk; simp only [mf_2, ma_2]; exact s2 k hk
    · intro k hk hke; simp only [mf_2, ma_2]; exact s3 k hk hke
    · intro k hk j hj; simp only [mf_2, ma_2]; exact s4 k hk j hj
    · intro z hz; simp [mf_2, ma_2, kf_2, ka_2]; exact s5 z hz
    · intro z hz hne; simp [mf_2, ma_2, kf_2, ka_2] at hne ⊢; exact s6 z hz hne
    · simp [mf_1, kf_1, ma_1, ka_1, t1]
    · simp [mf_1, kf_1, ma_1, ka_1, t2]
    · simp [mf_1, kf_1, ma_1, ka_1, t4]
    · simp [mf_1, kf_1, ma_1, ka_1, t5]
    · simp [mf_1, kf_1, ma_1, ka_1, t6]
    · simp [mf_1, kf_1, ma_1, ka_1, t7]
    · intro j hj; simp [mf_2, ma_2, kf_2, ka_2]; exact s8 j hj
    · intro j hj
      simp only [mf_2, ma_2, kf_2, ka_2, if_true]
      obtain ⟨-, a3, -⟩ := s2 i hi
      split
      · rw [a3, s1 i hi]
      · exact s9 j hj
    · intro z; simp [kf_2, ka_2]
    · intro z; simp [kf_2, ka_2]
theorem iv_congr {n : Nat} {σ σ' : kS} (h : iv n σ) (h1 : σ'.2.2 = σ.2.2) (h2 : ∀ z, σ'.2.1 0 z = σ.2.1 0 z) : iv n σ' := by
  obtain ⟨v1, v2, v3, v4⟩ := h
  refine ⟨?_, ?_, ?_, ?_⟩
  · rw [h1]; exact v1
  · intro z hz; rw [h2]; exact v2 z hz
  · rw [h1]; exact v3
  · rw [h1]; exact v4
end
section
/-! a turn -/
theorem tb_hi {b i : Nat} (hb : b < 65536) (h : ¬ i < 16) : b.testBit i = false := by
  have h2 : 2 ^ 16 ≤ 2 ^ i := Nat.pow_le_pow_right (n := 2) (by decide) (by omega)
  exact Nat.testBit_lt_two_pow (by omega)
theorem qb_wants {b v : Nat} (hb : b < 65536) : nI b &&& (nI v ^^^ (-1)) = nI (b &&& (v ^^^ 65535)) := by
  have e : (-1 : Int32).toBitVec = BitVec.allOnes 32 := by decide
  have e1 : ∀ k, (nI k).toBitVec = BitVec.ofNat 32 k := fun _ => rfl
  apply Int32.toBitVec_inj.1
  rw [Int32.toBitVec_and, Int32.toBitVec_xor, e, e1, e1, e1]
  apply BitVec.eq_of_getLsbD_eq
  intro i hi
  have h16 : (65535 : Nat).testBit i = decide (i < 16) := Nat.testBit_two_pow_sub_one 16 i
  simp only [BitVec.getLsbD_and, BitVec.getLsbD_xor, BitVec.getLsbD_ofNat, BitVec.getLsbD_allOnes, Nat.testBit_and, Nat.testBit_xor, h16, decide_eq_true hi, Bool.true_and]
  by_cases h : i < 16
  · rw [decide_eq_true h]
  · rw [tb_hi hb h, Bool.false_and, Bool.false_and]
/-- the least bit of a small number -/
theorem lowp_bit {w : Nat} (hw : w < 65536) {j : Nat} (hj : j ≤ 16) : (mo_lowp (nI w) j = none ∧ ∀ z, z < j → w.testBit z = false) ∨ ∃ q, q < j ∧ mo_lowp (nI w) j = some q ∧ w.testBit q = true ∧ ∀ z, z < q → w.testBit z = false := by
  induction j with
  | zero => exact Or.inl ⟨rfl, fun z hz => absurd hz (by omega)⟩
  | succ j ih =>
    unfold mo_lowp
    rcases ih (by omega) with ⟨h1, h2⟩ | ⟨q, hq, h1, h2, h3⟩
    · rw [h1]
      dsimp only
      by_cases hb : w.testBit j = false
      · rw [if_pos ((qb_bit0 hw (by omega)).mpr hb)]
        refine Or.inl ⟨rfl, fun z hz => ?_⟩
        by_cases e : z = j
        · subst e; exact hb
        · exact h2 z (by omega)
      · rw [if_neg (fun z => hb ((qb_bit0 hw (by omega)).mp z))]
        exact Or.inr ⟨j, by omega, rfl, by simpa using hb, h2⟩
    · rw [h1]
      exact Or.inr ⟨q, by omega, rfl, h2, h3⟩
/-- what the reference wants, as bits -/
theorem wants_bits {n e i p : Nat} {σ : kS} {τ : mS} (h : sm n e σ τ) (hv : iv n σ) (hn : n ≤ 8) (hi : i < n) (hp : p < 12) (ep : σ.2.2.1 i 4 = nI p) :
    ∃ w, w < 65536 ∧ mo_wants τ i = nI w ∧ ∀ z, z < 16 → (w.testBit z = false ↔ (kd_has σ i (σ.2.2.1 i 4) (nI z) = 0 ∨ σ.2.1 0 z = σ.2.2.1 i 0)) := by
  obtain ⟨b, hb, eb⟩ := hv.2.2.2 i hi p hp
  have e4 : τ.2 4 i = nI p := by rw [(h.2.1 i hi).2.1]; exact ep
  have e7 : (12 * nI i + τ.2 4 i).toNatClampNeg = 12 * i + p := by
    rw [e4, show (12 : Int32) = nI 12 from rfl, pk_mul, nI_add, nI_clamp (by omega)]
  have hlt := hbt_lt (τ.2 8) (nI i) 16
  refine ⟨b &&& (hbt (τ.2 8) (nI i) 16 ^^^ 65535), Nat.lt_of_le_of_lt Nat.and_le_left hb, ?_, fun z hz => ?_⟩
  · unfold mo_wants
    rw [e7, h.2.2.2.1 i hi p hp, eb, show mo_held τ (nI i) = nI (hbt (τ.2 8) (nI i) 16) from mo_heldp_hbt _ _ (Nat.le_refl 16), qb_wants hb]
  · have h16 : (65535 : Nat).testBit z = true := by rw [show (65535 : Nat) = 2 ^ 16 - 1 from rfl, Nat.testBit_two_pow_sub_one]; simp [hz]
    have hh : kd_has σ i (σ.2.2.1 i 4) (nI z) = 0 ↔ b.testBit z = false := by
      unfold kd_has
      rw [ep, if_neg (nI_pos (by omega)), if_neg (show ¬ (12 : Int32) ≤ nI p from nI_ge (b := 12) hp (by decide)), nI_clamp (by omega), eb]
      rw [← qb_bit0 hb hz]
      by_cases c : (nI b >>> (nI z &&& 31)) &&& 1 = 0
      · rw [if_pos c]; exact ⟨fun _ => c, fun _ => rfl⟩
      · rw [if_neg c]; exact ⟨fun q => absurd q (by decide), fun q => absurd q c⟩
    rw [hh, Nat.testBit_and, Nat.testBit_xor, h16, hbt_bit, h.2.2.2.2.1 z hz, h.1 i hi]
    by_cases c : σ.2.1 0 z = nI i <;> cases b.testBit z <;> simp [hz, c]
theorem llp_low {n e i p : Nat} {σ : kS} {τ : mS} (h : sm n e σ τ) (hv : iv n σ) (hn : n ≤ 8) (hi : i < n) (hp : p < 12) (ep : σ.2.2.1 i 4 = nI p) :
    ∀ j, j ≤ 16 → kd_llp σ i j = mo_lowp (mo_wants τ i) j := by
  obtain ⟨w, hw, ew, hz⟩ := wants_bits h hv hn hi hp ep
  intro j hj
  rw [ew]
  induction j with
  | zero => rfl
  | succ j ih =>
    unfold kd_llp mo_lowp
    rw [ih (by omega)]
    split
    · rfl
    · have hzz := hz j (by omega)
      rw [← qb_bit0 hw (show j < 16 by omega)] at hzz
      by_cases c : (nI w >>> (nI j &&& 31)) &&& 1 = 0
      · rw [if_pos c]
        rcases hzz.mp c with q | q
        · rw [if_pos q]
        · by_cases q2 : kd_has σ i (σ.2.2.1 i 4) (nI j) = 0
          · rw [if_pos q2]
          · rw [if_neg q2, if_pos q]
      · rw [if_neg c]
        have g : ¬ (kd_has σ i (σ.2.2.1 i 4) (nI j) = 0 ∨ σ.2.1 0 j = σ.2.2.1 i 0) := fun q => c (hzz.mpr q)
        rw [if_neg (fun q => g (Or.inl q)), if_neg (fun q => g (Or.inr q))]
theorem wants_0 {n e i p : Nat} {σ : kS} {τ : mS} (h : sm n e σ τ) (hv : iv n σ) (hn : n ≤ 8) (hi : i < n) (hp : p < 12) (ep : σ.2.2.1 i 4 = nI p) : mo_wants τ i = 0 ↔ kd_llp σ i 16 = none := by
  rw [llp_low h hv hn hi hp ep 16 (Nat.le_refl 16)]
  obtain ⟨w, hw, ew, -⟩ := wants_bits h hv hn hi hp ep
  rw [ew, ← nI_0, nI_eq (by omega) (by omega)]
  rcases lowp_bit hw (Nat.le_refl 16) with ⟨h1, h2⟩ | ⟨q, hq, h1, h2, h3⟩
  · rw [h1]
    refine ⟨fun _ => rfl, fun _ => ?_⟩
    apply Nat.eq_of_testBit_eq
    intro z
    rw [Nat.zero_testBit]
    by_cases c : z < 16
    · exact h2 z c
    · exact tb_hi hw c
  · rw [h1]
    refine ⟨fun q0 => ?_, fun q0 => by cases q0⟩
    rw [q0, Nat.zero_testBit] at h2
    cases h2
/-- a desk that may go on -/
theorem cond_0 {σ : kS} {i : Nat} (h : kd_cond σ i = 0) : σ.2.2.1 i 9 = 0 ∧ σ.2.2.1 i 8 = 0 ∧ σ.2.2.1 i 4 < σ.2.2.1 i 1 ∧ σ.2.2.1 i 6 = -1 := by
  unfold kd_cond at h
  by_cases h9 : σ.2.2.1 i 9 = 0
  · rw [if_pos h9] at h
    by_cases h8 : σ.2.2.1 i 8 = 0
    · rw [if_pos h8] at h
      by_cases h4 : σ.2.2.1 i 4 < σ.2.2.1 i 1
      · rw [if_pos h4] at h
        by_cases h6 : σ.2.2.1 i 6 = -1
        · exact ⟨h9, h8, h4, h6⟩
        · rw [if_neg h6] at h; exact absurd h (by decide)
      · rw [if_neg h4] at h; exact absurd h (by decide)
    · rw [if_neg h8] at h; exact absurd h (by decide)
  · rw [if_neg h9] at h; exact absurd h (by decide)
theorem sm_all {n e : Nat} {σ : kS} {τ : mS} (h : sm n e σ τ) (he : e < n → τ.2 6 e = kd_cond σ e ∧ τ.2 3 e = σ.2.2.1 e 3) (e' : Nat) : sm n e' σ τ := by
  obtain ⟨s1, s2, s3, s4⟩ := h
  refine ⟨s1, s2, fun i hi _ => ?_, s4⟩
  by_cases q : i = e
  · subst q; exact he hi
  · exact s3 i hi q
end
section
theorem sm_ask {n i z : Nat} {σ : kS} {τ : mS} (h : sm n n σ τ) (hv : iv n σ) (hn : n ≤ 8) (hi : i < n) (hz : z < 16) (hc : kd_cond σ i = 0) : sm n n (kd_ask σ i z) (mo_ask τ i z) ∧ iv n (kd_ask σ i z) ∧ (∀ w, (kd_ask σ i z).2.1 2 w = σ.2.1 2 w) := by
  obtain ⟨s1, s2, s3, s4, s5, s6, ⟨t1, t2, t4, t5, t6, t7⟩, s8, s9⟩ := h
  obtain ⟨v1, v2, v3, v4⟩ := hv
  obtain ⟨c9, c8, c4, c6⟩ := cond_0 hc
  unfold kd_ask mo_ask
  rw [s5 z hz]
  by_cases hq : σ.2.1 0 z = -1
  · rw [if_pos hq, if_pos (by rw [hq]; decide)]
    dsimp only
    have eD : ∀ k g, (kd_take σ i z).2.2.1 k g = σ.2.2.1 k g := by
      intro k g
      rw [kt_3]
      by_cases q : k = i
      · rw [if_pos q]
        by_cases q2 : g = 6
        · rw [if_pos q2, q2, q, c6]
        · rw [if_neg q2]
      · rw [if_neg q]
    have eC : ∀ k, kd_cond (kd_take σ i z) k = kd_cond σ k := fun k => kd_cond_congr (by funext g; exact eD k g)
    refine ⟨⟨?_, ?_, ?_, ?_, ?_, ?_, ⟨t1, t2, t4, t5, t6, t7⟩, ?_, ?_⟩, ⟨?_, ?_, ?_, v4⟩, ?_⟩
    · intro k hk; rw [eD]; exact s1 k hk
    · intro k hk; simp only [ma_2, eD]; exact s2 k hk
    · intro k hk hke; rw [eC]; simp only [ma_2, eD]; exact s3 k hk hke
    · intro k hk j hj; simp only [ma_2, kt_4]; exact s4 k hk j hj
    · intro w hw
      by_cases q : w = z
      · subst q; simp [ma_2, kt_2, s1 i hi]
      · simp [ma_2, kt_2, q]; exact s5 w hw
    · intro w hw hne
      by_cases q : w = z
      · subst q; simp [ma_2, ma_1, kt_2, t6]
      · simp [ma_2, kt_2, q] at hne ⊢; exact s6 w hw hne
    · intro j hj; simp [ma_2, kt_2]; exact s8 j hj
    · intro j hj; simp [ma_2, kt_2]; exact s9 j hj
    · intro k hk; rw [eD, eD]; exact v1 k hk
    · intro w hw
      by_cases q : w = z
      · subst q; exact Or.inr ⟨i, hi, by simp [kt_2, s1 i hi]⟩
      · rw [show (kd_take σ i z).2.1 0 w = σ.2.1 0 w by simp [kt_2, q]]; exact v2 w hw
    · intro k hk; simp only [eD]; exact v3 k hk
    · intro w; simp [kt_2]
  · obtain ⟨k0, hk0, ek0⟩ := (v2 z hz).resolve_left hq
    rw [if_neg hq, if_neg (by rw [ek0]; exact nI_pos (by omega))]
    dsimp only
    refine ⟨⟨?_, ?_, ?_, ?_, ?_, ?_, ⟨?_, ?_, ?_, ?_, ?_, ?_⟩, ?_, ?_⟩, ⟨?_, ?_, ?_, v4⟩, fun w => rfl⟩
    · intro k hk; simp only [kf_2, kd_3]
      by_cases q : k = i
      · simp [q]; exact s1 i hi
      · simp [q]; exact s1 k hk
    · intro k hk
      obtain ⟨a1, a3, a4, a5, a6⟩ := s2 k hk
      by_cases q : k = i
      · subst q; simp [ma_2, ma_1, mf_2, kf_2, kd_3, kd_1, a1, a3, a4, t1]
      · simp [ma_2, mf_2, kf_2, kd_3, q, a1, a3, a4, a5, a6]
    · intro k hk hke
      by_cases q : k = i
      · subst q
        have e1 : kd_cond (k_f (k_d (k_d σ k 6 (nI z)) k 7 ((k_d σ k 6 (nI z)).1 4)) 4 ((k_d (k_d σ k 6 (nI z)) k 7 ((k_d σ k 6 (nI z)).1 4)).1 4 + 1)) k = 1 := by
          unfold kd_cond
          simp [kf_2, kd_3, c9, c8, c4, nI_m1 (show z < 2 ^ 31 by omega)]
        rw [e1]
        have := (s3 k hk hke).2
        simp [ma_2, mf_2, kf_2, kd_3, this]
      · rw [kd_cond_congr (σ' := σ) (by funext g; simp [kf_2, kd_3, q])]
        simp [ma_2, mf_2, kf_2, kd_3, q]
        exact s3 k hk hke
    · intro k hk j hj; simp only [ma_2, mf_2, kf_2, kd_4]; exact s4 k hk j hj
    · intro w hw; simp [ma_2, mf_2, kf_2, kd_2]; exact s5 w hw
    · intro w hw hne; simp [ma_2, mf_2, kf_2, kd_2] at hne ⊢; exact s6 w hw hne
    · simp [mf_1, kf_1, ma_1, kd_1, t1]
    · simp [mf_1, kf_1, ma_1, kd_1, t2]
    · simp [mf_1, kf_1, ma_1, kd_1, t4]
    · simp [mf_1, kf_1, ma_1, kd_1, t5]
    · simp [mf_1, kf_1, ma_1, kd_1, t6]
    · simp [mf_1, kf_1, ma_1, kd_1, t7]
    · intro j hj; simp [ma_2, mf_2, kf_2, kd_2]; exact s8 j hj
    · intro j hj; simp [ma_2, mf_2, kf_2, kd_2]; exact s9 j hj
    · intro k hk
      obtain ⟨a, p, a1, a2, a3, a4, a5⟩ := v1 k hk
      exact ⟨a, p, a1, a2, a3, by simp [kf_2, kd_3, a4], by simp [kf_2, kd_3, a5]⟩
    · intro w hw; exact v2 w hw
    · intro k hk
      by_cases q : k = i
      · subst q
        refine Or.inr ⟨⟨z, hz, by simp [kf_2, kd_3]⟩, by simp [kf_2, kd_3, c8], by simp [kf_2, kd_3, c9], by simp [kf_2, kd_3, c4]⟩
      · simp only [kf_2, kd_3, if_neg q]; exact v3 k hk
/-- undone: it fails no more -/
theorem sm_fail {n i : Nat} {G : kS} {T : mS} (q1 : sm n i G T) (q2 : iv n G) (hi : i < n) (gc : kd_cond G i = 0) (t6 : T.2 6 i = 0) (t3 : T.2 3 i = -1) : sm n n (k_d G i 3 (-1)) T ∧ iv n (k_d G i 3 (-1)) := by
  have eC : ∀ k, kd_cond (k_d G i 3 (-1)) k = kd_cond G k := by
    intro k
    unfold kd_cond
    simp [kd_3]
  obtain ⟨s1, s2, s3, s4, s5, s6, s7, s8, s9⟩ := q1
  obtain ⟨v1, v2, v3, v4⟩ := q2
  refine ⟨⟨?_, ?_, ?_, s4, s5, s6, s7, s8, s9⟩, ⟨?_, v2, ?_, v4⟩⟩
  · intro k hk; simp [kd_3]; exact s1 k hk
  · intro k hk; simp [kd_3]; exact s2 k hk
  · intro k hk _
    rw [eC]
    by_cases q : k = i
    · subst q
      exact ⟨by rw [gc]; exact t6, by rw [t3]; simp [kd_3]⟩
    · simp [kd_3, q]
      exact s3 k hk q
  · intro k hk
    obtain ⟨a9, p9, y1, y2, y3, y4, y5⟩ := v1 k hk
    exact ⟨a9, p9, y1, y2, y3, by simp [kd_3, y4], by simp [kd_3, y5]⟩
  · intro k hk; simp [kd_3]; exact v3 k hk
theorem sm_do {n i : Nat} {σ : kS} {τ : mS} (h : sm n n σ τ) (hv : iv n σ) (hn : n ≤ 8) (hi : i < n) (hc : kd_cond σ i = 0) : (kd_do n σ i).1 = (mo_do n τ i).1 ∧ sm n n (kd_do n σ i).2 (mo_do n τ i).2 ∧ iv n (kd_do n σ i).2 ∧ (∀ w, (kd_do n σ i).2.2.1 2 w = σ.2.1 2 w) := by
  obtain ⟨c9, c8, c4, c6⟩ := cond_0 hc
  obtain ⟨u1, u3⟩ := h.2.2.1 i hi (by omega)
  have u4 := (h.2.1 i hi).2.1
  unfold kd_do mo_do
  rw [u3, u4]
  by_cases hf : σ.2.2.1 i 4 = σ.2.2.1 i 3
  · rw [if_pos hf, if_pos hf.symm]
    obtain ⟨a1, a2, a3, a3'⟩ := sm_tell h hi 2
    have hb : sm n i (kd_tell σ 2 i) (m_a (mo_write τ 2 i) 3 i (-1)) := by
      obtain ⟨s1, s2, s3, s4, s5, s6, s7, s8, s9⟩ := a1
      refine ⟨s1, ?_, ?_, ?_, ?_, ?_, s7, ?_, ?_⟩
      · intro k hk; simp only [ma_2]; exact s2 k hk
      · intro k hk hke; simp [ma_2, hke]; exact s3 k hk (by omega)
      · intro k hk j hj; simp only [ma_2]; exact s4 k hk j hj
      · intro w hw; simp [ma_2]; exact s5 w hw
      · intro w hw hne; simp [ma_2]; exact s6 w hw hne
      · intro j hj; simp [ma_2]; exact s8 j hj
      · intro j hj; simp [ma_2]; exact s9 j hj
    have hb6 : (kd_tell σ 2 i).2.2.1 i 6 = -1 := by rw [a2]; exact c6
    obtain ⟨q1, q2, q3, q4, q5, q6, q7, q8, q9⟩ := sm_gba hb (iv_congr hv a2 a3) hn hi hb6 (Nat.le_refl 16)
    have w6 : (mo_write τ 2 i).2 6 i = 0 := by rw [(a1.2.2.1 i hi (by omega)).1, kd_cond_congr (σ' := σ) (by rw [a2]), hc]
    have hM : mo_ga n (m_a (mo_write τ 2 i) 3 i (-1)) i = mo_gap n (mo_held (m_a (mo_write τ 2 i) 3 i (-1)) (nI i)) (m_a (mo_write τ 2 i) 3 i (-1)) 16 := rfl
    rw [hM]
    have eD : ∀ f, f ≠ 6 → (kd_gba n (kd_tell σ 2 i) i 16).2.2.1 i f = σ.2.2.1 i f := fun f hf => by rw [q3 i f hf, a2]
    generalize kd_gba n (kd_tell σ 2 i) i 16 = G at q1 q2 q3 q4 q5 q6 q7 eD ⊢
    generalize mo_gap n (mo_held (m_a (mo_write τ 2 i) 3 i (-1)) (nI i)) (m_a (mo_write τ 2 i) 3 i (-1)) 16 = T at q1 q8 q9 ⊢
    have t6 : T.2 6 i = 0 := by rw [q8]; simp [ma_2]; exact w6
    have t3 : T.2 3 i = -1 := by rw [q9]; simp [ma_2]
    have gc : kd_cond G i = 0 := by
      unfold kd_cond
      rw [eD 9 (by decide), eD 8 (by decide), eD 4 (by decide), eD 1 (by decide), q4]
      simp [c9, c8, c4]
    obtain ⟨r1, r2⟩ := sm_fail q1 q2 hi gc t6 t3
    exact ⟨rfl, r1, r2, fun w => (q7 w).trans (a3' w)⟩
  · rw [if_neg hf, if_neg (fun q => hf q.symm)]
    dsimp only
    obtain ⟨a1, a2, a3, a3'⟩ := sm_tell h hi 1
    have hb : sm n i (kd_tell σ 1 i) (m_a (mo_write τ 1 i) 3 i ((mo_write τ 1 i).2 3 i)) := by
      obtain ⟨s1, s2, s3, s4, s5, s6, s7, s8, s9⟩ := a1
      refine ⟨s1, ?_, ?_, ?_, ?_, ?_, s7, ?_, ?_⟩
      · intro k hk; simp only [ma_2]; exact s2 k hk
      · intro k hk hke; simp [ma_2, hke]; exact s3 k hk (by omega)
      · intro k hk j hj; simp only [ma_2]; exact s4 k hk j hj
      · intro w hw; simp [ma_2]; exact s5 w hw
      · intro w hw hne; simp [ma_2]; exact s6 w hw hne
      · intro j hj; simp [ma_2]; exact s8 j hj
      · intro j hj; simp [ma_2]; exact s9 j hj
    have hb6 : (kd_tell σ 1 i).2.2.1 i 6 = -1 := by rw [a2]; exact c6
    obtain ⟨q1, q2, q3, q4, q5, q6, q7, q8, q9⟩ := sm_gba hb (iv_congr hv a2 a3) hn hi hb6 (Nat.le_refl 16)
    obtain ⟨a, p, b1, b2, b3, b4, b5⟩ := hv.1 i hi
    have hpa : p < a := by
      rw [b4, b5] at c4
      exact (nI_ltI (by omega) (by omega)).mp c4
    have e4 : (kd_gba n (kd_tell σ 1 i) i 16).2.2.1 i 4 = nI p := by rw [q3 i 4 (by decide), a2]; exact b5
    have e1 : (kd_gba n (kd_tell σ 1 i) i 16).2.2.1 i 1 = nI a := by rw [q3 i 1 (by decide), a2]; exact b4
    have e8 : (kd_gba n (kd_tell σ 1 i) i 16).2.2.1 i 8 = 0 := by rw [q3 i 8 (by decide), a2]; exact c8
    have e9 : (kd_gba n (kd_tell σ 1 i) i 16).2.2.1 i 9 = 0 := by rw [q3 i 9 (by decide), a2]; exact c9
    have e3 : (kd_gba n (kd_tell σ 1 i) i 16).2.2.1 i 3 = σ.2.2.1 i 3 := by rw [q3 i 3 (by decide), a2]
    generalize hG : kd_gba n (kd_tell σ 1 i) i 16 = G at q1 q2 q3 q4 q5 q6 q7 e4 e1 e8 e9 e3 ⊢
    have hM : mo_ga n (m_a (mo_write τ 1 i) 3 i ((mo_write τ 1 i).2 3 i)) i = mo_gap n (mo_held (m_a (mo_write τ 1 i) 3 i ((mo_write τ 1 i).2 3 i)) (nI i)) (m_a (mo_write τ 1 i) 3 i ((mo_write τ 1 i).2 3 i)) 16 := rfl
    rw [hM]
    have w3 : (mo_write τ 1 i).2 3 i = σ.2.2.1 i 3 := by rw [(a1.2.2.1 i hi (by omega)).2, a2]
    generalize hT : mo_gap n (mo_held (m_a (mo_write τ 1 i) 3 i ((mo_write τ 1 i).2 3 i)) (nI i)) (m_a (mo_write τ 1 i) 3 i ((mo_write τ 1 i).2 3 i)) 16 = T at q1 q8 q9 ⊢
    have r4 : nI p + 1 = nI (p + 1) := nI_1 p
    have eC : kd_cond (k_d (k_d G i 4 (G.2.2.1 i 4 + 1)) i 5 ((k_d G i 4 (G.2.2.1 i 4 + 1)).2.2.1 i 5 + 1)) i = if p + 1 = a then 2 else 0 := by
      unfold kd_cond
      simp only [kd_3, if_true, if_neg (show ¬ (9 : Nat) = 5 by decide), if_neg (show ¬ (9 : Nat) = 4 by decide), if_neg (show ¬ (8 : Nat) = 5 by decide), if_neg (show ¬ (8 : Nat) = 4 by decide), if_neg (show ¬ (4 : Nat) = 5 by decide), if_neg (show ¬ (1 : Nat) = 5 by decide), if_neg (show ¬ (1 : Nat) = 4 by decide), if_neg (show ¬ (6 : Nat) = 5 by decide), if_neg (show ¬ (6 : Nat) = 4 by decide), e9, e8, e4, e1, q4, r4]
      by_cases q : p + 1 = a
      · rw [if_neg (by rw [q]; exact nI_nlt (Nat.le_refl a) (by omega)), if_pos q]
      · rw [if_pos (nI_lt (show p + 1 < a by omega) (by omega)), if_neg q]
    refine ⟨rfl, ?_, ?_, ?_⟩
    · obtain ⟨s1, s2, s3, s4, s5, s6, s7, s8, s9⟩ := q1
      unfold mo_goes
      dsimp only
      refine ⟨?_, ?_, ?_, ?_, ?_, ?_, s7, ?_, ?_⟩
      · intro k hk
        by_cases q : k = i
        · subst q; simp [kd_3]; exact s1 k hk
        · simp [kd_3, q]; exact s1 k hk
      · intro k hk
        obtain ⟨d1, d3, d4, d5, d6⟩ := s2 k hk
        by_cases q : k = i
        · subst q; simp [kd_3, ma_2, d1, d3, d4, d5, d6]
        · simp [kd_3, ma_2, q, d1, d3, d4, d5, d6]
      · intro k hk _
        by_cases q : k = i
        · subst q
          obtain ⟨d1, d3, d4, d5, d6⟩ := s2 k hk
          rw [eC]
          refine ⟨?_, ?_⟩
          · simp only [ma_2, if_true, if_neg (show ¬ (4 : Nat) = 5 by decide), if_neg (show ¬ (2 : Nat) = 4 by decide), if_neg (show ¬ (2 : Nat) = 5 by decide), d3, d1, e4, e1, r4]
            by_cases q2 : p + 1 = a
            · rw [if_pos (by rw [q2]), if_pos q2]
            · rw [if_neg (fun z => q2 ((nI_eq (by omega) (by omega)).mp z)), if_neg q2]
          · have := q9 k
            simp only [ma_2, if_true, if_neg (show ¬ (3 : Nat) = 5 by decide), if_neg (show ¬ (3 : Nat) = 4 by decide), if_neg (show ¬ (3 : Nat) = 6 by decide)] at this ⊢
            rw [this, w3]
            simp [kd_3, e3]
        · rw [kd_cond_congr (σ' := G) (by funext g; simp [kd_3, q])]
          simp [kd_3, ma_2, q]
          exact s3 k hk q
      · intro k hk j hj; simp only [ma_2]; exact s4 k hk j hj
      · intro w hw; simp [ma_2]; exact s5 w hw
      · intro w hw hne; simp [ma_2]; exact s6 w hw hne
      · intro j hj; simp [ma_2]; exact s8 j hj
      · intro j hj; simp [ma_2]; exact s9 j hj
    · obtain ⟨v1, v2, v3, v4⟩ := q2
      refine ⟨?_, v2, ?_, v4⟩
      · intro k hk
        by_cases q : k = i
        · subst q
          exact ⟨a, p + 1, b1, b2, hpa, by simp [kd_3, e1], by simp [kd_3, e4, r4]⟩
        · obtain ⟨a9, p9, y1, y2, y3, y4, y5⟩ := v1 k hk
          exact ⟨a9, p9, y1, y2, y3, by simp [kd_3, q, y4], by simp [kd_3, q, y5]⟩
      · intro k hk
        by_cases q : k = i
        · subst q; exact Or.inl (by simp [kd_3, q4])
        · simp [kd_3, q]; exact v3 k hk
    · intro w; exact (q7 w).trans (a3' w)
end
section
/-! fields that a turn leaves -/
theorem tell_f {σ : kS} {w : Int32} {i k : Nat} (hk : k ≠ 10) : (kd_tell σ w i).1 k = σ.1 k := by
  unfold kd_tell
  split
  · rfl
  · exact va_up_ne _ _ hk
theorem write_f {τ : mS} {w : Int32} {i k : Nat} (hk : k ≠ 17) : (mo_write τ w i).1 k = τ.1 k := by
  unfold mo_write
  split
  · rfl
  · exact va_up_ne _ _ hk
theorem do_f {n i k : Nat} {σ : kS} (hk : k ≠ 10) : (kd_do n σ i).2.1 k = σ.1 k := by
  unfold kd_do
  split
  · dsimp only
    rw [kd_1, kd_gba_1, tell_f hk]
  · dsimp only
    rw [kd_1, kd_1, kd_gba_1, tell_f hk]
theorem ask_f {i z k : Nat} {σ : kS} (hk : k ≠ 4) : (kd_ask σ i z).1 k = σ.1 k := by
  unfold kd_ask
  split
  · rfl
  · exact va_up_ne _ _ hk
theorem turn_f {n i k : Nat} {σ : kS} (h4 : k ≠ 4) (h8 : k ≠ 8) (h10 : k ≠ 10) : (kd_turn n σ i).2.1 k = σ.1 k := by
  unfold kd_turn
  split
  · split
    · exact ask_f h4
    · exact do_f h10
  · exact va_up_ne _ _ h8
theorem steps_f {n i k : Nat} {τ : mS} (h12 : k ≠ 12) (h17 : k ≠ 17) : (mo_steps n τ i).2.1 k = τ.1 k := by
  unfold mo_steps
  split
  · unfold mo_do
    split
    · dsimp only
      rw [mo_ga_1, ma_1]; exact write_f h17
    · dsimp only
      rw [show ∀ T : mS, (mo_goes T i).1 = T.1 from fun _ => rfl, ma_1, mo_ga_1, ma_1]; exact write_f h17
  · split
    · unfold mo_ask
      split
      · rfl
      · exact va_up_ne _ _ h12
    · rfl
theorem gb_f2 {n z : Nat} {τ : mS} : ∀ w, (mo_gb n τ z).2 13 w = τ.2 13 w := by
  intro w
  unfold mo_gb
  dsimp only
  split <;> simp [ma_2]
/-- one turn -/
theorem sm_turn {n i : Nat} {σ : kS} {τ : mS} (h : sm n n σ τ) (hv : iv n σ) (hn : n ≤ 8) (hi : i < n) (hc : kd_cond σ i = 0) : (kd_turn n σ i).1 = (mo_steps n τ i).1 ∧ sm n n (kd_turn n σ i).2 (mo_steps n τ i).2 ∧ iv n (kd_turn n σ i).2 ∧ (∀ w, (kd_turn n σ i).2.2.1 2 w = σ.2.1 2 w) := by
  obtain ⟨a, p, b1, b2, b3, b4, b5⟩ := hv.1 i hi
  have hp : p < 12 := by
    have c4 := (cond_0 hc).2.2.1
    rw [b4, b5] at c4
    have := (nI_ltI (by omega) (by omega)).mp c4
    omega
  unfold kd_turn mo_steps
  rw [if_pos hc]
  have h0 := wants_0 h hv hn hi hp b5
  have hl := llp_low h hv hn hi hp b5 16 (Nat.le_refl 16)
  cases hq : kd_llp σ i 16 with
  | none =>
    rw [if_pos (h0.mpr hq)]
    exact sm_do h hv hn hi hc
  | some z =>
    rw [if_neg (fun q => by rw [h0.mp q] at hq; cases hq), ← hl, hq]
    dsimp only
    obtain ⟨q1, q2, q3⟩ := sm_ask h hv hn hi (kd_llp_lt hq) hc
    exact ⟨rfl, q1, q2, q3⟩
/-- all turns -/
theorem sm_run {n r : Nat} {σ : kS} {τ : mS} (h : sm n n σ τ) (hv : iv n σ) (hn : n ≤ 8) (hr : τ.1 15 = nI r) {t : Nat} (ht : t ≤ 300) (hT : ∀ j, j < t → ∃ i, i < n ∧ σ.2.1 2 j = nI i) :
    ∀ k, r + k ≤ t → (kd_runp n σ r k).1 = (mo_runp n τ k).1 ∧ sm n n (kd_runp n σ r k).2 (mo_runp n τ k).2 ∧ iv n (kd_runp n σ r k).2 ∧ (∀ w, (kd_runp n σ r k).2.2.1 2 w = σ.2.1 2 w) ∧ (mo_runp n τ k).2.1 15 = nI (r + k) ∧ (∀ f, f ≠ 4 → f ≠ 8 → f ≠ 10 → (kd_runp n σ r k).2.1 f = σ.1 f) := by
  intro k
  induction k with
  | zero => exact fun _ => ⟨rfl, h, hv, fun _ => rfl, hr, fun _ _ _ _ => rfl⟩
  | succ k ih =>
    intro hk
    obtain ⟨q1, q2, q3, q4, q5, q6⟩ := ih (by omega)
    obtain ⟨i, hi, ei⟩ := hT (r + k) (by omega)
    have e1 : (kd_runp n σ r k).2.2.1 2 (r + k) = nI i := by rw [q4]; exact ei
    have e2 : kd_at n (nI i) = some i := by
      unfold kd_at
      rw [if_neg (nI_pos (by omega)), if_neg (nI_ge hi (by omega)), nI_clamp (by omega)]
    unfold kd_runp mo_runp
    rw [e1, e2]
    dsimp only
    generalize kd_runp n σ r k = Q at q1 q2 q3 q4 q6 e1 ⊢
    generalize mo_runp n τ k = P at q1 q2 q5 ⊢
    unfold mo_run1
    dsimp only
    have e3 : P.2.2 13 (P.2.1 15).toNatClampNeg = nI i := by
      rw [q5, nI_clamp (by omega), q2.2.2.2.2.2.2.2.1 (r + k) (by omega)]; exact e1
    rw [e3, nI_clamp (by omega)]
    have hs : sm n n Q.2 (m_f P.2 15 (P.2.1 15 + 1)) := by
      obtain ⟨s1, s2, s3, s4, s5, s6, ⟨t1, t2, t4, t5, t6, t7⟩, s8, s9⟩ := q2
      exact ⟨s1, s2, s3, s4, s5, s6, ⟨by simp [mf_1, t1], by simp [mf_1, t2], by simp [mf_1, t4], by simp [mf_1, t5], by simp [mf_1, t6], by simp [mf_1, t7]⟩, s8, s9⟩
    have e4 : (m_f P.2 15 (P.2.1 15 + 1)).1 15 = nI (r + (k + 1)) := by
      simp only [mf_1, if_true]
      rw [q5, nI_1]; rfl
    have e5 := (hs.2.2.1 i hi (by omega)).1
    by_cases hc : kd_cond Q.2 i = 0
    · have hs0 : (m_f P.2 15 (P.2.1 15 + 1)).2 6 i = 0 := by rw [e5]; exact hc
      rw [if_pos hs0]
      obtain ⟨g1, g2, g3, g4⟩ := sm_turn hs q3 hn hi hc
      refine ⟨?_, g2, g3, fun w => (g4 w).trans (q4 w), ?_, fun f f4 f8 f10 => (turn_f f4 f8 f10).trans (q6 f f4 f8 f10)⟩
      · dsimp only
        rw [g1, q1]
        split
        · rw [Int32.add_zero]
        · rfl
      · dsimp only
        rw [steps_f (by decide) (by decide)]; exact e4
    · have hs0 : ¬ (m_f P.2 15 (P.2.1 15 + 1)).2 6 i = 0 := by rw [e5]; exact hc
      rw [if_neg hs0]
      have e6 : kd_turn n Q.2 i = (0, k_f Q.2 8 (Q.2.1 8 + 1)) := by unfold kd_turn; rw [if_neg hc]
      rw [e6]
      dsimp only
      refine ⟨by rw [if_pos rfl]; exact q1, ?_, q3, q4, ?_, fun f f4 f8 f10 => (va_up_ne _ _ f8).trans (q6 f f4 f8 f10)⟩
      · obtain ⟨s1, s2, s3, s4, s5, s6, ⟨t1, t2, t4, t5, t6, t7⟩, s8, s9⟩ := hs
        exact ⟨s1, s2, s3, s4, s5, s6, ⟨by simp [mf_1, kf_1] at t1 ⊢; exact t1, by simp [mf_1, kf_1] at t2 ⊢; exact t2, by simp [mf_1, kf_1] at t4 ⊢; rw [t4], by simp [mf_1, kf_1] at t5 ⊢; exact t5, by simp [mf_1, kf_1] at t6 ⊢; exact t6, by simp [mf_1, kf_1] at t7 ⊢; exact t7⟩, s8, s9⟩
      · simp only [mf_1, if_neg (show ¬ (15 : Nat) = 16 by decide)]; exact e4
end
section
/-! telling and giving back: in any order -/
theorem k_aa (σ : kS) {a b : Nat} (h : a ≠ b) (j k : Nat) (v w : Int32) : k_a (k_a σ a j v) b k w = k_a (k_a σ b k w) a j v := by
  unfold k_a
  dsimp only
  rw [va_up_ne σ.2.1 _ (Ne.symm h), va_up_ne σ.2.1 _ h]
  have e : va_up (va_up σ.2.1 a (upd (σ.2.1 a) j v)) b (upd (σ.2.1 b) k w) = va_up (va_up σ.2.1 b (upd (σ.2.1 b) k w)) a (upd (σ.2.1 a) j v) := by
    funext q
    unfold va_up
    by_cases q1 : q = a
    · subst q1; simp [h]
    · by_cases q2 : q = b
      · subst q2; simp [q1]
      · simp [q1, q2]
  rw [e]
theorem k_af (σ : kS) (a j k : Nat) (v w : Int32) : k_a (k_f σ k w) a j v = k_f (k_a σ a j v) k w := rfl
theorem k_da (σ : kS) (a j i f : Nat) (v w : Int32) : k_d (k_a σ a j v) i f w = k_a (k_d σ i f w) a j v := rfl
theorem k_df (σ : kS) (k i f : Nat) (v w : Int32) : k_d (k_f σ k v) i f w = k_f (k_d σ i f w) k v := rfl
theorem take_tell (σ : kS) (j z e : Nat) (V u : Int32) : kd_take (k_f (k_a σ 3 e V) 10 u) j z = k_f (k_a (kd_take σ j z) 3 e V) 10 u := by
  unfold kd_take
  dsimp only
  rw [k_df, k_da, k_af, k_af]
  have e1 : (k_f (k_a (k_d σ j 6 (-1)) 3 e V) 10 u).2.2.1 j 0 = (k_d σ j 6 (-1)).2.2.1 j 0 := rfl
  rw [e1, k_aa _ (show (3 : Nat) ≠ 0 by decide), k_aa _ (show (3 : Nat) ≠ 1 by decide)]
  rfl
theorem tell_gb (n z i : Nat) (σ : kS) (w : Int32) : kd_tell (kd_gb n σ z) w i = kd_gb n (kd_tell σ w i) z := by
  have h1 := kd_gb_1 n σ z
  by_cases hc : (400 : Int32) ≤ σ.1 10
  · unfold kd_tell
    rw [h1, if_pos hc, if_pos hc]
  · have hD : ∀ f, f ≠ 6 → (kd_gb n σ z).2.2.1 i f = σ.2.2.1 i f := by
      intro f hf
      unfold kd_gb
      dsimp only
      split
      · rfl
      · simp [kt_3, ka_3, hf]
    unfold kd_tell
    rw [h1, if_neg hc, if_neg hc, hD 0 (by decide), hD 4 (by decide)]
    dsimp only
    rw [ka_1, ka_1, h1]
    generalize 1000 * w + 100 * σ.2.2.1 i 0 + σ.2.2.1 i 4 = V
    generalize (σ.1 10).toNatClampNeg = e
    generalize σ.1 10 + 1 = u
    unfold kd_gb
    dsimp only
    rw [kd_wfp_congr (σ := k_a (k_f (k_a σ 3 e V) 10 u) 0 z (-1)) (σ' := k_a σ 0 z (-1)) rfl]
    cases kd_wfp (k_a σ 0 z (-1)) n (nI z) 0 n with
    | none =>
      dsimp only
      rw [k_af, k_aa _ (show (3 : Nat) ≠ 0 by decide)]
    | some j =>
      dsimp only
      rw [k_af, k_aa _ (show (3 : Nat) ≠ 0 by decide), take_tell]
theorem tell_gba (n i k : Nat) (σ : kS) (w : Int32) (j : Nat) : kd_tell (kd_gba n σ i j) w k = kd_gba n (kd_tell σ w k) i j := by
  induction j with
  | zero => rfl
  | succ j ih =>
    have e1 : ∀ ρ : kS, (kd_tell ρ w k).2.2 = ρ.2.2 := by
      intro ρ; unfold kd_tell; split <;> rfl
    have e2 : ∀ (ρ : kS) (q : Nat), (kd_tell ρ w k).2.1 0 q = ρ.2.1 0 q := by
      intro ρ q; unfold kd_tell; split
      · rfl
      · simp [kf_2, ka_2]
    unfold kd_gba
    rw [← ih, e1, e2]
    split
    · rw [tell_gb]
    · rfl
end
section
/-! interrupted; dead; a time; closed -/
def mo_int (n : Nat) (τ : mS) (x : Int32) : Int32 × mS :=
  let τ0 := m_f τ 0 0
  match kd_at n x with
  | none => (0, τ0)
  | some i => if τ0.2 6 i = 1 then (1, mo_goes (mo_ga n (mo_write (m_a τ0 10 i (-1)) 3 i) i) i) else (0, τ0)
theorem sm_f0 {n e : Nat} {σ : kS} {τ : mS} (h : sm n e σ τ) (k : Nat) (v : Int32) (hk : k = 0 ∨ k = 1 ∨ k = 15) : sm n e σ (m_f τ k v) := by
  obtain ⟨s1, s2, s3, s4, s5, s6, ⟨t1, t2, t4, t5, t6, t7⟩, s8, s9⟩ := h
  have e : ∀ q, q ≠ k → (m_f τ k v).1 q = τ.1 q := fun q hq => va_up_ne _ _ hq
  exact ⟨s1, s2, s3, s4, s5, s6, ⟨by rw [e 12 (by omega)]; exact t1, by rw [e 14 (by omega)]; exact t2, by rw [e 16 (by omega)]; exact t4, by rw [e 17 (by omega)]; exact t5, by rw [e 19 (by omega)]; exact t6, by rw [e 20 (by omega)]; exact t7⟩, s8, s9⟩
theorem sm_weak {n : Nat} {σ : kS} {τ : mS} (h : sm n n σ τ) (e : Nat) : sm n e σ τ := by
  obtain ⟨s1, s2, s3, s4⟩ := h
  exact ⟨s1, s2, fun i hi _ => s3 i hi (by omega), s4⟩
/-- the next act is the present one -/
theorem sm_goes {n i a p : Nat} {G : kS} {T : mS} (q1 : sm n i G T) (q2 : iv n G) (hi : i < n) (q4 : G.2.2.1 i 6 = -1) (e8 : G.2.2.1 i 8 = 0) (e9 : G.2.2.1 i 9 = 0) (e4 : G.2.2.1 i 4 = nI p) (e1 : G.2.2.1 i 1 = nI a) (b1 : 1 ≤ a) (b2 : a ≤ 12) (hpa : p < a) (w3 : T.2 3 i = G.2.2.1 i 3) :
    sm n n (k_d G i 4 (G.2.2.1 i 4 + 1)) (mo_goes T i) ∧ iv n (k_d G i 4 (G.2.2.1 i 4 + 1)) := by
  have r4 : nI p + 1 = nI (p + 1) := nI_1 p
  have eC : kd_cond (k_d G i 4 (G.2.2.1 i 4 + 1)) i = if p + 1 = a then 2 else 0 := by
    unfold kd_cond
    simp only [kd_3, if_true, if_neg (show ¬ (9 : Nat) = 4 by decide), if_neg (show ¬ (8 : Nat) = 4 by decide), if_neg (show ¬ (1 : Nat) = 4 by decide), if_neg (show ¬ (6 : Nat) = 4 by decide), e9, e8, e4, e1, q4, r4]
    by_cases q : p + 1 = a
    · rw [if_neg (by rw [q]; exact nI_nlt (Nat.le_refl a) (by omega)), if_pos q]
    · rw [if_pos (nI_lt (show p + 1 < a by omega) (by omega)), if_neg q]
  refine ⟨?_, ?_⟩
  · obtain ⟨s1, s2, s3, s4, s5, s6, s7, s8, s9⟩ := q1
    unfold mo_goes
    dsimp only
    refine ⟨?_, ?_, ?_, ?_, ?_, ?_, s7, ?_, ?_⟩
    · intro k hk
      by_cases q : k = i
      · subst q; simp [kd_3]; exact s1 k hk
      · simp [kd_3, q]; exact s1 k hk
    · intro k hk
      obtain ⟨d1, d3, d4, d5, d6⟩ := s2 k hk
      by_cases q : k = i
      · subst q; simp [kd_3, ma_2, d1, d3, d4, d5, d6]
      · simp [kd_3, ma_2, q, d1, d3, d4, d5, d6]
    · intro k hk _
      by_cases q : k = i
      · subst q
        obtain ⟨d1, d3, d4, d5, d6⟩ := s2 k hk
        rw [eC]
        refine ⟨?_, ?_⟩
        · simp only [ma_2, if_true, if_neg (show ¬ (2 : Nat) = 4 by decide), d3, d1, e4, e1, r4]
          by_cases q2 : p + 1 = a
          · rw [if_pos (by rw [q2]), if_pos q2]
          · rw [if_neg (fun z => q2 ((nI_eq (by omega) (by omega)).mp z)), if_neg q2]
        · simp [ma_2, kd_3, w3]
      · rw [kd_cond_congr (σ' := G) (by funext g; simp [kd_3, q])]
        simp [kd_3, ma_2, q]
        exact s3 k hk q
    · intro k hk j hj; simp only [ma_2]; exact s4 k hk j hj
    · intro w hw; simp [ma_2]; exact s5 w hw
    · intro w hw hne; simp [ma_2]; exact s6 w hw hne
    · intro j hj; simp [ma_2]; exact s8 j hj
    · intro j hj; simp [ma_2]; exact s9 j hj
  · obtain ⟨v1, v2, v3, v4⟩ := q2
    refine ⟨?_, v2, ?_, v4⟩
    · intro k hk
      by_cases q : k = i
      · subst q
        exact ⟨a, p + 1, b1, b2, hpa, by simp [kd_3, e1], by simp [kd_3, e4, r4]⟩
      · obtain ⟨a9, p9, y1, y2, y3, y4, y5⟩ := v1 k hk
        exact ⟨a9, p9, y1, y2, y3, by simp [kd_3, q, y4], by simp [kd_3, q, y5]⟩
    · intro k hk
      by_cases q : k = i
      · subst q; exact Or.inl (by simp [kd_3, q4])
      · simp [kd_3, q]; exact v3 k hk
/-- a desk waits no more -/
theorem sm_unwait {n i : Nat} {σ : kS} {τ : mS} (h : sm n i σ τ) (hv : iv n σ) (hi : i < n) : sm n i (k_d σ i 6 (-1)) (m_a τ 10 i (-1)) ∧ iv n (k_d σ i 6 (-1)) := by
  obtain ⟨s1, s2, s3, s4, s5, s6, s7, s8, s9⟩ := h
  obtain ⟨v1, v2, v3, v4⟩ := hv
  refine ⟨⟨?_, ?_, ?_, ?_, ?_, ?_, s7, ?_, ?_⟩, ⟨?_, v2, ?_, v4⟩⟩
  · intro k hk; simp [kd_3]; exact s1 k hk
  · intro k hk
    obtain ⟨d1, d3, d4, d5, d6⟩ := s2 k hk
    by_cases q : k = i
    · subst q; simp [kd_3, ma_2, d1, d3, d4, d6]
    · simp [kd_3, ma_2, q, d1, d3, d4, d5, d6]
  · intro k hk hki
    rw [kd_cond_congr (σ' := σ) (by funext g; simp [kd_3, hki])]
    simp [kd_3, ma_2]
    exact s3 k hk hki
  · intro k hk j hj; simp only [ma_2]; exact s4 k hk j hj
  · intro w hw; simp [ma_2]; exact s5 w hw
  · intro w hw hne; simp [ma_2]; exact s6 w hw hne
  · intro j hj; simp [ma_2]; exact s8 j hj
  · intro j hj; simp [ma_2]; exact s9 j hj
  · intro k hk
    obtain ⟨a9, p9, y1, y2, y3, y4, y5⟩ := v1 k hk
    exact ⟨a9, p9, y1, y2, y3, by simp [kd_3, y4], by simp [kd_3, y5]⟩
  · intro k hk
    by_cases q : k = i
    · subst q; exact Or.inl (by simp [kd_3])
    · simp [kd_3, q]; exact v3 k hk
theorem sm_int {n : Nat} {σ : kS} {τ : mS} (h : sm n n σ τ) (hv : iv n σ) (hn : n ≤ 8) (x : Int32) (hx : ∀ i, kd_at n x = some i → i < n) : (kp_int n σ x).1 = (mo_int n τ x).1 ∧ sm n n (kp_int n σ x).2 (mo_int n τ x).2 ∧ iv n (kp_int n σ x).2 := by
  have h0 := sm_f0 h 0 0 (Or.inl rfl)
  unfold kp_int mo_int
  dsimp only
  cases hq : kd_at n x with
  | none => exact ⟨rfl, h0, hv⟩
  | some i =>
    dsimp only
    have hi := hx i hq
    have u1 := (h0.2.2.1 i hi (by omega)).1
    by_cases h6 : σ.2.2.1 i 6 = -1
    · have hc : ¬ (m_f τ 0 0).2 6 i = 1 := by
        rw [u1]; unfold kd_cond
        rw [h6]
        split
        · split
          · split
            · simp
            · decide
          · decide
        · decide
      rw [if_pos h6, if_neg hc]
      exact ⟨rfl, h0, hv⟩
    · obtain ⟨-, c8, c9, c4⟩ := (hv.2.2.1 i hi).resolve_left h6
      have hc : (m_f τ 0 0).2 6 i = 1 := by
        rw [u1]; unfold kd_cond
        simp [c9, c8, c4, h6]
      rw [if_neg h6, if_pos hc]
      obtain ⟨g1, g2⟩ := sm_unwait (sm_weak h0 i) hv hi
      obtain ⟨a1, a2, a3, a3'⟩ := sm_tell g1 hi 3
      have hb6 : (kd_tell (k_d σ i 6 (-1)) 3 i).2.2.1 i 6 = -1 := by rw [a2]; simp [kd_3]
      obtain ⟨q1, q2, q3, q4, q5, q6, q7, q8, q9⟩ := sm_gba a1 (iv_congr g2 a2 a3) hn hi hb6 (Nat.le_refl 16)
      rw [tell_gba]
      dsimp only
      obtain ⟨a, p, b1, b2, b3, b4, b5⟩ := hv.1 i hi
      have hpa : p < a := by
        rw [b4, b5] at c4
        exact (nI_ltI (by omega) (by omega)).mp c4
      have eD : ∀ f, f ≠ 6 → (kd_gba n (kd_tell (k_d σ i 6 (-1)) 3 i) i 16).2.2.1 i f = σ.2.2.1 i f := by
        intro f hf
        rw [q3 i f hf, a2]
        simp [kd_3, hf]
      have w3 : (mo_ga n (mo_write (m_a (m_f τ 0 0) 10 i (-1)) 3 i) i).2 3 i = σ.2.2.1 i 3 := by
        show (mo_gap n _ _ 16).2 3 i = _
        rw [q9]
        have e1 : (mo_write (m_a (m_f τ 0 0) 10 i (-1)) 3 i).2 3 i = τ.2 3 i := by
          unfold mo_write
          split <;> simp [ma_2, mf_2]
        rw [e1]
        exact (h.2.2.1 i hi (by omega)).2
      obtain ⟨r1, r2⟩ := sm_goes q1 q2 hi q4 ((eD 8 (by decide)).trans c8) ((eD 9 (by decide)).trans c9) ((eD 4 (by decide)).trans b5) ((eD 1 (by decide)).trans b4) b1 b2 hpa (by rw [eD 3 (by decide)]; exact w3)
      exact ⟨rfl, r1, r2⟩
end
section
/-! a throw that is caught by a row of the method's own table, its class not yet linked -/
def xc_To (e : Env) (s : State) (f : JFrame) (a : Addr) (h : Handler) (vm' : Vm) : Prop :=
  ∀ (Q : Handler → Pre) (E : CtlPost) (d : Bool) (acts : List Action), wp (findHandler f a) Q E e d acts s ↔ Q h d acts (s.setVm vm')
section XCG
variable {Q : Handler → Pre} {E : CtlPost} {e : Env} {d : Bool} {acts : List Action} {s : State} {f : JFrame} {a : Addr}
theorem xc_yes {x : ExceptionTableEntry} {t : List ExceptionTableEntry} {c : ClassId} {cell : Cell} (hx : covers x f.pc = true) (h0 : x.catchType ≠ 0)
    (hl : s.vm.ClassLinks e.platform f.method.cls x.catchType c) (hcell : s.heap[a]? = some cell) (hobj : ∀ k, cell.vm ≠ .statics k)
    (hk : ∃ k, s.vm.classes[cell.cls]? = some k) (hc : ∃ k, s.vm.classes[c]? = some k) (hfit : s.vm.assignable cell.cls c = true) :
    wp (findHandler.go f a (x :: t)) Q E e d acts s ↔ Q (.found x.handlerPc) d acts (s.setVm (s.vm.noted f.method.cls x.catchType (.cls c))) := by
  simp only [covers] at hx
  obtain ⟨ha, ht⟩ := (resolveClass_links e.toSetting hl).op (op := VmOp.resolveClass f.method.cls x.catchType) rfl
  have hal : s.vm.Alike (s.vm.noted f.method.cls x.catchType (.cls c)) := (Vm.Alike.refl s.vm).noted _ _ _
  obtain ⟨k1, hk1⟩ := hk
  obtain ⟨k2, hk2⟩ := hc
  obtain ⟨k1', hk1', -⟩ := hal.2.2 _ _ hk1
  obtain ⟨k2', hk2', -⟩ := hal.2.2 _ _ hk2
  have hfit' : (s.vm.noted f.method.cls x.catchType (.cls c)).assignable cell.cls c = true := by rw [hal.assignable]; exact hfit
  simp [findHandler.go, hx, h0, ha, ht, hcell, hobj, hk1', hk2', hfit', VmOp.dirties, VmOp.acts]
theorem xc_no {x : ExceptionTableEntry} {t : List ExceptionTableEntry} {c : ClassId} {cell : Cell} (hx : covers x f.pc = true) (h0 : x.catchType ≠ 0)
    (hl : s.vm.ClassLinks e.platform f.method.cls x.catchType c) (hcell : s.heap[a]? = some cell) (hobj : ∀ k, cell.vm ≠ .statics k)
    (hk : ∃ k, s.vm.classes[cell.cls]? = some k) (hc : ∃ k, s.vm.classes[c]? = some k) (hfit : s.vm.assignable cell.cls c = false) :
    wp (findHandler.go f a (x :: t)) Q E e d acts s ↔ wp (findHandler.go f a t) Q E e d acts (s.setVm (s.vm.noted f.method.cls x.catchType (.cls c))) := by
  simp only [covers] at hx
  obtain ⟨ha, ht⟩ := (resolveClass_links e.toSetting hl).op (op := VmOp.resolveClass f.method.cls x.catchType) rfl
  have hal : s.vm.Alike (s.vm.noted f.method.cls x.catchType (.cls c)) := (Vm.Alike.refl s.vm).noted _ _ _
  obtain ⟨k1, hk1⟩ := hk
  obtain ⟨k2, hk2⟩ := hc
  obtain ⟨k1', hk1', -⟩ := hal.2.2 _ _ hk1
  obtain ⟨k2', hk2', -⟩ := hal.2.2 _ _ hk2
  have hfit' : (s.vm.noted f.method.cls x.catchType (.cls c)).assignable cell.cls c = false := by rw [hal.assignable]; exact hfit
  simp [findHandler.go, hx, h0, ha, ht, hcell, hobj, hk1', hk2', hfit', VmOp.dirties, VmOp.acts]
end XCG
/-- a row ahead that doesn't take it; the row that does -/
def xc_pass (e : Env) (s₀ : State) (d : ClassId) (pc : Nat) (thrown : ClassId) (y : ExceptionTableEntry) : Prop :=
  covers y pc = false ∨ (y.catchType ≠ 0 ∧ ∃ c, s₀.vm.ClassLinks e.platform d y.catchType c ∧ s₀.vm.assignable thrown c = false)
theorem xc_go {e : Env} {s₀ : State} {f : JFrame} {a : Addr} {cell : Cell} (hobj : ∀ k, cell.vm ≠ .statics k) (hk0 : ∃ k, s₀.vm.classes[cell.cls]? = some k)
    (x : ExceptionTableEntry) (rest : List ExceptionTableEntry) (hx : covers x f.pc = true) (h0 : x.catchType ≠ 0) {c : ClassId} (hl : s₀.vm.ClassLinks e.platform f.method.cls x.catchType c) (hfit : s₀.vm.assignable cell.cls c = true) :
    ∀ (pre : List ExceptionTableEntry) (S : State), s₀.WarmedH S.vm → S.heap[a]? = some cell → (∀ y ∈ pre, xc_pass e s₀ f.method.cls f.pc cell.cls y) →
      ∃ vm', s₀.WarmedH vm' ∧ ∀ (Q : Handler → Pre) (E : CtlPost) (d : Bool) (acts : List Action), wp (findHandler.go f a (pre ++ x :: rest)) Q E e d acts S ↔ Q (.found x.handlerPc) d acts (S.setVm vm') := by
  obtain ⟨k0, hk0⟩ := hk0
  intro pre
  induction pre with
  | nil =>
    intro S hW hcell _
    obtain ⟨k0', hk0', -⟩ := hW.alike.2.2 _ _ hk0
    obtain ⟨dk, _, _, kt, hd, _, _, _, _, hkt, _, ho⟩ := hl.here
    obtain ⟨kt', hkt', -⟩ := hW.alike.2.2 _ _ hkt
    exact ⟨_, hW.noted hd ho (State.rightAt_cls hl), fun Q E d acts => by
      rw [List.nil_append]
      exact xc_yes hx h0 (hW.classLinks hl) hcell hobj ⟨k0', hk0'⟩ ⟨kt', hkt'⟩ (by rw [hW.alike.assignable]; exact hfit)⟩
  | cons y ys ih =>
    intro S hW hcell hpass
    obtain ⟨k0', hk0', -⟩ := hW.alike.2.2 _ _ hk0
    have hrest : ∀ z ∈ ys, xc_pass e s₀ f.method.cls f.pc cell.cls z := fun z hz => hpass z (List.mem_cons_of_mem _ hz)
    by_cases hcov : covers y f.pc = true
    · rcases hpass y List.mem_cons_self with h | ⟨h1, c1, hl1, hno⟩
      · rw [h] at hcov; cases hcov
      · obtain ⟨dk, _, _, kt, hd, _, _, _, _, hkt, _, ho⟩ := hl1.here
        obtain ⟨kt', hkt', -⟩ := hW.alike.2.2 _ _ hkt
        obtain ⟨vm', hW', hq⟩ := ih (S.setVm (S.vm.noted f.method.cls y.catchType (.cls c1))) (hW.noted hd ho (State.rightAt_cls hl1)) hcell hrest
        exact ⟨vm', hW', fun Q E d acts => by
          rw [List.cons_append, xc_no hcov h1 (hW.classLinks hl1) hcell hobj ⟨k0', hk0'⟩ ⟨kt', hkt'⟩ (by rw [hW.alike.assignable]; exact hno)]
          exact hq Q E d acts⟩
    · obtain ⟨vm', hW', hq⟩ := ih S hW hcell hrest
      exact ⟨vm', hW', fun Q E d acts => by
        rw [List.cons_append, W.findHandler_go_skip (by simpa using hcov)]
        exact hq Q E d acts⟩
theorem xc_step {e : Env} {s : State} {a : Addr} {f : JFrame} {r : List Frame} {pc : Nat} {vm' : Vm} (hfind : xc_To e s f a (.found pc) vm') :
    (stepThrowing e s a (.java f :: r)).Is ((s.setVm vm').setFrames (.java { f with pc := pc, stack := [.ref a] } :: r)) [] := by
  simp only [stepThrowing, searchFrame, vmDo]
  generalize hr : Sem.go _ e false [] s = res
  obtain ⟨as, rfl, ha⟩ := Sem.eq_ok_of hr (a := Handler.found pc) (s' := s.setVm vm') (acts' := []) (by simp [hfind _ _ _ _])
  exact ⟨rfl, ha⟩
theorem xc_caught {tb : Tables} {e : Env} {s target : State} {g : JFrame} {c : Code} {below : List Frame} {a : Addr} (h : At s g.method c below) {pc : Nat} {vm' : Vm}
    (hfind : xc_To e ((s.setTop g).pushFrame (.throwing a)) g a (.found pc) vm') (hrest : Steps tb e below ((s.setVm vm').setTop { g with pc := pc, stack := [.ref a] }) target) :
    Steps tb e below ((s.setTop g).pushFrame (.throwing a)) target := by
  obtain ⟨hgo, hw⟩ := h.throwing a
  refine Steps.head hgo hw ?_
  rw [stepThread_throwing (frames_entered h.top _), (xc_step (s := (s.setTop g).pushFrame (.throwing a)) hfind).1]
  obtain ⟨g₀, hg⟩ := Option.isSome_iff_exists.mp h.top
  obtain ⟨r, hr⟩ := State.topJava?_eq_some.mp hg
  have hr' : (s.setVm vm').frames = .java g₀ :: r := hr
  rw [State.setTop_of_frames _ hr'] at hrest
  have e1 : ((((s.setTop g).pushFrame (.throwing a)).setVm vm').setFrames (.java { g with pc := pc, stack := [.ref a] } :: s.frames.tail)) = (s.setVm vm').setFrames (.java { g with pc := pc, stack := [.ref a] } :: r) := by
    rw [hr, List.tail_cons, State.pushFrame, State.setTop_of_frames _ hr, State.setFrames_setFrames]
    exact State.setFrames_setFrames (s.setVm vm') _ _
  rw [e1]
  exact hrest
theorem xc_through {p : Program} {l : Launch} {e : Env} {R : Room} {s : State} {m : MethodId} {args : Array Value} {below : List Frame} {meth : Method} {c : Code} {T : State} {locs : List Loc} {cells slots : Nat} (X : Stand p l e R s m args below meth c T locs cells slots) (a : Addr) {g : JFrame} (hg : g.method = m)
    {cell : Cell} (hcell : T.heap[a]? = some cell) (hobj : cell.vm.isStatics = false) (hk0 : ∃ k, s.vm.classes[cell.cls]? = some k)
    (pre : List ExceptionTableEntry) (x : ExceptionTableEntry) (rest : List ExceptionTableEntry) (hsplit : c.exceptionTable.toList = pre ++ x :: rest)
    (hpass : ∀ y ∈ pre, xc_pass e s m.cls g.pc cell.cls y) (hx : covers x g.pc = true) (h0 : x.catchType ≠ 0) {cT : ClassId} (hl : s.vm.ClassLinks e.platform m.cls x.catchType cT) (hfit : s.vm.assignable cell.cls cT = true) :
    ∃ vm', Stand p l e R s m args below meth c (T.setVm vm') locs cells slots ∧ Steps p.tables e below ((T.setTop g).pushFrame (.throwing a)) ((T.setVm vm').setTop { g with pc := x.handlerPc, stack := [.ref a] }) := by
  subst hg
  obtain ⟨vm', hW', hq⟩ := xc_go (e := e) (s₀ := s) (f := g) (a := a) (VmData.ne_statics_of hobj) hk0 x rest hx h0 hl hfit pre ((T.setTop g).pushFrame (.throwing a)) X.warmed hcell hpass
  refine ⟨vm', X.noted hW', xc_caught (vm' := vm') X.here (fun Q E d acts => ?_) (Steps.refl _)⟩
  rw [W.findHandler_eq (s := (T.setTop g).pushFrame (.throwing a)) (f := g) X.method' X.code, hsplit]
  exact hq Q E d acts
end
section
/-! ===== BEGIN words of one list among another's, by their places ===== -/
theorem goodIn_r {big : List Cond} (ws : List Cond) (ps : List Nat) (hp : ws = ps.filterMap (fun i => big[i]?)) (h : ws.all goodWord = true) : GoodIn big ws := by
  intro w hw
  have h1 := List.all_eq_true.mp h w hw
  rw [hp] at hw
  obtain ⟨i, -, hi⟩ := List.mem_filterMap.mp hw
  have hm : w ∈ big := by first | exact List.mem_of_getElem? hi | exact List.getElem?_mem hi
  exact ⟨hm, good_of_word h1⟩
theorem goodIn_app {big a b : List Cond} (ha : GoodIn big a) (hb : GoodIn big b) : GoodIn big (a ++ b) := fun w h => (List.mem_append.mp h).elim (ha w) (hb w)
theorem goodIn_ca {big a b : List Cond} {c : Cond} (ha : GoodIn big (c :: a)) (hb : GoodIn big b) : GoodIn big (c :: (a ++ b)) := fun w h => (List.mem_cons.mp h).elim (fun e => ha w (List.mem_cons.mpr (Or.inl e))) (fun h => (List.mem_append.mp h).elim (fun h => ha w (List.mem_cons.mpr (Or.inr h))) (hb w))
theorem goodIn_sub {big ws : List Cond} (hm : ∀ w ∈ ws, w ∈ big) (h : ws.all goodWord = true) : GoodIn big ws := fun w hw => ⟨hm w hw, good_of_word (List.all_eq_true.mp h w hw)⟩
/-! ===== END ===== -/

/-! ===== BEGIN exceptions that leave a method, and their catching by the caller (launches without stack traces) ===== -/
section VXA
/-! The laws vx_back, vx_callV, vx_callS, vx_callSW, vx_throw0, vx_throwS follow proofs of the library, with one case more: JvmDerived/Free/Laws.lean (Back.of_free), Shelf42/LK1.lean (callV, callS), Shelf/KitTraced.lean (throwNew0V, throwNewS). -/
/-- where a method has thrown q: the class by its name, the cell, what was written, the world -/
def vx_T (XC : String → State → State → Prop) (st : State) (q : Addr) (t : State) (mc ms : Nat) (free : Addr → Prop) : Prop :=
  ∃ (E : String) (ce : Cell) (L : List Loc), XC E st t ∧ t.heap[q]? = some ce ∧ ce.vm = .none ∧ st.vm.findClass E = some ce.cls ∧ st.WarmedH t.vm ∧ st.sameButNew ({ t with vm := st.vm } : State) L mc ms ∧ ∀ z ∈ L, free z.base
def vx_Q (Qc : Array Value → State → Outcome → State → Prop) (XC : String → State → State → Prop) (mc ms : Nat) (free : Addr → Prop) : Array Value → State → Outcome → State → Prop := fun a st o t =>
  (Qc a st o t ∧ ∃ L, FrameEnd st o t L mc ms ∧ ∀ q ∈ L, free q.base) ∨ ∃ q, o = .threw q ∧ vx_T XC st q t mc ms free
/-- a callee that returns or throws -/
def vx_Met (l : Launch) (y : MethodName) (ws : List Cond) (rm : Room) (Pc : Array Value → State → Prop) (Qc : Array Value → State → Outcome → State → Prop) (XC : String → State → State → Prop) (mc ms : Nat) (free : Addr → Prop) : Prop :=
  MetFree l y (headSpec ws rm) Pc (fun _ _ _ _ _ => True) (vx_Q Qc XC mc ms free)
def vx_Post (XC : String → State → State → Prop) (mc ms : Nat) (free : Addr → Prop) : Pt → Array Value → Addr → Pt → Prop := fun A a q B =>
  ∃ (g : JFrame) (mk : MethodId) (t : State) (L : List Loc) (E : String) (ce : Cell), B.U.heap = t.heap ∧ B.U.vm = t.vm ∧ XC E (A.U.calling g mk a) t ∧ t.heap[q]? = some ce ∧ ce.vm = .none ∧ A.U.vm.findClass E = some ce.cls ∧ B.locs = A.locs ++ L ∧ (∀ z ∈ L, free z.base) ∧ B.cells = A.cells + mc ∧ B.slots = A.slots + ms
def vx_Back (l : Launch) (R : Room) (p : Program) (e : Env) (below : List Frame) (s : State) (sargs : Array Value) (y : MethodName) (len W9 : Nat)
    (Pre : Pt → Array Value → Prop) (Post : Pt → Array Value → Option Value → Pt → Prop) (PostX : Pt → Array Value → Addr → Pt → Prop) : Prop :=
  ∀ (m : MethodId) (meth : Method) (c : Code) (A : Pt) (g : JFrame) (ig : Instr) (mk : MethodId) (a : Array Value),
    Stand p l e R s m sargs below meth c A.U A.locs A.cells A.slots → g.method = m → g.locals.size = c.maxLocals → decode c.code g.pc = .ok (ig, len) →
    2 * g.monitorRoom + (g.stack.map fun v => v.category).sum ≤ W9 → A.U.methodNamed? y = some mk → Pre A a →
    (∃ (v : Option Value) (B : Pt), Stand p l e R s m sargs below meth c B.U B.locs B.cells B.slots ∧ Post A a v B ∧
      Steps p.tables e below (doInvoke e (A.U.setTop g) [] mk a).1 (B.U.setTop { g with pc := g.pc + len, stack := v.toList ++ g.stack })) ∨
    (∃ (q : Addr) (B : Pt), Stand p l e R s m sargs below meth c B.U B.locs B.cells B.slots ∧ PostX A a q B ∧
      Steps p.tables e below (doInvoke e (A.U.setTop g) [] mk a).1 ((B.U.setTop g).pushFrame (.throwing q)))
section Payer
variable {l : Launch} {R : Room} {p : Program} {e : Env} {below : List Frame} {s : State} {sargs : Array Value} {y : MethodName} {len W9 : Nat}
theorem vx_back {ws : List Cond} {rm : Room} {Pc : Array Value → State → Prop} {Qc : Array Value → State → Outcome → State → Prop} {XC : String → State → State → Prop} {mc ms : Nat} {free : Addr → Prop} {bytes : ByteArray} {maxL : Nat} {ret : Option FieldType}
    (hM : vx_Met l y ws rm Pc Qc XC mc ms free) (hblind : FrameBlind Pc) (hrc : rm.cells = mc) (hrs : rm.slots = ms)
    (hframes : rm.frames + 1 ≤ R.frames) (hlocals : W9 + (maxL + 11) + rm.locals ≤ R.locals)
    (hws : ∀ w ∈ ws, ∀ a' U, s.WarmedH U.vm → w.before a' U = true) (hcode : Cond.code y bytes maxL ret ∈ ws) (hinit : ∀ a' U, s.WarmedH U.vm → (Cond.initialized y.cls).before a' U = true) :
    vx_Back l R p e below s sargs y len W9 (PreOf R mc ms Pc) (PostOf Qc mc ms free) (vx_Post XC mc ms free) := by
  intro m meth c A g ig mk a X hg hsize hdg hW hn hp
  have h1 : (headSpec ws rm).pre.before a A.U = true := atoms_intro fun w hw => hws w hw _ _ X.warmed
  have h2 : (Cond.code y bytes maxL ret).before a A.U = true := hws _ hcode _ _ X.warmed
  have h3 : (Cond.initialized y.cls).before a A.U = true := hinit _ _ X.warmed
  have h4 : A.cells + (headSpec ws rm).room.cells ≤ R.cells := by rw [show (headSpec ws rm).room.cells = mc from hrc]; exact hp.1
  have h5 : A.slots + (headSpec ws rm).room.slots ≤ R.slots := by rw [show (headSpec ws rm).room.slots = ms from hrs]; exact hp.2.1
  have hPc : Pc a (A.U.calling g mk a) := hblind _ _ _ _ hp.2.2
  obtain ⟨U, Ls, c0, s0⟩ := A
  dsimp only [Pt.U, Pt.locs, Pt.cells, Pt.slots] at h1 h2 h3 h4 h5 X hn hPc ⊢
  obtain ⟨methY, cY, hmY, hcY, -, hlY, -, -, -, -⟩ := Cond.code_spec hn h2
  obtain ⟨kY, hkY, -⟩ := className_of_methodNamed hn
  have hinitY : kY.init = .initialized := Cond.initialized_spec (findClass_of_methodNamed hn) hkY h3
  have h : At U g.method c below := by rw [hg]; exact X.here
  have hlocals9 : W9 + (maxL + 11) + (headSpec ws rm).room.locals ≤ R.locals := hlocals
  have happ : (headSpec ws rm).appliesLoose y e.platform (U.calling g mk a) = true :=
    Spec.appliesLoose_calling (g := g) h hdg hn hkY hinitY
      (X.room_calling (g := g) (R' := (headSpec ws rm).room) hsize hmY hcY hframes (by rw [hlY]; omega) h4 h5) h1
  obtain ⟨mid, hmid⟩ := h.above
  have hfr : (U.setTop g).frames = (.java g :: mid) ++ below := by rw [State.frames_setTop' g h.top, hmid]; rfl
  obtain ⟨o, s₂, hsteps, -, hend, hq⟩ := Steps.callFree hM p X.admits X.cas X.clock (acts := []) hfr happ hPc trivial
  have hq' : vx_Q Qc XC mc ms free a (U.calling g mk a) o s₂ := hq
  rw [State.frames_setTop' g h.top] at hend
  obtain ⟨g₀, hg0⟩ := Option.isSome_iff_exists.mp h.top
  obtain ⟨r, hr⟩ := State.topJava?_eq_some.mp hg0
  have hr' : (({ U with heap := s₂.heap, slotsUsed := s₂.slotsUsed } : State).setVm s₂.vm).frames = .java g₀ :: r := hr
  rcases hq' with ⟨hqc, L, hfe, hL⟩ | ⟨q, rfl, E, ce, L, hx, hce, hcv, hcl, hW₂, hsm, hL⟩
  · obtain ⟨⟨v, rfl⟩, hW₂, e2, q2, q3, q4, q5, q6⟩ := id hfe
    have e3 : s₂ = ({ (U.calling g mk a).setFrames s₂.frames with heap := s₂.heap, slotsUsed := s₂.slotsUsed } : State).setVm s₂.vm := by
      have : s₂ = ({ s₂ with vm := (U.calling g mk a).vm } : State).setVm s₂.vm := rfl
      rw [e2] at this
      exact this
    obtain ⟨c₂, i₂, len₂, hc₂, hd₂, hf₂⟩ := hend
    have hW' : U.WarmedH s₂.vm := hW₂
    have hcc : c₂ = c := by
      have h1 : s₂.code? g.method = U.code? g.method := by
        rw [State.code?_eq, State.code?_eq, hW'.alike.method?]
      exact Option.some.inj (hc₂.symm.trans (h1.trans h.code))
    subst hcc
    have hlen : len₂ = len := by rw [hdg] at hd₂; cases hd₂; rfl
    subst hlen
    have hs₂ : s₂ = (({ U with heap := s₂.heap, slotsUsed := s₂.slotsUsed } : State).setVm s₂.vm).setTop { g with pc := g.pc + len₂, stack := v.toList ++ g.stack } := by
      refine e3.trans ?_
      rw [hf₂, State.calling_eq h.top, State.setFrames_setFrames, State.setTop_of_frames _ hr', hr]
      rfl
    have hsame : U.sameButNew ({ U with heap := s₂.heap, slotsUsed := s₂.slotsUsed } : State) L mc ms := by
      refine ⟨?_, q2, q3, q4, q5, q6⟩
      obtain ⟨t, ht, -⟩ := State.frames_cons hr
      show ({ U with heap := s₂.heap, slotsUsed := s₂.slotsUsed } : State) = { U.setFrames U.frames with heap := s₂.heap, slotsUsed := s₂.slotsUsed }
      rw [State.setFrames_self ht]
    subst hg
    refine Or.inl ⟨v, ⟨(({ U with heap := s₂.heap, slotsUsed := s₂.slotsUsed } : State).setVm s₂.vm), Ls ++ L, c0 + mc, s0 + ms⟩,
      ⟨X.admits, X.cas, X.clock, X.frames, X.room, X.hears, X.method, X.code, (X.here.setHeapUsed s₂.heap s₂.slotsUsed).setVm hW'.alike, X.tail, State.WarmedH.trans X.warmed hW', X.limits, X.bytes, X.same.trans (hsame.setVm s.vm)⟩,
      ⟨g, mk, s₂, L, rfl, rfl, hqc, rfl, hL, rfl, rfl⟩, ?_⟩
    show Steps p.tables e below _ ((({ U with heap := s₂.heap, slotsUsed := s₂.slotsUsed } : State).setVm s₂.vm).setTop { g with pc := g.pc + len₂, stack := v.toList ++ g.stack })
    rw [← hs₂]
    exact hsteps
  · obtain ⟨e2, q2, q3, q4, q5, q6⟩ := id hsm
    have e3 : s₂ = ({ (U.calling g mk a).setFrames s₂.frames with heap := s₂.heap, slotsUsed := s₂.slotsUsed } : State).setVm s₂.vm := by
      have : s₂ = ({ s₂ with vm := (U.calling g mk a).vm } : State).setVm s₂.vm := rfl
      rw [e2] at this
      exact this
    have hf₂ : s₂.frames = .throwing q :: .java g :: U.frames.tail := hend
    have hW' : U.WarmedH s₂.vm := hW₂
    have hs₂ : s₂ = ((({ U with heap := s₂.heap, slotsUsed := s₂.slotsUsed } : State).setVm s₂.vm).setTop g).pushFrame (.throwing q) := by
      refine e3.trans ?_
      rw [hf₂, State.calling_eq h.top, State.setFrames_setFrames, State.pushFrame, State.frames_setTop _ hr', State.setTop_of_frames _ hr', State.setFrames_setFrames, hr]
      rfl
    have hsame : U.sameButNew ({ U with heap := s₂.heap, slotsUsed := s₂.slotsUsed } : State) L mc ms := by
      refine ⟨?_, q2, q3, q4, q5, q6⟩
      obtain ⟨t, ht, -⟩ := State.frames_cons hr
      show ({ U with heap := s₂.heap, slotsUsed := s₂.slotsUsed } : State) = { U.setFrames U.frames with heap := s₂.heap, slotsUsed := s₂.slotsUsed }
      rw [State.setFrames_self ht]
    subst hg
    refine Or.inr ⟨q, ⟨(({ U with heap := s₂.heap, slotsUsed := s₂.slotsUsed } : State).setVm s₂.vm), Ls ++ L, c0 + mc, s0 + ms⟩,
      ⟨X.admits, X.cas, X.clock, X.frames, X.room, X.hears, X.method, X.code, (X.here.setHeapUsed s₂.heap s₂.slotsUsed).setVm hW'.alike, X.tail, State.WarmedH.trans X.warmed hW', X.limits, X.bytes, X.same.trans (hsame.setVm s.vm)⟩,
      ⟨g, mk, s₂, L, E, ce, rfl, rfl, hx, hce, hcv, hcl, rfl, hL, rfl, rfl⟩, ?_⟩
    show Steps p.tables e below _ (((({ U with heap := s₂.heap, slotsUsed := s₂.slotsUsed } : State).setVm s₂.vm).setTop g).pushFrame (.throwing q))
    rw [← hs₂]
    exact hsteps
end Payer
section Calls
variable {p : Program} {l : Launch} {e : Env} {R : Room} {s : State} {m : MethodId} {args : Array Value} {below : List Frame} {meth : Method} {c : Code} {T : State} {locs : List Loc} {cells slots : Nat}
theorem vx_callV (X : Stand p l e R s m args below meth c T locs cells slots) (hexec : p.tables.exec = Jvm.exec) {own C : String} {index : Nat} {y : MethodName} {bytes : ByteArray} {maxL : Nat} {ret : Option FieldType}
    (hown : s.vm.findClass own = some m.cls) (hlink : (Cond.methodLink own index y).before args s = true) (hinst : (Cond.instanceMethod y).before args s = true) (hsel : (Cond.selects C y y).before args s = true)
    (hcode : (Cond.code y bytes maxL ret).before args s = true) (hy : y.cls ≠ "java/lang/invoke/MethodHandle" ∧ y.cls ≠ "java/lang/invoke/VarHandle")
    {W9 : Nat} {Pre : Pt → Array Value → Prop} {Post : Pt → Array Value → Option Value → Pt → Prop} {PostX : Pt → Array Value → Addr → Pt → Prop} (hK : vx_Back l R p e below s args y 3 W9 Pre Post PostX)
    {b : Addr} {cellB : Cell} (hcell : T.heap[b]? = some cellB) (hobj : cellB.vm.isStatics = false) (hcls : s.vm.findClass C = some cellB.cls)
    {g : JFrame} (hg : g.method = m) (hsize : g.locals.size = c.maxLocals) {argsL rest : List Value} (hlen : ∀ sig, parseMethodDescriptor y.desc = some sig → argsL.length = sig.parameters.length)
    (hstack : g.stack = argsL.reverse ++ .ref b :: rest) (hW : 2 * g.monitorRoom + (rest.map fun v => v.category).sum ≤ W9) (hdg : decode c.code g.pc = .ok (.invokevirtual index, 3))
    (hpre : ∀ vm₁, s.WarmedH vm₁ → Pre ⟨T.setVm vm₁, locs, cells, slots⟩ (Value.ref b :: argsL).toArray) :
    (∃ (v : Option Value) (vm₁ : Vm) (B : Pt), s.WarmedH vm₁ ∧ Stand p l e R s m args below meth c B.U B.locs B.cells B.slots ∧ Post ⟨T.setVm vm₁, locs, cells, slots⟩ (Value.ref b :: argsL).toArray v B ∧
      ∀ target, Steps p.tables e below (B.U.setTop { g with pc := g.pc + 3, stack := v.toList ++ rest }) target → Steps p.tables e below (T.setTop g) target) ∨
    (∃ (q : Addr) (vm₁ : Vm) (B : Pt), s.WarmedH vm₁ ∧ Stand p l e R s m args below meth c B.U B.locs B.cells B.slots ∧ PostX ⟨T.setVm vm₁, locs, cells, slots⟩ (Value.ref b :: argsL).toArray q B ∧
      Steps p.tables e below (T.setTop g) ((B.U.setTop { g with stack := rest }).pushFrame (.throwing q))) := by
  obtain ⟨mk, methM, hnamed, hmethM, hstM, habM⟩ := Cond.instanceMethod_spec hinst
  obtain ⟨methM', cM, hmethM', -, -, -, -, -, -, hsigM⟩ := Cond.code_spec hnamed hcode
  cases hmethM.symm.trans hmethM'
  obtain ⟨c2, r2, m2, q1, q2, q3, q4, kP, hkP, hkPi⟩ := Cond.selects_spec hsel
  cases hcls.symm.trans q1
  cases (State.methodFound?_of_named hnamed hy).symm.trans q2
  cases hnamed.symm.trans q3
  have hselP : selectMethod e.platform s.vm cellB.cls mk = .method mk := by rw [Launch.admits_selectMethod X.admits]; exact q4
  obtain ⟨vm₁, X₁, hstep₁⟩ := X.invokevirtual hexec hown hlink hnamed hmethM hstM hkP hkPi hy (a := b) (cell := cellB) hcell
    (fun z h => by rw [h] at hobj; cases hobj) hselP hmethM habM hkP hkPi (g := g) hg (argsL := argsL) (rest := rest) (hlen _ hsigM) hstack hdg
  rcases hK m meth c ⟨T.setVm vm₁, locs, cells, slots⟩ { g with stack := rest } (.invokevirtual index) mk (Value.ref b :: argsL).toArray X₁ hg hsize hdg hW (X₁.named hnamed) (hpre vm₁ X₁.warmed) with ⟨v, B, X', hpost, hsteps⟩ | ⟨q, B, X', hpost, hsteps⟩
  · exact Or.inl ⟨v, vm₁, B, X₁.warmed, X', hpost, fun target h => hstep₁ _ fun acts => by rw [doInvoke_state]; exact hsteps.trans h⟩
  · exact Or.inr ⟨q, vm₁, B, X₁.warmed, X', hpost, hstep₁ _ fun acts => by rw [doInvoke_state]; exact hsteps⟩
theorem vx_callS (X : Stand p l e R s m args below meth c T locs cells slots) (hexec : p.tables.exec = Jvm.exec) {own : String} {index : Nat} {y : MethodName} {bytes : ByteArray} {maxL : Nat} {ret : Option FieldType}
    (hown : s.vm.findClass own = some m.cls) (hlink : (Cond.methodLink own index y).before args s = true) (hstat : (Cond.static y).before args s = true) (hinit : (Cond.initialized y.cls).before args s = true)
    (hcode : (Cond.code y bytes maxL ret).before args s = true) (hy : y.cls ≠ "java/lang/invoke/MethodHandle" ∧ y.cls ≠ "java/lang/invoke/VarHandle")
    {W9 : Nat} {Pre : Pt → Array Value → Prop} {Post : Pt → Array Value → Option Value → Pt → Prop} {PostX : Pt → Array Value → Addr → Pt → Prop} (hK : vx_Back l R p e below s args y 3 W9 Pre Post PostX)
    {g : JFrame} (hg : g.method = m) (hsize : g.locals.size = c.maxLocals) {argsL rest : List Value} (hlen : ∀ sig, parseMethodDescriptor y.desc = some sig → argsL.length = sig.parameters.length)
    (hstack : g.stack = argsL.reverse ++ rest) (hW : 2 * g.monitorRoom + (rest.map fun v => v.category).sum ≤ W9) (hdg : decode c.code g.pc = .ok (.invokestatic index, 3))
    (hpre : ∀ vm₁, s.WarmedH vm₁ → Pre ⟨T.setVm vm₁, locs, cells, slots⟩ argsL.toArray) :
    (∃ (v : Option Value) (vm₁ : Vm) (B : Pt), s.WarmedH vm₁ ∧ Stand p l e R s m args below meth c B.U B.locs B.cells B.slots ∧ Post ⟨T.setVm vm₁, locs, cells, slots⟩ argsL.toArray v B ∧
      ∀ target, Steps p.tables e below (B.U.setTop { g with pc := g.pc + 3, stack := v.toList ++ rest }) target → Steps p.tables e below (T.setTop g) target) ∨
    (∃ (q : Addr) (vm₁ : Vm) (B : Pt), s.WarmedH vm₁ ∧ Stand p l e R s m args below meth c B.U B.locs B.cells B.slots ∧ PostX ⟨T.setVm vm₁, locs, cells, slots⟩ argsL.toArray q B ∧
      Steps p.tables e below (T.setTop g) ((B.U.setTop { g with stack := rest }).pushFrame (.throwing q))) := by
  obtain ⟨mk, hnamed⟩ := Cond.code_named hcode
  obtain ⟨methM, cM, hmethM, -, -, -, -, -, -, hsigM⟩ := Cond.code_spec hnamed hcode
  have hstatic : methM.isStatic = true := Cond.static_spec hnamed hmethM hstat
  obtain ⟨kP, hkP, -⟩ := className_of_methodNamed hnamed
  have hinitP : kP.init = .initialized := Cond.initialized_spec (findClass_of_methodNamed hnamed) hkP hinit
  obtain ⟨vm₁, X₁, hstep₁⟩ := X.invokestatic hexec hown hlink hnamed hmethM hstatic hkP hinitP hy (g := g) hg (argsL := argsL) (rest := rest) (hlen _ hsigM) hstack hdg
  rcases hK m meth c ⟨T.setVm vm₁, locs, cells, slots⟩ { g with stack := rest } (.invokestatic index) mk argsL.toArray X₁ hg hsize hdg hW (X₁.named hnamed) (hpre vm₁ X₁.warmed) with ⟨v, B, X', hpost, hsteps⟩ | ⟨q, B, X', hpost, hsteps⟩
  · exact Or.inl ⟨v, vm₁, B, X₁.warmed, X', hpost, fun target h => hstep₁ _ fun acts => by rw [doInvoke_state]; exact hsteps.trans h⟩
  · exact Or.inr ⟨q, vm₁, B, X₁.warmed, X', hpost, hstep₁ _ fun acts => by rw [doInvoke_state]; exact hsteps⟩
end Calls
theorem vx_cls {s : State} {T : State} {vm₁ : Vm} {E : String} {k : ClassId} (hW : s.WarmedH vm₁) (h : (T.setVm vm₁).vm.findClass E = some k) : s.vm.findClass E = some k := by
  have h1 : vm₁.findClass E = some k := h
  rw [hW.alike.findClass] at h1
  exact h1
/-- the method's frame g, with q thrown over it -/
def vx_W (p : Program) (l : Launch) (e : Env) (R : Room) (s : State) (m : MethodId) (args : Array Value) (below : List Frame) (meth : Method) (c : Code) (H : Heap) (locs : List Loc) (cells slots : Nat) (Q : State → Prop) (g : JFrame) (q : Addr) : Prop :=
  ∀ T : State, T.heap = H → Stand p l e R s m args below meth c T locs cells slots → ∃ t, Steps p.tables e below ((T.setTop g).pushFrame (.throwing q)) t ∧ Q t
def vx_Run (p : Program) (l : Launch) (e : Env) (R : Room) (s : State) (m : MethodId) (args : Array Value) (below : List Frame) (meth : Method) (c : Code) (H : Heap) (locs : List Loc) (cells slots mc ms : Nat) (g : JFrame) (rest : List Value) (Qa : State → Outcome → State → Prop) (XC : String → State → State → Prop) (free : Addr → Prop) : Prop :=
  ∀ T : State, T.heap = H → Stand p l e R s m args below meth c T locs cells slots →
    (∃ (v : Option Value) (st₀ t T' : State) (L : List Loc), st₀.heap = H ∧ Stand p l e R s m args below meth c T' (locs ++ L) (cells + mc) (slots + ms) ∧ (∀ q ∈ L, free q.base) ∧ T'.heap = t.heap ∧ T'.vm = t.vm ∧ Qa st₀ (.returned v) t ∧
      Goes p e below T g T' { g with pc := g.pc + 3, stack := v.toList ++ rest }) ∨
    (∃ (q : Addr) (st₀ t T' : State) (L : List Loc) (E : String) (ce : Cell), st₀.heap = H ∧ Stand p l e R s m args below meth c T' (locs ++ L) (cells + mc) (slots + ms) ∧ (∀ z ∈ L, free z.base) ∧ T'.heap = t.heap ∧ T'.vm = t.vm ∧ XC E st₀ t ∧ t.heap[q]? = some ce ∧ ce.vm = .none ∧ s.vm.findClass E = some ce.cls ∧
      Steps p.tables e below (T.setTop g) ((T'.setTop { g with stack := rest }).pushFrame (.throwing q)))
def vx_X {S : Type} (px : S → Prop) (B : String → S → State → Prop) (A : Nat → Prop) : String → State → State → Prop := fun E st t => ∃ u : S, px u ∧ B E u t ∧ va_F A st t
section Runs
variable {p : Program} {l : Launch} {e : Env} {R : Room} {s : State} {m : MethodId} {args : Array Value} {below : List Frame} {meth : Method} {c : Code} {H : Heap} {locs : List Loc} {cells slots : Nat}
variable {y : MethodName} {bytes cc : ByteArray} {maxL nL mc ms n index : Nat} {ret : Option FieldType} {ws : List Cond} {rm : Room} {Pc : Array Value → State → Prop} {Qc : Array Value → State → Outcome → State → Prop} {XC : String → State → State → Prop} {free : Addr → Prop} {Ts : List Cond} {own C : String} {b : Addr} {As rest : List Value} {g : JFrame}
theorem vx_callBack (cb : CallB R s args own index y bytes maxL ret ws rm mc ms n) (hM : vx_Met l y ws rm Pc Qc XC mc ms free) (hbl : FrameBlind Pc) : vx_Back l R p e below s args y 3 8 (PreOf R mc ms Pc) (PostOf Qc mc ms free) (vx_Post XC mc ms free) := by
  obtain ⟨hrc, hrs, hfr, hlo, hws, hcw, -, hini, -⟩ := cb
  exact vx_back (bytes := bytes) (maxL := maxL) (ret := ret) hM hbl hrc hrs hfr hlo hws hcw (fun a' U hW => word_at hW (Or.inl (by first | rfl | simp [Cond.onTables, Cond.keeps, Cond.steady])) hini)
theorem vx_runV (S : CallFix p m c cc nL s args Ts own) (hM : vx_Met l y ws rm Pc Qc XC mc ms free) (cw : CallW R s args own C index y bytes maxL ret ws rm mc ms n) (hp : PreV s H C b Pc As)
    (hg : g.method = m) (hn : As.length = n) (hsize : g.locals.size = nL) (hstack : g.stack = As.reverse ++ .ref b :: rest) (hW : 2 * g.monitorRoom + (rest.map fun v => v.category).sum ≤ 8) (hdg : decode cc g.pc = .ok (.invokevirtual index, 3)) (hf : cells + mc ≤ R.cells ∧ slots + ms ≤ R.slots) :
    vx_Run p l e R s m args below meth c H locs cells slots mc ms g rest (Qc (Value.ref b :: As).toArray) XC free := by
  have hK : vx_Back l R p e below s args y 3 8 (PreOf R mc ms Pc) (PostOf Qc mc ms free) (vx_Post XC mc ms free) := vx_callBack cw.1 hM hp.1
  obtain ⟨⟨-, -, -, -, -, -, hcode, -, hy, hlen, hl⟩, hin, hse⟩ := cw
  obtain ⟨hx, hb, hml, ho, -⟩ := S
  obtain ⟨-, ⟨cellB, hcB, hoB, hclB⟩, hPc⟩ := hp
  intro T hT X
  rcases vx_callV X hx (C := C) (bytes := bytes) (maxL := maxL) (ret := ret) ho hl hin hse hcode hy hK (by rw [hT]; exact hcB) hoB hclB hg (hsize.trans hml.symm) (argsL := As) (rest := rest) (fun sig h => hn.trans (hlen sig h)) hstack hW (by rw [hb]; exact hdg)
    (fun vm₁ hW₁ => ⟨hf.1, hf.2, hPc (T.setVm vm₁) hT hW₁⟩) with ⟨v, vm₁, ⟨U', l2, c2, s2⟩, hW₁, X', ⟨g', mk, t, L, e1, e2, hq, h1, hL, h2, h3⟩, st⟩ | ⟨q, vm₁, ⟨U', l2, c2, s2⟩, hW₁, X', ⟨g', mk, t, L, E, ce, e1, e2, hq, hce, hcv, hcl, h1, hL, h2, h3⟩, st⟩
  · dsimp only [Pt.U, Pt.locs, Pt.cells, Pt.slots] at X' e1 e2 h1 h2 h3 st
    subst h1; subst h2; subst h3
    exact Or.inl ⟨v, (T.setVm vm₁).calling g' mk (Value.ref b :: As).toArray, t, U', L, hT, X', hL, e1, e2, hq, st⟩
  · dsimp only [Pt.U, Pt.locs, Pt.cells, Pt.slots] at X' e1 e2 h1 h2 h3 st hcl
    subst h1; subst h2; subst h3
    exact Or.inr ⟨q, (T.setVm vm₁).calling g' mk (Value.ref b :: As).toArray, t, U', L, E, ce, hT, X', hL, e1, e2, hq, hce, hcv, vx_cls hW₁ hcl, st⟩
theorem vx_runS (S : CallFix p m c cc nL s args Ts own) (hM : vx_Met l y ws rm Pc Qc XC mc ms free) (cw : CallB R s args own index y bytes maxL ret ws rm mc ms n ∧ (Cond.static y).before args s = true) (hp : PreS s H Pc As)
    (hg : g.method = m) (hn : As.length = n) (hsize : g.locals.size = nL) (hstack : g.stack = As.reverse ++ rest) (hW : 2 * g.monitorRoom + (rest.map fun v => v.category).sum ≤ 8) (hdg : decode cc g.pc = .ok (.invokestatic index, 3)) (hf : cells + mc ≤ R.cells ∧ slots + ms ≤ R.slots) :
    vx_Run p l e R s m args below meth c H locs cells slots mc ms g rest (Qc As.toArray) XC free := by
  have hK : vx_Back l R p e below s args y 3 8 (PreOf R mc ms Pc) (PostOf Qc mc ms free) (vx_Post XC mc ms free) := vx_callBack cw.1 hM hp.1
  obtain ⟨⟨-, -, -, -, -, -, hcode, hini, hy, hlen, hl⟩, hstt⟩ := cw
  obtain ⟨hx, hb, hml, ho, -⟩ := S
  intro T hT X
  rcases vx_callS X hx (bytes := bytes) (maxL := maxL) (ret := ret) ho hl hstt hini hcode hy hK hg (hsize.trans hml.symm) (argsL := As) (rest := rest) (fun sig h => hn.trans (hlen sig h)) hstack hW (by rw [hb]; exact hdg)
    (fun vm₁ hW₁ => ⟨hf.1, hf.2, hp.2 (T.setVm vm₁) hT hW₁⟩) with ⟨v, vm₁, ⟨U', l2, c2, s2⟩, hW₁, X', ⟨g', mk, t, L, e1, e2, hq, h1, hL, h2, h3⟩, st⟩ | ⟨q, vm₁, ⟨U', l2, c2, s2⟩, hW₁, X', ⟨g', mk, t, L, E, ce, e1, e2, hq, hce, hcv, hcl, h1, hL, h2, h3⟩, st⟩
  · dsimp only [Pt.U, Pt.locs, Pt.cells, Pt.slots] at X' e1 e2 h1 h2 h3 st
    subst h1; subst h2; subst h3
    exact Or.inl ⟨v, (T.setVm vm₁).calling g' mk As.toArray, t, U', L, hT, X', hL, e1, e2, hq, st⟩
  · dsimp only [Pt.U, Pt.locs, Pt.cells, Pt.slots] at X' e1 e2 h1 h2 h3 st hcl
    subst h1; subst h2; subst h3
    exact Or.inr ⟨q, (T.setVm vm₁).calling g' mk As.toArray, t, U', L, E, ce, hT, X', hL, e1, e2, hq, hce, hcv, vx_cls hW₁ hcl, st⟩
end Runs
section Rows
variable {p : Program} {l : Launch} {e : Env} {R : Room} {s : State} {m : MethodId} {args : Array Value} {below : List Frame} {meth : Method} {c : Code} {H : Heap} {locs : List Loc} {cells slots : Nat} {Q : State → Prop}
variable {mc ms : Nat} {free : Addr → Prop} {A0 A1 : Nat → Prop} {H0 : Heap} {a : Array Value} {pc : Nat} {ls : Array Slot} {st0 rest : List Value}
theorem vx_keep {st₀ t T' : State} {L : List Loc} (h0 : st₀.heap = H) (e1 : T'.heap = t.heap) (hS : va_S A0 H0 H locs) (hA : ∀ q, q < H.size → A1 q → A0 q) (hf : ∀ q, free q → A0 q) (hL : ∀ q ∈ L, free q.base) (hF : va_F A1 st₀ t) :
    H.size ≤ T'.heap.size ∧ (∀ q : Nat, q < H.size → ¬ A1 q → T'.heap[q]? = H[q]?) ∧ va_S A0 H0 T'.heap (locs ++ L) := by
  obtain ⟨hz, hk⟩ := hF
  rw [h0] at hz hk
  exact ⟨by rw [e1]; exact hz, fun q h1 h2 => by rw [e1]; exact hk q h1 h2,
    ⟨Nat.le_trans hS.1 (by rw [e1]; exact hz), fun q h1 h2 => by rw [e1, hk q (Nat.lt_of_lt_of_le h1 hS.1) (fun z => h2 (hA q (Nat.lt_of_lt_of_le h1 hS.1) z))]; exact hS.2.1 q h1 h2, fun q hq => by
      rcases List.mem_append.mp hq with h | h
      · exact hS.2.2 q h
      · exact hf _ (hL q h)⟩⟩
theorem vx_calli {S SX : Type} {post : Int32 → S → Prop} {px : SX → Prop} {B : S → State → Prop} {BX : String → SX → State → Prop} {AX : Nat → Prop} (hr : vx_Run p l e R s m args below meth c H locs cells slots mc ms (F0 m pc ls st0) rest (va_Qi post B A1 a) (vx_X px BX AX) free) (hS : va_S A0 H0 H locs) (hA : ∀ q, q < H.size → A1 q → A0 q) (hf : ∀ q, free q → A0 q) (hAX : ∀ q, q < H.size → AX q → A0 q)
    (kx : ∀ (E : String) (ce : Cell) (q9 : Addr) (u : SX) (t : State) (H1 : Heap) (locs1 : List Loc), t.heap = H1 → s.vm.Alike t.vm → px u → BX E u t → H.size ≤ H1.size → (∀ q : Nat, q < H.size → ¬ AX q → H1[q]? = H[q]?) → va_S A0 H0 H1 locs1 → H1[q9]? = some ce → ce.vm = .none → s.vm.findClass E = some ce.cls → vx_W p l e R s m args below meth c H1 locs1 (cells + mc) (slots + ms) Q (F0 m pc ls rest) q9)
    (kk : ∀ (r : Int32) (u : S) (t : State) (H1 : Heap) (locs1 : List Loc), t.heap = H1 → s.vm.Alike t.vm → post r u → B u t → H.size ≤ H1.size → (∀ q : Nat, q < H.size → ¬ A1 q → H1[q]? = H[q]?) → va_S A0 H0 H1 locs1 → W p l e R s m args below meth c H1 locs1 (cells + mc) (slots + ms) Q (F0 m (pc + 3) ls (.int r :: rest))) : W p l e R s m args below meth c H locs cells slots Q (F0 m pc ls st0) := by
  intro T hT X
  rcases hr T hT X with ⟨v, st₀, t, T', L, h0, X', hL, e1, e2, ⟨⟨r, u, hv, hp, hb⟩, hF⟩, st⟩ | ⟨q, st₀, t, T', L, E, ce, h0, X', hL, e1, e2, ⟨u, hp, hb, hF⟩, hce, hcv, hcl, st⟩
  · cases hv
    obtain ⟨k1, k2, k3⟩ := vx_keep h0 e1 hS hA hf hL hF
    obtain ⟨t2, a1, b1⟩ := kk r u t T'.heap (locs ++ L) e1.symm (by rw [← e2]; exact X'.warmed.alike) hp hb k1 k2 k3 T' rfl X'
    exact ⟨t2, st t2 a1, b1⟩
  · obtain ⟨k1, k2, k3⟩ := vx_keep h0 e1 hS hAX hf hL hF
    obtain ⟨t2, a1, b1⟩ := kx E ce q u t T'.heap (locs ++ L) e1.symm (by rw [← e2]; exact X'.warmed.alike) hp hb k1 k2 k3 (by rw [e1]; exact hce) hcv hcl T' rfl X'
    exact ⟨t2, st.trans a1, b1⟩
theorem vx_calll {S SX : Type} {post : Int64 → S → Prop} {px : SX → Prop} {B : S → State → Prop} {BX : String → SX → State → Prop} {AX : Nat → Prop} (hr : vx_Run p l e R s m args below meth c H locs cells slots mc ms (F0 m pc ls st0) rest (va_Ql post B A1 a) (vx_X px BX AX) free) (hS : va_S A0 H0 H locs) (hA : ∀ q, q < H.size → A1 q → A0 q) (hf : ∀ q, free q → A0 q) (hAX : ∀ q, q < H.size → AX q → A0 q)
    (kx : ∀ (E : String) (ce : Cell) (q9 : Addr) (u : SX) (t : State) (H1 : Heap) (locs1 : List Loc), t.heap = H1 → s.vm.Alike t.vm → px u → BX E u t → H.size ≤ H1.size → (∀ q : Nat, q < H.size → ¬ AX q → H1[q]? = H[q]?) → va_S A0 H0 H1 locs1 → H1[q9]? = some ce → ce.vm = .none → s.vm.findClass E = some ce.cls → vx_W p l e R s m args below meth c H1 locs1 (cells + mc) (slots + ms) Q (F0 m pc ls rest) q9)
    (kk : ∀ (r : Int64) (u : S) (t : State) (H1 : Heap) (locs1 : List Loc), t.heap = H1 → s.vm.Alike t.vm → post r u → B u t → H.size ≤ H1.size → (∀ q : Nat, q < H.size → ¬ A1 q → H1[q]? = H[q]?) → va_S A0 H0 H1 locs1 → W p l e R s m args below meth c H1 locs1 (cells + mc) (slots + ms) Q (F0 m (pc + 3) ls (.long r :: rest))) : W p l e R s m args below meth c H locs cells slots Q (F0 m pc ls st0) := by
  intro T hT X
  rcases hr T hT X with ⟨v, st₀, t, T', L, h0, X', hL, e1, e2, ⟨⟨r, u, hv, hp, hb⟩, hF⟩, st⟩ | ⟨q, st₀, t, T', L, E, ce, h0, X', hL, e1, e2, ⟨u, hp, hb, hF⟩, hce, hcv, hcl, st⟩
  · cases hv
    obtain ⟨k1, k2, k3⟩ := vx_keep h0 e1 hS hA hf hL hF
    obtain ⟨t2, a1, b1⟩ := kk r u t T'.heap (locs ++ L) e1.symm (by rw [← e2]; exact X'.warmed.alike) hp hb k1 k2 k3 T' rfl X'
    exact ⟨t2, st t2 a1, b1⟩
  · obtain ⟨k1, k2, k3⟩ := vx_keep h0 e1 hS hAX hf hL hF
    obtain ⟨t2, a1, b1⟩ := kx E ce q u t T'.heap (locs ++ L) e1.symm (by rw [← e2]; exact X'.warmed.alike) hp hb k1 k2 k3 (by rw [e1]; exact hce) hcv hcl T' rfl X'
    exact ⟨t2, st.trans a1, b1⟩
theorem vx_callf {S SX : Type} {post : UInt32 → S → Prop} {px : SX → Prop} {B : S → State → Prop} {BX : String → SX → State → Prop} {AX : Nat → Prop} (hr : vx_Run p l e R s m args below meth c H locs cells slots mc ms (F0 m pc ls st0) rest (va_Qf post B A1 a) (vx_X px BX AX) free) (hS : va_S A0 H0 H locs) (hA : ∀ q, q < H.size → A1 q → A0 q) (hf : ∀ q, free q → A0 q) (hAX : ∀ q, q < H.size → AX q → A0 q)
    (kx : ∀ (E : String) (ce : Cell) (q9 : Addr) (u : SX) (t : State) (H1 : Heap) (locs1 : List Loc), t.heap = H1 → s.vm.Alike t.vm → px u → BX E u t → H.size ≤ H1.size → (∀ q : Nat, q < H.size → ¬ AX q → H1[q]? = H[q]?) → va_S A0 H0 H1 locs1 → H1[q9]? = some ce → ce.vm = .none → s.vm.findClass E = some ce.cls → vx_W p l e R s m args below meth c H1 locs1 (cells + mc) (slots + ms) Q (F0 m pc ls rest) q9)
    (kk : ∀ (r : UInt32) (u : S) (t : State) (H1 : Heap) (locs1 : List Loc), t.heap = H1 → s.vm.Alike t.vm → post r u → B u t → H.size ≤ H1.size → (∀ q : Nat, q < H.size → ¬ A1 q → H1[q]? = H[q]?) → va_S A0 H0 H1 locs1 → W p l e R s m args below meth c H1 locs1 (cells + mc) (slots + ms) Q (F0 m (pc + 3) ls (.float r :: rest))) : W p l e R s m args below meth c H locs cells slots Q (F0 m pc ls st0) := by
  intro T hT X
  rcases hr T hT X with ⟨v, st₀, t, T', L, h0, X', hL, e1, e2, ⟨⟨r, u, hv, hp, hb⟩, hF⟩, st⟩ | ⟨q, st₀, t, T', L, E, ce, h0, X', hL, e1, e2, ⟨u, hp, hb, hF⟩, hce, hcv, hcl, st⟩
  · cases hv
    obtain ⟨k1, k2, k3⟩ := vx_keep h0 e1 hS hA hf hL hF
    obtain ⟨t2, a1, b1⟩ := kk r u t T'.heap (locs ++ L) e1.symm (by rw [← e2]; exact X'.warmed.alike) hp hb k1 k2 k3 T' rfl X'
    exact ⟨t2, st t2 a1, b1⟩
  · obtain ⟨k1, k2, k3⟩ := vx_keep h0 e1 hS hAX hf hL hF
    obtain ⟨t2, a1, b1⟩ := kx E ce q u t T'.heap (locs ++ L) e1.symm (by rw [← e2]; exact X'.warmed.alike) hp hb k1 k2 k3 (by rw [e1]; exact hce) hcv hcl T' rfl X'
    exact ⟨t2, st.trans a1, b1⟩
theorem vx_calld {S SX : Type} {post : UInt64 → S → Prop} {px : SX → Prop} {B : S → State → Prop} {BX : String → SX → State → Prop} {AX : Nat → Prop} (hr : vx_Run p l e R s m args below meth c H locs cells slots mc ms (F0 m pc ls st0) rest (va_Qd post B A1 a) (vx_X px BX AX) free) (hS : va_S A0 H0 H locs) (hA : ∀ q, q < H.size → A1 q → A0 q) (hf : ∀ q, free q → A0 q) (hAX : ∀ q, q < H.size → AX q → A0 q)
    (kx : ∀ (E : String) (ce : Cell) (q9 : Addr) (u : SX) (t : State) (H1 : Heap) (locs1 : List Loc), t.heap = H1 → s.vm.Alike t.vm → px u → BX E u t → H.size ≤ H1.size → (∀ q : Nat, q < H.size → ¬ AX q → H1[q]? = H[q]?) → va_S A0 H0 H1 locs1 → H1[q9]? = some ce → ce.vm = .none → s.vm.findClass E = some ce.cls → vx_W p l e R s m args below meth c H1 locs1 (cells + mc) (slots + ms) Q (F0 m pc ls rest) q9)
    (kk : ∀ (r : UInt64) (u : S) (t : State) (H1 : Heap) (locs1 : List Loc), t.heap = H1 → s.vm.Alike t.vm → post r u → B u t → H.size ≤ H1.size → (∀ q : Nat, q < H.size → ¬ A1 q → H1[q]? = H[q]?) → va_S A0 H0 H1 locs1 → W p l e R s m args below meth c H1 locs1 (cells + mc) (slots + ms) Q (F0 m (pc + 3) ls (.double r :: rest))) : W p l e R s m args below meth c H locs cells slots Q (F0 m pc ls st0) := by
  intro T hT X
  rcases hr T hT X with ⟨v, st₀, t, T', L, h0, X', hL, e1, e2, ⟨⟨r, u, hv, hp, hb⟩, hF⟩, st⟩ | ⟨q, st₀, t, T', L, E, ce, h0, X', hL, e1, e2, ⟨u, hp, hb, hF⟩, hce, hcv, hcl, st⟩
  · cases hv
    obtain ⟨k1, k2, k3⟩ := vx_keep h0 e1 hS hA hf hL hF
    obtain ⟨t2, a1, b1⟩ := kk r u t T'.heap (locs ++ L) e1.symm (by rw [← e2]; exact X'.warmed.alike) hp hb k1 k2 k3 T' rfl X'
    exact ⟨t2, st t2 a1, b1⟩
  · obtain ⟨k1, k2, k3⟩ := vx_keep h0 e1 hS hAX hf hL hF
    obtain ⟨t2, a1, b1⟩ := kx E ce q u t T'.heap (locs ++ L) e1.symm (by rw [← e2]; exact X'.warmed.alike) hp hb k1 k2 k3 (by rw [e1]; exact hce) hcv hcl T' rfl X'
    exact ⟨t2, st.trans a1, b1⟩
theorem vx_callv {S SX : Type} {post : S → Prop} {px : SX → Prop} {B : S → State → Prop} {BX : String → SX → State → Prop} {AX : Nat → Prop} (hr : vx_Run p l e R s m args below meth c H locs cells slots mc ms (F0 m pc ls st0) rest (va_Qv post B A1 a) (vx_X px BX AX) free) (hS : va_S A0 H0 H locs) (hA : ∀ q, q < H.size → A1 q → A0 q) (hf : ∀ q, free q → A0 q) (hAX : ∀ q, q < H.size → AX q → A0 q)
    (kx : ∀ (E : String) (ce : Cell) (q9 : Addr) (u : SX) (t : State) (H1 : Heap) (locs1 : List Loc), t.heap = H1 → s.vm.Alike t.vm → px u → BX E u t → H.size ≤ H1.size → (∀ q : Nat, q < H.size → ¬ AX q → H1[q]? = H[q]?) → va_S A0 H0 H1 locs1 → H1[q9]? = some ce → ce.vm = .none → s.vm.findClass E = some ce.cls → vx_W p l e R s m args below meth c H1 locs1 (cells + mc) (slots + ms) Q (F0 m pc ls rest) q9)
    (kk : ∀ (u : S) (t : State) (H1 : Heap) (locs1 : List Loc), t.heap = H1 → s.vm.Alike t.vm → post u → B u t → H.size ≤ H1.size → (∀ q : Nat, q < H.size → ¬ A1 q → H1[q]? = H[q]?) → va_S A0 H0 H1 locs1 → W p l e R s m args below meth c H1 locs1 (cells + mc) (slots + ms) Q (F0 m (pc + 3) ls (rest))) : W p l e R s m args below meth c H locs cells slots Q (F0 m pc ls st0) := by
  intro T hT X
  rcases hr T hT X with ⟨v, st₀, t, T', L, h0, X', hL, e1, e2, ⟨⟨u, hv, hp, hb⟩, hF⟩, st⟩ | ⟨q, st₀, t, T', L, E, ce, h0, X', hL, e1, e2, ⟨u, hp, hb, hF⟩, hce, hcv, hcl, st⟩
  · cases hv
    obtain ⟨k1, k2, k3⟩ := vx_keep h0 e1 hS hA hf hL hF
    obtain ⟨t2, a1, b1⟩ := kk u t T'.heap (locs ++ L) e1.symm (by rw [← e2]; exact X'.warmed.alike) hp hb k1 k2 k3 T' rfl X'
    exact ⟨t2, st t2 a1, b1⟩
  · obtain ⟨k1, k2, k3⟩ := vx_keep h0 e1 hS hAX hf hL hF
    obtain ⟨t2, a1, b1⟩ := kx E ce q u t T'.heap (locs ++ L) e1.symm (by rw [← e2]; exact X'.warmed.alike) hp hb k1 k2 k3 (by rw [e1]; exact hce) hcv hcl T' rfl X'
    exact ⟨t2, st.trans a1, b1⟩
/-- caught by the row x of this method's table; the rows ahead don't take it -/
theorem vx_catch {own name : String} {E : String} {ce : Cell} {q : Addr} (hown : s.vm.findClass own = some m.cls) (pre : List ExceptionTableEntry) (x : ExceptionTableEntry) (suf : List ExceptionTableEntry) (hsplit : c.exceptionTable.toList = pre ++ x :: suf)
    (hpass : ∀ z ∈ pre, covers z pc = false ∨ (z.catchType ≠ 0 ∧ ∃ nm : String, (Cond.classLink own z.catchType nm).before args s = true ∧ va_Nc E nm s)) (hx : covers x pc = true) (h0 : x.catchType ≠ 0)
    (hlink : (Cond.classLink own x.catchType name).before args s = true) (hcast : (Cond.castable E name).before args s = true) (hcell : H[q]? = some ce) (hv : ce.vm = .none) (hcl : s.vm.findClass E = some ce.cls)
    (kk : W p l e R s m args below meth c H locs cells slots Q (F0 m x.handlerPc ls [.ref q])) : vx_W p l e R s m args below meth c H locs cells slots Q (F0 m pc ls rest) q := by
  intro T hT X
  have hpl : e.platform.magicAccessors = ({} : Platform).magicAccessors := by rw [X.admits.platform]
  obtain ⟨c3, c4, hc3, hc4, hasg⟩ := Cond.castable_spec hcast
  cases Option.some.inj (hc3.symm.trans hcl)
  obtain ⟨c5, hc5, hcl5⟩ := Cond.classLink_spec hown hlink e.platform hpl
  cases Option.some.inj (hc4.symm.trans hc5)
  obtain ⟨vm', X', st⟩ := xc_through X q (g := F0 m pc ls rest) rfl (by rw [hT]; exact hcell) (by rw [hv]; rfl) (by obtain ⟨k9, h9, -⟩ := Vm.findClass_spec hcl; exact ⟨k9, h9⟩) pre x suf hsplit
    (fun z hz => by
      rcases hpass z hz with h | ⟨hz0, nm, hl1, hn1⟩
      · exact Or.inl h
      · obtain ⟨c6, hc6, hcl6⟩ := Cond.classLink_spec hown hl1 e.platform hpl
        obtain ⟨a8, b8, h1, h2, h3⟩ := hn1
        cases Option.some.inj (h1.symm.trans hcl)
        cases Option.some.inj (h2.symm.trans hc6)
        exact Or.inr ⟨hz0, _, hcl6, h3⟩) hx h0 hcl5 hasg
  obtain ⟨t, a1, b1⟩ := kk (T.setVm vm') hT X'
  exact ⟨t, st.trans a1, b1⟩
end Rows
section Ends
variable {p : Program} {l : Launch} {e : Env} {R : Room} {s : State} {m : MethodId} {args : Array Value} {below : List Frame} {meth : Method} {c : Code} {H : Heap} {locs : List Loc} {cells slots : Nat} {Q : State → Prop}
variable {mc ms : Nat} {free : Addr → Prop} {A0 A1 : Nat → Prop} {H0 : Heap} {a : Array Value} {ls : Array Slot} {st0 rest : List Value}
variable {Qc : Array Value → State → Outcome → State → Prop} {XC : String → State → State → Prop}
/-- what a body that may throw owes at its end -/
def vx_MQ (below : List Frame) (Qc : Array Value → State → Outcome → State → Prop) (XC : String → State → State → Prop) (a : Array Value) (s : State) (mc ms : Nat) (free : Addr → Prop) : State → Prop := fun t =>
  ∃ o, t.status = .running ∧ Ended t below o ∧ vx_Q Qc XC mc ms free a s o t
theorem vx_ret {g : JFrame} {mc ms : Nat} (k : W p l e R s m args below meth c H locs cells slots (MQ below Qc args s mc ms free) g) : W p l e R s m args below meth c H locs cells slots (vx_MQ below Qc XC args s mc ms free) g := by
  intro T hT X
  obtain ⟨t, a1, o, b1, b2, b3, b4⟩ := k T hT X
  exact ⟨t, a1, o, b1, b2, Or.inl ⟨b3, b4⟩⟩
/-- not caught here: it goes on to the caller -/
theorem vx_widen {g : JFrame} {q : Addr} {k n : Nat} (h1 : cells ≤ k) (h2 : slots ≤ n) (kk : vx_W p l e R s m args below meth c H locs k n Q g q) : vx_W p l e R s m args below meth c H locs cells slots Q g q := fun T hT X => kk T hT (stand_widen X h1 h2)
theorem vx_out {pc : Nat} {E : String} {ce : Cell} {q : Addr} {mc ms : Nat} (hout : ∀ x ∈ c.exceptionTable.toList, covers x pc = false) (hlocks : meth.locks = false) (hcell : H[q]? = some ce) (hv : ce.vm = .none) (hcl : s.vm.findClass E = some ce.cls)
    (hx : ∀ t : State, t.heap = H → s.vm.Alike t.vm → XC E s t) (hf : ∀ z ∈ locs, free z.base) (hc : cells ≤ mc) (hs : slots ≤ ms) :
    vx_W p l e R s m args below meth c H locs cells slots (vx_MQ below Qc XC args s mc ms free) (F0 m pc ls rest) q := by
  intro T hT X
  obtain ⟨st1, hrun, hend, hW, hsm⟩ := X.leaveThrown q (g := F0 m pc ls rest) rfl rfl rfl hout hlocks
  have hcell9 : (T.setFrames (.throwing q :: below)).heap[q]? = some ce := by
    show T.heap[q]? = some ce
    rw [hT]; exact hcell
  exact ⟨_, st1, .threw q, hrun, hend, Or.inr ⟨q, rfl, E, ce, locs, hx _ hT hW.alike, hcell9, hv, hcl, hW, hsm.mono hc hs, hf⟩⟩
theorem vx_frame {U : State} {k n : Nat} (h : s.sameButNew ({ U with vm := s.vm } : State) locs k n) : s.heap.size ≤ U.heap.size ∧ ∀ q : Nat, q < s.heap.size → (∀ z ∈ locs, z.base ≠ q) → U.heap[q]? = s.heap[q]? := by
  obtain ⟨-, h2, -, -, -, h6⟩ := h
  refine ⟨h2, fun q hq hz => ?_⟩
  obtain ⟨c9, e1, e2, e3, e4⟩ := h6 q _ (Array.getElem?_eq_getElem hq)
  have hs : c9.slots = (s.heap[q]).slots := Array.ext_getElem? fun i => e4 i fun hm => hz _ hm rfl
  have h9 : c9 = s.heap[q] := by
    rw [hs] at e2
    exact e2
  have e5 : U.heap[q]? = some c9 := e1
  rw [e5, h9, Array.getElem?_eq_getElem hq]
/-- the words of a throw but the four that speak of the heap -/
def vx_no (w : Cond) : Bool := decide (w ≠ .isRef (.static Bundle.tN "UNASSIGNED_STACK" Bundle.steD)) && decide (w ≠ .isRef (.static Bundle.tN "SUPPRESSED_SENTINEL" Bundle.listD)) && decide (w ≠ .laysStatic Bundle.tN "UNASSIGNED_STACK" Bundle.steD) && decide (w ≠ .laysStatic Bundle.tN "SUPPRESSED_SENTINEL" Bundle.listD)
def vx_at0 (own : String) (ic : Nat) (X : String) (names : List String) : List Cond := (Bundle.ownAtoms0 own ic X names).filter vx_no
def vx_atS (own : String) (ic : Nat) (X : String) (names : List String) : List Cond := (Bundle.ownAtoms own ic X names).filter vx_no
/-- a word that the tables alone decide, or a good one -/
def vx_ot (w : Cond) : Bool := w.onTables || goodWord w
theorem vx_ot_at {args a' : Array Value} {s U : State} {w : Cond} (hW : s.WarmedH U.vm) (hvm : s.vm = U.vm) (hg : vx_ot w = true) (h : w.before args s = true) : w.before a' U = true := by
  simp only [vx_ot, Bool.or_eq_true] at hg
  rcases hg with hg | hg
  · exact va_tabs hg hvm h
  · exact word_at hW (good_of_word hg) h
/-- a list's words: the good ones out of the method's own list, the others by premises of their own -/
theorem vx_hat {args : Array Value} {s : State} {L B : List Cond} (h1 : ∀ w ∈ L.filter goodWord, w.before args s = true) (h2 : ∀ w ∈ L.filter (fun w => !goodWord w), w ∈ B) (h3 : ∀ w ∈ B, w.before args s = true) : ∀ w ∈ L, w.before args s = true := by
  intro w hw
  by_cases g : goodWord w = true
  · exact h1 w (List.mem_filter.mpr ⟨hw, g⟩)
  · refine h3 w (h2 w (List.mem_filter.mpr ⟨hw, ?_⟩))
    show (!goodWord w) = true
    cases hgw : goodWord w
    · rfl
    · exact absurd hgw g
theorem vx_c {args : Array Value} {s : State} {w : Cond} {B : List Cond} (h : w.before args s = true) (t : ∀ w ∈ B, w.before args s = true) : ∀ w' ∈ w :: B, w'.before args s = true := fun w' h' => (List.mem_cons.mp h').elim (fun e => by rw [e]; exact h) (t w')
theorem vx_n {args : Array Value} {s : State} : ∀ w ∈ ([] : List Cond), w.before args s = true := fun _ h => nomatch h
theorem vx_own {args : Array Value} {s : State} {L : List Cond} (h1 : ∀ w ∈ L.filter vx_no, w.before args s = true)
    (hU : (Cond.isRef (.static Bundle.tN "UNASSIGNED_STACK" Bundle.steD)).before args s = true) (hN : (Cond.isRef (.static Bundle.tN "SUPPRESSED_SENTINEL" Bundle.listD)).before args s = true)
    (lU : (Cond.laysStatic Bundle.tN "UNASSIGNED_STACK" Bundle.steD).before args s = true) (lN : (Cond.laysStatic Bundle.tN "SUPPRESSED_SENTINEL" Bundle.listD).before args s = true) : ∀ w ∈ L, w.before args s = true := by
  intro w hw
  by_cases e1 : w = .isRef (.static Bundle.tN "UNASSIGNED_STACK" Bundle.steD)
  · rw [e1]; exact hU
  · by_cases e2 : w = .isRef (.static Bundle.tN "SUPPRESSED_SENTINEL" Bundle.listD)
    · rw [e2]; exact hN
    · by_cases e3 : w = .laysStatic Bundle.tN "UNASSIGNED_STACK" Bundle.steD
      · rw [e3]; exact lU
      · by_cases e4 : w = .laysStatic Bundle.tN "SUPPRESSED_SENTINEL" Bundle.listD
        · rw [e4]; exact lN
        · exact h1 w (List.mem_filter.mpr ⟨hw, by unfold vx_no; rw [decide_eq_true e1, decide_eq_true e2, decide_eq_true e3, decide_eq_true e4]; rfl⟩)
/-- where a static field lies, its class's statics cell in H -/
def vx_L (C n d : String) (A : Nat → Prop) (U : State) (H : Heap) : Prop := ∃ (c : ClassId) (k : Class) (i : Nat) (f : Field) (a : Nat) (cell : Cell), U.vm.findClass C = some c ∧ U.fieldFound? C n d = some (c, k, i, f) ∧ f.isStatic = true ∧ k.statics = some a ∧ H[a]? = some cell ∧ cell.vm.isStatics = true ∧ cell.cls = c ∧ f.slot < cell.slots.size ∧ k.staticTypes[f.slot]? = some f.type ∧ ¬ A a
theorem vx_L.moved {C n d : String} {A : Nat → Prop} {u U : State} {H : Heap} (hvm : u.vm.Alike U.vm) (h : vx_L C n d A u H) : vx_L C n d A U H := by
  obtain ⟨c, k, i, f, a, cell, h1, h2, h3, h4, h5, h6, h7, h8, h9, h10⟩ := h
  obtain ⟨k', hi', he⟩ := State.fieldFound?_setVm hvm h2
  exact ⟨c, k', i, f, a, cell, by rw [hvm.findClass]; exact h1, hi', h3, by rw [he]; exact h4, h5, h6, h7, h8, by rw [he]; exact h9, h10⟩
theorem vx_L.kept {C n d : String} {A : Nat → Prop} {U : State} {H H1 : Heap} (h : vx_L C n d A U H) (hq : ∀ a : Nat, a < H.size → ¬ A a → H1[a]? = H[a]?) : vx_L C n d A U H1 := by
  obtain ⟨c, k, i, f, a, cell, h1, h2, h3, h4, h5, h6, h7, h8, h9, h10⟩ := h
  exact ⟨c, k, i, f, a, cell, h1, h2, h3, h4, by rw [hq a (Array.getElem?_eq_some_iff.mp h5).1 h10]; exact h5, h6, h7, h8, h9, h10⟩
theorem vx_L.narrow {C n d : String} {A B : Nat → Prop} {U : State} {H : Heap} (h : vx_L C n d A U H) (hAB : ∀ q, B q → A q) : vx_L C n d B U H := by
  obtain ⟨c, k, i, f, a, cell, h1, h2, h3, h4, h5, h6, h7, h8, h9, h10⟩ := h
  exact ⟨c, k, i, f, a, cell, h1, h2, h3, h4, h5, h6, h7, h8, h9, fun z => h10 (hAB _ z)⟩
theorem vx_L.word {C n d : String} {A : Nat → Prop} {s : State} {args : Array Value} (h : vx_L C n d A s s.heap) : (Cond.laysStatic C n d).before args s = true := by
  obtain ⟨c, k, i, f, a, cell, h1, h2, h3, h4, h5, h6, h7, h8, h9, -⟩ := h
  show (Cond.laysStatic C n d).holds args s none s [] = true
  exact Cond.laysStatic_of h1 h2 h3 h4 h5 h6 h7 h8 h9
/-- .. and what it holds: null or some reference -/
def vx_Zq (C n d : String) (A : Nat → Prop) (U : State) (H : Heap) : Prop := va_Zq C n d A U H ∧ vx_L C n d A U H
theorem vx_Zq.moved {C n d : String} {A : Nat → Prop} {u U : State} {H : Heap} (hvm : u.vm.Alike U.vm) (h : vx_Zq C n d A u H) : vx_Zq C n d A U H := ⟨va_Zq.moved hvm h.1, vx_L.moved hvm h.2⟩
theorem vx_Zq.kept {C n d : String} {A : Nat → Prop} {U : State} {H H1 : Heap} (h : vx_Zq C n d A U H) (hq : ∀ a : Nat, a < H.size → ¬ A a → H1[a]? = H[a]?) : vx_Zq C n d A U H1 := ⟨va_Zq.kept h.1 hq, vx_L.kept h.2 hq⟩
theorem vx_Zq.narrow {C n d : String} {A B : Nat → Prop} {U : State} {H : Heap} (h : vx_Zq C n d A U H) (hAB : ∀ q, B q → A q) : vx_Zq C n d B U H := ⟨va_Zq.narrow h.1 hAB, vx_L.narrow h.2 hAB⟩
theorem vx_Zqof {args : Array Value} {s : State} {C n d : String} {A : Nat → Prop} (hl : (Cond.laysStatic C n d).before args s = true) (hini : (Cond.initialized C).before args s = true) (h : (Cond.isRef (.static C n d)).before args s = true) (hA : ∀ a : Nat, a < s.heap.size → ¬ A a) : vx_Zq C n d A s s.heap := by
  refine ⟨va_Zqof hl hini h hA, ?_⟩
  obtain ⟨c, k, i, f, a, cell, h1, h2, h3, h4, h5, h6, h7, h8, h9⟩ := Cond.laysStatic_spec hl
  exact ⟨c, k, i, f, a, cell, h1, h2, h3, h4, h5, h6, h7, h8, h9, hA a (Array.getElem?_eq_some_iff.mp h5).1⟩
theorem vx_isRef {C n d : String} {v : Value} {A : Nat → Prop} {s : State} {args : Array Value} (h : va_Z C n d v A s s.heap) (hv : v.isRef = true) : (Cond.isRef (.static C n d)).before args s = true := by
  obtain ⟨cf, kf, fi, f, a, cell, h1, h2, h3, h4, h5, h6, h7, -⟩ := h
  have he : (Term.static C n d).eval args s none [] s = some v := by
    simp [Term.eval, State.fieldNamed?, h1, h2, h4, h5, h6, h7]
  simp only [Cond.before, Cond.holds, Cond.value, he]
  cases v <;> simp_all [Value.isRef]
theorem vx_isRefq {C n d : String} {A : Nat → Prop} {s : State} {args : Array Value} (h : va_Zq C n d A s s.heap) : (Cond.isRef (.static C n d)).before args s = true := by
  rcases h with h | ⟨t, h⟩
  · exact vx_isRef h rfl
  · exact vx_isRef h rfl
/-- the same frame, seen from here: as if the method were called anew in this heap -/
theorem vx_rebase {T : State} (X : Stand p l e R s m args below meth c T locs cells slots) {R' : Room} (hf : R'.frames ≤ R.frames) (hl : R'.locals ≤ R.locals) (hc : cells + R'.cells ≤ R.cells) (hs : slots + R'.slots ≤ R.slots) :
    Stand p l e R' ((T.setVm s.vm).setFrames (.invoking m args :: below)) m args below meth c T [] 0 0 := by
  have htop : (T.setVm s.vm).topJava?.isSome := X.here.top
  have hF : ((T.setVm s.vm).setFrames (.invoking m args :: below)).frames = .invoking m args :: below := State.frames_setFrames _ (State.cur_lt_of_top htop)
  obtain ⟨g₀, hg0⟩ := Option.isSome_iff_exists.mp htop
  obtain ⟨r, hr⟩ := State.topJava?_eq_some.mp hg0
  have hl9 : e.platform.stackLimits (T.setVm s.vm).me = e.platform.stackLimits s.me := X.limits
  have hb9 : (T.setVm s.vm).me.stackBytes = s.me.stackBytes := X.bytes
  refine ⟨X.admits, X.cas, X.clock, hF, ?_, X.hears, X.method, X.code, X.here, X.tail, X.warmed, ?_, ?_, ?_⟩
  · have h := X.room
    have hU : ((T.setVm s.vm).setFrames (.invoking m args :: below)).localsInUse = s.localsInUse := by
      rw [State.localsInUse_invoking hF (meth := meth) (c := c) X.method X.code, State.localsInUse_invoking X.frames X.method X.code]
    simp only [State.hasRoom, Bool.and_eq_true, decide_eq_true_eq] at h ⊢
    obtain ⟨⟨⟨⟨h1, h2, h3, h4, h5, h6⟩, h7⟩, h8⟩, h9⟩ := h
    rw [X.frames, List.length_cons] at h2 h3
    have q1 := X.heapSize
    have q2 := X.used
    simp only [hF, hU, List.length_cons, State.stackLimits_setFrames, State.stackBytes_setFrames, hl9, hb9]
    refine ⟨⟨⟨⟨by omega, by omega, by omega, by omega, by omega, h6⟩, ?_⟩, ?_⟩, X.book⟩
    · show T.heap.size + R'.cells ≤ e.platform.maxCells
      omega
    · show T.slotsUsed + R'.slots ≤ e.platform.maxSlots
      omega
  · rw [State.stackLimits_setFrames]; rfl
  · rw [State.stackBytes_setFrames]; rfl
  · refine ⟨?_, Nat.le_refl _, Nat.le_refl _, ?_, ?_, fun a c9 h9 => ⟨c9, h9, rfl, rfl, fun _ _ => rfl⟩⟩
    · obtain ⟨t, ht, -⟩ := State.frames_cons hr
      show T.setVm s.vm = { ((T.setVm s.vm).setFrames (.invoking m args :: below)).setFrames (T.setVm s.vm).frames with heap := T.heap, slotsUsed := T.slotsUsed }
      rw [State.setFrames_setFrames, State.setFrames_self ht]
      rfl
    · show T.slotsUsed = T.slotsUsed + ((T.heap.toList.drop T.heap.size).map (·.slots.size)).sum
      rw [List.drop_eq_nil_of_le (Nat.le_of_eq Array.length_toList)]
      rfl
    · show ((T.heap.toList.drop T.heap.size).map (·.slots.size)).sum ≤ 0
      rw [List.drop_eq_nil_of_le (Nat.le_of_eq Array.length_toList)]
      exact Nat.le_refl _
/-- 'throw new E()': new; dup; invokespecial; athrow -/
theorem vx_throw0 {cc : ByteArray} {pc : Nat} (hexec : p.tables.exec = Jvm.exec) (hb : c.code = cc) (hl : l.stackTraces = false) {own cls : String} {names : List String} {ik ic mc ms : Nat} {A : Nat → Prop}
    (hown : s.vm.findClass own = some m.cls) (hcls : Bundle.fit cls = true) (hnames : ∀ n ∈ names, Bundle.fit n = true)
    (hk : (Cond.classLink own ik cls).before args s = true) (hini : (Cond.initialized cls).before args s = true) (hat : ∀ w ∈ vx_at0 own ic cls names, w.before args s = true)
    (hgood : ∀ w ∈ Cond.classLink own ik cls :: Cond.initialized cls :: vx_at0 own ic cls names, vx_ot w = true)
    (hU : vx_Zq Bundle.tN "UNASSIGNED_STACK" Bundle.steD A s s.heap) (hN : vx_Zq Bundle.tN "SUPPRESSED_SENTINEL" Bundle.listD A s s.heap) (hS : va_S A s.heap H locs) (hsize : ls.size = c.maxLocals)
    (d0 : decode cc pc = .ok (.new ik, 3)) (d3 : decode cc (pc + 3) = .ok (.dup, 1)) (d4 : decode cc (pc + 4) = .ok (.invokespecial ic, 3)) (d7 : decode cc (pc + 7) = .ok (.athrow, 1))
    (hout : ∀ x ∈ c.exceptionTable.toList, covers x (pc + 7) = false)
    (hRframes : names.length + 3 < R.frames) (hRlocals : (rest.map fun v => v.category).sum + (13 * (names.length + 1) + 42) ≤ R.locals) (hRcells : cells + 1 ≤ R.cells) (hRslots : slots + 6 ≤ R.slots) (hlocks : meth.locks = false)
    (hx : ∀ t : State, s.vm.Alike t.vm → H.size ≤ t.heap.size → (∀ q : Nat, q < H.size → t.heap[q]? = H[q]?) → XC cls s t)
    (hf : ∀ z ∈ locs, free z.base) (hc : cells + 1 ≤ mc) (hs : slots + 6 ≤ ms) :
    W p l e R s m args below meth c H locs cells slots (vx_MQ below Qc XC args s mc ms free) (F0 m pc ls rest) := by
  intro T hT X
  have htr : e.platform.stackTraces = false := (show e.platform.stackTraces = l.stackTraces by rw [X.admits.platform]).trans hl
  have Y := vx_rebase X (R' := { frames := R.frames, locals := R.locals, cells := 1, slots := 6 }) (Nat.le_refl _) (Nat.le_refl _) hRcells hRslots
  obtain ⟨s', hA⟩ : ∃ z, z = (T.setVm s.vm).setFrames (.invoking m args :: below) := ⟨_, rfl⟩
  rw [← hA] at Y
  have hvm : s'.vm = s.vm := by rw [hA]; rfl
  have hhp : s'.heap = H := by rw [hA]; exact hT
  have hW0 : s.WarmedH s'.vm := by rw [hvm]; exact State.WarmedH.refl s
  have hat' : ∀ w ∈ vx_at0 own ic cls names, w.before args s' = true := fun w hw => vx_ot_at hW0 hvm.symm (hgood w (List.mem_cons_of_mem _ (List.mem_cons_of_mem _ hw))) (hat w hw)
  have hk' : (Cond.classLink own ik cls).before args s' = true := vx_ot_at hW0 hvm.symm (hgood _ List.mem_cons_self) hk
  have hini' : (Cond.initialized cls).before args s' = true := vx_ot_at hW0 hvm.symm (hgood _ (List.mem_cons_of_mem _ List.mem_cons_self)) hini
  have hU' : vx_Zq Bundle.tN "UNASSIGNED_STACK" Bundle.steD A s' s'.heap := by rw [hhp]; exact vx_Zq.moved hW0.alike (hU.kept hS.2.1)
  have hN' : vx_Zq Bundle.tN "SUPPRESSED_SENTINEL" Bundle.listD A s' s'.heap := by rw [hhp]; exact vx_Zq.moved hW0.alike (hN.kept hS.2.1)
  have h : ∀ w ∈ Bundle.ownAtoms0 own ic cls names, w.before args s' = true := vx_own hat' (vx_isRefq hU'.1) (vx_isRefq hN'.1) hU'.2.word hN'.2.word
  have hown' : s'.vm.findClass own = some m.cls := by rw [hvm]; exact hown
  have hins : (Cond.instantiable cls 6).before args s' = true := h _ (by simp [Bundle.ownAtoms0])
  obtain ⟨vm₁, cX, kX, hfX, hkX, -, -, X₁, st1⟩ := Y.newCold hexec (own := own) (C := cls) (index := ik) (n := 6) hown' hk' hins hini'
    (g := F0 m pc ls rest) rfl (by rw [hb]; exact d0) (Nat.le_refl _) (Nat.le_refl _)
  generalize hT1 : (T.setVm vm₁).pushCell { cls := cX, slots := kX.instanceTypes.map defaultValue, vm := .none } = T1 at X₁ st1
  have hcat : (Value.ref T.heap.size).category = 1 := rfl
  have hcellA : T1.heap[T.heap.size]? = some (freshCell cX kX) := by rw [← hT1]; exact State.heap_pushCell_size _ _
  have d3' : decode c.code (pc + 3) = .ok (.dup, 1) := by rw [hb]; exact d3
  obtain ⟨U, hsteps, hrun, hend, hW, hsame, ce, hce, hO⟩ := X₁.ctorThrow0 hexec htr (own := own) (cls := cls) (names := names) (ic := ic) hown' hcls hnames h (fun x hx => nomatch hx) hfX hkX hcellA (by rw [hhp, hT]; exact Nat.le_refl _)
    (g := { method := m, pc := pc + 4, locals := ls, stack := .ref T.heap.size :: .ref T.heap.size :: rest, locked := none }) rfl hsize rfl rfl (rest := rest) rfl
    (by rw [hb]; exact d4) (by rw [hb]; exact d7) hout hRframes (by simp only [List.map_cons, List.sum_cons, hcat]; omega) hlocks
  obtain ⟨f1, f2⟩ := vx_frame hsame
  rw [hhp] at f1 f2
  have hWs : s.WarmedH U.vm := State.WarmedH.trans hW0 hW
  have hcl : s.vm.findClass cls = some ce.cls := by
    have h9 := hO.cls
    rw [hvm] at h9
    exact h9
  have hall : s.sameButNew ({ U with vm := s.vm } : State) locs mc ms := by
    subst hA
    obtain ⟨e1, e2⟩ := hsame
    rw [State.setFrames_setFrames] at e1
    have h2 : (T.setVm s.vm).sameButNew ({ U with vm := s.vm } : State) [] (0 + 1) (0 + 6) := ⟨e1, e2⟩
    have h3 := X.same.trans h2
    rw [List.append_nil] at h3
    exact h3.mono hc hs
  refine ⟨U, ?_, .threw T.heap.size, hrun, hend, Or.inr ⟨T.heap.size, rfl, cls, ce, locs, hx U hWs.alike f1 (fun q hq => f2 q hq (fun z hz => nomatch hz)), hce, hO.vm, hcl, hWs, hall, hf⟩⟩
  refine st1 _ ?_
  show Steps p.tables e below (T1.setTop { method := m, pc := pc + 3, locals := ls, stack := .ref T.heap.size :: rest, locked := none }) _
  jvm_step X₁.here [X₁.here.top, hexec, d3', Value.category]
  exact hsteps
/-- 'throw new E("text")': new; dup; ldc; invokespecial; athrow -/
theorem vx_throwS {cc : ByteArray} {pc : Nat} (hexec : p.tables.exec = Jvm.exec) (hb : c.code = cc) (hl : l.stackTraces = false) {own cls text : String} {names : List String} {ik is ic mc ms sa : Nat} {A : Nat → Prop}
    (hown : s.vm.findClass own = some m.cls) (hcls : Bundle.fit cls = true) (hnames : ∀ n ∈ names, Bundle.fit n = true)
    (hk : (Cond.classLink own ik cls).before args s = true) (hini : (Cond.initialized cls).before args s = true) (hstr : vk_R own is text sa s) (hat : ∀ w ∈ vx_atS own ic cls names, w.before args s = true)
    (hgood : ∀ w ∈ Cond.classLink own ik cls :: Cond.initialized cls :: vx_atS own ic cls names, vx_ot w = true)
    (hU : vx_Zq Bundle.tN "UNASSIGNED_STACK" Bundle.steD A s s.heap) (hN : vx_Zq Bundle.tN "SUPPRESSED_SENTINEL" Bundle.listD A s s.heap) (hS : va_S A s.heap H locs) (hsize : ls.size = c.maxLocals)
    (d0 : decode cc pc = .ok (.new ik, 3)) (d3 : decode cc (pc + 3) = .ok (.dup, 1)) (d4 : decode cc (pc + 4) = .ok (.ldc is, 2)) (d6 : decode cc (pc + 6) = .ok (.invokespecial ic, 3)) (d9 : decode cc (pc + 9) = .ok (.athrow, 1))
    (hout : ∀ x ∈ c.exceptionTable.toList, covers x (pc + 9) = false)
    (hRframes : names.length + 3 < R.frames) (hRlocals : (rest.map fun v => v.category).sum + (13 * (names.length + 1) + 43) ≤ R.locals) (hRcells : cells + 1 ≤ R.cells) (hRslots : slots + 6 ≤ R.slots) (hlocks : meth.locks = false)
    (hx : ∀ t : State, s.vm.Alike t.vm → H.size ≤ t.heap.size → (∀ q : Nat, q < H.size → t.heap[q]? = H[q]?) → XC cls s t)
    (hf : ∀ z ∈ locs, free z.base) (hc : cells + 1 ≤ mc) (hs : slots + 6 ≤ ms) :
    W p l e R s m args below meth c H locs cells slots (vx_MQ below Qc XC args s mc ms free) (F0 m pc ls rest) := by
  intro T hT X
  have htr : e.platform.stackTraces = false := (show e.platform.stackTraces = l.stackTraces by rw [X.admits.platform]).trans hl
  have Y := vx_rebase X (R' := { frames := R.frames, locals := R.locals, cells := 1, slots := 6 }) (Nat.le_refl _) (Nat.le_refl _) hRcells hRslots
  obtain ⟨s', hA⟩ : ∃ z, z = (T.setVm s.vm).setFrames (.invoking m args :: below) := ⟨_, rfl⟩
  rw [← hA] at Y
  have hvm : s'.vm = s.vm := by rw [hA]; rfl
  have hhp : s'.heap = H := by rw [hA]; exact hT
  have hW0 : s.WarmedH s'.vm := by rw [hvm]; exact State.WarmedH.refl s
  have hat' : ∀ w ∈ vx_atS own ic cls names, w.before args s' = true := fun w hw => vx_ot_at hW0 hvm.symm (hgood w (List.mem_cons_of_mem _ (List.mem_cons_of_mem _ hw))) (hat w hw)
  have hk' : (Cond.classLink own ik cls).before args s' = true := vx_ot_at hW0 hvm.symm (hgood _ List.mem_cons_self) hk
  have hini' : (Cond.initialized cls).before args s' = true := vx_ot_at hW0 hvm.symm (hgood _ (List.mem_cons_of_mem _ List.mem_cons_self)) hini
  have hU' : vx_Zq Bundle.tN "UNASSIGNED_STACK" Bundle.steD A s' s'.heap := by rw [hhp]; exact vx_Zq.moved hW0.alike (hU.kept hS.2.1)
  have hN' : vx_Zq Bundle.tN "SUPPRESSED_SENTINEL" Bundle.listD A s' s'.heap := by rw [hhp]; exact vx_Zq.moved hW0.alike (hN.kept hS.2.1)
  have h : ∀ w ∈ Bundle.ownAtoms own ic cls names, w.before args s' = true := vx_own hat' (vx_isRefq hU'.1) (vx_isRefq hN'.1) hU'.2.word hN'.2.word
  have hown' : s'.vm.findClass own = some m.cls := by rw [hvm]; exact hown
  have hins : (Cond.instantiable cls 6).before args s' = true := h _ (by simp [Bundle.ownAtoms])
  obtain ⟨vm₁, cX, kX, hfX, hkX, -, -, X₁, st1⟩ := Y.newCold hexec (own := own) (C := cls) (index := ik) (n := 6) hown' hk' hins hini'
    (g := F0 m pc ls rest) rfl (by rw [hb]; exact d0) (Nat.le_refl _) (Nat.le_refl _)
  generalize hT1 : (T.setVm vm₁).pushCell { cls := cX, slots := kX.instanceTypes.map defaultValue, vm := .none } = T1 at X₁ st1
  have hcat : (Value.ref T.heap.size).category = 1 := rfl
  have hcellA : T1.heap[T.heap.size]? = some (freshCell cX kX) := by rw [← hT1]; exact State.heap_pushCell_size _ _
  have d3' : decode c.code (pc + 3) = .ok (.dup, 1) := by rw [hb]; exact d3
  have d4' : decode c.code (pc + 4) = .ok (.ldc is, 2) := by rw [hb]; exact d4
  have hstr' : vk_R own is text sa s' := vk_R.warm hW0 hstr
  obtain ⟨U, hsteps, hrun, hend, hW, hsame, ce, hce, hO⟩ := X₁.ctorThrowS hexec htr (own := own) (cls := cls) (names := names) (ic := ic) hown' hcls hnames h (fun x hx => nomatch hx) hfX hkX hcellA (by rw [hhp, hT]; exact Nat.le_refl _) (msg := .ref sa) rfl
    (g := { method := m, pc := pc + 6, locals := ls, stack := .ref sa :: .ref T.heap.size :: .ref T.heap.size :: rest, locked := none }) rfl hsize rfl rfl (rest := rest) rfl
    (by rw [hb]; exact d6) (by rw [hb]; exact d9) hout hRframes (by simp only [List.map_cons, List.sum_cons, hcat]; omega) hlocks
  obtain ⟨f1, f2⟩ := vx_frame hsame
  rw [hhp] at f1 f2
  have hWs : s.WarmedH U.vm := State.WarmedH.trans hW0 hW
  have hcl : s.vm.findClass cls = some ce.cls := by
    have h9 := hO.cls
    rw [hvm] at h9
    exact h9
  have hall : s.sameButNew ({ U with vm := s.vm } : State) locs mc ms := by
    subst hA
    obtain ⟨e1, e2⟩ := hsame
    rw [State.setFrames_setFrames] at e1
    have h2 : (T.setVm s.vm).sameButNew ({ U with vm := s.vm } : State) [] (0 + 1) (0 + 6) := ⟨e1, e2⟩
    have h3 := X.same.trans h2
    rw [List.append_nil] at h3
    exact h3.mono hc hs
  refine ⟨U, ?_, .threw T.heap.size, hrun, hend, Or.inr ⟨T.heap.size, rfl, cls, ce, locs, hx U hWs.alike f1 (fun q hq => f2 q hq (fun z hz => nomatch hz)), hce, hO.vm, hcl, hWs, hall, hf⟩⟩
  refine st1 _ ?_
  show Steps p.tables e below (T1.setTop { method := m, pc := pc + 3, locals := ls, stack := .ref T.heap.size :: rest, locked := none }) _
  jvm_step X₁.here [X₁.here.top, hexec, d3', Value.category]
  exact X₁.ldcString hexec (own := own) (text := text) (index := is) (a := sa) hown' hstr'.1 hstr'.2
    (g := { method := m, pc := pc + 4, locals := ls, stack := .ref T.heap.size :: .ref T.heap.size :: rest, locked := none }) rfl d4' _ hsteps
/-- 'throw new E("text")', the text by a wide index -/
theorem vx_throwSW {cc : ByteArray} {pc : Nat} (hexec : p.tables.exec = Jvm.exec) (hb : c.code = cc) (hl : l.stackTraces = false) {own cls text : String} {names : List String} {ik is ic mc ms sa : Nat} {A : Nat → Prop}
    (hown : s.vm.findClass own = some m.cls) (hcls : Bundle.fit cls = true) (hnames : ∀ n ∈ names, Bundle.fit n = true)
    (hk : (Cond.classLink own ik cls).before args s = true) (hini : (Cond.initialized cls).before args s = true) (hstr : vk_R own is text sa s) (hat : ∀ w ∈ vx_atS own ic cls names, w.before args s = true)
    (hgood : ∀ w ∈ Cond.classLink own ik cls :: Cond.initialized cls :: vx_atS own ic cls names, vx_ot w = true)
    (hU : vx_Zq Bundle.tN "UNASSIGNED_STACK" Bundle.steD A s s.heap) (hN : vx_Zq Bundle.tN "SUPPRESSED_SENTINEL" Bundle.listD A s s.heap) (hS : va_S A s.heap H locs) (hsize : ls.size = c.maxLocals)
    (d0 : decode cc pc = .ok (.new ik, 3)) (d3 : decode cc (pc + 3) = .ok (.dup, 1)) (d4 : decode cc (pc + 4) = .ok (.ldc_w is, 3)) (d7 : decode cc (pc + 7) = .ok (.invokespecial ic, 3)) (d10 : decode cc (pc + 10) = .ok (.athrow, 1))
    (hout : ∀ x ∈ c.exceptionTable.toList, covers x (pc + 10) = false)
    (hRframes : names.length + 3 < R.frames) (hRlocals : (rest.map fun v => v.category).sum + (13 * (names.length + 1) + 43) ≤ R.locals) (hRcells : cells + 1 ≤ R.cells) (hRslots : slots + 6 ≤ R.slots) (hlocks : meth.locks = false)
    (hx : ∀ t : State, s.vm.Alike t.vm → H.size ≤ t.heap.size → (∀ q : Nat, q < H.size → t.heap[q]? = H[q]?) → XC cls s t)
    (hf : ∀ z ∈ locs, free z.base) (hc : cells + 1 ≤ mc) (hs : slots + 6 ≤ ms) :
    W p l e R s m args below meth c H locs cells slots (vx_MQ below Qc XC args s mc ms free) (F0 m pc ls rest) := by
  intro T hT X
  have htr : e.platform.stackTraces = false := (show e.platform.stackTraces = l.stackTraces by rw [X.admits.platform]).trans hl
  have Y := vx_rebase X (R' := { frames := R.frames, locals := R.locals, cells := 1, slots := 6 }) (Nat.le_refl _) (Nat.le_refl _) hRcells hRslots
  obtain ⟨s', hA⟩ : ∃ z, z = (T.setVm s.vm).setFrames (.invoking m args :: below) := ⟨_, rfl⟩
  rw [← hA] at Y
  have hvm : s'.vm = s.vm := by rw [hA]; rfl
  have hhp : s'.heap = H := by rw [hA]; exact hT
  have hW0 : s.WarmedH s'.vm := by rw [hvm]; exact State.WarmedH.refl s
  have hat' : ∀ w ∈ vx_atS own ic cls names, w.before args s' = true := fun w hw => vx_ot_at hW0 hvm.symm (hgood w (List.mem_cons_of_mem _ (List.mem_cons_of_mem _ hw))) (hat w hw)
  have hk' : (Cond.classLink own ik cls).before args s' = true := vx_ot_at hW0 hvm.symm (hgood _ List.mem_cons_self) hk
  have hini' : (Cond.initialized cls).before args s' = true := vx_ot_at hW0 hvm.symm (hgood _ (List.mem_cons_of_mem _ List.mem_cons_self)) hini
  have hU' : vx_Zq Bundle.tN "UNASSIGNED_STACK" Bundle.steD A s' s'.heap := by rw [hhp]; exact vx_Zq.moved hW0.alike (hU.kept hS.2.1)
  have hN' : vx_Zq Bundle.tN "SUPPRESSED_SENTINEL" Bundle.listD A s' s'.heap := by rw [hhp]; exact vx_Zq.moved hW0.alike (hN.kept hS.2.1)
  have h : ∀ w ∈ Bundle.ownAtoms own ic cls names, w.before args s' = true := vx_own hat' (vx_isRefq hU'.1) (vx_isRefq hN'.1) hU'.2.word hN'.2.word
  have hown' : s'.vm.findClass own = some m.cls := by rw [hvm]; exact hown
  have hins : (Cond.instantiable cls 6).before args s' = true := h _ (by simp [Bundle.ownAtoms])
  obtain ⟨vm₁, cX, kX, hfX, hkX, -, -, X₁, st1⟩ := Y.newCold hexec (own := own) (C := cls) (index := ik) (n := 6) hown' hk' hins hini'
    (g := F0 m pc ls rest) rfl (by rw [hb]; exact d0) (Nat.le_refl _) (Nat.le_refl _)
  generalize hT1 : (T.setVm vm₁).pushCell { cls := cX, slots := kX.instanceTypes.map defaultValue, vm := .none } = T1 at X₁ st1
  have hcat : (Value.ref T.heap.size).category = 1 := rfl
  have hcellA : T1.heap[T.heap.size]? = some (freshCell cX kX) := by rw [← hT1]; exact State.heap_pushCell_size _ _
  have d3' : decode c.code (pc + 3) = .ok (.dup, 1) := by rw [hb]; exact d3
  have d4' : decode c.code (pc + 4) = .ok (.ldc_w is, 3) := by rw [hb]; exact d4
  have hstr' : vk_R own is text sa s' := vk_R.warm hW0 hstr
  obtain ⟨U, hsteps, hrun, hend, hW, hsame, ce, hce, hO⟩ := X₁.ctorThrowS hexec htr (own := own) (cls := cls) (names := names) (ic := ic) hown' hcls hnames h (fun x hx => nomatch hx) hfX hkX hcellA (by rw [hhp, hT]; exact Nat.le_refl _) (msg := .ref sa) rfl
    (g := { method := m, pc := pc + 7, locals := ls, stack := .ref sa :: .ref T.heap.size :: .ref T.heap.size :: rest, locked := none }) rfl hsize rfl rfl (rest := rest) rfl
    (by rw [hb]; exact d7) (by rw [hb]; exact d10) hout hRframes (by simp only [List.map_cons, List.sum_cons, hcat]; omega) hlocks
  obtain ⟨f1, f2⟩ := vx_frame hsame
  rw [hhp] at f1 f2
  have hWs : s.WarmedH U.vm := State.WarmedH.trans hW0 hW
  have hcl : s.vm.findClass cls = some ce.cls := by
    have h9 := hO.cls
    rw [hvm] at h9
    exact h9
  have hall : s.sameButNew ({ U with vm := s.vm } : State) locs mc ms := by
    subst hA
    obtain ⟨e1, e2⟩ := hsame
    rw [State.setFrames_setFrames] at e1
    have h2 : (T.setVm s.vm).sameButNew ({ U with vm := s.vm } : State) [] (0 + 1) (0 + 6) := ⟨e1, e2⟩
    have h3 := X.same.trans h2
    rw [List.append_nil] at h3
    exact h3.mono hc hs
  refine ⟨U, ?_, .threw T.heap.size, hrun, hend, Or.inr ⟨T.heap.size, rfl, cls, ce, locs, hx U hWs.alike f1 (fun q hq => f2 q hq (fun z hz => nomatch hz)), hce, hO.vm, hcl, hWs, hall, hf⟩⟩
  refine st1 _ ?_
  show Steps p.tables e below (T1.setTop { method := m, pc := pc + 3, locals := ls, stack := .ref T.heap.size :: rest, locked := none }) _
  jvm_step X₁.here [X₁.here.top, hexec, d3', Value.category]
  exact X₁.ldcStringW hexec (own := own) (text := text) (index := is) (a := sa) hown' hstr'.1 hstr'.2
    (g := { method := m, pc := pc + 4, locals := ls, stack := .ref T.heap.size :: .ref T.heap.size :: rest, locked := none }) rfl d4' _ hsteps
end Ends
section Bodies
variable {l : Launch}
theorem vx_ofW {y : MethodName} {ws ws' : List Cond} {rm : Room} {Pc : Array Value → State → Prop} {Qc : Array Value → State → Outcome → State → Prop} {XC : String → State → State → Prop} {mc ms : Nat} {free : Addr → Prop} {cc : ByteArray} {maxL : Nat} {ret : Option FieldType}
    (hy : plainName y.cls = true) (hw : ws = Cond.code y cc maxL ret :: ws')
    (body : ∀ p e s m args below meth c s₁, BodyLoose p l y (headSpec ws rm) cc maxL ret e s m args below meth c s₁ → c.maxLocals = maxL → (∀ x ∈ c.exceptionTable.toList, False) → Pc args s →
      W p l e (headSpec ws rm).room s m args below meth c s.heap [] 0 0 (vx_MQ below Qc XC args s mc ms free) (entryFrame m args maxL)) : vx_Met l y ws rm Pc Qc XC mc ms free := by
  refine MetFree.of_bodyS (code := cc) (maxLocals := maxL) (ret := ret) hy ?_ ?_
  · intro args s m h hn
    obtain ⟨meth, c, h1, h2, h3, h4, h5, h6, -, -⟩ := Cond.code_spec hn (atoms_spec (ws := ws) h _ (by rw [hw]; exact List.mem_cons_self))
    exact ⟨meth, c, h1, h2, h3, h4, h5, h6⟩
  · intro p e s m args below meth c s₁ B hml hP _
    have hh0 : s₁.heap = s.heap := by rw [B.state]; rfl
    have ht : ∀ x ∈ c.exceptionTable.toList, False := by
      obtain ⟨meth9, c9, h1, h2, -, -, -, -, h7, -⟩ := Cond.code_spec B.named (atoms_spec (ws := ws) B.pre _ (by rw [hw]; exact List.mem_cons_self))
      cases Option.some.inj (h1.symm.trans B.method)
      cases Option.some.inj (h2.symm.trans (Stand.of_body B).code)
      intro x hx
      rw [Array.isEmpty_iff.mp h7] at hx
      cases hx
    obtain ⟨t, a1, o, b1, b2, b3⟩ := body p e s m args below meth c s₁ B hml ht hP s₁ hh0 (Stand.of_body B)
    exact ⟨t, o, a1, b1, b2, b3⟩
/-- the table of a body with handlers -/
theorem vx_table {p : Program} {x y : MethodName} {S : Spec} {cc bytes : ByteArray} {maxL maxL' : Nat} {ret ret' : Option FieldType} {e : Env} {s s₁ : State} {m : MethodId} {args : Array Value} {below : List Frame} {meth : Method} {c : Code} {hh : List (Nat × Nat × Nat × Nat)}
    (B : BodyLoose p l y S cc maxL ret e s m args below meth c s₁) (h : (Cond.codeWith y bytes maxL' ret' hh).before args s = true) : c.exceptionTable.toList = tableOf hh := by
  obtain ⟨m9, meth9, c9, hn9, h1, h2, -, -, h6, -⟩ := Cond.codeWith_spec h
  cases Option.some.inj (hn9.symm.trans B.named)
  cases Option.some.inj (h1.symm.trans B.method)
  cases Option.some.inj (h2.symm.trans (Stand.of_body B).code)
  rw [← h6, table_eq]
end Bodies
end VXA
/-! ===== END ===== -/
/-! ===== BEGIN a static call of a method with an exception table ===== -/
section VXS
variable {p : Program} {l : Launch} {e : Env} {R : Room} {s : State} {m : MethodId} {args : Array Value} {below : List Frame} {meth : Method} {c : Code} {T : State} {H : Heap} {locs : List Loc} {cells slots : Nat}
abbrev vx_CSW (R : Room) (s : State) (args : Array Value) (own : String) (index : Nat) (y : MethodName) (bytes : ByteArray) (maxL : Nat) (ret : Option FieldType) (hh : List (Nat × Nat × Nat × Nat)) (ws : List Cond) (rm : Room) (mc ms n : Nat) : Prop :=
  (rm.cells = mc ∧ rm.slots = ms ∧ rm.frames + 1 ≤ R.frames ∧ 8 + (maxL + 11) + rm.locals ≤ R.locals ∧ (∀ w ∈ ws, ∀ (a' : Array Value) (U : State), s.WarmedH U.vm → w.before a' U = true) ∧ Cond.codeWith y bytes maxL ret hh ∈ ws) ∧
  (Cond.codeWith y bytes maxL ret hh).before args s = true ∧ (Cond.initialized y.cls).before args s = true ∧ (y.cls ≠ "java/lang/invoke/MethodHandle" ∧ y.cls ≠ "java/lang/invoke/VarHandle") ∧
  (∀ sig, parseMethodDescriptor y.desc = some sig → n = sig.parameters.length) ∧ (Cond.methodLink own index y).before args s = true ∧ (Cond.static y).before args s = true
theorem vx_cwSW {own : String} {index maxL mc ms : Nat} {y : MethodName} {bytes : ByteArray} {ret : Option FieldType} {hh : List (Nat × Nat × Nat × Nat)} {Ts ws ws' : List Cond} {rm : Room} (n : Nat) (ht : ∀ w ∈ Ts, w.before args s = true) (hT : GoodIn Ts (va_wsS own index y ws)) (hw : ws = Cond.codeWith y bytes maxL ret hh :: ws') (hrc : rm.cells = mc) (hrs : rm.slots = ms)
    (hd : y.cls ≠ "java/lang/invoke/MethodHandle" ∧ y.cls ≠ "java/lang/invoke/VarHandle" ∧ (parseMethodDescriptor y.desc).map (fun d => d.parameters.length) = some n) (hR : rm.frames + 1 ≤ R.frames ∧ 8 + (maxL + 11) + rm.locals ≤ R.locals) :
    vx_CSW R s args own index y bytes maxL ret hh ws rm mc ms n := by
  have ok : ∀ w ∈ va_wsS own index y ws, w.before args s = true := fun w h => ht w (hT w h).1
  have hG : GoodIn Ts ws := fun w h => hT w (by unfold va_wsS; exact List.mem_append_right _ h)
  have hc : Cond.codeWith y bytes maxL ret hh ∈ ws := by rw [hw]; exact List.mem_cons_self
  refine ⟨⟨hrc, hrs, hR.1, hR.2, pay_in ht hG, hc⟩, ht _ (hG _ hc).1, ok _ (by simp [va_wsS]), ⟨hd.1, hd.2.1⟩, fun sig h => ?_, ok _ (by simp [va_wsS]), ok _ (by simp [va_wsS])⟩
  have h2 := hd.2.2
  rw [h] at h2
  exact (Option.some.inj h2).symm
theorem vx_callSW (X : Stand p l e R s m args below meth c T locs cells slots) (hexec : p.tables.exec = Jvm.exec) {own : String} {index : Nat} {y : MethodName} {bytes : ByteArray} {maxL : Nat} {ret : Option FieldType} {hh : List (Nat × Nat × Nat × Nat)}
    (hown : s.vm.findClass own = some m.cls) (hlink : (Cond.methodLink own index y).before args s = true) (hstat : (Cond.static y).before args s = true) (hinit : (Cond.initialized y.cls).before args s = true)
    (hcode : (Cond.codeWith y bytes maxL ret hh).before args s = true) (hy : y.cls ≠ "java/lang/invoke/MethodHandle" ∧ y.cls ≠ "java/lang/invoke/VarHandle")
    {W9 : Nat} {Pre : Pt → Array Value → Prop} {Post : Pt → Array Value → Option Value → Pt → Prop} (hK : Back l R p e below s args y 3 W9 Pre Post)
    {g : JFrame} (hg : g.method = m) (hsize : g.locals.size = c.maxLocals) {argsL rest : List Value} (hlen : ∀ sig, parseMethodDescriptor y.desc = some sig → argsL.length = sig.parameters.length)
    (hstack : g.stack = argsL.reverse ++ rest) (hW : 2 * g.monitorRoom + (rest.map fun v => v.category).sum ≤ W9) (hdg : decode c.code g.pc = .ok (.invokestatic index, 3))
    (hpre : ∀ vm₁, s.WarmedH vm₁ → Pre ⟨T.setVm vm₁, locs, cells, slots⟩ argsL.toArray) :
    ∃ (v : Option Value) (vm₁ : Vm) (B : Pt), s.WarmedH vm₁ ∧ Stand p l e R s m args below meth c B.U B.locs B.cells B.slots ∧ Post ⟨T.setVm vm₁, locs, cells, slots⟩ argsL.toArray v B ∧
      ∀ target, Steps p.tables e below (B.U.setTop { g with pc := g.pc + 3, stack := v.toList ++ rest }) target → Steps p.tables e below (T.setTop g) target := by
  obtain ⟨mk, methM, cM, hnamed, hmethM, -, -, -, -, -, -, hsigM⟩ := Cond.codeWith_spec hcode
  have hstatic : methM.isStatic = true := Cond.static_spec hnamed hmethM hstat
  obtain ⟨kP, hkP, -⟩ := className_of_methodNamed hnamed
  have hinitP : kP.init = .initialized := Cond.initialized_spec (findClass_of_methodNamed hnamed) hkP hinit
  obtain ⟨vm₁, X₁, hstep₁⟩ := X.invokestatic hexec hown hlink hnamed hmethM hstatic hkP hinitP hy (g := g) hg (argsL := argsL) (rest := rest) (hlen _ hsigM) hstack hdg
  obtain ⟨v, B, X', hpost, hsteps⟩ := hK m meth c ⟨T.setVm vm₁, locs, cells, slots⟩ { g with stack := rest } (.invokestatic index) mk argsL.toArray X₁ hg hsize hdg hW (X₁.named hnamed) (hpre vm₁ X₁.warmed)
  exact ⟨v, vm₁, B, X₁.warmed, X', hpost, fun target h => hstep₁ _ fun acts => by rw [doInvoke_state]; exact hsteps.trans h⟩
theorem vx_runSW {y : MethodName} {bytes cc : ByteArray} {maxL nL mc ms n index : Nat} {ret : Option FieldType} {hh : List (Nat × Nat × Nat × Nat)} {ws : List Cond} {rm : Room} {Pc : Array Value → State → Prop} {Qc : Array Value → State → Outcome → State → Prop} {free : Addr → Prop} {Ts : List Cond} {own : String} {As rest : List Value} {g : JFrame}
    (S : CallFix p m c cc nL s args Ts own) (hM : Met l y ws rm Pc Qc mc ms free) (cw : vx_CSW R s args own index y bytes maxL ret hh ws rm mc ms n) (hp : PreS s H Pc As)
    (hg : g.method = m) (hn : As.length = n) (hsize : g.locals.size = nL) (hstack : g.stack = As.reverse ++ rest) (hW : 2 * g.monitorRoom + (rest.map fun v => v.category).sum ≤ 8) (hdg : decode cc g.pc = .ok (.invokestatic index, 3)) (hf : cells + mc ≤ R.cells ∧ slots + ms ≤ R.slots) :
    va_Run p l e R s m args below meth c H locs cells slots mc ms g rest (Qc As.toArray) (free) := by
  obtain ⟨⟨hrc, hrs, hfr, hlo, hws, hcw⟩, hcode, hini, hy, hlen, hl, hstt⟩ := cw
  have hK : Back l R p e below s args y 3 8 (PreOf R mc ms Pc) (PostOf Qc mc ms free) := va_backW (hh := hh) (bytes := bytes) (maxL := maxL) (ret := ret) hM hp.1 hrc hrs hfr hlo hws hcw (fun a' U hW => word_at hW (Or.inl (by first | rfl | simp [Cond.onTables, Cond.keeps, Cond.steady])) hini)
  obtain ⟨hx, hb, hml, ho, -⟩ := S
  intro T hT X
  obtain ⟨v, vm₁, ⟨U', l2, c2, s2⟩, hW₁, X', ⟨g', mk, t, L, e1, e2, hq, h1, hL, h2, h3⟩, st⟩ := vx_callSW X hx (hh := hh) (bytes := bytes) (maxL := maxL) (ret := ret) ho hl hstt hini hcode hy hK hg (hsize.trans hml.symm) (argsL := As) (rest := rest) (fun sig h => hn.trans (hlen sig h)) hstack hW (by rw [hb]; exact hdg)
    (fun vm₁ hW₁ => ⟨hf.1, hf.2, hp.2 (T.setVm vm₁) hT hW₁⟩)
  dsimp only [Pt.U, Pt.locs, Pt.cells, Pt.slots] at X' e1 e2 h1 h2 h3 st
  subst h1; subst h2; subst h3
  exact ⟨v, (T.setVm vm₁).calling g' mk As.toArray, t, U', L, hT, X', hL, e1, e2, hq, st⟩
/-- a thing of a world lies in the heap -/
theorem vx_lt {D : va_G} {cl : List vw_C} {ws : va_W} {H1 : Heap} (h : va_P D cl ws H1) {k : Nat} {q : Nat × va_E} (hk : ws[k]? = some q) : q.1 < H1.size := (h k q hk).lt
end VXS
/-! ===== END ===== -/
/-! ===== BEGIN methods with a table of their own: called by a name, returning or throwing ===== -/
section VXH
/-! vx_backW, vx_callVX, vx_callSX, vx_callVW, vx_runVW, vx_runVX, vx_runSX, vx_ofWH follow the same proofs as their sisters above (Free/Laws.lean, Shelf42/LK1.lean); vx_outP calls Shelf42/NT130.lean (outThrough). -/
section
variable {l : Launch} {R : Room} {p : Program} {e : Env} {below : List Frame} {s : State} {sargs : Array Value} {y : MethodName} {len W9 : Nat}
theorem vx_backW {ws : List Cond} {rm : Room} {Pc : Array Value → State → Prop} {Qc : Array Value → State → Outcome → State → Prop} {XC : String → State → State → Prop} {mc ms : Nat} {free : Addr → Prop} {bytes : ByteArray} {maxL : Nat} {ret : Option FieldType} {hh : List (Nat × Nat × Nat × Nat)}
    (hM : vx_Met l y ws rm Pc Qc XC mc ms free) (hblind : FrameBlind Pc) (hrc : rm.cells = mc) (hrs : rm.slots = ms)
    (hframes : rm.frames + 1 ≤ R.frames) (hlocals : W9 + (maxL + 11) + rm.locals ≤ R.locals)
    (hws : ∀ w ∈ ws, ∀ a' U, s.WarmedH U.vm → w.before a' U = true) (hcode : Cond.codeWith y bytes maxL ret hh ∈ ws) (hinit : ∀ a' U, s.WarmedH U.vm → (Cond.initialized y.cls).before a' U = true) :
    vx_Back l R p e below s sargs y len W9 (PreOf R mc ms Pc) (PostOf Qc mc ms free) (vx_Post XC mc ms free) := by
  intro m meth c A g ig mk a X hg hsize hdg hW hn hp
  have h1 : (headSpec ws rm).pre.before a A.U = true := atoms_intro fun w hw => hws w hw _ _ X.warmed
  have h2 : (Cond.codeWith y bytes maxL ret hh).before a A.U = true := hws _ hcode _ _ X.warmed
  have h3 : (Cond.initialized y.cls).before a A.U = true := hinit _ _ X.warmed
  have h4 : A.cells + (headSpec ws rm).room.cells ≤ R.cells := by rw [show (headSpec ws rm).room.cells = mc from hrc]; exact hp.1
  have h5 : A.slots + (headSpec ws rm).room.slots ≤ R.slots := by rw [show (headSpec ws rm).room.slots = ms from hrs]; exact hp.2.1
  have hPc : Pc a (A.U.calling g mk a) := hblind _ _ _ _ hp.2.2
  obtain ⟨U, Ls, c0, s0⟩ := A
  dsimp only [Pt.U, Pt.locs, Pt.cells, Pt.slots] at h1 h2 h3 h4 h5 X hn hPc ⊢
  obtain ⟨m9, methY, cY, hn9, hmY, hcY, -, hlY, -⟩ := Cond.codeWith_spec h2
  cases Option.some.inj (hn9.symm.trans hn)
  obtain ⟨kY, hkY, -⟩ := className_of_methodNamed hn
  have hinitY : kY.init = .initialized := Cond.initialized_spec (findClass_of_methodNamed hn) hkY h3
  have h : At U g.method c below := by rw [hg]; exact X.here
  have hlocals9 : W9 + (maxL + 11) + (headSpec ws rm).room.locals ≤ R.locals := hlocals
  have happ : (headSpec ws rm).appliesLoose y e.platform (U.calling g mk a) = true :=
    Spec.appliesLoose_calling (g := g) h hdg hn hkY hinitY
      (X.room_calling (g := g) (R' := (headSpec ws rm).room) hsize hmY hcY hframes (by rw [hlY]; omega) h4 h5) h1
  obtain ⟨mid, hmid⟩ := h.above
  have hfr : (U.setTop g).frames = (.java g :: mid) ++ below := by rw [State.frames_setTop' g h.top, hmid]; rfl
  obtain ⟨o, s₂, hsteps, -, hend, hq⟩ := Steps.callFree hM p X.admits X.cas X.clock (acts := []) hfr happ hPc trivial
  have hq' : vx_Q Qc XC mc ms free a (U.calling g mk a) o s₂ := hq
  rw [State.frames_setTop' g h.top] at hend
  obtain ⟨g₀, hg0⟩ := Option.isSome_iff_exists.mp h.top
  obtain ⟨r, hr⟩ := State.topJava?_eq_some.mp hg0
  have hr' : (({ U with heap := s₂.heap, slotsUsed := s₂.slotsUsed } : State).setVm s₂.vm).frames = .java g₀ :: r := hr
  rcases hq' with ⟨hqc, L, hfe, hL⟩ | ⟨q, rfl, E, ce, L, hx, hce, hcv, hcl, hW₂, hsm, hL⟩
  · obtain ⟨⟨v, rfl⟩, hW₂, e2, q2, q3, q4, q5, q6⟩ := id hfe
    have e3 : s₂ = ({ (U.calling g mk a).setFrames s₂.frames with heap := s₂.heap, slotsUsed := s₂.slotsUsed } : State).setVm s₂.vm := by
      have : s₂ = ({ s₂ with vm := (U.calling g mk a).vm } : State).setVm s₂.vm := rfl
      rw [e2] at this
      exact this
    obtain ⟨c₂, i₂, len₂, hc₂, hd₂, hf₂⟩ := hend
    have hW' : U.WarmedH s₂.vm := hW₂
    have hcc : c₂ = c := by
      have h1 : s₂.code? g.method = U.code? g.method := by
        rw [State.code?_eq, State.code?_eq, hW'.alike.method?]
      exact Option.some.inj (hc₂.symm.trans (h1.trans h.code))
    subst hcc
    have hlen : len₂ = len := by rw [hdg] at hd₂; cases hd₂; rfl
    subst hlen
    have hs₂ : s₂ = (({ U with heap := s₂.heap, slotsUsed := s₂.slotsUsed } : State).setVm s₂.vm).setTop { g with pc := g.pc + len₂, stack := v.toList ++ g.stack } := by
      refine e3.trans ?_
      rw [hf₂, State.calling_eq h.top, State.setFrames_setFrames, State.setTop_of_frames _ hr', hr]
      rfl
    have hsame : U.sameButNew ({ U with heap := s₂.heap, slotsUsed := s₂.slotsUsed } : State) L mc ms := by
      refine ⟨?_, q2, q3, q4, q5, q6⟩
      obtain ⟨t, ht, -⟩ := State.frames_cons hr
      show ({ U with heap := s₂.heap, slotsUsed := s₂.slotsUsed } : State) = { U.setFrames U.frames with heap := s₂.heap, slotsUsed := s₂.slotsUsed }
      rw [State.setFrames_self ht]
    subst hg
    refine Or.inl ⟨v, ⟨(({ U with heap := s₂.heap, slotsUsed := s₂.slotsUsed } : State).setVm s₂.vm), Ls ++ L, c0 + mc, s0 + ms⟩,
      ⟨X.admits, X.cas, X.clock, X.frames, X.room, X.hears, X.method, X.code, (X.here.setHeapUsed s₂.heap s₂.slotsUsed).setVm hW'.alike, X.tail, State.WarmedH.trans X.warmed hW', X.limits, X.bytes, X.same.trans (hsame.setVm s.vm)⟩,
      ⟨g, mk, s₂, L, rfl, rfl, hqc, rfl, hL, rfl, rfl⟩, ?_⟩
    show Steps p.tables e below _ ((({ U with heap := s₂.heap, slotsUsed := s₂.slotsUsed } : State).setVm s₂.vm).setTop { g with pc := g.pc + len₂, stack := v.toList ++ g.stack })
    rw [← hs₂]
    exact hsteps
  · obtain ⟨e2, q2, q3, q4, q5, q6⟩ := id hsm
    have e3 : s₂ = ({ (U.calling g mk a).setFrames s₂.frames with heap := s₂.heap, slotsUsed := s₂.slotsUsed } : State).setVm s₂.vm := by
      have : s₂ = ({ s₂ with vm := (U.calling g mk a).vm } : State).setVm s₂.vm := rfl
      rw [e2] at this
      exact this
    have hf₂ : s₂.frames = .throwing q :: .java g :: U.frames.tail := hend
    have hW' : U.WarmedH s₂.vm := hW₂
    have hs₂ : s₂ = ((({ U with heap := s₂.heap, slotsUsed := s₂.slotsUsed } : State).setVm s₂.vm).setTop g).pushFrame (.throwing q) := by
      refine e3.trans ?_
      rw [hf₂, State.calling_eq h.top, State.setFrames_setFrames, State.pushFrame, State.frames_setTop _ hr', State.setTop_of_frames _ hr', State.setFrames_setFrames, hr]
      rfl
    have hsame : U.sameButNew ({ U with heap := s₂.heap, slotsUsed := s₂.slotsUsed } : State) L mc ms := by
      refine ⟨?_, q2, q3, q4, q5, q6⟩
      obtain ⟨t, ht, -⟩ := State.frames_cons hr
      show ({ U with heap := s₂.heap, slotsUsed := s₂.slotsUsed } : State) = { U.setFrames U.frames with heap := s₂.heap, slotsUsed := s₂.slotsUsed }
      rw [State.setFrames_self ht]
    subst hg
    refine Or.inr ⟨q, ⟨(({ U with heap := s₂.heap, slotsUsed := s₂.slotsUsed } : State).setVm s₂.vm), Ls ++ L, c0 + mc, s0 + ms⟩,
      ⟨X.admits, X.cas, X.clock, X.frames, X.room, X.hears, X.method, X.code, (X.here.setHeapUsed s₂.heap s₂.slotsUsed).setVm hW'.alike, X.tail, State.WarmedH.trans X.warmed hW', X.limits, X.bytes, X.same.trans (hsame.setVm s.vm)⟩,
      ⟨g, mk, s₂, L, E, ce, rfl, rfl, hx, hce, hcv, hcl, rfl, hL, rfl, rfl⟩, ?_⟩
    show Steps p.tables e below _ (((({ U with heap := s₂.heap, slotsUsed := s₂.slotsUsed } : State).setVm s₂.vm).setTop g).pushFrame (.throwing q))
    rw [← hs₂]
    exact hsteps
end
variable {p : Program} {l : Launch} {e : Env} {R : Room} {s : State} {m : MethodId} {args : Array Value} {below : List Frame} {meth : Method} {c : Code} {T : State} {H : Heap} {locs : List Loc} {cells slots : Nat}
theorem vx_callVX (X : Stand p l e R s m args below meth c T locs cells slots) (hexec : p.tables.exec = Jvm.exec) {own C : String} {index : Nat} {y : MethodName} {bytes : ByteArray} {maxL : Nat} {ret : Option FieldType} {hh : List (Nat × Nat × Nat × Nat)}
    (hown : s.vm.findClass own = some m.cls) (hlink : (Cond.methodLink own index y).before args s = true) (hinst : (Cond.instanceMethod y).before args s = true) (hsel : (Cond.selects C y y).before args s = true)
    (hcode : (Cond.codeWith y bytes maxL ret hh).before args s = true) (hy : y.cls ≠ "java/lang/invoke/MethodHandle" ∧ y.cls ≠ "java/lang/invoke/VarHandle")
    {W9 : Nat} {Pre : Pt → Array Value → Prop} {Post : Pt → Array Value → Option Value → Pt → Prop} {PostX : Pt → Array Value → Addr → Pt → Prop} (hK : vx_Back l R p e below s args y 3 W9 Pre Post PostX)
    {b : Addr} {cellB : Cell} (hcell : T.heap[b]? = some cellB) (hobj : cellB.vm.isStatics = false) (hcls : s.vm.findClass C = some cellB.cls)
    {g : JFrame} (hg : g.method = m) (hsize : g.locals.size = c.maxLocals) {argsL rest : List Value} (hlen : ∀ sig, parseMethodDescriptor y.desc = some sig → argsL.length = sig.parameters.length)
    (hstack : g.stack = argsL.reverse ++ .ref b :: rest) (hW : 2 * g.monitorRoom + (rest.map fun v => v.category).sum ≤ W9) (hdg : decode c.code g.pc = .ok (.invokevirtual index, 3))
    (hpre : ∀ vm₁, s.WarmedH vm₁ → Pre ⟨T.setVm vm₁, locs, cells, slots⟩ (Value.ref b :: argsL).toArray) :
    (∃ (v : Option Value) (vm₁ : Vm) (B : Pt), s.WarmedH vm₁ ∧ Stand p l e R s m args below meth c B.U B.locs B.cells B.slots ∧ Post ⟨T.setVm vm₁, locs, cells, slots⟩ (Value.ref b :: argsL).toArray v B ∧
      ∀ target, Steps p.tables e below (B.U.setTop { g with pc := g.pc + 3, stack := v.toList ++ rest }) target → Steps p.tables e below (T.setTop g) target) ∨
    (∃ (q : Addr) (vm₁ : Vm) (B : Pt), s.WarmedH vm₁ ∧ Stand p l e R s m args below meth c B.U B.locs B.cells B.slots ∧ PostX ⟨T.setVm vm₁, locs, cells, slots⟩ (Value.ref b :: argsL).toArray q B ∧
      Steps p.tables e below (T.setTop g) ((B.U.setTop { g with stack := rest }).pushFrame (.throwing q))) := by
  obtain ⟨mk, methM, hnamed, hmethM, hstM, habM⟩ := Cond.instanceMethod_spec hinst
  obtain ⟨m8, methM', cM, hn8, hmethM', -, -, -, -, -, -, hsigM⟩ := Cond.codeWith_spec hcode
  cases Option.some.inj (hn8.symm.trans hnamed)
  cases hmethM.symm.trans hmethM'
  obtain ⟨c2, r2, m2, q1, q2, q3, q4, kP, hkP, hkPi⟩ := Cond.selects_spec hsel
  cases hcls.symm.trans q1
  cases (State.methodFound?_of_named hnamed hy).symm.trans q2
  cases hnamed.symm.trans q3
  have hselP : selectMethod e.platform s.vm cellB.cls mk = .method mk := by rw [Launch.admits_selectMethod X.admits]; exact q4
  obtain ⟨vm₁, X₁, hstep₁⟩ := X.invokevirtual hexec hown hlink hnamed hmethM hstM hkP hkPi hy (a := b) (cell := cellB) hcell
    (fun z h => by rw [h] at hobj; cases hobj) hselP hmethM habM hkP hkPi (g := g) hg (argsL := argsL) (rest := rest) (hlen _ hsigM) hstack hdg
  rcases hK m meth c ⟨T.setVm vm₁, locs, cells, slots⟩ { g with stack := rest } (.invokevirtual index) mk (Value.ref b :: argsL).toArray X₁ hg hsize hdg hW (X₁.named hnamed) (hpre vm₁ X₁.warmed) with ⟨v, B, X', hpost, hsteps⟩ | ⟨q, B, X', hpost, hsteps⟩
  · exact Or.inl ⟨v, vm₁, B, X₁.warmed, X', hpost, fun target h => hstep₁ _ fun acts => by rw [doInvoke_state]; exact hsteps.trans h⟩
  · exact Or.inr ⟨q, vm₁, B, X₁.warmed, X', hpost, hstep₁ _ fun acts => by rw [doInvoke_state]; exact hsteps⟩
theorem vx_callSX (X : Stand p l e R s m args below meth c T locs cells slots) (hexec : p.tables.exec = Jvm.exec) {own : String} {index : Nat} {y : MethodName} {bytes : ByteArray} {maxL : Nat} {ret : Option FieldType} {hh : List (Nat × Nat × Nat × Nat)}
    (hown : s.vm.findClass own = some m.cls) (hlink : (Cond.methodLink own index y).before args s = true) (hstat : (Cond.static y).before args s = true) (hinit : (Cond.initialized y.cls).before args s = true)
    (hcode : (Cond.codeWith y bytes maxL ret hh).before args s = true) (hy : y.cls ≠ "java/lang/invoke/MethodHandle" ∧ y.cls ≠ "java/lang/invoke/VarHandle")
    {W9 : Nat} {Pre : Pt → Array Value → Prop} {Post : Pt → Array Value → Option Value → Pt → Prop} {PostX : Pt → Array Value → Addr → Pt → Prop} (hK : vx_Back l R p e below s args y 3 W9 Pre Post PostX)
    {g : JFrame} (hg : g.method = m) (hsize : g.locals.size = c.maxLocals) {argsL rest : List Value} (hlen : ∀ sig, parseMethodDescriptor y.desc = some sig → argsL.length = sig.parameters.length)
    (hstack : g.stack = argsL.reverse ++ rest) (hW : 2 * g.monitorRoom + (rest.map fun v => v.category).sum ≤ W9) (hdg : decode c.code g.pc = .ok (.invokestatic index, 3))
    (hpre : ∀ vm₁, s.WarmedH vm₁ → Pre ⟨T.setVm vm₁, locs, cells, slots⟩ argsL.toArray) :
    (∃ (v : Option Value) (vm₁ : Vm) (B : Pt), s.WarmedH vm₁ ∧ Stand p l e R s m args below meth c B.U B.locs B.cells B.slots ∧ Post ⟨T.setVm vm₁, locs, cells, slots⟩ argsL.toArray v B ∧
      ∀ target, Steps p.tables e below (B.U.setTop { g with pc := g.pc + 3, stack := v.toList ++ rest }) target → Steps p.tables e below (T.setTop g) target) ∨
    (∃ (q : Addr) (vm₁ : Vm) (B : Pt), s.WarmedH vm₁ ∧ Stand p l e R s m args below meth c B.U B.locs B.cells B.slots ∧ PostX ⟨T.setVm vm₁, locs, cells, slots⟩ argsL.toArray q B ∧
      Steps p.tables e below (T.setTop g) ((B.U.setTop { g with stack := rest }).pushFrame (.throwing q))) := by
  obtain ⟨mk, methM, cM, hnamed, hmethM, -, -, -, -, -, -, hsigM⟩ := Cond.codeWith_spec hcode
  have hstatic : methM.isStatic = true := Cond.static_spec hnamed hmethM hstat
  obtain ⟨kP, hkP, -⟩ := className_of_methodNamed hnamed
  have hinitP : kP.init = .initialized := Cond.initialized_spec (findClass_of_methodNamed hnamed) hkP hinit
  obtain ⟨vm₁, X₁, hstep₁⟩ := X.invokestatic hexec hown hlink hnamed hmethM hstatic hkP hinitP hy (g := g) hg (argsL := argsL) (rest := rest) (hlen _ hsigM) hstack hdg
  rcases hK m meth c ⟨T.setVm vm₁, locs, cells, slots⟩ { g with stack := rest } (.invokestatic index) mk argsL.toArray X₁ hg hsize hdg hW (X₁.named hnamed) (hpre vm₁ X₁.warmed) with ⟨v, B, X', hpost, hsteps⟩ | ⟨q, B, X', hpost, hsteps⟩
  · exact Or.inl ⟨v, vm₁, B, X₁.warmed, X', hpost, fun target h => hstep₁ _ fun acts => by rw [doInvoke_state]; exact hsteps.trans h⟩
  · exact Or.inr ⟨q, vm₁, B, X₁.warmed, X', hpost, hstep₁ _ fun acts => by rw [doInvoke_state]; exact hsteps⟩
theorem vx_callVW (X : Stand p l e R s m args below meth c T locs cells slots) (hexec : p.tables.exec = Jvm.exec) {own C : String} {index : Nat} {y : MethodName} {bytes : ByteArray} {maxL : Nat} {ret : Option FieldType} {hh : List (Nat × Nat × Nat × Nat)}
    (hown : s.vm.findClass own = some m.cls) (hlink : (Cond.methodLink own index y).before args s = true) (hinst : (Cond.instanceMethod y).before args s = true) (hsel : (Cond.selects C y y).before args s = true)
    (hcode : (Cond.codeWith y bytes maxL ret hh).before args s = true) (hy : y.cls ≠ "java/lang/invoke/MethodHandle" ∧ y.cls ≠ "java/lang/invoke/VarHandle")
    {W9 : Nat} {Pre : Pt → Array Value → Prop} {Post : Pt → Array Value → Option Value → Pt → Prop} (hK : Back l R p e below s args y 3 W9 Pre Post)
    {b : Addr} {cellB : Cell} (hcell : T.heap[b]? = some cellB) (hobj : cellB.vm.isStatics = false) (hcls : s.vm.findClass C = some cellB.cls)
    {g : JFrame} (hg : g.method = m) (hsize : g.locals.size = c.maxLocals) {argsL rest : List Value} (hlen : ∀ sig, parseMethodDescriptor y.desc = some sig → argsL.length = sig.parameters.length)
    (hstack : g.stack = argsL.reverse ++ .ref b :: rest) (hW : 2 * g.monitorRoom + (rest.map fun v => v.category).sum ≤ W9) (hdg : decode c.code g.pc = .ok (.invokevirtual index, 3))
    (hpre : ∀ vm₁, s.WarmedH vm₁ → Pre ⟨T.setVm vm₁, locs, cells, slots⟩ (Value.ref b :: argsL).toArray) :
    ∃ (v : Option Value) (vm₁ : Vm) (B : Pt), s.WarmedH vm₁ ∧ Stand p l e R s m args below meth c B.U B.locs B.cells B.slots ∧ Post ⟨T.setVm vm₁, locs, cells, slots⟩ (Value.ref b :: argsL).toArray v B ∧
      ∀ target, Steps p.tables e below (B.U.setTop { g with pc := g.pc + 3, stack := v.toList ++ rest }) target → Steps p.tables e below (T.setTop g) target := by
  obtain ⟨mk, methM, hnamed, hmethM, hstM, habM⟩ := Cond.instanceMethod_spec hinst
  obtain ⟨m8, methM', cM, hn8, hmethM', -, -, -, -, -, -, hsigM⟩ := Cond.codeWith_spec hcode
  cases Option.some.inj (hn8.symm.trans hnamed)
  cases hmethM.symm.trans hmethM'
  obtain ⟨c2, r2, m2, q1, q2, q3, q4, kP, hkP, hkPi⟩ := Cond.selects_spec hsel
  cases hcls.symm.trans q1
  cases (State.methodFound?_of_named hnamed hy).symm.trans q2
  cases hnamed.symm.trans q3
  have hselP : selectMethod e.platform s.vm cellB.cls mk = .method mk := by rw [Launch.admits_selectMethod X.admits]; exact q4
  obtain ⟨vm₁, X₁, hstep₁⟩ := X.invokevirtual hexec hown hlink hnamed hmethM hstM hkP hkPi hy (a := b) (cell := cellB) hcell
    (fun z h => by rw [h] at hobj; cases hobj) hselP hmethM habM hkP hkPi (g := g) hg (argsL := argsL) (rest := rest) (hlen _ hsigM) hstack hdg
  obtain ⟨v, B, X', hpost, hsteps⟩ := hK m meth c ⟨T.setVm vm₁, locs, cells, slots⟩ { g with stack := rest } (.invokevirtual index) mk (Value.ref b :: argsL).toArray X₁ hg hsize hdg hW (X₁.named hnamed) (hpre vm₁ X₁.warmed)
  exact ⟨v, vm₁, B, X₁.warmed, X', hpost, fun target h => hstep₁ _ fun acts => by rw [doInvoke_state]; exact hsteps.trans h⟩
abbrev vx_CVW (R : Room) (s : State) (args : Array Value) (own C : String) (index : Nat) (y : MethodName) (bytes : ByteArray) (maxL : Nat) (ret : Option FieldType) (hh : List (Nat × Nat × Nat × Nat)) (ws : List Cond) (rm : Room) (mc ms n : Nat) : Prop :=
  (rm.cells = mc ∧ rm.slots = ms ∧ rm.frames + 1 ≤ R.frames ∧ 8 + (maxL + 11) + rm.locals ≤ R.locals ∧ (∀ w ∈ ws, ∀ (a' : Array Value) (U : State), s.WarmedH U.vm → w.before a' U = true) ∧ Cond.codeWith y bytes maxL ret hh ∈ ws) ∧
  (Cond.codeWith y bytes maxL ret hh).before args s = true ∧ (Cond.initialized y.cls).before args s = true ∧ (y.cls ≠ "java/lang/invoke/MethodHandle" ∧ y.cls ≠ "java/lang/invoke/VarHandle") ∧
  (∀ sig, parseMethodDescriptor y.desc = some sig → n = sig.parameters.length) ∧ (Cond.methodLink own index y).before args s = true ∧ (Cond.instanceMethod y).before args s = true ∧ (Cond.selects C y y).before args s = true
theorem vx_cwVW {own C : String} {index maxL mc ms : Nat} {y : MethodName} {bytes : ByteArray} {ret : Option FieldType} {hh : List (Nat × Nat × Nat × Nat)} {Ts ws ws' : List Cond} {rm : Room} (n : Nat) (ht : ∀ w ∈ Ts, w.before args s = true) (hT : GoodIn Ts (wsV own index C y ws)) (hw : ws = Cond.codeWith y bytes maxL ret hh :: ws') (hrc : rm.cells = mc) (hrs : rm.slots = ms)
    (hd : y.cls = C ∧ y.cls ≠ "java/lang/invoke/MethodHandle" ∧ y.cls ≠ "java/lang/invoke/VarHandle" ∧ (parseMethodDescriptor y.desc).map (fun d => d.parameters.length) = some n) (hR : rm.frames + 1 ≤ R.frames ∧ 8 + (maxL + 11) + rm.locals ≤ R.locals) :
    vx_CVW R s args own C index y bytes maxL ret hh ws rm mc ms n := by
  obtain ⟨hC, hd⟩ := hd
  subst hC
  have ok : ∀ w ∈ wsV own index y.cls y ws, w.before args s = true := fun w h => ht w (hT w h).1
  have hG : GoodIn Ts ws := fun w h => hT w (by unfold wsV; exact List.mem_append_right _ h)
  have hc : Cond.codeWith y bytes maxL ret hh ∈ ws := by rw [hw]; exact List.mem_cons_self
  refine ⟨⟨hrc, hrs, hR.1, hR.2, pay_in ht hG, hc⟩, ht _ (hG _ hc).1, ok _ (by simp [wsV]), ⟨hd.1, hd.2.1⟩, fun sig h => ?_, ok _ (by simp [wsV]), ok _ (by simp [wsV]), ok _ (by simp [wsV])⟩
  have h2 := hd.2.2
  rw [h] at h2
  exact (Option.some.inj h2).symm
theorem vx_runVW {y : MethodName} {bytes cc : ByteArray} {maxL nL mc ms n index : Nat} {ret : Option FieldType} {hh : List (Nat × Nat × Nat × Nat)} {ws : List Cond} {rm : Room} {Pc : Array Value → State → Prop} {Qc : Array Value → State → Outcome → State → Prop} {free : Addr → Prop} {Ts : List Cond} {own C : String} {b : Addr} {As rest : List Value} {g : JFrame}
    (S : CallFix p m c cc nL s args Ts own) (hM : Met l y ws rm Pc Qc mc ms free) (cw : vx_CVW R s args own C index y bytes maxL ret hh ws rm mc ms n) (hp : PreV s H C b Pc As)
    (hg : g.method = m) (hn : As.length = n) (hsize : g.locals.size = nL) (hstack : g.stack = As.reverse ++ .ref b :: rest) (hW : 2 * g.monitorRoom + (rest.map fun v => v.category).sum ≤ 8) (hdg : decode cc g.pc = .ok (.invokevirtual index, 3)) (hf : cells + mc ≤ R.cells ∧ slots + ms ≤ R.slots) :
    va_Run p l e R s m args below meth c H locs cells slots mc ms g rest (Qc (Value.ref b :: As).toArray) free := by
  obtain ⟨⟨hrc, hrs, hfr, hlo, hws, hcw⟩, hcode, hini, hy, hlen, hl, hin, hse⟩ := cw
  have hK : Back l R p e below s args y 3 8 (PreOf R mc ms Pc) (PostOf Qc mc ms free) := va_backW (hh := hh) (bytes := bytes) (maxL := maxL) (ret := ret) hM hp.1 hrc hrs hfr hlo hws hcw (fun a' U hW => word_at hW (Or.inl (by first | rfl | simp [Cond.onTables, Cond.keeps, Cond.steady])) hini)
  obtain ⟨hx, hb, hml, ho, -⟩ := S
  obtain ⟨-, ⟨cellB, hcB, hoB, hclB⟩, hPc⟩ := hp
  intro T hT X
  obtain ⟨v, vm₁, ⟨U', l2, c2, s2⟩, hW₁, X', ⟨g', mk, t, L, e1, e2, hq, h1, hL, h2, h3⟩, st⟩ := vx_callVW X hx (C := C) (hh := hh) (bytes := bytes) (maxL := maxL) (ret := ret) ho hl hin hse hcode hy hK (by rw [hT]; exact hcB) hoB hclB hg (hsize.trans hml.symm) (argsL := As) (rest := rest) (fun sig h => hn.trans (hlen sig h)) hstack hW (by rw [hb]; exact hdg)
    (fun vm₁ hW₁ => ⟨hf.1, hf.2, hPc (T.setVm vm₁) hT hW₁⟩)
  dsimp only [Pt.U, Pt.locs, Pt.cells, Pt.slots] at X' e1 e2 h1 h2 h3 st
  subst h1; subst h2; subst h3
  exact ⟨v, (T.setVm vm₁).calling g' mk (Value.ref b :: As).toArray, t, U', L, hT, X', hL, e1, e2, hq, st⟩
section
variable {y : MethodName} {bytes cc : ByteArray} {maxL nL mc ms n index : Nat} {ret : Option FieldType} {ws : List Cond} {rm : Room} {Pc : Array Value → State → Prop} {Qc : Array Value → State → Outcome → State → Prop} {XC : String → State → State → Prop} {free : Addr → Prop} {Ts : List Cond} {own C : String} {b : Addr} {As rest : List Value} {g : JFrame}
theorem vx_runVX {hh : List (Nat × Nat × Nat × Nat)} (S : CallFix p m c cc nL s args Ts own) (hM : vx_Met l y ws rm Pc Qc XC mc ms free) (cw : vx_CVW R s args own C index y bytes maxL ret hh ws rm mc ms n) (hp : PreV s H C b Pc As)
    (hg : g.method = m) (hn : As.length = n) (hsize : g.locals.size = nL) (hstack : g.stack = As.reverse ++ .ref b :: rest) (hW : 2 * g.monitorRoom + (rest.map fun v => v.category).sum ≤ 8) (hdg : decode cc g.pc = .ok (.invokevirtual index, 3)) (hf : cells + mc ≤ R.cells ∧ slots + ms ≤ R.slots) :
    vx_Run p l e R s m args below meth c H locs cells slots mc ms g rest (Qc (Value.ref b :: As).toArray) XC free := by
  obtain ⟨⟨hrc, hrs, hfr, hlo, hws, hcw⟩, hcode, hini, hy, hlen, hl, hin, hse⟩ := cw
  have hK : vx_Back l R p e below s args y 3 8 (PreOf R mc ms Pc) (PostOf Qc mc ms free) (vx_Post XC mc ms free) := vx_backW (hh := hh) (bytes := bytes) (maxL := maxL) (ret := ret) hM hp.1 hrc hrs hfr hlo hws hcw (fun a' U hW => word_at hW (Or.inl (by first | rfl | simp [Cond.onTables, Cond.keeps, Cond.steady])) hini)
  obtain ⟨hx, hb, hml, ho, -⟩ := S
  obtain ⟨-, ⟨cellB, hcB, hoB, hclB⟩, hPc⟩ := hp
  intro T hT X
  rcases vx_callVX X hx (C := C) (hh := hh) (bytes := bytes) (maxL := maxL) (ret := ret) ho hl hin hse hcode hy hK (by rw [hT]; exact hcB) hoB hclB hg (hsize.trans hml.symm) (argsL := As) (rest := rest) (fun sig h => hn.trans (hlen sig h)) hstack hW (by rw [hb]; exact hdg)
    (fun vm₁ hW₁ => ⟨hf.1, hf.2, hPc (T.setVm vm₁) hT hW₁⟩) with ⟨v, vm₁, ⟨U', l2, c2, s2⟩, hW₁, X', ⟨g', mk, t, L, e1, e2, hq, h1, hL, h2, h3⟩, st⟩ | ⟨q, vm₁, ⟨U', l2, c2, s2⟩, hW₁, X', ⟨g', mk, t, L, E, ce, e1, e2, hq, hce, hcv, hcl, h1, hL, h2, h3⟩, st⟩
  · dsimp only [Pt.U, Pt.locs, Pt.cells, Pt.slots] at X' e1 e2 h1 h2 h3 st
    subst h1; subst h2; subst h3
    exact Or.inl ⟨v, (T.setVm vm₁).calling g' mk (Value.ref b :: As).toArray, t, U', L, hT, X', hL, e1, e2, hq, st⟩
  · dsimp only [Pt.U, Pt.locs, Pt.cells, Pt.slots] at X' e1 e2 h1 h2 h3 st hcl
    subst h1; subst h2; subst h3
    exact Or.inr ⟨q, (T.setVm vm₁).calling g' mk (Value.ref b :: As).toArray, t, U', L, E, ce, hT, X', hL, e1, e2, hq, hce, hcv, vx_cls hW₁ hcl, st⟩
theorem vx_runSX {hh : List (Nat × Nat × Nat × Nat)} (S : CallFix p m c cc nL s args Ts own) (hM : vx_Met l y ws rm Pc Qc XC mc ms free) (cw : vx_CSW R s args own index y bytes maxL ret hh ws rm mc ms n) (hp : PreS s H Pc As)
    (hg : g.method = m) (hn : As.length = n) (hsize : g.locals.size = nL) (hstack : g.stack = As.reverse ++ rest) (hW : 2 * g.monitorRoom + (rest.map fun v => v.category).sum ≤ 8) (hdg : decode cc g.pc = .ok (.invokestatic index, 3)) (hf : cells + mc ≤ R.cells ∧ slots + ms ≤ R.slots) :
    vx_Run p l e R s m args below meth c H locs cells slots mc ms g rest (Qc As.toArray) XC free := by
  obtain ⟨⟨hrc, hrs, hfr, hlo, hws, hcw⟩, hcode, hini, hy, hlen, hl, hstt⟩ := cw
  have hK : vx_Back l R p e below s args y 3 8 (PreOf R mc ms Pc) (PostOf Qc mc ms free) (vx_Post XC mc ms free) := vx_backW (hh := hh) (bytes := bytes) (maxL := maxL) (ret := ret) hM hp.1 hrc hrs hfr hlo hws hcw (fun a' U hW => word_at hW (Or.inl (by first | rfl | simp [Cond.onTables, Cond.keeps, Cond.steady])) hini)
  obtain ⟨hx, hb, hml, ho, -⟩ := S
  intro T hT X
  rcases vx_callSX X hx (hh := hh) (bytes := bytes) (maxL := maxL) (ret := ret) ho hl hstt hini hcode hy hK hg (hsize.trans hml.symm) (argsL := As) (rest := rest) (fun sig h => hn.trans (hlen sig h)) hstack hW (by rw [hb]; exact hdg)
    (fun vm₁ hW₁ => ⟨hf.1, hf.2, hp.2 (T.setVm vm₁) hT hW₁⟩) with ⟨v, vm₁, ⟨U', l2, c2, s2⟩, hW₁, X', ⟨g', mk, t, L, e1, e2, hq, h1, hL, h2, h3⟩, st⟩ | ⟨q, vm₁, ⟨U', l2, c2, s2⟩, hW₁, X', ⟨g', mk, t, L, E, ce, e1, e2, hq, hce, hcv, hcl, h1, hL, h2, h3⟩, st⟩
  · dsimp only [Pt.U, Pt.locs, Pt.cells, Pt.slots] at X' e1 e2 h1 h2 h3 st
    subst h1; subst h2; subst h3
    exact Or.inl ⟨v, (T.setVm vm₁).calling g' mk As.toArray, t, U', L, hT, X', hL, e1, e2, hq, st⟩
  · dsimp only [Pt.U, Pt.locs, Pt.cells, Pt.slots] at X' e1 e2 h1 h2 h3 st hcl
    subst h1; subst h2; subst h3
    exact Or.inr ⟨q, (T.setVm vm₁).calling g' mk As.toArray, t, U', L, E, ce, hT, X', hL, e1, e2, hq, hce, hcv, vx_cls hW₁ hcl, st⟩
end
end VXH
theorem vx_ofWH {l : Launch} {y : MethodName} {ws ws' : List Cond} {rm : Room} {Pc : Array Value → State → Prop} {Qc : Array Value → State → Outcome → State → Prop} {XC : String → State → State → Prop} {mc ms : Nat} {free : Addr → Prop} {cc : ByteArray} {maxL : Nat} {ret : Option FieldType} {hh : List (Nat × Nat × Nat × Nat)}
    (hy : plainName y.cls = true) (hw : ws = Cond.codeWith y cc maxL ret hh :: ws')
    (body : ∀ p e s m args below meth c s₁, BodyLoose p l y (headSpec ws rm) cc maxL ret e s m args below meth c s₁ → c.maxLocals = maxL → Pc args s →
      W p l e (headSpec ws rm).room s m args below meth c s.heap [] 0 0 (vx_MQ below Qc XC args s mc ms free) (entryFrame m args maxL)) : vx_Met l y ws rm Pc Qc XC mc ms free := by
  refine MetFree.of_bodyS (code := cc) (maxLocals := maxL) (ret := ret) hy ?_ ?_
  · intro args s m h hn
    obtain ⟨m9, meth, c, hn9, h1, h2, h3, h4, -, h5, h6, -⟩ := Cond.codeWith_spec (atoms_spec (ws := ws) h _ (by rw [hw]; exact List.mem_cons_self))
    cases hn.symm.trans hn9
    exact ⟨meth, c, h1, h2, h3, h4, h5, h6⟩
  · intro p e s m args below meth c s₁ B hml hP _
    have hh0 : s₁.heap = s.heap := by rw [B.state]; rfl
    obtain ⟨t, a1, o, b1, b2, b3⟩ := body p e s m args below meth c s₁ B hml hP s₁ hh0 (Stand.of_body B)
    exact ⟨t, o, a1, b1, b2, b3⟩
/-! ===== END ===== -/
end
section
/-! a method of the system that throws: its start, its end -/
abbrev E_A : String := "java/lang/IllegalArgumentException"
abbrev E_S : String := "java/lang/IllegalStateException"
abbrev E_X : String := "java/lang/IndexOutOfBoundsException"
abbrev E_n : List String := ["java/lang/RuntimeException", "java/lang/Exception"]
def xStrs : List (Nat × String) := [(62, "a desk has 1 .. 12 acts"), (67, "the act that fails is one of the desk's, or NONE"), (71, "closed, or 8 desks already"), (103, "no such desk"), (105, "closed, or 300 turns were told already"), (107, "closed"), (111, "no such subject"), (148, "a time is not ahead of the latest one, and 100000 at most"), (170, "no such what")]
def xZ (U : State) (H : Heap) : Prop := vx_Zq Bundle.tN "UNASSIGNED_STACK" Bundle.steD (fun _ => False) U H ∧ vx_Zq Bundle.tN "SUPPRESSED_SENTINEL" Bundle.listD (fun _ => False) U H
def xBs : List Cond := [.castable E_A E_A, .castable E_S E_S, .castable E_X E_X, .declares ⟨"java/lang/RuntimeException", "<init>", "(Ljava/lang/String;)V"⟩, .declares ⟨"java/lang/Exception", "<init>", "(Ljava/lang/String;)V"⟩, .declares ⟨"java/lang/Throwable", "<init>", "(Ljava/lang/String;)V"⟩]
/-- what the tables say beside the words that every method gets: texts, what can be cast, what is told -/
def xSt (U : State) : Prop := (∀ q ∈ xStrs, ∃ sa, vk_R R_K q.1 q.2 sa U) ∧ (∀ w ∈ xBs, va_Nw w U) ∧ va_Nc E_S E_A U
theorem xBs_on : ∀ w ∈ xBs, w.onTables = true := by decide +kernel
theorem xBs_warm {s U : State} (h : s.WarmedH U.vm) : ∀ w ∈ xBs, va_Nw w s → va_Nw w U := by
  intro w hw
  simp only [xBs, List.mem_cons, List.not_mem_nil, or_false] at hw
  rcases hw with rfl | rfl | rfl | rfl | rfl | rfl
  · exact va_Nw.warmC h
  · exact va_Nw.warmC h
  · exact va_Nw.warmC h
  · exact va_Nw.warmD h
  · exact va_Nw.warmD h
  · exact va_Nw.warmD h
theorem xZ.moved {u U : State} {H : Heap} (h : u.vm.Alike U.vm) (z : xZ u H) : xZ U H := ⟨z.1.moved h, z.2.moved h⟩
theorem xZ.kept {U : State} {H H1 : Heap} (z : xZ U H) (h : ∀ q : Nat, q < H.size → H1[q]? = H[q]?) : xZ U H1 := ⟨z.1.kept (fun a h1 _ => h a h1), z.2.kept (fun a h1 _ => h a h1)⟩
theorem xSt.warm {s U : State} (h : s.WarmedH U.vm) (z : xSt s) : xSt U := ⟨fun q hq => by
  obtain ⟨sa, h1⟩ := z.1 q hq
  exact ⟨sa, vk_R.warm h h1⟩, fun w hw => xBs_warm h w hw (z.2.1 w hw), z.2.2.moved h.alike⟩
theorem xSt.same {s U : State} (h : U.vm = s.vm) (z : xSt s) : xSt U := ⟨fun q hq => by
  obtain ⟨sa, h1⟩ := z.1 q hq
  exact ⟨sa, vk_R.same h h1⟩, fun w hw => va_Nw.same (xBs_on w hw) h.symm (z.2.1 w hw), z.2.2.moved (by rw [h]; exact Vm.Alike.refl _)⟩
def xPc (D : va_G) (tys : List (ClassId × FieldType)) (w : va_W) (av : List Value) : Array Value → State → Prop := va_Pc av (fun U => va_P D kcl w U.heap ∧ va_K D kcl tys U ∧ va_D (fun _ => True) w ∧ xZ U U.heap ∧ xSt U)
def xQ : Array Value → State → Outcome → State → Prop := va_Qv (S := Unit) (fun _ => False) (fun _ _ => True) (fun _ => False)
def xX (E : String) : String → State → State → Prop := vx_X (S := Unit) (fun _ => True) (fun E' _ _ => E' = E) (fun _ => False)
theorem x_bl {D : va_G} {tys : List (ClassId × FieldType)} {w : va_W} {av : List Value} : FrameBlind (xPc D tys w av) := fun a U g mk q => by
  obtain ⟨q0, qP, qK, qD, qZ, qS⟩ := q
  exact ⟨q0, qP, va_K.moved (u := U) (U := U.calling g mk a) (Vm.Alike.refl U.vm) qK, qD, xZ.moved (u := U) (U := U.calling g mk a) (Vm.Alike.refl U.vm) qZ, xSt.same (s := U) rfl qS⟩
theorem x_preV {s : State} {H : Heap} {D : va_G} {tys : List (ClassId × FieldType)} {w : va_W} {B : Nat → Prop} (hK : va_K D kcl tys s) (hP : va_P D kcl w H) (hD : va_D B w) (hZ : xZ s H) (hSt : xSt s) {b : Nat} {As : List Value} {q : vw_C} {ci q0 : Nat} {fs : List Value} (hc : kcl[ci]? = some q) (he : w[q0]? = some (b, .inr (ci, fs))) : PreV s H q.1 b (xPc D tys w (.ref b :: As)) As :=
  ⟨x_bl, va_recv hK hP hc he, fun U hU hW => ⟨rfl, by rw [hU]; exact hP, va_K.moved hW.alike hK, hD.weaken (fun _ _ _ _ => trivial), by rw [hU]; exact hZ.moved hW.alike, hSt.warm hW⟩⟩
theorem xl_A : Cond.classLink R_K 60 E_A ∈ kT := mk_T 158 rfl rfl
theorem xi_A : Cond.initialized E_A ∈ kT := mk_T 7 rfl rfl
theorem xf_A : Bundle.fit E_A = true := by decide +kernel
set_option maxRecDepth 100000 in
theorem xw_A : ∀ w ∈ vx_atS R_K 64 E_A E_n, w ∈ kT ∨ w ∈ xBs := by decide +kernel
theorem xl_S : Cond.classLink R_K 69 E_S ∈ kT := mk_T 227 rfl rfl
theorem xi_S : Cond.initialized E_S ∈ kT := mk_T 8 rfl rfl
theorem xf_S : Bundle.fit E_S = true := by decide +kernel
set_option maxRecDepth 100000 in
theorem xw_S : ∀ w ∈ vx_atS R_K 73 E_S E_n, w ∈ kT ∨ w ∈ xBs := by decide +kernel
theorem xl_X : Cond.classLink R_K 164 E_X ∈ kT := mk_T 372 rfl rfl
theorem xi_X : Cond.initialized E_X ∈ kT := mk_T 11 rfl rfl
theorem xf_X : Bundle.fit E_X = true := by decide +kernel
set_option maxRecDepth 100000 in
theorem xw_X : ∀ w ∈ vx_atS R_K 166 E_X E_n, w ∈ kT ∨ w ∈ xBs := by decide +kernel
section XTH
variable {p : Program} {l : Launch} {e : Env} {R : Room} {s : State} {m : MethodId} {args : Array Value} {below : List Frame} {meth : Method} {c : Code}
theorem x_thr {cc : ByteArray} {pc : Nat} {ls : Array Slot} {rest : List Value} (hx : p.tables.exec = Jvm.exec) (hb : c.code = cc) (hl : l.stackTraces = false) {cls text : String} {ik is ic : Nat}
    (hown : s.vm.findClass R_K = some m.cls) (hts : ∀ w ∈ kT, w.before args s = true) (hfit : Bundle.fit cls = true) (hk : Cond.classLink R_K ik cls ∈ kT) (hini : Cond.initialized cls ∈ kT) (hat : ∀ w ∈ vx_atS R_K ic cls E_n, w ∈ kT ∨ w ∈ xBs)
    (hSt : xSt s) (hstr : (is, text) ∈ xStrs) (hZ : xZ s s.heap) (hsz : ls.size = c.maxLocals) (htab : ∀ x ∈ c.exceptionTable.toList, False) (hlocks : meth.locks = false)
    (hRf : 5 < R.frames) (hRl : (rest.map fun v => v.category).sum + 82 ≤ R.locals) (hRc : 1 ≤ R.cells) (hRs : 6 ≤ R.slots)
    (d0 : decode cc pc = .ok (.new ik, 3)) (d3 : decode cc (pc + 3) = .ok (.dup, 1)) (d4 : decode cc (pc + 4) = .ok (.ldc is, 2)) (d6 : decode cc (pc + 6) = .ok (.invokespecial ic, 3)) (d9 : decode cc (pc + 9) = .ok (.athrow, 1)) :
    W p l e R s m args below meth c s.heap [] 0 0 (vx_MQ below xQ (xX cls) args s 1 6 (fun _ => False)) (F0 m pc ls rest) := by
  obtain ⟨sa, hstr⟩ := hSt.1 _ hstr
  have hg : ∀ w ∈ kT, vx_ot w = true := fun w h => by
    unfold vx_ot
    rw [(List.mem_filter.mp h).2, Bool.or_true]
  exact vx_throwS (A := fun _ => False) (names := E_n) hx hb hl hown hfit (by decide +kernel) (hts _ hk) (hts _ hini) hstr (fun w h => (hat w h).elim (hts w) (fun q => va_Nw.use (xBs_on w q) (hSt.2.1 w q)))
    (fun w h => by
      rcases List.mem_cons.mp h with rfl | h
      · exact hg _ hk
      · rcases List.mem_cons.mp h with rfl | h
        · exact hg _ hini
        · rcases hat w h with q | q
          · exact hg w q
          · unfold vx_ot
            rw [xBs_on w q, Bool.true_or])
    hZ.1 hZ.2 va_S.rf hsz d0 d3 d4 d6 d9 (fun x h => (htab x h).elim) hRf hRl (by omega) (by omega) hlocks
    (fun t _ h1 h2 => ⟨(), trivial, rfl, h1, fun q hq _ => h2 q hq⟩) (fun z h => by cases h) (Nat.le_refl _) (Nat.le_refl _)
end XTH
end
section
set_option maxHeartbeats 4000000 in
set_option maxRecDepth 100000 in
theorem tt_K_deskA (l : Launch) (hlT : l.stackTraces = false) (D : va_G) (cI cQ : ClassId) (α ad an : Nat → Nat) (n : Nat) (σ : kS) (hI : k_ok n σ.1) (x y : Int32) (hT : ¬ (¬ x < 1 ∧ x ≤ 12 ∧ ¬ y < -1 ∧ y < x)) : vx_Met l y_K_desk w_K_desk { frames := 6, cells := 1, slots := 6, locals := 90 } (xPc D (kty cI cQ) (kw_w cI cQ α ad an n σ) [.ref (α 0), .int x, .int y]) xQ (xX E_A) 1 6 (fun _ => False) := by
  refine vx_ofW (cc := b_K_desk) (maxL := 4) (ret := some .int) (by decide) rfl ?_
  intro p e s m args below meth c s₁ B hml htab hv
  obtain ⟨rfl, hP, hK, hD, hZ, hSt⟩ := hv
  have hx := B.exec
  have hb := B.bytes
  have hts : ∀ w ∈ kT, w.before [.ref (α 0), .int x, .int y].toArray s = true := fun w h => atoms_spec (ws := w_K_desk) B.pre w (List.mem_cons_of_mem _ h)
  have hown : s.vm.findClass R_K = some m.cls := findClass_of_methodNamed B.named
  have hlocks := B.notSynchronized
  have hl := lv_entry ([.ref (α 0), .int x, .int y]) (n := 4) (Nat.le_of_ble_eq_true rfl)
  rw [lg_entry_eq]
  generalize (lg_sl ([.ref (α 0), .int x, .int y]) ++ List.replicate (4 - (lg_sl ([.ref (α 0), .int x, .int y])).length) Slot.unset).toArray = ls at hl ⊢
  have hl : lv_has ls 4 [(0, .ref (α 0)), (1, .int x), (2, .int y)] := hl
  refine lv_iload_n hx hb d_K_desk_0 rfl (lv_at hl 1 rfl) ?_
  refine lv_iconst (v := 1) hx hb d_K_desk_1 (by decide) ?_
  refine lv_icmp_lt (tgt := 11) hx hb d_K_desk_2 (by decide) (fun c_2 => ?_) (fun c_2 => ?_)
  · -- to 11
    exact x_thr hx hb hlT hown hts xf_A xl_A xi_A xw_A hSt (List.mem_of_getElem? (i := 0) rfl) hZ (hl.1.trans hml.symm) htab hlocks (Nat.le_of_ble_eq_true rfl) (Nat.le_of_ble_eq_true rfl) (Nat.le_of_ble_eq_true rfl) (Nat.le_of_ble_eq_true rfl) d_K_desk_11 d_K_desk_14 d_K_desk_15 d_K_desk_17 d_K_desk_20
  · -- on 5
    refine lv_iload_n hx hb d_K_desk_5 rfl (lv_at hl 1 rfl) ?_
    refine lv_bipush (v := 12) hx hb d_K_desk_6 (by decide) ?_
    refine lv_icmp_le (tgt := 21) hx hb d_K_desk_8 (by decide) (fun c_8 => ?_) (fun c_8 => ?_)
    · -- to 21
      refine lv_iload_n hx hb d_K_desk_21 rfl (lv_at hl 2 rfl) ?_
      refine lv_iconst (v := (-1)) hx hb d_K_desk_22 (by decide) ?_
      refine lv_icmp_lt (tgt := 31) hx hb d_K_desk_23 (by decide) (fun c_23 => ?_) (fun c_23 => ?_)
      · -- to 31
        exact x_thr hx hb hlT hown hts xf_A xl_A xi_A xw_A hSt (List.mem_of_getElem? (i := 1) rfl) hZ (hl.1.trans hml.symm) htab hlocks (Nat.le_of_ble_eq_true rfl) (Nat.le_of_ble_eq_true rfl) (Nat.le_of_ble_eq_true rfl) (Nat.le_of_ble_eq_true rfl) d_K_desk_31 d_K_desk_34 d_K_desk_35 d_K_desk_37 d_K_desk_40
      · -- on 26
        refine lv_iload_n hx hb d_K_desk_26 rfl (lv_at hl 2 rfl) ?_
        refine lv_iload_n hx hb d_K_desk_27 rfl (lv_at hl 1 rfl) ?_
        refine lv_icmp_lt (tgt := 41) hx hb d_K_desk_28 (by decide) (fun c_28 => ?_) (fun c_28 => ?_)
        · -- to 41
          refine lv_aload_n hx hb d_K_desk_41 rfl (lv_at hl 0 rfl) ?_
          refine kw_get hx hb hts hown hK hP 12 (by decide) fl_K_50 (v := .int (σ.1 12)) rfl d_K_desk_42 ?_
          refine lv_if_ne (tgt := 57) hx hb d_K_desk_45 (by decide) (fun c_45 => ?_) (fun c_45 => ?_)
          · -- to 57
            exact absurd ⟨c_2, c_8, c_23, c_28⟩ hT
          · -- on 48
            refine lv_aload_n hx hb d_K_desk_48 rfl (lv_at hl 0 rfl) ?_
            refine kw_get hx hb hts hown hK hP 1 (by decide) fl_K_15 (v := .int (σ.1 1)) rfl d_K_desk_49 ?_
            refine lv_bipush (v := 8) hx hb d_K_desk_52 (by decide) ?_
            refine lv_icmp_lt (tgt := 67) hx hb d_K_desk_54 (by decide) (fun c_54 => ?_) (fun c_54 => ?_)
            · -- to 67
              exact absurd ⟨c_2, c_8, c_23, c_28⟩ hT
            · -- on 57
              exact absurd ⟨c_2, c_8, c_23, c_28⟩ hT
        · -- on 31
          exact x_thr hx hb hlT hown hts xf_A xl_A xi_A xw_A hSt (List.mem_of_getElem? (i := 1) rfl) hZ (hl.1.trans hml.symm) htab hlocks (Nat.le_of_ble_eq_true rfl) (Nat.le_of_ble_eq_true rfl) (Nat.le_of_ble_eq_true rfl) (Nat.le_of_ble_eq_true rfl) d_K_desk_31 d_K_desk_34 d_K_desk_35 d_K_desk_37 d_K_desk_40
    · -- on 11
      exact x_thr hx hb hlT hown hts xf_A xl_A xi_A xw_A hSt (List.mem_of_getElem? (i := 0) rfl) hZ (hl.1.trans hml.symm) htab hlocks (Nat.le_of_ble_eq_true rfl) (Nat.le_of_ble_eq_true rfl) (Nat.le_of_ble_eq_true rfl) (Nat.le_of_ble_eq_true rfl) d_K_desk_11 d_K_desk_14 d_K_desk_15 d_K_desk_17 d_K_desk_20

set_option maxHeartbeats 4000000 in
set_option maxRecDepth 100000 in
theorem tt_K_deskS (l : Launch) (hlT : l.stackTraces = false) (D : va_G) (cI cQ : ClassId) (α ad an : Nat → Nat) (n : Nat) (σ : kS) (hI : k_ok n σ.1) (x y : Int32) (h1 : ¬ x < 1) (h2 : x ≤ 12) (h3 : ¬ y < -1) (h4 : y < x) (hT : ¬ σ.1 12 = 0 ∨ ¬ σ.1 1 < 8) : vx_Met l y_K_desk w_K_desk { frames := 6, cells := 1, slots := 6, locals := 90 } (xPc D (kty cI cQ) (kw_w cI cQ α ad an n σ) [.ref (α 0), .int x, .int y]) xQ (xX E_S) 1 6 (fun _ => False) := by
  refine vx_ofW (cc := b_K_desk) (maxL := 4) (ret := some .int) (by decide) rfl ?_
  intro p e s m args below meth c s₁ B hml htab hv
  obtain ⟨rfl, hP, hK, hD, hZ, hSt⟩ := hv
  have hx := B.exec
  have hb := B.bytes
  have hts : ∀ w ∈ kT, w.before [.ref (α 0), .int x, .int y].toArray s = true := fun w h => atoms_spec (ws := w_K_desk) B.pre w (List.mem_cons_of_mem _ h)
  have hown : s.vm.findClass R_K = some m.cls := findClass_of_methodNamed B.named
  have hlocks := B.notSynchronized
  have hl := lv_entry ([.ref (α 0), .int x, .int y]) (n := 4) (Nat.le_of_ble_eq_true rfl)
  rw [lg_entry_eq]
  generalize (lg_sl ([.ref (α 0), .int x, .int y]) ++ List.replicate (4 - (lg_sl ([.ref (α 0), .int x, .int y])).length) Slot.unset).toArray = ls at hl ⊢
  have hl : lv_has ls 4 [(0, .ref (α 0)), (1, .int x), (2, .int y)] := hl
  refine lv_iload_n hx hb d_K_desk_0 rfl (lv_at hl 1 rfl) ?_
  refine lv_iconst (v := 1) hx hb d_K_desk_1 (by decide) ?_
  refine lv_icmp_lt (tgt := 11) hx hb d_K_desk_2 (by decide) (fun c_2 => ?_) (fun c_2 => ?_)
  · -- to 11
    exact absurd c_2 h1
  · -- on 5
    refine lv_iload_n hx hb d_K_desk_5 rfl (lv_at hl 1 rfl) ?_
    refine lv_bipush (v := 12) hx hb d_K_desk_6 (by decide) ?_
    refine lv_icmp_le (tgt := 21) hx hb d_K_desk_8 (by decide) (fun c_8 => ?_) (fun c_8 => ?_)
    · -- to 21
      refine lv_iload_n hx hb d_K_desk_21 rfl (lv_at hl 2 rfl) ?_
      refine lv_iconst (v := (-1)) hx hb d_K_desk_22 (by decide) ?_
      refine lv_icmp_lt (tgt := 31) hx hb d_K_desk_23 (by decide) (fun c_23 => ?_) (fun c_23 => ?_)
      · -- to 31
        exact absurd c_23 h3
      · -- on 26
        refine lv_iload_n hx hb d_K_desk_26 rfl (lv_at hl 2 rfl) ?_
        refine lv_iload_n hx hb d_K_desk_27 rfl (lv_at hl 1 rfl) ?_
        refine lv_icmp_lt (tgt := 41) hx hb d_K_desk_28 (by decide) (fun c_28 => ?_) (fun c_28 => ?_)
        · -- to 41
          refine lv_aload_n hx hb d_K_desk_41 rfl (lv_at hl 0 rfl) ?_
          refine kw_get hx hb hts hown hK hP 12 (by decide) fl_K_50 (v := .int (σ.1 12)) rfl d_K_desk_42 ?_
          refine lv_if_ne (tgt := 57) hx hb d_K_desk_45 (by decide) (fun c_45 => ?_) (fun c_45 => ?_)
          · -- to 57
            exact x_thr hx hb hlT hown hts xf_S xl_S xi_S xw_S hSt (List.mem_of_getElem? (i := 2) rfl) hZ (hl.1.trans hml.symm) htab hlocks (Nat.le_of_ble_eq_true rfl) (Nat.le_of_ble_eq_true rfl) (Nat.le_of_ble_eq_true rfl) (Nat.le_of_ble_eq_true rfl) d_K_desk_57 d_K_desk_60 d_K_desk_61 d_K_desk_63 d_K_desk_66
          · -- on 48
            refine lv_aload_n hx hb d_K_desk_48 rfl (lv_at hl 0 rfl) ?_
            refine kw_get hx hb hts hown hK hP 1 (by decide) fl_K_15 (v := .int (σ.1 1)) rfl d_K_desk_49 ?_
            refine lv_bipush (v := 8) hx hb d_K_desk_52 (by decide) ?_
            refine lv_icmp_lt (tgt := 67) hx hb d_K_desk_54 (by decide) (fun c_54 => ?_) (fun c_54 => ?_)
            · -- to 67
              exact absurd hT (fun q => q.elim (fun h => h c_45) (fun h => h c_54))
            · -- on 57
              exact x_thr hx hb hlT hown hts xf_S xl_S xi_S xw_S hSt (List.mem_of_getElem? (i := 2) rfl) hZ (hl.1.trans hml.symm) htab hlocks (Nat.le_of_ble_eq_true rfl) (Nat.le_of_ble_eq_true rfl) (Nat.le_of_ble_eq_true rfl) (Nat.le_of_ble_eq_true rfl) d_K_desk_57 d_K_desk_60 d_K_desk_61 d_K_desk_63 d_K_desk_66
        · -- on 31
          exact absurd h4 c_28
    · -- on 11
      exact absurd h2 c_8

set_option maxHeartbeats 4000000 in
set_option maxRecDepth 100000 in
theorem tt_K_turnA (l : Launch) (hlT : l.stackTraces = false) (D : va_G) (cI cQ : ClassId) (α ad an : Nat → Nat) (n : Nat) (σ : kS) (hI : k_ok n σ.1) (x : Int32) (hT : kd_at n x = none) : vx_Met l y_K_turn w_K_turn { frames := 6, cells := 1, slots := 6, locals := 90 } (xPc D (kty cI cQ) (kw_w cI cQ α ad an n σ) [.ref (α 0), .int x]) xQ (xX E_A) 1 6 (fun _ => False) := by
  refine vx_ofW (cc := b_K_turn) (maxL := 2) (ret := some .int) (by decide) rfl ?_
  intro p e s m args below meth c s₁ B hml htab hv
  obtain ⟨rfl, hP, hK, hD, hZ, hSt⟩ := hv
  have hx := B.exec
  have hb := B.bytes
  have hts : ∀ w ∈ kT, w.before [.ref (α 0), .int x].toArray s = true := fun w h => atoms_spec (ws := w_K_turn) B.pre w (List.mem_cons_of_mem _ h)
  have hown : s.vm.findClass R_K = some m.cls := findClass_of_methodNamed B.named
  have hlocks := B.notSynchronized
  have hl := lv_entry ([.ref (α 0), .int x]) (n := 2) (Nat.le_of_ble_eq_true rfl)
  rw [lg_entry_eq]
  generalize (lg_sl ([.ref (α 0), .int x]) ++ List.replicate (2 - (lg_sl ([.ref (α 0), .int x])).length) Slot.unset).toArray = ls at hl ⊢
  have hl : lv_has ls 2 [(0, .ref (α 0)), (1, .int x)] := hl
  refine lv_aload_n hx hb d_K_turn_0 rfl (lv_at hl 0 rfl) ?_
  refine lv_iload_n hx hb d_K_turn_1 rfl (lv_at hl 1 rfl) ?_
  refine r_callq (W.runV (As := [.int x]) (rest := []) ⟨hx, hb, hml, hown, hts⟩ (ct_K_deskAt l D cI cQ α ad an n σ hI x) (cwV 1 hts gd_K_77 rfl rfl rfl (by decide +kernel) ⟨Nat.le_of_ble_eq_true rfl, Nat.le_of_ble_eq_true rfl⟩) (g_preV hK hP hD (ci := 0) (q0 := 0) rfl kw_0) rfl rfl hl.1 rfl (lv_room (Nat.le_of_ble_eq_true rfl)) d_K_turn_2 ⟨Nat.le_of_ble_eq_true rfl, Nat.le_of_ble_eq_true rfl⟩) ?_
  rw [hT]
  refine W.eq (g2 := F0 m 5 ls [.null]) rfl ?_
  refine lv_ifnonnullN hx hb d_K_turn_5 ?_
  exact x_thr hx hb hlT hown hts xf_A xl_A xi_A xw_A hSt (List.mem_of_getElem? (i := 3) rfl) hZ (hl.1.trans hml.symm) htab hlocks (Nat.le_of_ble_eq_true rfl) (Nat.le_of_ble_eq_true rfl) (Nat.le_of_ble_eq_true rfl) (Nat.le_of_ble_eq_true rfl) d_K_turn_8 d_K_turn_11 d_K_turn_12 d_K_turn_14 d_K_turn_17

set_option maxHeartbeats 4000000 in
set_option maxRecDepth 100000 in
theorem tt_K_turnS (l : Launch) (hlT : l.stackTraces = false) (D : va_G) (cI cQ : ClassId) (α ad an : Nat → Nat) (n : Nat) (σ : kS) (hI : k_ok n σ.1) (i : Nat) (hi : i < n) (hT : ¬ σ.1 12 = 0 ∨ ¬ σ.1 6 < 300) : vx_Met l y_K_turn w_K_turn { frames := 6, cells := 1, slots := 6, locals := 90 } (xPc D (kty cI cQ) (kw_w cI cQ α ad an n σ) [.ref (α 0), .int (nI i)]) xQ (xX E_S) 1 6 (fun _ => False) := by
  refine vx_ofW (cc := b_K_turn) (maxL := 2) (ret := some .int) (by decide) rfl ?_
  intro p e s m args below meth c s₁ B hml htab hv
  obtain ⟨rfl, hP, hK, hD, hZ, hSt⟩ := hv
  have hx := B.exec
  have hb := B.bytes
  have hts : ∀ w ∈ kT, w.before [.ref (α 0), .int (nI i)].toArray s = true := fun w h => atoms_spec (ws := w_K_turn) B.pre w (List.mem_cons_of_mem _ h)
  have hown : s.vm.findClass R_K = some m.cls := findClass_of_methodNamed B.named
  have hlocks := B.notSynchronized
  have hl := lv_entry ([.ref (α 0), .int (nI i)]) (n := 2) (Nat.le_of_ble_eq_true rfl)
  rw [lg_entry_eq]
  generalize (lg_sl ([.ref (α 0), .int (nI i)]) ++ List.replicate (2 - (lg_sl ([.ref (α 0), .int (nI i)])).length) Slot.unset).toArray = ls at hl ⊢
  have hl : lv_has ls 2 [(0, .ref (α 0)), (1, .int (nI i))] := hl
  refine lv_aload_n hx hb d_K_turn_0 rfl (lv_at hl 0 rfl) ?_
  refine lv_iload_n hx hb d_K_turn_1 rfl (lv_at hl 1 rfl) ?_
  refine r_callq (W.runV (As := [.int (nI i)]) (rest := []) ⟨hx, hb, hml, hown, hts⟩ (ct_K_deskAt l D cI cQ α ad an n σ hI (nI i)) (cwV 1 hts gd_K_77 rfl rfl rfl (by decide +kernel) ⟨Nat.le_of_ble_eq_true rfl, Nat.le_of_ble_eq_true rfl⟩) (g_preV hK hP hD (ci := 0) (q0 := 0) rfl kw_0) rfl rfl hl.1 rfl (lv_room (Nat.le_of_ble_eq_true rfl)) d_K_turn_2 ⟨Nat.le_of_ble_eq_true rfl, Nat.le_of_ble_eq_true rfl⟩) ?_
  rw [kd_at_nI hI hi]
  refine W.eq (g2 := F0 m 5 ls [.ref (ad i)]) rfl ?_
  refine lv_ifnonnull (tgt := 18) hx hb d_K_turn_5 (by decide) ?_
  refine lv_aload_n hx hb d_K_turn_18 rfl (lv_at hl 0 rfl) ?_
  refine kw_get hx hb hts hown hK hP 12 (by decide) fl_K_50 (v := .int (σ.1 12)) rfl d_K_turn_19 ?_
  refine lv_if_ne (tgt := 35) hx hb d_K_turn_22 (by decide) (fun c_22 => ?_) (fun c_22 => ?_)
  · -- to 35
    exact x_thr hx hb hlT hown hts xf_S xl_S xi_S xw_S hSt (List.mem_of_getElem? (i := 4) rfl) hZ (hl.1.trans hml.symm) htab hlocks (Nat.le_of_ble_eq_true rfl) (Nat.le_of_ble_eq_true rfl) (Nat.le_of_ble_eq_true rfl) (Nat.le_of_ble_eq_true rfl) d_K_turn_35 d_K_turn_38 d_K_turn_39 d_K_turn_41 d_K_turn_44
  · -- on 25
    refine lv_aload_n hx hb d_K_turn_25 rfl (lv_at hl 0 rfl) ?_
    refine kw_get hx hb hts hown hK hP 6 (by decide) fl_K_32 (v := .int (σ.1 6)) rfl d_K_turn_26 ?_
    refine lv_sipush (v := 300) hx hb d_K_turn_29 (by decide) ?_
    refine lv_icmp_lt (tgt := 45) hx hb d_K_turn_32 (by decide) (fun c_32 => ?_) (fun c_32 => ?_)
    · -- to 45
      exact absurd hT (fun q => q.elim (fun h => h c_22) (fun h => h c_32))
    · -- on 35
      exact x_thr hx hb hlT hown hts xf_S xl_S xi_S xw_S hSt (List.mem_of_getElem? (i := 4) rfl) hZ (hl.1.trans hml.symm) htab hlocks (Nat.le_of_ble_eq_true rfl) (Nat.le_of_ble_eq_true rfl) (Nat.le_of_ble_eq_true rfl) (Nat.le_of_ble_eq_true rfl) d_K_turn_35 d_K_turn_38 d_K_turn_39 d_K_turn_41 d_K_turn_44

set_option maxHeartbeats 4000000 in
set_option maxRecDepth 100000 in
theorem tt_K_runS (l : Launch) (hlT : l.stackTraces = false) (D : va_G) (cI cQ : ClassId) (α ad an : Nat → Nat) (n : Nat) (σ : kS) (hI : k_ok n σ.1) (hT : ¬ σ.1 12 = 0) : vx_Met l y_K_run w_K_run { frames := 6, cells := 1, slots := 6, locals := 90 } (xPc D (kty cI cQ) (kw_w cI cQ α ad an n σ) [.ref (α 0)]) xQ (xX E_S) 1 6 (fun _ => False) := by
  refine vx_ofW (cc := b_K_run) (maxL := 4) (ret := some .int) (by decide) rfl ?_
  intro p e s m args below meth c s₁ B hml htab hv
  obtain ⟨rfl, hP, hK, hD, hZ, hSt⟩ := hv
  have hx := B.exec
  have hb := B.bytes
  have hts : ∀ w ∈ kT, w.before [.ref (α 0)].toArray s = true := fun w h => atoms_spec (ws := w_K_run) B.pre w (List.mem_cons_of_mem _ h)
  have hown : s.vm.findClass R_K = some m.cls := findClass_of_methodNamed B.named
  have hlocks := B.notSynchronized
  have hl := lv_entry ([.ref (α 0)]) (n := 4) (Nat.le_of_ble_eq_true rfl)
  rw [lg_entry_eq]
  generalize (lg_sl ([.ref (α 0)]) ++ List.replicate (4 - (lg_sl ([.ref (α 0)])).length) Slot.unset).toArray = ls at hl ⊢
  have hl : lv_has ls 4 [(0, .ref (α 0))] := hl
  refine lv_aload_n hx hb d_K_run_0 rfl (lv_at hl 0 rfl) ?_
  refine kw_get hx hb hts hown hK hP 12 (by decide) fl_K_50 (v := .int (σ.1 12)) rfl d_K_run_1 ?_
  refine lv_if_eq (tgt := 17) hx hb d_K_run_4 (by decide) (fun c_4 => ?_) (fun c_4 => ?_)
  · -- to 17
    exact absurd c_4 hT
  · -- on 7
    exact x_thr hx hb hlT hown hts xf_S xl_S xi_S xw_S hSt (List.mem_of_getElem? (i := 5) rfl) hZ (hl.1.trans hml.symm) htab hlocks (Nat.le_of_ble_eq_true rfl) (Nat.le_of_ble_eq_true rfl) (Nat.le_of_ble_eq_true rfl) (Nat.le_of_ble_eq_true rfl) d_K_run_7 d_K_run_10 d_K_run_11 d_K_run_13 d_K_run_16

set_option maxHeartbeats 4000000 in
set_option maxRecDepth 100000 in
theorem tt_K_holderA (l : Launch) (hlT : l.stackTraces = false) (D : va_G) (cI cQ : ClassId) (α ad an : Nat → Nat) (n : Nat) (σ : kS) (hI : k_ok n σ.1) (x : Int32) (hT : kd_sub x = 0) : vx_Met l y_K_holder w_K_holder { frames := 6, cells := 1, slots := 6, locals := 90 } (xPc D (kty cI cQ) (kw_w cI cQ α ad an n σ) [.ref (α 0), .int x]) xQ (xX E_A) 1 6 (fun _ => False) := by
  refine vx_ofW (cc := b_K_holder) (maxL := 2) (ret := some .int) (by decide) rfl ?_
  intro p e s m args below meth c s₁ B hml htab hv
  obtain ⟨rfl, hP, hK, hD, hZ, hSt⟩ := hv
  have hx := B.exec
  have hb := B.bytes
  have hts : ∀ w ∈ kT, w.before [.ref (α 0), .int x].toArray s = true := fun w h => atoms_spec (ws := w_K_holder) B.pre w (List.mem_cons_of_mem _ h)
  have hown : s.vm.findClass R_K = some m.cls := findClass_of_methodNamed B.named
  have hlocks := B.notSynchronized
  have hl := lv_entry ([.ref (α 0), .int x]) (n := 2) (Nat.le_of_ble_eq_true rfl)
  rw [lg_entry_eq]
  generalize (lg_sl ([.ref (α 0), .int x]) ++ List.replicate (2 - (lg_sl ([.ref (α 0), .int x])).length) Slot.unset).toArray = ls at hl ⊢
  have hl : lv_has ls 2 [(0, .ref (α 0)), (1, .int x)] := hl
  refine lv_iload_n hx hb d_K_holder_0 rfl (lv_at hl 1 rfl) ?_
  refine r_calli (W.runS (As := [.int x]) (rest := []) ⟨hx, hb, hml, hown, hts⟩ (ct_K_isSubject l x) (cwS 1 hts gd_K_81 rfl rfl rfl (by decide +kernel) ⟨Nat.le_of_ble_eq_true rfl, Nat.le_of_ble_eq_true rfl⟩) preEq rfl rfl hl.1 rfl (lv_room (Nat.le_of_ble_eq_true rfl)) d_K_holder_1 ⟨Nat.le_of_ble_eq_true rfl, Nat.le_of_ble_eq_true rfl⟩) ?_
  refine lv_if_ne (tgt := 17) hx hb d_K_holder_4 (by decide) (fun c_4 => ?_) (fun c_4 => ?_)
  · -- to 17
    exact absurd hT c_4
  · -- on 7
    exact x_thr hx hb hlT hown hts xf_A xl_A xi_A xw_A hSt (List.mem_of_getElem? (i := 6) rfl) hZ (hl.1.trans hml.symm) htab hlocks (Nat.le_of_ble_eq_true rfl) (Nat.le_of_ble_eq_true rfl) (Nat.le_of_ble_eq_true rfl) (Nat.le_of_ble_eq_true rfl) d_K_holder_7 d_K_holder_10 d_K_holder_11 d_K_holder_13 d_K_holder_16

set_option maxHeartbeats 4000000 in
set_option maxRecDepth 100000 in
theorem tt_K_waitsA (l : Launch) (hlT : l.stackTraces = false) (D : va_G) (cI cQ : ClassId) (α ad an : Nat → Nat) (n : Nat) (σ : kS) (hI : k_ok n σ.1) (x y : Int32) (hT : kd_sub x = 0) : vx_Met l y_K_waits w_K_waits { frames := 6, cells := 1, slots := 6, locals := 90 } (xPc D (kty cI cQ) (kw_w cI cQ α ad an n σ) [.ref (α 0), .int x, .int y]) xQ (xX E_A) 1 6 (fun _ => False) := by
  refine vx_ofW (cc := b_K_waits) (maxL := 4) (ret := some .int) (by decide) rfl ?_
  intro p e s m args below meth c s₁ B hml htab hv
  obtain ⟨rfl, hP, hK, hD, hZ, hSt⟩ := hv
  have hx := B.exec
  have hb := B.bytes
  have hts : ∀ w ∈ kT, w.before [.ref (α 0), .int x, .int y].toArray s = true := fun w h => atoms_spec (ws := w_K_waits) B.pre w (List.mem_cons_of_mem _ h)
  have hown : s.vm.findClass R_K = some m.cls := findClass_of_methodNamed B.named
  have hlocks := B.notSynchronized
  have hl := lv_entry ([.ref (α 0), .int x, .int y]) (n := 4) (Nat.le_of_ble_eq_true rfl)
  rw [lg_entry_eq]
  generalize (lg_sl ([.ref (α 0), .int x, .int y]) ++ List.replicate (4 - (lg_sl ([.ref (α 0), .int x, .int y])).length) Slot.unset).toArray = ls at hl ⊢
  have hl : lv_has ls 4 [(0, .ref (α 0)), (1, .int x), (2, .int y)] := hl
  refine lv_iload_n hx hb d_K_waits_0 rfl (lv_at hl 1 rfl) ?_
  refine r_calli (W.runS (As := [.int x]) (rest := []) ⟨hx, hb, hml, hown, hts⟩ (ct_K_isSubject l x) (cwS 1 hts gd_K_81 rfl rfl rfl (by decide +kernel) ⟨Nat.le_of_ble_eq_true rfl, Nat.le_of_ble_eq_true rfl⟩) preEq rfl rfl hl.1 rfl (lv_room (Nat.le_of_ble_eq_true rfl)) d_K_waits_1 ⟨Nat.le_of_ble_eq_true rfl, Nat.le_of_ble_eq_true rfl⟩) ?_
  refine lv_if_ne (tgt := 17) hx hb d_K_waits_4 (by decide) (fun c_4 => ?_) (fun c_4 => ?_)
  · -- to 17
    exact absurd hT c_4
  · -- on 7
    exact x_thr hx hb hlT hown hts xf_A xl_A xi_A xw_A hSt (List.mem_of_getElem? (i := 6) rfl) hZ (hl.1.trans hml.symm) htab hlocks (Nat.le_of_ble_eq_true rfl) (Nat.le_of_ble_eq_true rfl) (Nat.le_of_ble_eq_true rfl) (Nat.le_of_ble_eq_true rfl) d_K_waits_7 d_K_waits_10 d_K_waits_11 d_K_waits_13 d_K_waits_16

set_option maxHeartbeats 4000000 in
set_option maxRecDepth 100000 in
theorem tt_K_deadA (l : Launch) (hlT : l.stackTraces = false) (D : va_G) (cI cQ : ClassId) (α ad an : Nat → Nat) (n : Nat) (σ : kS) (hI : k_ok n σ.1) (x : Int32) (hT : kd_at n x = none) : vx_Met l y_K_dead w_K_dead { frames := 6, cells := 1, slots := 6, locals := 90 } (xPc D (kty cI cQ) (kw_w cI cQ α ad an n σ) [.ref (α 0), .int x]) xQ (xX E_A) 1 6 (fun _ => False) := by
  refine vx_ofW (cc := b_K_dead) (maxL := 3) (ret := some .int) (by decide) rfl ?_
  intro p e s m args below meth c s₁ B hml htab hv
  obtain ⟨rfl, hP, hK, hD, hZ, hSt⟩ := hv
  have hx := B.exec
  have hb := B.bytes
  have hts : ∀ w ∈ kT, w.before [.ref (α 0), .int x].toArray s = true := fun w h => atoms_spec (ws := w_K_dead) B.pre w (List.mem_cons_of_mem _ h)
  have hown : s.vm.findClass R_K = some m.cls := findClass_of_methodNamed B.named
  have hlocks := B.notSynchronized
  have hl := lv_entry ([.ref (α 0), .int x]) (n := 3) (Nat.le_of_ble_eq_true rfl)
  rw [lg_entry_eq]
  generalize (lg_sl ([.ref (α 0), .int x]) ++ List.replicate (3 - (lg_sl ([.ref (α 0), .int x])).length) Slot.unset).toArray = ls at hl ⊢
  have hl : lv_has ls 3 [(0, .ref (α 0)), (1, .int x)] := hl
  refine lv_aload_n hx hb d_K_dead_0 rfl (lv_at hl 0 rfl) ?_
  refine lv_iload_n hx hb d_K_dead_1 rfl (lv_at hl 1 rfl) ?_
  refine r_callq (W.runV (As := [.int x]) (rest := []) ⟨hx, hb, hml, hown, hts⟩ (ct_K_deskAt l D cI cQ α ad an n σ hI x) (cwV 1 hts gd_K_77 rfl rfl rfl (by decide +kernel) ⟨Nat.le_of_ble_eq_true rfl, Nat.le_of_ble_eq_true rfl⟩) (g_preV hK hP hD (ci := 0) (q0 := 0) rfl kw_0) rfl rfl hl.1 rfl (lv_room (Nat.le_of_ble_eq_true rfl)) d_K_dead_2 ⟨Nat.le_of_ble_eq_true rfl, Nat.le_of_ble_eq_true rfl⟩) ?_
  rw [hT]
  refine W.eq (g2 := F0 m 5 ls [.null]) rfl ?_
  refine lv_astore_nN (lv' := [(2, .null), (0, .ref (α 0)), (1, .int x)]) hx hb d_K_dead_5 rfl hl (by decide) rfl (fun ls hl => ?_)
  refine lv_aload_nN hx hb d_K_dead_6 rfl (lv_at hl 0 rfl) ?_
  refine lv_ifnonnullN hx hb d_K_dead_7 ?_
  exact x_thr hx hb hlT hown hts xf_A xl_A xi_A xw_A hSt (List.mem_of_getElem? (i := 3) rfl) hZ (hl.1.trans hml.symm) htab hlocks (Nat.le_of_ble_eq_true rfl) (Nat.le_of_ble_eq_true rfl) (Nat.le_of_ble_eq_true rfl) (Nat.le_of_ble_eq_true rfl) d_K_dead_10 d_K_dead_13 d_K_dead_14 d_K_dead_16 d_K_dead_19

set_option maxHeartbeats 4000000 in
set_option maxRecDepth 100000 in
theorem tt_K_tickA (l : Launch) (hlT : l.stackTraces = false) (D : va_G) (cI cQ : ClassId) (α ad an : Nat → Nat) (n : Nat) (σ : kS) (hI : k_ok n σ.1) (x : Int32) (hT : ¬ (¬ x < σ.1 11 ∧ x ≤ 100000)) : vx_Met l y_K_tick w_K_tick { frames := 6, cells := 1, slots := 6, locals := 90 } (xPc D (kty cI cQ) (kw_w cI cQ α ad an n σ) [.ref (α 0), .int x]) xQ (xX E_A) 1 6 (fun _ => False) := by
  refine vx_ofW (cc := b_K_tick) (maxL := 4) (ret := some .int) (by decide) rfl ?_
  intro p e s m args below meth c s₁ B hml htab hv
  obtain ⟨rfl, hP, hK, hD, hZ, hSt⟩ := hv
  have hx := B.exec
  have hb := B.bytes
  have hts : ∀ w ∈ kT, w.before [.ref (α 0), .int x].toArray s = true := fun w h => atoms_spec (ws := w_K_tick) B.pre w (List.mem_cons_of_mem _ h)
  have hown : s.vm.findClass R_K = some m.cls := findClass_of_methodNamed B.named
  have hlocks := B.notSynchronized
  have hl := lv_entry ([.ref (α 0), .int x]) (n := 4) (Nat.le_of_ble_eq_true rfl)
  rw [lg_entry_eq]
  generalize (lg_sl ([.ref (α 0), .int x]) ++ List.replicate (4 - (lg_sl ([.ref (α 0), .int x])).length) Slot.unset).toArray = ls at hl ⊢
  have hl : lv_has ls 4 [(0, .ref (α 0)), (1, .int x)] := hl
  refine lv_iload_n hx hb d_K_tick_0 rfl (lv_at hl 1 rfl) ?_
  refine lv_aload_n hx hb d_K_tick_1 rfl (lv_at hl 0 rfl) ?_
  refine kw_get hx hb hts hown hK hP 11 (by decide) fl_K_47 (v := .int (σ.1 11)) rfl d_K_tick_2 ?_
  refine lv_icmp_lt (tgt := 14) hx hb d_K_tick_5 (by decide) (fun c_5 => ?_) (fun c_5 => ?_)
  · -- to 14
    exact x_thr hx hb hlT hown hts xf_A xl_A xi_A xw_A hSt (List.mem_of_getElem? (i := 7) rfl) hZ (hl.1.trans hml.symm) htab hlocks (Nat.le_of_ble_eq_true rfl) (Nat.le_of_ble_eq_true rfl) (Nat.le_of_ble_eq_true rfl) (Nat.le_of_ble_eq_true rfl) d_K_tick_14 d_K_tick_17 d_K_tick_18 d_K_tick_20 d_K_tick_23
  · -- on 8
    refine lv_iload_n hx hb d_K_tick_8 rfl (lv_at hl 1 rfl) ?_
    refine lv_ldc (v := 100000) hx hb hown (hts _ kc_K_147) d_K_tick_9 ?_
    refine lv_icmp_le (tgt := 24) hx hb d_K_tick_11 (by decide) (fun c_11 => ?_) (fun c_11 => ?_)
    · -- to 24
      exact absurd ⟨c_5, c_11⟩ hT
    · -- on 14
      exact x_thr hx hb hlT hown hts xf_A xl_A xi_A xw_A hSt (List.mem_of_getElem? (i := 7) rfl) hZ (hl.1.trans hml.symm) htab hlocks (Nat.le_of_ble_eq_true rfl) (Nat.le_of_ble_eq_true rfl) (Nat.le_of_ble_eq_true rfl) (Nat.le_of_ble_eq_true rfl) d_K_tick_14 d_K_tick_17 d_K_tick_18 d_K_tick_20 d_K_tick_23

set_option maxHeartbeats 4000000 in
set_option maxRecDepth 100000 in
theorem tt_K_lookX (l : Launch) (hlT : l.stackTraces = false) (D : va_G) (cI cQ : ClassId) (α ad an : Nat → Nat) (n : Nat) (σ : kS) (hI : k_ok n σ.1) (x y : Int32) (hT : kd_at n x = none) : vx_Met l y_K_look w_K_look { frames := 6, cells := 1, slots := 6, locals := 90 } (xPc D (kty cI cQ) (kw_w cI cQ α ad an n σ) [.ref (α 0), .int x, .int y]) xQ (xX E_X) 1 6 (fun _ => False) := by
  refine vx_ofW (cc := b_K_look) (maxL := 4) (ret := some .int) (by decide) rfl ?_
  intro p e s m args below meth c s₁ B hml htab hv
  obtain ⟨rfl, hP, hK, hD, hZ, hSt⟩ := hv
  have hx := B.exec
  have hb := B.bytes
  have hts : ∀ w ∈ kT, w.before [.ref (α 0), .int x, .int y].toArray s = true := fun w h => atoms_spec (ws := w_K_look) B.pre w (List.mem_cons_of_mem _ h)
  have hown : s.vm.findClass R_K = some m.cls := findClass_of_methodNamed B.named
  have hlocks := B.notSynchronized
  have hl := lv_entry ([.ref (α 0), .int x, .int y]) (n := 4) (Nat.le_of_ble_eq_true rfl)
  rw [lg_entry_eq]
  generalize (lg_sl ([.ref (α 0), .int x, .int y]) ++ List.replicate (4 - (lg_sl ([.ref (α 0), .int x, .int y])).length) Slot.unset).toArray = ls at hl ⊢
  have hl : lv_has ls 4 [(0, .ref (α 0)), (1, .int x), (2, .int y)] := hl
  refine lv_aload_n hx hb d_K_look_0 rfl (lv_at hl 0 rfl) ?_
  refine lv_iload_n hx hb d_K_look_1 rfl (lv_at hl 1 rfl) ?_
  refine r_callq (W.runV (As := [.int x]) (rest := []) ⟨hx, hb, hml, hown, hts⟩ (ct_K_deskAt l D cI cQ α ad an n σ hI x) (cwV 1 hts gd_K_77 rfl rfl rfl (by decide +kernel) ⟨Nat.le_of_ble_eq_true rfl, Nat.le_of_ble_eq_true rfl⟩) (g_preV hK hP hD (ci := 0) (q0 := 0) rfl kw_0) rfl rfl hl.1 rfl (lv_room (Nat.le_of_ble_eq_true rfl)) d_K_look_2 ⟨Nat.le_of_ble_eq_true rfl, Nat.le_of_ble_eq_true rfl⟩) ?_
  rw [hT]
  refine W.eq (g2 := F0 m 5 ls [.null]) rfl ?_
  refine lv_astore_nN (lv' := [(3, .null), (0, .ref (α 0)), (1, .int x), (2, .int y)]) hx hb d_K_look_5 rfl hl (by decide) rfl (fun ls hl => ?_)
  refine lv_aload_nN hx hb d_K_look_6 rfl (lv_at hl 0 rfl) ?_
  refine lv_ifnonnullN hx hb d_K_look_7 ?_
  exact x_thr hx hb hlT hown hts xf_X xl_X xi_X xw_X hSt (List.mem_of_getElem? (i := 3) rfl) hZ (hl.1.trans hml.symm) htab hlocks (Nat.le_of_ble_eq_true rfl) (Nat.le_of_ble_eq_true rfl) (Nat.le_of_ble_eq_true rfl) (Nat.le_of_ble_eq_true rfl) d_K_look_10 d_K_look_13 d_K_look_14 d_K_look_16 d_K_look_19

set_option maxHeartbeats 4000000 in
set_option maxRecDepth 100000 in
theorem tt_K_lookY (l : Launch) (hlT : l.stackTraces = false) (D : va_G) (cI cQ : ClassId) (α ad an : Nat → Nat) (n : Nat) (σ : kS) (hI : k_ok n σ.1) (i : Nat) (hi : i < n) (y : Int32) (hT : ¬ (y = 0 ∨ y = 1 ∨ y = 2 ∨ y = 3 ∨ y = 4)) : vx_Met l y_K_look w_K_look { frames := 6, cells := 1, slots := 6, locals := 90 } (xPc D (kty cI cQ) (kw_w cI cQ α ad an n σ) [.ref (α 0), .int (nI i), .int y]) xQ (xX E_X) 1 6 (fun _ => False) := by
  refine vx_ofW (cc := b_K_look) (maxL := 4) (ret := some .int) (by decide) rfl ?_
  intro p e s m args below meth c s₁ B hml htab hv
  obtain ⟨rfl, hP, hK, hD, hZ, hSt⟩ := hv
  have hx := B.exec
  have hb := B.bytes
  have hts : ∀ w ∈ kT, w.before [.ref (α 0), .int (nI i), .int y].toArray s = true := fun w h => atoms_spec (ws := w_K_look) B.pre w (List.mem_cons_of_mem _ h)
  have hown : s.vm.findClass R_K = some m.cls := findClass_of_methodNamed B.named
  have hlocks := B.notSynchronized
  have hl := lv_entry ([.ref (α 0), .int (nI i), .int y]) (n := 4) (Nat.le_of_ble_eq_true rfl)
  rw [lg_entry_eq]
  generalize (lg_sl ([.ref (α 0), .int (nI i), .int y]) ++ List.replicate (4 - (lg_sl ([.ref (α 0), .int (nI i), .int y])).length) Slot.unset).toArray = ls at hl ⊢
  have hl : lv_has ls 4 [(0, .ref (α 0)), (1, .int (nI i)), (2, .int y)] := hl
  refine lv_aload_n hx hb d_K_look_0 rfl (lv_at hl 0 rfl) ?_
  refine lv_iload_n hx hb d_K_look_1 rfl (lv_at hl 1 rfl) ?_
  refine r_callq (W.runV (As := [.int (nI i)]) (rest := []) ⟨hx, hb, hml, hown, hts⟩ (ct_K_deskAt l D cI cQ α ad an n σ hI (nI i)) (cwV 1 hts gd_K_77 rfl rfl rfl (by decide +kernel) ⟨Nat.le_of_ble_eq_true rfl, Nat.le_of_ble_eq_true rfl⟩) (g_preV hK hP hD (ci := 0) (q0 := 0) rfl kw_0) rfl rfl hl.1 rfl (lv_room (Nat.le_of_ble_eq_true rfl)) d_K_look_2 ⟨Nat.le_of_ble_eq_true rfl, Nat.le_of_ble_eq_true rfl⟩) ?_
  rw [kd_at_nI hI hi]
  refine W.eq (g2 := F0 m 5 ls [.ref (ad i)]) rfl ?_
  refine lv_astore_n (lv' := [(3, .ref (ad i)), (0, .ref (α 0)), (1, .int (nI i)), (2, .int y)]) hx hb d_K_look_5 rfl hl (by decide) rfl (fun ls hl => ?_)
  refine lv_aload_n hx hb d_K_look_6 rfl (lv_at hl 0 rfl) ?_
  refine lv_ifnonnull (tgt := 20) hx hb d_K_look_7 (by decide) ?_
  refine lv_iload_n hx hb d_K_look_20 rfl (lv_at hl 3 rfl) ?_
  have h_0 : ¬ y = 0 := fun h => hT (by simp [h])
  have h_1 : ¬ y = 1 := fun h => hT (by simp [h])
  have h_2 : ¬ y = 2 := fun h => hT (by simp [h])
  have h_3 : ¬ y = 3 := fun h => hT (by simp [h])
  have h_4 : ¬ y = 4 := fun h => hT (by simp [h])
  refine lv_tableOut (tgt := 82) hx hb d_K_look_21 (tb_5 h_0 h_1 h_2 h_3 h_4) (by decide) ?_
  exact x_thr hx hb hlT hown hts xf_X xl_X xi_X xw_X hSt (List.mem_of_getElem? (i := 8) rfl) hZ (hl.1.trans hml.symm) htab hlocks (Nat.le_of_ble_eq_true rfl) (Nat.le_of_ble_eq_true rfl) (Nat.le_of_ble_eq_true rfl) (Nat.le_of_ble_eq_true rfl) d_K_look_82 d_K_look_85 d_K_look_86 d_K_look_88 d_K_look_91
end
