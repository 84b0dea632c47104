/-! a method of the system that throws: its start, its end -/
abbrev E_A : String := "java/lang/IllegalArgumentException"
abbrev E_S : String := "java/lang/IllegalStateException"
abbrev E_X : String := "java/lang/IndexOutOfBoundsException"
abbrev E_n : List String := ["java/lang/RuntimeException", "java/lang/Exception"]
def xStrs : List (Nat × String) := [(62, "a desk has 1 .. 12 acts"), (67, "the act that fails is one of the desk's, or NONE"), (71, "closed, or 8 desks already"), (103, "no such desk"), (105, "closed, or 300 turns were told already"), (107, "closed"), (111, "no such subject"), (148, "a time is not ahead of the latest one, and 100000 at most"), (170, "no such what")]
def xZ (U : State) (H : Heap) : Prop := vx_Zq Bundle.tN "UNASSIGNED_STACK" Bundle.steD (fun _ => False) U H ∧ vx_Zq Bundle.tN "SUPPRESSED_SENTINEL" Bundle.listD (fun _ => False) U H
def xBs : List Cond := [.castable E_A E_A, .castable E_S E_S, .castable E_X E_X, .declares ⟨"java/lang/RuntimeException", "<init>", "(Ljava/lang/String;)V"⟩, .declares ⟨"java/lang/Exception", "<init>", "(Ljava/lang/String;)V"⟩, .declares ⟨"java/lang/Throwable", "<init>", "(Ljava/lang/String;)V"⟩]
/-- what the tables say beside the words that every method gets: texts, what can be cast, what is told -/
def xSt (U : State) : Prop := (∀ q ∈ xStrs, ∃ sa, vk_R R_K q.1 q.2 sa U) ∧ (∀ w ∈ xBs, va_Nw w U) ∧ va_Nc E_S E_A U
theorem xBs_on : ∀ w ∈ xBs, w.onTables = true := by decide +kernel
theorem xBs_warm {s U : State} (h : s.WarmedH U.vm) : ∀ w ∈ xBs, va_Nw w s → va_Nw w U := by
  intro w hw
  simp only [xBs, List.mem_cons, List.not_mem_nil, or_false] at hw
  rcases hw with rfl | rfl | rfl | rfl | rfl | rfl
  · exact va_Nw.warmC h
  · exact va_Nw.warmC h
  · exact va_Nw.warmC h
  · exact va_Nw.warmD h
  · exact va_Nw.warmD h
  · exact va_Nw.warmD h
theorem xZ.moved {u U : State} {H : Heap} (h : u.vm.Alike U.vm) (z : xZ u H) : xZ U H := ⟨z.1.moved h, z.2.moved h⟩
theorem xZ.kept {U : State} {H H1 : Heap} (z : xZ U H) (h : ∀ q : Nat, q < H.size → H1[q]? = H[q]?) : xZ U H1 := ⟨z.1.kept (fun a h1 _ => h a h1), z.2.kept (fun a h1 _ => h a h1)⟩
theorem xSt.warm {s U : State} (h : s.WarmedH U.vm) (z : xSt s) : xSt U := ⟨fun q hq => by
  obtain ⟨sa, h1⟩ := z.1 q hq
  exact ⟨sa, vk_R.warm h h1⟩, fun w hw => xBs_warm h w hw (z.2.1 w hw), z.2.2.moved h.alike⟩
theorem xSt.same {s U : State} (h : U.vm = s.vm) (z : xSt s) : xSt U := ⟨fun q hq => by
  obtain ⟨sa, h1⟩ := z.1 q hq
  exact ⟨sa, vk_R.same h h1⟩, fun w hw => va_Nw.same (xBs_on w hw) h.symm (z.2.1 w hw), z.2.2.moved (by rw [h]; exact Vm.Alike.refl _)⟩
def xPc (D : va_G) (tys : List (ClassId × FieldType)) (w : va_W) (av : List Value) : Array Value → State → Prop := va_Pc av (fun U => va_P D kcl w U.heap ∧ va_K D kcl tys U ∧ va_D (fun _ => True) w ∧ xZ U U.heap ∧ xSt U)
def xQ : Array Value → State → Outcome → State → Prop := va_Qv (S := Unit) (fun _ => False) (fun _ _ => True) (fun _ => False)
def xX (E : String) : String → State → State → Prop := vx_X (S := Unit) (fun _ => True) (fun E' _ _ => E' = E) (fun _ => False)
theorem x_bl {D : va_G} {tys : List (ClassId × FieldType)} {w : va_W} {av : List Value} : FrameBlind (xPc D tys w av) := fun a U g mk q => by
  obtain ⟨q0, qP, qK, qD, qZ, qS⟩ := q
  exact ⟨q0, qP, va_K.moved (u := U) (U := U.calling g mk a) (Vm.Alike.refl U.vm) qK, qD, xZ.moved (u := U) (U := U.calling g mk a) (Vm.Alike.refl U.vm) qZ, xSt.same (s := U) rfl qS⟩
theorem x_preV {s : State} {H : Heap} {D : va_G} {tys : List (ClassId × FieldType)} {w : va_W} {B : Nat → Prop} (hK : va_K D kcl tys s) (hP : va_P D kcl w H) (hD : va_D B w) (hZ : xZ s H) (hSt : xSt s) {b : Nat} {As : List Value} {q : vw_C} {ci q0 : Nat} {fs : List Value} (hc : kcl[ci]? = some q) (he : w[q0]? = some (b, .inr (ci, fs))) : PreV s H q.1 b (xPc D tys w (.ref b :: As)) As :=
  ⟨x_bl, va_recv hK hP hc he, fun U hU hW => ⟨rfl, by rw [hU]; exact hP, va_K.moved hW.alike hK, hD.weaken (fun _ _ _ _ => trivial), by rw [hU]; exact hZ.moved hW.alike, hSt.warm hW⟩⟩
theorem xl_A : Cond.classLink R_K 60 E_A ∈ kT := mk_T 158 rfl rfl
theorem xi_A : Cond.initialized E_A ∈ kT := mk_T 7 rfl rfl
theorem xf_A : Bundle.fit E_A = true := by decide +kernel
set_option maxRecDepth 100000 in
theorem xw_A : ∀ w ∈ vx_atS R_K 64 E_A E_n, w ∈ kT ∨ w ∈ xBs := by decide +kernel
theorem xl_S : Cond.classLink R_K 69 E_S ∈ kT := mk_T 227 rfl rfl
theorem xi_S : Cond.initialized E_S ∈ kT := mk_T 8 rfl rfl
theorem xf_S : Bundle.fit E_S = true := by decide +kernel
set_option maxRecDepth 100000 in
theorem xw_S : ∀ w ∈ vx_atS R_K 73 E_S E_n, w ∈ kT ∨ w ∈ xBs := by decide +kernel
theorem xl_X : Cond.classLink R_K 164 E_X ∈ kT := mk_T 372 rfl rfl
theorem xi_X : Cond.initialized E_X ∈ kT := mk_T 11 rfl rfl
theorem xf_X : Bundle.fit E_X = true := by decide +kernel
set_option maxRecDepth 100000 in
theorem xw_X : ∀ w ∈ vx_atS R_K 166 E_X E_n, w ∈ kT ∨ w ∈ xBs := by decide +kernel
section XTH
variable {p : Program} {l : Launch} {e : Env} {R : Room} {s : State} {m : MethodId} {args : Array Value} {below : List Frame} {meth : Method} {c : Code}
theorem x_thr {cc : ByteArray} {pc : Nat} {ls : Array Slot} {rest : List Value} (hx : p.tables.exec = Jvm.exec) (hb : c.code = cc) (hl : l.stackTraces = false) {cls text : String} {ik is ic : Nat}
    (hown : s.vm.findClass R_K = some m.cls) (hts : ∀ w ∈ kT, w.before args s = true) (hfit : Bundle.fit cls = true) (hk : Cond.classLink R_K ik cls ∈ kT) (hini : Cond.initialized cls ∈ kT) (hat : ∀ w ∈ vx_atS R_K ic cls E_n, w ∈ kT ∨ w ∈ xBs)
    (hSt : xSt s) (hstr : (is, text) ∈ xStrs) (hZ : xZ s s.heap) (hsz : ls.size = c.maxLocals) (htab : ∀ x ∈ c.exceptionTable.toList, False) (hlocks : meth.locks = false)
    (hRf : 5 < R.frames) (hRl : (rest.map fun v => v.category).sum + 82 ≤ R.locals) (hRc : 1 ≤ R.cells) (hRs : 6 ≤ R.slots)
    (d0 : decode cc pc = .ok (.new ik, 3)) (d3 : decode cc (pc + 3) = .ok (.dup, 1)) (d4 : decode cc (pc + 4) = .ok (.ldc is, 2)) (d6 : decode cc (pc + 6) = .ok (.invokespecial ic, 3)) (d9 : decode cc (pc + 9) = .ok (.athrow, 1)) :
    W p l e R s m args below meth c s.heap [] 0 0 (vx_MQ below xQ (xX cls) args s 1 6 (fun _ => False)) (F0 m pc ls rest) := by
  obtain ⟨sa, hstr⟩ := hSt.1 _ hstr
  have hg : ∀ w ∈ kT, vx_ot w = true := fun w h => by
    unfold vx_ot
    rw [(List.mem_filter.mp h).2, Bool.or_true]
  exact vx_throwS (A := fun _ => False) (names := E_n) hx hb hl hown hfit (by decide +kernel) (hts _ hk) (hts _ hini) hstr (fun w h => (hat w h).elim (hts w) (fun q => va_Nw.use (xBs_on w q) (hSt.2.1 w q)))
    (fun w h => by
      rcases List.mem_cons.mp h with rfl | h
      · exact hg _ hk
      · rcases List.mem_cons.mp h with rfl | h
        · exact hg _ hini
        · rcases hat w h with q | q
          · exact hg w q
          · unfold vx_ot
            rw [xBs_on w q, Bool.true_or])
    hZ.1 hZ.2 va_S.rf hsz d0 d3 d4 d6 d9 (fun x h => (htab x h).elim) hRf hRl (by omega) (by omega) hlocks
    (fun t _ h1 h2 => ⟨(), trivial, rfl, h1, fun q hq _ => h2 q hq⟩) (fun z h => by cases h) (Nat.le_refl _) (Nat.le_refl _)
end XTH
