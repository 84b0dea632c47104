/-! the law's helpers: a call of the system, its answer laid into an array of longs, or its throw told by a number -/
abbrev eL (cL : ClassId) (f : Nat → Int64) : va_E := .inl (cL, 1, .inr (.inl f))
abbrev ktl (cI cQ cL : ClassId) : List (ClassId × FieldType) := [(cI, .int), (cQ, .object R_D), (cL, .long)]
abbrev lA (α ad an : Nat → Nat) (n ω N0 : Nat) : Nat → Prop := fun q => q = ω ∨ kdA α ad an n N0 q
def hPc (D : va_G) (cI cQ cL : ClassId) (w : va_W) (ω : Nat) (f : Nat → Int64) (N0 : Nat) (av : List Value) : Array Value → State → Prop := va_Pc av (fun U => U.heap.size = N0 ∧ va_P D kcl w U.heap ∧ va_P D kcl [(ω, eL cL f)] U.heap ∧ va_K D kcl (ktl cI cQ cL) U ∧ va_D (fun _ => True) w ∧ (∀ q ∈ w, q.1 ≠ ω) ∧ xZ U U.heap ∧ xSt U)
def hQ (D : va_G) (cL : ClassId) (k : Int32) (w' : va_W) (ω : Nat) (f' : Nat → Int64) (A : Nat → Prop) : Array Value → State → Outcome → State → Prop := va_Qi (S := Unit) (fun v _ => v = k) (fun _ t => va_P D kcl w' t.heap ∧ va_P D kcl [(ω, eL cL f')] t.heap) A
def xNo : String → State → State → Prop := vx_X (S := Unit) (fun _ => False) (fun _ _ _ => True) (fun _ => False)
theorem h_bl {D : va_G} {cI cQ cL : ClassId} {w : va_W} {ω : Nat} {f : Nat → Int64} {N0 : Nat} {av : List Value} : FrameBlind (hPc D cI cQ cL w ω f N0 av) := fun a U g mk q => by
  obtain ⟨q0, qN, qP, qO, qK, qD, qW, qZ, qS⟩ := q
  exact ⟨q0, qN, qP, qO, va_K.moved (u := U) (U := U.calling g mk a) (Vm.Alike.refl U.vm) qK, qD, qW, xZ.moved (u := U) (U := U.calling g mk a) (Vm.Alike.refl U.vm) qZ, xSt.same (s := U) rfl qS⟩
theorem vP_of {D : va_G} {cl : List vw_C} {w : va_W} {H : Heap} (h : va_P D cl w H) {q : Nat × va_E} (hq : q ∈ w) : va_at D cl q H := by
  obtain ⟨i, hi⟩ := List.getElem?_of_mem hq
  exact h i q hi
theorem vP_keep {D : va_G} {cl : List vw_C} {w : va_W} {H H1 : Heap} (h : va_P D cl w H) (hq : ∀ q ∈ w, H1[q.1]? = H[q.1]?) : va_P D cl w H1 := h.kept (fun k q hk => hq q (List.mem_of_getElem? hk))
theorem vP_same {D : va_G} {cl : List vw_C} {w : va_W} {H H1 : Heap} (h : va_P D cl w H) (hq : ∀ q : Nat, q < H.size → H1[q]? = H[q]?) : va_P D cl w H1 := vP_keep h (fun q hm => hq q.1 (vP_of h hm).lt)
section HR
variable {p : Program} {l : Launch} {e : Env} {R : Room} {s : State} {m : MethodId} {args : Array Value} {below : List Frame} {meth : Method} {c : Code} {H : Heap} {locs : List Loc} {cells slots : Nat} {Q : State → Prop}
variable {cc : ByteArray} {pc : Nat} {ls : Array Slot} {rest st0 : List Value} {D : va_G} {A : Nat → Prop} {H0 : Heap} {tys : List (ClassId × FieldType)} {w w' wo : va_W} {al : List Nat} {a : Array Value} {cL : ClassId} {ω : Nat} {f : Nat → Int64}
/-- a call that writes its own cells: the other cells stay -/
theorem h_calli {r : Int32} (hr : va_Run p l e R s m args below meth c H locs cells slots 0 0 (F0 m pc ls st0) rest (gQi D al r w' a) (gA al)) (hS : va_S A H0 H locs) (hA : ∀ q ∈ al, A q) (hPo : va_P D kcl wo H) (ho : ∀ q ∈ wo, q.1 ∉ al)
    (kk : ∀ (H1 : Heap) (locs1 : List Loc), va_P D kcl w' H1 → va_P D kcl wo H1 → H.size ≤ H1.size → (∀ q : Nat, q < H.size → q ∉ al → H1[q]? = H[q]?) → va_S A H0 H1 locs1 → W p l e R s m args below meth c H1 locs1 cells slots Q (F0 m (pc + 3) ls (.int r :: rest))) : W p l e R s m args below meth c H locs cells slots Q (F0 m pc ls st0) := by
  refine va_calli hr hS (fun q _ h => hA q h) (fun q h => hA q h) (fun r1 u t H1 locs1 ht _ hw hB hz hk hS1 => ?_)
  subst hw
  rw [ht] at hB
  exact kk H1 locs1 hB (vP_keep hPo (fun q hq => hk q.1 (vP_of hPo hq).lt (ho q hq))) hz hk hS1
/-- the answer into the array of longs -/
theorem x_last (hx : p.tables.exec = Jvm.exec) (hb : c.code = cc) (hK : va_K D kcl tys s) (hPk : va_P D kcl w H) (hPo : va_P D kcl [(ω, eL cL f)] H) (hDk : va_D (fun _ => True) w) (hω : ∀ q ∈ w, q.1 ≠ ω) (hAw : ∀ q ∈ w, A q.1) (hAω : A ω) (hS : va_S A H0 H locs) (t0 : Nat) (ht : tys[t0]? = some (cL, .long)) {x : Int64} (hdg : decode cc pc = .ok (.lastore, 1))
    (kk : ∀ (H1 : Heap) (locs1 : List Loc), va_P D kcl w H1 → va_P D kcl [(ω, eL cL (vp_updL f 0 x))] H1 → va_S A H0 H1 locs1 → W p l e R s m args below meth c H1 locs1 cells slots Q (F0 m (pc + 1) ls rest)) : W p l e R s m args below meth c H locs cells slots Q (F0 m pc ls (.long x :: .int 0 :: .ref ω :: rest)) := by
  have hP : va_P D kcl (w ++ [(ω, eL cL f)]) H := hPk.app hPo
  have hD : va_D A (w ++ [(ω, eL cL f)]) := by
    rw [vD_nd] at hDk ⊢
    refine ⟨?_, fun q hq => ?_⟩
    · rw [List.map_append, List.nodup_append]
      refine ⟨hDk.1, by simp, fun a ha b hb9 eab => ?_⟩
      obtain ⟨z, hz, rfl⟩ := List.mem_map.mp ha
      simp only [List.map_cons, List.map_nil, List.mem_cons, List.not_mem_nil, or_false] at hb9
      exact hω z hz (eab.trans hb9)
    · rcases List.mem_append.mp hq with h | h
      · exact hAw q h
      · rw [List.mem_singleton.mp h]; exact hAω
  have hi : vp_in (0 : Int32) 1 := by unfold vp_in; decide
  refine va_last hx hb hK hP hD hS w.length t0 (by rw [List.getElem?_append_right (Nat.le_refl _), Nat.sub_self]; rfl) ht hi hdg (fun H1 locs1 h1 _ h3 => ?_)
  rw [List.set_append_right _ _ (Nat.le_refl _), Nat.sub_self] at h1
  exact kk H1 locs1 (fun k q hk => h1 k q (by rw [List.getElem?_append_left (List.getElem?_eq_some_iff.mp hk).1]; exact hk)) (fun k q hk => by
    have hk1 : k < 1 := (List.getElem?_eq_some_iff.mp hk).1
    rw [show k = 0 by omega] at hk
    refine h1 w.length q ?_
    rw [List.getElem?_append_right (Nat.le_refl _), Nat.sub_self]
    exact hk) h3
/-- a call that throws, caught here -/
theorem h_thr {E : String} (hr : vx_Run p l e R s m args below meth c H locs cells slots 1 6 (F0 m pc ls st0) rest (xQ a) (xX E) (fun _ => False)) (hS : va_S A H0 H locs) (hown : s.vm.findClass R_L = some m.cls)
    (pre : List ExceptionTableEntry) (x : ExceptionTableEntry) (suf : List ExceptionTableEntry) (hsplit : c.exceptionTable.toList = pre ++ x :: suf)
    (hpass : ∀ z ∈ pre, covers z pc = false ∨ (z.catchType ≠ 0 ∧ ∃ nm : String, (Cond.classLink R_L z.catchType nm).before args s = true ∧ va_Nc E nm s)) (hx0 : covers x pc = true) (h0 : x.catchType ≠ 0)
    (hlink : (Cond.classLink R_L x.catchType E).before args s = true) (hcast : va_Nw (.castable E E) s)
    (kk : ∀ (q9 : Addr) (H1 : Heap) (locs1 : List Loc), H.size ≤ H1.size → (∀ q : Nat, q < H.size → H1[q]? = H[q]?) → va_S A H0 H1 locs1 → W p l e R s m args below meth c H1 locs1 (cells + 1) (slots + 6) Q (F0 m x.handlerPc ls [.ref q9])) : W p l e R s m args below meth c H locs cells slots Q (F0 m pc ls st0) := by
  refine vx_callv hr hS (fun q _ h => h.elim) (fun q h => h.elim) (fun q _ h => h.elim) (fun E' ce q9 u t H1 locs1 ht _ _ hE hz hk hS1 hce hcv hcl => ?_) (fun u t H1 locs1 _ _ hp _ _ _ _ => hp.elim)
  have hE : E' = E := hE
  subst hE
  exact vx_catch hown pre x suf hsplit hpass hx0 h0 hlink (va_Nw.use rfl hcast) hce hcv hcl (kk q9 H1 locs1 hz (fun q hq => hk q hq (fun h => h)) hS1)
end HR
theorem lk_13 : Cond.classLink R_L 13 E_A ∈ kT := mk_T 152 rfl rfl
theorem lk_15 : Cond.classLink R_L 15 E_S ∈ kT := mk_T 153 rfl rfl
theorem lk_40 : Cond.classLink R_L 40 E_X ∈ kT := mk_T 367 rfl rfl
