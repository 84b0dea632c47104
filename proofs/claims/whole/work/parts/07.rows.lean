/-! a contract's start and end, by the world's list of cells -/
def gA (al : List Nat) : Nat → Prop := fun q => q ∈ al
def gPc (D : va_G) (tys : List (ClassId × FieldType)) (w : va_W) (av : List Value) : Array Value → State → Prop := va_Pc av (fun U => va_P D kcl w U.heap ∧ va_K D kcl tys U ∧ va_D (fun _ => True) w)
def gQi (D : va_G) (al : List Nat) (r : Int32) (w' : va_W) : Array Value → State → Outcome → State → Prop := va_Qi (S := Unit) (fun v _ => v = r) (fun _ t => va_P D kcl w' t.heap) (gA al)
def gQv (D : va_G) (al : List Nat) (w' : va_W) : Array Value → State → Outcome → State → Prop := va_Qv (S := Unit) (fun _ => True) (fun _ t => va_P D kcl w' t.heap) (gA al)
theorem gD {w : va_W} {al : List Nat} (h : w.map (fun q => q.1) = al) {B : Nat → Prop} (hD : va_D B w) : va_D (gA al) w := by
  refine ⟨hD.1, fun k q hk => ?_⟩
  subst h
  exact List.mem_map.mpr ⟨q, List.mem_of_getElem? hk, rfl⟩
theorem g_bl {D : va_G} {tys : List (ClassId × FieldType)} {w : va_W} {av : List Value} : FrameBlind (gPc D tys w av) := fun a U g mk q => by
  obtain ⟨q0, qP, qK, qD⟩ := q
  exact ⟨q0, qP, va_K.moved (u := U) (U := U.calling g mk a) (Vm.Alike.refl U.vm) qK, qD⟩
section GRr
variable {p : Program} {l : Launch} {e : Env} {R : Room} {s : State} {m : MethodId} {args : Array Value} {below : List Frame} {meth : Method} {c : Code} {H : Heap} {locs : List Loc} {cells slots : Nat} {Q : State → Prop}
variable {cc : ByteArray} {pc : Nat} {ls : Array Slot} {rest st0 : List Value} {D : va_G} {A B : Nat → Prop} {H0 : Heap} {tys : List (ClassId × FieldType)} {w w' : va_W} {al : List Nat} {a : Array Value}
theorem g_pre (hK : va_K D kcl tys s) (hP : va_P D kcl w H) (hD : va_D B w) (av : List Value) : ∀ U : State, U.heap = H → s.WarmedH U.vm → gPc D tys w av av.toArray U := fun U hU hW =>
  ⟨rfl, by rw [hU]; exact hP, va_K.moved hW.alike hK, hD.weaken (fun _ _ _ _ => trivial)⟩
theorem g_preS (hK : va_K D kcl tys s) (hP : va_P D kcl w H) (hD : va_D B w) {av : List Value} : PreS s H (gPc D tys w av) av := ⟨g_bl, g_pre hK hP hD av⟩
theorem g_preV (hK : va_K D kcl tys s) (hP : va_P D kcl w H) (hD : va_D B w) {b : Nat} {As : List Value} {q : vw_C} {ci q0 : Nat} {fs : List Value} (hc : kcl[ci]? = some q) (he : w[q0]? = some (b, .inr (ci, fs))) : PreV s H q.1 b (gPc D tys w (.ref b :: As)) As :=
  ⟨g_bl, va_recv hK hP hc he, g_pre hK hP hD (.ref b :: As)⟩
/-- ends of methods that only read -/
theorem r_reti (hx : p.tables.exec = Jvm.exec) (hb : c.code = cc) (hr : meth.sig.returnType = some .int) (hlocks : meth.locks = false) {v r : Int32} (hv : v = r) (hdg : decode cc pc = .ok (.ireturn, 1)) : W p l e R s m args below meth c s.heap [] cells slots (MQ below (QcRead r) args s cells slots (fun _ => False)) (F0 m pc ls [.int v]) :=
  W.iret hx hb hr (fun t ht _ => ⟨by rw [hv], ht⟩) (fun q h => nomatch h) hdg hlocks
theorem r_retz (hx : p.tables.exec = Jvm.exec) (hb : c.code = cc) (hr : meth.sig.returnType = some .boolean) (hlocks : meth.locks = false) {v r : Int32} (hn : v = 0 ∨ v = 1) (hv : v = r) (hdg : decode cc pc = .ok (.ireturn, 1)) : W p l e R s m args below meth c s.heap [] cells slots (MQ below (QcRead r) args s cells slots (fun _ => False)) (F0 m pc ls [.int v]) :=
  W.zret (ty := .boolean) hx hb hr (by rcases hn with rfl | rfl <;> decide +kernel) (fun t ht _ => ⟨by rw [hv], ht⟩) (fun q h => nomatch h) hdg hlocks
theorem r_retq (hx : p.tables.exec = Jvm.exec) (hb : c.code = cc) {C : String} (hr : meth.sig.returnType = some (.object C)) (hlocks : meth.locks = false) {v : Value} {r : Option Nat} (hv : v = va_rf r) (hdg : decode cc pc = .ok (.areturn, 1)) : W p l e R s m args below meth c s.heap [] cells slots (MQ below (va_Sq (fun q => q = r)) args s cells slots (fun _ => False)) (F0 m pc ls [v]) :=
  W.aret hx hb hr (Or.inl ⟨C, rfl⟩) (by rw [hv]; exact va_rf_or r) (fun t ht _ => ⟨r, by rw [hv], rfl, ht⟩) (fun q h => nomatch h) hdg hlocks
/-- ends of methods that write -/
theorem g_reti (hx : p.tables.exec = Jvm.exec) (hb : c.code = cc) (hr : meth.sig.returnType = some .int) (hlocks : meth.locks = false) {v r : Int32} (hv : v = r) (he : w = w') (hP : va_P D kcl w H) (hS : va_S (gA al) s.heap H locs) (hdg : decode cc pc = .ok (.ireturn, 1)) : W p l e R s m args below meth c H locs cells slots (MQ below (gQi D al r w') args s cells slots (gA al)) (F0 m pc ls [.int v]) :=
  W.iret hx hb hr (fun t ht _ => ⟨⟨v, (), rfl, hv, by show va_P D kcl w' t.heap; rw [ht, ← he]; exact hP⟩, hS.F ht⟩) hS.2.2 hdg hlocks
theorem g_retz (hx : p.tables.exec = Jvm.exec) (hb : c.code = cc) (hr : meth.sig.returnType = some .boolean) (hlocks : meth.locks = false) {v r : Int32} (hn : v = 0 ∨ v = 1) (hv : v = r) (he : w = w') (hP : va_P D kcl w H) (hS : va_S (gA al) s.heap H locs) (hdg : decode cc pc = .ok (.ireturn, 1)) : W p l e R s m args below meth c H locs cells slots (MQ below (gQi D al r w') args s cells slots (gA al)) (F0 m pc ls [.int v]) :=
  W.zret (ty := .boolean) hx hb hr (by rcases hn with rfl | rfl <;> decide +kernel) (fun t ht _ => ⟨⟨v, (), rfl, hv, by show va_P D kcl w' t.heap; rw [ht, ← he]; exact hP⟩, hS.F ht⟩) hS.2.2 hdg hlocks
theorem g_retv (hx : p.tables.exec = Jvm.exec) (hb : c.code = cc) (hr : meth.sig.returnType = none) (hlocks : meth.locks = false) (he : w = w') (hP : va_P D kcl w H) (hS : va_S (gA al) s.heap H locs) (hdg : decode cc pc = .ok (.return_, 1)) : W p l e R s m args below meth c H locs cells slots (MQ below (gQv D al w') args s cells slots (gA al)) (F0 m pc ls []) :=
  W.vret hx hb hr (fun t ht _ => ⟨⟨(), rfl, trivial, by show va_P D kcl w' t.heap; rw [ht, ← he]; exact hP⟩, hS.F ht⟩) hS.2.2 hdg hlocks
/-- behind calls -/
theorem r_calli {r : Int32} (hr : CallRun p l e R s m args below meth c H locs cells slots 0 0 (F0 m pc ls st0) rest (QcRead r a) (fun _ => False)) (kk : W p l e R s m args below meth c H locs cells slots Q (F0 m (pc + 3) ls (.int r :: rest))) : W p l e R s m args below meth c H locs cells slots Q (F0 m pc ls st0) := W.callR hr kk
theorem r_callq {r : Option Nat} (hr : CallRun p l e R s m args below meth c H locs cells slots 0 0 (F0 m pc ls st0) rest (va_Sq (fun q => q = r) a) (fun _ => False)) (kk : W p l e R s m args below meth c H locs cells slots Q (F0 m (pc + 3) ls (va_rf r :: rest))) : W p l e R s m args below meth c H locs cells slots Q (F0 m pc ls st0) := va_csq hr (fun q hq => by subst hq; exact kk)
theorem g_calli {r : Int32} (hr : va_Run p l e R s m args below meth c H locs cells slots 0 0 (F0 m pc ls st0) rest (gQi D al r w' a) (gA al)) (hD : va_D (gA al) w) (hS : va_S (gA al) H0 H locs) (he : w.map (fun q => q.1) = w'.map (fun q => q.1))
    (kk : ∀ (H1 : Heap) (locs1 : List Loc), va_P D kcl w' H1 → va_D (gA al) w' → va_S (gA al) H0 H1 locs1 → W p l e R s m args below meth c H1 locs1 cells slots Q (F0 m (pc + 3) ls (.int r :: rest))) : W p l e R s m args below meth c H locs cells slots Q (F0 m pc ls st0) := by
  refine va_calli hr hS (fun q _ h => h) (fun q h => h) (fun r1 u t H1 locs1 ht _ hw hB _ _ hS1 => ?_)
  subst hw
  rw [ht] at hB
  exact kk H1 locs1 hB (vd_addr he hD) hS1
theorem g_callv (hr : va_Run p l e R s m args below meth c H locs cells slots 0 0 (F0 m pc ls st0) rest (gQv D al w' a) (gA al)) (hD : va_D (gA al) w) (hS : va_S (gA al) H0 H locs) (he : w.map (fun q => q.1) = w'.map (fun q => q.1))
    (kk : ∀ (H1 : Heap) (locs1 : List Loc), va_P D kcl w' H1 → va_D (gA al) w' → va_S (gA al) H0 H1 locs1 → W p l e R s m args below meth c H1 locs1 cells slots Q (F0 m (pc + 3) ls rest)) : W p l e R s m args below meth c H locs cells slots Q (F0 m pc ls st0) := by
  refine va_callv hr hS (fun q _ h => h) (fun q h => h) (fun u t H1 locs1 ht _ _ hB _ _ hS1 => ?_)
  rw [ht] at hB
  exact kk H1 locs1 hB (vd_addr he hD) hS1
end GRr
section KWr
variable {p : Program} {l : Launch} {e : Env} {R : Room} {s : State} {m : MethodId} {args : Array Value} {below : List Frame} {meth : Method} {c : Code} {H : Heap} {locs : List Loc} {cells slots : Nat} {Q : State → Prop}
variable {cc : ByteArray} {pc : Nat} {ls : Array Slot} {rest : List Value} {D : va_G} {A : Nat → Prop} {H0 : Heap} {cI cQ : ClassId} {α ad an : Nat → Nat} {n : Nat} {σ : kS}
/-- the numbers of an index -/
theorem ix_cl {x : Int32} {j N : Nat} (he : x = nI j) (hj : j < N) (hN : N < 2 ^ 31) : vp_in x N ∧ x.toNatClampNeg = j := by
  subst he
  exact ⟨vp_in_nI hj hN, nI_clamp (by omega)⟩
theorem kw_get (hx : p.tables.exec = Jvm.exec) (hb : c.code = cc) {own : String} {index : Nat} (hts : ∀ w ∈ kT, w.before args s = true) (hown : s.vm.findClass own = some m.cls) (hK : va_K D kcl (kty cI cQ) s) (hP : va_P D kcl (kw_w cI cQ α ad an n σ) H) (k : Nat) (hk : k < 13) (hlink : Cond.fieldLink own index R_K (T_K k).2.1 (T_K k).2.2.1 ∈ kT) {v : Value} (hv : (kw_ob α σ)[k]? = some v) (hdg : decode cc pc = .ok (.getfield index, 3))
    (kk : W p l e R s m args below meth c H locs cells slots Q (F0 m (pc + 3) ls (v :: rest))) : W p l e R s m args below meth c H locs cells slots Q (F0 m pc ls (.ref (α 0) :: rest)) :=
  va_get (C := R_K) (T := T_K) (N := 13) (ci := 0) hx hb hts in_K hown hK hP 0 kw_0 rfl k hk (hts _ hlink) (fun _ h => by rw [show (T_K k).1 = R_K from T_K1 k hk] at h; exact h) hv hdg kk
theorem kw_put (hx : p.tables.exec = Jvm.exec) (hb : c.code = cc) {own : String} {index : Nat} (hts : ∀ w ∈ kT, w.before args s = true) (hown : s.vm.findClass own = some m.cls) (hK : va_K D kcl (kty cI cQ) s) (hP : va_P D kcl (kw_w cI cQ α ad an n σ) H) (hD : va_D A (kw_w cI cQ α ad an n σ)) (hS : va_S A H0 H locs) (k : Nat) (hk : k = 1 ∨ k = 4 ∨ k = 6 ∨ k = 7 ∨ k = 8 ∨ k = 10 ∨ k = 11 ∨ k = 12) (hlink : Cond.fieldLink own index R_K (T_K k).2.1 (T_K k).2.2.1 ∈ kT) {v : Int32} {ty : FieldType} (hty : parseFieldDescriptor (T_K k).2.2.1 = some ty) (hn : narrow ty (.int v) = .int v) (hfit : fits ty (.int v) = true) (hdg : decode cc pc = .ok (.putfield index, 3))
    (kk : ∀ (H1 : Heap) (locs1 : List Loc), va_P D kcl (kw_w cI cQ α ad an n (k_f σ k v)) H1 → va_D A (kw_w cI cQ α ad an n (k_f σ k v)) → va_S A H0 H1 locs1 → W p l e R s m args below meth c H1 locs1 cells slots Q (F0 m (pc + 3) ls rest)) : W p l e R s m args below meth c H locs cells slots Q (F0 m pc ls (.int v :: .ref (α 0) :: rest)) := by
  have hk13 : k < 13 := by omega
  refine va_put (C := R_K) (T := T_K) (N := 13) (ci := 0) hx hb hts in_K ty_K ty_K_ok nm_K hown hK hP hD hS 0 kw_0 rfl k hk13 (hts _ hlink) (fun _ h => by rw [show (T_K k).1 = R_K from T_K1 k hk13] at h; exact h) (T_Kf k hk) hty hn hfit (by show k < 13; exact hk13) hdg (fun H1 locs1 h1 h2 h3 => ?_)
  rw [kw_0s k hk v] at h1 h2
  exact kk H1 locs1 h1 h2 h3
theorem kw_dget (hx : p.tables.exec = Jvm.exec) (hb : c.code = cc) {own : String} {index : Nat} (hts : ∀ w ∈ kT, w.before args s = true) (hown : s.vm.findClass own = some m.cls) (hK : va_K D kcl (kty cI cQ) s) (hP : va_P D kcl (kw_w cI cQ α ad an n σ) H) {i : Nat} (hi : i < n) (k : Nat) (hk : k < 10) (hlink : Cond.fieldLink own index R_D (T_D k).2.1 (T_D k).2.2.1 ∈ kT) {v : Value} (hv : (kw_dk an σ i)[k]? = some v) (hdg : decode cc pc = .ok (.getfield index, 3))
    (kk : W p l e R s m args below meth c H locs cells slots Q (F0 m (pc + 3) ls (v :: rest))) : W p l e R s m args below meth c H locs cells slots Q (F0 m pc ls (.ref (ad i) :: rest)) :=
  va_get (C := R_D) (T := T_D) (N := 10) (ci := 1) hx hb hts in_D hown hK hP (6 + i) (kw_3 hi) rfl k hk (hts _ hlink) (fun _ h => by rw [show (T_D k).1 = R_D from T_D1 k hk] at h; exact h) hv hdg kk
theorem kw_dput (hx : p.tables.exec = Jvm.exec) (hb : c.code = cc) {own : String} {index : Nat} (hts : ∀ w ∈ kT, w.before args s = true) (hown : s.vm.findClass own = some m.cls) (hK : va_K D kcl (kty cI cQ) s) (hP : va_P D kcl (kw_w cI cQ α ad an n σ) H) (hD : va_D A (kw_w cI cQ α ad an n σ)) (hS : va_S A H0 H locs) {i : Nat} (hi : i < n) (k : Nat) (hk : k = 3 ∨ k = 4 ∨ k = 5 ∨ k = 6 ∨ k = 7 ∨ k = 8 ∨ k = 9) (hlink : Cond.fieldLink own index R_D (T_D k).2.1 (T_D k).2.2.1 ∈ kT) {v : Int32} {ty : FieldType} (hty : parseFieldDescriptor (T_D k).2.2.1 = some ty) (hn : narrow ty (.int v) = .int v) (hfit : fits ty (.int v) = true) (hdg : decode cc pc = .ok (.putfield index, 3))
    (kk : ∀ (H1 : Heap) (locs1 : List Loc), va_P D kcl (kw_w cI cQ α ad an n (k_d σ i k v)) H1 → va_D A (kw_w cI cQ α ad an n (k_d σ i k v)) → va_S A H0 H1 locs1 → W p l e R s m args below meth c H1 locs1 cells slots Q (F0 m (pc + 3) ls rest)) : W p l e R s m args below meth c H locs cells slots Q (F0 m pc ls (.int v :: .ref (ad i) :: rest)) := by
  have hk10 : k < 10 := by omega
  refine va_put (C := R_D) (T := T_D) (N := 10) (ci := 1) hx hb hts in_D ty_D ty_D_ok nm_D hown hK hP hD hS (6 + i) (kw_3 hi) rfl k hk10 (hts _ hlink) (fun _ h => by rw [show (T_D k).1 = R_D from T_D1 k hk10] at h; exact h) (T_Df k hk) hty hn hfit (by show k < 10; exact hk10) hdg (fun H1 locs1 h1 h2 h3 => ?_)
  rw [kw_3s hi k hk v] at h1 h2
  exact kk H1 locs1 h1 h2 h3
theorem kw_lt (a : Nat) : kw_len a < 2 ^ 31 := by unfold kw_len; split <;> decide
theorem kw_ald (hx : p.tables.exec = Jvm.exec) (hb : c.code = cc) (hK : va_K D kcl (kty cI cQ) s) (hP : va_P D kcl (kw_w cI cQ α ad an n σ) H) (a : Nat) (ha : a < 4) {x : Int32} {j : Nat} (he : x = nI j) (hj : j < kw_len a) (hdg : decode cc pc = .ok (.iaload, 1))
    (kk : W p l e R s m args below meth c H locs cells slots Q (F0 m (pc + 1) ls (.int (σ.2.1 a j) :: rest))) : W p l e R s m args below meth c H locs cells slots Q (F0 m pc ls (.int x :: .ref (α (2 + a)) :: rest)) := by
  obtain ⟨h1, h2⟩ := ix_cl he hj (kw_lt a)
  refine va_iald hx hb hK hP (2 + a) 0 (kw_2 a ha) rfl h1 hdg ?_
  rw [h2]; exact kk
theorem kw_ast (hx : p.tables.exec = Jvm.exec) (hb : c.code = cc) (hK : va_K D kcl (kty cI cQ) s) (hP : va_P D kcl (kw_w cI cQ α ad an n σ) H) (hD : va_D A (kw_w cI cQ α ad an n σ)) (hS : va_S A H0 H locs) (a : Nat) (ha : a < 4) {x v : Int32} {j : Nat} (he : x = nI j) (hj : j < kw_len a) (hdg : decode cc pc = .ok (.iastore, 1))
    (kk : ∀ (H1 : Heap) (locs1 : List Loc), va_P D kcl (kw_w cI cQ α ad an n (k_a σ a j v)) H1 → va_D A (kw_w cI cQ α ad an n (k_a σ a j v)) → va_S A H0 H1 locs1 → W p l e R s m args below meth c H1 locs1 cells slots Q (F0 m (pc + 1) ls rest)) : W p l e R s m args below meth c H locs cells slots Q (F0 m pc ls (.int v :: .int x :: .ref (α (2 + a)) :: rest)) := by
  obtain ⟨h1, h2⟩ := ix_cl he hj (kw_lt a)
  refine va_iast hx hb hK hP hD hS (2 + a) 0 (kw_2 a ha) rfl h1 hdg (fun H1 locs1 q1 q2 q3 => ?_)
  rw [h2, kw_2s a ha] at q1 q2
  exact kk H1 locs1 q1 q2 q3
theorem kw_alen (hx : p.tables.exec = Jvm.exec) (hb : c.code = cc) (hK : va_K D kcl (kty cI cQ) s) (hP : va_P D kcl (kw_w cI cQ α ad an n σ) H) (a : Nat) (ha : a < 4) {v : Int32} (hv : nI (kw_len a) = v) (hdg : decode cc pc = .ok (.arraylength, 1))
    (kk : W p l e R s m args below meth c H locs cells slots Q (F0 m (pc + 1) ls (.int v :: rest))) : W p l e R s m args below meth c H locs cells slots Q (F0 m pc ls (.ref (α (2 + a)) :: rest)) :=
  va_alen hx hb hK hP (2 + a) 0 (kw_2 a ha) (ty := .int) rfl hv hdg kk
theorem kw_qlen (hx : p.tables.exec = Jvm.exec) (hb : c.code = cc) (hK : va_K D kcl (kty cI cQ) s) (hP : va_P D kcl (kw_w cI cQ α ad an n σ) H) (hdg : decode cc pc = .ok (.arraylength, 1))
    (kk : W p l e R s m args below meth c H locs cells slots Q (F0 m (pc + 1) ls (.int 8 :: rest))) : W p l e R s m args below meth c H locs cells slots Q (F0 m pc ls (.ref (α 1) :: rest)) :=
  va_alen hx hb hK hP 1 1 kw_1 (ty := .object R_D) rfl (v := 8) rfl hdg kk
theorem kw_qld (hx : p.tables.exec = Jvm.exec) (hb : c.code = cc) (hK : va_K D kcl (kty cI cQ) s) (hP : va_P D kcl (kw_w cI cQ α ad an n σ) H) {x : Int32} {j : Nat} (he : x = nI j) (hj : j < n) (hn : n ≤ 8) (hdg : decode cc pc = .ok (.aaload, 1))
    (kk : W p l e R s m args below meth c H locs cells slots Q (F0 m (pc + 1) ls (.ref (ad j) :: rest))) : W p l e R s m args below meth c H locs cells slots Q (F0 m pc ls (.int x :: .ref (α 1) :: rest)) := by
  obtain ⟨h1, h2⟩ := ix_cl he (show j < 8 by omega) (by decide)
  refine va_aldq hx hb hK hP 1 1 kw_1 (C := R_D) rfl h1 hdg ?_
  rw [h2, show kw_q ad n j = some (ad j) from if_pos hj]; exact kk
theorem kw_nlen (hx : p.tables.exec = Jvm.exec) (hb : c.code = cc) (hK : va_K D kcl (kty cI cQ) s) (hP : va_P D kcl (kw_w cI cQ α ad an n σ) H) {i : Nat} (hi : i < n) (hdg : decode cc pc = .ok (.arraylength, 1))
    (kk : W p l e R s m args below meth c H locs cells slots Q (F0 m (pc + 1) ls (.int 12 :: rest))) : W p l e R s m args below meth c H locs cells slots Q (F0 m pc ls (.ref (an i) :: rest)) :=
  va_alen hx hb hK hP (6 + n + i) 0 (kw_4 hi) (ty := .int) rfl (v := 12) rfl hdg kk
theorem kw_nld (hx : p.tables.exec = Jvm.exec) (hb : c.code = cc) (hK : va_K D kcl (kty cI cQ) s) (hP : va_P D kcl (kw_w cI cQ α ad an n σ) H) {i : Nat} (hi : i < n) {x : Int32} {j : Nat} (he : x = nI j) (hj : j < 12) (hdg : decode cc pc = .ok (.iaload, 1))
    (kk : W p l e R s m args below meth c H locs cells slots Q (F0 m (pc + 1) ls (.int (σ.2.2.2 i j) :: rest))) : W p l e R s m args below meth c H locs cells slots Q (F0 m pc ls (.int x :: .ref (an i) :: rest)) := by
  obtain ⟨h1, h2⟩ := ix_cl he hj (by decide)
  refine va_iald hx hb hK hP (6 + n + i) 0 (kw_4 hi) rfl h1 hdg ?_
  rw [h2]; exact kk
theorem kw_nst (hx : p.tables.exec = Jvm.exec) (hb : c.code = cc) (hK : va_K D kcl (kty cI cQ) s) (hP : va_P D kcl (kw_w cI cQ α ad an n σ) H) (hD : va_D A (kw_w cI cQ α ad an n σ)) (hS : va_S A H0 H locs) {i : Nat} (hi : i < n) {x v : Int32} {j : Nat} (he : x = nI j) (hj : j < 12) (hdg : decode cc pc = .ok (.iastore, 1))
    (kk : ∀ (H1 : Heap) (locs1 : List Loc), va_P D kcl (kw_w cI cQ α ad an n (k_n σ i j v)) H1 → va_D A (kw_w cI cQ α ad an n (k_n σ i j v)) → va_S A H0 H1 locs1 → W p l e R s m args below meth c H1 locs1 cells slots Q (F0 m (pc + 1) ls rest)) : W p l e R s m args below meth c H locs cells slots Q (F0 m pc ls (.int v :: .int x :: .ref (an i) :: rest)) := by
  obtain ⟨h1, h2⟩ := ix_cl he hj (by decide)
  refine va_iast hx hb hK hP hD hS (6 + n + i) 0 (kw_4 hi) rfl h1 hdg (fun H1 locs1 q1 q2 q3 => ?_)
  rw [h2, kw_4s hi] at q1 q2
  exact kk H1 locs1 q1 q2 q3
end KWr
/-! the reference's cells -/
def mw_ob (β : Nat → Nat) (τ : mS) : List Value := [.int (τ.1 0), .int (τ.1 1), .ref (β 2), .ref (β 3), .ref (β 4), .ref (β 5), .ref (β 6), .ref (β 7), .ref (β 8), .ref (β 9), .ref (β 10), .ref (β 11), .int (τ.1 12), .ref (β 13), .int (τ.1 14), .int (τ.1 15), .int (τ.1 16), .int (τ.1 17), .ref (β 18), .int (τ.1 19), .int (τ.1 20)]
def mw_len : Nat → Nat
  | 7 => 96
  | 8 => 16
  | 9 => 16
  | 13 => 300
  | 18 => 400
  | _ => 8
def mw_ix : Nat → Nat
  | 13 => 11
  | 18 => 12
  | a => a - 1
def mw_as (a : Nat) : Prop := a = 2 ∨ a = 3 ∨ a = 4 ∨ a = 5 ∨ a = 6 ∨ a = 7 ∨ a = 8 ∨ a = 9 ∨ a = 10 ∨ a = 11 ∨ a = 13 ∨ a = 18
def mw_is (k : Nat) : Prop := k = 0 ∨ k = 1 ∨ k = 12 ∨ k = 14 ∨ k = 15 ∨ k = 16 ∨ k = 17 ∨ k = 19 ∨ k = 20
def mw_w (cI : ClassId) (β : Nat → Nat) (τ : mS) : va_W := [(β 0, .inr (2, mw_ob β τ)), (β 2, .inl (cI, 8, .inl (τ.2 2))), (β 3, .inl (cI, 8, .inl (τ.2 3))), (β 4, .inl (cI, 8, .inl (τ.2 4))), (β 5, .inl (cI, 8, .inl (τ.2 5))), (β 6, .inl (cI, 8, .inl (τ.2 6))), (β 7, .inl (cI, 96, .inl (τ.2 7))), (β 8, .inl (cI, 16, .inl (τ.2 8))), (β 9, .inl (cI, 16, .inl (τ.2 9))), (β 10, .inl (cI, 8, .inl (τ.2 10))), (β 11, .inl (cI, 8, .inl (τ.2 11))), (β 13, .inl (cI, 300, .inl (τ.2 13))), (β 18, .inl (cI, 400, .inl (τ.2 18)))]
def mw_al (β : Nat → Nat) : List Nat := [β 0, β 2, β 3, β 4, β 5, β 6, β 7, β 8, β 9, β 10, β 11, β 13, β 18]
section MWa
variable {cI : ClassId} {β : Nat → Nat} {τ : mS}
theorem mw_0 : (mw_w cI β τ)[0]? = some (β 0, .inr (2, mw_ob β τ)) := rfl
theorem mw_1 (a : Nat) (ha : mw_as a) : (mw_w cI β τ)[mw_ix a]? = some (β a, .inl (cI, mw_len a, .inl (τ.2 a))) := by
  rcases ha with rfl | rfl | rfl | rfl | rfl | rfl | rfl | rfl | rfl | rfl | rfl | rfl <;> rfl
theorem mw_0s (k : Nat) (hk : mw_is k) (v : Int32) : (mw_w cI β τ).set 0 (β 0, .inr (2, (mw_ob β τ).set k (.int v))) = mw_w cI β (m_f τ k v) := by
  rcases hk with rfl | rfl | rfl | rfl | rfl | rfl | rfl | rfl | rfl <;> rfl
theorem mw_1s (a : Nat) (ha : mw_as a) (j : Nat) (v : Int32) : (mw_w cI β τ).set (mw_ix a) (β a, .inl (cI, mw_len a, .inl (upd (τ.2 a) j v))) = mw_w cI β (m_a τ a j v) := by
  rcases ha with rfl | rfl | rfl | rfl | rfl | rfl | rfl | rfl | rfl | rfl | rfl | rfl <;> rfl
theorem mw_addr : (mw_w cI β τ).map (fun q => q.1) = mw_al β := rfl
theorem mw_lt (a : Nat) : mw_len a < 2 ^ 31 := by unfold mw_len; split <;> decide
end MWa
section MWr
variable {p : Program} {l : Launch} {e : Env} {R : Room} {s : State} {m : MethodId} {args : Array Value} {below : List Frame} {meth : Method} {c : Code} {H : Heap} {locs : List Loc} {cells slots : Nat} {Q : State → Prop}
variable {cc : ByteArray} {pc : Nat} {ls : Array Slot} {rest : List Value} {D : va_G} {A : Nat → Prop} {H0 : Heap} {cI cQ : ClassId} {β : Nat → Nat} {τ : mS}
theorem mw_get (hx : p.tables.exec = Jvm.exec) (hb : c.code = cc) {own : String} {index : Nat} (hts : ∀ w ∈ kT, w.before args s = true) (hown : s.vm.findClass own = some m.cls) (hK : va_K D kcl (kty cI cQ) s) (hP : va_P D kcl (mw_w cI β τ) H) (k : Nat) (hk : k < 21) (hlink : Cond.fieldLink own index R_M (T_M k).2.1 (T_M k).2.2.1 ∈ kT) {v : Value} (hv : (mw_ob β τ)[k]? = some v) (hdg : decode cc pc = .ok (.getfield index, 3))
    (kk : W p l e R s m args below meth c H locs cells slots Q (F0 m (pc + 3) ls (v :: rest))) : W p l e R s m args below meth c H locs cells slots Q (F0 m pc ls (.ref (β 0) :: rest)) :=
  va_get (C := R_M) (T := T_M) (N := 21) (ci := 2) hx hb hts in_M hown hK hP 0 mw_0 rfl k hk (hts _ hlink) (fun _ h => by rw [show (T_M k).1 = R_M from T_M1 k hk] at h; exact h) hv hdg kk
theorem mw_put (hx : p.tables.exec = Jvm.exec) (hb : c.code = cc) {own : String} {index : Nat} (hts : ∀ w ∈ kT, w.before args s = true) (hown : s.vm.findClass own = some m.cls) (hK : va_K D kcl (kty cI cQ) s) (hP : va_P D kcl (mw_w cI β τ) H) (hD : va_D A (mw_w cI β τ)) (hS : va_S A H0 H locs) (k : Nat) (hk : mw_is k) (hlink : Cond.fieldLink own index R_M (T_M k).2.1 (T_M k).2.2.1 ∈ kT) {v : Int32} {ty : FieldType} (hty : parseFieldDescriptor (T_M k).2.2.1 = some ty) (hn : narrow ty (.int v) = .int v) (hfit : fits ty (.int v) = true) (hdg : decode cc pc = .ok (.putfield index, 3))
    (kk : ∀ (H1 : Heap) (locs1 : List Loc), va_P D kcl (mw_w cI β (m_f τ k v)) H1 → va_D A (mw_w cI β (m_f τ k v)) → va_S A H0 H1 locs1 → W p l e R s m args below meth c H1 locs1 cells slots Q (F0 m (pc + 3) ls rest)) : W p l e R s m args below meth c H locs cells slots Q (F0 m pc ls (.int v :: .ref (β 0) :: rest)) := by
  have hk21 : k < 21 := by unfold mw_is at hk; omega
  refine va_put (C := R_M) (T := T_M) (N := 21) (ci := 2) hx hb hts in_M ty_M ty_M_ok nm_M hown hK hP hD hS 0 mw_0 rfl k hk21 (hts _ hlink) (fun _ h => by rw [show (T_M k).1 = R_M from T_M1 k hk21] at h; exact h) (T_Mf k hk) hty hn hfit (by show k < 21; exact hk21) hdg (fun H1 locs1 h1 h2 h3 => ?_)
  rw [mw_0s k hk v] at h1 h2
  exact kk H1 locs1 h1 h2 h3
theorem mw_ald (hx : p.tables.exec = Jvm.exec) (hb : c.code = cc) (hK : va_K D kcl (kty cI cQ) s) (hP : va_P D kcl (mw_w cI β τ) H) (a : Nat) (ha : mw_as a) {x : Int32} {j : Nat} (he : x = nI j) (hj : j < mw_len a) (hdg : decode cc pc = .ok (.iaload, 1))
    (kk : W p l e R s m args below meth c H locs cells slots Q (F0 m (pc + 1) ls (.int (τ.2 a j) :: rest))) : W p l e R s m args below meth c H locs cells slots Q (F0 m pc ls (.int x :: .ref (β a) :: rest)) := by
  obtain ⟨h1, h2⟩ := ix_cl he hj (mw_lt a)
  refine va_iald hx hb hK hP (mw_ix a) 0 (mw_1 a ha) rfl h1 hdg ?_
  rw [h2]; exact kk
theorem mw_ast (hx : p.tables.exec = Jvm.exec) (hb : c.code = cc) (hK : va_K D kcl (kty cI cQ) s) (hP : va_P D kcl (mw_w cI β τ) H) (hD : va_D A (mw_w cI β τ)) (hS : va_S A H0 H locs) (a : Nat) (ha : mw_as a) {x v : Int32} {j : Nat} (he : x = nI j) (hj : j < mw_len a) (hdg : decode cc pc = .ok (.iastore, 1))
    (kk : ∀ (H1 : Heap) (locs1 : List Loc), va_P D kcl (mw_w cI β (m_a τ a j v)) H1 → va_D A (mw_w cI β (m_a τ a j v)) → va_S A H0 H1 locs1 → W p l e R s m args below meth c H1 locs1 cells slots Q (F0 m (pc + 1) ls rest)) : W p l e R s m args below meth c H locs cells slots Q (F0 m pc ls (.int v :: .int x :: .ref (β a) :: rest)) := by
  obtain ⟨h1, h2⟩ := ix_cl he hj (mw_lt a)
  refine va_iast hx hb hK hP hD hS (mw_ix a) 0 (mw_1 a ha) rfl h1 hdg (fun H1 locs1 q1 q2 q3 => ?_)
  rw [h2, mw_1s a ha] at q1 q2
  exact kk H1 locs1 q1 q2 q3
end MWr
