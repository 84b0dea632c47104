/-! Arrays.fill, and what a making begins with -/
def kd_fill (f : Nat → Int32) (v : Int32) : Nat → (Nat → Int32)
  | 0 => f
  | j + 1 => upd (kd_fill f v j) j v
theorem aw_int : Cond.arrayClass .int ∈ kT := mk_T 65 rfl rfl
set_option maxRecDepth 100000 in
theorem aw_long : Cond.arrayClass .long ∈ kT := mk_T 564 rfl rfl
theorem oi_im : Cond.instanceMethod Lib.objectInit ∈ kT := mk_T 18 rfl rfl
set_option maxRecDepth 100000 in
theorem oi_cd : Cond.code Lib.objectInit ⟨#[0xb1]⟩ 1 none ∈ kT := by decide +kernel
theorem oi_K : Cond.methodLink R_K 1 Lib.objectInit ∈ kT := mk_T 17 rfl rfl
theorem oi_D : Cond.methodLink R_D 3 Lib.objectInit ∈ kT := mk_T 247 rfl rfl
theorem oi_M : Cond.methodLink R_M 1 Lib.objectInit ∈ kT := mk_T 393 rfl rfl
theorem d1 {a : Nat} {e : va_E} : va_D (fun _ => True) [(a, e)] := by
  refine ⟨fun i j x y hi hj _ => ?_, fun _ _ _ => trivial⟩
  have h1 : i < 1 := (List.getElem?_eq_some_iff.mp hi).1
  have h2 : j < 1 := (List.getElem?_eq_some_iff.mp hj).1
  omega
set_option maxHeartbeats 4000000 in
set_option maxRecDepth 100000 in
theorem ct_A_fill (l : Launch) (D : va_G) (cI cQ : ClassId) (a : Nat) (f : Nat → Int32) (v : Int32) : Met l y_A_fill w_A_fill { frames := 0, cells := 0, slots := 0, locals := 0 } (gPc D (kty cI cQ) [(a, .inl (cI, 16, .inl f))] [.ref a, .int v]) (gQv D [a] [(a, .inl (cI, 16, .inl (kd_fill f v 16)))]) 0 0 (gA [a]) := by
  refine Met.ofW (cc := b_A_fill) (maxL := 4) (ret := none) (by decide) rfl ?_
  intro p e s m args below meth c s₁ B hml hv
  obtain ⟨rfl, hP, hK, hD⟩ := hv
  have hx := B.exec
  have hb := B.bytes
  have hr := B.returns
  have hlocks := B.notSynchronized
  have hD : va_D (gA [a]) [(a, .inl (cI, 16, .inl f))] := gD rfl hD
  have hS : va_S (gA [a]) s.heap s.heap [] := va_S.rf
  have hl := lv_entry ([.ref a, .int v]) (n := 4) (Nat.le_of_ble_eq_true rfl)
  rw [lg_entry_eq]
  generalize (lg_sl ([.ref a, .int v]) ++ List.replicate (4 - (lg_sl ([.ref a, .int v])).length) Slot.unset).toArray = ls at hl ⊢
  have hl : lv_has ls 4 [(0, .ref a), (1, .int v)] := hl
  refine lv_iconst (v := 0) hx hb d_A_fill_0 (by decide) ?_
  refine lv_istore_n (lv' := [(2, .int 0), (0, .ref a), (1, .int v)]) hx hb d_A_fill_1 rfl hl (by decide) rfl (fun ls hl => ?_)
  refine lv_aload_n hx hb d_A_fill_2 rfl (lv_at hl 1 rfl) ?_
  refine va_alen hx hb hK hP 0 0 rfl (ty := .int) rfl (v := 16) rfl d_A_fill_3 ?_
  refine lv_istore_n (lv' := [(3, .int 16), (2, .int 0), (0, .ref a), (1, .int v)]) hx hb d_A_fill_4 rfl hl (by decide) rfl (fun ls hl => ?_)
  have lp : ∀ (fu j : Nat) (H : Heap) (locs : List Loc) (ls : Array Slot), j ≤ 16 → 16 - j < fu → va_P D kcl [(a, .inl (cI, 16, .inl (kd_fill f v j)))] H → va_D (gA [a]) [(a, .inl (cI, 16, .inl (kd_fill f v j)))] → va_S (gA [a]) s.heap H locs → lv_has ls 4 [(3, .int 16), (2, .int (nI j)), (0, .ref a), (1, .int v)] →
      W p l e (headSpec w_A_fill { frames := 0, cells := 0, slots := 0, locals := 0 }).room s m [.ref a, .int v].toArray below meth c H locs 0 0 (MQ below (gQv D [a] [(a, .inl (cI, 16, .inl (kd_fill f v 16)))]) [.ref a, .int v].toArray s 0 0 (gA [a])) (F0 m 5 ls []) := by
    intro fu
    induction fu with
    | zero => intro j H locs ls h1 h2; omega
    | succ fu ih =>
      intro j H locs ls hj hf hP hD hS hl
      refine lv_iload_n hx hb d_A_fill_5 rfl (lv_at hl 1 rfl) ?_
      refine lv_iload_n hx hb d_A_fill_6 rfl (lv_at hl 0 rfl) ?_
      refine lv_icmp_ge (tgt := 20) hx hb d_A_fill_7 (by decide) (fun c7 => ?_) (fun c7 => ?_)
      · have : j = 16 := lp_eq (B := 16) (hn := by decide) c7 hj
        subst this
        exact g_retv hx hb hr hlocks rfl hP hS d_A_fill_20
      · have hlt : j < 16 := lp_lt (B := 16) (hn := by decide) c7 hj
        refine lv_aload_n hx hb d_A_fill_10 rfl (lv_at hl 2 rfl) ?_
        refine lv_iload_n hx hb d_A_fill_11 rfl (lv_at hl 1 rfl) ?_
        refine lv_iload_n hx hb d_A_fill_12 rfl (lv_at hl 3 rfl) ?_
        obtain ⟨h1, h2⟩ := ix_cl (x := nI j) rfl hlt (by decide)
        refine va_iast hx hb hK hP hD hS 0 0 rfl rfl h1 d_A_fill_13 (fun H locs hP hD hS => ?_)
        rw [h2] at hP hD
        refine lv_iinc (v := nI (j + 1)) (lv' := [(2, .int (nI (j + 1))), (3, .int 16), (0, .ref a), (1, .int v)]) hx hb d_A_fill_14 hl (k := 1) rfl (nI_1 j) (by decide) rfl (fun ls hl => ?_)
        refine lv_goto (tgt := 5) hx hb d_A_fill_17 (by decide) ?_
        exact ih (j + 1) _ _ ls (by omega) (by omega) hP hD hS (lv_sub hl [1, 0, 2, 3] rfl)
  exact lp 17 0 _ _ ls (by omega) (by omega) hP hD hS hl
section XNA
variable {p : Program} {l : Launch} {e : Env} {R : Room} {s : State} {m : MethodId} {args : Array Value} {below : List Frame} {meth : Method} {c : Code} {H : Heap} {locs : List Loc} {cells slots : Nat} {Q : State → Prop}
variable {cc : ByteArray} {pc : Nat} {ls : Array Slot} {rest : List Value} {D : va_G} {A : Nat → Prop} {H0 : Heap} {cI cQ : ClassId} {ws : va_W}
theorem x_newa (hx : p.tables.exec = Jvm.exec) (hb : c.code = cc) (hts : ∀ w ∈ kT, w.before args s = true) (hK : va_K D kcl (kty cI cQ) s) (hP : va_P D kcl ws H) (hD : va_D A ws) (hS : va_S A H0 H locs) (hA : ∀ q, H0.size ≤ q → A q)
    {n : Int32} (N : Nat) (hn : ¬ n < 0) (hN : n.toNatClampNeg = N) (hbytes : N * 4 ≤ 536870912) (hcells : cells + 1 ≤ R.cells) (hslots : slots + N ≤ R.slots) (hdg : decode cc pc = .ok (.newarray .int, 2))
    (kk : ∀ (q : Nat) (H1 : Heap), va_P D kcl (ws ++ [(q, .inl (cI, N, .inl (fun _ => 0)))]) H1 → va_D A (ws ++ [(q, .inl (cI, N, .inl (fun _ => 0)))]) → va_S A H0 H1 locs → W p l e R s m args below meth c H1 locs (cells + 1) (slots + N) Q (F0 m (pc + 2) ls (.ref q :: rest))) : W p l e R s m args below meth c H locs cells slots Q (F0 m pc ls (.int n :: rest)) := by
  refine va_newa (atype := .int) (ty := .int) hx hb (hts _ aw_int) rfl hK hP hD hS hA (a0 := (N, .inl (fun _ => 0))) (fun cA => rfl) hn hN hbytes hcells hslots hdg (fun q cA H1 h1 h2 h3 h4 => ?_)
  have e1 : s.vm.findClass ("[" ++ FieldType.int.toString) = some cA := (h1.2 2 (cA, .int) rfl).2
  have e2 : s.vm.findClass ("[" ++ FieldType.int.toString) = some cI := (hK.2 0 (cI, .int) rfl).2
  obtain rfl := Option.some.inj (e1.symm.trans e2)
  exact kk q H1 h2 h3 h4
theorem x_newq (hx : p.tables.exec = Jvm.exec) (hb : c.code = cc) (hts : ∀ w ∈ kT, w.before args s = true) (hown : s.vm.findClass R_K = some m.cls) {ix : Nat} (hlk : Cond.classLink R_K ix R_D ∈ kT) (hAO : va_AO R_D s) (hK : va_K D kcl (kty cI cQ) s) (hP : va_P D kcl ws H) (hD : va_D A ws) (hS : va_S A H0 H locs) (hA : ∀ q, H0.size ≤ q → A q)
    {n : Int32} (N : Nat) (hn : ¬ n < 0) (hN : n.toNatClampNeg = N) (hbytes : N * 4 ≤ 536870912) (hcells : cells + 1 ≤ R.cells) (hslots : slots + N ≤ R.slots) (hdg : decode cc pc = .ok (.anewarray ix, 3))
    (kk : ∀ (q : Nat) (H1 : Heap), va_P D kcl (ws ++ [(q, .inl (cQ, N, .inr (.inr (.inr (.inr (fun _ => none))))))]) H1 → va_D A (ws ++ [(q, .inl (cQ, N, .inr (.inr (.inr (.inr (fun _ => none))))))]) → va_S A H0 H1 locs → W p l e R s m args below meth c H1 locs (cells + 1) (slots + N) Q (F0 m (pc + 3) ls (.ref q :: rest))) : W p l e R s m args below meth c H locs cells slots Q (F0 m pc ls (.int n :: rest)) := by
  refine va_newq hx hb hown (hts _ hlk) hAO hK hP hD hS hA hn hN hbytes hcells hslots hdg (fun q cA H1 h1 h2 h3 h4 => ?_)
  obtain ⟨k1, c1, -, -, -, e1⟩ := (h1.2 2 (cA, .object R_D) rfl).2
  obtain ⟨k2, c2, -, -, -, e2⟩ := (hK.2 1 (cQ, .object R_D) rfl).2
  obtain rfl := Option.some.inj (e1.symm.trans e2)
  exact kk q H1 h2 h3 h4
end XNA
