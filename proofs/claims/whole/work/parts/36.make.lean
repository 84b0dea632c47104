/-- which cells a making may change -/
theorem va_A1 {o : Nat} {e : va_E} {sz q : Nat} (h : va_A [(o, e)] sz q) : q = o ∨ sz ≤ q := by
  rcases h with ⟨k, e', h⟩ | h
  · have hk : k < 1 := (List.getElem?_eq_some_iff.mp h).1
    rw [show k = 0 by omega] at h
    cases h
    exact Or.inl rfl
  · exact Or.inr h
theorem va_ge {A : Nat → Prop} {o sz : Nat} {ws : va_W} (hD : va_D A ws) (hAo : ∀ q : Nat, A q → q = o ∨ sz ≤ q) {e0 : va_E} (h0 : ws[0]? = some (o, e0)) {k q : Nat} {e : va_E} (hk : ws[k]? = some (q, e)) (hk0 : k ≠ 0) : sz ≤ q := by
  rcases hAo q (hD.2 k _ hk) with h | h
  · exact absurd (hD.1 k 0 _ _ hk h0 h) hk0
  · exact h
def k_init : kS := (fun _ => 0, fun a => match a with
  | 0 => kd_fill (fun _ => 0) (-1) 16
  | _ => fun _ => 0, fun _ _ => 0, fun _ _ => 0)
def m_init : mS := (fun _ => 0, fun a => match a with
  | 8 => kd_fill (fun _ => 0) (-1) 16
  | _ => fun _ => 0)
theorem kw_q0 (ad : Nat → Nat) : kw_q ad 0 = fun _ => none := by
  funext j
  simp [kw_q]

abbrev d0_D : va_E := .inr (1, [.int 0, .int 0, .null, .int 0, .int 0, .int 0, .int 0, .int 0, .int 0, .int 0])
set_option maxHeartbeats 4000000 in
set_option maxRecDepth 100000 in
theorem ct_D_init (l : Launch) (D : va_G) (cI cQ : ClassId) (o N0 : Nat) (x y z : Int32) : Met l y_D_init w_D_init { frames := 1, cells := 1, slots := 12, locals := 20 } (va_Pc [.ref o, .int x, .int y, .int z] (fun U => U.heap.size = N0 ∧ va_P D kcl [(o, d0_D)] U.heap ∧ va_K D kcl (kty cI cQ) U)) (va_Qv (S := Nat) (fun q => N0 ≤ q) (fun q t => va_P D kcl [(o, .inr (1, [.int x, .int y, .ref q, .int z, .int 0, .int 0, .int (-1), .int 0, .int 0, .int 0])), (q, .inl (cI, 12, .inl (fun _ => 0)))] t.heap) (va_A [(o, d0_D)] N0)) 1 12 (va_A [(o, d0_D)] N0) := by
  refine Met.ofW (cc := b_D_init) (maxL := 4) (ret := none) (by decide) rfl ?_
  intro p e s m args below meth c s₁ B hml hv
  obtain ⟨rfl, hsz, hP, hK⟩ := hv
  have hx := B.exec
  have hb := B.bytes
  have hr := B.returns
  have hts : ∀ w ∈ kT, w.before [.ref o, .int x, .int y, .int z].toArray s = true := fun w h => atoms_spec (ws := w_D_init) B.pre w (List.mem_cons_of_mem _ h)
  have hown : s.vm.findClass R_D = some m.cls := findClass_of_methodNamed B.named
  have hlocks := B.notSynchronized
  have hin : meth.name = "<init>" := (name_of_methodNamed B.named B.method).1
  subst hsz
  have hD := (d1 (a := o) (e := d0_D)).self (sz := s.heap.size)
  generalize hAe : va_A [(o, d0_D)] s.heap.size = A at hD ⊢
  have hA : ∀ q : Nat, s.heap.size ≤ q → A q := fun q h => by rw [← hAe]; exact Or.inr h
  have hAo : ∀ q : Nat, A q → q = o ∨ s.heap.size ≤ q := fun q h => by rw [← hAe] at h; exact va_A1 h
  have hS : va_S A s.heap s.heap [] := va_S.rf
  have hl := lv_entry ([.ref o, .int x, .int y, .int z]) (n := 4) (Nat.le_of_ble_eq_true rfl)
  rw [lg_entry_eq]
  generalize (lg_sl ([.ref o, .int x, .int y, .int z]) ++ List.replicate (4 - (lg_sl ([.ref o, .int x, .int y, .int z])).length) Slot.unset).toArray = ls at hl ⊢
  have hl : lv_has ls 4 [(0, .ref o), (1, .int x), (2, .int y), (3, .int z)] := hl
  refine lv_aload_n hx hb d_D_init_0 rfl (lv_at hl 0 rfl) ?_
  refine W.objInit hx hb hown (hts _ oi_D) (hts _ oi_im) (hts _ oi_cd) rfl (by rw [hml]; exact hl.1) rfl d_D_init_1 (Nat.le_of_ble_eq_true rfl) (Nat.le_of_ble_eq_true rfl) ?_
  refine W.eq (g2 := F0 m 4 ls []) rfl ?_
  refine lv_aload_n hx hb d_D_init_4 rfl (lv_at hl 0 rfl) ?_
  refine lv_bipush (v := 12) hx hb d_D_init_5 (by decide) ?_
  refine x_newa hx hb hts hK hP hD hS hA 12 (by decide) (by decide) (by decide) (Nat.le_of_ble_eq_true rfl) (Nat.le_of_ble_eq_true rfl) d_D_init_7 (fun q1 H hP hD hS => ?_)
  refine W.widen (k := 1) (n := 12) (Nat.le_of_ble_eq_true rfl) (Nat.le_of_ble_eq_true rfl) ?_
  have hP : va_P D kcl [(o, .inr (1, [.int 0, .int 0, .null, .int 0, .int 0, .int 0, .int 0, .int 0, .int 0, .int 0])), (q1, .inl (cI, 12, .inl (fun _ => 0)))] H := hP
  have hD : va_D A [(o, .inr (1, [.int 0, .int 0, .null, .int 0, .int 0, .int 0, .int 0, .int 0, .int 0, .int 0])), (q1, .inl (cI, 12, .inl (fun _ => 0)))] := hD
  refine va_putF (C := R_D) (T := T_D) (N := 10) (ci := 1) (v := .ref q1) (ty := .array .int) hx hb hts in_D ty_D ty_D_ok nm_D hown hK hP hD hS 0 rfl rfl 2 (by decide) (hts _ fl_D_9) (fun _ h => h) rfl hin rfl (by decide +kernel) rfl rfl (Nat.le_of_ble_eq_true rfl) d_D_init_9 (fun H locs hP hD hS => ?_)
  have hP : va_P D kcl [(o, .inr (1, [.int 0, .int 0, .ref q1, .int 0, .int 0, .int 0, .int 0, .int 0, .int 0, .int 0])), (q1, .inl (cI, 12, .inl (fun _ => 0)))] H := hP
  have hD : va_D A [(o, .inr (1, [.int 0, .int 0, .ref q1, .int 0, .int 0, .int 0, .int 0, .int 0, .int 0, .int 0])), (q1, .inl (cI, 12, .inl (fun _ => 0)))] := hD
  refine lv_aload_n hx hb d_D_init_12 rfl (lv_at hl 0 rfl) ?_
  refine lv_iconst (v := 0) hx hb d_D_init_13 (by decide) ?_
  refine va_put (C := R_D) (T := T_D) (N := 10) (ci := 1) (v := .int 0) (ty := .int) hx hb hts in_D ty_D ty_D_ok nm_D hown hK hP hD hS 0 rfl rfl 4 (by decide) (hts _ fl_D_15) (fun _ h => h) rfl (by decide +kernel) rfl rfl (Nat.le_of_ble_eq_true rfl) d_D_init_14 (fun H locs hP hD hS => ?_)
  have hP : va_P D kcl [(o, .inr (1, [.int 0, .int 0, .ref q1, .int 0, .int 0, .int 0, .int 0, .int 0, .int 0, .int 0])), (q1, .inl (cI, 12, .inl (fun _ => 0)))] H := hP
  have hD : va_D A [(o, .inr (1, [.int 0, .int 0, .ref q1, .int 0, .int 0, .int 0, .int 0, .int 0, .int 0, .int 0])), (q1, .inl (cI, 12, .inl (fun _ => 0)))] := hD
  refine lv_aload_n hx hb d_D_init_17 rfl (lv_at hl 0 rfl) ?_
  refine lv_iconst (v := 0) hx hb d_D_init_18 (by decide) ?_
  refine va_put (C := R_D) (T := T_D) (N := 10) (ci := 1) (v := .int 0) (ty := .int) hx hb hts in_D ty_D ty_D_ok nm_D hown hK hP hD hS 0 rfl rfl 5 (by decide) (hts _ fl_D_19) (fun _ h => h) rfl (by decide +kernel) rfl rfl (Nat.le_of_ble_eq_true rfl) d_D_init_19 (fun H locs hP hD hS => ?_)
  have hP : va_P D kcl [(o, .inr (1, [.int 0, .int 0, .ref q1, .int 0, .int 0, .int 0, .int 0, .int 0, .int 0, .int 0])), (q1, .inl (cI, 12, .inl (fun _ => 0)))] H := hP
  have hD : va_D A [(o, .inr (1, [.int 0, .int 0, .ref q1, .int 0, .int 0, .int 0, .int 0, .int 0, .int 0, .int 0])), (q1, .inl (cI, 12, .inl (fun _ => 0)))] := hD
  refine lv_aload_n hx hb d_D_init_22 rfl (lv_at hl 0 rfl) ?_
  refine lv_iconst (v := (-1)) hx hb d_D_init_23 (by decide) ?_
  refine va_put (C := R_D) (T := T_D) (N := 10) (ci := 1) (v := .int (-1)) (ty := .int) hx hb hts in_D ty_D ty_D_ok nm_D hown hK hP hD hS 0 rfl rfl 6 (by decide) (hts _ fl_D_22) (fun _ h => h) rfl (by decide +kernel) rfl rfl (Nat.le_of_ble_eq_true rfl) d_D_init_24 (fun H locs hP hD hS => ?_)
  have hP : va_P D kcl [(o, .inr (1, [.int 0, .int 0, .ref q1, .int 0, .int 0, .int 0, .int (-1), .int 0, .int 0, .int 0])), (q1, .inl (cI, 12, .inl (fun _ => 0)))] H := hP
  have hD : va_D A [(o, .inr (1, [.int 0, .int 0, .ref q1, .int 0, .int 0, .int 0, .int (-1), .int 0, .int 0, .int 0])), (q1, .inl (cI, 12, .inl (fun _ => 0)))] := hD
  refine lv_aload_n hx hb d_D_init_27 rfl (lv_at hl 0 rfl) ?_
  refine lv_iconst (v := 0) hx hb d_D_init_28 (by decide) ?_
  refine va_put (C := R_D) (T := T_D) (N := 10) (ci := 1) (v := .int 0) (ty := .int) hx hb hts in_D ty_D ty_D_ok nm_D hown hK hP hD hS 0 rfl rfl 7 (by decide) (hts _ fl_D_25) (fun _ h => h) rfl (by decide +kernel) rfl rfl (Nat.le_of_ble_eq_true rfl) d_D_init_29 (fun H locs hP hD hS => ?_)
  have hP : va_P D kcl [(o, .inr (1, [.int 0, .int 0, .ref q1, .int 0, .int 0, .int 0, .int (-1), .int 0, .int 0, .int 0])), (q1, .inl (cI, 12, .inl (fun _ => 0)))] H := hP
  have hD : va_D A [(o, .inr (1, [.int 0, .int 0, .ref q1, .int 0, .int 0, .int 0, .int (-1), .int 0, .int 0, .int 0])), (q1, .inl (cI, 12, .inl (fun _ => 0)))] := hD
  refine lv_aload_n hx hb d_D_init_32 rfl (lv_at hl 0 rfl) ?_
  refine lv_iconst (v := 0) hx hb d_D_init_33 (by decide) ?_
  refine va_put (C := R_D) (T := T_D) (N := 10) (ci := 1) (v := .int 0) (ty := .boolean) hx hb hts in_D ty_D ty_D_ok nm_D hown hK hP hD hS 0 rfl rfl 8 (by decide) (hts _ fl_D_28) (fun _ h => h) rfl (by decide +kernel) rfl rfl (Nat.le_of_ble_eq_true rfl) d_D_init_34 (fun H locs hP hD hS => ?_)
  have hP : va_P D kcl [(o, .inr (1, [.int 0, .int 0, .ref q1, .int 0, .int 0, .int 0, .int (-1), .int 0, .int 0, .int 0])), (q1, .inl (cI, 12, .inl (fun _ => 0)))] H := hP
  have hD : va_D A [(o, .inr (1, [.int 0, .int 0, .ref q1, .int 0, .int 0, .int 0, .int (-1), .int 0, .int 0, .int 0])), (q1, .inl (cI, 12, .inl (fun _ => 0)))] := hD
  refine lv_aload_n hx hb d_D_init_37 rfl (lv_at hl 0 rfl) ?_
  refine lv_iconst (v := 0) hx hb d_D_init_38 (by decide) ?_
  refine va_put (C := R_D) (T := T_D) (N := 10) (ci := 1) (v := .int 0) (ty := .boolean) hx hb hts in_D ty_D ty_D_ok nm_D hown hK hP hD hS 0 rfl rfl 9 (by decide) (hts _ fl_D_32) (fun _ h => h) rfl (by decide +kernel) rfl rfl (Nat.le_of_ble_eq_true rfl) d_D_init_39 (fun H locs hP hD hS => ?_)
  have hP : va_P D kcl [(o, .inr (1, [.int 0, .int 0, .ref q1, .int 0, .int 0, .int 0, .int (-1), .int 0, .int 0, .int 0])), (q1, .inl (cI, 12, .inl (fun _ => 0)))] H := hP
  have hD : va_D A [(o, .inr (1, [.int 0, .int 0, .ref q1, .int 0, .int 0, .int 0, .int (-1), .int 0, .int 0, .int 0])), (q1, .inl (cI, 12, .inl (fun _ => 0)))] := hD
  refine lv_aload_n hx hb d_D_init_42 rfl (lv_at hl 0 rfl) ?_
  refine lv_iload_n hx hb d_D_init_43 rfl (lv_at hl 1 rfl) ?_
  refine va_putF (C := R_D) (T := T_D) (N := 10) (ci := 1) (v := .int x) (ty := .int) hx hb hts in_D ty_D ty_D_ok nm_D hown hK hP hD hS 0 rfl rfl 0 (by decide) (hts _ fl_D_35) (fun _ h => h) rfl hin rfl (by decide +kernel) rfl rfl (Nat.le_of_ble_eq_true rfl) d_D_init_44 (fun H locs hP hD hS => ?_)
  have hP : va_P D kcl [(o, .inr (1, [.int x, .int 0, .ref q1, .int 0, .int 0, .int 0, .int (-1), .int 0, .int 0, .int 0])), (q1, .inl (cI, 12, .inl (fun _ => 0)))] H := hP
  have hD : va_D A [(o, .inr (1, [.int x, .int 0, .ref q1, .int 0, .int 0, .int 0, .int (-1), .int 0, .int 0, .int 0])), (q1, .inl (cI, 12, .inl (fun _ => 0)))] := hD
  refine lv_aload_n hx hb d_D_init_47 rfl (lv_at hl 0 rfl) ?_
  refine lv_iload_n hx hb d_D_init_48 rfl (lv_at hl 2 rfl) ?_
  refine va_putF (C := R_D) (T := T_D) (N := 10) (ci := 1) (v := .int y) (ty := .int) hx hb hts in_D ty_D ty_D_ok nm_D hown hK hP hD hS 0 rfl rfl 1 (by decide) (hts _ fl_D_38) (fun _ h => h) rfl hin rfl (by decide +kernel) rfl rfl (Nat.le_of_ble_eq_true rfl) d_D_init_49 (fun H locs hP hD hS => ?_)
  have hP : va_P D kcl [(o, .inr (1, [.int x, .int y, .ref q1, .int 0, .int 0, .int 0, .int (-1), .int 0, .int 0, .int 0])), (q1, .inl (cI, 12, .inl (fun _ => 0)))] H := hP
  have hD : va_D A [(o, .inr (1, [.int x, .int y, .ref q1, .int 0, .int 0, .int 0, .int (-1), .int 0, .int 0, .int 0])), (q1, .inl (cI, 12, .inl (fun _ => 0)))] := hD
  refine lv_aload_n hx hb d_D_init_52 rfl (lv_at hl 0 rfl) ?_
  refine lv_iload_n hx hb d_D_init_53 rfl (lv_at hl 3 rfl) ?_
  refine va_put (C := R_D) (T := T_D) (N := 10) (ci := 1) (v := .int z) (ty := .int) hx hb hts in_D ty_D ty_D_ok nm_D hown hK hP hD hS 0 rfl rfl 3 (by decide) (hts _ fl_D_41) (fun _ h => h) rfl (by decide +kernel) rfl rfl (Nat.le_of_ble_eq_true rfl) d_D_init_54 (fun H locs hP hD hS => ?_)
  have hP : va_P D kcl [(o, .inr (1, [.int x, .int y, .ref q1, .int z, .int 0, .int 0, .int (-1), .int 0, .int 0, .int 0])), (q1, .inl (cI, 12, .inl (fun _ => 0)))] H := hP
  have hD : va_D A [(o, .inr (1, [.int x, .int y, .ref q1, .int z, .int 0, .int 0, .int (-1), .int 0, .int 0, .int 0])), (q1, .inl (cI, 12, .inl (fun _ => 0)))] := hD
  exact W.vret hx hb hr (fun t ht _ => ⟨⟨q1, rfl, va_ge hD hAo rfl (k := 1) rfl (by decide), by show va_P D kcl _ t.heap; rw [ht]; exact hP⟩, hS.F ht⟩) hS.2.2 d_D_init_57 hlocks
abbrev d0_K : va_E := .inr (0, [.null, .int 0, .null, .null, .int 0, .null, .int 0, .int 0, .int 0, .null, .int 0, .int 0, .int 0])
theorem cl_K_9 : Cond.classLink R_K 9 R_D ∈ kT := mk_T 20 rfl rfl
set_option maxHeartbeats 4000000 in
set_option maxRecDepth 100000 in
theorem ct_K_init (l : Launch) (D : va_G) (cI cQ : ClassId) (o N0 : Nat) : Met l y_K_init w_K_init { frames := 1, cells := 5, slots := 740, locals := 23 } (va_Pc [.ref o] (fun U => U.heap.size = N0 ∧ va_P D kcl [(o, d0_K)] U.heap ∧ va_K D kcl (kty cI cQ) U ∧ va_AO R_D U)) (va_Qv (S := Nat → Nat) (fun α => α 0 = o ∧ (∀ k, 1 ≤ k → N0 ≤ α k) ∧ va_D (fun _ => True) (kw_w cI cQ α (fun _ => 0) (fun _ => 0) 0 k_init)) (fun α t => va_P D kcl (kw_w cI cQ α (fun _ => 0) (fun _ => 0) 0 k_init) t.heap) (va_A [(o, d0_K)] N0)) 5 740 (va_A [(o, d0_K)] N0) := by
  refine Met.ofW (cc := b_K_init) (maxL := 1) (ret := none) (by decide) rfl ?_
  intro p e s m args below meth c s₁ B hml hv
  obtain ⟨rfl, hsz, hP, hK, hAO⟩ := hv
  have hx := B.exec
  have hb := B.bytes
  have hr := B.returns
  have hts : ∀ w ∈ kT, w.before [.ref o].toArray s = true := fun w h => atoms_spec (ws := w_K_init) B.pre w (List.mem_cons_of_mem _ h)
  have hown : s.vm.findClass R_K = some m.cls := findClass_of_methodNamed B.named
  have hlocks := B.notSynchronized
  have hin : meth.name = "<init>" := (name_of_methodNamed B.named B.method).1
  subst hsz
  have hD := (d1 (a := o) (e := d0_K)).self (sz := s.heap.size)
  generalize hAe : va_A [(o, d0_K)] s.heap.size = A at hD ⊢
  have hA : ∀ q : Nat, s.heap.size ≤ q → A q := fun q h => by rw [← hAe]; exact Or.inr h
  have hAo : ∀ q : Nat, A q → q = o ∨ s.heap.size ≤ q := fun q h => by rw [← hAe] at h; exact va_A1 h
  have hS : va_S A s.heap s.heap [] := va_S.rf
  have hl := lv_entry ([.ref o]) (n := 1) (Nat.le_of_ble_eq_true rfl)
  rw [lg_entry_eq]
  generalize (lg_sl ([.ref o]) ++ List.replicate (1 - (lg_sl ([.ref o])).length) Slot.unset).toArray = ls at hl ⊢
  have hl : lv_has ls 1 [(0, .ref o)] := hl
  refine lv_aload_n hx hb d_K_init_0 rfl (lv_at hl 0 rfl) ?_
  refine W.objInit hx hb hown (hts _ oi_K) (hts _ oi_im) (hts _ oi_cd) rfl (by rw [hml]; exact hl.1) rfl d_K_init_1 (Nat.le_of_ble_eq_true rfl) (Nat.le_of_ble_eq_true rfl) ?_
  refine W.eq (g2 := F0 m 4 ls []) rfl ?_
  refine lv_aload_n hx hb d_K_init_4 rfl (lv_at hl 0 rfl) ?_
  refine lv_bipush (v := 8) hx hb d_K_init_5 (by decide) ?_
  refine x_newq hx hb hts hown cl_K_9 hAO hK hP hD hS hA 8 (by decide) (by decide) (by decide) (Nat.le_of_ble_eq_true rfl) (Nat.le_of_ble_eq_true rfl) d_K_init_7 (fun q1 H hP hD hS => ?_)
  refine W.widen (k := 1) (n := 8) (Nat.le_of_ble_eq_true rfl) (Nat.le_of_ble_eq_true rfl) ?_
  have hP : va_P D kcl [(o, .inr (0, [.null, .int 0, .null, .null, .int 0, .null, .int 0, .int 0, .int 0, .null, .int 0, .int 0, .int 0])), (q1, .inl (cQ, 8, .inr (.inr (.inr (.inr (fun _ => none))))))] H := hP
  have hD : va_D A [(o, .inr (0, [.null, .int 0, .null, .null, .int 0, .null, .int 0, .int 0, .int 0, .null, .int 0, .int 0, .int 0])), (q1, .inl (cQ, 8, .inr (.inr (.inr (.inr (fun _ => none))))))] := hD
  refine va_putF (C := R_K) (T := T_K) (N := 13) (ci := 0) (v := .ref q1) (ty := .array (.object R_D)) hx hb hts in_K ty_K ty_K_ok nm_K hown hK hP hD hS 0 rfl rfl 0 (by decide) (hts _ fl_K_11) (fun _ h => h) rfl hin rfl (by decide +kernel) rfl rfl (Nat.le_of_ble_eq_true rfl) d_K_init_10 (fun H locs hP hD hS => ?_)
  have hP : va_P D kcl [(o, .inr (0, [.ref q1, .int 0, .null, .null, .int 0, .null, .int 0, .int 0, .int 0, .null, .int 0, .int 0, .int 0])), (q1, .inl (cQ, 8, .inr (.inr (.inr (.inr (fun _ => none))))))] H := hP
  have hD : va_D A [(o, .inr (0, [.ref q1, .int 0, .null, .null, .int 0, .null, .int 0, .int 0, .int 0, .null, .int 0, .int 0, .int 0])), (q1, .inl (cQ, 8, .inr (.inr (.inr (.inr (fun _ => none))))))] := hD
  refine lv_aload_n hx hb d_K_init_13 rfl (lv_at hl 0 rfl) ?_
  refine lv_iconst (v := 0) hx hb d_K_init_14 (by decide) ?_
  refine va_put (C := R_K) (T := T_K) (N := 13) (ci := 0) (v := .int 0) (ty := .int) hx hb hts in_K ty_K ty_K_ok nm_K hown hK hP hD hS 0 rfl rfl 1 (by decide) (hts _ fl_K_15) (fun _ h => h) rfl (by decide +kernel) rfl rfl (Nat.le_of_ble_eq_true rfl) d_K_init_15 (fun H locs hP hD hS => ?_)
  have hP : va_P D kcl [(o, .inr (0, [.ref q1, .int 0, .null, .null, .int 0, .null, .int 0, .int 0, .int 0, .null, .int 0, .int 0, .int 0])), (q1, .inl (cQ, 8, .inr (.inr (.inr (.inr (fun _ => none))))))] H := hP
  have hD : va_D A [(o, .inr (0, [.ref q1, .int 0, .null, .null, .int 0, .null, .int 0, .int 0, .int 0, .null, .int 0, .int 0, .int 0])), (q1, .inl (cQ, 8, .inr (.inr (.inr (.inr (fun _ => none))))))] := hD
  refine lv_aload_n hx hb d_K_init_18 rfl (lv_at hl 0 rfl) ?_
  refine lv_bipush (v := 16) hx hb d_K_init_19 (by decide) ?_
  refine x_newa hx hb hts hK hP hD hS hA 16 (by decide) (by decide) (by decide) (Nat.le_of_ble_eq_true rfl) (Nat.le_of_ble_eq_true rfl) d_K_init_21 (fun q2 H hP hD hS => ?_)
  refine W.widen (k := 2) (n := 24) (Nat.le_of_ble_eq_true rfl) (Nat.le_of_ble_eq_true rfl) ?_
  have hP : va_P D kcl [(o, .inr (0, [.ref q1, .int 0, .null, .null, .int 0, .null, .int 0, .int 0, .int 0, .null, .int 0, .int 0, .int 0])), (q1, .inl (cQ, 8, .inr (.inr (.inr (.inr (fun _ => none)))))), (q2, .inl (cI, 16, .inl (fun _ => 0)))] H := hP
  have hD : va_D A [(o, .inr (0, [.ref q1, .int 0, .null, .null, .int 0, .null, .int 0, .int 0, .int 0, .null, .int 0, .int 0, .int 0])), (q1, .inl (cQ, 8, .inr (.inr (.inr (.inr (fun _ => none)))))), (q2, .inl (cI, 16, .inl (fun _ => 0)))] := hD
  refine va_putF (C := R_K) (T := T_K) (N := 13) (ci := 0) (v := .ref q2) (ty := .array .int) hx hb hts in_K ty_K ty_K_ok nm_K hown hK hP hD hS 0 rfl rfl 2 (by decide) (hts _ fl_K_19) (fun _ h => h) rfl hin rfl (by decide +kernel) rfl rfl (Nat.le_of_ble_eq_true rfl) d_K_init_23 (fun H locs hP hD hS => ?_)
  have hP : va_P D kcl [(o, .inr (0, [.ref q1, .int 0, .ref q2, .null, .int 0, .null, .int 0, .int 0, .int 0, .null, .int 0, .int 0, .int 0])), (q1, .inl (cQ, 8, .inr (.inr (.inr (.inr (fun _ => none)))))), (q2, .inl (cI, 16, .inl (fun _ => 0)))] H := hP
  have hD : va_D A [(o, .inr (0, [.ref q1, .int 0, .ref q2, .null, .int 0, .null, .int 0, .int 0, .int 0, .null, .int 0, .int 0, .int 0])), (q1, .inl (cQ, 8, .inr (.inr (.inr (.inr (fun _ => none)))))), (q2, .inl (cI, 16, .inl (fun _ => 0)))] := hD
  refine lv_aload_n hx hb d_K_init_26 rfl (lv_at hl 0 rfl) ?_
  refine lv_bipush (v := 16) hx hb d_K_init_27 (by decide) ?_
  refine x_newa hx hb hts hK hP hD hS hA 16 (by decide) (by decide) (by decide) (Nat.le_of_ble_eq_true rfl) (Nat.le_of_ble_eq_true rfl) d_K_init_29 (fun q3 H hP hD hS => ?_)
  refine W.widen (k := 3) (n := 40) (Nat.le_of_ble_eq_true rfl) (Nat.le_of_ble_eq_true rfl) ?_
  have hP : va_P D kcl [(o, .inr (0, [.ref q1, .int 0, .ref q2, .null, .int 0, .null, .int 0, .int 0, .int 0, .null, .int 0, .int 0, .int 0])), (q1, .inl (cQ, 8, .inr (.inr (.inr (.inr (fun _ => none)))))), (q2, .inl (cI, 16, .inl (fun _ => 0))), (q3, .inl (cI, 16, .inl (fun _ => 0)))] H := hP
  have hD : va_D A [(o, .inr (0, [.ref q1, .int 0, .ref q2, .null, .int 0, .null, .int 0, .int 0, .int 0, .null, .int 0, .int 0, .int 0])), (q1, .inl (cQ, 8, .inr (.inr (.inr (.inr (fun _ => none)))))), (q2, .inl (cI, 16, .inl (fun _ => 0))), (q3, .inl (cI, 16, .inl (fun _ => 0)))] := hD
  refine va_putF (C := R_K) (T := T_K) (N := 13) (ci := 0) (v := .ref q3) (ty := .array .int) hx hb hts in_K ty_K ty_K_ok nm_K hown hK hP hD hS 0 rfl rfl 3 (by decide) (hts _ fl_K_23) (fun _ h => h) rfl hin rfl (by decide +kernel) rfl rfl (Nat.le_of_ble_eq_true rfl) d_K_init_31 (fun H locs hP hD hS => ?_)
  have hP : va_P D kcl [(o, .inr (0, [.ref q1, .int 0, .ref q2, .ref q3, .int 0, .null, .int 0, .int 0, .int 0, .null, .int 0, .int 0, .int 0])), (q1, .inl (cQ, 8, .inr (.inr (.inr (.inr (fun _ => none)))))), (q2, .inl (cI, 16, .inl (fun _ => 0))), (q3, .inl (cI, 16, .inl (fun _ => 0)))] H := hP
  have hD : va_D A [(o, .inr (0, [.ref q1, .int 0, .ref q2, .ref q3, .int 0, .null, .int 0, .int 0, .int 0, .null, .int 0, .int 0, .int 0])), (q1, .inl (cQ, 8, .inr (.inr (.inr (.inr (fun _ => none)))))), (q2, .inl (cI, 16, .inl (fun _ => 0))), (q3, .inl (cI, 16, .inl (fun _ => 0)))] := hD
  refine lv_aload_n hx hb d_K_init_34 rfl (lv_at hl 0 rfl) ?_
  refine lv_iconst (v := 0) hx hb d_K_init_35 (by decide) ?_
  refine va_put (C := R_K) (T := T_K) (N := 13) (ci := 0) (v := .int 0) (ty := .int) hx hb hts in_K ty_K ty_K_ok nm_K hown hK hP hD hS 0 rfl rfl 4 (by decide) (hts _ fl_K_26) (fun _ h => h) rfl (by decide +kernel) rfl rfl (Nat.le_of_ble_eq_true rfl) d_K_init_36 (fun H locs hP hD hS => ?_)
  have hP : va_P D kcl [(o, .inr (0, [.ref q1, .int 0, .ref q2, .ref q3, .int 0, .null, .int 0, .int 0, .int 0, .null, .int 0, .int 0, .int 0])), (q1, .inl (cQ, 8, .inr (.inr (.inr (.inr (fun _ => none)))))), (q2, .inl (cI, 16, .inl (fun _ => 0))), (q3, .inl (cI, 16, .inl (fun _ => 0)))] H := hP
  have hD : va_D A [(o, .inr (0, [.ref q1, .int 0, .ref q2, .ref q3, .int 0, .null, .int 0, .int 0, .int 0, .null, .int 0, .int 0, .int 0])), (q1, .inl (cQ, 8, .inr (.inr (.inr (.inr (fun _ => none)))))), (q2, .inl (cI, 16, .inl (fun _ => 0))), (q3, .inl (cI, 16, .inl (fun _ => 0)))] := hD
  refine lv_aload_n hx hb d_K_init_39 rfl (lv_at hl 0 rfl) ?_
  refine lv_sipush (v := 300) hx hb d_K_init_40 (by decide) ?_
  refine x_newa hx hb hts hK hP hD hS hA 300 (by decide) (by decide) (by decide) (Nat.le_of_ble_eq_true rfl) (Nat.le_of_ble_eq_true rfl) d_K_init_43 (fun q4 H hP hD hS => ?_)
  refine W.widen (k := 4) (n := 340) (Nat.le_of_ble_eq_true rfl) (Nat.le_of_ble_eq_true rfl) ?_
  have hP : va_P D kcl [(o, .inr (0, [.ref q1, .int 0, .ref q2, .ref q3, .int 0, .null, .int 0, .int 0, .int 0, .null, .int 0, .int 0, .int 0])), (q1, .inl (cQ, 8, .inr (.inr (.inr (.inr (fun _ => none)))))), (q2, .inl (cI, 16, .inl (fun _ => 0))), (q3, .inl (cI, 16, .inl (fun _ => 0))), (q4, .inl (cI, 300, .inl (fun _ => 0)))] H := hP
  have hD : va_D A [(o, .inr (0, [.ref q1, .int 0, .ref q2, .ref q3, .int 0, .null, .int 0, .int 0, .int 0, .null, .int 0, .int 0, .int 0])), (q1, .inl (cQ, 8, .inr (.inr (.inr (.inr (fun _ => none)))))), (q2, .inl (cI, 16, .inl (fun _ => 0))), (q3, .inl (cI, 16, .inl (fun _ => 0))), (q4, .inl (cI, 300, .inl (fun _ => 0)))] := hD
  refine va_putF (C := R_K) (T := T_K) (N := 13) (ci := 0) (v := .ref q4) (ty := .array .int) hx hb hts in_K ty_K ty_K_ok nm_K hown hK hP hD hS 0 rfl rfl 5 (by decide) (hts _ fl_K_29) (fun _ h => h) rfl hin rfl (by decide +kernel) rfl rfl (Nat.le_of_ble_eq_true rfl) d_K_init_45 (fun H locs hP hD hS => ?_)
  have hP : va_P D kcl [(o, .inr (0, [.ref q1, .int 0, .ref q2, .ref q3, .int 0, .ref q4, .int 0, .int 0, .int 0, .null, .int 0, .int 0, .int 0])), (q1, .inl (cQ, 8, .inr (.inr (.inr (.inr (fun _ => none)))))), (q2, .inl (cI, 16, .inl (fun _ => 0))), (q3, .inl (cI, 16, .inl (fun _ => 0))), (q4, .inl (cI, 300, .inl (fun _ => 0)))] H := hP
  have hD : va_D A [(o, .inr (0, [.ref q1, .int 0, .ref q2, .ref q3, .int 0, .ref q4, .int 0, .int 0, .int 0, .null, .int 0, .int 0, .int 0])), (q1, .inl (cQ, 8, .inr (.inr (.inr (.inr (fun _ => none)))))), (q2, .inl (cI, 16, .inl (fun _ => 0))), (q3, .inl (cI, 16, .inl (fun _ => 0))), (q4, .inl (cI, 300, .inl (fun _ => 0)))] := hD
  refine lv_aload_n hx hb d_K_init_48 rfl (lv_at hl 0 rfl) ?_
  refine lv_iconst (v := 0) hx hb d_K_init_49 (by decide) ?_
  refine va_put (C := R_K) (T := T_K) (N := 13) (ci := 0) (v := .int 0) (ty := .int) hx hb hts in_K ty_K ty_K_ok nm_K hown hK hP hD hS 0 rfl rfl 6 (by decide) (hts _ fl_K_32) (fun _ h => h) rfl (by decide +kernel) rfl rfl (Nat.le_of_ble_eq_true rfl) d_K_init_50 (fun H locs hP hD hS => ?_)
  have hP : va_P D kcl [(o, .inr (0, [.ref q1, .int 0, .ref q2, .ref q3, .int 0, .ref q4, .int 0, .int 0, .int 0, .null, .int 0, .int 0, .int 0])), (q1, .inl (cQ, 8, .inr (.inr (.inr (.inr (fun _ => none)))))), (q2, .inl (cI, 16, .inl (fun _ => 0))), (q3, .inl (cI, 16, .inl (fun _ => 0))), (q4, .inl (cI, 300, .inl (fun _ => 0)))] H := hP
  have hD : va_D A [(o, .inr (0, [.ref q1, .int 0, .ref q2, .ref q3, .int 0, .ref q4, .int 0, .int 0, .int 0, .null, .int 0, .int 0, .int 0])), (q1, .inl (cQ, 8, .inr (.inr (.inr (.inr (fun _ => none)))))), (q2, .inl (cI, 16, .inl (fun _ => 0))), (q3, .inl (cI, 16, .inl (fun _ => 0))), (q4, .inl (cI, 300, .inl (fun _ => 0)))] := hD
  refine lv_aload_n hx hb d_K_init_53 rfl (lv_at hl 0 rfl) ?_
  refine lv_iconst (v := 0) hx hb d_K_init_54 (by decide) ?_
  refine va_put (C := R_K) (T := T_K) (N := 13) (ci := 0) (v := .int 0) (ty := .int) hx hb hts in_K ty_K ty_K_ok nm_K hown hK hP hD hS 0 rfl rfl 7 (by decide) (hts _ fl_K_35) (fun _ h => h) rfl (by decide +kernel) rfl rfl (Nat.le_of_ble_eq_true rfl) d_K_init_55 (fun H locs hP hD hS => ?_)
  have hP : va_P D kcl [(o, .inr (0, [.ref q1, .int 0, .ref q2, .ref q3, .int 0, .ref q4, .int 0, .int 0, .int 0, .null, .int 0, .int 0, .int 0])), (q1, .inl (cQ, 8, .inr (.inr (.inr (.inr (fun _ => none)))))), (q2, .inl (cI, 16, .inl (fun _ => 0))), (q3, .inl (cI, 16, .inl (fun _ => 0))), (q4, .inl (cI, 300, .inl (fun _ => 0)))] H := hP
  have hD : va_D A [(o, .inr (0, [.ref q1, .int 0, .ref q2, .ref q3, .int 0, .ref q4, .int 0, .int 0, .int 0, .null, .int 0, .int 0, .int 0])), (q1, .inl (cQ, 8, .inr (.inr (.inr (.inr (fun _ => none)))))), (q2, .inl (cI, 16, .inl (fun _ => 0))), (q3, .inl (cI, 16, .inl (fun _ => 0))), (q4, .inl (cI, 300, .inl (fun _ => 0)))] := hD
  refine lv_aload_n hx hb d_K_init_58 rfl (lv_at hl 0 rfl) ?_
  refine lv_iconst (v := 0) hx hb d_K_init_59 (by decide) ?_
  refine va_put (C := R_K) (T := T_K) (N := 13) (ci := 0) (v := .int 0) (ty := .int) hx hb hts in_K ty_K ty_K_ok nm_K hown hK hP hD hS 0 rfl rfl 8 (by decide) (hts _ fl_K_38) (fun _ h => h) rfl (by decide +kernel) rfl rfl (Nat.le_of_ble_eq_true rfl) d_K_init_60 (fun H locs hP hD hS => ?_)
  have hP : va_P D kcl [(o, .inr (0, [.ref q1, .int 0, .ref q2, .ref q3, .int 0, .ref q4, .int 0, .int 0, .int 0, .null, .int 0, .int 0, .int 0])), (q1, .inl (cQ, 8, .inr (.inr (.inr (.inr (fun _ => none)))))), (q2, .inl (cI, 16, .inl (fun _ => 0))), (q3, .inl (cI, 16, .inl (fun _ => 0))), (q4, .inl (cI, 300, .inl (fun _ => 0)))] H := hP
  have hD : va_D A [(o, .inr (0, [.ref q1, .int 0, .ref q2, .ref q3, .int 0, .ref q4, .int 0, .int 0, .int 0, .null, .int 0, .int 0, .int 0])), (q1, .inl (cQ, 8, .inr (.inr (.inr (.inr (fun _ => none)))))), (q2, .inl (cI, 16, .inl (fun _ => 0))), (q3, .inl (cI, 16, .inl (fun _ => 0))), (q4, .inl (cI, 300, .inl (fun _ => 0)))] := hD
  refine lv_aload_n hx hb d_K_init_63 rfl (lv_at hl 0 rfl) ?_
  refine lv_sipush (v := 400) hx hb d_K_init_64 (by decide) ?_
  refine x_newa hx hb hts hK hP hD hS hA 400 (by decide) (by decide) (by decide) (Nat.le_of_ble_eq_true rfl) (Nat.le_of_ble_eq_true rfl) d_K_init_67 (fun q5 H hP hD hS => ?_)
  refine W.widen (k := 5) (n := 740) (Nat.le_of_ble_eq_true rfl) (Nat.le_of_ble_eq_true rfl) ?_
  have hP : va_P D kcl [(o, .inr (0, [.ref q1, .int 0, .ref q2, .ref q3, .int 0, .ref q4, .int 0, .int 0, .int 0, .null, .int 0, .int 0, .int 0])), (q1, .inl (cQ, 8, .inr (.inr (.inr (.inr (fun _ => none)))))), (q2, .inl (cI, 16, .inl (fun _ => 0))), (q3, .inl (cI, 16, .inl (fun _ => 0))), (q4, .inl (cI, 300, .inl (fun _ => 0))), (q5, .inl (cI, 400, .inl (fun _ => 0)))] H := hP
  have hD : va_D A [(o, .inr (0, [.ref q1, .int 0, .ref q2, .ref q3, .int 0, .ref q4, .int 0, .int 0, .int 0, .null, .int 0, .int 0, .int 0])), (q1, .inl (cQ, 8, .inr (.inr (.inr (.inr (fun _ => none)))))), (q2, .inl (cI, 16, .inl (fun _ => 0))), (q3, .inl (cI, 16, .inl (fun _ => 0))), (q4, .inl (cI, 300, .inl (fun _ => 0))), (q5, .inl (cI, 400, .inl (fun _ => 0)))] := hD
  refine va_putF (C := R_K) (T := T_K) (N := 13) (ci := 0) (v := .ref q5) (ty := .array .int) hx hb hts in_K ty_K ty_K_ok nm_K hown hK hP hD hS 0 rfl rfl 9 (by decide) (hts _ fl_K_41) (fun _ h => h) rfl hin rfl (by decide +kernel) rfl rfl (Nat.le_of_ble_eq_true rfl) d_K_init_69 (fun H locs hP hD hS => ?_)
  have hP : va_P D kcl [(o, .inr (0, [.ref q1, .int 0, .ref q2, .ref q3, .int 0, .ref q4, .int 0, .int 0, .int 0, .ref q5, .int 0, .int 0, .int 0])), (q1, .inl (cQ, 8, .inr (.inr (.inr (.inr (fun _ => none)))))), (q2, .inl (cI, 16, .inl (fun _ => 0))), (q3, .inl (cI, 16, .inl (fun _ => 0))), (q4, .inl (cI, 300, .inl (fun _ => 0))), (q5, .inl (cI, 400, .inl (fun _ => 0)))] H := hP
  have hD : va_D A [(o, .inr (0, [.ref q1, .int 0, .ref q2, .ref q3, .int 0, .ref q4, .int 0, .int 0, .int 0, .ref q5, .int 0, .int 0, .int 0])), (q1, .inl (cQ, 8, .inr (.inr (.inr (.inr (fun _ => none)))))), (q2, .inl (cI, 16, .inl (fun _ => 0))), (q3, .inl (cI, 16, .inl (fun _ => 0))), (q4, .inl (cI, 300, .inl (fun _ => 0))), (q5, .inl (cI, 400, .inl (fun _ => 0)))] := hD
  refine lv_aload_n hx hb d_K_init_72 rfl (lv_at hl 0 rfl) ?_
  refine lv_iconst (v := 0) hx hb d_K_init_73 (by decide) ?_
  refine va_put (C := R_K) (T := T_K) (N := 13) (ci := 0) (v := .int 0) (ty := .int) hx hb hts in_K ty_K ty_K_ok nm_K hown hK hP hD hS 0 rfl rfl 10 (by decide) (hts _ fl_K_44) (fun _ h => h) rfl (by decide +kernel) rfl rfl (Nat.le_of_ble_eq_true rfl) d_K_init_74 (fun H locs hP hD hS => ?_)
  have hP : va_P D kcl [(o, .inr (0, [.ref q1, .int 0, .ref q2, .ref q3, .int 0, .ref q4, .int 0, .int 0, .int 0, .ref q5, .int 0, .int 0, .int 0])), (q1, .inl (cQ, 8, .inr (.inr (.inr (.inr (fun _ => none)))))), (q2, .inl (cI, 16, .inl (fun _ => 0))), (q3, .inl (cI, 16, .inl (fun _ => 0))), (q4, .inl (cI, 300, .inl (fun _ => 0))), (q5, .inl (cI, 400, .inl (fun _ => 0)))] H := hP
  have hD : va_D A [(o, .inr (0, [.ref q1, .int 0, .ref q2, .ref q3, .int 0, .ref q4, .int 0, .int 0, .int 0, .ref q5, .int 0, .int 0, .int 0])), (q1, .inl (cQ, 8, .inr (.inr (.inr (.inr (fun _ => none)))))), (q2, .inl (cI, 16, .inl (fun _ => 0))), (q3, .inl (cI, 16, .inl (fun _ => 0))), (q4, .inl (cI, 300, .inl (fun _ => 0))), (q5, .inl (cI, 400, .inl (fun _ => 0)))] := hD
  refine lv_aload_n hx hb d_K_init_77 rfl (lv_at hl 0 rfl) ?_
  refine lv_iconst (v := 0) hx hb d_K_init_78 (by decide) ?_
  refine va_put (C := R_K) (T := T_K) (N := 13) (ci := 0) (v := .int 0) (ty := .int) hx hb hts in_K ty_K ty_K_ok nm_K hown hK hP hD hS 0 rfl rfl 11 (by decide) (hts _ fl_K_47) (fun _ h => h) rfl (by decide +kernel) rfl rfl (Nat.le_of_ble_eq_true rfl) d_K_init_79 (fun H locs hP hD hS => ?_)
  have hP : va_P D kcl [(o, .inr (0, [.ref q1, .int 0, .ref q2, .ref q3, .int 0, .ref q4, .int 0, .int 0, .int 0, .ref q5, .int 0, .int 0, .int 0])), (q1, .inl (cQ, 8, .inr (.inr (.inr (.inr (fun _ => none)))))), (q2, .inl (cI, 16, .inl (fun _ => 0))), (q3, .inl (cI, 16, .inl (fun _ => 0))), (q4, .inl (cI, 300, .inl (fun _ => 0))), (q5, .inl (cI, 400, .inl (fun _ => 0)))] H := hP
  have hD : va_D A [(o, .inr (0, [.ref q1, .int 0, .ref q2, .ref q3, .int 0, .ref q4, .int 0, .int 0, .int 0, .ref q5, .int 0, .int 0, .int 0])), (q1, .inl (cQ, 8, .inr (.inr (.inr (.inr (fun _ => none)))))), (q2, .inl (cI, 16, .inl (fun _ => 0))), (q3, .inl (cI, 16, .inl (fun _ => 0))), (q4, .inl (cI, 300, .inl (fun _ => 0))), (q5, .inl (cI, 400, .inl (fun _ => 0)))] := hD
  refine lv_aload_n hx hb d_K_init_82 rfl (lv_at hl 0 rfl) ?_
  refine lv_iconst (v := 0) hx hb d_K_init_83 (by decide) ?_
  refine va_put (C := R_K) (T := T_K) (N := 13) (ci := 0) (v := .int 0) (ty := .boolean) hx hb hts in_K ty_K ty_K_ok nm_K hown hK hP hD hS 0 rfl rfl 12 (by decide) (hts _ fl_K_50) (fun _ h => h) rfl (by decide +kernel) rfl rfl (Nat.le_of_ble_eq_true rfl) d_K_init_84 (fun H locs hP hD hS => ?_)
  have hP : va_P D kcl [(o, .inr (0, [.ref q1, .int 0, .ref q2, .ref q3, .int 0, .ref q4, .int 0, .int 0, .int 0, .ref q5, .int 0, .int 0, .int 0])), (q1, .inl (cQ, 8, .inr (.inr (.inr (.inr (fun _ => none)))))), (q2, .inl (cI, 16, .inl (fun _ => 0))), (q3, .inl (cI, 16, .inl (fun _ => 0))), (q4, .inl (cI, 300, .inl (fun _ => 0))), (q5, .inl (cI, 400, .inl (fun _ => 0)))] H := hP
  have hD : va_D A [(o, .inr (0, [.ref q1, .int 0, .ref q2, .ref q3, .int 0, .ref q4, .int 0, .int 0, .int 0, .ref q5, .int 0, .int 0, .int 0])), (q1, .inl (cQ, 8, .inr (.inr (.inr (.inr (fun _ => none)))))), (q2, .inl (cI, 16, .inl (fun _ => 0))), (q3, .inl (cI, 16, .inl (fun _ => 0))), (q4, .inl (cI, 300, .inl (fun _ => 0))), (q5, .inl (cI, 400, .inl (fun _ => 0)))] := hD
  refine lv_aload_n hx hb d_K_init_87 rfl (lv_at hl 0 rfl) ?_
  refine va_get (C := R_K) (T := T_K) (N := 13) (ci := 0) (v := .ref q2) hx hb hts in_K hown hK hP 0 rfl rfl 2 (by decide) (hts _ fl_K_19) (fun _ h => h) rfl d_K_init_88 ?_
  refine lv_iconst (v := (-1)) hx hb d_K_init_91 (by decide) ?_
  have hPc := hP.sub (ws' := [(q2, .inl (cI, 16, .inl (fun _ => 0)))]) [2] rfl
  have hDc : va_D (fun _ => True) [(q2, .inl (cI, 16, .inl (fun _ => 0)))] := d1
  refine va_callv (va_runS (As := [.ref q2, .int (-1)]) (rest := []) ⟨hx, hb, hml, hown, hts⟩ (ct_A_fill l D cI cQ q2 (fun _ => 0) (-1)) (va_cwS 2 hts gd_K_54 rfl rfl rfl (by decide +kernel) ⟨Nat.le_of_ble_eq_true rfl, Nat.le_of_ble_eq_true rfl⟩) (g_preS hK hPc hDc) rfl rfl hl.1 rfl (lv_room (Nat.le_of_ble_eq_true rfl)) d_K_init_92 ⟨Nat.le_of_ble_eq_true rfl, Nat.le_of_ble_eq_true rfl⟩) hS (fun q _ h => ?_) (fun q h => ?_) (fun u t H1 locs1 ht _ _ hB hz hk1 hS1 => ?_)
  · rw [List.mem_singleton.mp h]; exact hD.2 2 _ rfl
  · rw [List.mem_singleton.mp h]; exact hD.2 2 _ rfl
  rw [ht] at hB
  have hP1 : va_P D kcl [(o, .inr (0, [.ref q1, .int 0, .ref q2, .ref q3, .int 0, .ref q4, .int 0, .int 0, .int 0, .ref q5, .int 0, .int 0, .int 0])), (q1, .inl (cQ, 8, .inr (.inr (.inr (.inr (fun _ => none))))))] H1 := (hP.sub [0, 1] rfl).kept (fun k q hq => hk1 _ ((hP.sub [0, 1] rfl) k q hq).lt (fun h => by
    have e2 := List.mem_singleton.mp h
    have hk : k < 2 := (List.getElem?_eq_some_iff.mp hq).1
    rcases (show k = 0 ∨ k = 1 by omega) with rfl | rfl <;> cases hq
    · exact absurd (hD.1 0 2 _ _ rfl rfl e2) (by decide)
    · exact absurd (hD.1 1 2 _ _ rfl rfl e2) (by decide)))
  have hP2 : va_P D kcl [(q3, .inl (cI, 16, .inl (fun _ => 0))), (q4, .inl (cI, 300, .inl (fun _ => 0))), (q5, .inl (cI, 400, .inl (fun _ => 0)))] H1 := (hP.sub [3, 4, 5] rfl).kept (fun k q hq => hk1 _ ((hP.sub [3, 4, 5] rfl) k q hq).lt (fun h => by
    have e2 := List.mem_singleton.mp h
    have hk : k < 3 := (List.getElem?_eq_some_iff.mp hq).1
    rcases (show k = 0 ∨ k = 1 ∨ k = 2 by omega) with rfl | rfl | rfl <;> cases hq
    · exact absurd (hD.1 3 2 _ _ rfl rfl e2) (by decide)
    · exact absurd (hD.1 4 2 _ _ rfl rfl e2) (by decide)
    · exact absurd (hD.1 5 2 _ _ rfl rfl e2) (by decide)))
  have hPa := (hP1.app hB).app hP2
  have hPa : va_P D kcl [(o, .inr (0, [.ref q1, .int 0, .ref q2, .ref q3, .int 0, .ref q4, .int 0, .int 0, .int 0, .ref q5, .int 0, .int 0, .int 0])), (q1, .inl (cQ, 8, .inr (.inr (.inr (.inr (fun _ => none)))))), (q2, .inl (cI, 16, .inl (kd_fill (fun _ => 0) (-1) 16))), (q3, .inl (cI, 16, .inl (fun _ => 0))), (q4, .inl (cI, 300, .inl (fun _ => 0))), (q5, .inl (cI, 400, .inl (fun _ => 0)))] H1 := hPa
  have hDa : va_D A [(o, .inr (0, [.ref q1, .int 0, .ref q2, .ref q3, .int 0, .ref q4, .int 0, .int 0, .int 0, .ref q5, .int 0, .int 0, .int 0])), (q1, .inl (cQ, 8, .inr (.inr (.inr (.inr (fun _ => none)))))), (q2, .inl (cI, 16, .inl (kd_fill (fun _ => 0) (-1) 16))), (q3, .inl (cI, 16, .inl (fun _ => 0))), (q4, .inl (cI, 300, .inl (fun _ => 0))), (q5, .inl (cI, 400, .inl (fun _ => 0)))] := vd_addr (w := [(o, .inr (0, [.ref q1, .int 0, .ref q2, .ref q3, .int 0, .ref q4, .int 0, .int 0, .int 0, .ref q5, .int 0, .int 0, .int 0])), (q1, .inl (cQ, 8, .inr (.inr (.inr (.inr (fun _ => none)))))), (q2, .inl (cI, 16, .inl (fun _ => 0))), (q3, .inl (cI, 16, .inl (fun _ => 0))), (q4, .inl (cI, 300, .inl (fun _ => 0))), (q5, .inl (cI, 400, .inl (fun _ => 0)))]) rfl hD
  refine W.widen (k := 5) (n := 740) (Nat.le_of_ble_eq_true rfl) (Nat.le_of_ble_eq_true rfl) ?_
  obtain ⟨α, hα⟩ : ∃ α : Nat → Nat, α = (fun k => match k with
    | 0 => o
    | 1 => q1
    | 2 => q2
    | 3 => q3
    | 4 => q4
    | _ => q5) := ⟨_, rfl⟩
  have eW : kw_w cI cQ α (fun _ => 0) (fun _ => 0) 0 k_init = [(o, .inr (0, [.ref q1, .int 0, .ref q2, .ref q3, .int 0, .ref q4, .int 0, .int 0, .int 0, .ref q5, .int 0, .int 0, .int 0])), (q1, .inl (cQ, 8, .inr (.inr (.inr (.inr (fun _ => none)))))), (q2, .inl (cI, 16, .inl (kd_fill (fun _ => 0) (-1) 16))), (q3, .inl (cI, 16, .inl (fun _ => 0))), (q4, .inl (cI, 300, .inl (fun _ => 0))), (q5, .inl (cI, 400, .inl (fun _ => 0)))] := by rw [kw_w, kw_x, kw_q0, hα]; rfl
  refine W.vret hx hb hr (fun t2 ht2 _ => ⟨⟨α, rfl, ⟨by rw [hα]; rfl, fun k hk => ?_, by rw [eW]; exact hDa.weaken (fun _ _ _ _ => trivial)⟩, by show va_P D kcl _ _; rw [ht2, eW]; exact hPa⟩, hS1.F ht2⟩) hS1.2.2 d_K_init_95 hlocks
  rw [hα]
  rcases k with _ | _ | _ | _ | _ | k
  · omega
  · exact va_ge hDa hAo rfl (k := 1) rfl (by decide)
  · exact va_ge hDa hAo rfl (k := 2) rfl (by decide)
  · exact va_ge hDa hAo rfl (k := 3) rfl (by decide)
  · exact va_ge hDa hAo rfl (k := 4) rfl (by decide)
  · exact va_ge hDa hAo rfl (k := 5) rfl (by decide)
abbrev d0_M : va_E := .inr (2, [.int 0, .int 0, .null, .null, .null, .null, .null, .null, .null, .null, .null, .null, .int 0, .null, .int 0, .int 0, .int 0, .int 0, .null, .int 0, .int 0])
set_option maxHeartbeats 4000000 in
set_option maxRecDepth 100000 in
theorem ct_M_init (l : Launch) (D : va_G) (cI cQ : ClassId) (o N0 : Nat) : Met l y_M_init w_M_init { frames := 1, cells := 12, slots := 884, locals := 20 } (va_Pc [.ref o] (fun U => U.heap.size = N0 ∧ va_P D kcl [(o, d0_M)] U.heap ∧ va_K D kcl (kty cI cQ) U)) (va_Qv (S := Nat → Nat) (fun β => β 0 = o ∧ (∀ k, 1 ≤ k → N0 ≤ β k) ∧ va_D (fun _ => True) (mw_w cI β m_init)) (fun β t => va_P D kcl (mw_w cI β m_init) t.heap) (va_A [(o, d0_M)] N0)) 12 884 (va_A [(o, d0_M)] N0) := by
  refine Met.ofW (cc := b_M_init) (maxL := 2) (ret := none) (by decide) rfl ?_
  intro p e s m args below meth c s₁ B hml hv
  obtain ⟨rfl, hsz, hP, hK⟩ := hv
  have hx := B.exec
  have hb := B.bytes
  have hr := B.returns
  have hts : ∀ w ∈ kT, w.before [.ref o].toArray s = true := fun w h => atoms_spec (ws := w_M_init) B.pre w (List.mem_cons_of_mem _ h)
  have hown : s.vm.findClass R_M = some m.cls := findClass_of_methodNamed B.named
  have hlocks := B.notSynchronized
  have hin : meth.name = "<init>" := (name_of_methodNamed B.named B.method).1
  subst hsz
  have hD := (d1 (a := o) (e := d0_M)).self (sz := s.heap.size)
  generalize hAe : va_A [(o, d0_M)] s.heap.size = A at hD ⊢
  have hA : ∀ q : Nat, s.heap.size ≤ q → A q := fun q h => by rw [← hAe]; exact Or.inr h
  have hAo : ∀ q : Nat, A q → q = o ∨ s.heap.size ≤ q := fun q h => by rw [← hAe] at h; exact va_A1 h
  have hS : va_S A s.heap s.heap [] := va_S.rf
  have hl := lv_entry ([.ref o]) (n := 2) (Nat.le_of_ble_eq_true rfl)
  rw [lg_entry_eq]
  generalize (lg_sl ([.ref o]) ++ List.replicate (2 - (lg_sl ([.ref o])).length) Slot.unset).toArray = ls at hl ⊢
  have hl : lv_has ls 2 [(0, .ref o)] := hl
  refine lv_aload_n hx hb d_M_init_0 rfl (lv_at hl 0 rfl) ?_
  refine W.objInit hx hb hown (hts _ oi_M) (hts _ oi_im) (hts _ oi_cd) rfl (by rw [hml]; exact hl.1) rfl d_M_init_1 (Nat.le_of_ble_eq_true rfl) (Nat.le_of_ble_eq_true rfl) ?_
  refine W.eq (g2 := F0 m 4 ls []) rfl ?_
  refine lv_aload_n hx hb d_M_init_4 rfl (lv_at hl 0 rfl) ?_
  refine lv_bipush (v := 8) hx hb d_M_init_5 (by decide) ?_
  refine x_newa hx hb hts hK hP hD hS hA 8 (by decide) (by decide) (by decide) (Nat.le_of_ble_eq_true rfl) (Nat.le_of_ble_eq_true rfl) d_M_init_7 (fun q1 H hP hD hS => ?_)
  refine W.widen (k := 1) (n := 8) (Nat.le_of_ble_eq_true rfl) (Nat.le_of_ble_eq_true rfl) ?_
  have hP : va_P D kcl [(o, .inr (2, [.int 0, .int 0, .null, .null, .null, .null, .null, .null, .null, .null, .null, .null, .int 0, .null, .int 0, .int 0, .int 0, .int 0, .null, .int 0, .int 0])), (q1, .inl (cI, 8, .inl (fun _ => 0)))] H := hP
  have hD : va_D A [(o, .inr (2, [.int 0, .int 0, .null, .null, .null, .null, .null, .null, .null, .null, .null, .null, .int 0, .null, .int 0, .int 0, .int 0, .int 0, .null, .int 0, .int 0])), (q1, .inl (cI, 8, .inl (fun _ => 0)))] := hD
  refine va_putF (C := R_M) (T := T_M) (N := 21) (ci := 2) (v := .ref q1) (ty := .array .int) hx hb hts in_M ty_M ty_M_ok nm_M hown hK hP hD hS 0 rfl rfl 2 (by decide) (hts _ fl_M_7) (fun _ h => h) rfl hin rfl (by decide +kernel) rfl rfl (Nat.le_of_ble_eq_true rfl) d_M_init_9 (fun H locs hP hD hS => ?_)
  have hP : va_P D kcl [(o, .inr (2, [.int 0, .int 0, .ref q1, .null, .null, .null, .null, .null, .null, .null, .null, .null, .int 0, .null, .int 0, .int 0, .int 0, .int 0, .null, .int 0, .int 0])), (q1, .inl (cI, 8, .inl (fun _ => 0)))] H := hP
  have hD : va_D A [(o, .inr (2, [.int 0, .int 0, .ref q1, .null, .null, .null, .null, .null, .null, .null, .null, .null, .int 0, .null, .int 0, .int 0, .int 0, .int 0, .null, .int 0, .int 0])), (q1, .inl (cI, 8, .inl (fun _ => 0)))] := hD
  refine lv_aload_n hx hb d_M_init_12 rfl (lv_at hl 0 rfl) ?_
  refine lv_bipush (v := 8) hx hb d_M_init_13 (by decide) ?_
  refine x_newa hx hb hts hK hP hD hS hA 8 (by decide) (by decide) (by decide) (Nat.le_of_ble_eq_true rfl) (Nat.le_of_ble_eq_true rfl) d_M_init_15 (fun q2 H hP hD hS => ?_)
  refine W.widen (k := 2) (n := 16) (Nat.le_of_ble_eq_true rfl) (Nat.le_of_ble_eq_true rfl) ?_
  have hP : va_P D kcl [(o, .inr (2, [.int 0, .int 0, .ref q1, .null, .null, .null, .null, .null, .null, .null, .null, .null, .int 0, .null, .int 0, .int 0, .int 0, .int 0, .null, .int 0, .int 0])), (q1, .inl (cI, 8, .inl (fun _ => 0))), (q2, .inl (cI, 8, .inl (fun _ => 0)))] H := hP
  have hD : va_D A [(o, .inr (2, [.int 0, .int 0, .ref q1, .null, .null, .null, .null, .null, .null, .null, .null, .null, .int 0, .null, .int 0, .int 0, .int 0, .int 0, .null, .int 0, .int 0])), (q1, .inl (cI, 8, .inl (fun _ => 0))), (q2, .inl (cI, 8, .inl (fun _ => 0)))] := hD
  refine va_putF (C := R_M) (T := T_M) (N := 21) (ci := 2) (v := .ref q2) (ty := .array .int) hx hb hts in_M ty_M ty_M_ok nm_M hown hK hP hD hS 0 rfl rfl 3 (by decide) (hts _ fl_M_13) (fun _ h => h) rfl hin rfl (by decide +kernel) rfl rfl (Nat.le_of_ble_eq_true rfl) d_M_init_17 (fun H locs hP hD hS => ?_)
  have hP : va_P D kcl [(o, .inr (2, [.int 0, .int 0, .ref q1, .ref q2, .null, .null, .null, .null, .null, .null, .null, .null, .int 0, .null, .int 0, .int 0, .int 0, .int 0, .null, .int 0, .int 0])), (q1, .inl (cI, 8, .inl (fun _ => 0))), (q2, .inl (cI, 8, .inl (fun _ => 0)))] H := hP
  have hD : va_D A [(o, .inr (2, [.int 0, .int 0, .ref q1, .ref q2, .null, .null, .null, .null, .null, .null, .null, .null, .int 0, .null, .int 0, .int 0, .int 0, .int 0, .null, .int 0, .int 0])), (q1, .inl (cI, 8, .inl (fun _ => 0))), (q2, .inl (cI, 8, .inl (fun _ => 0)))] := hD
  refine lv_aload_n hx hb d_M_init_20 rfl (lv_at hl 0 rfl) ?_
  refine lv_bipush (v := 8) hx hb d_M_init_21 (by decide) ?_
  refine x_newa hx hb hts hK hP hD hS hA 8 (by decide) (by decide) (by decide) (Nat.le_of_ble_eq_true rfl) (Nat.le_of_ble_eq_true rfl) d_M_init_23 (fun q3 H hP hD hS => ?_)
  refine W.widen (k := 3) (n := 24) (Nat.le_of_ble_eq_true rfl) (Nat.le_of_ble_eq_true rfl) ?_
  have hP : va_P D kcl [(o, .inr (2, [.int 0, .int 0, .ref q1, .ref q2, .null, .null, .null, .null, .null, .null, .null, .null, .int 0, .null, .int 0, .int 0, .int 0, .int 0, .null, .int 0, .int 0])), (q1, .inl (cI, 8, .inl (fun _ => 0))), (q2, .inl (cI, 8, .inl (fun _ => 0))), (q3, .inl (cI, 8, .inl (fun _ => 0)))] H := hP
  have hD : va_D A [(o, .inr (2, [.int 0, .int 0, .ref q1, .ref q2, .null, .null, .null, .null, .null, .null, .null, .null, .int 0, .null, .int 0, .int 0, .int 0, .int 0, .null, .int 0, .int 0])), (q1, .inl (cI, 8, .inl (fun _ => 0))), (q2, .inl (cI, 8, .inl (fun _ => 0))), (q3, .inl (cI, 8, .inl (fun _ => 0)))] := hD
  refine va_putF (C := R_M) (T := T_M) (N := 21) (ci := 2) (v := .ref q3) (ty := .array .int) hx hb hts in_M ty_M ty_M_ok nm_M hown hK hP hD hS 0 rfl rfl 4 (by decide) (hts _ fl_M_16) (fun _ h => h) rfl hin rfl (by decide +kernel) rfl rfl (Nat.le_of_ble_eq_true rfl) d_M_init_25 (fun H locs hP hD hS => ?_)
  have hP : va_P D kcl [(o, .inr (2, [.int 0, .int 0, .ref q1, .ref q2, .ref q3, .null, .null, .null, .null, .null, .null, .null, .int 0, .null, .int 0, .int 0, .int 0, .int 0, .null, .int 0, .int 0])), (q1, .inl (cI, 8, .inl (fun _ => 0))), (q2, .inl (cI, 8, .inl (fun _ => 0))), (q3, .inl (cI, 8, .inl (fun _ => 0)))] H := hP
  have hD : va_D A [(o, .inr (2, [.int 0, .int 0, .ref q1, .ref q2, .ref q3, .null, .null, .null, .null, .null, .null, .null, .int 0, .null, .int 0, .int 0, .int 0, .int 0, .null, .int 0, .int 0])), (q1, .inl (cI, 8, .inl (fun _ => 0))), (q2, .inl (cI, 8, .inl (fun _ => 0))), (q3, .inl (cI, 8, .inl (fun _ => 0)))] := hD
  refine lv_aload_n hx hb d_M_init_28 rfl (lv_at hl 0 rfl) ?_
  refine lv_bipush (v := 8) hx hb d_M_init_29 (by decide) ?_
  refine x_newa hx hb hts hK hP hD hS hA 8 (by decide) (by decide) (by decide) (Nat.le_of_ble_eq_true rfl) (Nat.le_of_ble_eq_true rfl) d_M_init_31 (fun q4 H hP hD hS => ?_)
  refine W.widen (k := 4) (n := 32) (Nat.le_of_ble_eq_true rfl) (Nat.le_of_ble_eq_true rfl) ?_
  have hP : va_P D kcl [(o, .inr (2, [.int 0, .int 0, .ref q1, .ref q2, .ref q3, .null, .null, .null, .null, .null, .null, .null, .int 0, .null, .int 0, .int 0, .int 0, .int 0, .null, .int 0, .int 0])), (q1, .inl (cI, 8, .inl (fun _ => 0))), (q2, .inl (cI, 8, .inl (fun _ => 0))), (q3, .inl (cI, 8, .inl (fun _ => 0))), (q4, .inl (cI, 8, .inl (fun _ => 0)))] H := hP
  have hD : va_D A [(o, .inr (2, [.int 0, .int 0, .ref q1, .ref q2, .ref q3, .null, .null, .null, .null, .null, .null, .null, .int 0, .null, .int 0, .int 0, .int 0, .int 0, .null, .int 0, .int 0])), (q1, .inl (cI, 8, .inl (fun _ => 0))), (q2, .inl (cI, 8, .inl (fun _ => 0))), (q3, .inl (cI, 8, .inl (fun _ => 0))), (q4, .inl (cI, 8, .inl (fun _ => 0)))] := hD
  refine va_putF (C := R_M) (T := T_M) (N := 21) (ci := 2) (v := .ref q4) (ty := .array .int) hx hb hts in_M ty_M ty_M_ok nm_M hown hK hP hD hS 0 rfl rfl 5 (by decide) (hts _ fl_M_19) (fun _ h => h) rfl hin rfl (by decide +kernel) rfl rfl (Nat.le_of_ble_eq_true rfl) d_M_init_33 (fun H locs hP hD hS => ?_)
  have hP : va_P D kcl [(o, .inr (2, [.int 0, .int 0, .ref q1, .ref q2, .ref q3, .ref q4, .null, .null, .null, .null, .null, .null, .int 0, .null, .int 0, .int 0, .int 0, .int 0, .null, .int 0, .int 0])), (q1, .inl (cI, 8, .inl (fun _ => 0))), (q2, .inl (cI, 8, .inl (fun _ => 0))), (q3, .inl (cI, 8, .inl (fun _ => 0))), (q4, .inl (cI, 8, .inl (fun _ => 0)))] H := hP
  have hD : va_D A [(o, .inr (2, [.int 0, .int 0, .ref q1, .ref q2, .ref q3, .ref q4, .null, .null, .null, .null, .null, .null, .int 0, .null, .int 0, .int 0, .int 0, .int 0, .null, .int 0, .int 0])), (q1, .inl (cI, 8, .inl (fun _ => 0))), (q2, .inl (cI, 8, .inl (fun _ => 0))), (q3, .inl (cI, 8, .inl (fun _ => 0))), (q4, .inl (cI, 8, .inl (fun _ => 0)))] := hD
  refine lv_aload_n hx hb d_M_init_36 rfl (lv_at hl 0 rfl) ?_
  refine lv_bipush (v := 8) hx hb d_M_init_37 (by decide) ?_
  refine x_newa hx hb hts hK hP hD hS hA 8 (by decide) (by decide) (by decide) (Nat.le_of_ble_eq_true rfl) (Nat.le_of_ble_eq_true rfl) d_M_init_39 (fun q5 H hP hD hS => ?_)
  refine W.widen (k := 5) (n := 40) (Nat.le_of_ble_eq_true rfl) (Nat.le_of_ble_eq_true rfl) ?_
  have hP : va_P D kcl [(o, .inr (2, [.int 0, .int 0, .ref q1, .ref q2, .ref q3, .ref q4, .null, .null, .null, .null, .null, .null, .int 0, .null, .int 0, .int 0, .int 0, .int 0, .null, .int 0, .int 0])), (q1, .inl (cI, 8, .inl (fun _ => 0))), (q2, .inl (cI, 8, .inl (fun _ => 0))), (q3, .inl (cI, 8, .inl (fun _ => 0))), (q4, .inl (cI, 8, .inl (fun _ => 0))), (q5, .inl (cI, 8, .inl (fun _ => 0)))] H := hP
  have hD : va_D A [(o, .inr (2, [.int 0, .int 0, .ref q1, .ref q2, .ref q3, .ref q4, .null, .null, .null, .null, .null, .null, .int 0, .null, .int 0, .int 0, .int 0, .int 0, .null, .int 0, .int 0])), (q1, .inl (cI, 8, .inl (fun _ => 0))), (q2, .inl (cI, 8, .inl (fun _ => 0))), (q3, .inl (cI, 8, .inl (fun _ => 0))), (q4, .inl (cI, 8, .inl (fun _ => 0))), (q5, .inl (cI, 8, .inl (fun _ => 0)))] := hD
  refine va_putF (C := R_M) (T := T_M) (N := 21) (ci := 2) (v := .ref q5) (ty := .array .int) hx hb hts in_M ty_M ty_M_ok nm_M hown hK hP hD hS 0 rfl rfl 6 (by decide) (hts _ fl_M_22) (fun _ h => h) rfl hin rfl (by decide +kernel) rfl rfl (Nat.le_of_ble_eq_true rfl) d_M_init_41 (fun H locs hP hD hS => ?_)
  have hP : va_P D kcl [(o, .inr (2, [.int 0, .int 0, .ref q1, .ref q2, .ref q3, .ref q4, .ref q5, .null, .null, .null, .null, .null, .int 0, .null, .int 0, .int 0, .int 0, .int 0, .null, .int 0, .int 0])), (q1, .inl (cI, 8, .inl (fun _ => 0))), (q2, .inl (cI, 8, .inl (fun _ => 0))), (q3, .inl (cI, 8, .inl (fun _ => 0))), (q4, .inl (cI, 8, .inl (fun _ => 0))), (q5, .inl (cI, 8, .inl (fun _ => 0)))] H := hP
  have hD : va_D A [(o, .inr (2, [.int 0, .int 0, .ref q1, .ref q2, .ref q3, .ref q4, .ref q5, .null, .null, .null, .null, .null, .int 0, .null, .int 0, .int 0, .int 0, .int 0, .null, .int 0, .int 0])), (q1, .inl (cI, 8, .inl (fun _ => 0))), (q2, .inl (cI, 8, .inl (fun _ => 0))), (q3, .inl (cI, 8, .inl (fun _ => 0))), (q4, .inl (cI, 8, .inl (fun _ => 0))), (q5, .inl (cI, 8, .inl (fun _ => 0)))] := hD
  refine lv_aload_n hx hb d_M_init_44 rfl (lv_at hl 0 rfl) ?_
  refine lv_bipush (v := 96) hx hb d_M_init_45 (by decide) ?_
  refine x_newa hx hb hts hK hP hD hS hA 96 (by decide) (by decide) (by decide) (Nat.le_of_ble_eq_true rfl) (Nat.le_of_ble_eq_true rfl) d_M_init_47 (fun q6 H hP hD hS => ?_)
  refine W.widen (k := 6) (n := 136) (Nat.le_of_ble_eq_true rfl) (Nat.le_of_ble_eq_true rfl) ?_
  have hP : va_P D kcl [(o, .inr (2, [.int 0, .int 0, .ref q1, .ref q2, .ref q3, .ref q4, .ref q5, .null, .null, .null, .null, .null, .int 0, .null, .int 0, .int 0, .int 0, .int 0, .null, .int 0, .int 0])), (q1, .inl (cI, 8, .inl (fun _ => 0))), (q2, .inl (cI, 8, .inl (fun _ => 0))), (q3, .inl (cI, 8, .inl (fun _ => 0))), (q4, .inl (cI, 8, .inl (fun _ => 0))), (q5, .inl (cI, 8, .inl (fun _ => 0))), (q6, .inl (cI, 96, .inl (fun _ => 0)))] H := hP
  have hD : va_D A [(o, .inr (2, [.int 0, .int 0, .ref q1, .ref q2, .ref q3, .ref q4, .ref q5, .null, .null, .null, .null, .null, .int 0, .null, .int 0, .int 0, .int 0, .int 0, .null, .int 0, .int 0])), (q1, .inl (cI, 8, .inl (fun _ => 0))), (q2, .inl (cI, 8, .inl (fun _ => 0))), (q3, .inl (cI, 8, .inl (fun _ => 0))), (q4, .inl (cI, 8, .inl (fun _ => 0))), (q5, .inl (cI, 8, .inl (fun _ => 0))), (q6, .inl (cI, 96, .inl (fun _ => 0)))] := hD
  refine va_putF (C := R_M) (T := T_M) (N := 21) (ci := 2) (v := .ref q6) (ty := .array .int) hx hb hts in_M ty_M ty_M_ok nm_M hown hK hP hD hS 0 rfl rfl 7 (by decide) (hts _ fl_M_25) (fun _ h => h) rfl hin rfl (by decide +kernel) rfl rfl (Nat.le_of_ble_eq_true rfl) d_M_init_49 (fun H locs hP hD hS => ?_)
  have hP : va_P D kcl [(o, .inr (2, [.int 0, .int 0, .ref q1, .ref q2, .ref q3, .ref q4, .ref q5, .ref q6, .null, .null, .null, .null, .int 0, .null, .int 0, .int 0, .int 0, .int 0, .null, .int 0, .int 0])), (q1, .inl (cI, 8, .inl (fun _ => 0))), (q2, .inl (cI, 8, .inl (fun _ => 0))), (q3, .inl (cI, 8, .inl (fun _ => 0))), (q4, .inl (cI, 8, .inl (fun _ => 0))), (q5, .inl (cI, 8, .inl (fun _ => 0))), (q6, .inl (cI, 96, .inl (fun _ => 0)))] H := hP
  have hD : va_D A [(o, .inr (2, [.int 0, .int 0, .ref q1, .ref q2, .ref q3, .ref q4, .ref q5, .ref q6, .null, .null, .null, .null, .int 0, .null, .int 0, .int 0, .int 0, .int 0, .null, .int 0, .int 0])), (q1, .inl (cI, 8, .inl (fun _ => 0))), (q2, .inl (cI, 8, .inl (fun _ => 0))), (q3, .inl (cI, 8, .inl (fun _ => 0))), (q4, .inl (cI, 8, .inl (fun _ => 0))), (q5, .inl (cI, 8, .inl (fun _ => 0))), (q6, .inl (cI, 96, .inl (fun _ => 0)))] := hD
  refine lv_aload_n hx hb d_M_init_52 rfl (lv_at hl 0 rfl) ?_
  refine lv_bipush (v := 16) hx hb d_M_init_53 (by decide) ?_
  refine x_newa hx hb hts hK hP hD hS hA 16 (by decide) (by decide) (by decide) (Nat.le_of_ble_eq_true rfl) (Nat.le_of_ble_eq_true rfl) d_M_init_55 (fun q7 H hP hD hS => ?_)
  refine W.widen (k := 7) (n := 152) (Nat.le_of_ble_eq_true rfl) (Nat.le_of_ble_eq_true rfl) ?_
  have hP : va_P D kcl [(o, .inr (2, [.int 0, .int 0, .ref q1, .ref q2, .ref q3, .ref q4, .ref q5, .ref q6, .null, .null, .null, .null, .int 0, .null, .int 0, .int 0, .int 0, .int 0, .null, .int 0, .int 0])), (q1, .inl (cI, 8, .inl (fun _ => 0))), (q2, .inl (cI, 8, .inl (fun _ => 0))), (q3, .inl (cI, 8, .inl (fun _ => 0))), (q4, .inl (cI, 8, .inl (fun _ => 0))), (q5, .inl (cI, 8, .inl (fun _ => 0))), (q6, .inl (cI, 96, .inl (fun _ => 0))), (q7, .inl (cI, 16, .inl (fun _ => 0)))] H := hP
  have hD : va_D A [(o, .inr (2, [.int 0, .int 0, .ref q1, .ref q2, .ref q3, .ref q4, .ref q5, .ref q6, .null, .null, .null, .null, .int 0, .null, .int 0, .int 0, .int 0, .int 0, .null, .int 0, .int 0])), (q1, .inl (cI, 8, .inl (fun _ => 0))), (q2, .inl (cI, 8, .inl (fun _ => 0))), (q3, .inl (cI, 8, .inl (fun _ => 0))), (q4, .inl (cI, 8, .inl (fun _ => 0))), (q5, .inl (cI, 8, .inl (fun _ => 0))), (q6, .inl (cI, 96, .inl (fun _ => 0))), (q7, .inl (cI, 16, .inl (fun _ => 0)))] := hD
  refine va_putF (C := R_M) (T := T_M) (N := 21) (ci := 2) (v := .ref q7) (ty := .array .int) hx hb hts in_M ty_M ty_M_ok nm_M hown hK hP hD hS 0 rfl rfl 8 (by decide) (hts _ fl_M_28) (fun _ h => h) rfl hin rfl (by decide +kernel) rfl rfl (Nat.le_of_ble_eq_true rfl) d_M_init_57 (fun H locs hP hD hS => ?_)
  have hP : va_P D kcl [(o, .inr (2, [.int 0, .int 0, .ref q1, .ref q2, .ref q3, .ref q4, .ref q5, .ref q6, .ref q7, .null, .null, .null, .int 0, .null, .int 0, .int 0, .int 0, .int 0, .null, .int 0, .int 0])), (q1, .inl (cI, 8, .inl (fun _ => 0))), (q2, .inl (cI, 8, .inl (fun _ => 0))), (q3, .inl (cI, 8, .inl (fun _ => 0))), (q4, .inl (cI, 8, .inl (fun _ => 0))), (q5, .inl (cI, 8, .inl (fun _ => 0))), (q6, .inl (cI, 96, .inl (fun _ => 0))), (q7, .inl (cI, 16, .inl (fun _ => 0)))] H := hP
  have hD : va_D A [(o, .inr (2, [.int 0, .int 0, .ref q1, .ref q2, .ref q3, .ref q4, .ref q5, .ref q6, .ref q7, .null, .null, .null, .int 0, .null, .int 0, .int 0, .int 0, .int 0, .null, .int 0, .int 0])), (q1, .inl (cI, 8, .inl (fun _ => 0))), (q2, .inl (cI, 8, .inl (fun _ => 0))), (q3, .inl (cI, 8, .inl (fun _ => 0))), (q4, .inl (cI, 8, .inl (fun _ => 0))), (q5, .inl (cI, 8, .inl (fun _ => 0))), (q6, .inl (cI, 96, .inl (fun _ => 0))), (q7, .inl (cI, 16, .inl (fun _ => 0)))] := hD
  refine lv_aload_n hx hb d_M_init_60 rfl (lv_at hl 0 rfl) ?_
  refine lv_bipush (v := 16) hx hb d_M_init_61 (by decide) ?_
  refine x_newa hx hb hts hK hP hD hS hA 16 (by decide) (by decide) (by decide) (Nat.le_of_ble_eq_true rfl) (Nat.le_of_ble_eq_true rfl) d_M_init_63 (fun q8 H hP hD hS => ?_)
  refine W.widen (k := 8) (n := 168) (Nat.le_of_ble_eq_true rfl) (Nat.le_of_ble_eq_true rfl) ?_
  have hP : va_P D kcl [(o, .inr (2, [.int 0, .int 0, .ref q1, .ref q2, .ref q3, .ref q4, .ref q5, .ref q6, .ref q7, .null, .null, .null, .int 0, .null, .int 0, .int 0, .int 0, .int 0, .null, .int 0, .int 0])), (q1, .inl (cI, 8, .inl (fun _ => 0))), (q2, .inl (cI, 8, .inl (fun _ => 0))), (q3, .inl (cI, 8, .inl (fun _ => 0))), (q4, .inl (cI, 8, .inl (fun _ => 0))), (q5, .inl (cI, 8, .inl (fun _ => 0))), (q6, .inl (cI, 96, .inl (fun _ => 0))), (q7, .inl (cI, 16, .inl (fun _ => 0))), (q8, .inl (cI, 16, .inl (fun _ => 0)))] H := hP
  have hD : va_D A [(o, .inr (2, [.int 0, .int 0, .ref q1, .ref q2, .ref q3, .ref q4, .ref q5, .ref q6, .ref q7, .null, .null, .null, .int 0, .null, .int 0, .int 0, .int 0, .int 0, .null, .int 0, .int 0])), (q1, .inl (cI, 8, .inl (fun _ => 0))), (q2, .inl (cI, 8, .inl (fun _ => 0))), (q3, .inl (cI, 8, .inl (fun _ => 0))), (q4, .inl (cI, 8, .inl (fun _ => 0))), (q5, .inl (cI, 8, .inl (fun _ => 0))), (q6, .inl (cI, 96, .inl (fun _ => 0))), (q7, .inl (cI, 16, .inl (fun _ => 0))), (q8, .inl (cI, 16, .inl (fun _ => 0)))] := hD
  refine va_putF (C := R_M) (T := T_M) (N := 21) (ci := 2) (v := .ref q8) (ty := .array .int) hx hb hts in_M ty_M ty_M_ok nm_M hown hK hP hD hS 0 rfl rfl 9 (by decide) (hts _ fl_M_31) (fun _ h => h) rfl hin rfl (by decide +kernel) rfl rfl (Nat.le_of_ble_eq_true rfl) d_M_init_65 (fun H locs hP hD hS => ?_)
  have hP : va_P D kcl [(o, .inr (2, [.int 0, .int 0, .ref q1, .ref q2, .ref q3, .ref q4, .ref q5, .ref q6, .ref q7, .ref q8, .null, .null, .int 0, .null, .int 0, .int 0, .int 0, .int 0, .null, .int 0, .int 0])), (q1, .inl (cI, 8, .inl (fun _ => 0))), (q2, .inl (cI, 8, .inl (fun _ => 0))), (q3, .inl (cI, 8, .inl (fun _ => 0))), (q4, .inl (cI, 8, .inl (fun _ => 0))), (q5, .inl (cI, 8, .inl (fun _ => 0))), (q6, .inl (cI, 96, .inl (fun _ => 0))), (q7, .inl (cI, 16, .inl (fun _ => 0))), (q8, .inl (cI, 16, .inl (fun _ => 0)))] H := hP
  have hD : va_D A [(o, .inr (2, [.int 0, .int 0, .ref q1, .ref q2, .ref q3, .ref q4, .ref q5, .ref q6, .ref q7, .ref q8, .null, .null, .int 0, .null, .int 0, .int 0, .int 0, .int 0, .null, .int 0, .int 0])), (q1, .inl (cI, 8, .inl (fun _ => 0))), (q2, .inl (cI, 8, .inl (fun _ => 0))), (q3, .inl (cI, 8, .inl (fun _ => 0))), (q4, .inl (cI, 8, .inl (fun _ => 0))), (q5, .inl (cI, 8, .inl (fun _ => 0))), (q6, .inl (cI, 96, .inl (fun _ => 0))), (q7, .inl (cI, 16, .inl (fun _ => 0))), (q8, .inl (cI, 16, .inl (fun _ => 0)))] := hD
  refine lv_aload_n hx hb d_M_init_68 rfl (lv_at hl 0 rfl) ?_
  refine lv_bipush (v := 8) hx hb d_M_init_69 (by decide) ?_
  refine x_newa hx hb hts hK hP hD hS hA 8 (by decide) (by decide) (by decide) (Nat.le_of_ble_eq_true rfl) (Nat.le_of_ble_eq_true rfl) d_M_init_71 (fun q9 H hP hD hS => ?_)
  refine W.widen (k := 9) (n := 176) (Nat.le_of_ble_eq_true rfl) (Nat.le_of_ble_eq_true rfl) ?_
  have hP : va_P D kcl [(o, .inr (2, [.int 0, .int 0, .ref q1, .ref q2, .ref q3, .ref q4, .ref q5, .ref q6, .ref q7, .ref q8, .null, .null, .int 0, .null, .int 0, .int 0, .int 0, .int 0, .null, .int 0, .int 0])), (q1, .inl (cI, 8, .inl (fun _ => 0))), (q2, .inl (cI, 8, .inl (fun _ => 0))), (q3, .inl (cI, 8, .inl (fun _ => 0))), (q4, .inl (cI, 8, .inl (fun _ => 0))), (q5, .inl (cI, 8, .inl (fun _ => 0))), (q6, .inl (cI, 96, .inl (fun _ => 0))), (q7, .inl (cI, 16, .inl (fun _ => 0))), (q8, .inl (cI, 16, .inl (fun _ => 0))), (q9, .inl (cI, 8, .inl (fun _ => 0)))] H := hP
  have hD : va_D A [(o, .inr (2, [.int 0, .int 0, .ref q1, .ref q2, .ref q3, .ref q4, .ref q5, .ref q6, .ref q7, .ref q8, .null, .null, .int 0, .null, .int 0, .int 0, .int 0, .int 0, .null, .int 0, .int 0])), (q1, .inl (cI, 8, .inl (fun _ => 0))), (q2, .inl (cI, 8, .inl (fun _ => 0))), (q3, .inl (cI, 8, .inl (fun _ => 0))), (q4, .inl (cI, 8, .inl (fun _ => 0))), (q5, .inl (cI, 8, .inl (fun _ => 0))), (q6, .inl (cI, 96, .inl (fun _ => 0))), (q7, .inl (cI, 16, .inl (fun _ => 0))), (q8, .inl (cI, 16, .inl (fun _ => 0))), (q9, .inl (cI, 8, .inl (fun _ => 0)))] := hD
  refine va_putF (C := R_M) (T := T_M) (N := 21) (ci := 2) (v := .ref q9) (ty := .array .int) hx hb hts in_M ty_M ty_M_ok nm_M hown hK hP hD hS 0 rfl rfl 10 (by decide) (hts _ fl_M_34) (fun _ h => h) rfl hin rfl (by decide +kernel) rfl rfl (Nat.le_of_ble_eq_true rfl) d_M_init_73 (fun H locs hP hD hS => ?_)
  have hP : va_P D kcl [(o, .inr (2, [.int 0, .int 0, .ref q1, .ref q2, .ref q3, .ref q4, .ref q5, .ref q6, .ref q7, .ref q8, .ref q9, .null, .int 0, .null, .int 0, .int 0, .int 0, .int 0, .null, .int 0, .int 0])), (q1, .inl (cI, 8, .inl (fun _ => 0))), (q2, .inl (cI, 8, .inl (fun _ => 0))), (q3, .inl (cI, 8, .inl (fun _ => 0))), (q4, .inl (cI, 8, .inl (fun _ => 0))), (q5, .inl (cI, 8, .inl (fun _ => 0))), (q6, .inl (cI, 96, .inl (fun _ => 0))), (q7, .inl (cI, 16, .inl (fun _ => 0))), (q8, .inl (cI, 16, .inl (fun _ => 0))), (q9, .inl (cI, 8, .inl (fun _ => 0)))] H := hP
  have hD : va_D A [(o, .inr (2, [.int 0, .int 0, .ref q1, .ref q2, .ref q3, .ref q4, .ref q5, .ref q6, .ref q7, .ref q8, .ref q9, .null, .int 0, .null, .int 0, .int 0, .int 0, .int 0, .null, .int 0, .int 0])), (q1, .inl (cI, 8, .inl (fun _ => 0))), (q2, .inl (cI, 8, .inl (fun _ => 0))), (q3, .inl (cI, 8, .inl (fun _ => 0))), (q4, .inl (cI, 8, .inl (fun _ => 0))), (q5, .inl (cI, 8, .inl (fun _ => 0))), (q6, .inl (cI, 96, .inl (fun _ => 0))), (q7, .inl (cI, 16, .inl (fun _ => 0))), (q8, .inl (cI, 16, .inl (fun _ => 0))), (q9, .inl (cI, 8, .inl (fun _ => 0)))] := hD
  refine lv_aload_n hx hb d_M_init_76 rfl (lv_at hl 0 rfl) ?_
  refine lv_bipush (v := 8) hx hb d_M_init_77 (by decide) ?_
  refine x_newa hx hb hts hK hP hD hS hA 8 (by decide) (by decide) (by decide) (Nat.le_of_ble_eq_true rfl) (Nat.le_of_ble_eq_true rfl) d_M_init_79 (fun q10 H hP hD hS => ?_)
  refine W.widen (k := 10) (n := 184) (Nat.le_of_ble_eq_true rfl) (Nat.le_of_ble_eq_true rfl) ?_
  have hP : va_P D kcl [(o, .inr (2, [.int 0, .int 0, .ref q1, .ref q2, .ref q3, .ref q4, .ref q5, .ref q6, .ref q7, .ref q8, .ref q9, .null, .int 0, .null, .int 0, .int 0, .int 0, .int 0, .null, .int 0, .int 0])), (q1, .inl (cI, 8, .inl (fun _ => 0))), (q2, .inl (cI, 8, .inl (fun _ => 0))), (q3, .inl (cI, 8, .inl (fun _ => 0))), (q4, .inl (cI, 8, .inl (fun _ => 0))), (q5, .inl (cI, 8, .inl (fun _ => 0))), (q6, .inl (cI, 96, .inl (fun _ => 0))), (q7, .inl (cI, 16, .inl (fun _ => 0))), (q8, .inl (cI, 16, .inl (fun _ => 0))), (q9, .inl (cI, 8, .inl (fun _ => 0))), (q10, .inl (cI, 8, .inl (fun _ => 0)))] H := hP
  have hD : va_D A [(o, .inr (2, [.int 0, .int 0, .ref q1, .ref q2, .ref q3, .ref q4, .ref q5, .ref q6, .ref q7, .ref q8, .ref q9, .null, .int 0, .null, .int 0, .int 0, .int 0, .int 0, .null, .int 0, .int 0])), (q1, .inl (cI, 8, .inl (fun _ => 0))), (q2, .inl (cI, 8, .inl (fun _ => 0))), (q3, .inl (cI, 8, .inl (fun _ => 0))), (q4, .inl (cI, 8, .inl (fun _ => 0))), (q5, .inl (cI, 8, .inl (fun _ => 0))), (q6, .inl (cI, 96, .inl (fun _ => 0))), (q7, .inl (cI, 16, .inl (fun _ => 0))), (q8, .inl (cI, 16, .inl (fun _ => 0))), (q9, .inl (cI, 8, .inl (fun _ => 0))), (q10, .inl (cI, 8, .inl (fun _ => 0)))] := hD
  refine va_putF (C := R_M) (T := T_M) (N := 21) (ci := 2) (v := .ref q10) (ty := .array .int) hx hb hts in_M ty_M ty_M_ok nm_M hown hK hP hD hS 0 rfl rfl 11 (by decide) (hts _ fl_M_37) (fun _ h => h) rfl hin rfl (by decide +kernel) rfl rfl (Nat.le_of_ble_eq_true rfl) d_M_init_81 (fun H locs hP hD hS => ?_)
  have hP : va_P D kcl [(o, .inr (2, [.int 0, .int 0, .ref q1, .ref q2, .ref q3, .ref q4, .ref q5, .ref q6, .ref q7, .ref q8, .ref q9, .ref q10, .int 0, .null, .int 0, .int 0, .int 0, .int 0, .null, .int 0, .int 0])), (q1, .inl (cI, 8, .inl (fun _ => 0))), (q2, .inl (cI, 8, .inl (fun _ => 0))), (q3, .inl (cI, 8, .inl (fun _ => 0))), (q4, .inl (cI, 8, .inl (fun _ => 0))), (q5, .inl (cI, 8, .inl (fun _ => 0))), (q6, .inl (cI, 96, .inl (fun _ => 0))), (q7, .inl (cI, 16, .inl (fun _ => 0))), (q8, .inl (cI, 16, .inl (fun _ => 0))), (q9, .inl (cI, 8, .inl (fun _ => 0))), (q10, .inl (cI, 8, .inl (fun _ => 0)))] H := hP
  have hD : va_D A [(o, .inr (2, [.int 0, .int 0, .ref q1, .ref q2, .ref q3, .ref q4, .ref q5, .ref q6, .ref q7, .ref q8, .ref q9, .ref q10, .int 0, .null, .int 0, .int 0, .int 0, .int 0, .null, .int 0, .int 0])), (q1, .inl (cI, 8, .inl (fun _ => 0))), (q2, .inl (cI, 8, .inl (fun _ => 0))), (q3, .inl (cI, 8, .inl (fun _ => 0))), (q4, .inl (cI, 8, .inl (fun _ => 0))), (q5, .inl (cI, 8, .inl (fun _ => 0))), (q6, .inl (cI, 96, .inl (fun _ => 0))), (q7, .inl (cI, 16, .inl (fun _ => 0))), (q8, .inl (cI, 16, .inl (fun _ => 0))), (q9, .inl (cI, 8, .inl (fun _ => 0))), (q10, .inl (cI, 8, .inl (fun _ => 0)))] := hD
  refine lv_aload_n hx hb d_M_init_84 rfl (lv_at hl 0 rfl) ?_
  refine lv_sipush (v := 300) hx hb d_M_init_85 (by decide) ?_
  refine x_newa hx hb hts hK hP hD hS hA 300 (by decide) (by decide) (by decide) (Nat.le_of_ble_eq_true rfl) (Nat.le_of_ble_eq_true rfl) d_M_init_88 (fun q11 H hP hD hS => ?_)
  refine W.widen (k := 11) (n := 484) (Nat.le_of_ble_eq_true rfl) (Nat.le_of_ble_eq_true rfl) ?_
  have hP : va_P D kcl [(o, .inr (2, [.int 0, .int 0, .ref q1, .ref q2, .ref q3, .ref q4, .ref q5, .ref q6, .ref q7, .ref q8, .ref q9, .ref q10, .int 0, .null, .int 0, .int 0, .int 0, .int 0, .null, .int 0, .int 0])), (q1, .inl (cI, 8, .inl (fun _ => 0))), (q2, .inl (cI, 8, .inl (fun _ => 0))), (q3, .inl (cI, 8, .inl (fun _ => 0))), (q4, .inl (cI, 8, .inl (fun _ => 0))), (q5, .inl (cI, 8, .inl (fun _ => 0))), (q6, .inl (cI, 96, .inl (fun _ => 0))), (q7, .inl (cI, 16, .inl (fun _ => 0))), (q8, .inl (cI, 16, .inl (fun _ => 0))), (q9, .inl (cI, 8, .inl (fun _ => 0))), (q10, .inl (cI, 8, .inl (fun _ => 0))), (q11, .inl (cI, 300, .inl (fun _ => 0)))] H := hP
  have hD : va_D A [(o, .inr (2, [.int 0, .int 0, .ref q1, .ref q2, .ref q3, .ref q4, .ref q5, .ref q6, .ref q7, .ref q8, .ref q9, .ref q10, .int 0, .null, .int 0, .int 0, .int 0, .int 0, .null, .int 0, .int 0])), (q1, .inl (cI, 8, .inl (fun _ => 0))), (q2, .inl (cI, 8, .inl (fun _ => 0))), (q3, .inl (cI, 8, .inl (fun _ => 0))), (q4, .inl (cI, 8, .inl (fun _ => 0))), (q5, .inl (cI, 8, .inl (fun _ => 0))), (q6, .inl (cI, 96, .inl (fun _ => 0))), (q7, .inl (cI, 16, .inl (fun _ => 0))), (q8, .inl (cI, 16, .inl (fun _ => 0))), (q9, .inl (cI, 8, .inl (fun _ => 0))), (q10, .inl (cI, 8, .inl (fun _ => 0))), (q11, .inl (cI, 300, .inl (fun _ => 0)))] := hD
  refine va_putF (C := R_M) (T := T_M) (N := 21) (ci := 2) (v := .ref q11) (ty := .array .int) hx hb hts in_M ty_M ty_M_ok nm_M hown hK hP hD hS 0 rfl rfl 13 (by decide) (hts _ fl_M_40) (fun _ h => h) rfl hin rfl (by decide +kernel) rfl rfl (Nat.le_of_ble_eq_true rfl) d_M_init_90 (fun H locs hP hD hS => ?_)
  have hP : va_P D kcl [(o, .inr (2, [.int 0, .int 0, .ref q1, .ref q2, .ref q3, .ref q4, .ref q5, .ref q6, .ref q7, .ref q8, .ref q9, .ref q10, .int 0, .ref q11, .int 0, .int 0, .int 0, .int 0, .null, .int 0, .int 0])), (q1, .inl (cI, 8, .inl (fun _ => 0))), (q2, .inl (cI, 8, .inl (fun _ => 0))), (q3, .inl (cI, 8, .inl (fun _ => 0))), (q4, .inl (cI, 8, .inl (fun _ => 0))), (q5, .inl (cI, 8, .inl (fun _ => 0))), (q6, .inl (cI, 96, .inl (fun _ => 0))), (q7, .inl (cI, 16, .inl (fun _ => 0))), (q8, .inl (cI, 16, .inl (fun _ => 0))), (q9, .inl (cI, 8, .inl (fun _ => 0))), (q10, .inl (cI, 8, .inl (fun _ => 0))), (q11, .inl (cI, 300, .inl (fun _ => 0)))] H := hP
  have hD : va_D A [(o, .inr (2, [.int 0, .int 0, .ref q1, .ref q2, .ref q3, .ref q4, .ref q5, .ref q6, .ref q7, .ref q8, .ref q9, .ref q10, .int 0, .ref q11, .int 0, .int 0, .int 0, .int 0, .null, .int 0, .int 0])), (q1, .inl (cI, 8, .inl (fun _ => 0))), (q2, .inl (cI, 8, .inl (fun _ => 0))), (q3, .inl (cI, 8, .inl (fun _ => 0))), (q4, .inl (cI, 8, .inl (fun _ => 0))), (q5, .inl (cI, 8, .inl (fun _ => 0))), (q6, .inl (cI, 96, .inl (fun _ => 0))), (q7, .inl (cI, 16, .inl (fun _ => 0))), (q8, .inl (cI, 16, .inl (fun _ => 0))), (q9, .inl (cI, 8, .inl (fun _ => 0))), (q10, .inl (cI, 8, .inl (fun _ => 0))), (q11, .inl (cI, 300, .inl (fun _ => 0)))] := hD
  refine lv_aload_n hx hb d_M_init_93 rfl (lv_at hl 0 rfl) ?_
  refine lv_sipush (v := 400) hx hb d_M_init_94 (by decide) ?_
  refine x_newa hx hb hts hK hP hD hS hA 400 (by decide) (by decide) (by decide) (Nat.le_of_ble_eq_true rfl) (Nat.le_of_ble_eq_true rfl) d_M_init_97 (fun q12 H hP hD hS => ?_)
  refine W.widen (k := 12) (n := 884) (Nat.le_of_ble_eq_true rfl) (Nat.le_of_ble_eq_true rfl) ?_
  have hP : va_P D kcl [(o, .inr (2, [.int 0, .int 0, .ref q1, .ref q2, .ref q3, .ref q4, .ref q5, .ref q6, .ref q7, .ref q8, .ref q9, .ref q10, .int 0, .ref q11, .int 0, .int 0, .int 0, .int 0, .null, .int 0, .int 0])), (q1, .inl (cI, 8, .inl (fun _ => 0))), (q2, .inl (cI, 8, .inl (fun _ => 0))), (q3, .inl (cI, 8, .inl (fun _ => 0))), (q4, .inl (cI, 8, .inl (fun _ => 0))), (q5, .inl (cI, 8, .inl (fun _ => 0))), (q6, .inl (cI, 96, .inl (fun _ => 0))), (q7, .inl (cI, 16, .inl (fun _ => 0))), (q8, .inl (cI, 16, .inl (fun _ => 0))), (q9, .inl (cI, 8, .inl (fun _ => 0))), (q10, .inl (cI, 8, .inl (fun _ => 0))), (q11, .inl (cI, 300, .inl (fun _ => 0))), (q12, .inl (cI, 400, .inl (fun _ => 0)))] H := hP
  have hD : va_D A [(o, .inr (2, [.int 0, .int 0, .ref q1, .ref q2, .ref q3, .ref q4, .ref q5, .ref q6, .ref q7, .ref q8, .ref q9, .ref q10, .int 0, .ref q11, .int 0, .int 0, .int 0, .int 0, .null, .int 0, .int 0])), (q1, .inl (cI, 8, .inl (fun _ => 0))), (q2, .inl (cI, 8, .inl (fun _ => 0))), (q3, .inl (cI, 8, .inl (fun _ => 0))), (q4, .inl (cI, 8, .inl (fun _ => 0))), (q5, .inl (cI, 8, .inl (fun _ => 0))), (q6, .inl (cI, 96, .inl (fun _ => 0))), (q7, .inl (cI, 16, .inl (fun _ => 0))), (q8, .inl (cI, 16, .inl (fun _ => 0))), (q9, .inl (cI, 8, .inl (fun _ => 0))), (q10, .inl (cI, 8, .inl (fun _ => 0))), (q11, .inl (cI, 300, .inl (fun _ => 0))), (q12, .inl (cI, 400, .inl (fun _ => 0)))] := hD
  refine va_putF (C := R_M) (T := T_M) (N := 21) (ci := 2) (v := .ref q12) (ty := .array .int) hx hb hts in_M ty_M ty_M_ok nm_M hown hK hP hD hS 0 rfl rfl 18 (by decide) (hts _ fl_M_43) (fun _ h => h) rfl hin rfl (by decide +kernel) rfl rfl (Nat.le_of_ble_eq_true rfl) d_M_init_99 (fun H locs hP hD hS => ?_)
  have hP : va_P D kcl [(o, .inr (2, [.int 0, .int 0, .ref q1, .ref q2, .ref q3, .ref q4, .ref q5, .ref q6, .ref q7, .ref q8, .ref q9, .ref q10, .int 0, .ref q11, .int 0, .int 0, .int 0, .int 0, .ref q12, .int 0, .int 0])), (q1, .inl (cI, 8, .inl (fun _ => 0))), (q2, .inl (cI, 8, .inl (fun _ => 0))), (q3, .inl (cI, 8, .inl (fun _ => 0))), (q4, .inl (cI, 8, .inl (fun _ => 0))), (q5, .inl (cI, 8, .inl (fun _ => 0))), (q6, .inl (cI, 96, .inl (fun _ => 0))), (q7, .inl (cI, 16, .inl (fun _ => 0))), (q8, .inl (cI, 16, .inl (fun _ => 0))), (q9, .inl (cI, 8, .inl (fun _ => 0))), (q10, .inl (cI, 8, .inl (fun _ => 0))), (q11, .inl (cI, 300, .inl (fun _ => 0))), (q12, .inl (cI, 400, .inl (fun _ => 0)))] H := hP
  have hD : va_D A [(o, .inr (2, [.int 0, .int 0, .ref q1, .ref q2, .ref q3, .ref q4, .ref q5, .ref q6, .ref q7, .ref q8, .ref q9, .ref q10, .int 0, .ref q11, .int 0, .int 0, .int 0, .int 0, .ref q12, .int 0, .int 0])), (q1, .inl (cI, 8, .inl (fun _ => 0))), (q2, .inl (cI, 8, .inl (fun _ => 0))), (q3, .inl (cI, 8, .inl (fun _ => 0))), (q4, .inl (cI, 8, .inl (fun _ => 0))), (q5, .inl (cI, 8, .inl (fun _ => 0))), (q6, .inl (cI, 96, .inl (fun _ => 0))), (q7, .inl (cI, 16, .inl (fun _ => 0))), (q8, .inl (cI, 16, .inl (fun _ => 0))), (q9, .inl (cI, 8, .inl (fun _ => 0))), (q10, .inl (cI, 8, .inl (fun _ => 0))), (q11, .inl (cI, 300, .inl (fun _ => 0))), (q12, .inl (cI, 400, .inl (fun _ => 0)))] := hD
  obtain ⟨β, hβ⟩ : ∃ β : Nat → Nat, β = (fun k => match k with
    | 0 => o
    | 2 => q1
    | 3 => q2
    | 4 => q3
    | 5 => q4
    | 6 => q5
    | 7 => q6
    | 8 => q7
    | 9 => q8
    | 10 => q9
    | 11 => q10
    | 13 => q11
    | _ => q12) := ⟨_, rfl⟩
  have e0 : β 0 = o := by rw [hβ]; rfl
  have eW : mw_w cI β ((fun _ => 0, fun _ _ => 0) : mS) = [(o, .inr (2, [.int 0, .int 0, .ref q1, .ref q2, .ref q3, .ref q4, .ref q5, .ref q6, .ref q7, .ref q8, .ref q9, .ref q10, .int 0, .ref q11, .int 0, .int 0, .int 0, .int 0, .ref q12, .int 0, .int 0])), (q1, .inl (cI, 8, .inl (fun _ => 0))), (q2, .inl (cI, 8, .inl (fun _ => 0))), (q3, .inl (cI, 8, .inl (fun _ => 0))), (q4, .inl (cI, 8, .inl (fun _ => 0))), (q5, .inl (cI, 8, .inl (fun _ => 0))), (q6, .inl (cI, 96, .inl (fun _ => 0))), (q7, .inl (cI, 16, .inl (fun _ => 0))), (q8, .inl (cI, 16, .inl (fun _ => 0))), (q9, .inl (cI, 8, .inl (fun _ => 0))), (q10, .inl (cI, 8, .inl (fun _ => 0))), (q11, .inl (cI, 300, .inl (fun _ => 0))), (q12, .inl (cI, 400, .inl (fun _ => 0)))] := by rw [hβ]; rfl
  rw [← eW] at hP hD
  rw [← e0] at hl
  refine lv_iconst (v := 0) hx hb d_M_init_102 (by decide) ?_
  refine lv_istore_n (lv' := [(1, .int 0), (0, .ref (β 0))]) hx hb d_M_init_103 rfl hl (by decide) rfl (fun ls hl => ?_)
  have hge : ∀ k, 1 ≤ k → s.heap.size ≤ β k := by
    intro k hk
    rw [eW] at hD
    rw [hβ]
    have g := fun (j : Nat) (q : Nat) (e9 : va_E) => va_ge hD hAo rfl (k := j) (q := q) (e := e9)
    rcases k with _ | _ | _ | _ | _ | _ | _ | _ | _ | _ | _ | _ | _ | _ | k
    · omega
    · exact va_ge hD hAo rfl (k := 12) rfl (by decide)
    · exact va_ge hD hAo rfl (k := 1) rfl (by decide)
    · exact va_ge hD hAo rfl (k := 2) rfl (by decide)
    · exact va_ge hD hAo rfl (k := 3) rfl (by decide)
    · exact va_ge hD hAo rfl (k := 4) rfl (by decide)
    · exact va_ge hD hAo rfl (k := 5) rfl (by decide)
    · exact va_ge hD hAo rfl (k := 6) rfl (by decide)
    · exact va_ge hD hAo rfl (k := 7) rfl (by decide)
    · exact va_ge hD hAo rfl (k := 8) rfl (by decide)
    · exact va_ge hD hAo rfl (k := 9) rfl (by decide)
    · exact va_ge hD hAo rfl (k := 10) rfl (by decide)
    · exact va_ge hD hAo rfl (k := 12) rfl (by decide)
    · exact va_ge hD hAo rfl (k := 11) rfl (by decide)
    · exact va_ge hD hAo rfl (k := 12) rfl (by decide)
  obtain ⟨ι, hι⟩ : ∃ ι : Nat → mS, ι = fun j => ((fun _ => 0, fun a => match a with
    | 8 => kd_fill (fun _ => 0) (-1) j
    | _ => fun _ => 0) : mS) := ⟨_, rfl⟩
  have hi0 : ((fun _ => 0, fun _ _ => 0) : mS) = ι 0 := by
    rw [hι]
    show _ = ((_, _) : mS)
    congr 1
    funext a
    split <;> rfl
  have his : ∀ j, m_a (ι j) 8 j (-1) = ι (j + 1) := by
    intro j
    rw [hι]
    show ((_, _) : mS) = (_, _)
    congr 1
    funext a
    by_cases h8 : a = 8
    · subst h8
      simp [va_up, kd_fill]
    · rw [va_up_ne _ _ h8]
      dsimp only
      split <;> first | exact absurd rfl h8 | rfl | (split <;> first | exact absurd rfl h8 | rfl)
  have hi16 : ι 16 = m_init := by rw [hι]; rfl
  rw [hi0] at hP hD
  have lp : ∀ (fu j : Nat) (H : Heap) (locs : List Loc) (ls : Array Slot), j ≤ 16 → 16 - j < fu → va_P D kcl (mw_w cI β (ι j)) H → va_D A (mw_w cI β (ι j)) → va_S A s.heap H locs → lv_has ls 2 [(1, .int (nI j)), (0, .ref (β 0))] → W p l e (headSpec w_M_init { frames := 1, cells := 12, slots := 884, locals := 20 }).room s m [.ref o].toArray below meth c H locs 12 884 (MQ below (va_Qv (S := Nat → Nat) (fun β => β 0 = o ∧ (∀ k, 1 ≤ k → s.heap.size ≤ β k) ∧ va_D (fun _ => True) (mw_w cI β m_init)) (fun β t => va_P D kcl (mw_w cI β m_init) t.heap) A) [.ref o].toArray s 12 884 A) (F0 m 104 ls []) := by
    intro fu
    induction fu with
    | zero => intro j H locs ls h1 h2; omega
    | succ fu ih =>
      intro j H locs ls hj hf hP hD hS hl
      refine lv_iload_n hx hb d_M_init_104 rfl (lv_at hl 0 rfl) ?_
      refine lv_bipush (v := 16) hx hb d_M_init_105 (by decide) ?_
      refine lv_icmp_ge (tgt := 123) hx hb d_M_init_107 (by decide) (fun c7 => ?_) (fun c7 => ?_)
      · have : j = 16 := lp_eq (B := 16) (hn := by decide) c7 hj
        subst this
        rw [hi16] at hP hD
        exact W.vret hx hb hr (fun t2 ht2 _ => ⟨⟨β, rfl, ⟨e0, hge, hD.weaken (fun _ _ _ _ => trivial)⟩, by show va_P D kcl _ _; rw [ht2]; exact hP⟩, hS.F ht2⟩) hS.2.2 d_M_init_123 hlocks
      · have hlt : j < 16 := lp_lt (B := 16) (hn := by decide) c7 hj
        refine lv_aload_n hx hb d_M_init_110 rfl (lv_at hl 1 rfl) ?_
        refine mw_get hx hb hts hown hK hP 8 (by decide) fl_M_28 rfl d_M_init_111 ?_
        refine lv_iload_n hx hb d_M_init_114 rfl (lv_at hl 0 rfl) ?_
        refine lv_iconst (v := (-1)) hx hb d_M_init_115 (by decide) ?_
        refine mw_ast hx hb hK hP hD hS 8 (by simp [mw_as]) (x := nI j) rfl hlt d_M_init_116 (fun H locs hP hD hS => ?_)
        rw [his] at hP hD
        refine lv_iinc (v := nI (j + 1)) (lv' := [(1, .int (nI (j + 1))), (0, .ref (β 0))]) hx hb d_M_init_117 hl (k := 0) rfl (nI_1 j) (by decide) rfl (fun ls hl => ?_)
        refine lv_goto (tgt := 104) hx hb d_M_init_120 (by decide) ?_
        exact ih (j + 1) _ _ ls (by omega) (by omega) hP hD hS hl
  exact lp 17 0 _ _ ls (by omega) (by omega) hP hD hS hl
