set_option maxHeartbeats 4000000 in
set_option maxRecDepth 100000 in
theorem ct_K_isSubject (l : Launch)  (x : Int32) : Met l y_K_isSubject w_K_isSubject { frames := 0, cells := 0, slots := 0, locals := 0 } (fun v _ => v = [.int x].toArray) (QcRead (kd_sub x)) 0 0 (fun _ => False) := by
  refine Met.ofW (cc := b_K_isSubject) (maxL := 1) (ret := some .boolean) (by decide) rfl ?_
  intro p e s m args below meth c s₁ B hml hv
  subst hv
  have hx := B.exec
  have hb := B.bytes
  have hr := B.returns
  have hts : ∀ w ∈ kT, w.before [.int x].toArray s = true := fun w h => atoms_spec (ws := w_K_isSubject) B.pre w (List.mem_cons_of_mem _ h)
  have hown : s.vm.findClass R_K = some m.cls := findClass_of_methodNamed B.named
  have hlocks := B.notSynchronized
  have hl := lv_entry ([.int x]) (n := 1) (Nat.le_of_ble_eq_true rfl)
  rw [lg_entry_eq]
  generalize (lg_sl ([.int x]) ++ List.replicate (1 - (lg_sl ([.int x])).length) Slot.unset).toArray = ls at hl ⊢
  have hl : lv_has ls 1 [(0, .int x)] := hl
  refine lv_iload_n hx hb d_K_isSubject_0 rfl (lv_at hl 0 rfl) ?_
  refine lv_if_lt (tgt := 14) hx hb d_K_isSubject_1 (by decide) (fun c_1 => ?_) (fun c_1 => ?_)
  · -- to 14
    refine lv_iconst (v := 0) hx hb d_K_isSubject_14 (by decide) ?_
    exact r_retz hx hb hr hlocks (by decide) (by simp [kd_sub, c_1]) d_K_isSubject_15
  · -- on 4
    refine lv_iload_n hx hb d_K_isSubject_4 rfl (lv_at hl 0 rfl) ?_
    refine lv_bipush (v := 16) hx hb d_K_isSubject_5 (by decide) ?_
    refine lv_icmp_ge (tgt := 14) hx hb d_K_isSubject_7 (by decide) (fun c_7 => ?_) (fun c_7 => ?_)
    · -- to 14
      refine lv_iconst (v := 0) hx hb d_K_isSubject_14 (by decide) ?_
      exact r_retz hx hb hr hlocks (by decide) (by simp [kd_sub, c_1, c_7]) d_K_isSubject_15
    · -- on 10
      refine lv_iconst (v := 1) hx hb d_K_isSubject_10 (by decide) ?_
      refine lv_goto (tgt := 15) hx hb d_K_isSubject_11 (by decide) ?_
      exact r_retz hx hb hr hlocks (by decide) (by simp [kd_sub, c_1, c_7]) d_K_isSubject_15

set_option maxHeartbeats 4000000 in
set_option maxRecDepth 100000 in
theorem ct_K_deskAt (l : Launch) (D : va_G) (cI cQ : ClassId) (α ad an : Nat → Nat) (n : Nat) (σ : kS) (hI : k_ok n σ.1) (x : Int32) : Met l y_K_deskAt w_K_deskAt { frames := 0, cells := 0, slots := 0, locals := 0 } (gPc D (kty cI cQ) (kw_w cI cQ α ad an n σ) [.ref (α 0), .int x]) (va_Sq (fun q => q = (kd_at n x).map ad)) 0 0 (fun _ => False) := by
  refine Met.ofW (cc := b_K_deskAt) (maxL := 2) (ret := (some (.object R_D))) (by decide) rfl ?_
  intro p e s m args below meth c s₁ B hml hv
  obtain ⟨rfl, hP, hK, hD⟩ := hv
  have hx := B.exec
  have hb := B.bytes
  have hr := B.returns
  have hts : ∀ w ∈ kT, w.before [.ref (α 0), .int x].toArray s = true := fun w h => atoms_spec (ws := w_K_deskAt) B.pre w (List.mem_cons_of_mem _ h)
  have hown : s.vm.findClass R_K = some m.cls := findClass_of_methodNamed B.named
  have hlocks := B.notSynchronized
  have hl := lv_entry ([.ref (α 0), .int x]) (n := 2) (Nat.le_of_ble_eq_true rfl)
  rw [lg_entry_eq]
  generalize (lg_sl ([.ref (α 0), .int x]) ++ List.replicate (2 - (lg_sl ([.ref (α 0), .int x])).length) Slot.unset).toArray = ls at hl ⊢
  have hl : lv_has ls 2 [(0, .ref (α 0)), (1, .int x)] := hl
  refine lv_iload_n hx hb d_K_deskAt_0 rfl (lv_at hl 1 rfl) ?_
  refine lv_if_lt (tgt := 30) hx hb d_K_deskAt_1 (by decide) (fun c_1 => ?_) (fun c_1 => ?_)
  · -- to 30
    refine lv_null hx hb d_K_deskAt_30 ?_
    exact r_retq hx hb hr hlocks (r := (kd_at n x).map ad) (by rw [kd_at_none hI (Or.inl c_1)]; rfl) d_K_deskAt_31
  · -- on 4
    refine lv_iload_n hx hb d_K_deskAt_4 rfl (lv_at hl 1 rfl) ?_
    refine lv_aload_n hx hb d_K_deskAt_5 rfl (lv_at hl 0 rfl) ?_
    refine kw_get hx hb hts hown hK hP 1 (by decide) fl_K_15 (v := .int (σ.1 1)) rfl d_K_deskAt_6 ?_
    refine lv_icmp_ge (tgt := 30) hx hb d_K_deskAt_9 (by decide) (fun c_9 => ?_) (fun c_9 => ?_)
    · -- to 30
      refine lv_null hx hb d_K_deskAt_30 ?_
      exact r_retq hx hb hr hlocks (r := (kd_at n x).map ad) (by rw [kd_at_none hI (Or.inr (Or.inl c_9))]; rfl) d_K_deskAt_31
    · -- on 12
      refine lv_iload_n hx hb d_K_deskAt_12 rfl (lv_at hl 1 rfl) ?_
      refine lv_aload_n hx hb d_K_deskAt_13 rfl (lv_at hl 0 rfl) ?_
      refine kw_get hx hb hts hown hK hP 0 (by decide) fl_K_11 (v := .ref (α 1)) rfl d_K_deskAt_14 ?_
      refine kw_qlen hx hb hK hP d_K_deskAt_17 ?_
      refine lv_icmp_ge (tgt := 30) hx hb d_K_deskAt_18 (by decide) (fun c_18 => ?_) (fun c_18 => ?_)
      · -- to 30
        refine lv_null hx hb d_K_deskAt_30 ?_
        exact r_retq hx hb hr hlocks (r := (kd_at n x).map ad) (by rw [kd_at_none hI (Or.inr (Or.inr c_18))]; rfl) d_K_deskAt_31
      · -- on 21
        refine lv_aload_n hx hb d_K_deskAt_21 rfl (lv_at hl 0 rfl) ?_
        refine kw_get hx hb hts hown hK hP 0 (by decide) fl_K_11 (v := .ref (α 1)) rfl d_K_deskAt_22 ?_
        refine lv_iload_n hx hb d_K_deskAt_25 rfl (lv_at hl 1 rfl) ?_
        refine kw_qld hx hb hK hP (j := x.toNatClampNeg) (ix_e c_1) (ix_ln hI c_1 c_9) hI.1 d_K_deskAt_26 ?_
        refine lv_goto (tgt := 31) hx hb d_K_deskAt_27 (by decide) ?_
        exact r_retq hx hb hr hlocks (r := (kd_at n x).map ad) (by rw [kd_at_some hI c_1 c_9]; rfl) d_K_deskAt_31

set_option maxHeartbeats 4000000 in
set_option maxRecDepth 100000 in
theorem ct_K_isAlive (l : Launch) (D : va_G) (cI cQ : ClassId) (α ad an : Nat → Nat) (n : Nat) (σ : kS) (hI : k_ok n σ.1) (i : Nat) (hi : i < n) : Met l y_K_isAlive w_K_isAlive { frames := 1, cells := 0, slots := 0, locals := 20 } (gPc D (kty cI cQ) (kw_w cI cQ α ad an n σ) [.ref (ad i)]) (QcRead (kd_alive σ i)) 0 0 (fun _ => False) := by
  refine Met.ofW (cc := b_K_isAlive) (maxL := 2) (ret := some .boolean) (by decide) rfl ?_
  intro p e s m args below meth c s₁ B hml hv
  obtain ⟨rfl, hP, hK, hD⟩ := hv
  have hx := B.exec
  have hb := B.bytes
  have hr := B.returns
  have hts : ∀ w ∈ kT, w.before [.ref (ad i)].toArray s = true := fun w h => atoms_spec (ws := w_K_isAlive) B.pre w (List.mem_cons_of_mem _ h)
  have hown : s.vm.findClass R_K = some m.cls := findClass_of_methodNamed B.named
  have hlocks := B.notSynchronized
  have hl := lv_entry ([.ref (ad i)]) (n := 2) (Nat.le_of_ble_eq_true rfl)
  rw [lg_entry_eq]
  generalize (lg_sl ([.ref (ad i)]) ++ List.replicate (2 - (lg_sl ([.ref (ad i)])).length) Slot.unset).toArray = ls at hl ⊢
  have hl : lv_has ls 2 [(0, .ref (ad i))] := hl
  refine lv_aload_n hx hb d_K_isAlive_0 rfl (lv_at hl 0 rfl) ?_
  refine r_calli (W.runV (As := []) (rest := []) ⟨hx, hb, hml, hown, hts⟩ (ct_D_condition l D cI cQ α ad an n σ hI i hi) (cwV 0 hts gd_K_157 rfl rfl rfl (by decide +kernel) ⟨Nat.le_of_ble_eq_true rfl, Nat.le_of_ble_eq_true rfl⟩) (g_preV hK hP hD (ci := 1) (q0 := 6 + i) rfl (kw_3 hi)) rfl rfl hl.1 rfl (lv_room (Nat.le_of_ble_eq_true rfl)) d_K_isAlive_1 ⟨Nat.le_refl _, Nat.le_refl _⟩) ?_
  refine lv_istore_n (lv' := [(1, .int (kd_cond σ i)), (0, .ref (ad i))]) hx hb d_K_isAlive_4 rfl hl (by decide) rfl (fun ls hl => ?_)
  refine lv_iload_n hx hb d_K_isAlive_5 rfl (lv_at hl 0 rfl) ?_
  refine lv_if_eq (tgt := 14) hx hb d_K_isAlive_6 (by decide) (fun c_6 => ?_) (fun c_6 => ?_)
  · -- to 14
    refine lv_iconst (v := 1) hx hb d_K_isAlive_14 (by decide) ?_
    refine lv_goto (tgt := 19) hx hb d_K_isAlive_15 (by decide) ?_
    exact r_retz hx hb hr hlocks (by decide) (by simp [kd_alive, c_6]) d_K_isAlive_19
  · -- on 9
    refine lv_iload_n hx hb d_K_isAlive_9 rfl (lv_at hl 0 rfl) ?_
    refine lv_iconst (v := 1) hx hb d_K_isAlive_10 (by decide) ?_
    refine lv_icmp_ne (tgt := 18) hx hb d_K_isAlive_11 (by decide) (fun c_11 => ?_) (fun c_11 => ?_)
    · -- to 18
      refine lv_iconst (v := 0) hx hb d_K_isAlive_18 (by decide) ?_
      exact r_retz hx hb hr hlocks (by decide) (by simp [kd_alive, c_6, c_11]) d_K_isAlive_19
    · -- on 14
      refine lv_iconst (v := 1) hx hb d_K_isAlive_14 (by decide) ?_
      refine lv_goto (tgt := 19) hx hb d_K_isAlive_15 (by decide) ?_
      exact r_retz hx hb hr hlocks (by decide) (by simp [kd_alive, c_6, c_11]) d_K_isAlive_19

set_option maxHeartbeats 4000000 in
set_option maxRecDepth 100000 in
theorem ct_K_heldBy (l : Launch) (D : va_G) (cI cQ : ClassId) (α ad an : Nat → Nat) (n : Nat) (σ : kS) (hI : k_ok n σ.1) (i : Nat) (hi : i < n) : Met l y_K_heldBy w_K_heldBy { frames := 0, cells := 0, slots := 0, locals := 0 } (gPc D (kty cI cQ) (kw_w cI cQ α ad an n σ) [.ref (α 0), .ref (ad i)]) (QcRead (kd_held σ i)) 0 0 (fun _ => False) := by
  refine Met.ofW (cc := b_K_heldBy) (maxL := 4) (ret := some .int) (by decide) rfl ?_
  intro p e s m args below meth c s₁ B hml hv
  obtain ⟨rfl, hP, hK, hD⟩ := hv
  have hx := B.exec
  have hb := B.bytes
  have hr := B.returns
  have hts : ∀ w ∈ kT, w.before [.ref (α 0), .ref (ad i)].toArray s = true := fun w h => atoms_spec (ws := w_K_heldBy) B.pre w (List.mem_cons_of_mem _ h)
  have hown : s.vm.findClass R_K = some m.cls := findClass_of_methodNamed B.named
  have hlocks := B.notSynchronized
  have hl := lv_entry ([.ref (α 0), .ref (ad i)]) (n := 4) (Nat.le_of_ble_eq_true rfl)
  rw [lg_entry_eq]
  generalize (lg_sl ([.ref (α 0), .ref (ad i)]) ++ List.replicate (4 - (lg_sl ([.ref (α 0), .ref (ad i)])).length) Slot.unset).toArray = ls at hl ⊢
  have hl : lv_has ls 4 [(0, .ref (α 0)), (1, .ref (ad i))] := hl
  refine lv_iconst (v := 0) hx hb d_K_heldBy_0 (by decide) ?_
  refine lv_istore_n (lv' := [(2, .int 0), (0, .ref (α 0)), (1, .ref (ad i))]) hx hb d_K_heldBy_1 rfl hl (by decide) rfl (fun ls hl => ?_)
  refine lv_iconst (v := 0) hx hb d_K_heldBy_2 (by decide) ?_
  refine lv_istore_n (lv' := [(3, .int 0), (2, .int 0), (0, .ref (α 0)), (1, .ref (ad i))]) hx hb d_K_heldBy_3 rfl hl (by decide) rfl (fun ls hl => ?_)
  have lp4 : ∀ (fu j : Nat) (acc : Int32) (ls : Array Slot), j ≤ 16 → 16 - j < fu → acc = kd_heldp (σ.2.1 0) (σ.2.2.1 i 0) j → lv_has ls 4 [(3, .int (nI j)), (2, .int acc), (0, .ref (α 0)), (1, .ref (ad i))] → W p l e (headSpec w_K_heldBy { frames := 0, cells := 0, slots := 0, locals := 0 }).room s m [.ref (α 0), .ref (ad i)].toArray below meth c s.heap [] 0 0 (MQ below (QcRead (kd_held σ i)) [.ref (α 0), .ref (ad i)].toArray s 0 0 (fun _ => False)) (F0 m 4 ls []) := by
    intro fu
    induction fu with
    | zero => intro j acc ls h1 h2; omega
    | succ fu ih =>
      intro j acc ls hj4 hf4 e_acc  hl
      refine lv_iload_n hx hb d_K_heldBy_4 rfl (lv_at hl 0 rfl) ?_
      refine lv_bipush (v := 16) hx hb d_K_heldBy_5 (by decide) ?_
      refine lv_icmp_ge (tgt := 35) hx hb d_K_heldBy_7 (by decide) (fun c_7 => ?_) (fun c_7 => ?_)
      · -- to 35
        have hx4 : j = 16 := lp_eq (B := 16) (hn := (by decide)) c_7 hj4
        subst hx4
        refine lv_iload_n hx hb d_K_heldBy_35 rfl (lv_at hl 1 rfl) ?_
        exact r_reti hx hb hr hlocks (by rw [e_acc]; rfl) d_K_heldBy_36
      · -- on 10
        have hl4 : j < 16 := lp_lt (B := 16) (hn := (by decide)) c_7 hj4
        refine lv_aload_n hx hb d_K_heldBy_10 rfl (lv_at hl 2 rfl) ?_
        refine kw_get hx hb hts hown hK hP 2 (by decide) fl_K_19 (v := .ref (α 2)) rfl d_K_heldBy_11 ?_
        refine lv_iload_n hx hb d_K_heldBy_14 rfl (lv_at hl 0 rfl) ?_
        refine kw_ald hx hb hK hP 0 (by decide) (j := j) rfl hl4 d_K_heldBy_15 ?_
        refine lv_aload_n hx hb d_K_heldBy_16 rfl (lv_at hl 3 rfl) ?_
        refine kw_dget hx hb hts hown hK hP hi 0 (by decide) fl_K_117 (v := .int (σ.2.2.1 i 0)) rfl d_K_heldBy_17 ?_
        refine lv_icmp_ne (tgt := 29) hx hb d_K_heldBy_20 (by decide) (fun c_20 => ?_) (fun c_20 => ?_)
        · -- to 29
          refine lv_iinc (v := nI (j + 1)) (lv' := [(3, .int (nI (j + 1))), (2, .int acc), (0, .ref (α 0)), (1, .ref (ad i))]) hx hb d_K_heldBy_29 hl (k := 0) rfl (nI_1 j) (by decide) rfl (fun ls hl => ?_)
          refine lv_goto (tgt := 4) hx hb d_K_heldBy_32 (by decide) ?_
          exact ih (j + 1) acc ls (by omega) (by omega) (by rw [kd_heldp, ← e_acc] <;> simp [c_7, c_20]) (lv_sub hl [0, 1, 2, 3] rfl)
        · -- on 23
          refine lv_iload_n hx hb d_K_heldBy_23 rfl (lv_at hl 1 rfl) ?_
          refine lv_iconst (v := 1) hx hb d_K_heldBy_24 (by decide) ?_
          refine lv_iload_n hx hb d_K_heldBy_25 rfl (lv_at hl 0 rfl) ?_
          refine lv_ishl hx hb d_K_heldBy_26 ?_
          refine lv_ior hx hb d_K_heldBy_27 ?_
          refine lv_istore_n (lv' := [(2, .int (acc ||| (1 <<< ((nI j) &&& 31)))), (3, .int (nI j)), (0, .ref (α 0)), (1, .ref (ad i))]) hx hb d_K_heldBy_28 rfl hl (by decide) rfl (fun ls hl => ?_)
          refine lv_iinc (v := nI (j + 1)) (lv' := [(3, .int (nI (j + 1))), (2, .int (acc ||| (1 <<< ((nI j) &&& 31)))), (0, .ref (α 0)), (1, .ref (ad i))]) hx hb d_K_heldBy_29 hl (k := 1) rfl (nI_1 j) (by decide) rfl (fun ls hl => ?_)
          refine lv_goto (tgt := 4) hx hb d_K_heldBy_32 (by decide) ?_
          exact ih (j + 1) (acc ||| (1 <<< ((nI j) &&& 31))) ls (by omega) (by omega) (by rw [kd_heldp, ← e_acc] <;> simp [c_7, c_20]) (lv_sub hl [0, 1, 2, 3] rfl)
  exact lp4 (16 - 0 + 1) 0 _ ls (by omega) (by omega) rfl  (lv_sub hl [0, 1, 2, 3] rfl)

set_option maxHeartbeats 4000000 in
set_option maxRecDepth 100000 in
theorem ct_K_isInTheMidst (l : Launch) (D : va_G) (cI cQ : ClassId) (α ad an : Nat → Nat) (n : Nat) (σ : kS) (hI : k_ok n σ.1) (i : Nat) (hi : i < n) : Met l y_K_isInTheMidst w_K_isInTheMidst { frames := 1, cells := 0, slots := 0, locals := 23 } (gPc D (kty cI cQ) (kw_w cI cQ α ad an n σ) [.ref (α 0), .ref (ad i)]) (QcRead (kd_midst σ i)) 0 0 (fun _ => False) := by
  refine Met.ofW (cc := b_K_isInTheMidst) (maxL := 2) (ret := some .boolean) (by decide) rfl ?_
  intro p e s m args below meth c s₁ B hml hv
  obtain ⟨rfl, hP, hK, hD⟩ := hv
  have hx := B.exec
  have hb := B.bytes
  have hr := B.returns
  have hts : ∀ w ∈ kT, w.before [.ref (α 0), .ref (ad i)].toArray s = true := fun w h => atoms_spec (ws := w_K_isInTheMidst) B.pre w (List.mem_cons_of_mem _ h)
  have hown : s.vm.findClass R_K = some m.cls := findClass_of_methodNamed B.named
  have hlocks := B.notSynchronized
  have hl := lv_entry ([.ref (α 0), .ref (ad i)]) (n := 2) (Nat.le_of_ble_eq_true rfl)
  rw [lg_entry_eq]
  generalize (lg_sl ([.ref (α 0), .ref (ad i)]) ++ List.replicate (2 - (lg_sl ([.ref (α 0), .ref (ad i)])).length) Slot.unset).toArray = ls at hl ⊢
  have hl : lv_has ls 2 [(0, .ref (α 0)), (1, .ref (ad i))] := hl
  refine lv_aload_n hx hb d_K_isInTheMidst_0 rfl (lv_at hl 1 rfl) ?_
  refine kw_dget hx hb hts hown hK hP hi 6 (by decide) fl_K_120 (v := .int (σ.2.2.1 i 6)) rfl d_K_isInTheMidst_1 ?_
  refine lv_iconst (v := (-1)) hx hb d_K_isInTheMidst_4 (by decide) ?_
  refine lv_icmp_ne (tgt := 16) hx hb d_K_isInTheMidst_5 (by decide) (fun c_5 => ?_) (fun c_5 => ?_)
  · -- to 16
    refine lv_iconst (v := 1) hx hb d_K_isInTheMidst_16 (by decide) ?_
    refine lv_goto (tgt := 21) hx hb d_K_isInTheMidst_17 (by decide) ?_
    exact r_retz hx hb hr hlocks (by decide) (by simp [kd_midst, c_5]) d_K_isInTheMidst_21
  · -- on 8
    refine lv_aload_n hx hb d_K_isInTheMidst_8 rfl (lv_at hl 0 rfl) ?_
    refine lv_aload_n hx hb d_K_isInTheMidst_9 rfl (lv_at hl 1 rfl) ?_
    refine r_calli (W.runV (As := [.ref (ad i)]) (rest := []) ⟨hx, hb, hml, hown, hts⟩ (ct_K_heldBy l D cI cQ α ad an n σ hI i hi) (cwV 1 hts gd_K_137 rfl rfl rfl (by decide +kernel) ⟨Nat.le_of_ble_eq_true rfl, Nat.le_of_ble_eq_true rfl⟩) (g_preV hK hP hD (ci := 0) (q0 := 0) rfl kw_0) rfl rfl hl.1 rfl (lv_room (Nat.le_of_ble_eq_true rfl)) d_K_isInTheMidst_10 ⟨Nat.le_refl _, Nat.le_refl _⟩) ?_
    refine lv_if_eq (tgt := 20) hx hb d_K_isInTheMidst_13 (by decide) (fun c_13 => ?_) (fun c_13 => ?_)
    · -- to 20
      refine lv_iconst (v := 0) hx hb d_K_isInTheMidst_20 (by decide) ?_
      exact r_retz hx hb hr hlocks (by decide) (by simp [kd_midst, c_5, c_13]) d_K_isInTheMidst_21
    · -- on 16
      refine lv_iconst (v := 1) hx hb d_K_isInTheMidst_16 (by decide) ?_
      refine lv_goto (tgt := 21) hx hb d_K_isInTheMidst_17 (by decide) ?_
      exact r_retz hx hb hr hlocks (by decide) (by simp [kd_midst, c_5, c_13]) d_K_isInTheMidst_21

set_option maxHeartbeats 4000000 in
set_option maxRecDepth 100000 in
theorem ct_K_subjectsHeld (l : Launch) (D : va_G) (cI cQ : ClassId) (α ad an : Nat → Nat) (n : Nat) (σ : kS) (hI : k_ok n σ.1)  : Met l y_K_subjectsHeld w_K_subjectsHeld { frames := 0, cells := 0, slots := 0, locals := 0 } (gPc D (kty cI cQ) (kw_w cI cQ α ad an n σ) [.ref (α 0)]) (QcRead (kd_cntp (σ.2.1 0) 16)) 0 0 (fun _ => False) := by
  refine Met.ofW (cc := b_K_subjectsHeld) (maxL := 3) (ret := some .int) (by decide) rfl ?_
  intro p e s m args below meth c s₁ B hml hv
  obtain ⟨rfl, hP, hK, hD⟩ := hv
  have hx := B.exec
  have hb := B.bytes
  have hr := B.returns
  have hts : ∀ w ∈ kT, w.before [.ref (α 0)].toArray s = true := fun w h => atoms_spec (ws := w_K_subjectsHeld) B.pre w (List.mem_cons_of_mem _ h)
  have hown : s.vm.findClass R_K = some m.cls := findClass_of_methodNamed B.named
  have hlocks := B.notSynchronized
  have hl := lv_entry ([.ref (α 0)]) (n := 3) (Nat.le_of_ble_eq_true rfl)
  rw [lg_entry_eq]
  generalize (lg_sl ([.ref (α 0)]) ++ List.replicate (3 - (lg_sl ([.ref (α 0)])).length) Slot.unset).toArray = ls at hl ⊢
  have hl : lv_has ls 3 [(0, .ref (α 0))] := hl
  refine lv_iconst (v := 0) hx hb d_K_subjectsHeld_0 (by decide) ?_
  refine lv_istore_n (lv' := [(1, .int 0), (0, .ref (α 0))]) hx hb d_K_subjectsHeld_1 rfl hl (by decide) rfl (fun ls hl => ?_)
  refine lv_iconst (v := 0) hx hb d_K_subjectsHeld_2 (by decide) ?_
  refine lv_istore_n (lv' := [(2, .int 0), (1, .int 0), (0, .ref (α 0))]) hx hb d_K_subjectsHeld_3 rfl hl (by decide) rfl (fun ls hl => ?_)
  have lp4 : ∀ (fu j : Nat) (acc : Int32) (ls : Array Slot), j ≤ 16 → 16 - j < fu → acc = kd_cntp (σ.2.1 0) j → lv_has ls 3 [(2, .int (nI j)), (1, .int acc), (0, .ref (α 0))] → W p l e (headSpec w_K_subjectsHeld { frames := 0, cells := 0, slots := 0, locals := 0 }).room s m [.ref (α 0)].toArray below meth c s.heap [] 0 0 (MQ below (QcRead (kd_cntp (σ.2.1 0) 16)) [.ref (α 0)].toArray s 0 0 (fun _ => False)) (F0 m 4 ls []) := by
    intro fu
    induction fu with
    | zero => intro j acc ls h1 h2; omega
    | succ fu ih =>
      intro j acc ls hj4 hf4 e_acc  hl
      refine lv_iload_n hx hb d_K_subjectsHeld_4 rfl (lv_at hl 0 rfl) ?_
      refine lv_bipush (v := 16) hx hb d_K_subjectsHeld_5 (by decide) ?_
      refine lv_icmp_ge (tgt := 29) hx hb d_K_subjectsHeld_7 (by decide) (fun c_7 => ?_) (fun c_7 => ?_)
      · -- to 29
        have hx4 : j = 16 := lp_eq (B := 16) (hn := (by decide)) c_7 hj4
        subst hx4
        refine lv_iload_n hx hb d_K_subjectsHeld_29 rfl (lv_at hl 1 rfl) ?_
        exact r_reti hx hb hr hlocks e_acc d_K_subjectsHeld_30
      · -- on 10
        have hl4 : j < 16 := lp_lt (B := 16) (hn := (by decide)) c_7 hj4
        refine lv_aload_n hx hb d_K_subjectsHeld_10 rfl (lv_at hl 2 rfl) ?_
        refine kw_get hx hb hts hown hK hP 2 (by decide) fl_K_19 (v := .ref (α 2)) rfl d_K_subjectsHeld_11 ?_
        refine lv_iload_n hx hb d_K_subjectsHeld_14 rfl (lv_at hl 0 rfl) ?_
        refine kw_ald hx hb hK hP 0 (by decide) (j := j) rfl hl4 d_K_subjectsHeld_15 ?_
        refine lv_iconst (v := (-1)) hx hb d_K_subjectsHeld_16 (by decide) ?_
        refine lv_icmp_eq (tgt := 23) hx hb d_K_subjectsHeld_17 (by decide) (fun c_17 => ?_) (fun c_17 => ?_)
        · -- to 23
          refine lv_iinc (v := nI (j + 1)) (lv' := [(2, .int (nI (j + 1))), (1, .int acc), (0, .ref (α 0))]) hx hb d_K_subjectsHeld_23 hl (k := 0) rfl (nI_1 j) (by decide) rfl (fun ls hl => ?_)
          refine lv_goto (tgt := 4) hx hb d_K_subjectsHeld_26 (by decide) ?_
          exact ih (j + 1) acc ls (by omega) (by omega) (by rw [kd_cntp, ← e_acc] <;> simp [c_7, c_17]) (lv_sub hl [0, 1, 2] rfl)
        · -- on 20
          refine lv_iinc (v := acc + 1) (lv' := [(1, .int (acc + 1)), (2, .int (nI j)), (0, .ref (α 0))]) hx hb d_K_subjectsHeld_20 hl (k := 1) rfl rfl (by decide) rfl (fun ls hl => ?_)
          refine lv_iinc (v := nI (j + 1)) (lv' := [(2, .int (nI (j + 1))), (1, .int (acc + 1)), (0, .ref (α 0))]) hx hb d_K_subjectsHeld_23 hl (k := 1) rfl (nI_1 j) (by decide) rfl (fun ls hl => ?_)
          refine lv_goto (tgt := 4) hx hb d_K_subjectsHeld_26 (by decide) ?_
          exact ih (j + 1) (acc + 1) ls (by omega) (by omega) (by rw [kd_cntp, ← e_acc] <;> simp [c_7, c_17]) (lv_sub hl [0, 1, 2] rfl)
  exact lp4 (16 - 0 + 1) 0 _ ls (by omega) (by omega) rfl  (lv_sub hl [0, 1, 2] rfl)
