set_option maxHeartbeats 4000000 in
set_option maxRecDepth 100000 in
theorem tt_K_deskA (l : Launch) (hlT : l.stackTraces = false) (D : va_G) (cI cQ : ClassId) (α ad an : Nat → Nat) (n : Nat) (σ : kS) (hI : k_ok n σ.1) (x y : Int32) (hT : ¬ (¬ x < 1 ∧ x ≤ 12 ∧ ¬ y < -1 ∧ y < x)) : vx_Met l y_K_desk w_K_desk { frames := 6, cells := 1, slots := 6, locals := 90 } (xPc D (kty cI cQ) (kw_w cI cQ α ad an n σ) [.ref (α 0), .int x, .int y]) xQ (xX E_A) 1 6 (fun _ => False) := by
  refine vx_ofW (cc := b_K_desk) (maxL := 4) (ret := some .int) (by decide) rfl ?_
  intro p e s m args below meth c s₁ B hml htab hv
  obtain ⟨rfl, hP, hK, hD, hZ, hSt⟩ := hv
  have hx := B.exec
  have hb := B.bytes
  have hts : ∀ w ∈ kT, w.before [.ref (α 0), .int x, .int y].toArray s = true := fun w h => atoms_spec (ws := w_K_desk) B.pre w (List.mem_cons_of_mem _ h)
  have hown : s.vm.findClass R_K = some m.cls := findClass_of_methodNamed B.named
  have hlocks := B.notSynchronized
  have hl := lv_entry ([.ref (α 0), .int x, .int y]) (n := 4) (Nat.le_of_ble_eq_true rfl)
  rw [lg_entry_eq]
  generalize (lg_sl ([.ref (α 0), .int x, .int y]) ++ List.replicate (4 - (lg_sl ([.ref (α 0), .int x, .int y])).length) Slot.unset).toArray = ls at hl ⊢
  have hl : lv_has ls 4 [(0, .ref (α 0)), (1, .int x), (2, .int y)] := hl
  refine lv_iload_n hx hb d_K_desk_0 rfl (lv_at hl 1 rfl) ?_
  refine lv_iconst (v := 1) hx hb d_K_desk_1 (by decide) ?_
  refine lv_icmp_lt (tgt := 11) hx hb d_K_desk_2 (by decide) (fun c_2 => ?_) (fun c_2 => ?_)
  · -- to 11
    exact x_thr hx hb hlT hown hts xf_A xl_A xi_A xw_A hSt (List.mem_of_getElem? (i := 0) rfl) hZ (hl.1.trans hml.symm) htab hlocks (Nat.le_of_ble_eq_true rfl) (Nat.le_of_ble_eq_true rfl) (Nat.le_of_ble_eq_true rfl) (Nat.le_of_ble_eq_true rfl) d_K_desk_11 d_K_desk_14 d_K_desk_15 d_K_desk_17 d_K_desk_20
  · -- on 5
    refine lv_iload_n hx hb d_K_desk_5 rfl (lv_at hl 1 rfl) ?_
    refine lv_bipush (v := 12) hx hb d_K_desk_6 (by decide) ?_
    refine lv_icmp_le (tgt := 21) hx hb d_K_desk_8 (by decide) (fun c_8 => ?_) (fun c_8 => ?_)
    · -- to 21
      refine lv_iload_n hx hb d_K_desk_21 rfl (lv_at hl 2 rfl) ?_
      refine lv_iconst (v := (-1)) hx hb d_K_desk_22 (by decide) ?_
      refine lv_icmp_lt (tgt := 31) hx hb d_K_desk_23 (by decide) (fun c_23 => ?_) (fun c_23 => ?_)
      · -- to 31
        exact x_thr hx hb hlT hown hts xf_A xl_A xi_A xw_A hSt (List.mem_of_getElem? (i := 1) rfl) hZ (hl.1.trans hml.symm) htab hlocks (Nat.le_of_ble_eq_true rfl) (Nat.le_of_ble_eq_true rfl) (Nat.le_of_ble_eq_true rfl) (Nat.le_of_ble_eq_true rfl) d_K_desk_31 d_K_desk_34 d_K_desk_35 d_K_desk_37 d_K_desk_40
      · -- on 26
        refine lv_iload_n hx hb d_K_desk_26 rfl (lv_at hl 2 rfl) ?_
        refine lv_iload_n hx hb d_K_desk_27 rfl (lv_at hl 1 rfl) ?_
        refine lv_icmp_lt (tgt := 41) hx hb d_K_desk_28 (by decide) (fun c_28 => ?_) (fun c_28 => ?_)
        · -- to 41
          refine lv_aload_n hx hb d_K_desk_41 rfl (lv_at hl 0 rfl) ?_
          refine kw_get hx hb hts hown hK hP 12 (by decide) fl_K_50 (v := .int (σ.1 12)) rfl d_K_desk_42 ?_
          refine lv_if_ne (tgt := 57) hx hb d_K_desk_45 (by decide) (fun c_45 => ?_) (fun c_45 => ?_)
          · -- to 57
            exact absurd ⟨c_2, c_8, c_23, c_28⟩ hT
          · -- on 48
            refine lv_aload_n hx hb d_K_desk_48 rfl (lv_at hl 0 rfl) ?_
            refine kw_get hx hb hts hown hK hP 1 (by decide) fl_K_15 (v := .int (σ.1 1)) rfl d_K_desk_49 ?_
            refine lv_bipush (v := 8) hx hb d_K_desk_52 (by decide) ?_
            refine lv_icmp_lt (tgt := 67) hx hb d_K_desk_54 (by decide) (fun c_54 => ?_) (fun c_54 => ?_)
            · -- to 67
              exact absurd ⟨c_2, c_8, c_23, c_28⟩ hT
            · -- on 57
              exact absurd ⟨c_2, c_8, c_23, c_28⟩ hT
        · -- on 31
          exact x_thr hx hb hlT hown hts xf_A xl_A xi_A xw_A hSt (List.mem_of_getElem? (i := 1) rfl) hZ (hl.1.trans hml.symm) htab hlocks (Nat.le_of_ble_eq_true rfl) (Nat.le_of_ble_eq_true rfl) (Nat.le_of_ble_eq_true rfl) (Nat.le_of_ble_eq_true rfl) d_K_desk_31 d_K_desk_34 d_K_desk_35 d_K_desk_37 d_K_desk_40
    · -- on 11
      exact x_thr hx hb hlT hown hts xf_A xl_A xi_A xw_A hSt (List.mem_of_getElem? (i := 0) rfl) hZ (hl.1.trans hml.symm) htab hlocks (Nat.le_of_ble_eq_true rfl) (Nat.le_of_ble_eq_true rfl) (Nat.le_of_ble_eq_true rfl) (Nat.le_of_ble_eq_true rfl) d_K_desk_11 d_K_desk_14 d_K_desk_15 d_K_desk_17 d_K_desk_20

set_option maxHeartbeats 4000000 in
set_option maxRecDepth 100000 in
theorem tt_K_deskS (l : Launch) (hlT : l.stackTraces = false) (D : va_G) (cI cQ : ClassId) (α ad an : Nat → Nat) (n : Nat) (σ : kS) (hI : k_ok n σ.1) (x y : Int32) (h1 : ¬ x < 1) (h2 : x ≤ 12) (h3 : ¬ y < -1) (h4 : y < x) (hT : ¬ σ.1 12 = 0 ∨ ¬ σ.1 1 < 8) : vx_Met l y_K_desk w_K_desk { frames := 6, cells := 1, slots := 6, locals := 90 } (xPc D (kty cI cQ) (kw_w cI cQ α ad an n σ) [.ref (α 0), .int x, .int y]) xQ (xX E_S) 1 6 (fun _ => False) := by
  refine vx_ofW (cc := b_K_desk) (maxL := 4) (ret := some .int) (by decide) rfl ?_
  intro p e s m args below meth c s₁ B hml htab hv
  obtain ⟨rfl, hP, hK, hD, hZ, hSt⟩ := hv
  have hx := B.exec
  have hb := B.bytes
  have hts : ∀ w ∈ kT, w.before [.ref (α 0), .int x, .int y].toArray s = true := fun w h => atoms_spec (ws := w_K_desk) B.pre w (List.mem_cons_of_mem _ h)
  have hown : s.vm.findClass R_K = some m.cls := findClass_of_methodNamed B.named
  have hlocks := B.notSynchronized
  have hl := lv_entry ([.ref (α 0), .int x, .int y]) (n := 4) (Nat.le_of_ble_eq_true rfl)
  rw [lg_entry_eq]
  generalize (lg_sl ([.ref (α 0), .int x, .int y]) ++ List.replicate (4 - (lg_sl ([.ref (α 0), .int x, .int y])).length) Slot.unset).toArray = ls at hl ⊢
  have hl : lv_has ls 4 [(0, .ref (α 0)), (1, .int x), (2, .int y)] := hl
  refine lv_iload_n hx hb d_K_desk_0 rfl (lv_at hl 1 rfl) ?_
  refine lv_iconst (v := 1) hx hb d_K_desk_1 (by decide) ?_
  refine lv_icmp_lt (tgt := 11) hx hb d_K_desk_2 (by decide) (fun c_2 => ?_) (fun c_2 => ?_)
  · -- to 11
    exact absurd c_2 h1
  · -- on 5
    refine lv_iload_n hx hb d_K_desk_5 rfl (lv_at hl 1 rfl) ?_
    refine lv_bipush (v := 12) hx hb d_K_desk_6 (by decide) ?_
    refine lv_icmp_le (tgt := 21) hx hb d_K_desk_8 (by decide) (fun c_8 => ?_) (fun c_8 => ?_)
    · -- to 21
      refine lv_iload_n hx hb d_K_desk_21 rfl (lv_at hl 2 rfl) ?_
      refine lv_iconst (v := (-1)) hx hb d_K_desk_22 (by decide) ?_
      refine lv_icmp_lt (tgt := 31) hx hb d_K_desk_23 (by decide) (fun c_23 => ?_) (fun c_23 => ?_)
      · -- to 31
        exact absurd c_23 h3
      · -- on 26
        refine lv_iload_n hx hb d_K_desk_26 rfl (lv_at hl 2 rfl) ?_
        refine lv_iload_n hx hb d_K_desk_27 rfl (lv_at hl 1 rfl) ?_
        refine lv_icmp_lt (tgt := 41) hx hb d_K_desk_28 (by decide) (fun c_28 => ?_) (fun c_28 => ?_)
        · -- to 41
          refine lv_aload_n hx hb d_K_desk_41 rfl (lv_at hl 0 rfl) ?_
          refine kw_get hx hb hts hown hK hP 12 (by decide) fl_K_50 (v := .int (σ.1 12)) rfl d_K_desk_42 ?_
          refine lv_if_ne (tgt := 57) hx hb d_K_desk_45 (by decide) (fun c_45 => ?_) (fun c_45 => ?_)
          · -- to 57
            exact x_thr hx hb hlT hown hts xf_S xl_S xi_S xw_S hSt (List.mem_of_getElem? (i := 2) rfl) hZ (hl.1.trans hml.symm) htab hlocks (Nat.le_of_ble_eq_true rfl) (Nat.le_of_ble_eq_true rfl) (Nat.le_of_ble_eq_true rfl) (Nat.le_of_ble_eq_true rfl) d_K_desk_57 d_K_desk_60 d_K_desk_61 d_K_desk_63 d_K_desk_66
          · -- on 48
            refine lv_aload_n hx hb d_K_desk_48 rfl (lv_at hl 0 rfl) ?_
            refine kw_get hx hb hts hown hK hP 1 (by decide) fl_K_15 (v := .int (σ.1 1)) rfl d_K_desk_49 ?_
            refine lv_bipush (v := 8) hx hb d_K_desk_52 (by decide) ?_
            refine lv_icmp_lt (tgt := 67) hx hb d_K_desk_54 (by decide) (fun c_54 => ?_) (fun c_54 => ?_)
            · -- to 67
              exact absurd hT (fun q => q.elim (fun h => h c_45) (fun h => h c_54))
            · -- on 57
              exact x_thr hx hb hlT hown hts xf_S xl_S xi_S xw_S hSt (List.mem_of_getElem? (i := 2) rfl) hZ (hl.1.trans hml.symm) htab hlocks (Nat.le_of_ble_eq_true rfl) (Nat.le_of_ble_eq_true rfl) (Nat.le_of_ble_eq_true rfl) (Nat.le_of_ble_eq_true rfl) d_K_desk_57 d_K_desk_60 d_K_desk_61 d_K_desk_63 d_K_desk_66
        · -- on 31
          exact absurd h4 c_28
    · -- on 11
      exact absurd h2 c_8

set_option maxHeartbeats 4000000 in
set_option maxRecDepth 100000 in
theorem tt_K_turnA (l : Launch) (hlT : l.stackTraces = false) (D : va_G) (cI cQ : ClassId) (α ad an : Nat → Nat) (n : Nat) (σ : kS) (hI : k_ok n σ.1) (x : Int32) (hT : kd_at n x = none) : vx_Met l y_K_turn w_K_turn { frames := 6, cells := 1, slots := 6, locals := 90 } (xPc D (kty cI cQ) (kw_w cI cQ α ad an n σ) [.ref (α 0), .int x]) xQ (xX E_A) 1 6 (fun _ => False) := by
  refine vx_ofW (cc := b_K_turn) (maxL := 2) (ret := some .int) (by decide) rfl ?_
  intro p e s m args below meth c s₁ B hml htab hv
  obtain ⟨rfl, hP, hK, hD, hZ, hSt⟩ := hv
  have hx := B.exec
  have hb := B.bytes
  have hts : ∀ w ∈ kT, w.before [.ref (α 0), .int x].toArray s = true := fun w h => atoms_spec (ws := w_K_turn) B.pre w (List.mem_cons_of_mem _ h)
  have hown : s.vm.findClass R_K = some m.cls := findClass_of_methodNamed B.named
  have hlocks := B.notSynchronized
  have hl := lv_entry ([.ref (α 0), .int x]) (n := 2) (Nat.le_of_ble_eq_true rfl)
  rw [lg_entry_eq]
  generalize (lg_sl ([.ref (α 0), .int x]) ++ List.replicate (2 - (lg_sl ([.ref (α 0), .int x])).length) Slot.unset).toArray = ls at hl ⊢
  have hl : lv_has ls 2 [(0, .ref (α 0)), (1, .int x)] := hl
  refine lv_aload_n hx hb d_K_turn_0 rfl (lv_at hl 0 rfl) ?_
  refine lv_iload_n hx hb d_K_turn_1 rfl (lv_at hl 1 rfl) ?_
  refine r_callq (W.runV (As := [.int x]) (rest := []) ⟨hx, hb, hml, hown, hts⟩ (ct_K_deskAt l D cI cQ α ad an n σ hI x) (cwV 1 hts gd_K_77 rfl rfl rfl (by decide +kernel) ⟨Nat.le_of_ble_eq_true rfl, Nat.le_of_ble_eq_true rfl⟩) (g_preV hK hP hD (ci := 0) (q0 := 0) rfl kw_0) rfl rfl hl.1 rfl (lv_room (Nat.le_of_ble_eq_true rfl)) d_K_turn_2 ⟨Nat.le_of_ble_eq_true rfl, Nat.le_of_ble_eq_true rfl⟩) ?_
  rw [hT]
  refine W.eq (g2 := F0 m 5 ls [.null]) rfl ?_
  refine lv_ifnonnullN hx hb d_K_turn_5 ?_
  exact x_thr hx hb hlT hown hts xf_A xl_A xi_A xw_A hSt (List.mem_of_getElem? (i := 3) rfl) hZ (hl.1.trans hml.symm) htab hlocks (Nat.le_of_ble_eq_true rfl) (Nat.le_of_ble_eq_true rfl) (Nat.le_of_ble_eq_true rfl) (Nat.le_of_ble_eq_true rfl) d_K_turn_8 d_K_turn_11 d_K_turn_12 d_K_turn_14 d_K_turn_17

set_option maxHeartbeats 4000000 in
set_option maxRecDepth 100000 in
theorem tt_K_turnS (l : Launch) (hlT : l.stackTraces = false) (D : va_G) (cI cQ : ClassId) (α ad an : Nat → Nat) (n : Nat) (σ : kS) (hI : k_ok n σ.1) (i : Nat) (hi : i < n) (hT : ¬ σ.1 12 = 0 ∨ ¬ σ.1 6 < 300) : vx_Met l y_K_turn w_K_turn { frames := 6, cells := 1, slots := 6, locals := 90 } (xPc D (kty cI cQ) (kw_w cI cQ α ad an n σ) [.ref (α 0), .int (nI i)]) xQ (xX E_S) 1 6 (fun _ => False) := by
  refine vx_ofW (cc := b_K_turn) (maxL := 2) (ret := some .int) (by decide) rfl ?_
  intro p e s m args below meth c s₁ B hml htab hv
  obtain ⟨rfl, hP, hK, hD, hZ, hSt⟩ := hv
  have hx := B.exec
  have hb := B.bytes
  have hts : ∀ w ∈ kT, w.before [.ref (α 0), .int (nI i)].toArray s = true := fun w h => atoms_spec (ws := w_K_turn) B.pre w (List.mem_cons_of_mem _ h)
  have hown : s.vm.findClass R_K = some m.cls := findClass_of_methodNamed B.named
  have hlocks := B.notSynchronized
  have hl := lv_entry ([.ref (α 0), .int (nI i)]) (n := 2) (Nat.le_of_ble_eq_true rfl)
  rw [lg_entry_eq]
  generalize (lg_sl ([.ref (α 0), .int (nI i)]) ++ List.replicate (2 - (lg_sl ([.ref (α 0), .int (nI i)])).length) Slot.unset).toArray = ls at hl ⊢
  have hl : lv_has ls 2 [(0, .ref (α 0)), (1, .int (nI i))] := hl
  refine lv_aload_n hx hb d_K_turn_0 rfl (lv_at hl 0 rfl) ?_
  refine lv_iload_n hx hb d_K_turn_1 rfl (lv_at hl 1 rfl) ?_
  refine r_callq (W.runV (As := [.int (nI i)]) (rest := []) ⟨hx, hb, hml, hown, hts⟩ (ct_K_deskAt l D cI cQ α ad an n σ hI (nI i)) (cwV 1 hts gd_K_77 rfl rfl rfl (by decide +kernel) ⟨Nat.le_of_ble_eq_true rfl, Nat.le_of_ble_eq_true rfl⟩) (g_preV hK hP hD (ci := 0) (q0 := 0) rfl kw_0) rfl rfl hl.1 rfl (lv_room (Nat.le_of_ble_eq_true rfl)) d_K_turn_2 ⟨Nat.le_of_ble_eq_true rfl, Nat.le_of_ble_eq_true rfl⟩) ?_
  rw [kd_at_nI hI hi]
  refine W.eq (g2 := F0 m 5 ls [.ref (ad i)]) rfl ?_
  refine lv_ifnonnull (tgt := 18) hx hb d_K_turn_5 (by decide) ?_
  refine lv_aload_n hx hb d_K_turn_18 rfl (lv_at hl 0 rfl) ?_
  refine kw_get hx hb hts hown hK hP 12 (by decide) fl_K_50 (v := .int (σ.1 12)) rfl d_K_turn_19 ?_
  refine lv_if_ne (tgt := 35) hx hb d_K_turn_22 (by decide) (fun c_22 => ?_) (fun c_22 => ?_)
  · -- to 35
    exact x_thr hx hb hlT hown hts xf_S xl_S xi_S xw_S hSt (List.mem_of_getElem? (i := 4) rfl) hZ (hl.1.trans hml.symm) htab hlocks (Nat.le_of_ble_eq_true rfl) (Nat.le_of_ble_eq_true rfl) (Nat.le_of_ble_eq_true rfl) (Nat.le_of_ble_eq_true rfl) d_K_turn_35 d_K_turn_38 d_K_turn_39 d_K_turn_41 d_K_turn_44
  · -- on 25
    refine lv_aload_n hx hb d_K_turn_25 rfl (lv_at hl 0 rfl) ?_
    refine kw_get hx hb hts hown hK hP 6 (by decide) fl_K_32 (v := .int (σ.1 6)) rfl d_K_turn_26 ?_
    refine lv_sipush (v := 300) hx hb d_K_turn_29 (by decide) ?_
    refine lv_icmp_lt (tgt := 45) hx hb d_K_turn_32 (by decide) (fun c_32 => ?_) (fun c_32 => ?_)
    · -- to 45
      exact absurd hT (fun q => q.elim (fun h => h c_22) (fun h => h c_32))
    · -- on 35
      exact x_thr hx hb hlT hown hts xf_S xl_S xi_S xw_S hSt (List.mem_of_getElem? (i := 4) rfl) hZ (hl.1.trans hml.symm) htab hlocks (Nat.le_of_ble_eq_true rfl) (Nat.le_of_ble_eq_true rfl) (Nat.le_of_ble_eq_true rfl) (Nat.le_of_ble_eq_true rfl) d_K_turn_35 d_K_turn_38 d_K_turn_39 d_K_turn_41 d_K_turn_44

set_option maxHeartbeats 4000000 in
set_option maxRecDepth 100000 in
theorem tt_K_runS (l : Launch) (hlT : l.stackTraces = false) (D : va_G) (cI cQ : ClassId) (α ad an : Nat → Nat) (n : Nat) (σ : kS) (hI : k_ok n σ.1) (hT : ¬ σ.1 12 = 0) : vx_Met l y_K_run w_K_run { frames := 6, cells := 1, slots := 6, locals := 90 } (xPc D (kty cI cQ) (kw_w cI cQ α ad an n σ) [.ref (α 0)]) xQ (xX E_S) 1 6 (fun _ => False) := by
  refine vx_ofW (cc := b_K_run) (maxL := 4) (ret := some .int) (by decide) rfl ?_
  intro p e s m args below meth c s₁ B hml htab hv
  obtain ⟨rfl, hP, hK, hD, hZ, hSt⟩ := hv
  have hx := B.exec
  have hb := B.bytes
  have hts : ∀ w ∈ kT, w.before [.ref (α 0)].toArray s = true := fun w h => atoms_spec (ws := w_K_run) B.pre w (List.mem_cons_of_mem _ h)
  have hown : s.vm.findClass R_K = some m.cls := findClass_of_methodNamed B.named
  have hlocks := B.notSynchronized
  have hl := lv_entry ([.ref (α 0)]) (n := 4) (Nat.le_of_ble_eq_true rfl)
  rw [lg_entry_eq]
  generalize (lg_sl ([.ref (α 0)]) ++ List.replicate (4 - (lg_sl ([.ref (α 0)])).length) Slot.unset).toArray = ls at hl ⊢
  have hl : lv_has ls 4 [(0, .ref (α 0))] := hl
  refine lv_aload_n hx hb d_K_run_0 rfl (lv_at hl 0 rfl) ?_
  refine kw_get hx hb hts hown hK hP 12 (by decide) fl_K_50 (v := .int (σ.1 12)) rfl d_K_run_1 ?_
  refine lv_if_eq (tgt := 17) hx hb d_K_run_4 (by decide) (fun c_4 => ?_) (fun c_4 => ?_)
  · -- to 17
    exact absurd c_4 hT
  · -- on 7
    exact x_thr hx hb hlT hown hts xf_S xl_S xi_S xw_S hSt (List.mem_of_getElem? (i := 5) rfl) hZ (hl.1.trans hml.symm) htab hlocks (Nat.le_of_ble_eq_true rfl) (Nat.le_of_ble_eq_true rfl) (Nat.le_of_ble_eq_true rfl) (Nat.le_of_ble_eq_true rfl) d_K_run_7 d_K_run_10 d_K_run_11 d_K_run_13 d_K_run_16

set_option maxHeartbeats 4000000 in
set_option maxRecDepth 100000 in
theorem tt_K_holderA (l : Launch) (hlT : l.stackTraces = false) (D : va_G) (cI cQ : ClassId) (α ad an : Nat → Nat) (n : Nat) (σ : kS) (hI : k_ok n σ.1) (x : Int32) (hT : kd_sub x = 0) : vx_Met l y_K_holder w_K_holder { frames := 6, cells := 1, slots := 6, locals := 90 } (xPc D (kty cI cQ) (kw_w cI cQ α ad an n σ) [.ref (α 0), .int x]) xQ (xX E_A) 1 6 (fun _ => False) := by
  refine vx_ofW (cc := b_K_holder) (maxL := 2) (ret := some .int) (by decide) rfl ?_
  intro p e s m args below meth c s₁ B hml htab hv
  obtain ⟨rfl, hP, hK, hD, hZ, hSt⟩ := hv
  have hx := B.exec
  have hb := B.bytes
  have hts : ∀ w ∈ kT, w.before [.ref (α 0), .int x].toArray s = true := fun w h => atoms_spec (ws := w_K_holder) B.pre w (List.mem_cons_of_mem _ h)
  have hown : s.vm.findClass R_K = some m.cls := findClass_of_methodNamed B.named
  have hlocks := B.notSynchronized
  have hl := lv_entry ([.ref (α 0), .int x]) (n := 2) (Nat.le_of_ble_eq_true rfl)
  rw [lg_entry_eq]
  generalize (lg_sl ([.ref (α 0), .int x]) ++ List.replicate (2 - (lg_sl ([.ref (α 0), .int x])).length) Slot.unset).toArray = ls at hl ⊢
  have hl : lv_has ls 2 [(0, .ref (α 0)), (1, .int x)] := hl
  refine lv_iload_n hx hb d_K_holder_0 rfl (lv_at hl 1 rfl) ?_
  refine r_calli (W.runS (As := [.int x]) (rest := []) ⟨hx, hb, hml, hown, hts⟩ (ct_K_isSubject l x) (cwS 1 hts gd_K_81 rfl rfl rfl (by decide +kernel) ⟨Nat.le_of_ble_eq_true rfl, Nat.le_of_ble_eq_true rfl⟩) preEq rfl rfl hl.1 rfl (lv_room (Nat.le_of_ble_eq_true rfl)) d_K_holder_1 ⟨Nat.le_of_ble_eq_true rfl, Nat.le_of_ble_eq_true rfl⟩) ?_
  refine lv_if_ne (tgt := 17) hx hb d_K_holder_4 (by decide) (fun c_4 => ?_) (fun c_4 => ?_)
  · -- to 17
    exact absurd hT c_4
  · -- on 7
    exact x_thr hx hb hlT hown hts xf_A xl_A xi_A xw_A hSt (List.mem_of_getElem? (i := 6) rfl) hZ (hl.1.trans hml.symm) htab hlocks (Nat.le_of_ble_eq_true rfl) (Nat.le_of_ble_eq_true rfl) (Nat.le_of_ble_eq_true rfl) (Nat.le_of_ble_eq_true rfl) d_K_holder_7 d_K_holder_10 d_K_holder_11 d_K_holder_13 d_K_holder_16

set_option maxHeartbeats 4000000 in
set_option maxRecDepth 100000 in
theorem tt_K_waitsA (l : Launch) (hlT : l.stackTraces = false) (D : va_G) (cI cQ : ClassId) (α ad an : Nat → Nat) (n : Nat) (σ : kS) (hI : k_ok n σ.1) (x y : Int32) (hT : kd_sub x = 0) : vx_Met l y_K_waits w_K_waits { frames := 6, cells := 1, slots := 6, locals := 90 } (xPc D (kty cI cQ) (kw_w cI cQ α ad an n σ) [.ref (α 0), .int x, .int y]) xQ (xX E_A) 1 6 (fun _ => False) := by
  refine vx_ofW (cc := b_K_waits) (maxL := 4) (ret := some .int) (by decide) rfl ?_
  intro p e s m args below meth c s₁ B hml htab hv
  obtain ⟨rfl, hP, hK, hD, hZ, hSt⟩ := hv
  have hx := B.exec
  have hb := B.bytes
  have hts : ∀ w ∈ kT, w.before [.ref (α 0), .int x, .int y].toArray s = true := fun w h => atoms_spec (ws := w_K_waits) B.pre w (List.mem_cons_of_mem _ h)
  have hown : s.vm.findClass R_K = some m.cls := findClass_of_methodNamed B.named
  have hlocks := B.notSynchronized
  have hl := lv_entry ([.ref (α 0), .int x, .int y]) (n := 4) (Nat.le_of_ble_eq_true rfl)
  rw [lg_entry_eq]
  generalize (lg_sl ([.ref (α 0), .int x, .int y]) ++ List.replicate (4 - (lg_sl ([.ref (α 0), .int x, .int y])).length) Slot.unset).toArray = ls at hl ⊢
  have hl : lv_has ls 4 [(0, .ref (α 0)), (1, .int x), (2, .int y)] := hl
  refine lv_iload_n hx hb d_K_waits_0 rfl (lv_at hl 1 rfl) ?_
  refine r_calli (W.runS (As := [.int x]) (rest := []) ⟨hx, hb, hml, hown, hts⟩ (ct_K_isSubject l x) (cwS 1 hts gd_K_81 rfl rfl rfl (by decide +kernel) ⟨Nat.le_of_ble_eq_true rfl, Nat.le_of_ble_eq_true rfl⟩) preEq rfl rfl hl.1 rfl (lv_room (Nat.le_of_ble_eq_true rfl)) d_K_waits_1 ⟨Nat.le_of_ble_eq_true rfl, Nat.le_of_ble_eq_true rfl⟩) ?_
  refine lv_if_ne (tgt := 17) hx hb d_K_waits_4 (by decide) (fun c_4 => ?_) (fun c_4 => ?_)
  · -- to 17
    exact absurd hT c_4
  · -- on 7
    exact x_thr hx hb hlT hown hts xf_A xl_A xi_A xw_A hSt (List.mem_of_getElem? (i := 6) rfl) hZ (hl.1.trans hml.symm) htab hlocks (Nat.le_of_ble_eq_true rfl) (Nat.le_of_ble_eq_true rfl) (Nat.le_of_ble_eq_true rfl) (Nat.le_of_ble_eq_true rfl) d_K_waits_7 d_K_waits_10 d_K_waits_11 d_K_waits_13 d_K_waits_16

set_option maxHeartbeats 4000000 in
set_option maxRecDepth 100000 in
theorem tt_K_deadA (l : Launch) (hlT : l.stackTraces = false) (D : va_G) (cI cQ : ClassId) (α ad an : Nat → Nat) (n : Nat) (σ : kS) (hI : k_ok n σ.1) (x : Int32) (hT : kd_at n x = none) : vx_Met l y_K_dead w_K_dead { frames := 6, cells := 1, slots := 6, locals := 90 } (xPc D (kty cI cQ) (kw_w cI cQ α ad an n σ) [.ref (α 0), .int x]) xQ (xX E_A) 1 6 (fun _ => False) := by
  refine vx_ofW (cc := b_K_dead) (maxL := 3) (ret := some .int) (by decide) rfl ?_
  intro p e s m args below meth c s₁ B hml htab hv
  obtain ⟨rfl, hP, hK, hD, hZ, hSt⟩ := hv
  have hx := B.exec
  have hb := B.bytes
  have hts : ∀ w ∈ kT, w.before [.ref (α 0), .int x].toArray s = true := fun w h => atoms_spec (ws := w_K_dead) B.pre w (List.mem_cons_of_mem _ h)
  have hown : s.vm.findClass R_K = some m.cls := findClass_of_methodNamed B.named
  have hlocks := B.notSynchronized
  have hl := lv_entry ([.ref (α 0), .int x]) (n := 3) (Nat.le_of_ble_eq_true rfl)
  rw [lg_entry_eq]
  generalize (lg_sl ([.ref (α 0), .int x]) ++ List.replicate (3 - (lg_sl ([.ref (α 0), .int x])).length) Slot.unset).toArray = ls at hl ⊢
  have hl : lv_has ls 3 [(0, .ref (α 0)), (1, .int x)] := hl
  refine lv_aload_n hx hb d_K_dead_0 rfl (lv_at hl 0 rfl) ?_
  refine lv_iload_n hx hb d_K_dead_1 rfl (lv_at hl 1 rfl) ?_
  refine r_callq (W.runV (As := [.int x]) (rest := []) ⟨hx, hb, hml, hown, hts⟩ (ct_K_deskAt l D cI cQ α ad an n σ hI x) (cwV 1 hts gd_K_77 rfl rfl rfl (by decide +kernel) ⟨Nat.le_of_ble_eq_true rfl, Nat.le_of_ble_eq_true rfl⟩) (g_preV hK hP hD (ci := 0) (q0 := 0) rfl kw_0) rfl rfl hl.1 rfl (lv_room (Nat.le_of_ble_eq_true rfl)) d_K_dead_2 ⟨Nat.le_of_ble_eq_true rfl, Nat.le_of_ble_eq_true rfl⟩) ?_
  rw [hT]
  refine W.eq (g2 := F0 m 5 ls [.null]) rfl ?_
  refine lv_astore_nN (lv' := [(2, .null), (0, .ref (α 0)), (1, .int x)]) hx hb d_K_dead_5 rfl hl (by decide) rfl (fun ls hl => ?_)
  refine lv_aload_nN hx hb d_K_dead_6 rfl (lv_at hl 0 rfl) ?_
  refine lv_ifnonnullN hx hb d_K_dead_7 ?_
  exact x_thr hx hb hlT hown hts xf_A xl_A xi_A xw_A hSt (List.mem_of_getElem? (i := 3) rfl) hZ (hl.1.trans hml.symm) htab hlocks (Nat.le_of_ble_eq_true rfl) (Nat.le_of_ble_eq_true rfl) (Nat.le_of_ble_eq_true rfl) (Nat.le_of_ble_eq_true rfl) d_K_dead_10 d_K_dead_13 d_K_dead_14 d_K_dead_16 d_K_dead_19

set_option maxHeartbeats 4000000 in
set_option maxRecDepth 100000 in
theorem tt_K_tickA (l : Launch) (hlT : l.stackTraces = false) (D : va_G) (cI cQ : ClassId) (α ad an : Nat → Nat) (n : Nat) (σ : kS) (hI : k_ok n σ.1) (x : Int32) (hT : ¬ (¬ x < σ.1 11 ∧ x ≤ 100000)) : vx_Met l y_K_tick w_K_tick { frames := 6, cells := 1, slots := 6, locals := 90 } (xPc D (kty cI cQ) (kw_w cI cQ α ad an n σ) [.ref (α 0), .int x]) xQ (xX E_A) 1 6 (fun _ => False) := by
  refine vx_ofW (cc := b_K_tick) (maxL := 4) (ret := some .int) (by decide) rfl ?_
  intro p e s m args below meth c s₁ B hml htab hv
  obtain ⟨rfl, hP, hK, hD, hZ, hSt⟩ := hv
  have hx := B.exec
  have hb := B.bytes
  have hts : ∀ w ∈ kT, w.before [.ref (α 0), .int x].toArray s = true := fun w h => atoms_spec (ws := w_K_tick) B.pre w (List.mem_cons_of_mem _ h)
  have hown : s.vm.findClass R_K = some m.cls := findClass_of_methodNamed B.named
  have hlocks := B.notSynchronized
  have hl := lv_entry ([.ref (α 0), .int x]) (n := 4) (Nat.le_of_ble_eq_true rfl)
  rw [lg_entry_eq]
  generalize (lg_sl ([.ref (α 0), .int x]) ++ List.replicate (4 - (lg_sl ([.ref (α 0), .int x])).length) Slot.unset).toArray = ls at hl ⊢
  have hl : lv_has ls 4 [(0, .ref (α 0)), (1, .int x)] := hl
  refine lv_iload_n hx hb d_K_tick_0 rfl (lv_at hl 1 rfl) ?_
  refine lv_aload_n hx hb d_K_tick_1 rfl (lv_at hl 0 rfl) ?_
  refine kw_get hx hb hts hown hK hP 11 (by decide) fl_K_47 (v := .int (σ.1 11)) rfl d_K_tick_2 ?_
  refine lv_icmp_lt (tgt := 14) hx hb d_K_tick_5 (by decide) (fun c_5 => ?_) (fun c_5 => ?_)
  · -- to 14
    exact x_thr hx hb hlT hown hts xf_A xl_A xi_A xw_A hSt (List.mem_of_getElem? (i := 7) rfl) hZ (hl.1.trans hml.symm) htab hlocks (Nat.le_of_ble_eq_true rfl) (Nat.le_of_ble_eq_true rfl) (Nat.le_of_ble_eq_true rfl) (Nat.le_of_ble_eq_true rfl) d_K_tick_14 d_K_tick_17 d_K_tick_18 d_K_tick_20 d_K_tick_23
  · -- on 8
    refine lv_iload_n hx hb d_K_tick_8 rfl (lv_at hl 1 rfl) ?_
    refine lv_ldc (v := 100000) hx hb hown (hts _ kc_K_147) d_K_tick_9 ?_
    refine lv_icmp_le (tgt := 24) hx hb d_K_tick_11 (by decide) (fun c_11 => ?_) (fun c_11 => ?_)
    · -- to 24
      exact absurd ⟨c_5, c_11⟩ hT
    · -- on 14
      exact x_thr hx hb hlT hown hts xf_A xl_A xi_A xw_A hSt (List.mem_of_getElem? (i := 7) rfl) hZ (hl.1.trans hml.symm) htab hlocks (Nat.le_of_ble_eq_true rfl) (Nat.le_of_ble_eq_true rfl) (Nat.le_of_ble_eq_true rfl) (Nat.le_of_ble_eq_true rfl) d_K_tick_14 d_K_tick_17 d_K_tick_18 d_K_tick_20 d_K_tick_23

set_option maxHeartbeats 4000000 in
set_option maxRecDepth 100000 in
theorem tt_K_lookX (l : Launch) (hlT : l.stackTraces = false) (D : va_G) (cI cQ : ClassId) (α ad an : Nat → Nat) (n : Nat) (σ : kS) (hI : k_ok n σ.1) (x y : Int32) (hT : kd_at n x = none) : vx_Met l y_K_look w_K_look { frames := 6, cells := 1, slots := 6, locals := 90 } (xPc D (kty cI cQ) (kw_w cI cQ α ad an n σ) [.ref (α 0), .int x, .int y]) xQ (xX E_X) 1 6 (fun _ => False) := by
  refine vx_ofW (cc := b_K_look) (maxL := 4) (ret := some .int) (by decide) rfl ?_
  intro p e s m args below meth c s₁ B hml htab hv
  obtain ⟨rfl, hP, hK, hD, hZ, hSt⟩ := hv
  have hx := B.exec
  have hb := B.bytes
  have hts : ∀ w ∈ kT, w.before [.ref (α 0), .int x, .int y].toArray s = true := fun w h => atoms_spec (ws := w_K_look) B.pre w (List.mem_cons_of_mem _ h)
  have hown : s.vm.findClass R_K = some m.cls := findClass_of_methodNamed B.named
  have hlocks := B.notSynchronized
  have hl := lv_entry ([.ref (α 0), .int x, .int y]) (n := 4) (Nat.le_of_ble_eq_true rfl)
  rw [lg_entry_eq]
  generalize (lg_sl ([.ref (α 0), .int x, .int y]) ++ List.replicate (4 - (lg_sl ([.ref (α 0), .int x, .int y])).length) Slot.unset).toArray = ls at hl ⊢
  have hl : lv_has ls 4 [(0, .ref (α 0)), (1, .int x), (2, .int y)] := hl
  refine lv_aload_n hx hb d_K_look_0 rfl (lv_at hl 0 rfl) ?_
  refine lv_iload_n hx hb d_K_look_1 rfl (lv_at hl 1 rfl) ?_
  refine r_callq (W.runV (As := [.int x]) (rest := []) ⟨hx, hb, hml, hown, hts⟩ (ct_K_deskAt l D cI cQ α ad an n σ hI x) (cwV 1 hts gd_K_77 rfl rfl rfl (by decide +kernel) ⟨Nat.le_of_ble_eq_true rfl, Nat.le_of_ble_eq_true rfl⟩) (g_preV hK hP hD (ci := 0) (q0 := 0) rfl kw_0) rfl rfl hl.1 rfl (lv_room (Nat.le_of_ble_eq_true rfl)) d_K_look_2 ⟨Nat.le_of_ble_eq_true rfl, Nat.le_of_ble_eq_true rfl⟩) ?_
  rw [hT]
  refine W.eq (g2 := F0 m 5 ls [.null]) rfl ?_
  refine lv_astore_nN (lv' := [(3, .null), (0, .ref (α 0)), (1, .int x), (2, .int y)]) hx hb d_K_look_5 rfl hl (by decide) rfl (fun ls hl => ?_)
  refine lv_aload_nN hx hb d_K_look_6 rfl (lv_at hl 0 rfl) ?_
  refine lv_ifnonnullN hx hb d_K_look_7 ?_
  exact x_thr hx hb hlT hown hts xf_X xl_X xi_X xw_X hSt (List.mem_of_getElem? (i := 3) rfl) hZ (hl.1.trans hml.symm) htab hlocks (Nat.le_of_ble_eq_true rfl) (Nat.le_of_ble_eq_true rfl) (Nat.le_of_ble_eq_true rfl) (Nat.le_of_ble_eq_true rfl) d_K_look_10 d_K_look_13 d_K_look_14 d_K_look_16 d_K_look_19

set_option maxHeartbeats 4000000 in
set_option maxRecDepth 100000 in
theorem tt_K_lookY (l : Launch) (hlT : l.stackTraces = false) (D : va_G) (cI cQ : ClassId) (α ad an : Nat → Nat) (n : Nat) (σ : kS) (hI : k_ok n σ.1) (i : Nat) (hi : i < n) (y : Int32) (hT : ¬ (y = 0 ∨ y = 1 ∨ y = 2 ∨ y = 3 ∨ y = 4)) : vx_Met l y_K_look w_K_look { frames := 6, cells := 1, slots := 6, locals := 90 } (xPc D (kty cI cQ) (kw_w cI cQ α ad an n σ) [.ref (α 0), .int (nI i), .int y]) xQ (xX E_X) 1 6 (fun _ => False) := by
  refine vx_ofW (cc := b_K_look) (maxL := 4) (ret := some .int) (by decide) rfl ?_
  intro p e s m args below meth c s₁ B hml htab hv
  obtain ⟨rfl, hP, hK, hD, hZ, hSt⟩ := hv
  have hx := B.exec
  have hb := B.bytes
  have hts : ∀ w ∈ kT, w.before [.ref (α 0), .int (nI i), .int y].toArray s = true := fun w h => atoms_spec (ws := w_K_look) B.pre w (List.mem_cons_of_mem _ h)
  have hown : s.vm.findClass R_K = some m.cls := findClass_of_methodNamed B.named
  have hlocks := B.notSynchronized
  have hl := lv_entry ([.ref (α 0), .int (nI i), .int y]) (n := 4) (Nat.le_of_ble_eq_true rfl)
  rw [lg_entry_eq]
  generalize (lg_sl ([.ref (α 0), .int (nI i), .int y]) ++ List.replicate (4 - (lg_sl ([.ref (α 0), .int (nI i), .int y])).length) Slot.unset).toArray = ls at hl ⊢
  have hl : lv_has ls 4 [(0, .ref (α 0)), (1, .int (nI i)), (2, .int y)] := hl
  refine lv_aload_n hx hb d_K_look_0 rfl (lv_at hl 0 rfl) ?_
  refine lv_iload_n hx hb d_K_look_1 rfl (lv_at hl 1 rfl) ?_
  refine r_callq (W.runV (As := [.int (nI i)]) (rest := []) ⟨hx, hb, hml, hown, hts⟩ (ct_K_deskAt l D cI cQ α ad an n σ hI (nI i)) (cwV 1 hts gd_K_77 rfl rfl rfl (by decide +kernel) ⟨Nat.le_of_ble_eq_true rfl, Nat.le_of_ble_eq_true rfl⟩) (g_preV hK hP hD (ci := 0) (q0 := 0) rfl kw_0) rfl rfl hl.1 rfl (lv_room (Nat.le_of_ble_eq_true rfl)) d_K_look_2 ⟨Nat.le_of_ble_eq_true rfl, Nat.le_of_ble_eq_true rfl⟩) ?_
  rw [kd_at_nI hI hi]
  refine W.eq (g2 := F0 m 5 ls [.ref (ad i)]) rfl ?_
  refine lv_astore_n (lv' := [(3, .ref (ad i)), (0, .ref (α 0)), (1, .int (nI i)), (2, .int y)]) hx hb d_K_look_5 rfl hl (by decide) rfl (fun ls hl => ?_)
  refine lv_aload_n hx hb d_K_look_6 rfl (lv_at hl 0 rfl) ?_
  refine lv_ifnonnull (tgt := 20) hx hb d_K_look_7 (by decide) ?_
  refine lv_iload_n hx hb d_K_look_20 rfl (lv_at hl 3 rfl) ?_
  have h_0 : ¬ y = 0 := fun h => hT (by simp [h])
  have h_1 : ¬ y = 1 := fun h => hT (by simp [h])
  have h_2 : ¬ y = 2 := fun h => hT (by simp [h])
  have h_3 : ¬ y = 3 := fun h => hT (by simp [h])
  have h_4 : ¬ y = 4 := fun h => hT (by simp [h])
  refine lv_tableOut (tgt := 82) hx hb d_K_look_21 (tb_5 h_0 h_1 h_2 h_3 h_4) (by decide) ?_
  exact x_thr hx hb hlT hown hts xf_X xl_X xi_X xw_X hSt (List.mem_of_getElem? (i := 8) rfl) hZ (hl.1.trans hml.symm) htab hlocks (Nat.le_of_ble_eq_true rfl) (Nat.le_of_ble_eq_true rfl) (Nat.le_of_ble_eq_true rfl) (Nat.le_of_ble_eq_true rfl) d_K_look_82 d_K_look_85 d_K_look_86 d_K_look_88 d_K_look_91
