set_option maxHeartbeats 4000000 in
set_option maxRecDepth 100000 in
theorem ct_K_doOrUndo (l : Launch) (D : va_G) (cI cQ : ClassId) (α ad an : Nat → Nat) (n : Nat) (σ : kS) (hI : k_ok n σ.1) (i : Nat) (hi : i < n) : Met l y_K_doOrUndo w_K_doOrUndo { frames := 4, cells := 0, slots := 0, locals := 92 } (gPc D (kty cI cQ) (kw_w cI cQ α ad an n σ) [.ref (α 0), .ref (ad i)]) (gQi D (kw_al α ad an n) ((kd_do n σ i).1) (kw_w cI cQ α ad an n ((kd_do n σ i).2))) 0 0 (gA (kw_al α ad an n)) := by
  refine Met.ofW (cc := b_K_doOrUndo) (maxL := 3) (ret := some .boolean) (by decide) rfl ?_
  intro p e s m args below meth c s₁ B hml hv
  obtain ⟨rfl, hP, hK, hD⟩ := hv
  have hx := B.exec
  have hb := B.bytes
  have hr := B.returns
  have hts : ∀ w ∈ kT, w.before [.ref (α 0), .ref (ad i)].toArray s = true := fun w h => atoms_spec (ws := w_K_doOrUndo) B.pre w (List.mem_cons_of_mem _ h)
  have hown : s.vm.findClass R_K = some m.cls := findClass_of_methodNamed B.named
  have hlocks := B.notSynchronized
  have hD : va_D (gA (kw_al α ad an n)) (kw_w cI cQ α ad an n σ) := gD kw_adr hD
  have hS : va_S (gA (kw_al α ad an n)) s.heap s.heap [] := va_S.rf
  have hl := lv_entry ([.ref (α 0), .ref (ad i)]) (n := 3) (Nat.le_of_ble_eq_true rfl)
  rw [lg_entry_eq]
  generalize (lg_sl ([.ref (α 0), .ref (ad i)]) ++ List.replicate (3 - (lg_sl ([.ref (α 0), .ref (ad i)])).length) Slot.unset).toArray = ls at hl ⊢
  have hl : lv_has ls 3 [(0, .ref (α 0)), (1, .ref (ad i))] := hl
  refine lv_aload_n hx hb d_K_doOrUndo_0 rfl (lv_at hl 1 rfl) ?_
  refine kw_dget hx hb hts hown hK hP hi 4 (by decide) fl_K_92 (v := .int (σ.2.2.1 i 4)) rfl d_K_doOrUndo_1 ?_
  refine lv_aload_n hx hb d_K_doOrUndo_4 rfl (lv_at hl 1 rfl) ?_
  refine kw_dget hx hb hts hown hK hP hi 3 (by decide) fl_K_191 (v := .int (σ.2.2.1 i 3)) rfl d_K_doOrUndo_5 ?_
  refine lv_icmp_ne (tgt := 15) hx hb d_K_doOrUndo_8 (by decide) (fun c_8 => ?_) (fun c_8 => ?_)
  · -- to 15
    refine lv_iconst (v := 0) hx hb d_K_doOrUndo_15 (by decide) ?_
    refine lv_istore_n (lv' := [(2, .int 0), (0, .ref (α 0)), (1, .ref (ad i))]) hx hb d_K_doOrUndo_16 rfl hl (by decide) rfl (fun ls hl => ?_)
    refine lv_aload_n hx hb d_K_doOrUndo_17 rfl (lv_at hl 1 rfl) ?_
    refine lv_iload_n hx hb d_K_doOrUndo_18 rfl (lv_at hl 0 rfl) ?_
    refine lv_if_eq (tgt := 26) hx hb d_K_doOrUndo_19 (by decide) (fun c_19 => ?_) (fun c_19 => ?_)
    · -- to 26
      refine lv_iconst (v := 1) hx hb d_K_doOrUndo_26 (by decide) ?_
      refine lv_aload_n hx hb d_K_doOrUndo_27 rfl (lv_at hl 2 rfl) ?_
      refine g_callv (va_runV (As := [.int 1, .ref (ad i)]) (rest := []) ⟨hx, hb, hml, hown, hts⟩ (ct_K_tell l D cI cQ α ad an n σ hI 1 i hi) (cwV 2 hts gd_K_127 rfl rfl rfl (by decide +kernel) ⟨Nat.le_of_ble_eq_true rfl, Nat.le_of_ble_eq_true rfl⟩) (g_preV hK hP hD (ci := 0) (q0 := 0) rfl kw_0) rfl rfl hl.1 rfl (lv_room (Nat.le_of_ble_eq_true rfl)) d_K_doOrUndo_28 ⟨Nat.le_refl _, Nat.le_refl _⟩) hD hS (kw_addr _) (fun H locs hP hD hS => ?_)
      obtain ⟨σ1, e_σ1⟩ : ∃ ζ, ζ = kd_tell σ 1 i := ⟨_, rfl⟩
      rw [← e_σ1] at hP hD
      have hI : k_ok n σ1.1 := by rw [e_σ1]; exact (k_ok_tell hI)
      refine lv_aload_n hx hb d_K_doOrUndo_31 rfl (lv_at hl 1 rfl) ?_
      refine lv_aload_n hx hb d_K_doOrUndo_32 rfl (lv_at hl 2 rfl) ?_
      refine g_callv (va_runV (As := [.ref (ad i)]) (rest := []) ⟨hx, hb, hml, hown, hts⟩ (ct_K_giveBackAll l D cI cQ α ad an n σ1 hI i hi) (cwV 1 hts gd_K_123 rfl rfl rfl (by decide +kernel) ⟨Nat.le_of_ble_eq_true rfl, Nat.le_of_ble_eq_true rfl⟩) (g_preV hK hP hD (ci := 0) (q0 := 0) rfl kw_0) rfl rfl hl.1 rfl (lv_room (Nat.le_of_ble_eq_true rfl)) d_K_doOrUndo_33 ⟨Nat.le_refl _, Nat.le_refl _⟩) hD hS (kw_addr _) (fun H locs hP hD hS => ?_)
      obtain ⟨σ2, e_σ2⟩ : ∃ ζ, ζ = kd_gba n σ1 i 16 := ⟨_, rfl⟩
      rw [← e_σ2] at hP hD
      have hI : k_ok n σ2.1 := by rw [e_σ2]; exact (by rw [kd_gba_1]; exact hI)
      refine lv_iload_n hx hb d_K_doOrUndo_36 rfl (lv_at hl 0 rfl) ?_
      refine lv_if_eq (tgt := 47) hx hb d_K_doOrUndo_37 (by decide) (fun c_37 => ?_) (fun c_37 => ?_)
      · -- to 47
        refine lv_aload_n hx hb d_K_doOrUndo_47 rfl (lv_at hl 2 rfl) ?_
        refine lv_dup hx hb d_K_doOrUndo_48 rfl ?_
        refine kw_dget hx hb hts hown hK hP hi 4 (by decide) fl_K_92 (v := .int (σ2.2.2.1 i 4)) rfl d_K_doOrUndo_49 ?_
        refine lv_iconst (v := 1) hx hb d_K_doOrUndo_52 (by decide) ?_
        refine lv_iadd hx hb d_K_doOrUndo_53 ?_
        refine kw_dput hx hb hts hown hK hP hD hS hi 4 (by decide) fl_K_92 rfl rfl rfl d_K_doOrUndo_54 (fun H locs hP hD hS => ?_)
        obtain ⟨σ3, e_σ3⟩ : ∃ ζ, ζ = k_d σ2 i 4 ((σ2.2.2.1 i 4) + 1) := ⟨_, rfl⟩
        rw [← e_σ3] at hP hD
        have hI : k_ok n σ3.1 := by rw [e_σ3]; exact hI
        refine lv_aload_n hx hb d_K_doOrUndo_57 rfl (lv_at hl 2 rfl) ?_
        refine lv_dup hx hb d_K_doOrUndo_58 rfl ?_
        refine kw_dget hx hb hts hown hK hP hi 5 (by decide) fl_K_167 (v := .int (σ3.2.2.1 i 5)) rfl d_K_doOrUndo_59 ?_
        refine lv_iconst (v := 1) hx hb d_K_doOrUndo_62 (by decide) ?_
        refine lv_iadd hx hb d_K_doOrUndo_63 ?_
        refine kw_dput hx hb hts hown hK hP hD hS hi 5 (by decide) fl_K_167 rfl rfl rfl d_K_doOrUndo_64 (fun H locs hP hD hS => ?_)
        obtain ⟨σ4, e_σ4⟩ : ∃ ζ, ζ = k_d σ3 i 5 ((σ3.2.2.1 i 5) + 1) := ⟨_, rfl⟩
        rw [← e_σ4] at hP hD
        have hI : k_ok n σ4.1 := by rw [e_σ4]; exact hI
        refine lv_iconst (v := 1) hx hb d_K_doOrUndo_67 (by decide) ?_
        exact g_retz hx hb hr hlocks (by decide) (by rw [kd_do, if_neg c_8]) (by rw [kd_do, if_neg c_8, e_σ4, e_σ3, e_σ2, e_σ1]) hP hS d_K_doOrUndo_68
      · -- on 40
        exact absurd c_37 (by decide)
    · -- on 22
      exact absurd c_19 (by decide)
  · -- on 11
    refine lv_iconst (v := 1) hx hb d_K_doOrUndo_11 (by decide) ?_
    refine lv_goto (tgt := 16) hx hb d_K_doOrUndo_12 (by decide) ?_
    refine lv_istore_n (lv' := [(2, .int 1), (0, .ref (α 0)), (1, .ref (ad i))]) hx hb d_K_doOrUndo_16 rfl hl (by decide) rfl (fun ls hl => ?_)
    refine lv_aload_n hx hb d_K_doOrUndo_17 rfl (lv_at hl 1 rfl) ?_
    refine lv_iload_n hx hb d_K_doOrUndo_18 rfl (lv_at hl 0 rfl) ?_
    refine lv_if_eq (tgt := 26) hx hb d_K_doOrUndo_19 (by decide) (fun c_19 => ?_) (fun c_19 => ?_)
    · -- to 26
      exact absurd c_19 (by decide)
    · -- on 22
      refine lv_iconst (v := 2) hx hb d_K_doOrUndo_22 (by decide) ?_
      refine lv_goto (tgt := 27) hx hb d_K_doOrUndo_23 (by decide) ?_
      refine lv_aload_n hx hb d_K_doOrUndo_27 rfl (lv_at hl 2 rfl) ?_
      refine g_callv (va_runV (As := [.int 2, .ref (ad i)]) (rest := []) ⟨hx, hb, hml, hown, hts⟩ (ct_K_tell l D cI cQ α ad an n σ hI 2 i hi) (cwV 2 hts gd_K_127 rfl rfl rfl (by decide +kernel) ⟨Nat.le_of_ble_eq_true rfl, Nat.le_of_ble_eq_true rfl⟩) (g_preV hK hP hD (ci := 0) (q0 := 0) rfl kw_0) rfl rfl hl.1 rfl (lv_room (Nat.le_of_ble_eq_true rfl)) d_K_doOrUndo_28 ⟨Nat.le_refl _, Nat.le_refl _⟩) hD hS (kw_addr _) (fun H locs hP hD hS => ?_)
      obtain ⟨σ5, e_σ5⟩ : ∃ ζ, ζ = kd_tell σ 2 i := ⟨_, rfl⟩
      rw [← e_σ5] at hP hD
      have hI : k_ok n σ5.1 := by rw [e_σ5]; exact (k_ok_tell hI)
      refine lv_aload_n hx hb d_K_doOrUndo_31 rfl (lv_at hl 1 rfl) ?_
      refine lv_aload_n hx hb d_K_doOrUndo_32 rfl (lv_at hl 2 rfl) ?_
      refine g_callv (va_runV (As := [.ref (ad i)]) (rest := []) ⟨hx, hb, hml, hown, hts⟩ (ct_K_giveBackAll l D cI cQ α ad an n σ5 hI i hi) (cwV 1 hts gd_K_123 rfl rfl rfl (by decide +kernel) ⟨Nat.le_of_ble_eq_true rfl, Nat.le_of_ble_eq_true rfl⟩) (g_preV hK hP hD (ci := 0) (q0 := 0) rfl kw_0) rfl rfl hl.1 rfl (lv_room (Nat.le_of_ble_eq_true rfl)) d_K_doOrUndo_33 ⟨Nat.le_refl _, Nat.le_refl _⟩) hD hS (kw_addr _) (fun H locs hP hD hS => ?_)
      obtain ⟨σ6, e_σ6⟩ : ∃ ζ, ζ = kd_gba n σ5 i 16 := ⟨_, rfl⟩
      rw [← e_σ6] at hP hD
      have hI : k_ok n σ6.1 := by rw [e_σ6]; exact (by rw [kd_gba_1]; exact hI)
      refine lv_iload_n hx hb d_K_doOrUndo_36 rfl (lv_at hl 0 rfl) ?_
      refine lv_if_eq (tgt := 47) hx hb d_K_doOrUndo_37 (by decide) (fun c_37 => ?_) (fun c_37 => ?_)
      · -- to 47
        exact absurd c_37 (by decide)
      · -- on 40
        refine lv_aload_n hx hb d_K_doOrUndo_40 rfl (lv_at hl 2 rfl) ?_
        refine lv_iconst (v := (-1)) hx hb d_K_doOrUndo_41 (by decide) ?_
        refine kw_dput hx hb hts hown hK hP hD hS hi 3 (by decide) fl_K_191 rfl rfl rfl d_K_doOrUndo_42 (fun H locs hP hD hS => ?_)
        obtain ⟨σ7, e_σ7⟩ : ∃ ζ, ζ = k_d σ6 i 3 (-1) := ⟨_, rfl⟩
        rw [← e_σ7] at hP hD
        have hI : k_ok n σ7.1 := by rw [e_σ7]; exact hI
        refine lv_iconst (v := 0) hx hb d_K_doOrUndo_45 (by decide) ?_
        exact g_retz hx hb hr hlocks (by decide) (by rw [kd_do, if_pos c_8]) (by rw [kd_do, if_pos c_8, e_σ7, e_σ6, e_σ5]) hP hS d_K_doOrUndo_46

set_option maxHeartbeats 4000000 in
set_option maxRecDepth 100000 in
theorem ct_K_takeTurn (l : Launch) (D : va_G) (cI cQ : ClassId) (α ad an : Nat → Nat) (n : Nat) (σ : kS) (hI : k_ok n σ.1) (i : Nat) (hi : i < n) : Met l y_K_takeTurn w_K_takeTurn { frames := 5, cells := 0, slots := 0, locals := 114 } (gPc D (kty cI cQ) (kw_w cI cQ α ad an n σ) [.ref (α 0), .ref (ad i)]) (gQi D (kw_al α ad an n) ((kd_turn n σ i).1) (kw_w cI cQ α ad an n ((kd_turn n σ i).2))) 0 0 (gA (kw_al α ad an n)) := by
  refine Met.ofW (cc := b_K_takeTurn) (maxL := 3) (ret := some .boolean) (by decide) rfl ?_
  intro p e s m args below meth c s₁ B hml hv
  obtain ⟨rfl, hP, hK, hD⟩ := hv
  have hx := B.exec
  have hb := B.bytes
  have hr := B.returns
  have hts : ∀ w ∈ kT, w.before [.ref (α 0), .ref (ad i)].toArray s = true := fun w h => atoms_spec (ws := w_K_takeTurn) B.pre w (List.mem_cons_of_mem _ h)
  have hown : s.vm.findClass R_K = some m.cls := findClass_of_methodNamed B.named
  have hlocks := B.notSynchronized
  have hD : va_D (gA (kw_al α ad an n)) (kw_w cI cQ α ad an n σ) := gD kw_adr hD
  have hS : va_S (gA (kw_al α ad an n)) s.heap s.heap [] := va_S.rf
  have hl := lv_entry ([.ref (α 0), .ref (ad i)]) (n := 3) (Nat.le_of_ble_eq_true rfl)
  rw [lg_entry_eq]
  generalize (lg_sl ([.ref (α 0), .ref (ad i)]) ++ List.replicate (3 - (lg_sl ([.ref (α 0), .ref (ad i)])).length) Slot.unset).toArray = ls at hl ⊢
  have hl : lv_has ls 3 [(0, .ref (α 0)), (1, .ref (ad i))] := hl
  refine lv_aload_n hx hb d_K_takeTurn_0 rfl (lv_at hl 1 rfl) ?_
  refine r_calli (W.runV (As := []) (rest := []) ⟨hx, hb, hml, hown, hts⟩ (ct_D_condition l D cI cQ α ad an n σ hI i hi) (cwV 0 hts gd_K_157 rfl rfl rfl (by decide +kernel) ⟨Nat.le_of_ble_eq_true rfl, Nat.le_of_ble_eq_true rfl⟩) (g_preV hK hP hD (ci := 1) (q0 := 6 + i) rfl (kw_3 hi)) rfl rfl hl.1 rfl (lv_room (Nat.le_of_ble_eq_true rfl)) d_K_takeTurn_1 ⟨Nat.le_refl _, Nat.le_refl _⟩) ?_
  refine lv_if_eq (tgt := 19) hx hb d_K_takeTurn_4 (by decide) (fun c_4 => ?_) (fun c_4 => ?_)
  · -- to 19
    refine lv_aload_n hx hb d_K_takeTurn_19 rfl (lv_at hl 0 rfl) ?_
    refine lv_aload_n hx hb d_K_takeTurn_20 rfl (lv_at hl 1 rfl) ?_
    refine r_calli (W.runV (As := [.ref (ad i)]) (rest := []) ⟨hx, hb, hml, hown, hts⟩ (ct_K_leastLacking l D cI cQ α ad an n σ hI i hi) (cwV 1 hts gd_K_175 rfl rfl rfl (by decide +kernel) ⟨Nat.le_of_ble_eq_true rfl, Nat.le_of_ble_eq_true rfl⟩) (g_preV hK hP hD (ci := 0) (q0 := 0) rfl kw_0) rfl rfl hl.1 rfl (lv_room (Nat.le_of_ble_eq_true rfl)) d_K_takeTurn_21 ⟨Nat.le_refl _, Nat.le_refl _⟩) ?_
    refine lv_istore_n (lv' := [(2, .int (kd_ll σ i)), (0, .ref (α 0)), (1, .ref (ad i))]) hx hb d_K_takeTurn_24 rfl hl (by decide) rfl (fun ls hl => ?_)
    refine lv_iload_n hx hb d_K_takeTurn_25 rfl (lv_at hl 0 rfl) ?_
    refine r_calli (W.runS (As := [.int (kd_ll σ i)]) (rest := []) ⟨hx, hb, hml, hown, hts⟩ (ct_K_isSubject l (kd_ll σ i)) (cwS 1 hts gd_K_81 rfl rfl rfl (by decide +kernel) ⟨Nat.le_of_ble_eq_true rfl, Nat.le_of_ble_eq_true rfl⟩) preEq rfl rfl hl.1 rfl (lv_room (Nat.le_of_ble_eq_true rfl)) d_K_takeTurn_26 ⟨Nat.le_refl _, Nat.le_refl _⟩) ?_
    refine lv_if_eq (tgt := 40) hx hb d_K_takeTurn_29 (by decide) (fun c_29 => ?_) (fun c_29 => ?_)
    · -- to 40
      have ell := kd_ll_none c_29
      refine lv_aload_n hx hb d_K_takeTurn_40 rfl (lv_at hl 1 rfl) ?_
      refine lv_aload_n hx hb d_K_takeTurn_41 rfl (lv_at hl 2 rfl) ?_
      refine g_calli (va_runV (As := [.ref (ad i)]) (rest := []) ⟨hx, hb, hml, hown, hts⟩ (ct_K_doOrUndo l D cI cQ α ad an n σ hI i hi) (cwV 1 hts gd_K_182 rfl rfl rfl (by decide +kernel) ⟨Nat.le_of_ble_eq_true rfl, Nat.le_of_ble_eq_true rfl⟩) (g_preV hK hP hD (ci := 0) (q0 := 0) rfl kw_0) rfl rfl hl.1 rfl (lv_room (Nat.le_of_ble_eq_true rfl)) d_K_takeTurn_42 ⟨Nat.le_refl _, Nat.le_refl _⟩) hD hS (kw_addr _) (fun H locs hP hD hS => ?_)
      obtain ⟨σ1, e_σ1⟩ : ∃ ζ, ζ = (kd_do n σ i).2 := ⟨_, rfl⟩
      rw [← e_σ1] at hP hD
      have hI : k_ok n σ1.1 := by rw [e_σ1]; exact (k_ok_do hI)
      exact g_retz hx hb hr hlocks (kd_do_01 n σ i) (by rw [kd_turn, if_pos c_4, ell]) (by rw [kd_turn, if_pos c_4, ell, e_σ1]) hP hS d_K_takeTurn_45
    · -- on 32
      obtain ⟨z, hz, ez, ell⟩ := kd_ll_some c_29
      rw [ez] at hl
      refine lv_aload_n hx hb d_K_takeTurn_32 rfl (lv_at hl 1 rfl) ?_
      refine lv_aload_n hx hb d_K_takeTurn_33 rfl (lv_at hl 2 rfl) ?_
      refine lv_iload_n hx hb d_K_takeTurn_34 rfl (lv_at hl 0 rfl) ?_
      refine g_callv (va_runV (As := [.ref (ad i), .int (nI z)]) (rest := []) ⟨hx, hb, hml, hown, hts⟩ (ct_K_ask l D cI cQ α ad an n σ hI i hi z hz) (cwV 2 hts gd_K_178 rfl rfl rfl (by decide +kernel) ⟨Nat.le_of_ble_eq_true rfl, Nat.le_of_ble_eq_true rfl⟩) (g_preV hK hP hD (ci := 0) (q0 := 0) rfl kw_0) rfl rfl hl.1 rfl (lv_room (Nat.le_of_ble_eq_true rfl)) d_K_takeTurn_35 ⟨Nat.le_refl _, Nat.le_refl _⟩) hD hS (kw_addr _) (fun H locs hP hD hS => ?_)
      obtain ⟨σ2, e_σ2⟩ : ∃ ζ, ζ = kd_ask σ i z := ⟨_, rfl⟩
      rw [← e_σ2] at hP hD
      have hI : k_ok n σ2.1 := by rw [e_σ2]; exact (k_ok_ask hI)
      refine lv_iconst (v := 0) hx hb d_K_takeTurn_38 (by decide) ?_
      exact g_retz hx hb hr hlocks (by decide) (by rw [kd_turn, if_pos c_4, ell]) (by rw [kd_turn, if_pos c_4, ell, e_σ2]) hP hS d_K_takeTurn_39
  · -- on 7
    refine lv_aload_n hx hb d_K_takeTurn_7 rfl (lv_at hl 0 rfl) ?_
    refine lv_dup hx hb d_K_takeTurn_8 rfl ?_
    refine kw_get hx hb hts hown hK hP 8 (by decide) fl_K_38 (v := .int (σ.1 8)) rfl d_K_takeTurn_9 ?_
    refine lv_iconst (v := 1) hx hb d_K_takeTurn_12 (by decide) ?_
    refine lv_iadd hx hb d_K_takeTurn_13 ?_
    refine kw_put hx hb hts hown hK hP hD hS 8 (by decide) fl_K_38 rfl rfl rfl d_K_takeTurn_14 (fun H locs hP hD hS => ?_)
    obtain ⟨σ3, e_σ3⟩ : ∃ ζ, ζ = k_f σ 8 ((σ.1 8) + 1) := ⟨_, rfl⟩
    rw [← e_σ3] at hP hD
    have hI : k_ok n σ3.1 := by rw [e_σ3]; exact (k_ok_f hI (by decide))
    refine lv_iconst (v := 0) hx hb d_K_takeTurn_17 (by decide) ?_
    exact g_retz hx hb hr hlocks (by decide) (by rw [kd_turn, if_neg c_4]) (by rw [kd_turn, if_neg c_4, e_σ3]) hP hS d_K_takeTurn_18

set_option maxHeartbeats 4000000 in
set_option maxRecDepth 100000 in
theorem ct_K_isOverdue (l : Launch) (D : va_G) (cI cQ : ClassId) (α ad an : Nat → Nat) (n : Nat) (σ : kS) (hI : k_ok n σ.1) (z : Nat) (hz : z < 16) : Met l y_K_isOverdue w_K_isOverdue { frames := 1, cells := 0, slots := 0, locals := 21 } (gPc D (kty cI cQ) (kw_w cI cQ α ad an n σ) [.ref (α 0), .int (nI z)]) (QcRead (kd_over n σ z)) 0 0 (fun _ => False) := by
  refine Met.ofW (cc := b_K_isOverdue) (maxL := 3) (ret := some .boolean) (by decide) rfl ?_
  intro p e s m args below meth c s₁ B hml hv
  obtain ⟨rfl, hP, hK, hD⟩ := hv
  have hx := B.exec
  have hb := B.bytes
  have hr := B.returns
  have hts : ∀ w ∈ kT, w.before [.ref (α 0), .int (nI z)].toArray s = true := fun w h => atoms_spec (ws := w_K_isOverdue) B.pre w (List.mem_cons_of_mem _ h)
  have hown : s.vm.findClass R_K = some m.cls := findClass_of_methodNamed B.named
  have hlocks := B.notSynchronized
  have hl := lv_entry ([.ref (α 0), .int (nI z)]) (n := 3) (Nat.le_of_ble_eq_true rfl)
  rw [lg_entry_eq]
  generalize (lg_sl ([.ref (α 0), .int (nI z)]) ++ List.replicate (3 - (lg_sl ([.ref (α 0), .int (nI z)])).length) Slot.unset).toArray = ls at hl ⊢
  have hl : lv_has ls 3 [(0, .ref (α 0)), (1, .int (nI z))] := hl
  refine lv_aload_n hx hb d_K_isOverdue_0 rfl (lv_at hl 0 rfl) ?_
  refine lv_aload_n hx hb d_K_isOverdue_1 rfl (lv_at hl 0 rfl) ?_
  refine kw_get hx hb hts hown hK hP 2 (by decide) fl_K_19 (v := .ref (α 2)) rfl d_K_isOverdue_2 ?_
  refine lv_iload_n hx hb d_K_isOverdue_5 rfl (lv_at hl 1 rfl) ?_
  refine kw_ald hx hb hK hP 0 (by decide) (j := z) rfl hz d_K_isOverdue_6 ?_
  refine r_callq (W.runV (As := [.int (σ.2.1 0 z)]) (rest := []) ⟨hx, hb, hml, hown, hts⟩ (ct_K_deskAt l D cI cQ α ad an n σ hI (σ.2.1 0 z)) (cwV 1 hts gd_K_77 rfl rfl rfl (by decide +kernel) ⟨Nat.le_of_ble_eq_true rfl, Nat.le_of_ble_eq_true rfl⟩) (g_preV hK hP hD (ci := 0) (q0 := 0) rfl kw_0) rfl rfl hl.1 rfl (lv_room (Nat.le_of_ble_eq_true rfl)) d_K_isOverdue_7 ⟨Nat.le_refl _, Nat.le_refl _⟩) ?_
  rcases q_7 : kd_at n (σ.2.1 0 z) with _ | i1
  · -- nobody
    refine W.eq (g2 := F0 m 10 ls [.null]) rfl ?_
    refine lv_astore_nN (lv' := [(2, .null), (0, .ref (α 0)), (1, .int (nI z))]) hx hb d_K_isOverdue_10 rfl hl (by decide) rfl (fun ls hl => ?_)
    refine lv_aload_nN hx hb d_K_isOverdue_11 rfl (lv_at hl 0 rfl) ?_
    refine lv_ifnullN (tgt := 43) hx hb d_K_isOverdue_12 (by decide) ?_
    refine lv_iconst (v := 0) hx hb d_K_isOverdue_43 (by decide) ?_
    exact r_retz hx hb hr hlocks (by decide) (by simp [kd_over, q_7]) d_K_isOverdue_44
  · -- i1
    have hi1 : i1 < n := kd_at_lt hI q_7
    refine W.eq (g2 := F0 m 10 ls [.ref (ad i1)]) rfl ?_
    refine lv_astore_n (lv' := [(2, .ref (ad i1)), (0, .ref (α 0)), (1, .int (nI z))]) hx hb d_K_isOverdue_10 rfl hl (by decide) rfl (fun ls hl => ?_)
    refine lv_aload_n hx hb d_K_isOverdue_11 rfl (lv_at hl 0 rfl) ?_
    refine lv_ifnull hx hb d_K_isOverdue_12 ?_
    refine lv_aload_n hx hb d_K_isOverdue_15 rfl (lv_at hl 0 rfl) ?_
    refine r_calli (W.runV (As := []) (rest := []) ⟨hx, hb, hml, hown, hts⟩ (ct_D_condition l D cI cQ α ad an n σ hI i1 hi1) (cwV 0 hts gd_K_157 rfl rfl rfl (by decide +kernel) ⟨Nat.le_of_ble_eq_true rfl, Nat.le_of_ble_eq_true rfl⟩) (g_preV hK hP hD (ci := 1) (q0 := 6 + i1) rfl (kw_3 hi1)) rfl rfl hl.1 rfl (lv_room (Nat.le_of_ble_eq_true rfl)) d_K_isOverdue_16 ⟨Nat.le_refl _, Nat.le_refl _⟩) ?_
    refine lv_iconst (v := 3) hx hb d_K_isOverdue_19 (by decide) ?_
    refine lv_icmp_ne (tgt := 43) hx hb d_K_isOverdue_20 (by decide) (fun c_20 => ?_) (fun c_20 => ?_)
    · -- to 43
      refine lv_iconst (v := 0) hx hb d_K_isOverdue_43 (by decide) ?_
      exact r_retz hx hb hr hlocks (by decide) (by simp [kd_over, q_7, c_20]) d_K_isOverdue_44
    · -- on 23
      refine lv_aload_n hx hb d_K_isOverdue_23 rfl (lv_at hl 1 rfl) ?_
      refine kw_get hx hb hts hown hK hP 11 (by decide) fl_K_47 (v := .int (σ.1 11)) rfl d_K_isOverdue_24 ?_
      refine lv_aload_n hx hb d_K_isOverdue_27 rfl (lv_at hl 1 rfl) ?_
      refine kw_get hx hb hts hown hK hP 3 (by decide) fl_K_23 (v := .ref (α 3)) rfl d_K_isOverdue_28 ?_
      refine lv_iload_n hx hb d_K_isOverdue_31 rfl (lv_at hl 2 rfl) ?_
      refine kw_ald hx hb hK hP 1 (by decide) (j := z) rfl hz d_K_isOverdue_32 ?_
      refine lv_isub hx hb d_K_isOverdue_33 ?_
      refine lv_bipush (v := 100) hx hb d_K_isOverdue_34 (by decide) ?_
      refine lv_icmp_le (tgt := 43) hx hb d_K_isOverdue_36 (by decide) (fun c_36 => ?_) (fun c_36 => ?_)
      · -- to 43
        refine lv_iconst (v := 0) hx hb d_K_isOverdue_43 (by decide) ?_
        exact r_retz hx hb hr hlocks (by decide) (by simp [kd_over, q_7, c_20, c_36]) d_K_isOverdue_44
      · -- on 39
        refine lv_iconst (v := 1) hx hb d_K_isOverdue_39 (by decide) ?_
        refine lv_goto (tgt := 44) hx hb d_K_isOverdue_40 (by decide) ?_
        exact r_retz hx hb hr hlocks (by decide) (by simp [kd_over, q_7, c_20, c_36]) d_K_isOverdue_44

set_option maxHeartbeats 4000000 in
set_option maxRecDepth 100000 in
theorem ct_K_end (l : Launch) (D : va_G) (cI cQ : ClassId) (α ad an : Nat → Nat) (n : Nat) (σ : kS) (hI : k_ok n σ.1) (i : Nat) (hi : i < n) : Met l y_K_end w_K_end { frames := 4, cells := 0, slots := 0, locals := 92 } (gPc D (kty cI cQ) (kw_w cI cQ α ad an n σ) [.ref (α 0), .ref (ad i)]) (gQv D (kw_al α ad an n) (kw_w cI cQ α ad an n (kd_end n σ i))) 0 0 (gA (kw_al α ad an n)) := by
  refine Met.ofW (cc := b_K_end) (maxL := 3) (ret := none) (by decide) rfl ?_
  intro p e s m args below meth c s₁ B hml hv
  obtain ⟨rfl, hP, hK, hD⟩ := hv
  have hx := B.exec
  have hb := B.bytes
  have hr := B.returns
  have hts : ∀ w ∈ kT, w.before [.ref (α 0), .ref (ad i)].toArray s = true := fun w h => atoms_spec (ws := w_K_end) B.pre w (List.mem_cons_of_mem _ h)
  have hown : s.vm.findClass R_K = some m.cls := findClass_of_methodNamed B.named
  have hlocks := B.notSynchronized
  have hD : va_D (gA (kw_al α ad an n)) (kw_w cI cQ α ad an n σ) := gD kw_adr hD
  have hS : va_S (gA (kw_al α ad an n)) s.heap s.heap [] := va_S.rf
  have hl := lv_entry ([.ref (α 0), .ref (ad i)]) (n := 3) (Nat.le_of_ble_eq_true rfl)
  rw [lg_entry_eq]
  generalize (lg_sl ([.ref (α 0), .ref (ad i)]) ++ List.replicate (3 - (lg_sl ([.ref (α 0), .ref (ad i)])).length) Slot.unset).toArray = ls at hl ⊢
  have hl : lv_has ls 3 [(0, .ref (α 0)), (1, .ref (ad i))] := hl
  refine lv_aload_n hx hb d_K_end_0 rfl (lv_at hl 0 rfl) ?_
  refine lv_aload_n hx hb d_K_end_1 rfl (lv_at hl 1 rfl) ?_
  refine r_calli (W.runV (As := [.ref (ad i)]) (rest := []) ⟨hx, hb, hml, hown, hts⟩ (ct_K_isInTheMidst l D cI cQ α ad an n σ hI i hi) (cwV 1 hts gd_K_95 rfl rfl rfl (by decide +kernel) ⟨Nat.le_of_ble_eq_true rfl, Nat.le_of_ble_eq_true rfl⟩) (g_preV hK hP hD (ci := 0) (q0 := 0) rfl kw_0) rfl rfl hl.1 rfl (lv_room (Nat.le_of_ble_eq_true rfl)) d_K_end_2 ⟨Nat.le_refl _, Nat.le_refl _⟩) ?_
  refine lv_istore_n (lv' := [(2, .int (kd_midst σ i)), (0, .ref (α 0)), (1, .ref (ad i))]) hx hb d_K_end_5 rfl hl (by decide) rfl (fun ls hl => ?_)
  refine lv_aload_n hx hb d_K_end_6 rfl (lv_at hl 2 rfl) ?_
  refine lv_iconst (v := (-1)) hx hb d_K_end_7 (by decide) ?_
  refine kw_dput hx hb hts hown hK hP hD hS hi 6 (by decide) fl_K_120 rfl rfl rfl d_K_end_8 (fun H locs hP hD hS => ?_)
  obtain ⟨σ1, e_σ1⟩ : ∃ ζ, ζ = k_d σ i 6 (-1) := ⟨_, rfl⟩
  rw [← e_σ1] at hP hD
  have hI : k_ok n σ1.1 := by rw [e_σ1]; exact hI
  refine lv_aload_n hx hb d_K_end_11 rfl (lv_at hl 2 rfl) ?_
  refine lv_iconst (v := 1) hx hb d_K_end_12 (by decide) ?_
  refine kw_dput hx hb hts hown hK hP hD hS hi 9 (by decide) fl_K_197 rfl (by decide +kernel) (by decide +kernel) d_K_end_13 (fun H locs hP hD hS => ?_)
  obtain ⟨σ2, e_σ2⟩ : ∃ ζ, ζ = k_d σ1 i 9 1 := ⟨_, rfl⟩
  rw [← e_σ2] at hP hD
  have hI : k_ok n σ2.1 := by rw [e_σ2]; exact hI
  refine lv_aload_n hx hb d_K_end_16 rfl (lv_at hl 1 rfl) ?_
  refine lv_aload_n hx hb d_K_end_17 rfl (lv_at hl 2 rfl) ?_
  refine g_callv (va_runV (As := [.ref (ad i)]) (rest := []) ⟨hx, hb, hml, hown, hts⟩ (ct_K_giveBackAll l D cI cQ α ad an n σ2 hI i hi) (cwV 1 hts gd_K_123 rfl rfl rfl (by decide +kernel) ⟨Nat.le_of_ble_eq_true rfl, Nat.le_of_ble_eq_true rfl⟩) (g_preV hK hP hD (ci := 0) (q0 := 0) rfl kw_0) rfl rfl hl.1 rfl (lv_room (Nat.le_of_ble_eq_true rfl)) d_K_end_18 ⟨Nat.le_refl _, Nat.le_refl _⟩) hD hS (kw_addr _) (fun H locs hP hD hS => ?_)
  obtain ⟨σ3, e_σ3⟩ : ∃ ζ, ζ = kd_gba n σ2 i 16 := ⟨_, rfl⟩
  rw [← e_σ3] at hP hD
  have hI : k_ok n σ3.1 := by rw [e_σ3]; exact (by rw [kd_gba_1]; exact hI)
  refine lv_iload_n hx hb d_K_end_21 rfl (lv_at hl 0 rfl) ?_
  refine lv_if_eq (tgt := 31) hx hb d_K_end_22 (by decide) (fun c_22 => ?_) (fun c_22 => ?_)
  · -- to 31
    exact g_retv hx hb hr hlocks (by rw [kd_end, if_pos c_22, e_σ3, e_σ2, e_σ1]) hP hS d_K_end_31
  · -- on 25
    refine lv_aload_n hx hb d_K_end_25 rfl (lv_at hl 1 rfl) ?_
    refine lv_iconst (v := 4) hx hb d_K_end_26 (by decide) ?_
    refine lv_aload_n hx hb d_K_end_27 rfl (lv_at hl 2 rfl) ?_
    refine g_callv (va_runV (As := [.int 4, .ref (ad i)]) (rest := []) ⟨hx, hb, hml, hown, hts⟩ (ct_K_tell l D cI cQ α ad an n σ3 hI 4 i hi) (cwV 2 hts gd_K_127 rfl rfl rfl (by decide +kernel) ⟨Nat.le_of_ble_eq_true rfl, Nat.le_of_ble_eq_true rfl⟩) (g_preV hK hP hD (ci := 0) (q0 := 0) rfl kw_0) rfl rfl hl.1 rfl (lv_room (Nat.le_of_ble_eq_true rfl)) d_K_end_28 ⟨Nat.le_refl _, Nat.le_refl _⟩) hD hS (kw_addr _) (fun H locs hP hD hS => ?_)
    obtain ⟨σ4, e_σ4⟩ : ∃ ζ, ζ = kd_tell σ3 4 i := ⟨_, rfl⟩
    rw [← e_σ4] at hP hD
    have hI : k_ok n σ4.1 := by rw [e_σ4]; exact (k_ok_tell hI)
    exact g_retv hx hb hr hlocks (by rw [kd_end, if_neg c_22, e_σ4, e_σ3, e_σ2, e_σ1]) hP hS d_K_end_31
