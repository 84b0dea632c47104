set_option maxHeartbeats 4000000 in
set_option maxRecDepth 100000 in
theorem ct_K_holder (l : Launch) (D : va_G) (cI cQ : ClassId) (α ad an : Nat → Nat) (n : Nat) (σ : kS) (hI : k_ok n σ.1) (z : Nat) (hz : z < 16) : Met l y_K_holder w_K_holder { frames := 1, cells := 0, slots := 0, locals := 20 } (gPc D (kty cI cQ) (kw_w cI cQ α ad an n σ) [.ref (α 0), .int (nI z)]) (QcRead (σ.2.1 0 z)) 0 0 (fun _ => False) := by
  refine Met.ofW (cc := b_K_holder) (maxL := 2) (ret := some .int) (by decide) rfl ?_
  intro p e s m args below meth c s₁ B hml hv
  obtain ⟨rfl, hP, hK, hD⟩ := hv
  have hx := B.exec
  have hb := B.bytes
  have hr := B.returns
  have hts : ∀ w ∈ kT, w.before [.ref (α 0), .int (nI z)].toArray s = true := fun w h => atoms_spec (ws := w_K_holder) B.pre w (List.mem_cons_of_mem _ h)
  have hown : s.vm.findClass R_K = some m.cls := findClass_of_methodNamed B.named
  have hlocks := B.notSynchronized
  have hl := lv_entry ([.ref (α 0), .int (nI z)]) (n := 2) (Nat.le_of_ble_eq_true rfl)
  rw [lg_entry_eq]
  generalize (lg_sl ([.ref (α 0), .int (nI z)]) ++ List.replicate (2 - (lg_sl ([.ref (α 0), .int (nI z)])).length) Slot.unset).toArray = ls at hl ⊢
  have hl : lv_has ls 2 [(0, .ref (α 0)), (1, .int (nI z))] := hl
  refine lv_iload_n hx hb d_K_holder_0 rfl (lv_at hl 1 rfl) ?_
  refine r_calli (W.runS (As := [.int (nI z)]) (rest := []) ⟨hx, hb, hml, hown, hts⟩ (ct_K_isSubject l (nI z)) (cwS 1 hts gd_K_81 rfl rfl rfl (by decide +kernel) ⟨Nat.le_of_ble_eq_true rfl, Nat.le_of_ble_eq_true rfl⟩) preEq rfl rfl hl.1 rfl (lv_room (Nat.le_of_ble_eq_true rfl)) d_K_holder_1 ⟨Nat.le_refl _, Nat.le_refl _⟩) ?_
  refine lv_if_ne (tgt := 17) hx hb d_K_holder_4 (by decide) (fun c_4 => ?_) (fun c_4 => ?_)
  · -- to 17
    refine lv_aload_n hx hb d_K_holder_17 rfl (lv_at hl 0 rfl) ?_
    refine kw_get hx hb hts hown hK hP 2 (by decide) fl_K_19 (v := .ref (α 2)) rfl d_K_holder_18 ?_
    refine lv_iload_n hx hb d_K_holder_21 rfl (lv_at hl 1 rfl) ?_
    refine kw_ald hx hb hK hP 0 (by decide) (j := z) rfl hz d_K_holder_22 ?_
    exact r_reti hx hb hr hlocks rfl d_K_holder_23
  · -- on 7
    exact absurd c_4 (by rw [kd_sub_nI hz]; decide)

set_option maxHeartbeats 4000000 in
set_option maxRecDepth 100000 in
theorem ct_K_waits (l : Launch) (D : va_G) (cI cQ : ClassId) (α ad an : Nat → Nat) (n : Nat) (σ : kS) (hI : k_ok n σ.1) (z : Nat) (hz : z < 16) (y : Int32) : Met l y_K_waits w_K_waits { frames := 2, cells := 0, slots := 0, locals := 48 } (gPc D (kty cI cQ) (kw_w cI cQ α ad an n σ) [.ref (α 0), .int (nI z), .int y]) (QcRead (kp_wt σ n z y)) 0 0 (fun _ => False) := by
  refine Met.ofW (cc := b_K_waits) (maxL := 4) (ret := some .int) (by decide) rfl ?_
  intro p e s m args below meth c s₁ B hml hv
  obtain ⟨rfl, hP, hK, hD⟩ := hv
  have hx := B.exec
  have hb := B.bytes
  have hr := B.returns
  have hts : ∀ w ∈ kT, w.before [.ref (α 0), .int (nI z), .int y].toArray s = true := fun w h => atoms_spec (ws := w_K_waits) B.pre w (List.mem_cons_of_mem _ h)
  have hown : s.vm.findClass R_K = some m.cls := findClass_of_methodNamed B.named
  have hlocks := B.notSynchronized
  have hl := lv_entry ([.ref (α 0), .int (nI z), .int y]) (n := 4) (Nat.le_of_ble_eq_true rfl)
  rw [lg_entry_eq]
  generalize (lg_sl ([.ref (α 0), .int (nI z), .int y]) ++ List.replicate (4 - (lg_sl ([.ref (α 0), .int (nI z), .int y])).length) Slot.unset).toArray = ls at hl ⊢
  have hl : lv_has ls 4 [(0, .ref (α 0)), (1, .int (nI z)), (2, .int y)] := hl
  refine lv_iload_n hx hb d_K_waits_0 rfl (lv_at hl 1 rfl) ?_
  refine r_calli (W.runS (As := [.int (nI z)]) (rest := []) ⟨hx, hb, hml, hown, hts⟩ (ct_K_isSubject l (nI z)) (cwS 1 hts gd_K_81 rfl rfl rfl (by decide +kernel) ⟨Nat.le_of_ble_eq_true rfl, Nat.le_of_ble_eq_true rfl⟩) preEq rfl rfl hl.1 rfl (lv_room (Nat.le_of_ble_eq_true rfl)) d_K_waits_1 ⟨Nat.le_refl _, Nat.le_refl _⟩) ?_
  refine lv_if_ne (tgt := 17) hx hb d_K_waits_4 (by decide) (fun c_4 => ?_) (fun c_4 => ?_)
  · -- to 17
    refine lv_aload_n hx hb d_K_waits_17 rfl (lv_at hl 0 rfl) ?_
    refine lv_iload_n hx hb d_K_waits_18 rfl (lv_at hl 1 rfl) ?_
    refine lv_iload_n hx hb d_K_waits_19 rfl (lv_at hl 2 rfl) ?_
    refine r_callq (W.runV (As := [.int (nI z), .int y]) (rest := []) ⟨hx, hb, hml, hown, hts⟩ (ct_K_waiterFor l D cI cQ α ad an n σ hI (nI z) y) (cwV 2 hts gd_K_113 rfl rfl rfl (by decide +kernel) ⟨Nat.le_of_ble_eq_true rfl, Nat.le_of_ble_eq_true rfl⟩) (g_preV hK hP hD (ci := 0) (q0 := 0) rfl kw_0) rfl rfl hl.1 rfl (lv_room (Nat.le_of_ble_eq_true rfl)) d_K_waits_20 ⟨Nat.le_refl _, Nat.le_refl _⟩) ?_
    rcases q_20 : kd_wfp σ n (nI z) y n with _ | i1
    · -- nobody
      refine W.eq (g2 := F0 m 23 ls [.null]) rfl ?_
      refine lv_astore_nN (lv' := [(3, .null), (0, .ref (α 0)), (1, .int (nI z)), (2, .int y)]) hx hb d_K_waits_23 rfl hl (by decide) rfl (fun ls hl => ?_)
      refine lv_aload_nN hx hb d_K_waits_24 rfl (lv_at hl 0 rfl) ?_
      refine lv_ifnonnullN hx hb d_K_waits_25 ?_
      refine lv_iconst (v := (-1)) hx hb d_K_waits_28 (by decide) ?_
      refine lv_goto (tgt := 36) hx hb d_K_waits_29 (by decide) ?_
      exact r_reti hx hb hr hlocks (by rw [kp_wt, q_20]) d_K_waits_36
    · -- i1
      have hi1 : i1 < n := kd_wfp_lt q_20
      refine W.eq (g2 := F0 m 23 ls [.ref (ad i1)]) rfl ?_
      refine lv_astore_n (lv' := [(3, .ref (ad i1)), (0, .ref (α 0)), (1, .int (nI z)), (2, .int y)]) hx hb d_K_waits_23 rfl hl (by decide) rfl (fun ls hl => ?_)
      refine lv_aload_n hx hb d_K_waits_24 rfl (lv_at hl 0 rfl) ?_
      refine lv_ifnonnull (tgt := 32) hx hb d_K_waits_25 (by decide) ?_
      refine lv_aload_n hx hb d_K_waits_32 rfl (lv_at hl 0 rfl) ?_
      refine kw_dget hx hb hts hown hK hP hi1 0 (by decide) fl_K_117 (v := .int (σ.2.2.1 i1 0)) rfl d_K_waits_33 ?_
      exact r_reti hx hb hr hlocks (by rw [kp_wt, q_20]) d_K_waits_36
  · -- on 7
    exact absurd c_4 (by rw [kd_sub_nI hz]; decide)

set_option maxHeartbeats 4000000 in
set_option maxRecDepth 100000 in
theorem ct_K_dead (l : Launch) (D : va_G) (cI cQ : ClassId) (α ad an : Nat → Nat) (n : Nat) (σ : kS) (hI : k_ok n σ.1) (i : Nat) (hi : i < n) : Met l y_K_dead w_K_dead { frames := 2, cells := 0, slots := 0, locals := 41 } (gPc D (kty cI cQ) (kw_w cI cQ α ad an n σ) [.ref (α 0), .int (nI i)]) (gQi D (kw_al α ad an n) ((kp_dead σ i).1) (kw_w cI cQ α ad an n ((kp_dead σ i).2))) 0 0 (gA (kw_al α ad an n)) := by
  refine Met.ofW (cc := b_K_dead) (maxL := 3) (ret := some .int) (by decide) rfl ?_
  intro p e s m args below meth c s₁ B hml hv
  obtain ⟨rfl, hP, hK, hD⟩ := hv
  have hx := B.exec
  have hb := B.bytes
  have hr := B.returns
  have hts : ∀ w ∈ kT, w.before [.ref (α 0), .int (nI i)].toArray s = true := fun w h => atoms_spec (ws := w_K_dead) B.pre w (List.mem_cons_of_mem _ h)
  have hown : s.vm.findClass R_K = some m.cls := findClass_of_methodNamed B.named
  have hlocks := B.notSynchronized
  have hD : va_D (gA (kw_al α ad an n)) (kw_w cI cQ α ad an n σ) := gD kw_adr hD
  have hS : va_S (gA (kw_al α ad an n)) s.heap s.heap [] := va_S.rf
  have hl := lv_entry ([.ref (α 0), .int (nI i)]) (n := 3) (Nat.le_of_ble_eq_true rfl)
  rw [lg_entry_eq]
  generalize (lg_sl ([.ref (α 0), .int (nI i)]) ++ List.replicate (3 - (lg_sl ([.ref (α 0), .int (nI i)])).length) Slot.unset).toArray = ls at hl ⊢
  have hl : lv_has ls 3 [(0, .ref (α 0)), (1, .int (nI i))] := hl
  refine lv_aload_n hx hb d_K_dead_0 rfl (lv_at hl 0 rfl) ?_
  refine lv_iload_n hx hb d_K_dead_1 rfl (lv_at hl 1 rfl) ?_
  refine r_callq (W.runV (As := [.int (nI i)]) (rest := []) ⟨hx, hb, hml, hown, hts⟩ (ct_K_deskAt l D cI cQ α ad an n σ hI (nI i)) (cwV 1 hts gd_K_77 rfl rfl rfl (by decide +kernel) ⟨Nat.le_of_ble_eq_true rfl, Nat.le_of_ble_eq_true rfl⟩) (g_preV hK hP hD (ci := 0) (q0 := 0) rfl kw_0) rfl rfl hl.1 rfl (lv_room (Nat.le_of_ble_eq_true rfl)) d_K_dead_2 ⟨Nat.le_refl _, Nat.le_refl _⟩) ?_
  rw [kd_at_nI hI hi]
  refine W.eq (g2 := F0 m 5 ls [.ref (ad i)]) rfl ?_
  refine lv_astore_n (lv' := [(2, .ref (ad i)), (0, .ref (α 0)), (1, .int (nI i))]) hx hb d_K_dead_5 rfl hl (by decide) rfl (fun ls hl => ?_)
  refine lv_aload_n hx hb d_K_dead_6 rfl (lv_at hl 0 rfl) ?_
  refine lv_ifnonnull (tgt := 20) hx hb d_K_dead_7 (by decide) ?_
  refine lv_aload_n hx hb d_K_dead_20 rfl (lv_at hl 0 rfl) ?_
  refine r_calli (W.runS (As := [.ref (ad i)]) (rest := []) ⟨hx, hb, hml, hown, hts⟩ (ct_K_isAlive l D cI cQ α ad an n σ hI i hi) (cwS 1 hts gd_K_131 rfl rfl rfl (by decide +kernel) ⟨Nat.le_of_ble_eq_true rfl, Nat.le_of_ble_eq_true rfl⟩) (g_preS hK hP hD) rfl rfl hl.1 rfl (lv_room (Nat.le_of_ble_eq_true rfl)) d_K_dead_21 ⟨Nat.le_refl _, Nat.le_refl _⟩) ?_
  refine lv_if_ne (tgt := 29) hx hb d_K_dead_24 (by decide) (fun c_24 => ?_) (fun c_24 => ?_)
  · -- to 29
    refine lv_aload_n hx hb d_K_dead_29 rfl (lv_at hl 0 rfl) ?_
    refine lv_iconst (v := (-1)) hx hb d_K_dead_30 (by decide) ?_
    refine kw_dput hx hb hts hown hK hP hD hS hi 6 (by decide) fl_K_120 rfl rfl rfl d_K_dead_31 (fun H locs hP hD hS => ?_)
    obtain ⟨σ1, e_σ1⟩ : ∃ ζ, ζ = k_d σ i 6 (-1) := ⟨_, rfl⟩
    rw [← e_σ1] at hP hD
    have hI : k_ok n σ1.1 := by rw [e_σ1]; exact hI
    refine lv_aload_n hx hb d_K_dead_34 rfl (lv_at hl 0 rfl) ?_
    refine lv_iconst (v := 1) hx hb d_K_dead_35 (by decide) ?_
    refine kw_dput hx hb hts hown hK hP hD hS hi 8 (by decide) fl_K_134 rfl (by decide +kernel) (by decide +kernel) d_K_dead_36 (fun H locs hP hD hS => ?_)
    obtain ⟨σ2, e_σ2⟩ : ∃ ζ, ζ = k_d σ1 i 8 1 := ⟨_, rfl⟩
    rw [← e_σ2] at hP hD
    have hI : k_ok n σ2.1 := by rw [e_σ2]; exact hI
    refine lv_aload_n hx hb d_K_dead_39 rfl (lv_at hl 1 rfl) ?_
    refine lv_aload_n hx hb d_K_dead_40 rfl (lv_at hl 0 rfl) ?_
    refine r_calli (W.runV (As := [.ref (ad i)]) (rest := []) ⟨hx, hb, hml, hown, hts⟩ (ct_K_heldBy l D cI cQ α ad an n σ2 hI i hi) (cwV 1 hts gd_K_137 rfl rfl rfl (by decide +kernel) ⟨Nat.le_of_ble_eq_true rfl, Nat.le_of_ble_eq_true rfl⟩) (g_preV hK hP hD (ci := 0) (q0 := 0) rfl kw_0) rfl rfl hl.1 rfl (lv_room (Nat.le_of_ble_eq_true rfl)) d_K_dead_41 ⟨Nat.le_refl _, Nat.le_refl _⟩) ?_
    refine r_calli (W.runS (As := [.int (kd_held σ2 i)]) (rest := []) ⟨hx, hb, hml, hown, hts⟩ (ct_I_bitCount l (kd_held σ2 i)) (va_cwS 1 hts gd_K_141 rfl rfl rfl (by decide +kernel) ⟨Nat.le_of_ble_eq_true rfl, Nat.le_of_ble_eq_true rfl⟩) preEq rfl rfl hl.1 rfl (lv_room (Nat.le_of_ble_eq_true rfl)) d_K_dead_44 ⟨Nat.le_refl _, Nat.le_refl _⟩) ?_
    exact g_reti hx hb hr hlocks (by rw [kp_dead, if_neg c_24, e_σ2, e_σ1]) (by rw [kp_dead, if_neg c_24, e_σ2, e_σ1]) hP hS d_K_dead_47
  · -- on 27
    refine lv_iconst (v := (-1)) hx hb d_K_dead_27 (by decide) ?_
    exact g_reti hx hb hr hlocks (by rw [kp_dead, if_pos c_24]) (by rw [kp_dead, if_pos c_24]) hP hS d_K_dead_28

set_option maxHeartbeats 4000000 in
set_option maxRecDepth 100000 in
theorem ct_K_look (l : Launch) (D : va_G) (cI cQ : ClassId) (α ad an : Nat → Nat) (n : Nat) (σ : kS) (hI : k_ok n σ.1) (i : Nat) (hi : i < n) (y : Int32) (hy0 : y = 0 ∨ y = 1 ∨ y = 2 ∨ y = 3 ∨ y = 4) : Met l y_K_look w_K_look { frames := 1, cells := 0, slots := 0, locals := 23 } (gPc D (kty cI cQ) (kw_w cI cQ α ad an n σ) [.ref (α 0), .int (nI i), .int y]) (QcRead (kp_look σ i y)) 0 0 (fun _ => False) := by
  refine Met.ofW (cc := b_K_look) (maxL := 4) (ret := some .int) (by decide) rfl ?_
  intro p e s m args below meth c s₁ B hml hv
  obtain ⟨rfl, hP, hK, hD⟩ := hv
  have hx := B.exec
  have hb := B.bytes
  have hr := B.returns
  have hts : ∀ w ∈ kT, w.before [.ref (α 0), .int (nI i), .int y].toArray s = true := fun w h => atoms_spec (ws := w_K_look) B.pre w (List.mem_cons_of_mem _ h)
  have hown : s.vm.findClass R_K = some m.cls := findClass_of_methodNamed B.named
  have hlocks := B.notSynchronized
  have hl := lv_entry ([.ref (α 0), .int (nI i), .int y]) (n := 4) (Nat.le_of_ble_eq_true rfl)
  rw [lg_entry_eq]
  generalize (lg_sl ([.ref (α 0), .int (nI i), .int y]) ++ List.replicate (4 - (lg_sl ([.ref (α 0), .int (nI i), .int y])).length) Slot.unset).toArray = ls at hl ⊢
  have hl : lv_has ls 4 [(0, .ref (α 0)), (1, .int (nI i)), (2, .int y)] := hl
  refine lv_aload_n hx hb d_K_look_0 rfl (lv_at hl 0 rfl) ?_
  refine lv_iload_n hx hb d_K_look_1 rfl (lv_at hl 1 rfl) ?_
  refine r_callq (W.runV (As := [.int (nI i)]) (rest := []) ⟨hx, hb, hml, hown, hts⟩ (ct_K_deskAt l D cI cQ α ad an n σ hI (nI i)) (cwV 1 hts gd_K_77 rfl rfl rfl (by decide +kernel) ⟨Nat.le_of_ble_eq_true rfl, Nat.le_of_ble_eq_true rfl⟩) (g_preV hK hP hD (ci := 0) (q0 := 0) rfl kw_0) rfl rfl hl.1 rfl (lv_room (Nat.le_of_ble_eq_true rfl)) d_K_look_2 ⟨Nat.le_refl _, Nat.le_refl _⟩) ?_
  rw [kd_at_nI hI hi]
  refine W.eq (g2 := F0 m 5 ls [.ref (ad i)]) rfl ?_
  refine lv_astore_n (lv' := [(3, .ref (ad i)), (0, .ref (α 0)), (1, .int (nI i)), (2, .int y)]) hx hb d_K_look_5 rfl hl (by decide) rfl (fun ls hl => ?_)
  refine lv_aload_n hx hb d_K_look_6 rfl (lv_at hl 0 rfl) ?_
  refine lv_ifnonnull (tgt := 20) hx hb d_K_look_7 (by decide) ?_
  refine lv_iload_n hx hb d_K_look_20 rfl (lv_at hl 3 rfl) ?_
  by_cases h_0 : y = 0
  · subst h_0
    refine lv_tableIn (tgt := 56) (off := 35) hx hb d_K_look_21 (by decide) (by decide) rfl (by decide) ?_
    refine lv_aload_n hx hb d_K_look_56 rfl (lv_at hl 0 rfl) ?_
    refine kw_dget hx hb hts hown hK hP hi 4 (by decide) fl_K_92 (v := .int (σ.2.2.1 i 4)) rfl d_K_look_57 ?_
    exact r_reti hx hb hr hlocks rfl d_K_look_60
  by_cases h_1 : y = 1
  · subst h_1
    refine lv_tableIn (tgt := 61) (off := 40) hx hb d_K_look_21 (by decide) (by decide) rfl (by decide) ?_
    refine lv_aload_n hx hb d_K_look_61 rfl (lv_at hl 0 rfl) ?_
    refine kw_dget hx hb hts hown hK hP hi 5 (by decide) fl_K_167 (v := .int (σ.2.2.1 i 5)) rfl d_K_look_62 ?_
    exact r_reti hx hb hr hlocks rfl d_K_look_65
  by_cases h_2 : y = 2
  · subst h_2
    refine lv_tableIn (tgt := 66) (off := 45) hx hb d_K_look_21 (by decide) (by decide) rfl (by decide) ?_
    refine lv_aload_n hx hb d_K_look_66 rfl (lv_at hl 0 rfl) ?_
    refine r_calli (W.runV (As := []) (rest := []) ⟨hx, hb, hml, hown, hts⟩ (ct_D_condition l D cI cQ α ad an n σ hI i hi) (cwV 0 hts gd_K_157 rfl rfl rfl (by decide +kernel) ⟨Nat.le_of_ble_eq_true rfl, Nat.le_of_ble_eq_true rfl⟩) (g_preV hK hP hD (ci := 1) (q0 := 6 + i) rfl (kw_3 hi)) rfl rfl hl.1 rfl (lv_room (Nat.le_of_ble_eq_true rfl)) d_K_look_67 ⟨Nat.le_refl _, Nat.le_refl _⟩) ?_
    exact r_reti hx hb hr hlocks rfl d_K_look_70
  by_cases h_3 : y = 3
  · subst h_3
    refine lv_tableIn (tgt := 71) (off := 50) hx hb d_K_look_21 (by decide) (by decide) rfl (by decide) ?_
    refine lv_aload_n hx hb d_K_look_71 rfl (lv_at hl 1 rfl) ?_
    refine lv_aload_n hx hb d_K_look_72 rfl (lv_at hl 0 rfl) ?_
    refine r_calli (W.runV (As := [.ref (ad i)]) (rest := []) ⟨hx, hb, hml, hown, hts⟩ (ct_K_heldBy l D cI cQ α ad an n σ hI i hi) (cwV 1 hts gd_K_137 rfl rfl rfl (by decide +kernel) ⟨Nat.le_of_ble_eq_true rfl, Nat.le_of_ble_eq_true rfl⟩) (g_preV hK hP hD (ci := 0) (q0 := 0) rfl kw_0) rfl rfl hl.1 rfl (lv_room (Nat.le_of_ble_eq_true rfl)) d_K_look_73 ⟨Nat.le_refl _, Nat.le_refl _⟩) ?_
    exact r_reti hx hb hr hlocks rfl d_K_look_76
  by_cases h_4 : y = 4
  · subst h_4
    refine lv_tableIn (tgt := 77) (off := 56) hx hb d_K_look_21 (by decide) (by decide) rfl (by decide) ?_
    refine lv_aload_n hx hb d_K_look_77 rfl (lv_at hl 0 rfl) ?_
    refine kw_dget hx hb hts hown hK hP hi 6 (by decide) fl_K_120 (v := .int (σ.2.2.1 i 6)) rfl d_K_look_78 ?_
    exact r_reti hx hb hr hlocks rfl d_K_look_81
  refine lv_tableOut (tgt := 82) hx hb d_K_look_21 (tb_5 h_0 h_1 h_2 h_3 h_4) (by decide) ?_
  exact absurd hy0 (fun q => q.elim h_0 (fun q => q.elim h_1 (fun q => q.elim h_2 (fun q => q.elim h_3 h_4))))

set_option maxHeartbeats 4000000 in
set_option maxRecDepth 100000 in
theorem ct_K_tick (l : Launch) (D : va_G) (cI cQ : ClassId) (α ad an : Nat → Nat) (n : Nat) (σ : kS) (hI : k_ok n σ.1) (x : Int32) (hx1 : ¬ x < σ.1 11) (hx2 : x ≤ 100000) : Met l y_K_tick w_K_tick { frames := 3, cells := 0, slots := 0, locals := 70 } (gPc D (kty cI cQ) (kw_w cI cQ α ad an n σ) [.ref (α 0), .int x]) (gQi D (kw_al α ad an n) ((kd_tickp n (k_f σ 11 x) 16).1) (kw_w cI cQ α ad an n ((kd_tickp n (k_f σ 11 x) 16).2))) 0 0 (gA (kw_al α ad an n)) := by
  refine Met.ofW (cc := b_K_tick) (maxL := 4) (ret := some .int) (by decide) rfl ?_
  intro p e s m args below meth c s₁ B hml hv
  obtain ⟨rfl, hP, hK, hD⟩ := hv
  have hx := B.exec
  have hb := B.bytes
  have hr := B.returns
  have hts : ∀ w ∈ kT, w.before [.ref (α 0), .int x].toArray s = true := fun w h => atoms_spec (ws := w_K_tick) B.pre w (List.mem_cons_of_mem _ h)
  have hown : s.vm.findClass R_K = some m.cls := findClass_of_methodNamed B.named
  have hlocks := B.notSynchronized
  have hD : va_D (gA (kw_al α ad an n)) (kw_w cI cQ α ad an n σ) := gD kw_adr hD
  have hS : va_S (gA (kw_al α ad an n)) s.heap s.heap [] := va_S.rf
  have hl := lv_entry ([.ref (α 0), .int x]) (n := 4) (Nat.le_of_ble_eq_true rfl)
  rw [lg_entry_eq]
  generalize (lg_sl ([.ref (α 0), .int x]) ++ List.replicate (4 - (lg_sl ([.ref (α 0), .int x])).length) Slot.unset).toArray = ls at hl ⊢
  have hl : lv_has ls 4 [(0, .ref (α 0)), (1, .int x)] := hl
  refine lv_iload_n hx hb d_K_tick_0 rfl (lv_at hl 1 rfl) ?_
  refine lv_aload_n hx hb d_K_tick_1 rfl (lv_at hl 0 rfl) ?_
  refine kw_get hx hb hts hown hK hP 11 (by decide) fl_K_47 (v := .int (σ.1 11)) rfl d_K_tick_2 ?_
  refine lv_icmp_lt (tgt := 14) hx hb d_K_tick_5 (by decide) (fun c_5 => ?_) (fun c_5 => ?_)
  · -- to 14
    exact absurd c_5 hx1
  · -- on 8
    refine lv_iload_n hx hb d_K_tick_8 rfl (lv_at hl 1 rfl) ?_
    refine lv_ldc (v := 100000) hx hb hown (hts _ kc_K_147) d_K_tick_9 ?_
    refine lv_icmp_le (tgt := 24) hx hb d_K_tick_11 (by decide) (fun c_11 => ?_) (fun c_11 => ?_)
    · -- to 24
      refine lv_aload_n hx hb d_K_tick_24 rfl (lv_at hl 0 rfl) ?_
      refine lv_iload_n hx hb d_K_tick_25 rfl (lv_at hl 1 rfl) ?_
      refine kw_put hx hb hts hown hK hP hD hS 11 (by decide) fl_K_47 rfl rfl rfl d_K_tick_26 (fun H locs hP hD hS => ?_)
      obtain ⟨σ1, e_σ1⟩ : ∃ ζ, ζ = k_f σ 11 x := ⟨_, rfl⟩
      rw [← e_σ1] at hP hD
      have hI : k_ok n σ1.1 := by rw [e_σ1]; exact (k_ok_f hI (by decide))
      refine lv_iconst (v := 0) hx hb d_K_tick_29 (by decide) ?_
      refine lv_istore_n (lv' := [(2, .int 0), (0, .ref (α 0)), (1, .int x)]) hx hb d_K_tick_30 rfl hl (by decide) rfl (fun ls hl => ?_)
      refine lv_iconst (v := 0) hx hb d_K_tick_31 (by decide) ?_
      refine lv_istore_n (lv' := [(3, .int 0), (2, .int 0), (0, .ref (α 0)), (1, .int x)]) hx hb d_K_tick_32 rfl hl (by decide) rfl (fun ls hl => ?_)
      have lp33 : ∀ (fu j : Nat) (acc : Int32) (ς : kS) (H : Heap) (locs : List Loc) (ls : Array Slot), j ≤ 16 → 16 - j < fu → acc = (kd_tickp n σ1 j).1 → ς = (kd_tickp n σ1 j).2 → va_P D kcl (kw_w cI cQ α ad an n ς) H → va_D (gA (kw_al α ad an n)) (kw_w cI cQ α ad an n ς) → va_S (gA (kw_al α ad an n)) s.heap H locs → lv_has ls 4 [(3, .int (nI j)), (2, .int acc), (0, .ref (α 0)), (1, .int x)] → W p l e (headSpec w_K_tick { frames := 3, cells := 0, slots := 0, locals := 70 }).room s m [.ref (α 0), .int x].toArray below meth c H locs 0 0 (MQ below (gQi D (kw_al α ad an n) ((kd_tickp n (k_f σ 11 x) 16).1) (kw_w cI cQ α ad an n ((kd_tickp n (k_f σ 11 x) 16).2))) [.ref (α 0), .int x].toArray s 0 0 (gA (kw_al α ad an n))) (F0 m 33 ls []) := by
        intro fu
        induction fu with
        | zero => intro j acc ς H locs ls h1 h2; omega
        | succ fu ih =>
          intro j acc ς H locs ls hj33 hf33 e_acc  e_ς hP hD hS hl
          have hI : k_ok n ς.1 := by rw [e_ς, kd_tickp_1]; exact hI
          refine lv_iload_n hx hb d_K_tick_33 rfl (lv_at hl 0 rfl) ?_
          refine lv_bipush (v := 16) hx hb d_K_tick_34 (by decide) ?_
          refine lv_icmp_ge (tgt := 61) hx hb d_K_tick_36 (by decide) (fun c_36 => ?_) (fun c_36 => ?_)
          · -- to 61
            have hx33 : j = 16 := lp_eq (B := 16) (hn := (by decide)) c_36 hj33
            subst hx33
            refine lv_iload_n hx hb d_K_tick_61 rfl (lv_at hl 1 rfl) ?_
            exact g_reti hx hb hr hlocks (by rw [e_acc, e_σ1]) (by rw [e_ς, e_σ1]) hP hS d_K_tick_62
          · -- on 39
            have hl33 : j < 16 := lp_lt (B := 16) (hn := (by decide)) c_36 hj33
            refine lv_aload_n hx hb d_K_tick_39 rfl (lv_at hl 2 rfl) ?_
            refine lv_iload_n hx hb d_K_tick_40 rfl (lv_at hl 0 rfl) ?_
            refine r_calli (W.runV (As := [.int (nI j)]) (rest := []) ⟨hx, hb, hml, hown, hts⟩ (ct_K_isOverdue l D cI cQ α ad an n ς hI j hl33) (cwV 1 hts gd_K_150 rfl rfl rfl (by decide +kernel) ⟨Nat.le_of_ble_eq_true rfl, Nat.le_of_ble_eq_true rfl⟩) (g_preV hK hP hD (ci := 0) (q0 := 0) rfl kw_0) rfl rfl hl.1 rfl (lv_room (Nat.le_of_ble_eq_true rfl)) d_K_tick_41 ⟨Nat.le_refl _, Nat.le_refl _⟩) ?_
            refine lv_if_eq (tgt := 55) hx hb d_K_tick_44 (by decide) (fun c_44 => ?_) (fun c_44 => ?_)
            · -- to 55
              refine lv_iinc (v := nI (j + 1)) (lv' := [(3, .int (nI (j + 1))), (2, .int acc), (0, .ref (α 0)), (1, .int x)]) hx hb d_K_tick_55 hl (k := 0) rfl (nI_1 j) (by decide) rfl (fun ls hl => ?_)
              refine lv_goto (tgt := 33) hx hb d_K_tick_58 (by decide) ?_
              exact ih (j + 1) acc _ _ _ ls (by omega) (by omega) (by rw [kd_tickp, ← e_ς, if_pos c_44]; exact e_acc) (by rw [kd_tickp, ← e_ς, if_pos c_44]; exact e_ς) hP hD hS (lv_sub hl [0, 1, 2, 3] rfl)
            · -- on 47
              refine lv_aload_n hx hb d_K_tick_47 rfl (lv_at hl 2 rfl) ?_
              refine lv_iload_n hx hb d_K_tick_48 rfl (lv_at hl 0 rfl) ?_
              refine g_callv (va_runV (As := [.int (nI j)]) (rest := []) ⟨hx, hb, hml, hown, hts⟩ (ct_K_giveBack l D cI cQ α ad an n ς hI j hl33) (cwV 1 hts gd_K_153 rfl rfl rfl (by decide +kernel) ⟨Nat.le_of_ble_eq_true rfl, Nat.le_of_ble_eq_true rfl⟩) (g_preV hK hP hD (ci := 0) (q0 := 0) rfl kw_0) rfl rfl hl.1 rfl (lv_room (Nat.le_of_ble_eq_true rfl)) d_K_tick_49 ⟨Nat.le_refl _, Nat.le_refl _⟩) hD hS (kw_addr _) (fun H locs hP hD hS => ?_)
              obtain ⟨σ2, e_σ2⟩ : ∃ ζ, ζ = kd_gb n ς j := ⟨_, rfl⟩
              rw [← e_σ2] at hP hD
              have hI : k_ok n σ2.1 := by rw [e_σ2]; exact (by rw [kd_gb_1]; exact hI)
              refine lv_iinc (v := acc + 1) (lv' := [(2, .int (acc + 1)), (3, .int (nI j)), (0, .ref (α 0)), (1, .int x)]) hx hb d_K_tick_52 hl (k := 1) rfl rfl (by decide) rfl (fun ls hl => ?_)
              refine lv_iinc (v := nI (j + 1)) (lv' := [(3, .int (nI (j + 1))), (2, .int (acc + 1)), (0, .ref (α 0)), (1, .int x)]) hx hb d_K_tick_55 hl (k := 1) rfl (nI_1 j) (by decide) rfl (fun ls hl => ?_)
              refine lv_goto (tgt := 33) hx hb d_K_tick_58 (by decide) ?_
              exact ih (j + 1) (acc + 1) _ _ _ ls (by omega) (by omega) (by rw [kd_tickp, ← e_ς, if_neg c_44]; exact congrArg (fun z => z + 1) e_acc) (by rw [e_σ2, kd_tickp, ← e_ς, if_neg c_44]) hP hD hS (lv_sub hl [0, 1, 2, 3] rfl)
      exact lp33 (16 - 0 + 1) 0 _ _ _ _ ls (by omega) (by omega) rfl  rfl hP hD hS (lv_sub hl [0, 1, 2, 3] rfl)
    · -- on 14
      exact absurd hx2 c_11

set_option maxHeartbeats 4000000 in
set_option maxRecDepth 100000 in
theorem ct_K_turn (l : Launch) (D : va_G) (cI cQ : ClassId) (α ad an : Nat → Nat) (n : Nat) (σ : kS) (hI : k_ok n σ.1) (i : Nat) (hi : i < n) (hc0 : σ.1 12 = 0) (ht0 : ¬ (300 : Int32) ≤ σ.1 6) : Met l y_K_turn w_K_turn { frames := 1, cells := 0, slots := 0, locals := 21 } (gPc D (kty cI cQ) (kw_w cI cQ α ad an n σ) [.ref (α 0), .int (nI i)]) (gQi D (kw_al α ad an n) ((kp_turn σ (nI i)).1) (kw_w cI cQ α ad an n ((kp_turn σ (nI i)).2))) 0 0 (gA (kw_al α ad an n)) := by
  refine Met.ofW (cc := b_K_turn) (maxL := 2) (ret := some .int) (by decide) rfl ?_
  intro p e s m args below meth c s₁ B hml hv
  obtain ⟨rfl, hP, hK, hD⟩ := hv
  have hx := B.exec
  have hb := B.bytes
  have hr := B.returns
  have hts : ∀ w ∈ kT, w.before [.ref (α 0), .int (nI i)].toArray s = true := fun w h => atoms_spec (ws := w_K_turn) B.pre w (List.mem_cons_of_mem _ h)
  have hown : s.vm.findClass R_K = some m.cls := findClass_of_methodNamed B.named
  have hlocks := B.notSynchronized
  have hD : va_D (gA (kw_al α ad an n)) (kw_w cI cQ α ad an n σ) := gD kw_adr hD
  have hS : va_S (gA (kw_al α ad an n)) s.heap s.heap [] := va_S.rf
  have hl := lv_entry ([.ref (α 0), .int (nI i)]) (n := 2) (Nat.le_of_ble_eq_true rfl)
  rw [lg_entry_eq]
  generalize (lg_sl ([.ref (α 0), .int (nI i)]) ++ List.replicate (2 - (lg_sl ([.ref (α 0), .int (nI i)])).length) Slot.unset).toArray = ls at hl ⊢
  have hl : lv_has ls 2 [(0, .ref (α 0)), (1, .int (nI i))] := hl
  refine lv_aload_n hx hb d_K_turn_0 rfl (lv_at hl 0 rfl) ?_
  refine lv_iload_n hx hb d_K_turn_1 rfl (lv_at hl 1 rfl) ?_
  refine r_callq (W.runV (As := [.int (nI i)]) (rest := []) ⟨hx, hb, hml, hown, hts⟩ (ct_K_deskAt l D cI cQ α ad an n σ hI (nI i)) (cwV 1 hts gd_K_77 rfl rfl rfl (by decide +kernel) ⟨Nat.le_of_ble_eq_true rfl, Nat.le_of_ble_eq_true rfl⟩) (g_preV hK hP hD (ci := 0) (q0 := 0) rfl kw_0) rfl rfl hl.1 rfl (lv_room (Nat.le_of_ble_eq_true rfl)) d_K_turn_2 ⟨Nat.le_refl _, Nat.le_refl _⟩) ?_
  rw [kd_at_nI hI hi]
  refine W.eq (g2 := F0 m 5 ls [.ref (ad i)]) rfl ?_
  refine lv_ifnonnull (tgt := 18) hx hb d_K_turn_5 (by decide) ?_
  refine lv_aload_n hx hb d_K_turn_18 rfl (lv_at hl 0 rfl) ?_
  refine kw_get hx hb hts hown hK hP 12 (by decide) fl_K_50 (v := .int (σ.1 12)) rfl d_K_turn_19 ?_
  refine lv_if_ne (tgt := 35) hx hb d_K_turn_22 (by decide) (fun c_22 => ?_) (fun c_22 => ?_)
  · -- to 35
    exact absurd hc0 c_22
  · -- on 25
    refine lv_aload_n hx hb d_K_turn_25 rfl (lv_at hl 0 rfl) ?_
    refine kw_get hx hb hts hown hK hP 6 (by decide) fl_K_32 (v := .int (σ.1 6)) rfl d_K_turn_26 ?_
    refine lv_sipush (v := 300) hx hb d_K_turn_29 (by decide) ?_
    refine lv_icmp_lt (tgt := 45) hx hb d_K_turn_32 (by decide) (fun c_32 => ?_) (fun c_32 => ?_)
    · -- to 45
      refine lv_aload_n hx hb d_K_turn_45 rfl (lv_at hl 0 rfl) ?_
      refine kw_get hx hb hts hown hK hP 5 (by decide) fl_K_29 (v := .ref (α 4)) rfl d_K_turn_46 ?_
      refine lv_aload_n hx hb d_K_turn_49 rfl (lv_at hl 0 rfl) ?_
      refine kw_get hx hb hts hown hK hP 6 (by decide) fl_K_32 (v := .int (σ.1 6)) rfl d_K_turn_50 ?_
      refine lv_iload_n hx hb d_K_turn_53 rfl (lv_at hl 1 rfl) ?_
      refine kw_ast hx hb hK hP hD hS 2 (by decide) (j := (σ.1 6).toNatClampNeg) (ix_e (k_ok_t0 hI)) (ix_l (B := 300) (k_ok_t0 hI) ht0) d_K_turn_54 (fun H locs hP hD hS => ?_)
      obtain ⟨σ1, e_σ1⟩ : ∃ ζ, ζ = k_a σ 2 ((σ.1 6).toNatClampNeg) (nI i) := ⟨_, rfl⟩
      rw [← e_σ1] at hP hD
      have hI : k_ok n σ1.1 := by rw [e_σ1]; exact hI
      refine lv_aload_n hx hb d_K_turn_55 rfl (lv_at hl 0 rfl) ?_
      refine lv_dup hx hb d_K_turn_56 rfl ?_
      refine kw_get hx hb hts hown hK hP 6 (by decide) fl_K_32 (v := .int (σ1.1 6)) rfl d_K_turn_57 ?_
      refine lv_iconst (v := 1) hx hb d_K_turn_60 (by decide) ?_
      refine lv_iadd hx hb d_K_turn_61 ?_
      refine kw_put hx hb hts hown hK hP hD hS 6 (by decide) fl_K_32 rfl rfl rfl d_K_turn_62 (fun H locs hP hD hS => ?_)
      obtain ⟨σ2, e_σ2⟩ : ∃ ζ, ζ = k_f σ1 6 ((σ1.1 6) + 1) := ⟨_, rfl⟩
      rw [← e_σ2] at hP hD
      refine lv_aload_n hx hb d_K_turn_65 rfl (lv_at hl 0 rfl) ?_
      refine kw_get hx hb hts hown hK hP 6 (by decide) fl_K_32 (v := .int (σ2.1 6)) rfl d_K_turn_66 ?_
      refine lv_aload_n hx hb d_K_turn_69 rfl (lv_at hl 0 rfl) ?_
      refine kw_get hx hb hts hown hK hP 7 (by decide) fl_K_35 (v := .int (σ2.1 7)) rfl d_K_turn_70 ?_
      refine lv_isub hx hb d_K_turn_73 ?_
      exact g_reti hx hb hr hlocks (by rw [kp_turn, e_σ2, e_σ1]) (by rw [kp_turn, e_σ2, e_σ1]) hP hS d_K_turn_74
    · -- on 35
      exact absurd (i32_lt_of ht0) c_32
