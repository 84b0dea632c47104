set_option maxHeartbeats 4000000 in
set_option maxRecDepth 100000 in
theorem ct_M_interruptN (l : Launch) (D : va_G) (cI cQ : ClassId) (β : Nat → Nat) (n : Nat) (τ : mS) (hI : m_ok n τ.1) (x : Int32) (hx0 : mo_isd (m_f τ 0 0) x = 0) : Met l y_M_interrupt w_M_interrupt { frames := 3, cells := 0, slots := 0, locals := 68 } (gPc D (kty cI cQ) (mw_w cI β τ) [.ref (β 0), .int x]) (gQi D (mw_al β) (0) (mw_w cI β (m_f τ 0 0))) 0 0 (gA (mw_al β)) := by
  refine Met.ofW (cc := b_M_interrupt) (maxL := 2) (ret := some .boolean) (by decide) rfl ?_
  intro p e s m args below meth c s₁ B hml hv
  obtain ⟨rfl, hP, hK, hD⟩ := hv
  have hx := B.exec
  have hb := B.bytes
  have hr := B.returns
  have hts : ∀ w ∈ kT, w.before [.ref (β 0), .int x].toArray s = true := fun w h => atoms_spec (ws := w_M_interrupt) B.pre w (List.mem_cons_of_mem _ h)
  have hown : s.vm.findClass R_M = some m.cls := findClass_of_methodNamed B.named
  have hlocks := B.notSynchronized
  have hD : va_D (gA (mw_al β)) (mw_w cI β τ) := gD mw_addr hD
  have hS : va_S (gA (mw_al β)) s.heap s.heap [] := va_S.rf
  have hl := lv_entry ([.ref (β 0), .int x]) (n := 2) (Nat.le_of_ble_eq_true rfl)
  rw [lg_entry_eq]
  generalize (lg_sl ([.ref (β 0), .int x]) ++ List.replicate (2 - (lg_sl ([.ref (β 0), .int x])).length) Slot.unset).toArray = ls at hl ⊢
  have hl : lv_has ls 2 [(0, .ref (β 0)), (1, .int x)] := hl
  refine lv_aload_n hx hb d_M_interrupt_0 rfl (lv_at hl 0 rfl) ?_
  refine lv_iconst (v := 0) hx hb d_M_interrupt_1 (by decide) ?_
  refine mw_put hx hb hts hown hK hP hD hS 0 (by unfold mw_is; decide) fl_M_46 rfl rfl rfl d_M_interrupt_2 (fun H locs hP hD hS => ?_)
  obtain ⟨τ1, e_τ1⟩ : ∃ ζ, ζ = m_f τ 0 0 := ⟨_, rfl⟩
  rw [← e_τ1] at hP hD
  have hI : m_ok n τ1.1 := by rw [e_τ1]; exact (m_ok_f hI (by decide))
  refine lv_aload_n hx hb d_M_interrupt_5 rfl (lv_at hl 0 rfl) ?_
  refine lv_iload_n hx hb d_M_interrupt_6 rfl (lv_at hl 1 rfl) ?_
  refine r_calli (W.runV (As := [.int x]) (rest := []) ⟨hx, hb, hml, hown, hts⟩ (ct_M_isDesk l D cI cQ β n τ1 hI x) (cwV 1 hts gd_M_68 rfl rfl rfl (by decide +kernel) ⟨Nat.le_of_ble_eq_true rfl, Nat.le_of_ble_eq_true rfl⟩) (g_preV hK hP hD (ci := 2) (q0 := 0) rfl mw_0) rfl rfl hl.1 rfl (lv_room (Nat.le_of_ble_eq_true rfl)) d_M_interrupt_7 ⟨Nat.le_refl _, Nat.le_refl _⟩) ?_
  refine lv_if_eq (tgt := 23) hx hb d_M_interrupt_10 (by decide) (fun c_10 => ?_) (fun c_10 => ?_)
  · -- to 23
    refine lv_iconst (v := 0) hx hb d_M_interrupt_23 (by decide) ?_
    exact g_retz hx hb hr hlocks (by decide) rfl (by rw [e_τ1]) hP hS d_M_interrupt_24
  · -- on 13
    exact absurd (by rw [e_τ1]; exact hx0) c_10

set_option maxHeartbeats 4000000 in
set_option maxRecDepth 100000 in
theorem ct_M_interrupt (l : Launch) (D : va_G) (cI cQ : ClassId) (β : Nat → Nat) (n : Nat) (τ : mS) (hI : m_ok n τ.1) (i : Nat) (hi : i < n) : Met l y_M_interrupt w_M_interrupt { frames := 3, cells := 0, slots := 0, locals := 68 } (gPc D (kty cI cQ) (mw_w cI β τ) [.ref (β 0), .int (nI i)]) (gQi D (mw_al β) ((mo_inti n τ i).1) (mw_w cI β ((mo_inti n τ i).2))) 0 0 (gA (mw_al β)) := by
  refine Met.ofW (cc := b_M_interrupt) (maxL := 2) (ret := some .boolean) (by decide) rfl ?_
  intro p e s m args below meth c s₁ B hml hv
  obtain ⟨rfl, hP, hK, hD⟩ := hv
  have hx := B.exec
  have hb := B.bytes
  have hr := B.returns
  have hts : ∀ w ∈ kT, w.before [.ref (β 0), .int (nI i)].toArray s = true := fun w h => atoms_spec (ws := w_M_interrupt) B.pre w (List.mem_cons_of_mem _ h)
  have hown : s.vm.findClass R_M = some m.cls := findClass_of_methodNamed B.named
  have hlocks := B.notSynchronized
  have hD : va_D (gA (mw_al β)) (mw_w cI β τ) := gD mw_addr hD
  have hS : va_S (gA (mw_al β)) s.heap s.heap [] := va_S.rf
  have hl := lv_entry ([.ref (β 0), .int (nI i)]) (n := 2) (Nat.le_of_ble_eq_true rfl)
  rw [lg_entry_eq]
  generalize (lg_sl ([.ref (β 0), .int (nI i)]) ++ List.replicate (2 - (lg_sl ([.ref (β 0), .int (nI i)])).length) Slot.unset).toArray = ls at hl ⊢
  have hl : lv_has ls 2 [(0, .ref (β 0)), (1, .int (nI i))] := hl
  refine lv_aload_n hx hb d_M_interrupt_0 rfl (lv_at hl 0 rfl) ?_
  refine lv_iconst (v := 0) hx hb d_M_interrupt_1 (by decide) ?_
  refine mw_put hx hb hts hown hK hP hD hS 0 (by unfold mw_is; decide) fl_M_46 rfl rfl rfl d_M_interrupt_2 (fun H locs hP hD hS => ?_)
  obtain ⟨τ1, e_τ1⟩ : ∃ ζ, ζ = m_f τ 0 0 := ⟨_, rfl⟩
  rw [← e_τ1] at hP hD
  have hI : m_ok n τ1.1 := by rw [e_τ1]; exact (m_ok_f hI (by decide))
  refine lv_aload_n hx hb d_M_interrupt_5 rfl (lv_at hl 0 rfl) ?_
  refine lv_iload_n hx hb d_M_interrupt_6 rfl (lv_at hl 1 rfl) ?_
  refine r_calli (W.runV (As := [.int (nI i)]) (rest := []) ⟨hx, hb, hml, hown, hts⟩ (ct_M_isDesk l D cI cQ β n τ1 hI (nI i)) (cwV 1 hts gd_M_68 rfl rfl rfl (by decide +kernel) ⟨Nat.le_of_ble_eq_true rfl, Nat.le_of_ble_eq_true rfl⟩) (g_preV hK hP hD (ci := 2) (q0 := 0) rfl mw_0) rfl rfl hl.1 rfl (lv_room (Nat.le_of_ble_eq_true rfl)) d_M_interrupt_7 ⟨Nat.le_refl _, Nat.le_refl _⟩) ?_
  refine lv_if_eq (tgt := 23) hx hb d_M_interrupt_10 (by decide) (fun c_10 => ?_) (fun c_10 => ?_)
  · -- to 23
    exact absurd c_10 (by rw [mo_isd_nI hI hi]; decide)
  · -- on 13
    refine lv_aload_n hx hb d_M_interrupt_13 rfl (lv_at hl 0 rfl) ?_
    refine mw_get hx hb hts hown hK hP 6 (by decide) fl_M_22 (v := .ref (β 6)) rfl d_M_interrupt_14 ?_
    refine lv_iload_n hx hb d_M_interrupt_17 rfl (lv_at hl 1 rfl) ?_
    refine mw_ald hx hb hK hP 6 (by unfold mw_as; decide) (j := i) rfl (m8 hI hi) d_M_interrupt_18 ?_
    refine lv_iconst (v := 1) hx hb d_M_interrupt_19 (by decide) ?_
    refine lv_icmp_eq (tgt := 25) hx hb d_M_interrupt_20 (by decide) (fun c_20 => ?_) (fun c_20 => ?_)
    · -- to 25
      refine lv_aload_n hx hb d_M_interrupt_25 rfl (lv_at hl 0 rfl) ?_
      refine mw_get hx hb hts hown hK hP 10 (by decide) fl_M_34 (v := .ref (β 10)) rfl d_M_interrupt_26 ?_
      refine lv_iload_n hx hb d_M_interrupt_29 rfl (lv_at hl 1 rfl) ?_
      refine lv_iconst (v := (-1)) hx hb d_M_interrupt_30 (by decide) ?_
      refine mw_ast hx hb hK hP hD hS 10 (by unfold mw_as; decide) (j := i) rfl (m8 hI hi) d_M_interrupt_31 (fun H locs hP hD hS => ?_)
      obtain ⟨τ2, e_τ2⟩ : ∃ ζ, ζ = m_a τ1 10 i (-1) := ⟨_, rfl⟩
      rw [← e_τ2] at hP hD
      have hI : m_ok n τ2.1 := by rw [e_τ2]; exact hI
      refine lv_aload_n hx hb d_M_interrupt_32 rfl (lv_at hl 0 rfl) ?_
      refine lv_iconst (v := 3) hx hb d_M_interrupt_33 (by decide) ?_
      refine lv_iload_n hx hb d_M_interrupt_34 rfl (lv_at hl 1 rfl) ?_
      refine g_callv (va_runV (As := [.int 3, .int (nI i)]) (rest := []) ⟨hx, hb, hml, hown, hts⟩ (ct_M_write l D cI cQ β n τ2 hI 3 i hi) (cwV 2 hts gd_M_94 rfl rfl rfl (by decide +kernel) ⟨Nat.le_of_ble_eq_true rfl, Nat.le_of_ble_eq_true rfl⟩) (g_preV hK hP hD (ci := 2) (q0 := 0) rfl mw_0) rfl rfl hl.1 rfl (lv_room (Nat.le_of_ble_eq_true rfl)) d_M_interrupt_35 ⟨Nat.le_refl _, Nat.le_refl _⟩) hD hS (mw_addr.trans mw_addr.symm) (fun H locs hP hD hS => ?_)
      obtain ⟨τ3, e_τ3⟩ : ∃ ζ, ζ = mo_write τ2 3 i := ⟨_, rfl⟩
      rw [← e_τ3] at hP hD
      have hI : m_ok n τ3.1 := by rw [e_τ3]; exact (m_ok_write hI)
      refine lv_aload_n hx hb d_M_interrupt_38 rfl (lv_at hl 0 rfl) ?_
      refine lv_iload_n hx hb d_M_interrupt_39 rfl (lv_at hl 1 rfl) ?_
      refine g_callv (va_runV (As := [.int (nI i)]) (rest := []) ⟨hx, hb, hml, hown, hts⟩ (ct_M_giveAll l D cI cQ β n τ3 hI i hi) (cwV 1 hts gd_M_98 rfl rfl rfl (by decide +kernel) ⟨Nat.le_of_ble_eq_true rfl, Nat.le_of_ble_eq_true rfl⟩) (g_preV hK hP hD (ci := 2) (q0 := 0) rfl mw_0) rfl rfl hl.1 rfl (lv_room (Nat.le_of_ble_eq_true rfl)) d_M_interrupt_40 ⟨Nat.le_refl _, Nat.le_refl _⟩) hD hS (mw_addr.trans mw_addr.symm) (fun H locs hP hD hS => ?_)
      obtain ⟨τ4, e_τ4⟩ : ∃ ζ, ζ = mo_ga n τ3 i := ⟨_, rfl⟩
      rw [← e_τ4] at hP hD
      have hI : m_ok n τ4.1 := by rw [e_τ4]; exact (by rw [mo_ga_1]; exact hI)
      refine lv_aload_n hx hb d_M_interrupt_43 rfl (lv_at hl 0 rfl) ?_
      refine lv_iload_n hx hb d_M_interrupt_44 rfl (lv_at hl 1 rfl) ?_
      refine g_callv (va_runV (As := [.int (nI i)]) (rest := []) ⟨hx, hb, hml, hown, hts⟩ (ct_M_goesOn l D cI cQ β n τ4 hI i hi) (cwV 1 hts gd_M_101 rfl rfl rfl (by decide +kernel) ⟨Nat.le_of_ble_eq_true rfl, Nat.le_of_ble_eq_true rfl⟩) (g_preV hK hP hD (ci := 2) (q0 := 0) rfl mw_0) rfl rfl hl.1 rfl (lv_room (Nat.le_of_ble_eq_true rfl)) d_M_interrupt_45 ⟨Nat.le_refl _, Nat.le_refl _⟩) hD hS (mw_addr.trans mw_addr.symm) (fun H locs hP hD hS => ?_)
      obtain ⟨τ5, e_τ5⟩ : ∃ ζ, ζ = mo_goes τ4 i := ⟨_, rfl⟩
      rw [← e_τ5] at hP hD
      have hI : m_ok n τ5.1 := by rw [e_τ5]; exact hI
      refine lv_iconst (v := 1) hx hb d_M_interrupt_48 (by decide) ?_
      exact g_retz hx hb hr hlocks (by decide) (by rw [mo_inti, if_pos (by rw [← e_τ1]; exact c_20)]) (by rw [mo_inti, if_pos (by rw [← e_τ1]; exact c_20), e_τ5, e_τ4, e_τ3, e_τ2, e_τ1]) hP hS d_M_interrupt_49
    · -- on 23
      refine lv_iconst (v := 0) hx hb d_M_interrupt_23 (by decide) ?_
      exact g_retz hx hb hr hlocks (by decide) (by rw [mo_inti, if_neg (by rw [← e_τ1]; exact c_20)]) (by rw [mo_inti, if_neg (by rw [← e_τ1]; exact c_20), e_τ1]) hP hS d_M_interrupt_24

set_option maxHeartbeats 4000000 in
set_option maxRecDepth 100000 in
theorem ct_M_deadN (l : Launch) (D : va_G) (cI cQ : ClassId) (β : Nat → Nat) (n : Nat) (τ : mS) (hI : m_ok n τ.1) (x : Int32) (hx0 : mo_isd τ x = 0) : Met l y_M_dead w_M_dead { frames := 1, cells := 0, slots := 0, locals := 23 } (gPc D (kty cI cQ) (mw_w cI β τ) [.ref (β 0), .int x]) (gQi D (mw_al β) (0) (mw_w cI β (m_f τ 0 1))) 0 0 (gA (mw_al β)) := by
  refine Met.ofW (cc := b_M_dead) (maxL := 2) (ret := some .int) (by decide) rfl ?_
  intro p e s m args below meth c s₁ B hml hv
  obtain ⟨rfl, hP, hK, hD⟩ := hv
  have hx := B.exec
  have hb := B.bytes
  have hr := B.returns
  have hts : ∀ w ∈ kT, w.before [.ref (β 0), .int x].toArray s = true := fun w h => atoms_spec (ws := w_M_dead) B.pre w (List.mem_cons_of_mem _ h)
  have hown : s.vm.findClass R_M = some m.cls := findClass_of_methodNamed B.named
  have hlocks := B.notSynchronized
  have hD : va_D (gA (mw_al β)) (mw_w cI β τ) := gD mw_addr hD
  have hS : va_S (gA (mw_al β)) s.heap s.heap [] := va_S.rf
  have hl := lv_entry ([.ref (β 0), .int x]) (n := 2) (Nat.le_of_ble_eq_true rfl)
  rw [lg_entry_eq]
  generalize (lg_sl ([.ref (β 0), .int x]) ++ List.replicate (2 - (lg_sl ([.ref (β 0), .int x])).length) Slot.unset).toArray = ls at hl ⊢
  have hl : lv_has ls 2 [(0, .ref (β 0)), (1, .int x)] := hl
  refine lv_aload_n hx hb d_M_dead_0 rfl (lv_at hl 0 rfl) ?_
  refine lv_iload_n hx hb d_M_dead_1 rfl (lv_at hl 1 rfl) ?_
  refine r_calli (W.runV (As := [.int x]) (rest := []) ⟨hx, hb, hml, hown, hts⟩ (ct_M_isDesk l D cI cQ β n τ hI x) (cwV 1 hts gd_M_68 rfl rfl rfl (by decide +kernel) ⟨Nat.le_of_ble_eq_true rfl, Nat.le_of_ble_eq_true rfl⟩) (g_preV hK hP hD (ci := 2) (q0 := 0) rfl mw_0) rfl rfl hl.1 rfl (lv_room (Nat.le_of_ble_eq_true rfl)) d_M_dead_2 ⟨Nat.le_refl _, Nat.le_refl _⟩) ?_
  refine lv_if_ne (tgt := 14) hx hb d_M_dead_5 (by decide) (fun c_5 => ?_) (fun c_5 => ?_)
  · -- to 14
    exact absurd hx0 c_5
  · -- on 8
    refine lv_aload_n hx hb d_M_dead_8 rfl (lv_at hl 0 rfl) ?_
    refine lv_iconst (v := 1) hx hb d_M_dead_9 (by decide) ?_
    refine g_calli (va_runV (As := [.int 1]) (rest := []) ⟨hx, hb, hml, hown, hts⟩ (ct_M_refuse l D cI cQ β n τ hI 1) (cwV 1 hts gd_M_57 rfl rfl rfl (by decide +kernel) ⟨Nat.le_of_ble_eq_true rfl, Nat.le_of_ble_eq_true rfl⟩) (g_preV hK hP hD (ci := 2) (q0 := 0) rfl mw_0) rfl rfl hl.1 rfl (lv_room (Nat.le_of_ble_eq_true rfl)) d_M_dead_10 ⟨Nat.le_refl _, Nat.le_refl _⟩) hD hS (mw_addr.trans mw_addr.symm) (fun H locs hP hD hS => ?_)
    obtain ⟨τ1, e_τ1⟩ : ∃ ζ, ζ = m_f τ 0 1 := ⟨_, rfl⟩
    rw [← e_τ1] at hP hD
    have hI : m_ok n τ1.1 := by rw [e_τ1]; exact (m_ok_f hI (by decide))
    exact g_reti hx hb hr hlocks rfl (by rw [e_τ1]) hP hS d_M_dead_13

set_option maxHeartbeats 4000000 in
set_option maxRecDepth 100000 in
theorem ct_M_dead (l : Launch) (D : va_G) (cI cQ : ClassId) (β : Nat → Nat) (n : Nat) (τ : mS) (hI : m_ok n τ.1) (i : Nat) (hi : i < n) : Met l y_M_dead w_M_dead { frames := 1, cells := 0, slots := 0, locals := 23 } (gPc D (kty cI cQ) (mw_w cI β τ) [.ref (β 0), .int (nI i)]) (gQi D (mw_al β) ((mo_dead τ i).1) (mw_w cI β ((mo_dead τ i).2))) 0 0 (gA (mw_al β)) := by
  refine Met.ofW (cc := b_M_dead) (maxL := 2) (ret := some .int) (by decide) rfl ?_
  intro p e s m args below meth c s₁ B hml hv
  obtain ⟨rfl, hP, hK, hD⟩ := hv
  have hx := B.exec
  have hb := B.bytes
  have hr := B.returns
  have hts : ∀ w ∈ kT, w.before [.ref (β 0), .int (nI i)].toArray s = true := fun w h => atoms_spec (ws := w_M_dead) B.pre w (List.mem_cons_of_mem _ h)
  have hown : s.vm.findClass R_M = some m.cls := findClass_of_methodNamed B.named
  have hlocks := B.notSynchronized
  have hD : va_D (gA (mw_al β)) (mw_w cI β τ) := gD mw_addr hD
  have hS : va_S (gA (mw_al β)) s.heap s.heap [] := va_S.rf
  have hl := lv_entry ([.ref (β 0), .int (nI i)]) (n := 2) (Nat.le_of_ble_eq_true rfl)
  rw [lg_entry_eq]
  generalize (lg_sl ([.ref (β 0), .int (nI i)]) ++ List.replicate (2 - (lg_sl ([.ref (β 0), .int (nI i)])).length) Slot.unset).toArray = ls at hl ⊢
  have hl : lv_has ls 2 [(0, .ref (β 0)), (1, .int (nI i))] := hl
  refine lv_aload_n hx hb d_M_dead_0 rfl (lv_at hl 0 rfl) ?_
  refine lv_iload_n hx hb d_M_dead_1 rfl (lv_at hl 1 rfl) ?_
  refine r_calli (W.runV (As := [.int (nI i)]) (rest := []) ⟨hx, hb, hml, hown, hts⟩ (ct_M_isDesk l D cI cQ β n τ hI (nI i)) (cwV 1 hts gd_M_68 rfl rfl rfl (by decide +kernel) ⟨Nat.le_of_ble_eq_true rfl, Nat.le_of_ble_eq_true rfl⟩) (g_preV hK hP hD (ci := 2) (q0 := 0) rfl mw_0) rfl rfl hl.1 rfl (lv_room (Nat.le_of_ble_eq_true rfl)) d_M_dead_2 ⟨Nat.le_refl _, Nat.le_refl _⟩) ?_
  refine lv_if_ne (tgt := 14) hx hb d_M_dead_5 (by decide) (fun c_5 => ?_) (fun c_5 => ?_)
  · -- to 14
    refine lv_aload_n hx hb d_M_dead_14 rfl (lv_at hl 0 rfl) ?_
    refine lv_iconst (v := 0) hx hb d_M_dead_15 (by decide) ?_
    refine mw_put hx hb hts hown hK hP hD hS 0 (by unfold mw_is; decide) fl_M_46 rfl rfl rfl d_M_dead_16 (fun H locs hP hD hS => ?_)
    obtain ⟨τ1, e_τ1⟩ : ∃ ζ, ζ = m_f τ 0 0 := ⟨_, rfl⟩
    rw [← e_τ1] at hP hD
    have hI : m_ok n τ1.1 := by rw [e_τ1]; exact (m_ok_f hI (by decide))
    refine lv_aload_n hx hb d_M_dead_19 rfl (lv_at hl 0 rfl) ?_
    refine mw_get hx hb hts hown hK hP 6 (by decide) fl_M_22 (v := .ref (β 6)) rfl d_M_dead_20 ?_
    refine lv_iload_n hx hb d_M_dead_23 rfl (lv_at hl 1 rfl) ?_
    refine mw_ald hx hb hK hP 6 (by unfold mw_as; decide) (j := i) rfl (m8 hI hi) d_M_dead_24 ?_
    refine lv_iconst (v := 1) hx hb d_M_dead_25 (by decide) ?_
    refine lv_icmp_le (tgt := 31) hx hb d_M_dead_26 (by decide) (fun c_26 => ?_) (fun c_26 => ?_)
    · -- to 31
      refine lv_aload_n hx hb d_M_dead_31 rfl (lv_at hl 0 rfl) ?_
      refine mw_get hx hb hts hown hK hP 6 (by decide) fl_M_22 (v := .ref (β 6)) rfl d_M_dead_32 ?_
      refine lv_iload_n hx hb d_M_dead_35 rfl (lv_at hl 1 rfl) ?_
      refine lv_iconst (v := 3) hx hb d_M_dead_36 (by decide) ?_
      refine mw_ast hx hb hK hP hD hS 6 (by unfold mw_as; decide) (j := i) rfl (m8 hI hi) d_M_dead_37 (fun H locs hP hD hS => ?_)
      obtain ⟨τ2, e_τ2⟩ : ∃ ζ, ζ = m_a τ1 6 i 3 := ⟨_, rfl⟩
      rw [← e_τ2] at hP hD
      have hI : m_ok n τ2.1 := by rw [e_τ2]; exact hI
      refine lv_aload_n hx hb d_M_dead_38 rfl (lv_at hl 0 rfl) ?_
      refine mw_get hx hb hts hown hK hP 10 (by decide) fl_M_34 (v := .ref (β 10)) rfl d_M_dead_39 ?_
      refine lv_iload_n hx hb d_M_dead_42 rfl (lv_at hl 1 rfl) ?_
      refine lv_iconst (v := (-1)) hx hb d_M_dead_43 (by decide) ?_
      refine mw_ast hx hb hK hP hD hS 10 (by unfold mw_as; decide) (j := i) rfl (m8 hI hi) d_M_dead_44 (fun H locs hP hD hS => ?_)
      obtain ⟨τ3, e_τ3⟩ : ∃ ζ, ζ = m_a τ2 10 i (-1) := ⟨_, rfl⟩
      rw [← e_τ3] at hP hD
      have hI : m_ok n τ3.1 := by rw [e_τ3]; exact hI
      refine lv_aload_n hx hb d_M_dead_45 rfl (lv_at hl 0 rfl) ?_
      refine lv_iload_n hx hb d_M_dead_46 rfl (lv_at hl 1 rfl) ?_
      refine r_calli (W.runV (As := [.int (nI i)]) (rest := []) ⟨hx, hb, hml, hown, hts⟩ (ct_M_held l D cI cQ β n τ3 hI (nI i)) (cwV 1 hts gd_M_65 rfl rfl rfl (by decide +kernel) ⟨Nat.le_of_ble_eq_true rfl, Nat.le_of_ble_eq_true rfl⟩) (g_preV hK hP hD (ci := 2) (q0 := 0) rfl mw_0) rfl rfl hl.1 rfl (lv_room (Nat.le_of_ble_eq_true rfl)) d_M_dead_47 ⟨Nat.le_refl _, Nat.le_refl _⟩) ?_
      refine r_calli (W.runS (As := [.int (mo_held τ3 (nI i))]) (rest := []) ⟨hx, hb, hml, hown, hts⟩ (ct_M_ones l (mo_held τ3 (nI i))) (cwS 1 hts gd_M_116 rfl rfl rfl (by decide +kernel) ⟨Nat.le_of_ble_eq_true rfl, Nat.le_of_ble_eq_true rfl⟩) preEq rfl rfl hl.1 rfl (lv_room (Nat.le_of_ble_eq_true rfl)) d_M_dead_50 ⟨Nat.le_refl _, Nat.le_refl _⟩) ?_
      exact g_reti hx hb hr hlocks (by rw [mo_dead, if_pos (by rw [← e_τ1]; exact c_26), e_τ3, e_τ2, e_τ1]) (by rw [mo_dead, if_pos (by rw [← e_τ1]; exact c_26), e_τ3, e_τ2, e_τ1]) hP hS d_M_dead_53
    · -- on 29
      refine lv_iconst (v := (-1)) hx hb d_M_dead_29 (by decide) ?_
      exact g_reti hx hb hr hlocks (by rw [mo_dead, if_neg (by rw [← e_τ1]; exact c_26)]) (by rw [mo_dead, if_neg (by rw [← e_τ1]; exact c_26), e_τ1]) hP hS d_M_dead_30
  · -- on 8
    exact absurd c_5 (by rw [mo_isd_nI hI hi]; decide)
