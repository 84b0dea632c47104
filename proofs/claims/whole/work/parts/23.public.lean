set_option maxHeartbeats 4000000 in
set_option maxRecDepth 100000 in
theorem ct_M_desk (l : Launch) (D : va_G) (cI cQ : ClassId) (β : Nat → Nat) (n : Nat) (τ : mS) (hI : m_ok n τ.1) (x y : Int32) : Met l y_M_desk w_M_desk { frames := 1, cells := 0, slots := 0, locals := 22 } (gPc D (kty cI cQ) (mw_w cI β τ) [.ref (β 0), .int x, .int y]) (gQi D (mw_al β) ((mo_desk n τ x y).1) (mw_w cI β ((mo_desk n τ x y).2))) 0 0 (gA (mw_al β)) := by
  refine Met.ofW (cc := b_M_desk) (maxL := 3) (ret := some .int) (by decide) rfl ?_
  intro p e s m args below meth c s₁ B hml hv
  obtain ⟨rfl, hP, hK, hD⟩ := hv
  have hx := B.exec
  have hb := B.bytes
  have hr := B.returns
  have hts : ∀ w ∈ kT, w.before [.ref (β 0), .int x, .int y].toArray s = true := fun w h => atoms_spec (ws := w_M_desk) B.pre w (List.mem_cons_of_mem _ h)
  have hown : s.vm.findClass R_M = some m.cls := findClass_of_methodNamed B.named
  have hlocks := B.notSynchronized
  have hD : va_D (gA (mw_al β)) (mw_w cI β τ) := gD mw_addr hD
  have hS : va_S (gA (mw_al β)) s.heap s.heap [] := va_S.rf
  have hl := lv_entry ([.ref (β 0), .int x, .int y]) (n := 3) (Nat.le_of_ble_eq_true rfl)
  rw [lg_entry_eq]
  generalize (lg_sl ([.ref (β 0), .int x, .int y]) ++ List.replicate (3 - (lg_sl ([.ref (β 0), .int x, .int y])).length) Slot.unset).toArray = ls at hl ⊢
  have hl : lv_has ls 3 [(0, .ref (β 0)), (1, .int x), (2, .int y)] := hl
  have hI0 := hI
  refine lv_iload_n hx hb d_M_desk_0 rfl (lv_at hl 1 rfl) ?_
  refine lv_iconst (v := 1) hx hb d_M_desk_1 (by decide) ?_
  refine lv_bipush (v := 12) hx hb d_M_desk_2 (by decide) ?_
  refine r_calli (W.runS (As := [.int x, .int 1, .int 12]) (rest := []) ⟨hx, hb, hml, hown, hts⟩ (ct_M_in l x 1 12) (cwS 3 hts gd_M_53 rfl rfl rfl (by decide +kernel) ⟨Nat.le_of_ble_eq_true rfl, Nat.le_of_ble_eq_true rfl⟩) preEq rfl rfl hl.1 rfl (lv_room (Nat.le_of_ble_eq_true rfl)) d_M_desk_4 ⟨Nat.le_refl _, Nat.le_refl _⟩) ?_
  refine lv_if_eq (tgt := 26) hx hb d_M_desk_7 (by decide) (fun c_7 => ?_) (fun c_7 => ?_)
  · -- to 26
    refine lv_aload_n hx hb d_M_desk_26 rfl (lv_at hl 0 rfl) ?_
    refine lv_iconst (v := 1) hx hb d_M_desk_27 (by decide) ?_
    refine g_calli (va_runV (As := [.int 1]) (rest := []) ⟨hx, hb, hml, hown, hts⟩ (ct_M_refuse l D cI cQ β n τ hI 1) (cwV 1 hts gd_M_57 rfl rfl rfl (by decide +kernel) ⟨Nat.le_of_ble_eq_true rfl, Nat.le_of_ble_eq_true rfl⟩) (g_preV hK hP hD (ci := 2) (q0 := 0) rfl mw_0) rfl rfl hl.1 rfl (lv_room (Nat.le_of_ble_eq_true rfl)) d_M_desk_28 ⟨Nat.le_refl _, Nat.le_refl _⟩) hD hS (mw_addr.trans mw_addr.symm) (fun H locs hP hD hS => ?_)
    obtain ⟨τ1, e_τ1⟩ : ∃ ζ, ζ = m_f τ 0 1 := ⟨_, rfl⟩
    rw [← e_τ1] at hP hD
    have hI : m_ok n τ1.1 := by rw [e_τ1]; exact (m_ok_f hI (by decide))
    exact g_reti hx hb hr hlocks (by rw [mo_desk, if_pos c_7]) (by rw [mo_desk, if_pos c_7, e_τ1]) hP hS d_M_desk_31
  · -- on 10
    refine lv_iload_n hx hb d_M_desk_10 rfl (lv_at hl 2 rfl) ?_
    refine lv_iconst (v := (-1)) hx hb d_M_desk_11 (by decide) ?_
    refine lv_icmp_eq (tgt := 32) hx hb d_M_desk_12 (by decide) (fun c_12 => ?_) (fun c_12 => ?_)
    · -- to 32
      refine lv_aload_n hx hb d_M_desk_32 rfl (lv_at hl 0 rfl) ?_
      refine mw_get hx hb hts hown hK hP 1 (by decide) fl_M_50 (v := .int (τ.1 1)) rfl d_M_desk_33 ?_
      refine lv_bipush (v := 8) hx hb d_M_desk_36 (by decide) ?_
      refine lv_icmp_eq (tgt := 48) hx hb d_M_desk_38 (by decide) (fun c_38 => ?_) (fun c_38 => ?_)
      · -- to 48
        refine lv_aload_n hx hb d_M_desk_48 rfl (lv_at hl 0 rfl) ?_
        refine lv_iconst (v := 2) hx hb d_M_desk_49 (by decide) ?_
        refine g_calli (va_runV (As := [.int 2]) (rest := []) ⟨hx, hb, hml, hown, hts⟩ (ct_M_refuse l D cI cQ β n τ hI 2) (cwV 1 hts gd_M_57 rfl rfl rfl (by decide +kernel) ⟨Nat.le_of_ble_eq_true rfl, Nat.le_of_ble_eq_true rfl⟩) (g_preV hK hP hD (ci := 2) (q0 := 0) rfl mw_0) rfl rfl hl.1 rfl (lv_room (Nat.le_of_ble_eq_true rfl)) d_M_desk_50 ⟨Nat.le_refl _, Nat.le_refl _⟩) hD hS (mw_addr.trans mw_addr.symm) (fun H locs hP hD hS => ?_)
        obtain ⟨τ2, e_τ2⟩ : ∃ ζ, ζ = m_f τ 0 2 := ⟨_, rfl⟩
        rw [← e_τ2] at hP hD
        have hI : m_ok n τ2.1 := by rw [e_τ2]; exact (m_ok_f hI (by decide))
        exact g_reti hx hb hr hlocks (by rw [mo_desk, if_neg c_7, if_pos c_12, mo_desk2, if_pos c_38]) (by rw [mo_desk, if_neg c_7, if_pos c_12, mo_desk2, if_pos c_38, e_τ2]) hP hS d_M_desk_53
      · -- on 41
        refine lv_aload_n hx hb d_M_desk_41 rfl (lv_at hl 0 rfl) ?_
        refine mw_get hx hb hts hown hK hP 20 (by decide) fl_M_61 (v := .int (τ.1 20)) rfl d_M_desk_42 ?_
        refine lv_if_eq (tgt := 54) hx hb d_M_desk_45 (by decide) (fun c_45 => ?_) (fun c_45 => ?_)
        · -- to 54
          refine lv_aload_n hx hb d_M_desk_54 rfl (lv_at hl 0 rfl) ?_
          refine lv_iconst (v := 0) hx hb d_M_desk_55 (by decide) ?_
          refine mw_put hx hb hts hown hK hP hD hS 0 (by unfold mw_is; decide) fl_M_46 rfl rfl rfl d_M_desk_56 (fun H locs hP hD hS => ?_)
          obtain ⟨τ3, e_τ3⟩ : ∃ ζ, ζ = m_f τ 0 0 := ⟨_, rfl⟩
          rw [← e_τ3] at hP hD
          have hI : m_ok n τ3.1 := by rw [e_τ3]; exact (m_ok_f hI (by decide))
          refine lv_aload_n hx hb d_M_desk_59 rfl (lv_at hl 0 rfl) ?_
          refine mw_get hx hb hts hown hK hP 2 (by decide) fl_M_7 (v := .ref (β 2)) rfl d_M_desk_60 ?_
          refine lv_aload_n hx hb d_M_desk_63 rfl (lv_at hl 0 rfl) ?_
          refine mw_get hx hb hts hown hK hP 1 (by decide) fl_M_50 (v := .int (τ3.1 1)) rfl d_M_desk_64 ?_
          refine lv_iload_n hx hb d_M_desk_67 rfl (lv_at hl 1 rfl) ?_
          refine mw_ast hx hb hK hP hD hS 2 (by unfold mw_as; decide) (j := n) hI.2.1 (m_n8 hI0 c_38) d_M_desk_68 (fun H locs hP hD hS => ?_)
          obtain ⟨τ4, e_τ4⟩ : ∃ ζ, ζ = m_a τ3 2 n x := ⟨_, rfl⟩
          rw [← e_τ4] at hP hD
          have hI : m_ok n τ4.1 := by rw [e_τ4]; exact hI
          refine lv_aload_n hx hb d_M_desk_69 rfl (lv_at hl 0 rfl) ?_
          refine mw_get hx hb hts hown hK hP 3 (by decide) fl_M_13 (v := .ref (β 3)) rfl d_M_desk_70 ?_
          refine lv_aload_n hx hb d_M_desk_73 rfl (lv_at hl 0 rfl) ?_
          refine mw_get hx hb hts hown hK hP 1 (by decide) fl_M_50 (v := .int (τ4.1 1)) rfl d_M_desk_74 ?_
          refine lv_iload_n hx hb d_M_desk_77 rfl (lv_at hl 2 rfl) ?_
          refine mw_ast hx hb hK hP hD hS 3 (by unfold mw_as; decide) (j := n) hI.2.1 (m_n8 hI0 c_38) d_M_desk_78 (fun H locs hP hD hS => ?_)
          obtain ⟨τ5, e_τ5⟩ : ∃ ζ, ζ = m_a τ4 3 n y := ⟨_, rfl⟩
          rw [← e_τ5] at hP hD
          have hI : m_ok n τ5.1 := by rw [e_τ5]; exact hI
          refine lv_aload_n hx hb d_M_desk_79 rfl (lv_at hl 0 rfl) ?_
          refine mw_get hx hb hts hown hK hP 10 (by decide) fl_M_34 (v := .ref (β 10)) rfl d_M_desk_80 ?_
          refine lv_aload_n hx hb d_M_desk_83 rfl (lv_at hl 0 rfl) ?_
          refine mw_get hx hb hts hown hK hP 1 (by decide) fl_M_50 (v := .int (τ5.1 1)) rfl d_M_desk_84 ?_
          refine lv_iconst (v := (-1)) hx hb d_M_desk_87 (by decide) ?_
          refine mw_ast hx hb hK hP hD hS 10 (by unfold mw_as; decide) (j := n) hI.2.1 (m_n8 hI0 c_38) d_M_desk_88 (fun H locs hP hD hS => ?_)
          obtain ⟨τ6, e_τ6⟩ : ∃ ζ, ζ = m_a τ5 10 n (-1) := ⟨_, rfl⟩
          rw [← e_τ6] at hP hD
          have hI : m_ok n τ6.1 := by rw [e_τ6]; exact hI
          refine lv_aload_n hx hb d_M_desk_89 rfl (lv_at hl 0 rfl) ?_
          refine lv_dup hx hb d_M_desk_90 rfl ?_
          refine mw_get hx hb hts hown hK hP 1 (by decide) fl_M_50 (v := .int (τ6.1 1)) rfl d_M_desk_91 ?_
          refine lv_iconst (v := 1) hx hb d_M_desk_94 (by decide) ?_
          refine lv_iadd hx hb d_M_desk_95 ?_
          refine mw_put hx hb hts hown hK hP hD hS 1 (by unfold mw_is; decide) fl_M_50 rfl rfl rfl d_M_desk_96 (fun H locs hP hD hS => ?_)
          obtain ⟨τ7, e_τ7⟩ : ∃ ζ, ζ = m_f τ6 1 ((τ6.1 1) + 1) := ⟨_, rfl⟩
          rw [← e_τ7] at hP hD
          refine lv_aload_n hx hb d_M_desk_99 rfl (lv_at hl 0 rfl) ?_
          refine mw_get hx hb hts hown hK hP 1 (by decide) fl_M_50 (v := .int (τ7.1 1)) rfl d_M_desk_100 ?_
          refine lv_iconst (v := 1) hx hb d_M_desk_103 (by decide) ?_
          refine lv_isub hx hb d_M_desk_104 ?_
          exact g_reti hx hb hr hlocks (by rw [mo_desk, if_neg c_7, if_pos c_12, mo_desk2, if_neg c_38, if_pos c_45, e_τ7, e_τ6, e_τ5, e_τ4, e_τ3]) (by rw [mo_desk, if_neg c_7, if_pos c_12, mo_desk2, if_neg c_38, if_pos c_45, e_τ7, e_τ6, e_τ5, e_τ4, e_τ3]) hP hS d_M_desk_105
        · -- on 48
          refine lv_aload_n hx hb d_M_desk_48 rfl (lv_at hl 0 rfl) ?_
          refine lv_iconst (v := 2) hx hb d_M_desk_49 (by decide) ?_
          refine g_calli (va_runV (As := [.int 2]) (rest := []) ⟨hx, hb, hml, hown, hts⟩ (ct_M_refuse l D cI cQ β n τ hI 2) (cwV 1 hts gd_M_57 rfl rfl rfl (by decide +kernel) ⟨Nat.le_of_ble_eq_true rfl, Nat.le_of_ble_eq_true rfl⟩) (g_preV hK hP hD (ci := 2) (q0 := 0) rfl mw_0) rfl rfl hl.1 rfl (lv_room (Nat.le_of_ble_eq_true rfl)) d_M_desk_50 ⟨Nat.le_refl _, Nat.le_refl _⟩) hD hS (mw_addr.trans mw_addr.symm) (fun H locs hP hD hS => ?_)
          obtain ⟨τ8, e_τ8⟩ : ∃ ζ, ζ = m_f τ 0 2 := ⟨_, rfl⟩
          rw [← e_τ8] at hP hD
          have hI : m_ok n τ8.1 := by rw [e_τ8]; exact (m_ok_f hI (by decide))
          exact g_reti hx hb hr hlocks (by rw [mo_desk, if_neg c_7, if_pos c_12, mo_desk2, if_neg c_38, if_neg c_45]) (by rw [mo_desk, if_neg c_7, if_pos c_12, mo_desk2, if_neg c_38, if_neg c_45, e_τ8]) hP hS d_M_desk_53
    · -- on 15
      refine lv_iload_n hx hb d_M_desk_15 rfl (lv_at hl 2 rfl) ?_
      refine lv_iconst (v := 0) hx hb d_M_desk_16 (by decide) ?_
      refine lv_iload_n hx hb d_M_desk_17 rfl (lv_at hl 1 rfl) ?_
      refine lv_iconst (v := 1) hx hb d_M_desk_18 (by decide) ?_
      refine lv_isub hx hb d_M_desk_19 ?_
      refine r_calli (W.runS (As := [.int y, .int 0, .int (x - 1)]) (rest := []) ⟨hx, hb, hml, hown, hts⟩ (ct_M_in l y 0 (x - 1)) (cwS 3 hts gd_M_53 rfl rfl rfl (by decide +kernel) ⟨Nat.le_of_ble_eq_true rfl, Nat.le_of_ble_eq_true rfl⟩) preEq rfl rfl hl.1 rfl (lv_room (Nat.le_of_ble_eq_true rfl)) d_M_desk_20 ⟨Nat.le_refl _, Nat.le_refl _⟩) ?_
      refine lv_if_ne (tgt := 32) hx hb d_M_desk_23 (by decide) (fun c_23 => ?_) (fun c_23 => ?_)
      · -- to 32
        refine lv_aload_n hx hb d_M_desk_32 rfl (lv_at hl 0 rfl) ?_
        refine mw_get hx hb hts hown hK hP 1 (by decide) fl_M_50 (v := .int (τ.1 1)) rfl d_M_desk_33 ?_
        refine lv_bipush (v := 8) hx hb d_M_desk_36 (by decide) ?_
        refine lv_icmp_eq (tgt := 48) hx hb d_M_desk_38 (by decide) (fun c_38 => ?_) (fun c_38 => ?_)
        · -- to 48
          refine lv_aload_n hx hb d_M_desk_48 rfl (lv_at hl 0 rfl) ?_
          refine lv_iconst (v := 2) hx hb d_M_desk_49 (by decide) ?_
          refine g_calli (va_runV (As := [.int 2]) (rest := []) ⟨hx, hb, hml, hown, hts⟩ (ct_M_refuse l D cI cQ β n τ hI 2) (cwV 1 hts gd_M_57 rfl rfl rfl (by decide +kernel) ⟨Nat.le_of_ble_eq_true rfl, Nat.le_of_ble_eq_true rfl⟩) (g_preV hK hP hD (ci := 2) (q0 := 0) rfl mw_0) rfl rfl hl.1 rfl (lv_room (Nat.le_of_ble_eq_true rfl)) d_M_desk_50 ⟨Nat.le_refl _, Nat.le_refl _⟩) hD hS (mw_addr.trans mw_addr.symm) (fun H locs hP hD hS => ?_)
          obtain ⟨τ9, e_τ9⟩ : ∃ ζ, ζ = m_f τ 0 2 := ⟨_, rfl⟩
          rw [← e_τ9] at hP hD
          have hI : m_ok n τ9.1 := by rw [e_τ9]; exact (m_ok_f hI (by decide))
          exact g_reti hx hb hr hlocks (by rw [mo_desk, if_neg c_7, if_neg c_12, if_neg c_23, mo_desk2, if_pos c_38]) (by rw [mo_desk, if_neg c_7, if_neg c_12, if_neg c_23, mo_desk2, if_pos c_38, e_τ9]) hP hS d_M_desk_53
        · -- on 41
          refine lv_aload_n hx hb d_M_desk_41 rfl (lv_at hl 0 rfl) ?_
          refine mw_get hx hb hts hown hK hP 20 (by decide) fl_M_61 (v := .int (τ.1 20)) rfl d_M_desk_42 ?_
          refine lv_if_eq (tgt := 54) hx hb d_M_desk_45 (by decide) (fun c_45 => ?_) (fun c_45 => ?_)
          · -- to 54
            refine lv_aload_n hx hb d_M_desk_54 rfl (lv_at hl 0 rfl) ?_
            refine lv_iconst (v := 0) hx hb d_M_desk_55 (by decide) ?_
            refine mw_put hx hb hts hown hK hP hD hS 0 (by unfold mw_is; decide) fl_M_46 rfl rfl rfl d_M_desk_56 (fun H locs hP hD hS => ?_)
            obtain ⟨τ10, e_τ10⟩ : ∃ ζ, ζ = m_f τ 0 0 := ⟨_, rfl⟩
            rw [← e_τ10] at hP hD
            have hI : m_ok n τ10.1 := by rw [e_τ10]; exact (m_ok_f hI (by decide))
            refine lv_aload_n hx hb d_M_desk_59 rfl (lv_at hl 0 rfl) ?_
            refine mw_get hx hb hts hown hK hP 2 (by decide) fl_M_7 (v := .ref (β 2)) rfl d_M_desk_60 ?_
            refine lv_aload_n hx hb d_M_desk_63 rfl (lv_at hl 0 rfl) ?_
            refine mw_get hx hb hts hown hK hP 1 (by decide) fl_M_50 (v := .int (τ10.1 1)) rfl d_M_desk_64 ?_
            refine lv_iload_n hx hb d_M_desk_67 rfl (lv_at hl 1 rfl) ?_
            refine mw_ast hx hb hK hP hD hS 2 (by unfold mw_as; decide) (j := n) hI.2.1 (m_n8 hI0 c_38) d_M_desk_68 (fun H locs hP hD hS => ?_)
            obtain ⟨τ11, e_τ11⟩ : ∃ ζ, ζ = m_a τ10 2 n x := ⟨_, rfl⟩
            rw [← e_τ11] at hP hD
            have hI : m_ok n τ11.1 := by rw [e_τ11]; exact hI
            refine lv_aload_n hx hb d_M_desk_69 rfl (lv_at hl 0 rfl) ?_
            refine mw_get hx hb hts hown hK hP 3 (by decide) fl_M_13 (v := .ref (β 3)) rfl d_M_desk_70 ?_
            refine lv_aload_n hx hb d_M_desk_73 rfl (lv_at hl 0 rfl) ?_
            refine mw_get hx hb hts hown hK hP 1 (by decide) fl_M_50 (v := .int (τ11.1 1)) rfl d_M_desk_74 ?_
            refine lv_iload_n hx hb d_M_desk_77 rfl (lv_at hl 2 rfl) ?_
            refine mw_ast hx hb hK hP hD hS 3 (by unfold mw_as; decide) (j := n) hI.2.1 (m_n8 hI0 c_38) d_M_desk_78 (fun H locs hP hD hS => ?_)
            obtain ⟨τ12, e_τ12⟩ : ∃ ζ, ζ = m_a τ11 3 n y := ⟨_, rfl⟩
            rw [← e_τ12] at hP hD
            have hI : m_ok n τ12.1 := by rw [e_τ12]; exact hI
            refine lv_aload_n hx hb d_M_desk_79 rfl (lv_at hl 0 rfl) ?_
            refine mw_get hx hb hts hown hK hP 10 (by decide) fl_M_34 (v := .ref (β 10)) rfl d_M_desk_80 ?_
            refine lv_aload_n hx hb d_M_desk_83 rfl (lv_at hl 0 rfl) ?_
            refine mw_get hx hb hts hown hK hP 1 (by decide) fl_M_50 (v := .int (τ12.1 1)) rfl d_M_desk_84 ?_
            refine lv_iconst (v := (-1)) hx hb d_M_desk_87 (by decide) ?_
            refine mw_ast hx hb hK hP hD hS 10 (by unfold mw_as; decide) (j := n) hI.2.1 (m_n8 hI0 c_38) d_M_desk_88 (fun H locs hP hD hS => ?_)
            obtain ⟨τ13, e_τ13⟩ : ∃ ζ, ζ = m_a τ12 10 n (-1) := ⟨_, rfl⟩
            rw [← e_τ13] at hP hD
            have hI : m_ok n τ13.1 := by rw [e_τ13]; exact hI
            refine lv_aload_n hx hb d_M_desk_89 rfl (lv_at hl 0 rfl) ?_
            refine lv_dup hx hb d_M_desk_90 rfl ?_
            refine mw_get hx hb hts hown hK hP 1 (by decide) fl_M_50 (v := .int (τ13.1 1)) rfl d_M_desk_91 ?_
            refine lv_iconst (v := 1) hx hb d_M_desk_94 (by decide) ?_
            refine lv_iadd hx hb d_M_desk_95 ?_
            refine mw_put hx hb hts hown hK hP hD hS 1 (by unfold mw_is; decide) fl_M_50 rfl rfl rfl d_M_desk_96 (fun H locs hP hD hS => ?_)
            obtain ⟨τ14, e_τ14⟩ : ∃ ζ, ζ = m_f τ13 1 ((τ13.1 1) + 1) := ⟨_, rfl⟩
            rw [← e_τ14] at hP hD
            refine lv_aload_n hx hb d_M_desk_99 rfl (lv_at hl 0 rfl) ?_
            refine mw_get hx hb hts hown hK hP 1 (by decide) fl_M_50 (v := .int (τ14.1 1)) rfl d_M_desk_100 ?_
            refine lv_iconst (v := 1) hx hb d_M_desk_103 (by decide) ?_
            refine lv_isub hx hb d_M_desk_104 ?_
            exact g_reti hx hb hr hlocks (by rw [mo_desk, if_neg c_7, if_neg c_12, if_neg c_23, mo_desk2, if_neg c_38, if_pos c_45, e_τ14, e_τ13, e_τ12, e_τ11, e_τ10]) (by rw [mo_desk, if_neg c_7, if_neg c_12, if_neg c_23, mo_desk2, if_neg c_38, if_pos c_45, e_τ14, e_τ13, e_τ12, e_τ11, e_τ10]) hP hS d_M_desk_105
          · -- on 48
            refine lv_aload_n hx hb d_M_desk_48 rfl (lv_at hl 0 rfl) ?_
            refine lv_iconst (v := 2) hx hb d_M_desk_49 (by decide) ?_
            refine g_calli (va_runV (As := [.int 2]) (rest := []) ⟨hx, hb, hml, hown, hts⟩ (ct_M_refuse l D cI cQ β n τ hI 2) (cwV 1 hts gd_M_57 rfl rfl rfl (by decide +kernel) ⟨Nat.le_of_ble_eq_true rfl, Nat.le_of_ble_eq_true rfl⟩) (g_preV hK hP hD (ci := 2) (q0 := 0) rfl mw_0) rfl rfl hl.1 rfl (lv_room (Nat.le_of_ble_eq_true rfl)) d_M_desk_50 ⟨Nat.le_refl _, Nat.le_refl _⟩) hD hS (mw_addr.trans mw_addr.symm) (fun H locs hP hD hS => ?_)
            obtain ⟨τ15, e_τ15⟩ : ∃ ζ, ζ = m_f τ 0 2 := ⟨_, rfl⟩
            rw [← e_τ15] at hP hD
            have hI : m_ok n τ15.1 := by rw [e_τ15]; exact (m_ok_f hI (by decide))
            exact g_reti hx hb hr hlocks (by rw [mo_desk, if_neg c_7, if_neg c_12, if_neg c_23, mo_desk2, if_neg c_38, if_neg c_45]) (by rw [mo_desk, if_neg c_7, if_neg c_12, if_neg c_23, mo_desk2, if_neg c_38, if_neg c_45, e_τ15]) hP hS d_M_desk_53
      · -- on 26
        refine lv_aload_n hx hb d_M_desk_26 rfl (lv_at hl 0 rfl) ?_
        refine lv_iconst (v := 1) hx hb d_M_desk_27 (by decide) ?_
        refine g_calli (va_runV (As := [.int 1]) (rest := []) ⟨hx, hb, hml, hown, hts⟩ (ct_M_refuse l D cI cQ β n τ hI 1) (cwV 1 hts gd_M_57 rfl rfl rfl (by decide +kernel) ⟨Nat.le_of_ble_eq_true rfl, Nat.le_of_ble_eq_true rfl⟩) (g_preV hK hP hD (ci := 2) (q0 := 0) rfl mw_0) rfl rfl hl.1 rfl (lv_room (Nat.le_of_ble_eq_true rfl)) d_M_desk_28 ⟨Nat.le_refl _, Nat.le_refl _⟩) hD hS (mw_addr.trans mw_addr.symm) (fun H locs hP hD hS => ?_)
        obtain ⟨τ16, e_τ16⟩ : ∃ ζ, ζ = m_f τ 0 1 := ⟨_, rfl⟩
        rw [← e_τ16] at hP hD
        have hI : m_ok n τ16.1 := by rw [e_τ16]; exact (m_ok_f hI (by decide))
        exact g_reti hx hb hr hlocks (by rw [mo_desk, if_neg c_7, if_neg c_12, if_pos c_23]) (by rw [mo_desk, if_neg c_7, if_neg c_12, if_pos c_23, e_τ16]) hP hS d_M_desk_31

set_option maxHeartbeats 4000000 in
set_option maxRecDepth 100000 in
theorem ct_M_turn (l : Launch) (D : va_G) (cI cQ : ClassId) (β : Nat → Nat) (n : Nat) (τ : mS) (hI : m_ok n τ.1) (x : Int32) : Met l y_M_turn w_M_turn { frames := 1, cells := 0, slots := 0, locals := 21 } (gPc D (kty cI cQ) (mw_w cI β τ) [.ref (β 0), .int x]) (gQi D (mw_al β) ((mo_turn τ x).1) (mw_w cI β ((mo_turn τ x).2))) 0 0 (gA (mw_al β)) := by
  refine Met.ofW (cc := b_M_turn) (maxL := 2) (ret := some .int) (by decide) rfl ?_
  intro p e s m args below meth c s₁ B hml hv
  obtain ⟨rfl, hP, hK, hD⟩ := hv
  have hx := B.exec
  have hb := B.bytes
  have hr := B.returns
  have hts : ∀ w ∈ kT, w.before [.ref (β 0), .int x].toArray s = true := fun w h => atoms_spec (ws := w_M_turn) B.pre w (List.mem_cons_of_mem _ h)
  have hown : s.vm.findClass R_M = some m.cls := findClass_of_methodNamed B.named
  have hlocks := B.notSynchronized
  have hD : va_D (gA (mw_al β)) (mw_w cI β τ) := gD mw_addr hD
  have hS : va_S (gA (mw_al β)) s.heap s.heap [] := va_S.rf
  have hl := lv_entry ([.ref (β 0), .int x]) (n := 2) (Nat.le_of_ble_eq_true rfl)
  rw [lg_entry_eq]
  generalize (lg_sl ([.ref (β 0), .int x]) ++ List.replicate (2 - (lg_sl ([.ref (β 0), .int x])).length) Slot.unset).toArray = ls at hl ⊢
  have hl : lv_has ls 2 [(0, .ref (β 0)), (1, .int x)] := hl
  have hI0 := hI
  refine lv_aload_n hx hb d_M_turn_0 rfl (lv_at hl 0 rfl) ?_
  refine lv_iload_n hx hb d_M_turn_1 rfl (lv_at hl 1 rfl) ?_
  refine r_calli (W.runV (As := [.int x]) (rest := []) ⟨hx, hb, hml, hown, hts⟩ (ct_M_isDesk l D cI cQ β n τ hI x) (cwV 1 hts gd_M_68 rfl rfl rfl (by decide +kernel) ⟨Nat.le_of_ble_eq_true rfl, Nat.le_of_ble_eq_true rfl⟩) (g_preV hK hP hD (ci := 2) (q0 := 0) rfl mw_0) rfl rfl hl.1 rfl (lv_room (Nat.le_of_ble_eq_true rfl)) d_M_turn_2 ⟨Nat.le_refl _, Nat.le_refl _⟩) ?_
  refine lv_if_ne (tgt := 14) hx hb d_M_turn_5 (by decide) (fun c_5 => ?_) (fun c_5 => ?_)
  · -- to 14
    refine lv_aload_n hx hb d_M_turn_14 rfl (lv_at hl 0 rfl) ?_
    refine mw_get hx hb hts hown hK hP 14 (by decide) fl_M_104 (v := .int (τ.1 14)) rfl d_M_turn_15 ?_
    refine lv_sipush (v := 300) hx hb d_M_turn_18 (by decide) ?_
    refine lv_icmp_eq (tgt := 31) hx hb d_M_turn_21 (by decide) (fun c_21 => ?_) (fun c_21 => ?_)
    · -- to 31
      refine lv_aload_n hx hb d_M_turn_31 rfl (lv_at hl 0 rfl) ?_
      refine lv_iconst (v := 2) hx hb d_M_turn_32 (by decide) ?_
      refine g_calli (va_runV (As := [.int 2]) (rest := []) ⟨hx, hb, hml, hown, hts⟩ (ct_M_refuse l D cI cQ β n τ hI 2) (cwV 1 hts gd_M_57 rfl rfl rfl (by decide +kernel) ⟨Nat.le_of_ble_eq_true rfl, Nat.le_of_ble_eq_true rfl⟩) (g_preV hK hP hD (ci := 2) (q0 := 0) rfl mw_0) rfl rfl hl.1 rfl (lv_room (Nat.le_of_ble_eq_true rfl)) d_M_turn_33 ⟨Nat.le_refl _, Nat.le_refl _⟩) hD hS (mw_addr.trans mw_addr.symm) (fun H locs hP hD hS => ?_)
      obtain ⟨τ1, e_τ1⟩ : ∃ ζ, ζ = m_f τ 0 2 := ⟨_, rfl⟩
      rw [← e_τ1] at hP hD
      have hI : m_ok n τ1.1 := by rw [e_τ1]; exact (m_ok_f hI (by decide))
      exact g_reti hx hb hr hlocks (by rw [mo_turn, if_neg c_5, if_pos c_21]) (by rw [mo_turn, if_neg c_5, if_pos c_21, e_τ1]) hP hS d_M_turn_36
    · -- on 24
      refine lv_aload_n hx hb d_M_turn_24 rfl (lv_at hl 0 rfl) ?_
      refine mw_get hx hb hts hown hK hP 20 (by decide) fl_M_61 (v := .int (τ.1 20)) rfl d_M_turn_25 ?_
      refine lv_if_eq (tgt := 37) hx hb d_M_turn_28 (by decide) (fun c_28 => ?_) (fun c_28 => ?_)
      · -- to 37
        refine lv_aload_n hx hb d_M_turn_37 rfl (lv_at hl 0 rfl) ?_
        refine lv_iconst (v := 0) hx hb d_M_turn_38 (by decide) ?_
        refine mw_put hx hb hts hown hK hP hD hS 0 (by unfold mw_is; decide) fl_M_46 rfl rfl rfl d_M_turn_39 (fun H locs hP hD hS => ?_)
        obtain ⟨τ2, e_τ2⟩ : ∃ ζ, ζ = m_f τ 0 0 := ⟨_, rfl⟩
        rw [← e_τ2] at hP hD
        have hI : m_ok n τ2.1 := by rw [e_τ2]; exact (m_ok_f hI (by decide))
        refine lv_aload_n hx hb d_M_turn_42 rfl (lv_at hl 0 rfl) ?_
        refine mw_get hx hb hts hown hK hP 13 (by decide) fl_M_40 (v := .ref (β 13)) rfl d_M_turn_43 ?_
        refine lv_aload_n hx hb d_M_turn_46 rfl (lv_at hl 0 rfl) ?_
        refine mw_get hx hb hts hown hK hP 14 (by decide) fl_M_104 (v := .int (τ2.1 14)) rfl d_M_turn_47 ?_
        refine lv_iload_n hx hb d_M_turn_50 rfl (lv_at hl 1 rfl) ?_
        refine mw_ast hx hb hK hP hD hS 13 (by unfold mw_as; decide) (j := (τ2.1 14).toNatClampNeg) (ix_e (m_ok_t0 hI)) (by rw [e_τ2]; exact m_ok_t3 hI0 c_21) d_M_turn_51 (fun H locs hP hD hS => ?_)
        obtain ⟨τ3, e_τ3⟩ : ∃ ζ, ζ = m_a τ2 13 ((τ2.1 14).toNatClampNeg) x := ⟨_, rfl⟩
        rw [← e_τ3] at hP hD
        have hI : m_ok n τ3.1 := by rw [e_τ3]; exact hI
        refine lv_aload_n hx hb d_M_turn_52 rfl (lv_at hl 0 rfl) ?_
        refine lv_dup hx hb d_M_turn_53 rfl ?_
        refine mw_get hx hb hts hown hK hP 14 (by decide) fl_M_104 (v := .int (τ3.1 14)) rfl d_M_turn_54 ?_
        refine lv_iconst (v := 1) hx hb d_M_turn_57 (by decide) ?_
        refine lv_iadd hx hb d_M_turn_58 ?_
        refine mw_put hx hb hts hown hK hP hD hS 14 (by unfold mw_is; decide) fl_M_104 rfl rfl rfl d_M_turn_59 (fun H locs hP hD hS => ?_)
        obtain ⟨τ4, e_τ4⟩ : ∃ ζ, ζ = m_f τ3 14 ((τ3.1 14) + 1) := ⟨_, rfl⟩
        rw [← e_τ4] at hP hD
        refine lv_aload_n hx hb d_M_turn_62 rfl (lv_at hl 0 rfl) ?_
        refine mw_get hx hb hts hown hK hP 14 (by decide) fl_M_104 (v := .int (τ4.1 14)) rfl d_M_turn_63 ?_
        refine lv_aload_n hx hb d_M_turn_66 rfl (lv_at hl 0 rfl) ?_
        refine mw_get hx hb hts hown hK hP 15 (by decide) fl_M_107 (v := .int (τ4.1 15)) rfl d_M_turn_67 ?_
        refine lv_isub hx hb d_M_turn_70 ?_
        exact g_reti hx hb hr hlocks (by rw [mo_turn, if_neg c_5, if_neg c_21, if_pos c_28, e_τ4, e_τ3, e_τ2]) (by rw [mo_turn, if_neg c_5, if_neg c_21, if_pos c_28, e_τ4, e_τ3, e_τ2]) hP hS d_M_turn_71
      · -- on 31
        refine lv_aload_n hx hb d_M_turn_31 rfl (lv_at hl 0 rfl) ?_
        refine lv_iconst (v := 2) hx hb d_M_turn_32 (by decide) ?_
        refine g_calli (va_runV (As := [.int 2]) (rest := []) ⟨hx, hb, hml, hown, hts⟩ (ct_M_refuse l D cI cQ β n τ hI 2) (cwV 1 hts gd_M_57 rfl rfl rfl (by decide +kernel) ⟨Nat.le_of_ble_eq_true rfl, Nat.le_of_ble_eq_true rfl⟩) (g_preV hK hP hD (ci := 2) (q0 := 0) rfl mw_0) rfl rfl hl.1 rfl (lv_room (Nat.le_of_ble_eq_true rfl)) d_M_turn_33 ⟨Nat.le_refl _, Nat.le_refl _⟩) hD hS (mw_addr.trans mw_addr.symm) (fun H locs hP hD hS => ?_)
        obtain ⟨τ5, e_τ5⟩ : ∃ ζ, ζ = m_f τ 0 2 := ⟨_, rfl⟩
        rw [← e_τ5] at hP hD
        have hI : m_ok n τ5.1 := by rw [e_τ5]; exact (m_ok_f hI (by decide))
        exact g_reti hx hb hr hlocks (by rw [mo_turn, if_neg c_5, if_neg c_21, if_neg c_28]) (by rw [mo_turn, if_neg c_5, if_neg c_21, if_neg c_28, e_τ5]) hP hS d_M_turn_36
  · -- on 8
    refine lv_aload_n hx hb d_M_turn_8 rfl (lv_at hl 0 rfl) ?_
    refine lv_iconst (v := 1) hx hb d_M_turn_9 (by decide) ?_
    refine g_calli (va_runV (As := [.int 1]) (rest := []) ⟨hx, hb, hml, hown, hts⟩ (ct_M_refuse l D cI cQ β n τ hI 1) (cwV 1 hts gd_M_57 rfl rfl rfl (by decide +kernel) ⟨Nat.le_of_ble_eq_true rfl, Nat.le_of_ble_eq_true rfl⟩) (g_preV hK hP hD (ci := 2) (q0 := 0) rfl mw_0) rfl rfl hl.1 rfl (lv_room (Nat.le_of_ble_eq_true rfl)) d_M_turn_10 ⟨Nat.le_refl _, Nat.le_refl _⟩) hD hS (mw_addr.trans mw_addr.symm) (fun H locs hP hD hS => ?_)
    obtain ⟨τ6, e_τ6⟩ : ∃ ζ, ζ = m_f τ 0 1 := ⟨_, rfl⟩
    rw [← e_τ6] at hP hD
    have hI : m_ok n τ6.1 := by rw [e_τ6]; exact (m_ok_f hI (by decide))
    exact g_reti hx hb hr hlocks (by rw [mo_turn, if_pos c_5]) (by rw [mo_turn, if_pos c_5, e_τ6]) hP hS d_M_turn_13

set_option maxHeartbeats 4000000 in
set_option maxRecDepth 100000 in
theorem ct_M_log (l : Launch) (D : va_G) (cI cQ : ClassId) (β : Nat → Nat) (n : Nat) (τ : mS) (hI : m_ok n τ.1) (x : Int32) : Met l y_M_log w_M_log { frames := 0, cells := 0, slots := 0, locals := 0 } (gPc D (kty cI cQ) (mw_w cI β τ) [.ref (β 0), .int x]) (gQi D (mw_al β) (mo_log (m_f τ 0 0) x) (mw_w cI β (m_f τ 0 0))) 0 0 (gA (mw_al β)) := by
  refine Met.ofW (cc := b_M_log) (maxL := 2) (ret := some .int) (by decide) rfl ?_
  intro p e s m args below meth c s₁ B hml hv
  obtain ⟨rfl, hP, hK, hD⟩ := hv
  have hx := B.exec
  have hb := B.bytes
  have hr := B.returns
  have hts : ∀ w ∈ kT, w.before [.ref (β 0), .int x].toArray s = true := fun w h => atoms_spec (ws := w_M_log) B.pre w (List.mem_cons_of_mem _ h)
  have hown : s.vm.findClass R_M = some m.cls := findClass_of_methodNamed B.named
  have hlocks := B.notSynchronized
  have hD : va_D (gA (mw_al β)) (mw_w cI β τ) := gD mw_addr hD
  have hS : va_S (gA (mw_al β)) s.heap s.heap [] := va_S.rf
  have hl := lv_entry ([.ref (β 0), .int x]) (n := 2) (Nat.le_of_ble_eq_true rfl)
  rw [lg_entry_eq]
  generalize (lg_sl ([.ref (β 0), .int x]) ++ List.replicate (2 - (lg_sl ([.ref (β 0), .int x])).length) Slot.unset).toArray = ls at hl ⊢
  have hl : lv_has ls 2 [(0, .ref (β 0)), (1, .int x)] := hl
  have hI0 := hI
  refine lv_aload_n hx hb d_M_log_0 rfl (lv_at hl 0 rfl) ?_
  refine lv_iconst (v := 0) hx hb d_M_log_1 (by decide) ?_
  refine mw_put hx hb hts hown hK hP hD hS 0 (by unfold mw_is; decide) fl_M_46 rfl rfl rfl d_M_log_2 (fun H locs hP hD hS => ?_)
  obtain ⟨τ1, e_τ1⟩ : ∃ ζ, ζ = m_f τ 0 0 := ⟨_, rfl⟩
  rw [← e_τ1] at hP hD
  have hI : m_ok n τ1.1 := by rw [e_τ1]; exact (m_ok_f hI (by decide))
  refine lv_iload_n hx hb d_M_log_5 rfl (lv_at hl 1 rfl) ?_
  refine lv_if_lt (tgt := 26) hx hb d_M_log_6 (by decide) (fun c_6 => ?_) (fun c_6 => ?_)
  · -- to 26
    refine lv_iconst (v := (-1)) hx hb d_M_log_26 (by decide) ?_
    exact g_reti hx hb hr hlocks (by rw [mo_log, ← e_τ1, if_pos c_6]) (by rw [e_τ1]) hP hS d_M_log_27
  · -- on 9
    refine lv_iload_n hx hb d_M_log_9 rfl (lv_at hl 1 rfl) ?_
    refine lv_aload_n hx hb d_M_log_10 rfl (lv_at hl 0 rfl) ?_
    refine mw_get hx hb hts hown hK hP 17 (by decide) fl_M_78 (v := .int (τ1.1 17)) rfl d_M_log_11 ?_
    refine lv_icmp_ge (tgt := 26) hx hb d_M_log_14 (by decide) (fun c_14 => ?_) (fun c_14 => ?_)
    · -- to 26
      refine lv_iconst (v := (-1)) hx hb d_M_log_26 (by decide) ?_
      exact g_reti hx hb hr hlocks (by rw [mo_log, ← e_τ1, if_neg c_6, if_pos c_14]) (by rw [e_τ1]) hP hS d_M_log_27
    · -- on 17
      refine lv_aload_n hx hb d_M_log_17 rfl (lv_at hl 0 rfl) ?_
      refine mw_get hx hb hts hown hK hP 18 (by decide) fl_M_43 (v := .ref (β 18)) rfl d_M_log_18 ?_
      refine lv_iload_n hx hb d_M_log_21 rfl (lv_at hl 1 rfl) ?_
      refine mw_ald hx hb hK hP 18 (by unfold mw_as; decide) (j := x.toNatClampNeg) (ix_e c_6) (m_ok_log hI c_6 c_14) d_M_log_22 ?_
      refine lv_goto (tgt := 27) hx hb d_M_log_23 (by decide) ?_
      exact g_reti hx hb hr hlocks (by rw [mo_log, ← e_τ1, if_neg c_6, if_neg c_14]) (by rw [e_τ1]) hP hS d_M_log_27

set_option maxHeartbeats 4000000 in
set_option maxRecDepth 100000 in
theorem ct_M_holder (l : Launch) (D : va_G) (cI cQ : ClassId) (β : Nat → Nat) (n : Nat) (τ : mS) (hI : m_ok n τ.1) (z : Nat) (hz : z < 16) : Met l y_M_holder w_M_holder { frames := 1, cells := 0, slots := 0, locals := 20 } (gPc D (kty cI cQ) (mw_w cI β τ) [.ref (β 0), .int (nI z)]) (gQi D (mw_al β) (τ.2 8 z) (mw_w cI β (m_f τ 0 0))) 0 0 (gA (mw_al β)) := by
  refine Met.ofW (cc := b_M_holder) (maxL := 2) (ret := some .int) (by decide) rfl ?_
  intro p e s m args below meth c s₁ B hml hv
  obtain ⟨rfl, hP, hK, hD⟩ := hv
  have hx := B.exec
  have hb := B.bytes
  have hr := B.returns
  have hts : ∀ w ∈ kT, w.before [.ref (β 0), .int (nI z)].toArray s = true := fun w h => atoms_spec (ws := w_M_holder) B.pre w (List.mem_cons_of_mem _ h)
  have hown : s.vm.findClass R_M = some m.cls := findClass_of_methodNamed B.named
  have hlocks := B.notSynchronized
  have hD : va_D (gA (mw_al β)) (mw_w cI β τ) := gD mw_addr hD
  have hS : va_S (gA (mw_al β)) s.heap s.heap [] := va_S.rf
  have hl := lv_entry ([.ref (β 0), .int (nI z)]) (n := 2) (Nat.le_of_ble_eq_true rfl)
  rw [lg_entry_eq]
  generalize (lg_sl ([.ref (β 0), .int (nI z)]) ++ List.replicate (2 - (lg_sl ([.ref (β 0), .int (nI z)])).length) Slot.unset).toArray = ls at hl ⊢
  have hl : lv_has ls 2 [(0, .ref (β 0)), (1, .int (nI z))] := hl
  refine lv_aload_n hx hb d_M_holder_0 rfl (lv_at hl 0 rfl) ?_
  refine lv_iload_n hx hb d_M_holder_1 rfl (lv_at hl 1 rfl) ?_
  refine r_calli (W.runS (As := [.int (nI z)]) (rest := [.ref (β 0)]) ⟨hx, hb, hml, hown, hts⟩ (ct_M_isSubject l (nI z)) (cwS 1 hts gd_M_72 rfl rfl rfl (by decide +kernel) ⟨Nat.le_of_ble_eq_true rfl, Nat.le_of_ble_eq_true rfl⟩) preEq rfl rfl hl.1 rfl (lv_room (Nat.le_of_ble_eq_true rfl)) d_M_holder_2 ⟨Nat.le_refl _, Nat.le_refl _⟩) ?_
  refine lv_if_eq (tgt := 12) hx hb d_M_holder_5 (by decide) (fun c_5 => ?_) (fun c_5 => ?_)
  · -- to 12
    exact absurd c_5 (by rw [kd_sub_nI hz]; decide)
  · -- on 8
    refine lv_iconst (v := 0) hx hb d_M_holder_8 (by decide) ?_
    refine lv_goto (tgt := 13) hx hb d_M_holder_9 (by decide) ?_
    refine mw_put hx hb hts hown hK hP hD hS 0 (by unfold mw_is; decide) fl_M_46 rfl rfl rfl d_M_holder_13 (fun H locs hP hD hS => ?_)
    obtain ⟨τ1, e_τ1⟩ : ∃ ζ, ζ = m_f τ 0 0 := ⟨_, rfl⟩
    rw [← e_τ1] at hP hD
    have hI : m_ok n τ1.1 := by rw [e_τ1]; exact (m_ok_f hI (by decide))
    refine lv_aload_n hx hb d_M_holder_16 rfl (lv_at hl 0 rfl) ?_
    refine mw_get hx hb hts hown hK hP 0 (by decide) fl_M_46 (v := .int (τ1.1 0)) rfl d_M_holder_17 ?_
    refine lv_if_le (tgt := 27) hx hb d_M_holder_20 (by decide) (fun c_20 => ?_) (fun c_20 => ?_)
    · -- to 27
      refine lv_aload_n hx hb d_M_holder_27 rfl (lv_at hl 0 rfl) ?_
      refine mw_get hx hb hts hown hK hP 8 (by decide) fl_M_28 (v := .ref (β 8)) rfl d_M_holder_28 ?_
      refine lv_iload_n hx hb d_M_holder_31 rfl (lv_at hl 1 rfl) ?_
      refine mw_ald hx hb hK hP 8 (by unfold mw_as; decide) (j := z) rfl hz d_M_holder_32 ?_
      exact g_reti hx hb hr hlocks (by rw [e_τ1]; rfl) (by rw [e_τ1]) hP hS d_M_holder_33
    · -- on 23
      exact absurd (by rw [e_τ1]; exact (by decide : (0 : Int32) ≤ 0)) c_20

set_option maxHeartbeats 4000000 in
set_option maxRecDepth 100000 in
theorem ct_M_holderN (l : Launch) (D : va_G) (cI cQ : ClassId) (β : Nat → Nat) (n : Nat) (τ : mS) (hI : m_ok n τ.1) (x : Int32) (hx0 : kd_sub x = 0) : Met l y_M_holder w_M_holder { frames := 1, cells := 0, slots := 0, locals := 20 } (gPc D (kty cI cQ) (mw_w cI β τ) [.ref (β 0), .int x]) (gQi D (mw_al β) (0) (mw_w cI β (m_f τ 0 1))) 0 0 (gA (mw_al β)) := by
  refine Met.ofW (cc := b_M_holder) (maxL := 2) (ret := some .int) (by decide) rfl ?_
  intro p e s m args below meth c s₁ B hml hv
  obtain ⟨rfl, hP, hK, hD⟩ := hv
  have hx := B.exec
  have hb := B.bytes
  have hr := B.returns
  have hts : ∀ w ∈ kT, w.before [.ref (β 0), .int x].toArray s = true := fun w h => atoms_spec (ws := w_M_holder) B.pre w (List.mem_cons_of_mem _ h)
  have hown : s.vm.findClass R_M = some m.cls := findClass_of_methodNamed B.named
  have hlocks := B.notSynchronized
  have hD : va_D (gA (mw_al β)) (mw_w cI β τ) := gD mw_addr hD
  have hS : va_S (gA (mw_al β)) s.heap s.heap [] := va_S.rf
  have hl := lv_entry ([.ref (β 0), .int x]) (n := 2) (Nat.le_of_ble_eq_true rfl)
  rw [lg_entry_eq]
  generalize (lg_sl ([.ref (β 0), .int x]) ++ List.replicate (2 - (lg_sl ([.ref (β 0), .int x])).length) Slot.unset).toArray = ls at hl ⊢
  have hl : lv_has ls 2 [(0, .ref (β 0)), (1, .int x)] := hl
  refine lv_aload_n hx hb d_M_holder_0 rfl (lv_at hl 0 rfl) ?_
  refine lv_iload_n hx hb d_M_holder_1 rfl (lv_at hl 1 rfl) ?_
  refine r_calli (W.runS (As := [.int x]) (rest := [.ref (β 0)]) ⟨hx, hb, hml, hown, hts⟩ (ct_M_isSubject l x) (cwS 1 hts gd_M_72 rfl rfl rfl (by decide +kernel) ⟨Nat.le_of_ble_eq_true rfl, Nat.le_of_ble_eq_true rfl⟩) preEq rfl rfl hl.1 rfl (lv_room (Nat.le_of_ble_eq_true rfl)) d_M_holder_2 ⟨Nat.le_refl _, Nat.le_refl _⟩) ?_
  refine lv_if_eq (tgt := 12) hx hb d_M_holder_5 (by decide) (fun c_5 => ?_) (fun c_5 => ?_)
  · -- to 12
    refine lv_iconst (v := 1) hx hb d_M_holder_12 (by decide) ?_
    refine mw_put hx hb hts hown hK hP hD hS 0 (by unfold mw_is; decide) fl_M_46 rfl rfl rfl d_M_holder_13 (fun H locs hP hD hS => ?_)
    obtain ⟨τ1, e_τ1⟩ : ∃ ζ, ζ = m_f τ 0 1 := ⟨_, rfl⟩
    rw [← e_τ1] at hP hD
    have hI : m_ok n τ1.1 := by rw [e_τ1]; exact (m_ok_f hI (by decide))
    refine lv_aload_n hx hb d_M_holder_16 rfl (lv_at hl 0 rfl) ?_
    refine mw_get hx hb hts hown hK hP 0 (by decide) fl_M_46 (v := .int (τ1.1 0)) rfl d_M_holder_17 ?_
    refine lv_if_le (tgt := 27) hx hb d_M_holder_20 (by decide) (fun c_20 => ?_) (fun c_20 => ?_)
    · -- to 27
      exact absurd c_20 (by rw [e_τ1]; exact (by decide : ¬ (1 : Int32) ≤ 0))
    · -- on 23
      refine lv_iconst (v := 0) hx hb d_M_holder_23 (by decide) ?_
      refine lv_goto (tgt := 33) hx hb d_M_holder_24 (by decide) ?_
      exact g_reti hx hb hr hlocks rfl (by rw [e_τ1]) hP hS d_M_holder_33
  · -- on 8
    exact absurd hx0 c_5

set_option maxHeartbeats 4000000 in
set_option maxRecDepth 100000 in
theorem ct_M_waitsN (l : Launch) (D : va_G) (cI cQ : ClassId) (β : Nat → Nat) (n : Nat) (τ : mS) (hI : m_ok n τ.1) (x y : Int32) (hx0 : kd_sub x = 0) : Met l y_M_waits w_M_waits { frames := 1, cells := 0, slots := 0, locals := 20 } (gPc D (kty cI cQ) (mw_w cI β τ) [.ref (β 0), .int x, .int y]) (gQi D (mw_al β) (0) (mw_w cI β (m_f τ 0 1))) 0 0 (gA (mw_al β)) := by
  refine Met.ofW (cc := b_M_waits) (maxL := 6) (ret := some .int) (by decide) rfl ?_
  intro p e s m args below meth c s₁ B hml hv
  obtain ⟨rfl, hP, hK, hD⟩ := hv
  have hx := B.exec
  have hb := B.bytes
  have hr := B.returns
  have hts : ∀ w ∈ kT, w.before [.ref (β 0), .int x, .int y].toArray s = true := fun w h => atoms_spec (ws := w_M_waits) B.pre w (List.mem_cons_of_mem _ h)
  have hown : s.vm.findClass R_M = some m.cls := findClass_of_methodNamed B.named
  have hlocks := B.notSynchronized
  have hD : va_D (gA (mw_al β)) (mw_w cI β τ) := gD mw_addr hD
  have hS : va_S (gA (mw_al β)) s.heap s.heap [] := va_S.rf
  have hl := lv_entry ([.ref (β 0), .int x, .int y]) (n := 6) (Nat.le_of_ble_eq_true rfl)
  rw [lg_entry_eq]
  generalize (lg_sl ([.ref (β 0), .int x, .int y]) ++ List.replicate (6 - (lg_sl ([.ref (β 0), .int x, .int y])).length) Slot.unset).toArray = ls at hl ⊢
  have hl : lv_has ls 6 [(0, .ref (β 0)), (1, .int x), (2, .int y)] := hl
  refine lv_aload_n hx hb d_M_waits_0 rfl (lv_at hl 0 rfl) ?_
  refine lv_iload_n hx hb d_M_waits_1 rfl (lv_at hl 1 rfl) ?_
  refine r_calli (W.runS (As := [.int x]) (rest := [.ref (β 0)]) ⟨hx, hb, hml, hown, hts⟩ (ct_M_isSubject l x) (cwS 1 hts gd_M_72 rfl rfl rfl (by decide +kernel) ⟨Nat.le_of_ble_eq_true rfl, Nat.le_of_ble_eq_true rfl⟩) preEq rfl rfl hl.1 rfl (lv_room (Nat.le_of_ble_eq_true rfl)) d_M_waits_2 ⟨Nat.le_refl _, Nat.le_refl _⟩) ?_
  refine lv_if_eq (tgt := 12) hx hb d_M_waits_5 (by decide) (fun c_5 => ?_) (fun c_5 => ?_)
  · -- to 12
    refine lv_iconst (v := 1) hx hb d_M_waits_12 (by decide) ?_
    refine mw_put hx hb hts hown hK hP hD hS 0 (by unfold mw_is; decide) fl_M_46 rfl rfl rfl d_M_waits_13 (fun H locs hP hD hS => ?_)
    obtain ⟨τ1, e_τ1⟩ : ∃ ζ, ζ = m_f τ 0 1 := ⟨_, rfl⟩
    rw [← e_τ1] at hP hD
    have hI : m_ok n τ1.1 := by rw [e_τ1]; exact (m_ok_f hI (by decide))
    refine lv_aload_n hx hb d_M_waits_16 rfl (lv_at hl 0 rfl) ?_
    refine mw_get hx hb hts hown hK hP 0 (by decide) fl_M_46 (v := .int (τ1.1 0)) rfl d_M_waits_17 ?_
    refine lv_if_le (tgt := 25) hx hb d_M_waits_20 (by decide) (fun c_20 => ?_) (fun c_20 => ?_)
    · -- to 25
      exact absurd c_20 (by rw [e_τ1]; exact (by decide : ¬ (1 : Int32) ≤ 0))
    · -- on 23
      refine lv_iconst (v := 0) hx hb d_M_waits_23 (by decide) ?_
      exact g_reti hx hb hr hlocks rfl (by rw [e_τ1]) hP hS d_M_waits_24
  · -- on 8
    exact absurd hx0 c_5

set_option maxHeartbeats 4000000 in
set_option maxRecDepth 100000 in
theorem ct_M_waits (l : Launch) (D : va_G) (cI cQ : ClassId) (β : Nat → Nat) (n : Nat) (τ : mS) (hI : m_ok n τ.1) (z : Nat) (hz : z < 16) (y : Int32) : Met l y_M_waits w_M_waits { frames := 1, cells := 0, slots := 0, locals := 20 } (gPc D (kty cI cQ) (mw_w cI β τ) [.ref (β 0), .int (nI z), .int y]) (gQi D (mw_al β) (mo_wt τ n z y) (mw_w cI β (m_f τ 0 0))) 0 0 (gA (mw_al β)) := by
  refine Met.ofW (cc := b_M_waits) (maxL := 6) (ret := some .int) (by decide) rfl ?_
  intro p e s m args below meth c s₁ B hml hv
  obtain ⟨rfl, hP, hK, hD⟩ := hv
  have hx := B.exec
  have hb := B.bytes
  have hr := B.returns
  have hts : ∀ w ∈ kT, w.before [.ref (β 0), .int (nI z), .int y].toArray s = true := fun w h => atoms_spec (ws := w_M_waits) B.pre w (List.mem_cons_of_mem _ h)
  have hown : s.vm.findClass R_M = some m.cls := findClass_of_methodNamed B.named
  have hlocks := B.notSynchronized
  have hD : va_D (gA (mw_al β)) (mw_w cI β τ) := gD mw_addr hD
  have hS : va_S (gA (mw_al β)) s.heap s.heap [] := va_S.rf
  have hl := lv_entry ([.ref (β 0), .int (nI z), .int y]) (n := 6) (Nat.le_of_ble_eq_true rfl)
  rw [lg_entry_eq]
  generalize (lg_sl ([.ref (β 0), .int (nI z), .int y]) ++ List.replicate (6 - (lg_sl ([.ref (β 0), .int (nI z), .int y])).length) Slot.unset).toArray = ls at hl ⊢
  have hl : lv_has ls 6 [(0, .ref (β 0)), (1, .int (nI z)), (2, .int y)] := hl
  refine lv_aload_n hx hb d_M_waits_0 rfl (lv_at hl 0 rfl) ?_
  refine lv_iload_n hx hb d_M_waits_1 rfl (lv_at hl 1 rfl) ?_
  refine r_calli (W.runS (As := [.int (nI z)]) (rest := [.ref (β 0)]) ⟨hx, hb, hml, hown, hts⟩ (ct_M_isSubject l (nI z)) (cwS 1 hts gd_M_72 rfl rfl rfl (by decide +kernel) ⟨Nat.le_of_ble_eq_true rfl, Nat.le_of_ble_eq_true rfl⟩) preEq rfl rfl hl.1 rfl (lv_room (Nat.le_of_ble_eq_true rfl)) d_M_waits_2 ⟨Nat.le_refl _, Nat.le_refl _⟩) ?_
  refine lv_if_eq (tgt := 12) hx hb d_M_waits_5 (by decide) (fun c_5 => ?_) (fun c_5 => ?_)
  · -- to 12
    exact absurd c_5 (by rw [kd_sub_nI hz]; decide)
  · -- on 8
    refine lv_iconst (v := 0) hx hb d_M_waits_8 (by decide) ?_
    refine lv_goto (tgt := 13) hx hb d_M_waits_9 (by decide) ?_
    refine mw_put hx hb hts hown hK hP hD hS 0 (by unfold mw_is; decide) fl_M_46 rfl rfl rfl d_M_waits_13 (fun H locs hP hD hS => ?_)
    obtain ⟨τ1, e_τ1⟩ : ∃ ζ, ζ = m_f τ 0 0 := ⟨_, rfl⟩
    rw [← e_τ1] at hP hD
    have hI : m_ok n τ1.1 := by rw [e_τ1]; exact (m_ok_f hI (by decide))
    refine lv_aload_n hx hb d_M_waits_16 rfl (lv_at hl 0 rfl) ?_
    refine mw_get hx hb hts hown hK hP 0 (by decide) fl_M_46 (v := .int (τ1.1 0)) rfl d_M_waits_17 ?_
    refine lv_if_le (tgt := 25) hx hb d_M_waits_20 (by decide) (fun c_20 => ?_) (fun c_20 => ?_)
    · -- to 25
      refine lv_iconst (v := 0) hx hb d_M_waits_25 (by decide) ?_
      refine lv_istore_n (lv' := [(3, .int 0), (0, .ref (β 0)), (1, .int (nI z)), (2, .int y)]) hx hb d_M_waits_26 rfl hl (by decide) rfl (fun ls hl => ?_)
      have lp27 : ∀ (fu j : Nat) (ls : Array Slot), j ≤ n → n - j < fu → mo_wtp τ1 n (nI z) y j = none → lv_has ls 6 [(3, .int (nI j)), (0, .ref (β 0)), (1, .int (nI z)), (2, .int y)] → W p l e (headSpec w_M_waits { frames := 1, cells := 0, slots := 0, locals := 20 }).room s m [.ref (β 0), .int (nI z), .int y].toArray below meth c H locs 0 0 (MQ below (gQi D (mw_al β) (mo_wt τ n z y) (mw_w cI β (m_f τ 0 0))) [.ref (β 0), .int (nI z), .int y].toArray s 0 0 (gA (mw_al β))) (F0 m 27 ls []) := by
        intro fu
        induction fu with
        | zero => intro j ls h1 h2; omega
        | succ fu ih =>
          intro j ls hj27 hf27 e_wt hl
          refine lv_iload_n hx hb d_M_waits_27 rfl (lv_at hl 0 rfl) ?_
          refine lv_aload_n hx hb d_M_waits_28 rfl (lv_at hl 1 rfl) ?_
          refine mw_get hx hb hts hown hK hP 1 (by decide) fl_M_50 (v := .int (τ1.1 1)) rfl d_M_waits_29 ?_
          refine lv_icmp_ge (tgt := 117) hx hb d_M_waits_32 (by decide) (fun c_32 => ?_) (fun c_32 => ?_)
          · -- to 117
            have hx27 : j = n := mp_eqI hI c_32 hj27
            rw [hx27] at e_wt
            refine lv_iconst (v := (-1)) hx hb d_M_waits_117 (by decide) ?_
            exact g_reti hx hb hr hlocks (mo_wt_n (by rw [← e_τ1]; exact e_wt)) (by rw [e_τ1]) hP hS d_M_waits_118
          · -- on 35
            have hl27 : j < n := mp_ltI hI c_32 hj27
            refine lv_iconst (v := 0) hx hb d_M_waits_35 (by decide) ?_
            refine lv_istore (lv' := [(4, .int 0), (3, .int (nI j)), (0, .ref (β 0)), (1, .int (nI z)), (2, .int y)]) hx hb d_M_waits_36 hl (by decide) rfl (fun ls hl => ?_)
            refine lv_iconst (v := 0) hx hb d_M_waits_38 (by decide) ?_
            refine lv_istore (lv' := [(5, .int 0), (4, .int 0), (3, .int (nI j)), (0, .ref (β 0)), (1, .int (nI z)), (2, .int y)]) hx hb d_M_waits_39 hl (by decide) rfl (fun ls hl => ?_)
            have lp41 : ∀ (gu k : Nat) (ac : Int32) (ls : Array Slot), k ≤ n → n - k < gu → ac = mo_ahp τ1 (nI z) j k → lv_has ls 6 [(5, .int (nI k)), (4, .int ac), (3, .int (nI j)), (0, .ref (β 0)), (1, .int (nI z)), (2, .int y)] → W p l e (headSpec w_M_waits { frames := 1, cells := 0, slots := 0, locals := 20 }).room s m [.ref (β 0), .int (nI z), .int y].toArray below meth c H locs 0 0 (MQ below (gQi D (mw_al β) (mo_wt τ n z y) (mw_w cI β (m_f τ 0 0))) [.ref (β 0), .int (nI z), .int y].toArray s 0 0 (gA (mw_al β))) (F0 m 41 ls []) := by
              intro gu
              induction gu with
              | zero => intro k ac ls h1 h2; omega
              | succ gu ih2 =>
                intro k ac ls hj41 hf41 e_ac hl
                refine lv_iload hx hb d_M_waits_41 (lv_at hl 0 rfl) ?_
                refine lv_aload_n hx hb d_M_waits_43 rfl (lv_at hl 3 rfl) ?_
                refine mw_get hx hb hts hown hK hP 1 (by decide) fl_M_50 (v := .int (τ1.1 1)) rfl d_M_waits_44 ?_
                refine lv_icmp_ge (tgt := 93) hx hb d_M_waits_47 (by decide) (fun c_47 => ?_) (fun c_47 => ?_)
                · -- to 93
                  have hx41 : k = n := mp_eqI hI c_47 hj41
                  rw [hx41] at e_ac
                  refine lv_aload_n hx hb d_M_waits_93 rfl (lv_at hl 3 rfl) ?_
                  refine mw_get hx hb hts hown hK hP 10 (by decide) fl_M_34 (v := .ref (β 10)) rfl d_M_waits_94 ?_
                  refine lv_iload_n hx hb d_M_waits_97 rfl (lv_at hl 2 rfl) ?_
                  refine mw_ald hx hb hK hP 10 (by unfold mw_as; decide) (j := j) rfl (m8 hI hl27) d_M_waits_98 ?_
                  refine lv_iload_n hx hb d_M_waits_99 rfl (lv_at hl 4 rfl) ?_
                  refine lv_icmp_ne (tgt := 111) hx hb d_M_waits_100 (by decide) (fun c_100 => ?_) (fun c_100 => ?_)
                  · -- to 111
                    refine lv_iinc (v := nI (j + 1)) (lv' := [(3, .int (nI (j + 1))), (5, .int (nI k)), (4, .int ac), (0, .ref (β 0)), (1, .int (nI z)), (2, .int y)]) hx hb d_M_waits_111 hl (k := 2) rfl (nI_1 j) (by decide) rfl (fun ls hl => ?_)
                    refine lv_goto (tgt := 27) hx hb d_M_waits_114 (by decide) ?_
                    exact ih (j + 1) ls (by omega) (by omega) (by rw [mo_wtp, e_wt, ← e_ac]; simp [c_100]) (lv_sub hl [0, 3, 4, 5] rfl)
                  · -- on 103
                    refine lv_iload hx hb d_M_waits_103 (lv_at hl 1 rfl) ?_
                    refine lv_iload_n hx hb d_M_waits_105 rfl (lv_at hl 5 rfl) ?_
                    refine lv_icmp_ne (tgt := 111) hx hb d_M_waits_106 (by decide) (fun c_106 => ?_) (fun c_106 => ?_)
                    · -- to 111
                      refine lv_iinc (v := nI (j + 1)) (lv' := [(3, .int (nI (j + 1))), (5, .int (nI k)), (4, .int ac), (0, .ref (β 0)), (1, .int (nI z)), (2, .int y)]) hx hb d_M_waits_111 hl (k := 2) rfl (nI_1 j) (by decide) rfl (fun ls hl => ?_)
                      refine lv_goto (tgt := 27) hx hb d_M_waits_114 (by decide) ?_
                      exact ih (j + 1) ls (by omega) (by omega) (by rw [mo_wtp, e_wt, ← e_ac]; simp [c_100, c_106]) (lv_sub hl [0, 3, 4, 5] rfl)
                    · -- on 109
                      refine lv_iload_n hx hb d_M_waits_109 rfl (lv_at hl 2 rfl) ?_
                      exact g_reti hx hb hr hlocks (mo_wt_s (by rw [← e_τ1]; exact mo_wtp_up (m := j + 1) (by rw [mo_wtp, e_wt, ← e_ac]; simp [c_100, c_106]) (show j + 1 ≤ n by omega))) (by rw [e_τ1]) hP hS d_M_waits_110
                · -- on 50
                  have hl41 : k < n := mp_ltI hI c_47 hj41
                  refine lv_iload hx hb d_M_waits_50 (lv_at hl 1 rfl) ?_
                  refine lv_aload_n hx hb d_M_waits_52 rfl (lv_at hl 3 rfl) ?_
                  refine mw_get hx hb hts hown hK hP 10 (by decide) fl_M_34 (v := .ref (β 10)) rfl d_M_waits_53 ?_
                  refine lv_iload hx hb d_M_waits_56 (lv_at hl 0 rfl) ?_
                  refine mw_ald hx hb hK hP 10 (by unfold mw_as; decide) (j := k) rfl (m8 hI hl41) d_M_waits_58 ?_
                  refine lv_iload_n hx hb d_M_waits_59 rfl (lv_at hl 4 rfl) ?_
                  refine lv_icmp_ne (tgt := 83) hx hb d_M_waits_60 (by decide) (fun c_60 => ?_) (fun c_60 => ?_)
                  · -- to 83
                    refine lv_iconst (v := 0) hx hb d_M_waits_83 (by decide) ?_
                    refine lv_iadd hx hb d_M_waits_84 ?_
                    refine lv_istore (lv' := [(4, .int (ac + 0)), (5, .int (nI k)), (3, .int (nI j)), (0, .ref (β 0)), (1, .int (nI z)), (2, .int y)]) hx hb d_M_waits_85 hl (by decide) rfl (fun ls hl => ?_)
                    refine lv_iinc (v := nI (k + 1)) (lv' := [(5, .int (nI (k + 1))), (4, .int (ac + 0)), (3, .int (nI j)), (0, .ref (β 0)), (1, .int (nI z)), (2, .int y)]) hx hb d_M_waits_87 hl (k := 1) rfl (nI_1 k) (by decide) rfl (fun ls hl => ?_)
                    refine lv_goto (tgt := 41) hx hb d_M_waits_90 (by decide) ?_
                    exact ih2 (k + 1) (ac + 0) ls (by omega) (by omega) (by rw [mo_ahp, ← e_ac]; simp [c_60]) (lv_sub hl [0, 1, 2, 3, 4, 5] rfl)
                  · -- on 63
                    refine lv_aload_n hx hb d_M_waits_63 rfl (lv_at hl 3 rfl) ?_
                    refine mw_get hx hb hts hown hK hP 11 (by decide) fl_M_37 (v := .ref (β 11)) rfl d_M_waits_64 ?_
                    refine lv_iload hx hb d_M_waits_67 (lv_at hl 0 rfl) ?_
                    refine mw_ald hx hb hK hP 11 (by unfold mw_as; decide) (j := k) rfl (m8 hI hl41) d_M_waits_69 ?_
                    refine lv_aload_n hx hb d_M_waits_70 rfl (lv_at hl 3 rfl) ?_
                    refine mw_get hx hb hts hown hK hP 11 (by decide) fl_M_37 (v := .ref (β 11)) rfl d_M_waits_71 ?_
                    refine lv_iload_n hx hb d_M_waits_74 rfl (lv_at hl 2 rfl) ?_
                    refine mw_ald hx hb hK hP 11 (by unfold mw_as; decide) (j := j) rfl (m8 hI hl27) d_M_waits_75 ?_
                    refine lv_icmp_ge (tgt := 83) hx hb d_M_waits_76 (by decide) (fun c_76 => ?_) (fun c_76 => ?_)
                    · -- to 83
                      refine lv_iconst (v := 0) hx hb d_M_waits_83 (by decide) ?_
                      refine lv_iadd hx hb d_M_waits_84 ?_
                      refine lv_istore (lv' := [(4, .int (ac + 0)), (5, .int (nI k)), (3, .int (nI j)), (0, .ref (β 0)), (1, .int (nI z)), (2, .int y)]) hx hb d_M_waits_85 hl (by decide) rfl (fun ls hl => ?_)
                      refine lv_iinc (v := nI (k + 1)) (lv' := [(5, .int (nI (k + 1))), (4, .int (ac + 0)), (3, .int (nI j)), (0, .ref (β 0)), (1, .int (nI z)), (2, .int y)]) hx hb d_M_waits_87 hl (k := 1) rfl (nI_1 k) (by decide) rfl (fun ls hl => ?_)
                      refine lv_goto (tgt := 41) hx hb d_M_waits_90 (by decide) ?_
                      exact ih2 (k + 1) (ac + 0) ls (by omega) (by omega) (by rw [mo_ahp, ← e_ac]; simp [c_60, c_76]) (lv_sub hl [0, 1, 2, 3, 4, 5] rfl)
                    · -- on 79
                      refine lv_iconst (v := 1) hx hb d_M_waits_79 (by decide) ?_
                      refine lv_goto (tgt := 84) hx hb d_M_waits_80 (by decide) ?_
                      refine lv_iadd hx hb d_M_waits_84 ?_
                      refine lv_istore (lv' := [(4, .int (ac + 1)), (5, .int (nI k)), (3, .int (nI j)), (0, .ref (β 0)), (1, .int (nI z)), (2, .int y)]) hx hb d_M_waits_85 hl (by decide) rfl (fun ls hl => ?_)
                      refine lv_iinc (v := nI (k + 1)) (lv' := [(5, .int (nI (k + 1))), (4, .int (ac + 1)), (3, .int (nI j)), (0, .ref (β 0)), (1, .int (nI z)), (2, .int y)]) hx hb d_M_waits_87 hl (k := 1) rfl (nI_1 k) (by decide) rfl (fun ls hl => ?_)
                      refine lv_goto (tgt := 41) hx hb d_M_waits_90 (by decide) ?_
                      exact ih2 (k + 1) (ac + 1) ls (by omega) (by omega) (by rw [mo_ahp, ← e_ac]; simp [c_60, c_76]) (lv_sub hl [0, 1, 2, 3, 4, 5] rfl)
            exact lp41 (n + 1) 0 _ ls (by omega) (by omega) rfl (lv_sub hl [0, 1, 2, 3, 4, 5] rfl)
      exact lp27 (n + 1) 0 ls (by omega) (by omega) rfl (lv_sub hl [0, 1, 2, 3] rfl)
    · -- on 23
      exact absurd (by rw [e_τ1]; exact (by decide : (0 : Int32) ≤ 0)) c_20
