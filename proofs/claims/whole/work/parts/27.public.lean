set_option maxHeartbeats 4000000 in
set_option maxRecDepth 100000 in
theorem ct_M_needsN (l : Launch) (D : va_G) (cI cQ : ClassId) (β : Nat → Nat) (n : Nat) (τ : mS) (hI : m_ok n τ.1) (x y z : Int32) (hx0 : mo_isd (m_f τ 0 0) x = 0) : Met l y_M_needs w_M_needs { frames := 2, cells := 0, slots := 0, locals := 44 } (gPc D (kty cI cQ) (mw_w cI β τ) [.ref (β 0), .int x, .int y, .int z]) (gQi D (mw_al β) (0) (mw_w cI β (m_f τ 0 0))) 0 0 (gA (mw_al β)) := by
  refine Met.ofW (cc := b_M_needs) (maxL := 5) (ret := some .boolean) (by decide) rfl ?_
  intro p e s m args below meth c s₁ B hml hv
  obtain ⟨rfl, hP, hK, hD⟩ := hv
  have hx := B.exec
  have hb := B.bytes
  have hr := B.returns
  have hts : ∀ w ∈ kT, w.before [.ref (β 0), .int x, .int y, .int z].toArray s = true := fun w h => atoms_spec (ws := w_M_needs) B.pre w (List.mem_cons_of_mem _ h)
  have hown : s.vm.findClass R_M = some m.cls := findClass_of_methodNamed B.named
  have hlocks := B.notSynchronized
  have hD : va_D (gA (mw_al β)) (mw_w cI β τ) := gD mw_addr hD
  have hS : va_S (gA (mw_al β)) s.heap s.heap [] := va_S.rf
  have hl := lv_entry ([.ref (β 0), .int x, .int y, .int z]) (n := 5) (Nat.le_of_ble_eq_true rfl)
  rw [lg_entry_eq]
  generalize (lg_sl ([.ref (β 0), .int x, .int y, .int z]) ++ List.replicate (5 - (lg_sl ([.ref (β 0), .int x, .int y, .int z])).length) Slot.unset).toArray = ls at hl ⊢
  have hl : lv_has ls 5 [(0, .ref (β 0)), (1, .int x), (2, .int y), (3, .int z)] := hl
  refine lv_aload_n hx hb d_M_needs_0 rfl (lv_at hl 0 rfl) ?_
  refine lv_iconst (v := 0) hx hb d_M_needs_1 (by decide) ?_
  refine mw_put hx hb hts hown hK hP hD hS 0 (by unfold mw_is; decide) fl_M_46 rfl rfl rfl d_M_needs_2 (fun H locs hP hD hS => ?_)
  obtain ⟨τ1, e_τ1⟩ : ∃ ζ, ζ = m_f τ 0 0 := ⟨_, rfl⟩
  rw [← e_τ1] at hP hD
  have hI : m_ok n τ1.1 := by rw [e_τ1]; exact (m_ok_f hI (by decide))
  refine lv_aload_n hx hb d_M_needs_5 rfl (lv_at hl 0 rfl) ?_
  refine lv_iload_n hx hb d_M_needs_6 rfl (lv_at hl 1 rfl) ?_
  refine r_calli (W.runV (As := [.int x]) (rest := []) ⟨hx, hb, hml, hown, hts⟩ (ct_M_isDesk l D cI cQ β n τ1 hI x) (cwV 1 hts gd_M_68 rfl rfl rfl (by decide +kernel) ⟨Nat.le_of_ble_eq_true rfl, Nat.le_of_ble_eq_true rfl⟩) (g_preV hK hP hD (ci := 2) (q0 := 0) rfl mw_0) rfl rfl hl.1 rfl (lv_room (Nat.le_of_ble_eq_true rfl)) d_M_needs_7 ⟨Nat.le_refl _, Nat.le_refl _⟩) ?_
  refine lv_if_eq (tgt := 55) hx hb d_M_needs_10 (by decide) (fun c_10 => ?_) (fun c_10 => ?_)
  · -- to 55
    refine lv_iconst (v := 0) hx hb d_M_needs_55 (by decide) ?_
    exact g_retz hx hb hr hlocks (by decide) rfl (by rw [e_τ1]) hP hS d_M_needs_56
  · -- on 13
    exact absurd (by rw [e_τ1]; exact hx0) c_10

set_option maxHeartbeats 4000000 in
set_option maxRecDepth 100000 in
theorem ct_M_needs (l : Launch) (D : va_G) (cI cQ : ClassId) (β : Nat → Nat) (n : Nat) (τ : mS) (hI : m_ok n τ.1) (i : Nat) (hi : i < n) (y z : Int32) (ha : ∃ b, 1 ≤ b ∧ b ≤ 12 ∧ τ.2 2 i = nI b) : Met l y_M_needs w_M_needs { frames := 2, cells := 0, slots := 0, locals := 44 } (gPc D (kty cI cQ) (mw_w cI β τ) [.ref (β 0), .int (nI i), .int y, .int z]) (gQi D (mw_al β) ((mo_needs n τ i y z).1) (mw_w cI β ((mo_needs n τ i y z).2))) 0 0 (gA (mw_al β)) := by
  refine Met.ofW (cc := b_M_needs) (maxL := 5) (ret := some .boolean) (by decide) rfl ?_
  intro p e s m args below meth c s₁ B hml hv
  obtain ⟨rfl, hP, hK, hD⟩ := hv
  have hx := B.exec
  have hb := B.bytes
  have hr := B.returns
  have hts : ∀ w ∈ kT, w.before [.ref (β 0), .int (nI i), .int y, .int z].toArray s = true := fun w h => atoms_spec (ws := w_M_needs) B.pre w (List.mem_cons_of_mem _ h)
  have hown : s.vm.findClass R_M = some m.cls := findClass_of_methodNamed B.named
  have hlocks := B.notSynchronized
  have hD : va_D (gA (mw_al β)) (mw_w cI β τ) := gD mw_addr hD
  have hS : va_S (gA (mw_al β)) s.heap s.heap [] := va_S.rf
  have hl := lv_entry ([.ref (β 0), .int (nI i), .int y, .int z]) (n := 5) (Nat.le_of_ble_eq_true rfl)
  rw [lg_entry_eq]
  generalize (lg_sl ([.ref (β 0), .int (nI i), .int y, .int z]) ++ List.replicate (5 - (lg_sl ([.ref (β 0), .int (nI i), .int y, .int z])).length) Slot.unset).toArray = ls at hl ⊢
  have hl : lv_has ls 5 [(0, .ref (β 0)), (1, .int (nI i)), (2, .int y), (3, .int z)] := hl
  refine lv_aload_n hx hb d_M_needs_0 rfl (lv_at hl 0 rfl) ?_
  refine lv_iconst (v := 0) hx hb d_M_needs_1 (by decide) ?_
  refine mw_put hx hb hts hown hK hP hD hS 0 (by unfold mw_is; decide) fl_M_46 rfl rfl rfl d_M_needs_2 (fun H locs hP hD hS => ?_)
  obtain ⟨τ1, e_τ1⟩ : ∃ ζ, ζ = m_f τ 0 0 := ⟨_, rfl⟩
  rw [← e_τ1] at hP hD
  have hI : m_ok n τ1.1 := by rw [e_τ1]; exact (m_ok_f hI (by decide))
  refine lv_aload_n hx hb d_M_needs_5 rfl (lv_at hl 0 rfl) ?_
  refine lv_iload_n hx hb d_M_needs_6 rfl (lv_at hl 1 rfl) ?_
  refine r_calli (W.runV (As := [.int (nI i)]) (rest := []) ⟨hx, hb, hml, hown, hts⟩ (ct_M_isDesk l D cI cQ β n τ1 hI (nI i)) (cwV 1 hts gd_M_68 rfl rfl rfl (by decide +kernel) ⟨Nat.le_of_ble_eq_true rfl, Nat.le_of_ble_eq_true rfl⟩) (g_preV hK hP hD (ci := 2) (q0 := 0) rfl mw_0) rfl rfl hl.1 rfl (lv_room (Nat.le_of_ble_eq_true rfl)) d_M_needs_7 ⟨Nat.le_refl _, Nat.le_refl _⟩) ?_
  refine lv_if_eq (tgt := 55) hx hb d_M_needs_10 (by decide) (fun c_10 => ?_) (fun c_10 => ?_)
  · -- to 55
    exact absurd c_10 (by rw [mo_isd_nI hI hi]; decide)
  · -- on 13
    refine lv_iload_n hx hb d_M_needs_13 rfl (lv_at hl 3 rfl) ?_
    refine r_calli (W.runS (As := [.int z]) (rest := []) ⟨hx, hb, hml, hown, hts⟩ (ct_M_isSubject l z) (cwS 1 hts gd_M_72 rfl rfl rfl (by decide +kernel) ⟨Nat.le_of_ble_eq_true rfl, Nat.le_of_ble_eq_true rfl⟩) preEq rfl rfl hl.1 rfl (lv_room (Nat.le_of_ble_eq_true rfl)) d_M_needs_14 ⟨Nat.le_refl _, Nat.le_refl _⟩) ?_
    refine lv_if_eq (tgt := 55) hx hb d_M_needs_17 (by decide) (fun c_17 => ?_) (fun c_17 => ?_)
    · -- to 55
      refine lv_iconst (v := 0) hx hb d_M_needs_55 (by decide) ?_
      exact g_retz hx hb hr hlocks (by decide) (by rw [mo_needs, ← e_τ1, if_pos c_17]) (by rw [mo_needs, ← e_τ1, if_pos c_17]) hP hS d_M_needs_56
    · -- on 20
      refine lv_iload_n hx hb d_M_needs_20 rfl (lv_at hl 2 rfl) ?_
      refine lv_iconst (v := 0) hx hb d_M_needs_21 (by decide) ?_
      refine lv_aload_n hx hb d_M_needs_22 rfl (lv_at hl 0 rfl) ?_
      refine mw_get hx hb hts hown hK hP 2 (by decide) fl_M_7 (v := .ref (β 2)) rfl d_M_needs_23 ?_
      refine lv_aload_n hx hb d_M_needs_26 rfl (lv_at hl 0 rfl) ?_
      refine lv_iload_n hx hb d_M_needs_27 rfl (lv_at hl 1 rfl) ?_
      refine r_calli (W.runV (As := [.int (nI i)]) (rest := [.ref (β 2), .int 0, .int y]) ⟨hx, hb, hml, hown, hts⟩ (ct_M_isDesk l D cI cQ β n τ1 hI (nI i)) (cwV 1 hts gd_M_68 rfl rfl rfl (by decide +kernel) ⟨Nat.le_of_ble_eq_true rfl, Nat.le_of_ble_eq_true rfl⟩) (g_preV hK hP hD (ci := 2) (q0 := 0) rfl mw_0) rfl rfl hl.1 rfl (lv_room (Nat.le_of_ble_eq_true rfl)) d_M_needs_28 ⟨Nat.le_refl _, Nat.le_refl _⟩) ?_
      refine lv_if_eq (tgt := 38) hx hb d_M_needs_31 (by decide) (fun c_31 => ?_) (fun c_31 => ?_)
      · -- to 38
        exact absurd c_31 (by rw [mo_isd_nI hI hi]; decide)
      · -- on 34
        refine lv_iload_n hx hb d_M_needs_34 rfl (lv_at hl 1 rfl) ?_
        refine lv_goto (tgt := 39) hx hb d_M_needs_35 (by decide) ?_
        refine mw_ald hx hb hK hP 2 (by unfold mw_as; decide) (j := i) rfl (m8 hI hi) d_M_needs_39 ?_
        refine lv_iconst (v := 1) hx hb d_M_needs_40 (by decide) ?_
        refine lv_isub hx hb d_M_needs_41 ?_
        refine r_calli (W.runS (As := [.int y, .int 0, .int ((τ1.2 2 i) - 1)]) (rest := []) ⟨hx, hb, hml, hown, hts⟩ (ct_M_in l y 0 ((τ1.2 2 i) - 1)) (cwS 3 hts gd_M_53 rfl rfl rfl (by decide +kernel) ⟨Nat.le_of_ble_eq_true rfl, Nat.le_of_ble_eq_true rfl⟩) preEq rfl rfl hl.1 rfl (lv_room (Nat.le_of_ble_eq_true rfl)) d_M_needs_42 ⟨Nat.le_refl _, Nat.le_refl _⟩) ?_
        refine lv_if_eq (tgt := 55) hx hb d_M_needs_45 (by decide) (fun c_45 => ?_) (fun c_45 => ?_)
        · -- to 55
          refine lv_iconst (v := 0) hx hb d_M_needs_55 (by decide) ?_
          exact g_retz hx hb hr hlocks (by decide) (by rw [mo_needs, ← e_τ1, if_neg c_17, if_pos c_45]) (by rw [mo_needs, ← e_τ1, if_neg c_17, if_pos c_45]) hP hS d_M_needs_56
        · -- on 48
          refine lv_aload_n hx hb d_M_needs_48 rfl (lv_at hl 0 rfl) ?_
          refine mw_get hx hb hts hown hK hP 20 (by decide) fl_M_61 (v := .int (τ1.1 20)) rfl d_M_needs_49 ?_
          refine lv_if_eq (tgt := 57) hx hb d_M_needs_52 (by decide) (fun c_52 => ?_) (fun c_52 => ?_)
          · -- to 57
            obtain ⟨b0, hb1, hb2, eb⟩ := ha
            have c45 := c_45
            rw [e_τ1, show (m_f τ 0 0).2 2 i = nI b0 from eb] at c45
            obtain ⟨p0, hp0, ep0⟩ := mo_in_ix (a := 0) c45 hb1 hb2
            refine lv_bipush (v := 12) hx hb d_M_needs_57 (by decide) ?_
            refine lv_iload_n hx hb d_M_needs_59 rfl (lv_at hl 1 rfl) ?_
            refine lv_imul hx hb d_M_needs_60 ?_
            refine lv_iload_n hx hb d_M_needs_61 rfl (lv_at hl 2 rfl) ?_
            refine lv_iadd hx hb d_M_needs_62 ?_
            refine lv_istore (lv' := [(4, .int ((12 * (nI i)) + y)), (0, .ref (β 0)), (1, .int (nI i)), (2, .int y), (3, .int z)]) hx hb d_M_needs_63 hl (by decide) rfl (fun ls hl => ?_)
            refine lv_aload_n hx hb d_M_needs_65 rfl (lv_at hl 1 rfl) ?_
            refine mw_get hx hb hts hown hK hP 7 (by decide) fl_M_25 (v := .ref (β 7)) rfl d_M_needs_66 ?_
            refine lv_iload hx hb d_M_needs_69 (lv_at hl 0 rfl) ?_
            refine mw_ald hx hb hK hP 7 (by unfold mw_as; decide) (j := (12 * nI i + y).toNatClampNeg) (ix_e (m_n96 hI hi hp0 ep0).1) (m_n96 hI hi hp0 ep0).2 d_M_needs_71 ?_
            refine lv_iload_n hx hb d_M_needs_72 rfl (lv_at hl 4 rfl) ?_
            refine lv_ishr hx hb d_M_needs_73 ?_
            refine lv_iconst (v := 1) hx hb d_M_needs_74 (by decide) ?_
            refine lv_iand hx hb d_M_needs_75 ?_
            refine lv_iconst (v := 1) hx hb d_M_needs_76 (by decide) ?_
            refine lv_icmp_eq (tgt := 108) hx hb d_M_needs_77 (by decide) (fun c_77 => ?_) (fun c_77 => ?_)
            · -- to 108
              refine lv_iconst (v := 0) hx hb d_M_needs_108 (by decide) ?_
              exact g_retz hx hb hr hlocks (by decide) (by rw [mo_needs, ← e_τ1, if_neg c_17, if_neg c_45, if_pos c_52, if_pos c_77]) (by rw [mo_needs, ← e_τ1, if_neg c_17, if_neg c_45, if_pos c_52, if_pos c_77]) hP hS d_M_needs_109
            · -- on 80
              refine lv_iload_n hx hb d_M_needs_80 rfl (lv_at hl 3 rfl) ?_
              refine lv_aload_n hx hb d_M_needs_81 rfl (lv_at hl 1 rfl) ?_
              refine mw_get hx hb hts hown hK hP 4 (by decide) fl_M_16 (v := .ref (β 4)) rfl d_M_needs_82 ?_
              refine lv_iload_n hx hb d_M_needs_85 rfl (lv_at hl 2 rfl) ?_
              refine mw_ald hx hb hK hP 4 (by unfold mw_as; decide) (j := i) rfl (m8 hI hi) d_M_needs_86 ?_
              refine lv_icmp_lt (tgt := 108) hx hb d_M_needs_87 (by decide) (fun c_87 => ?_) (fun c_87 => ?_)
              · -- to 108
                refine lv_iconst (v := 0) hx hb d_M_needs_108 (by decide) ?_
                exact g_retz hx hb hr hlocks (by decide) (by rw [mo_needs, ← e_τ1, if_neg c_17, if_neg c_45, if_pos c_52, if_neg c_77, if_pos c_87]) (by rw [mo_needs, ← e_τ1, if_neg c_17, if_neg c_45, if_pos c_52, if_neg c_77, if_pos c_87]) hP hS d_M_needs_109
              · -- on 90
                refine lv_iload_n hx hb d_M_needs_90 rfl (lv_at hl 3 rfl) ?_
                refine lv_aload_n hx hb d_M_needs_91 rfl (lv_at hl 1 rfl) ?_
                refine mw_get hx hb hts hown hK hP 4 (by decide) fl_M_16 (v := .ref (β 4)) rfl d_M_needs_92 ?_
                refine lv_iload_n hx hb d_M_needs_95 rfl (lv_at hl 2 rfl) ?_
                refine mw_ald hx hb hK hP 4 (by unfold mw_as; decide) (j := i) rfl (m8 hI hi) d_M_needs_96 ?_
                refine lv_icmp_ne (tgt := 110) hx hb d_M_needs_97 (by decide) (fun c_97 => ?_) (fun c_97 => ?_)
                · -- to 110
                  refine lv_aload_n hx hb d_M_needs_110 rfl (lv_at hl 1 rfl) ?_
                  refine mw_get hx hb hts hown hK hP 7 (by decide) fl_M_25 (v := .ref (β 7)) rfl d_M_needs_111 ?_
                  refine lv_iload hx hb d_M_needs_114 (lv_at hl 0 rfl) ?_
                  refine lv_dup2_11 hx hb d_M_needs_116 rfl rfl ?_
                  refine mw_ald hx hb hK hP 7 (by unfold mw_as; decide) (j := (12 * nI i + y).toNatClampNeg) (ix_e (m_n96 hI hi hp0 ep0).1) (m_n96 hI hi hp0 ep0).2 d_M_needs_117 ?_
                  refine lv_iconst (v := 1) hx hb d_M_needs_118 (by decide) ?_
                  refine lv_iload_n hx hb d_M_needs_119 rfl (lv_at hl 4 rfl) ?_
                  refine lv_ishl hx hb d_M_needs_120 ?_
                  refine lv_ior hx hb d_M_needs_121 ?_
                  refine mw_ast hx hb hK hP hD hS 7 (by unfold mw_as; decide) (j := (12 * nI i + y).toNatClampNeg) (ix_e (m_n96 hI hi hp0 ep0).1) (m_n96 hI hi hp0 ep0).2 d_M_needs_122 (fun H locs hP hD hS => ?_)
                  obtain ⟨τ2, e_τ2⟩ : ∃ ζ, ζ = m_a τ1 7 ((12 * nI i + y).toNatClampNeg) ((τ1.2 7 ((12 * nI i + y).toNatClampNeg)) ||| (1 <<< (z &&& 31))) := ⟨_, rfl⟩
                  rw [← e_τ2] at hP hD
                  have hI : m_ok n τ2.1 := by rw [e_τ2]; exact hI
                  refine lv_iconst (v := 1) hx hb d_M_needs_123 (by decide) ?_
                  exact g_retz hx hb hr hlocks (by decide) (by rw [mo_needs, ← e_τ1, if_neg c_17, if_neg c_45, if_pos c_52, if_neg c_77, if_neg c_87, if_neg c_97]) (by rw [mo_needs, ← e_τ1, if_neg c_17, if_neg c_45, if_pos c_52, if_neg c_77, if_neg c_87, if_neg c_97, e_τ2]) hP hS d_M_needs_124
                · -- on 100
                  refine lv_aload_n hx hb d_M_needs_100 rfl (lv_at hl 1 rfl) ?_
                  refine lv_iload_n hx hb d_M_needs_101 rfl (lv_at hl 2 rfl) ?_
                  refine r_calli (W.runV (As := [.int (nI i)]) (rest := []) ⟨hx, hb, hml, hown, hts⟩ (ct_M_isMidst l D cI cQ β n τ1 hI i hi) (cwV 1 hts gd_M_75 rfl rfl rfl (by decide +kernel) ⟨Nat.le_of_ble_eq_true rfl, Nat.le_of_ble_eq_true rfl⟩) (g_preV hK hP hD (ci := 2) (q0 := 0) rfl mw_0) rfl rfl hl.1 rfl (lv_room (Nat.le_of_ble_eq_true rfl)) d_M_needs_102 ⟨Nat.le_refl _, Nat.le_refl _⟩) ?_
                  refine lv_if_eq (tgt := 110) hx hb d_M_needs_105 (by decide) (fun c_105 => ?_) (fun c_105 => ?_)
                  · -- to 110
                    refine lv_aload_n hx hb d_M_needs_110 rfl (lv_at hl 1 rfl) ?_
                    refine mw_get hx hb hts hown hK hP 7 (by decide) fl_M_25 (v := .ref (β 7)) rfl d_M_needs_111 ?_
                    refine lv_iload hx hb d_M_needs_114 (lv_at hl 0 rfl) ?_
                    refine lv_dup2_11 hx hb d_M_needs_116 rfl rfl ?_
                    refine mw_ald hx hb hK hP 7 (by unfold mw_as; decide) (j := (12 * nI i + y).toNatClampNeg) (ix_e (m_n96 hI hi hp0 ep0).1) (m_n96 hI hi hp0 ep0).2 d_M_needs_117 ?_
                    refine lv_iconst (v := 1) hx hb d_M_needs_118 (by decide) ?_
                    refine lv_iload_n hx hb d_M_needs_119 rfl (lv_at hl 4 rfl) ?_
                    refine lv_ishl hx hb d_M_needs_120 ?_
                    refine lv_ior hx hb d_M_needs_121 ?_
                    refine mw_ast hx hb hK hP hD hS 7 (by unfold mw_as; decide) (j := (12 * nI i + y).toNatClampNeg) (ix_e (m_n96 hI hi hp0 ep0).1) (m_n96 hI hi hp0 ep0).2 d_M_needs_122 (fun H locs hP hD hS => ?_)
                    obtain ⟨τ3, e_τ3⟩ : ∃ ζ, ζ = m_a τ1 7 ((12 * nI i + y).toNatClampNeg) ((τ1.2 7 ((12 * nI i + y).toNatClampNeg)) ||| (1 <<< (z &&& 31))) := ⟨_, rfl⟩
                    rw [← e_τ3] at hP hD
                    have hI : m_ok n τ3.1 := by rw [e_τ3]; exact hI
                    refine lv_iconst (v := 1) hx hb d_M_needs_123 (by decide) ?_
                    exact g_retz hx hb hr hlocks (by decide) (by rw [mo_needs, ← e_τ1, if_neg c_17, if_neg c_45, if_pos c_52, if_neg c_77, if_neg c_87, if_pos c_97, if_pos c_105]) (by rw [mo_needs, ← e_τ1, if_neg c_17, if_neg c_45, if_pos c_52, if_neg c_77, if_neg c_87, if_pos c_97, if_pos c_105, e_τ3]) hP hS d_M_needs_124
                  · -- on 108
                    refine lv_iconst (v := 0) hx hb d_M_needs_108 (by decide) ?_
                    exact g_retz hx hb hr hlocks (by decide) (by rw [mo_needs, ← e_τ1, if_neg c_17, if_neg c_45, if_pos c_52, if_neg c_77, if_neg c_87, if_pos c_97, if_neg c_105]) (by rw [mo_needs, ← e_τ1, if_neg c_17, if_neg c_45, if_pos c_52, if_neg c_77, if_neg c_87, if_pos c_97, if_neg c_105]) hP hS d_M_needs_109
          · -- on 55
            refine lv_iconst (v := 0) hx hb d_M_needs_55 (by decide) ?_
            exact g_retz hx hb hr hlocks (by decide) (by rw [mo_needs, ← e_τ1, if_neg c_17, if_neg c_45, if_neg c_52]) (by rw [mo_needs, ← e_τ1, if_neg c_17, if_neg c_45, if_neg c_52]) hP hS d_M_needs_56

set_option maxHeartbeats 4000000 in
set_option maxRecDepth 100000 in
theorem ct_M_runN (l : Launch) (D : va_G) (cI cQ : ClassId) (β : Nat → Nat) (n : Nat) (τ : mS) (hI : m_ok n τ.1) (hc0 : ¬ τ.1 20 = 0) : Met l y_M_run w_M_run { frames := 1, cells := 0, slots := 0, locals := 21 } (gPc D (kty cI cQ) (mw_w cI β τ) [.ref (β 0)]) (gQi D (mw_al β) (0) (mw_w cI β (m_f τ 0 1))) 0 0 (gA (mw_al β)) := by
  refine Met.ofW (cc := b_M_run) (maxL := 3) (ret := some .int) (by decide) rfl ?_
  intro p e s m args below meth c s₁ B hml hv
  obtain ⟨rfl, hP, hK, hD⟩ := hv
  have hx := B.exec
  have hb := B.bytes
  have hr := B.returns
  have hts : ∀ w ∈ kT, w.before [.ref (β 0)].toArray s = true := fun w h => atoms_spec (ws := w_M_run) B.pre w (List.mem_cons_of_mem _ h)
  have hown : s.vm.findClass R_M = some m.cls := findClass_of_methodNamed B.named
  have hlocks := B.notSynchronized
  have hD : va_D (gA (mw_al β)) (mw_w cI β τ) := gD mw_addr hD
  have hS : va_S (gA (mw_al β)) s.heap s.heap [] := va_S.rf
  have hl := lv_entry ([.ref (β 0)]) (n := 3) (Nat.le_of_ble_eq_true rfl)
  rw [lg_entry_eq]
  generalize (lg_sl ([.ref (β 0)]) ++ List.replicate (3 - (lg_sl ([.ref (β 0)])).length) Slot.unset).toArray = ls at hl ⊢
  have hl : lv_has ls 3 [(0, .ref (β 0))] := hl
  refine lv_aload_n hx hb d_M_run_0 rfl (lv_at hl 0 rfl) ?_
  refine mw_get hx hb hts hown hK hP 20 (by decide) fl_M_61 (v := .int (τ.1 20)) rfl d_M_run_1 ?_
  refine lv_if_eq (tgt := 13) hx hb d_M_run_4 (by decide) (fun c_4 => ?_) (fun c_4 => ?_)
  · -- to 13
    exact absurd c_4 hc0
  · -- on 7
    refine lv_aload_n hx hb d_M_run_7 rfl (lv_at hl 0 rfl) ?_
    refine lv_iconst (v := 1) hx hb d_M_run_8 (by decide) ?_
    refine g_calli (va_runV (As := [.int 1]) (rest := []) ⟨hx, hb, hml, hown, hts⟩ (ct_M_refuse l D cI cQ β n τ hI 1) (cwV 1 hts gd_M_57 rfl rfl rfl (by decide +kernel) ⟨Nat.le_of_ble_eq_true rfl, Nat.le_of_ble_eq_true rfl⟩) (g_preV hK hP hD (ci := 2) (q0 := 0) rfl mw_0) rfl rfl hl.1 rfl (lv_room (Nat.le_of_ble_eq_true rfl)) d_M_run_9 ⟨Nat.le_refl _, Nat.le_refl _⟩) hD hS (mw_addr.trans mw_addr.symm) (fun H locs hP hD hS => ?_)
    obtain ⟨τ1, e_τ1⟩ : ∃ ζ, ζ = m_f τ 0 1 := ⟨_, rfl⟩
    rw [← e_τ1] at hP hD
    have hI : m_ok n τ1.1 := by rw [e_τ1]; exact (m_ok_f hI (by decide))
    exact g_reti hx hb hr hlocks rfl (by rw [e_τ1]) hP hS d_M_run_12

set_option maxHeartbeats 4000000 in
set_option maxRecDepth 100000 in
theorem ct_M_run (l : Launch) (D : va_G) (cI cQ : ClassId) (β : Nat → Nat) (n : Nat) (τ : mS) (hI : m_ok n τ.1) (hc0 : τ.1 20 = 0) (t r : Nat) (hrt : r ≤ t) (ht : t ≤ 300) (e14 : τ.1 14 = nI t) (e15 : τ.1 15 = nI r) (hst : ∀ k, r + k < t → ∃ i, i < n ∧ (mo_runp n (m_f τ 0 0) k).2.2 13 (r + k) = nI i ∧ ((mo_runp n (m_f τ 0 0) k).2.2 6 i = 0 → so_ok (m_f (mo_runp n (m_f τ 0 0) k).2 15 ((mo_runp n (m_f τ 0 0) k).2.1 15 + 1)) i)) : Met l y_M_run w_M_run { frames := 4, cells := 0, slots := 0, locals := 91 } (gPc D (kty cI cQ) (mw_w cI β τ) [.ref (β 0)]) (gQi D (mw_al β) ((mo_runp n (m_f τ 0 0) (t - r)).1) (mw_w cI β ((mo_runp n (m_f τ 0 0) (t - r)).2))) 0 0 (gA (mw_al β)) := by
  refine Met.ofW (cc := b_M_run) (maxL := 3) (ret := some .int) (by decide) rfl ?_
  intro p e s m args below meth c s₁ B hml hv
  obtain ⟨rfl, hP, hK, hD⟩ := hv
  have hx := B.exec
  have hb := B.bytes
  have hr := B.returns
  have hts : ∀ w ∈ kT, w.before [.ref (β 0)].toArray s = true := fun w h => atoms_spec (ws := w_M_run) B.pre w (List.mem_cons_of_mem _ h)
  have hown : s.vm.findClass R_M = some m.cls := findClass_of_methodNamed B.named
  have hlocks := B.notSynchronized
  have hD : va_D (gA (mw_al β)) (mw_w cI β τ) := gD mw_addr hD
  have hS : va_S (gA (mw_al β)) s.heap s.heap [] := va_S.rf
  have hl := lv_entry ([.ref (β 0)]) (n := 3) (Nat.le_of_ble_eq_true rfl)
  rw [lg_entry_eq]
  generalize (lg_sl ([.ref (β 0)]) ++ List.replicate (3 - (lg_sl ([.ref (β 0)])).length) Slot.unset).toArray = ls at hl ⊢
  have hl : lv_has ls 3 [(0, .ref (β 0))] := hl
  refine lv_aload_n hx hb d_M_run_0 rfl (lv_at hl 0 rfl) ?_
  refine mw_get hx hb hts hown hK hP 20 (by decide) fl_M_61 (v := .int (τ.1 20)) rfl d_M_run_1 ?_
  refine lv_if_eq (tgt := 13) hx hb d_M_run_4 (by decide) (fun c_4 => ?_) (fun c_4 => ?_)
  · -- to 13
    refine lv_aload_n hx hb d_M_run_13 rfl (lv_at hl 0 rfl) ?_
    refine lv_iconst (v := 0) hx hb d_M_run_14 (by decide) ?_
    refine mw_put hx hb hts hown hK hP hD hS 0 (by unfold mw_is; decide) fl_M_46 rfl rfl rfl d_M_run_15 (fun H locs hP hD hS => ?_)
    obtain ⟨τ1, e_τ1⟩ : ∃ ζ, ζ = m_f τ 0 0 := ⟨_, rfl⟩
    rw [← e_τ1] at hP hD
    have hI : m_ok n τ1.1 := by rw [e_τ1]; exact (m_ok_f hI (by decide))
    refine lv_iconst (v := 0) hx hb d_M_run_18 (by decide) ?_
    refine lv_istore_n (lv' := [(1, .int 0), (0, .ref (β 0))]) hx hb d_M_run_19 rfl hl (by decide) rfl (fun ls hl => ?_)
    have lp20 : ∀ (fu k : Nat) (acc : Int32) (ς : mS) (H : Heap) (locs : List Loc) (ls : Array Slot), r + k ≤ t → t - (r + k) < fu → acc = (mo_runp n τ1 k).1 → ς = (mo_runp n τ1 k).2 → va_P D kcl (mw_w cI β ς) H → va_D (gA (mw_al β)) (mw_w cI β ς) → va_S (gA (mw_al β)) s.heap H locs → lv_has ls 3 [(1, .int acc), (0, .ref (β 0))] → W p l e (headSpec w_M_run { frames := 4, cells := 0, slots := 0, locals := 91 }).room s m [.ref (β 0)].toArray below meth c H locs 0 0 (MQ below (gQi D (mw_al β) ((mo_runp n (m_f τ 0 0) (t - r)).1) (mw_w cI β ((mo_runp n (m_f τ 0 0) (t - r)).2))) [.ref (β 0)].toArray s 0 0 (gA (mw_al β))) (F0 m 20 ls []) := by
      intro fu
      induction fu with
      | zero => intro k acc ς H locs ls h1 h2; omega
      | succ fu ih =>
        intro k acc ς H locs ls hk20 hf20 e_acc e_ς hP hD hS hl
        obtain ⟨hI, h14, h15⟩ : m_ok n ς.1 ∧ ς.1 14 = nI t ∧ ς.1 15 = nI (r + k) := by rw [e_ς]; exact mo_runp_ok hI (by rw [e_τ1]; exact e14) (by rw [e_τ1]; exact e15) ht k hk20
        have epq : mo_runp n τ1 k = (acc, ς) := by rw [e_acc, e_ς]
        refine lv_aload_n hx hb d_M_run_20 rfl (lv_at hl 1 rfl) ?_
        refine mw_get hx hb hts hown hK hP 15 (by decide) fl_M_107 (v := .int (ς.1 15)) rfl d_M_run_21 ?_
        refine lv_aload_n hx hb d_M_run_24 rfl (lv_at hl 1 rfl) ?_
        refine mw_get hx hb hts hown hK hP 14 (by decide) fl_M_104 (v := .int (ς.1 14)) rfl d_M_run_25 ?_
        refine lv_icmp_ge (tgt := 92) hx hb d_M_run_28 (by decide) (fun c_28 => ?_) (fun c_28 => ?_)
        · -- to 92
          have hkt : k = t - r := by
            rw [h14, h15] at c_28
            have := lp_eq (B := t) (hn := by omega) c_28 hk20
            omega
          rw [hkt] at e_acc e_ς
          refine lv_iload_n hx hb d_M_run_92 rfl (lv_at hl 0 rfl) ?_
          exact g_reti hx hb hr hlocks (by rw [e_acc, e_τ1]) (by rw [e_ς, e_τ1]) hP hS d_M_run_93
        · -- on 31
          have hlt : r + k < t := by
            rw [h14, h15] at c_28
            exact lp_lt (B := t) (hn := by omega) c_28 hk20
          obtain ⟨i, hi, ei, hso⟩ := hst k hlt
          rw [← e_τ1, ← e_ς] at ei hso
          have hi8 : i < 2 ^ 31 := by have := hI.1; omega
          refine lv_aload_n hx hb d_M_run_31 rfl (lv_at hl 1 rfl) ?_
          refine mw_get hx hb hts hown hK hP 13 (by decide) fl_M_40 (v := .ref (β 13)) rfl d_M_run_32 ?_
          refine lv_aload_n hx hb d_M_run_35 rfl (lv_at hl 1 rfl) ?_
          refine mw_get hx hb hts hown hK hP 15 (by decide) fl_M_107 (v := .int (ς.1 15)) rfl d_M_run_36 ?_
          refine mw_ald hx hb hK hP 13 (by unfold mw_as; decide) (j := r + k) h15 (show r + k < 300 by omega) d_M_run_39 ?_
          refine lv_istore_n (lv' := [(2, .int (ς.2 13 (r + k))), (1, .int acc), (0, .ref (β 0))]) hx hb d_M_run_40 rfl hl (by decide) rfl (fun ls hl => ?_)
          have hl : lv_has ls 3 [(2, .int (nI i)), (1, .int acc), (0, .ref (β 0))] := by rw [← ei]; exact hl
          refine lv_aload_n hx hb d_M_run_41 rfl (lv_at hl 2 rfl) ?_
          refine lv_dup hx hb d_M_run_42 rfl ?_
          refine mw_get hx hb hts hown hK hP 15 (by decide) fl_M_107 (v := .int (ς.1 15)) rfl d_M_run_43 ?_
          refine lv_iconst (v := 1) hx hb d_M_run_46 (by decide) ?_
          refine lv_iadd hx hb d_M_run_47 ?_
          refine mw_put hx hb hts hown hK hP hD hS 15 (by unfold mw_is; decide) fl_M_107 rfl rfl rfl d_M_run_48 (fun H locs hP hD hS => ?_)
          obtain ⟨τ2, e_τ2⟩ : ∃ ζ, ζ = m_f ς 15 ((ς.1 15) + 1) := ⟨_, rfl⟩
          rw [← e_τ2] at hP hD
          have hI : m_ok n τ2.1 := by rw [e_τ2]; exact m_ok_15 hI h14 h15 hlt ht
          refine lv_aload_n hx hb d_M_run_51 rfl (lv_at hl 2 rfl) ?_
          refine mw_get hx hb hts hown hK hP 6 (by decide) fl_M_22 (v := .ref (β 6)) rfl d_M_run_52 ?_
          refine lv_iload_n hx hb d_M_run_55 rfl (lv_at hl 0 rfl) ?_
          refine mw_ald hx hb hK hP 6 (by unfold mw_as; decide) (j := i) rfl (m8 hI hi) d_M_run_56 ?_
          refine lv_if_eq (tgt := 73) hx hb d_M_run_57 (by decide) (fun c_57 => ?_) (fun c_57 => ?_)
          · -- to 73
            have hso2 : so_ok τ2 i := by rw [e_τ2]; exact hso (by have := c_57; rw [e_τ2] at this; exact this)
            refine lv_iload_n hx hb d_M_run_73 rfl (lv_at hl 1 rfl) ?_
            refine lv_aload_n hx hb d_M_run_74 rfl (lv_at hl 2 rfl) ?_
            refine lv_iload_n hx hb d_M_run_75 rfl (lv_at hl 0 rfl) ?_
            refine g_calli (va_runV (As := [.int (nI i)]) (rest := [.int acc]) ⟨hx, hb, hml, hown, hts⟩ (ct_M_steps l D cI cQ β n τ2 hI i hi hso2) (cwV 1 hts gd_M_113 rfl rfl rfl (by decide +kernel) ⟨Nat.le_of_ble_eq_true rfl, Nat.le_of_ble_eq_true rfl⟩) (g_preV hK hP hD (ci := 2) (q0 := 0) rfl mw_0) rfl rfl hl.1 rfl (lv_room (Nat.le_of_ble_eq_true rfl)) d_M_run_76 ⟨Nat.le_refl _, Nat.le_refl _⟩) hD hS (mw_addr.trans mw_addr.symm) (fun H locs hP hD hS => ?_)
            obtain ⟨τ3, e_τ3⟩ : ∃ ζ, ζ = (mo_steps n τ2 i).2 := ⟨_, rfl⟩
            rw [← e_τ3] at hP hD
            have hI : m_ok n τ3.1 := by rw [e_τ3]; exact (m_ok_steps hI)
            refine lv_if_eq (tgt := 86) hx hb d_M_run_79 (by decide) (fun c_79 => ?_) (fun c_79 => ?_)
            · -- to 86
              refine lv_iconst (v := 0) hx hb d_M_run_86 (by decide) ?_
              refine lv_iadd hx hb d_M_run_87 ?_
              refine lv_istore_n (lv' := [(1, .int (acc + 0)), (2, .int (nI i)), (0, .ref (β 0))]) hx hb d_M_run_88 rfl hl (by decide) rfl (fun ls hl => ?_)
              refine lv_goto (tgt := 20) hx hb d_M_run_89 (by decide) ?_
              have e9 := (congrArg (mo_run1 n) epq).trans (run1_1 (q := (acc, ς)) h15 (by omega) ei hi8 (by have := c_57; rw [e_τ2] at this; exact this))
              dsimp only at e9
              exact ih (k + 1) (acc + 0) _ _ _ ls (by omega) (by omega) (by rw [mo_runp, e9, if_pos (by rw [← e_τ2]; exact c_79)]) (by rw [mo_runp, e9, e_τ3, e_τ2]) hP hD hS (lv_sub hl [0, 2] rfl)
            · -- on 82
              refine lv_iconst (v := 1) hx hb d_M_run_82 (by decide) ?_
              refine lv_goto (tgt := 87) hx hb d_M_run_83 (by decide) ?_
              refine lv_iadd hx hb d_M_run_87 ?_
              refine lv_istore_n (lv' := [(1, .int (acc + 1)), (2, .int (nI i)), (0, .ref (β 0))]) hx hb d_M_run_88 rfl hl (by decide) rfl (fun ls hl => ?_)
              refine lv_goto (tgt := 20) hx hb d_M_run_89 (by decide) ?_
              have e9 := (congrArg (mo_run1 n) epq).trans (run1_1 (q := (acc, ς)) h15 (by omega) ei hi8 (by have := c_57; rw [e_τ2] at this; exact this))
              dsimp only at e9
              exact ih (k + 1) (acc + 1) _ _ _ ls (by omega) (by omega) (by rw [mo_runp, e9, if_neg (by rw [← e_τ2]; exact c_79)]) (by rw [mo_runp, e9, e_τ3, e_τ2]) hP hD hS (lv_sub hl [0, 2] rfl)
          · -- on 60
            refine lv_aload_n hx hb d_M_run_60 rfl (lv_at hl 2 rfl) ?_
            refine lv_dup hx hb d_M_run_61 rfl ?_
            refine mw_get hx hb hts hown hK hP 16 (by decide) fl_M_110 (v := .int (τ2.1 16)) rfl d_M_run_62 ?_
            refine lv_iconst (v := 1) hx hb d_M_run_65 (by decide) ?_
            refine lv_iadd hx hb d_M_run_66 ?_
            refine mw_put hx hb hts hown hK hP hD hS 16 (by unfold mw_is; decide) fl_M_110 rfl rfl rfl d_M_run_67 (fun H locs hP hD hS => ?_)
            obtain ⟨τ4, e_τ4⟩ : ∃ ζ, ζ = m_f τ2 16 ((τ2.1 16) + 1) := ⟨_, rfl⟩
            rw [← e_τ4] at hP hD
            have hI : m_ok n τ4.1 := by rw [e_τ4]; exact (m_ok_f hI (by decide))
            refine lv_goto (tgt := 89) hx hb d_M_run_70 (by decide) ?_
            refine lv_goto (tgt := 20) hx hb d_M_run_89 (by decide) ?_
            have e9 := (congrArg (mo_run1 n) epq).trans (run1_0 (q := (acc, ς)) h15 (by omega) ei hi8 (by have := c_57; rw [e_τ2] at this; exact this))
            dsimp only at e9
            exact ih (k + 1) acc _ _ _ ls (by omega) (by omega) (by rw [mo_runp, e9]) (by rw [mo_runp, e9, e_τ4, e_τ2]) hP hD hS (lv_sub hl [1, 2] rfl)
    exact lp20 (t - r + 1) 0 _ _ _ _ ls (by omega) (by omega) rfl rfl hP hD hS (lv_sub hl [0, 1] rfl)
  · -- on 7
    exact absurd hc0 c_4
