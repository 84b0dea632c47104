set_option maxHeartbeats 4000000 in
set_option maxRecDepth 100000 in
theorem ct_M_steps (l : Launch) (D : va_G) (cI cQ : ClassId) (β : Nat → Nat) (n : Nat) (τ : mS) (hI : m_ok n τ.1) (i : Nat) (hi : i < n) (hs : so_ok τ i) : Met l y_M_steps w_M_steps { frames := 3, cells := 0, slots := 0, locals := 68 } (gPc D (kty cI cQ) (mw_w cI β τ) [.ref (β 0), .int (nI i)]) (gQi D (mw_al β) ((mo_steps n τ i).1) (mw_w cI β ((mo_steps n τ i).2))) 0 0 (gA (mw_al β)) := by
  refine Met.ofW (cc := b_M_steps) (maxL := 4) (ret := some .boolean) (by decide) rfl ?_
  intro p e s m args below meth c s₁ B hml hv
  obtain ⟨rfl, hP, hK, hD⟩ := hv
  have hx := B.exec
  have hb := B.bytes
  have hr := B.returns
  have hts : ∀ w ∈ kT, w.before [.ref (β 0), .int (nI i)].toArray s = true := fun w h => atoms_spec (ws := w_M_steps) B.pre w (List.mem_cons_of_mem _ h)
  have hown : s.vm.findClass R_M = some m.cls := findClass_of_methodNamed B.named
  have hlocks := B.notSynchronized
  have hD : va_D (gA (mw_al β)) (mw_w cI β τ) := gD mw_addr hD
  have hS : va_S (gA (mw_al β)) s.heap s.heap [] := va_S.rf
  have hl := lv_entry ([.ref (β 0), .int (nI i)]) (n := 4) (Nat.le_of_ble_eq_true rfl)
  rw [lg_entry_eq]
  generalize (lg_sl ([.ref (β 0), .int (nI i)]) ++ List.replicate (4 - (lg_sl ([.ref (β 0), .int (nI i)])).length) Slot.unset).toArray = ls at hl ⊢
  have hl : lv_has ls 4 [(0, .ref (β 0)), (1, .int (nI i))] := hl
  obtain ⟨⟨p0, hp0, ep0⟩, hlow⟩ := hs
  refine lv_aload_n hx hb d_M_steps_0 rfl (lv_at hl 0 rfl) ?_
  refine mw_get hx hb hts hown hK hP 7 (by decide) fl_M_25 (v := .ref (β 7)) rfl d_M_steps_1 ?_
  refine lv_bipush (v := 12) hx hb d_M_steps_4 (by decide) ?_
  refine lv_iload_n hx hb d_M_steps_6 rfl (lv_at hl 1 rfl) ?_
  refine lv_imul hx hb d_M_steps_7 ?_
  refine lv_aload_n hx hb d_M_steps_8 rfl (lv_at hl 0 rfl) ?_
  refine mw_get hx hb hts hown hK hP 4 (by decide) fl_M_16 (v := .ref (β 4)) rfl d_M_steps_9 ?_
  refine lv_iload_n hx hb d_M_steps_12 rfl (lv_at hl 1 rfl) ?_
  refine mw_ald hx hb hK hP 4 (by unfold mw_as; decide) (j := i) rfl (m8 hI hi) d_M_steps_13 ?_
  refine lv_iadd hx hb d_M_steps_14 ?_
  refine mw_ald hx hb hK hP 7 (by unfold mw_as; decide) (j := (12 * nI i + τ.2 4 i).toNatClampNeg) (ix_e (m_n96 hI hi hp0 ep0).1) (m_n96 hI hi hp0 ep0).2 d_M_steps_15 ?_
  refine lv_aload_n hx hb d_M_steps_16 rfl (lv_at hl 0 rfl) ?_
  refine lv_iload_n hx hb d_M_steps_17 rfl (lv_at hl 1 rfl) ?_
  refine r_calli (W.runV (As := [.int (nI i)]) (rest := [.int (τ.2 7 ((12 * nI i + τ.2 4 i).toNatClampNeg))]) ⟨hx, hb, hml, hown, hts⟩ (ct_M_held l D cI cQ β n τ hI (nI i)) (cwV 1 hts gd_M_65 rfl rfl rfl (by decide +kernel) ⟨Nat.le_of_ble_eq_true rfl, Nat.le_of_ble_eq_true rfl⟩) (g_preV hK hP hD (ci := 2) (q0 := 0) rfl mw_0) rfl rfl hl.1 rfl (lv_room (Nat.le_of_ble_eq_true rfl)) d_M_steps_18 ⟨Nat.le_refl _, Nat.le_refl _⟩) ?_
  refine lv_iconst (v := (-1)) hx hb d_M_steps_21 (by decide) ?_
  refine lv_ixor hx hb d_M_steps_22 ?_
  refine lv_iand hx hb d_M_steps_23 ?_
  refine lv_istore_n (lv' := [(2, .int ((τ.2 7 ((12 * nI i + τ.2 4 i).toNatClampNeg)) &&& ((mo_held τ (nI i)) ^^^ (-1)))), (0, .ref (β 0)), (1, .int (nI i))]) hx hb d_M_steps_24 rfl hl (by decide) rfl (fun ls hl => ?_)
  obtain ⟨ww, e_ww⟩ : ∃ ζ, ζ = mo_wants τ i := ⟨_, rfl⟩
  have hl : lv_has ls 4 [(2, .int ww), (0, .ref (β 0)), (1, .int (nI i))] := by rw [e_ww]; exact hl
  refine lv_iload_n hx hb d_M_steps_25 rfl (lv_at hl 0 rfl) ?_
  refine lv_if_eq (tgt := 110) hx hb d_M_steps_26 (by decide) (fun c_26 => ?_) (fun c_26 => ?_)
  · -- to 110
    refine lv_aload_n hx hb d_M_steps_110 rfl (lv_at hl 1 rfl) ?_
    refine mw_get hx hb hts hown hK hP 3 (by decide) fl_M_13 (v := .ref (β 3)) rfl d_M_steps_111 ?_
    refine lv_iload_n hx hb d_M_steps_114 rfl (lv_at hl 2 rfl) ?_
    refine mw_ald hx hb hK hP 3 (by unfold mw_as; decide) (j := i) rfl (m8 hI hi) d_M_steps_115 ?_
    refine lv_aload_n hx hb d_M_steps_116 rfl (lv_at hl 1 rfl) ?_
    refine mw_get hx hb hts hown hK hP 4 (by decide) fl_M_16 (v := .ref (β 4)) rfl d_M_steps_117 ?_
    refine lv_iload_n hx hb d_M_steps_120 rfl (lv_at hl 2 rfl) ?_
    refine mw_ald hx hb hK hP 4 (by unfold mw_as; decide) (j := i) rfl (m8 hI hi) d_M_steps_121 ?_
    refine lv_icmp_ne (tgt := 129) hx hb d_M_steps_122 (by decide) (fun c_122 => ?_) (fun c_122 => ?_)
    · -- to 129
      refine lv_iconst (v := 0) hx hb d_M_steps_129 (by decide) ?_
      refine lv_istore_n (lv' := [(3, .int 0), (2, .int ww), (0, .ref (β 0)), (1, .int (nI i))]) hx hb d_M_steps_130 rfl hl (by decide) rfl (fun ls hl => ?_)
      refine lv_aload_n hx hb d_M_steps_131 rfl (lv_at hl 2 rfl) ?_
      refine lv_iload_n hx hb d_M_steps_132 rfl (lv_at hl 0 rfl) ?_
      refine lv_if_eq (tgt := 140) hx hb d_M_steps_133 (by decide) (fun c_133 => ?_) (fun c_133 => ?_)
      · -- to 140
        refine lv_iconst (v := 1) hx hb d_M_steps_140 (by decide) ?_
        refine lv_iload_n hx hb d_M_steps_141 rfl (lv_at hl 3 rfl) ?_
        refine g_callv (va_runV (As := [.int 1, .int (nI i)]) (rest := []) ⟨hx, hb, hml, hown, hts⟩ (ct_M_write l D cI cQ β n τ hI 1 i hi) (cwV 2 hts gd_M_94 rfl rfl rfl (by decide +kernel) ⟨Nat.le_of_ble_eq_true rfl, Nat.le_of_ble_eq_true rfl⟩) (g_preV hK hP hD (ci := 2) (q0 := 0) rfl mw_0) rfl rfl hl.1 rfl (lv_room (Nat.le_of_ble_eq_true rfl)) d_M_steps_142 ⟨Nat.le_refl _, Nat.le_refl _⟩) hD hS (mw_addr.trans mw_addr.symm) (fun H locs hP hD hS => ?_)
        obtain ⟨τ1, e_τ1⟩ : ∃ ζ, ζ = mo_write τ 1 i := ⟨_, rfl⟩
        rw [← e_τ1] at hP hD
        have hI : m_ok n τ1.1 := by rw [e_τ1]; exact (m_ok_write hI)
        refine lv_aload_n hx hb d_M_steps_145 rfl (lv_at hl 2 rfl) ?_
        refine mw_get hx hb hts hown hK hP 3 (by decide) fl_M_13 (v := .ref (β 3)) rfl d_M_steps_146 ?_
        refine lv_iload_n hx hb d_M_steps_149 rfl (lv_at hl 3 rfl) ?_
        refine lv_iload_n hx hb d_M_steps_150 rfl (lv_at hl 0 rfl) ?_
        refine lv_if_eq (tgt := 158) hx hb d_M_steps_151 (by decide) (fun c_151 => ?_) (fun c_151 => ?_)
        · -- to 158
          refine lv_aload_n hx hb d_M_steps_158 rfl (lv_at hl 2 rfl) ?_
          refine mw_get hx hb hts hown hK hP 3 (by decide) fl_M_13 (v := .ref (β 3)) rfl d_M_steps_159 ?_
          refine lv_iload_n hx hb d_M_steps_162 rfl (lv_at hl 3 rfl) ?_
          refine mw_ald hx hb hK hP 3 (by unfold mw_as; decide) (j := i) rfl (m8 hI hi) d_M_steps_163 ?_
          refine mw_ast hx hb hK hP hD hS 3 (by unfold mw_as; decide) (j := i) rfl (m8 hI hi) d_M_steps_164 (fun H locs hP hD hS => ?_)
          obtain ⟨τ2, e_τ2⟩ : ∃ ζ, ζ = m_a τ1 3 i (τ1.2 3 i) := ⟨_, rfl⟩
          rw [← e_τ2] at hP hD
          have hI : m_ok n τ2.1 := by rw [e_τ2]; exact hI
          refine lv_aload_n hx hb d_M_steps_165 rfl (lv_at hl 2 rfl) ?_
          refine lv_iload_n hx hb d_M_steps_166 rfl (lv_at hl 3 rfl) ?_
          refine g_callv (va_runV (As := [.int (nI i)]) (rest := []) ⟨hx, hb, hml, hown, hts⟩ (ct_M_giveAll l D cI cQ β n τ2 hI i hi) (cwV 1 hts gd_M_98 rfl rfl rfl (by decide +kernel) ⟨Nat.le_of_ble_eq_true rfl, Nat.le_of_ble_eq_true rfl⟩) (g_preV hK hP hD (ci := 2) (q0 := 0) rfl mw_0) rfl rfl hl.1 rfl (lv_room (Nat.le_of_ble_eq_true rfl)) d_M_steps_167 ⟨Nat.le_refl _, Nat.le_refl _⟩) hD hS (mw_addr.trans mw_addr.symm) (fun H locs hP hD hS => ?_)
          obtain ⟨τ3, e_τ3⟩ : ∃ ζ, ζ = mo_ga n τ2 i := ⟨_, rfl⟩
          rw [← e_τ3] at hP hD
          have hI : m_ok n τ3.1 := by rw [e_τ3]; exact (by rw [mo_ga_1]; exact hI)
          refine lv_iload_n hx hb d_M_steps_170 rfl (lv_at hl 0 rfl) ?_
          refine lv_if_ne (tgt := 189) hx hb d_M_steps_171 (by decide) (fun c_171 => ?_) (fun c_171 => ?_)
          · -- to 189
            exact absurd c_171 (by decide)
          · -- on 174
            refine lv_aload_n hx hb d_M_steps_174 rfl (lv_at hl 2 rfl) ?_
            refine mw_get hx hb hts hown hK hP 5 (by decide) fl_M_19 (v := .ref (β 5)) rfl d_M_steps_175 ?_
            refine lv_iload_n hx hb d_M_steps_178 rfl (lv_at hl 3 rfl) ?_
            refine lv_dup2_11 hx hb d_M_steps_179 rfl rfl ?_
            refine mw_ald hx hb hK hP 5 (by unfold mw_as; decide) (j := i) rfl (m8 hI hi) d_M_steps_180 ?_
            refine lv_iconst (v := 1) hx hb d_M_steps_181 (by decide) ?_
            refine lv_iadd hx hb d_M_steps_182 ?_
            refine mw_ast hx hb hK hP hD hS 5 (by unfold mw_as; decide) (j := i) rfl (m8 hI hi) d_M_steps_183 (fun H locs hP hD hS => ?_)
            obtain ⟨τ4, e_τ4⟩ : ∃ ζ, ζ = m_a τ3 5 i ((τ3.2 5 i) + 1) := ⟨_, rfl⟩
            rw [← e_τ4] at hP hD
            have hI : m_ok n τ4.1 := by rw [e_τ4]; exact hI
            refine lv_aload_n hx hb d_M_steps_184 rfl (lv_at hl 2 rfl) ?_
            refine lv_iload_n hx hb d_M_steps_185 rfl (lv_at hl 3 rfl) ?_
            refine g_callv (va_runV (As := [.int (nI i)]) (rest := []) ⟨hx, hb, hml, hown, hts⟩ (ct_M_goesOn l D cI cQ β n τ4 hI i hi) (cwV 1 hts gd_M_101 rfl rfl rfl (by decide +kernel) ⟨Nat.le_of_ble_eq_true rfl, Nat.le_of_ble_eq_true rfl⟩) (g_preV hK hP hD (ci := 2) (q0 := 0) rfl mw_0) rfl rfl hl.1 rfl (lv_room (Nat.le_of_ble_eq_true rfl)) d_M_steps_186 ⟨Nat.le_refl _, Nat.le_refl _⟩) hD hS (mw_addr.trans mw_addr.symm) (fun H locs hP hD hS => ?_)
            obtain ⟨τ5, e_τ5⟩ : ∃ ζ, ζ = mo_goes τ4 i := ⟨_, rfl⟩
            rw [← e_τ5] at hP hD
            have hI : m_ok n τ5.1 := by rw [e_τ5]; exact hI
            refine lv_iload_n hx hb d_M_steps_189 rfl (lv_at hl 0 rfl) ?_
            refine lv_if_ne (tgt := 197) hx hb d_M_steps_190 (by decide) (fun c_190 => ?_) (fun c_190 => ?_)
            · -- to 197
              exact absurd c_190 (by decide)
            · -- on 193
              refine lv_iconst (v := 1) hx hb d_M_steps_193 (by decide) ?_
              refine lv_goto (tgt := 198) hx hb d_M_steps_194 (by decide) ?_
              exact g_retz hx hb hr hlocks (by decide) (by rw [mo_steps, ← e_ww, if_pos c_26, mo_do, if_neg c_122]) (by rw [mo_steps, ← e_ww, if_pos c_26, mo_do, if_neg c_122, e_τ5, e_τ4, e_τ3, e_τ2, e_τ1]) hP hS d_M_steps_198
        · -- on 154
          exact absurd c_151 (by decide)
      · -- on 136
        exact absurd c_133 (by decide)
    · -- on 125
      refine lv_iconst (v := 1) hx hb d_M_steps_125 (by decide) ?_
      refine lv_goto (tgt := 130) hx hb d_M_steps_126 (by decide) ?_
      refine lv_istore_n (lv' := [(3, .int 1), (2, .int ww), (0, .ref (β 0)), (1, .int (nI i))]) hx hb d_M_steps_130 rfl hl (by decide) rfl (fun ls hl => ?_)
      refine lv_aload_n hx hb d_M_steps_131 rfl (lv_at hl 2 rfl) ?_
      refine lv_iload_n hx hb d_M_steps_132 rfl (lv_at hl 0 rfl) ?_
      refine lv_if_eq (tgt := 140) hx hb d_M_steps_133 (by decide) (fun c_133 => ?_) (fun c_133 => ?_)
      · -- to 140
        exact absurd c_133 (by decide)
      · -- on 136
        refine lv_iconst (v := 2) hx hb d_M_steps_136 (by decide) ?_
        refine lv_goto (tgt := 141) hx hb d_M_steps_137 (by decide) ?_
        refine lv_iload_n hx hb d_M_steps_141 rfl (lv_at hl 3 rfl) ?_
        refine g_callv (va_runV (As := [.int 2, .int (nI i)]) (rest := []) ⟨hx, hb, hml, hown, hts⟩ (ct_M_write l D cI cQ β n τ hI 2 i hi) (cwV 2 hts gd_M_94 rfl rfl rfl (by decide +kernel) ⟨Nat.le_of_ble_eq_true rfl, Nat.le_of_ble_eq_true rfl⟩) (g_preV hK hP hD (ci := 2) (q0 := 0) rfl mw_0) rfl rfl hl.1 rfl (lv_room (Nat.le_of_ble_eq_true rfl)) d_M_steps_142 ⟨Nat.le_refl _, Nat.le_refl _⟩) hD hS (mw_addr.trans mw_addr.symm) (fun H locs hP hD hS => ?_)
        obtain ⟨τ6, e_τ6⟩ : ∃ ζ, ζ = mo_write τ 2 i := ⟨_, rfl⟩
        rw [← e_τ6] at hP hD
        have hI : m_ok n τ6.1 := by rw [e_τ6]; exact (m_ok_write hI)
        refine lv_aload_n hx hb d_M_steps_145 rfl (lv_at hl 2 rfl) ?_
        refine mw_get hx hb hts hown hK hP 3 (by decide) fl_M_13 (v := .ref (β 3)) rfl d_M_steps_146 ?_
        refine lv_iload_n hx hb d_M_steps_149 rfl (lv_at hl 3 rfl) ?_
        refine lv_iload_n hx hb d_M_steps_150 rfl (lv_at hl 0 rfl) ?_
        refine lv_if_eq (tgt := 158) hx hb d_M_steps_151 (by decide) (fun c_151 => ?_) (fun c_151 => ?_)
        · -- to 158
          exact absurd c_151 (by decide)
        · -- on 154
          refine lv_iconst (v := (-1)) hx hb d_M_steps_154 (by decide) ?_
          refine lv_goto (tgt := 164) hx hb d_M_steps_155 (by decide) ?_
          refine mw_ast hx hb hK hP hD hS 3 (by unfold mw_as; decide) (j := i) rfl (m8 hI hi) d_M_steps_164 (fun H locs hP hD hS => ?_)
          obtain ⟨τ7, e_τ7⟩ : ∃ ζ, ζ = m_a τ6 3 i (-1) := ⟨_, rfl⟩
          rw [← e_τ7] at hP hD
          have hI : m_ok n τ7.1 := by rw [e_τ7]; exact hI
          refine lv_aload_n hx hb d_M_steps_165 rfl (lv_at hl 2 rfl) ?_
          refine lv_iload_n hx hb d_M_steps_166 rfl (lv_at hl 3 rfl) ?_
          refine g_callv (va_runV (As := [.int (nI i)]) (rest := []) ⟨hx, hb, hml, hown, hts⟩ (ct_M_giveAll l D cI cQ β n τ7 hI i hi) (cwV 1 hts gd_M_98 rfl rfl rfl (by decide +kernel) ⟨Nat.le_of_ble_eq_true rfl, Nat.le_of_ble_eq_true rfl⟩) (g_preV hK hP hD (ci := 2) (q0 := 0) rfl mw_0) rfl rfl hl.1 rfl (lv_room (Nat.le_of_ble_eq_true rfl)) d_M_steps_167 ⟨Nat.le_refl _, Nat.le_refl _⟩) hD hS (mw_addr.trans mw_addr.symm) (fun H locs hP hD hS => ?_)
          obtain ⟨τ8, e_τ8⟩ : ∃ ζ, ζ = mo_ga n τ7 i := ⟨_, rfl⟩
          rw [← e_τ8] at hP hD
          have hI : m_ok n τ8.1 := by rw [e_τ8]; exact (by rw [mo_ga_1]; exact hI)
          refine lv_iload_n hx hb d_M_steps_170 rfl (lv_at hl 0 rfl) ?_
          refine lv_if_ne (tgt := 189) hx hb d_M_steps_171 (by decide) (fun c_171 => ?_) (fun c_171 => ?_)
          · -- to 189
            refine lv_iload_n hx hb d_M_steps_189 rfl (lv_at hl 0 rfl) ?_
            refine lv_if_ne (tgt := 197) hx hb d_M_steps_190 (by decide) (fun c_190 => ?_) (fun c_190 => ?_)
            · -- to 197
              refine lv_iconst (v := 0) hx hb d_M_steps_197 (by decide) ?_
              exact g_retz hx hb hr hlocks (by decide) (by rw [mo_steps, ← e_ww, if_pos c_26, mo_do, if_pos c_122]) (by rw [mo_steps, ← e_ww, if_pos c_26, mo_do, if_pos c_122, e_τ8, e_τ7, e_τ6]) hP hS d_M_steps_198
            · -- on 193
              exact absurd c_190 (by decide)
          · -- on 174
            exact absurd c_171 (by decide)
  · -- on 29
    obtain ⟨q0, hq0, elow⟩ := hlow (by rw [← e_ww]; exact c_26)
    rw [← e_ww] at elow
    obtain ⟨-, hb1, hb0⟩ := lowp_is elow
    refine lv_iconst (v := 0) hx hb d_M_steps_29 (by decide) ?_
    refine lv_istore_n (lv' := [(3, .int 0), (2, .int ww), (0, .ref (β 0)), (1, .int (nI i))]) hx hb d_M_steps_30 rfl hl (by decide) rfl (fun ls hl => ?_)
    have lp31 : ∀ (fu j : Nat) (ls : Array Slot), j ≤ q0 → q0 - j < fu → lv_has ls 4 [(3, .int (nI j)), (2, .int ww), (0, .ref (β 0)), (1, .int (nI i))] → W p l e (headSpec w_M_steps { frames := 3, cells := 0, slots := 0, locals := 68 }).room s m [.ref (β 0), .int (nI i)].toArray below meth c s.heap [] 0 0 (MQ below (gQi D (mw_al β) ((mo_steps n τ i).1) (mw_w cI β ((mo_steps n τ i).2))) [.ref (β 0), .int (nI i)].toArray s 0 0 (gA (mw_al β))) (F0 m 31 ls []) := by
      intro fu
      induction fu with
      | zero => intro j ls h1 h2; omega
      | succ fu ih =>
        intro j ls hj31 hf31 hl
        refine lv_iload_n hx hb d_M_steps_31 rfl (lv_at hl 1 rfl) ?_
        refine lv_iload_n hx hb d_M_steps_32 rfl (lv_at hl 0 rfl) ?_
        refine lv_ishr hx hb d_M_steps_33 ?_
        refine lv_iconst (v := 1) hx hb d_M_steps_34 (by decide) ?_
        refine lv_iand hx hb d_M_steps_35 ?_
        refine lv_if_ne (tgt := 45) hx hb d_M_steps_36 (by decide) (fun c_36 => ?_) (fun c_36 => ?_)
        · -- to 45
          have hjq : j = q0 := by
            rcases Nat.lt_or_ge j q0 with q | q
            · exact absurd (hb0 j q) c_36
            · omega
          have hl : lv_has ls 4 [(3, .int (nI q0)), (2, .int ww), (0, .ref (β 0)), (1, .int (nI i))] := by rw [← hjq]; exact hl
          refine lv_aload_n hx hb d_M_steps_45 rfl (lv_at hl 2 rfl) ?_
          refine mw_get hx hb hts hown hK hP 8 (by decide) fl_M_28 (v := .ref (β 8)) rfl d_M_steps_46 ?_
          refine lv_iload_n hx hb d_M_steps_49 rfl (lv_at hl 0 rfl) ?_
          refine mw_ald hx hb hK hP 8 (by unfold mw_as; decide) (j := q0) rfl hq0 d_M_steps_50 ?_
          refine lv_if_ge (tgt := 74) hx hb d_M_steps_51 (by decide) (fun c_51 => ?_) (fun c_51 => ?_)
          · -- to 74
            refine lv_aload_n hx hb d_M_steps_74 rfl (lv_at hl 2 rfl) ?_
            refine mw_get hx hb hts hown hK hP 10 (by decide) fl_M_34 (v := .ref (β 10)) rfl d_M_steps_75 ?_
            refine lv_iload_n hx hb d_M_steps_78 rfl (lv_at hl 3 rfl) ?_
            refine lv_iload_n hx hb d_M_steps_79 rfl (lv_at hl 0 rfl) ?_
            refine mw_ast hx hb hK hP hD hS 10 (by unfold mw_as; decide) (j := i) rfl (m8 hI hi) d_M_steps_80 (fun H locs hP hD hS => ?_)
            obtain ⟨τ9, e_τ9⟩ : ∃ ζ, ζ = m_a τ 10 i (nI q0) := ⟨_, rfl⟩
            rw [← e_τ9] at hP hD
            have hI : m_ok n τ9.1 := by rw [e_τ9]; exact hI
            refine lv_aload_n hx hb d_M_steps_81 rfl (lv_at hl 2 rfl) ?_
            refine mw_get hx hb hts hown hK hP 11 (by decide) fl_M_37 (v := .ref (β 11)) rfl d_M_steps_82 ?_
            refine lv_iload_n hx hb d_M_steps_85 rfl (lv_at hl 3 rfl) ?_
            refine lv_aload_n hx hb d_M_steps_86 rfl (lv_at hl 2 rfl) ?_
            refine mw_get hx hb hts hown hK hP 12 (by decide) fl_M_91 (v := .int (τ9.1 12)) rfl d_M_steps_87 ?_
            refine mw_ast hx hb hK hP hD hS 11 (by unfold mw_as; decide) (j := i) rfl (m8 hI hi) d_M_steps_90 (fun H locs hP hD hS => ?_)
            obtain ⟨τ10, e_τ10⟩ : ∃ ζ, ζ = m_a τ9 11 i (τ9.1 12) := ⟨_, rfl⟩
            rw [← e_τ10] at hP hD
            have hI : m_ok n τ10.1 := by rw [e_τ10]; exact hI
            refine lv_aload_n hx hb d_M_steps_91 rfl (lv_at hl 2 rfl) ?_
            refine lv_dup hx hb d_M_steps_92 rfl ?_
            refine mw_get hx hb hts hown hK hP 12 (by decide) fl_M_91 (v := .int (τ10.1 12)) rfl d_M_steps_93 ?_
            refine lv_iconst (v := 1) hx hb d_M_steps_96 (by decide) ?_
            refine lv_iadd hx hb d_M_steps_97 ?_
            refine mw_put hx hb hts hown hK hP hD hS 12 (by unfold mw_is; decide) fl_M_91 rfl rfl rfl d_M_steps_98 (fun H locs hP hD hS => ?_)
            obtain ⟨τ11, e_τ11⟩ : ∃ ζ, ζ = m_f τ10 12 ((τ10.1 12) + 1) := ⟨_, rfl⟩
            rw [← e_τ11] at hP hD
            have hI : m_ok n τ11.1 := by rw [e_τ11]; exact (m_ok_f hI (by decide))
            refine lv_aload_n hx hb d_M_steps_101 rfl (lv_at hl 2 rfl) ?_
            refine mw_get hx hb hts hown hK hP 6 (by decide) fl_M_22 (v := .ref (β 6)) rfl d_M_steps_102 ?_
            refine lv_iload_n hx hb d_M_steps_105 rfl (lv_at hl 3 rfl) ?_
            refine lv_iconst (v := 1) hx hb d_M_steps_106 (by decide) ?_
            refine mw_ast hx hb hK hP hD hS 6 (by unfold mw_as; decide) (j := i) rfl (m8 hI hi) d_M_steps_107 (fun H locs hP hD hS => ?_)
            obtain ⟨τ12, e_τ12⟩ : ∃ ζ, ζ = m_a τ11 6 i 1 := ⟨_, rfl⟩
            rw [← e_τ12] at hP hD
            have hI : m_ok n τ12.1 := by rw [e_τ12]; exact hI
            refine lv_iconst (v := 0) hx hb d_M_steps_108 (by decide) ?_
            exact g_retz hx hb hr hlocks (by decide) (by rw [mo_steps, ← e_ww, if_neg c_26, elow]) (by rw [mo_steps, ← e_ww, if_neg c_26, elow]; dsimp only; rw [mo_ask, if_neg (i_nl c_51), e_τ12, e_τ11, e_τ10, e_τ9]) hP hS d_M_steps_109
          · -- on 54
            refine lv_aload_n hx hb d_M_steps_54 rfl (lv_at hl 2 rfl) ?_
            refine mw_get hx hb hts hown hK hP 8 (by decide) fl_M_28 (v := .ref (β 8)) rfl d_M_steps_55 ?_
            refine lv_iload_n hx hb d_M_steps_58 rfl (lv_at hl 0 rfl) ?_
            refine lv_iload_n hx hb d_M_steps_59 rfl (lv_at hl 3 rfl) ?_
            refine mw_ast hx hb hK hP hD hS 8 (by unfold mw_as; decide) (j := q0) rfl hq0 d_M_steps_60 (fun H locs hP hD hS => ?_)
            obtain ⟨τ13, e_τ13⟩ : ∃ ζ, ζ = m_a τ 8 q0 (nI i) := ⟨_, rfl⟩
            rw [← e_τ13] at hP hD
            have hI : m_ok n τ13.1 := by rw [e_τ13]; exact hI
            refine lv_aload_n hx hb d_M_steps_61 rfl (lv_at hl 2 rfl) ?_
            refine mw_get hx hb hts hown hK hP 9 (by decide) fl_M_31 (v := .ref (β 9)) rfl d_M_steps_62 ?_
            refine lv_iload_n hx hb d_M_steps_65 rfl (lv_at hl 0 rfl) ?_
            refine lv_aload_n hx hb d_M_steps_66 rfl (lv_at hl 2 rfl) ?_
            refine mw_get hx hb hts hown hK hP 19 (by decide) fl_M_84 (v := .int (τ13.1 19)) rfl d_M_steps_67 ?_
            refine mw_ast hx hb hK hP hD hS 9 (by unfold mw_as; decide) (j := q0) rfl hq0 d_M_steps_70 (fun H locs hP hD hS => ?_)
            obtain ⟨τ14, e_τ14⟩ : ∃ ζ, ζ = m_a τ13 9 q0 (τ13.1 19) := ⟨_, rfl⟩
            rw [← e_τ14] at hP hD
            have hI : m_ok n τ14.1 := by rw [e_τ14]; exact hI
            refine lv_goto (tgt := 108) hx hb d_M_steps_71 (by decide) ?_
            refine lv_iconst (v := 0) hx hb d_M_steps_108 (by decide) ?_
            exact g_retz hx hb hr hlocks (by decide) (by rw [mo_steps, ← e_ww, if_neg c_26, elow]) (by rw [mo_steps, ← e_ww, if_neg c_26, elow]; dsimp only; rw [mo_ask, if_pos (i_lt c_51), e_τ14, e_τ13]) hP hS d_M_steps_109
        · -- on 39
          have hjl : j < q0 := by
            rcases Nat.lt_or_ge j q0 with q | q
            · exact q
            · exact absurd c_36 (by rw [show j = q0 by omega]; exact hb1)
          refine lv_iinc (v := nI (j + 1)) (lv' := [(3, .int (nI (j + 1))), (2, .int ww), (0, .ref (β 0)), (1, .int (nI i))]) hx hb d_M_steps_39 hl (k := 0) rfl (nI_1 j) (by decide) rfl (fun ls hl => ?_)
          refine lv_goto (tgt := 31) hx hb d_M_steps_42 (by decide) ?_
          exact ih (j + 1) ls (by omega) (by omega) (lv_sub hl [0, 1, 2, 3] rfl)
    exact lp31 (q0 + 1) 0 ls (by omega) (by omega) (lv_sub hl [0, 1, 2, 3] rfl)
