set_option maxHeartbeats 4000000 in
set_option maxRecDepth 100000 in
theorem ct_M_write (l : Launch) (D : va_G) (cI cQ : ClassId) (β : Nat → Nat) (n : Nat) (τ : mS) (hI : m_ok n τ.1) (x : Int32) (i : Nat) (hi : i < n) : Met l y_M_write w_M_write { frames := 0, cells := 0, slots := 0, locals := 0 } (gPc D (kty cI cQ) (mw_w cI β τ) [.ref (β 0), .int x, .int (nI i)]) (gQv D (mw_al β) (mw_w cI β (mo_write τ x i))) 0 0 (gA (mw_al β)) := by
  refine Met.ofW (cc := b_M_write) (maxL := 3) (ret := none) (by decide) rfl ?_
  intro p e s m args below meth c s₁ B hml hv
  obtain ⟨rfl, hP, hK, hD⟩ := hv
  have hx := B.exec
  have hb := B.bytes
  have hr := B.returns
  have hts : ∀ w ∈ kT, w.before [.ref (β 0), .int x, .int (nI i)].toArray s = true := fun w h => atoms_spec (ws := w_M_write) B.pre w (List.mem_cons_of_mem _ h)
  have hown : s.vm.findClass R_M = some m.cls := findClass_of_methodNamed B.named
  have hlocks := B.notSynchronized
  have hD : va_D (gA (mw_al β)) (mw_w cI β τ) := gD mw_addr hD
  have hS : va_S (gA (mw_al β)) s.heap s.heap [] := va_S.rf
  have hl := lv_entry ([.ref (β 0), .int x, .int (nI i)]) (n := 3) (Nat.le_of_ble_eq_true rfl)
  rw [lg_entry_eq]
  generalize (lg_sl ([.ref (β 0), .int x, .int (nI i)]) ++ List.replicate (3 - (lg_sl ([.ref (β 0), .int x, .int (nI i)])).length) Slot.unset).toArray = ls at hl ⊢
  have hl : lv_has ls 3 [(0, .ref (β 0)), (1, .int x), (2, .int (nI i))] := hl
  refine lv_aload_n hx hb d_M_write_0 rfl (lv_at hl 0 rfl) ?_
  refine mw_get hx hb hts hown hK hP 17 (by decide) fl_M_78 (v := .int (τ.1 17)) rfl d_M_write_1 ?_
  refine lv_sipush (v := 400) hx hb d_M_write_4 (by decide) ?_
  refine lv_icmp_ge (tgt := 46) hx hb d_M_write_7 (by decide) (fun c_7 => ?_) (fun c_7 => ?_)
  · -- to 46
    exact g_retv hx hb hr hlocks (by rw [mo_write, if_pos c_7]) hP hS d_M_write_46
  · -- on 10
    refine lv_aload_n hx hb d_M_write_10 rfl (lv_at hl 0 rfl) ?_
    refine mw_get hx hb hts hown hK hP 18 (by decide) fl_M_43 (v := .ref (β 18)) rfl d_M_write_11 ?_
    refine lv_aload_n hx hb d_M_write_14 rfl (lv_at hl 0 rfl) ?_
    refine mw_get hx hb hts hown hK hP 17 (by decide) fl_M_78 (v := .int (τ.1 17)) rfl d_M_write_15 ?_
    refine lv_sipush (v := 1000) hx hb d_M_write_18 (by decide) ?_
    refine lv_iload_n hx hb d_M_write_21 rfl (lv_at hl 1 rfl) ?_
    refine lv_imul hx hb d_M_write_22 ?_
    refine lv_bipush (v := 100) hx hb d_M_write_23 (by decide) ?_
    refine lv_iload_n hx hb d_M_write_25 rfl (lv_at hl 2 rfl) ?_
    refine lv_imul hx hb d_M_write_26 ?_
    refine lv_iadd hx hb d_M_write_27 ?_
    refine lv_aload_n hx hb d_M_write_28 rfl (lv_at hl 0 rfl) ?_
    refine mw_get hx hb hts hown hK hP 4 (by decide) fl_M_16 (v := .ref (β 4)) rfl d_M_write_29 ?_
    refine lv_iload_n hx hb d_M_write_32 rfl (lv_at hl 2 rfl) ?_
    refine mw_ald hx hb hK hP 4 (by unfold mw_as; decide) (j := i) rfl (m8 hI hi) d_M_write_33 ?_
    refine lv_iadd hx hb d_M_write_34 ?_
    refine mw_ast hx hb hK hP hD hS 18 (by unfold mw_as; decide) (j := (τ.1 17).toNatClampNeg) (ix_e (m_ok_e0 hI)) (ix_l (B := 400) (m_ok_e0 hI) c_7) d_M_write_35 (fun H locs hP hD hS => ?_)
    obtain ⟨τ1, e_τ1⟩ : ∃ ζ, ζ = m_a τ 18 ((τ.1 17).toNatClampNeg) (((1000 * x) + (100 * (nI i))) + (τ.2 4 i)) := ⟨_, rfl⟩
    rw [← e_τ1] at hP hD
    have hI : m_ok n τ1.1 := by rw [e_τ1]; exact hI
    refine lv_aload_n hx hb d_M_write_36 rfl (lv_at hl 0 rfl) ?_
    refine lv_dup hx hb d_M_write_37 rfl ?_
    refine mw_get hx hb hts hown hK hP 17 (by decide) fl_M_78 (v := .int (τ1.1 17)) rfl d_M_write_38 ?_
    refine lv_iconst (v := 1) hx hb d_M_write_41 (by decide) ?_
    refine lv_iadd hx hb d_M_write_42 ?_
    refine mw_put hx hb hts hown hK hP hD hS 17 (by unfold mw_is; decide) fl_M_78 rfl rfl rfl d_M_write_43 (fun H locs hP hD hS => ?_)
    obtain ⟨τ2, e_τ2⟩ : ∃ ζ, ζ = m_f τ1 17 ((τ1.1 17) + 1) := ⟨_, rfl⟩
    rw [← e_τ2] at hP hD
    exact g_retv hx hb hr hlocks (by rw [mo_write, if_neg c_7, e_τ2, e_τ1]) hP hS d_M_write_46

set_option maxHeartbeats 4000000 in
set_option maxRecDepth 100000 in
theorem ct_M_first (l : Launch) (D : va_G) (cI cQ : ClassId) (β : Nat → Nat) (n : Nat) (τ : mS) (hI : m_ok n τ.1) (x : Int32) : Met l y_M_first w_M_first { frames := 0, cells := 0, slots := 0, locals := 0 } (gPc D (kty cI cQ) (mw_w cI β τ) [.ref (β 0), .int x]) (QcRead (mo_firstp τ x n)) 0 0 (fun _ => False) := by
  refine Met.ofW (cc := b_M_first) (maxL := 4) (ret := some .int) (by decide) rfl ?_
  intro p e s m args below meth c s₁ B hml hv
  obtain ⟨rfl, hP, hK, hD⟩ := hv
  have hx := B.exec
  have hb := B.bytes
  have hr := B.returns
  have hts : ∀ w ∈ kT, w.before [.ref (β 0), .int x].toArray s = true := fun w h => atoms_spec (ws := w_M_first) B.pre w (List.mem_cons_of_mem _ h)
  have hown : s.vm.findClass R_M = some m.cls := findClass_of_methodNamed B.named
  have hlocks := B.notSynchronized
  have hl := lv_entry ([.ref (β 0), .int x]) (n := 4) (Nat.le_of_ble_eq_true rfl)
  rw [lg_entry_eq]
  generalize (lg_sl ([.ref (β 0), .int x]) ++ List.replicate (4 - (lg_sl ([.ref (β 0), .int x])).length) Slot.unset).toArray = ls at hl ⊢
  have hl : lv_has ls 4 [(0, .ref (β 0)), (1, .int x)] := hl
  refine lv_iconst (v := (-1)) hx hb d_M_first_0 (by decide) ?_
  refine lv_istore_n (lv' := [(2, .int (-1)), (0, .ref (β 0)), (1, .int x)]) hx hb d_M_first_1 rfl hl (by decide) rfl (fun ls hl => ?_)
  refine lv_iconst (v := 0) hx hb d_M_first_2 (by decide) ?_
  refine lv_istore_n (lv' := [(3, .int 0), (2, .int (-1)), (0, .ref (β 0)), (1, .int x)]) hx hb d_M_first_3 rfl hl (by decide) rfl (fun ls hl => ?_)
  have lp4 : ∀ (fu j : Nat) (acc : Int32) (ls : Array Slot), j ≤ n → n - j < fu → acc = mo_firstp τ x j → lv_has ls 4 [(3, .int (nI j)), (2, .int acc), (0, .ref (β 0)), (1, .int x)] → W p l e (headSpec w_M_first { frames := 0, cells := 0, slots := 0, locals := 0 }).room s m [.ref (β 0), .int x].toArray below meth c s.heap [] 0 0 (MQ below (QcRead (mo_firstp τ x n)) [.ref (β 0), .int x].toArray s 0 0 (fun _ => False)) (F0 m 4 ls []) := by
    intro fu
    induction fu with
    | zero => intro j acc ls h1 h2; omega
    | succ fu ih =>
      intro j acc ls hj4 hf4 e_acc  hl
      refine lv_iload_n hx hb d_M_first_4 rfl (lv_at hl 0 rfl) ?_
      refine lv_aload_n hx hb d_M_first_5 rfl (lv_at hl 2 rfl) ?_
      refine mw_get hx hb hts hown hK hP 1 (by decide) fl_M_50 (v := .int (τ.1 1)) rfl d_M_first_6 ?_
      refine lv_icmp_ge (tgt := 61) hx hb d_M_first_9 (by decide) (fun c_9 => ?_) (fun c_9 => ?_)
      · -- to 61
        have hx4 : j = n := mp_eqI hI c_9 hj4
        rw [hx4] at e_acc
        refine lv_iload_n hx hb d_M_first_61 rfl (lv_at hl 1 rfl) ?_
        exact r_reti hx hb hr hlocks (by rw [e_acc] <;> rfl) d_M_first_62
      · -- on 12
        have hl4 : j < n := mp_ltI hI c_9 hj4
        refine lv_aload_n hx hb d_M_first_12 rfl (lv_at hl 2 rfl) ?_
        refine mw_get hx hb hts hown hK hP 10 (by decide) fl_M_34 (v := .ref (β 10)) rfl d_M_first_13 ?_
        refine lv_iload_n hx hb d_M_first_16 rfl (lv_at hl 0 rfl) ?_
        refine mw_ald hx hb hK hP 10 (by unfold mw_as; decide) (j := j) rfl (m8 hI hl4) d_M_first_17 ?_
        refine lv_iload_n hx hb d_M_first_18 rfl (lv_at hl 3 rfl) ?_
        refine lv_icmp_ne (tgt := 53) hx hb d_M_first_19 (by decide) (fun c_19 => ?_) (fun c_19 => ?_)
        · -- to 53
          refine lv_iload_n hx hb d_M_first_53 rfl (lv_at hl 1 rfl) ?_
          refine lv_istore_n (lv' := [(2, .int acc), (3, .int (nI j)), (0, .ref (β 0)), (1, .int x)]) hx hb d_M_first_54 rfl hl (by decide) rfl (fun ls hl => ?_)
          refine lv_iinc (v := nI (j + 1)) (lv' := [(3, .int (nI (j + 1))), (2, .int acc), (0, .ref (β 0)), (1, .int x)]) hx hb d_M_first_55 hl (k := 1) rfl (nI_1 j) (by decide) rfl (fun ls hl => ?_)
          refine lv_goto (tgt := 4) hx hb d_M_first_58 (by decide) ?_
          exact ih (j + 1) acc ls (by omega) (by omega) (by rw [mo_firstp, ← e_acc] <;> simp [c_9, c_19]) (lv_sub hl [0, 1, 2, 3] rfl)
        · -- on 22
          refine lv_iload_n hx hb d_M_first_22 rfl (lv_at hl 1 rfl) ?_
          refine lv_if_lt (tgt := 49) hx hb d_M_first_23 (by decide) (fun c_23 => ?_) (fun c_23 => ?_)
          · -- to 49
            refine lv_iload_n hx hb d_M_first_49 rfl (lv_at hl 0 rfl) ?_
            refine lv_goto (tgt := 54) hx hb d_M_first_50 (by decide) ?_
            refine lv_istore_n (lv' := [(2, .int (nI j)), (3, .int (nI j)), (0, .ref (β 0)), (1, .int x)]) hx hb d_M_first_54 rfl hl (by decide) rfl (fun ls hl => ?_)
            refine lv_iinc (v := nI (j + 1)) (lv' := [(3, .int (nI (j + 1))), (2, .int (nI j)), (0, .ref (β 0)), (1, .int x)]) hx hb d_M_first_55 hl (k := 1) rfl (nI_1 j) (by decide) rfl (fun ls hl => ?_)
            refine lv_goto (tgt := 4) hx hb d_M_first_58 (by decide) ?_
            exact ih (j + 1) (nI j) ls (by omega) (by omega) (by rw [mo_firstp, ← e_acc] <;> simp [c_9, c_19, c_23]) (lv_sub hl [0, 1, 2, 3] rfl)
          · -- on 26
            refine lv_aload_n hx hb d_M_first_26 rfl (lv_at hl 2 rfl) ?_
            refine mw_get hx hb hts hown hK hP 11 (by decide) fl_M_37 (v := .ref (β 11)) rfl d_M_first_27 ?_
            refine lv_iload_n hx hb d_M_first_30 rfl (lv_at hl 0 rfl) ?_
            refine mw_ald hx hb hK hP 11 (by unfold mw_as; decide) (j := j) rfl (m8 hI hl4) d_M_first_31 ?_
            refine lv_aload_n hx hb d_M_first_32 rfl (lv_at hl 2 rfl) ?_
            refine mw_get hx hb hts hown hK hP 11 (by decide) fl_M_37 (v := .ref (β 11)) rfl d_M_first_33 ?_
            refine lv_iload_n hx hb d_M_first_36 rfl (lv_at hl 1 rfl) ?_
            refine lv_if_ge (tgt := 44) hx hb d_M_first_37 (by decide) (fun c_37 => ?_) (fun c_37 => ?_)
            · -- to 44
              refine lv_iload_n hx hb d_M_first_44 rfl (lv_at hl 1 rfl) ?_
              refine mw_ald hx hb hK hP 11 (by unfold mw_as; decide) (j := acc.toNatClampNeg) (ix_e c_23) (mo_first_8 hI c_23 e_acc hj4) d_M_first_45 ?_
              refine lv_icmp_ge (tgt := 53) hx hb d_M_first_46 (by decide) (fun c_46 => ?_) (fun c_46 => ?_)
              · -- to 53
                refine lv_iload_n hx hb d_M_first_53 rfl (lv_at hl 1 rfl) ?_
                refine lv_istore_n (lv' := [(2, .int acc), (3, .int (nI j)), (0, .ref (β 0)), (1, .int x)]) hx hb d_M_first_54 rfl hl (by decide) rfl (fun ls hl => ?_)
                refine lv_iinc (v := nI (j + 1)) (lv' := [(3, .int (nI (j + 1))), (2, .int acc), (0, .ref (β 0)), (1, .int x)]) hx hb d_M_first_55 hl (k := 1) rfl (nI_1 j) (by decide) rfl (fun ls hl => ?_)
                refine lv_goto (tgt := 4) hx hb d_M_first_58 (by decide) ?_
                exact ih (j + 1) acc ls (by omega) (by omega) (by rw [mo_firstp, ← e_acc] <;> simp [c_9, c_19, c_23, c_37, c_46]) (lv_sub hl [0, 1, 2, 3] rfl)
              · -- on 49
                refine lv_iload_n hx hb d_M_first_49 rfl (lv_at hl 0 rfl) ?_
                refine lv_goto (tgt := 54) hx hb d_M_first_50 (by decide) ?_
                refine lv_istore_n (lv' := [(2, .int (nI j)), (3, .int (nI j)), (0, .ref (β 0)), (1, .int x)]) hx hb d_M_first_54 rfl hl (by decide) rfl (fun ls hl => ?_)
                refine lv_iinc (v := nI (j + 1)) (lv' := [(3, .int (nI (j + 1))), (2, .int (nI j)), (0, .ref (β 0)), (1, .int x)]) hx hb d_M_first_55 hl (k := 1) rfl (nI_1 j) (by decide) rfl (fun ls hl => ?_)
                refine lv_goto (tgt := 4) hx hb d_M_first_58 (by decide) ?_
                exact ih (j + 1) (nI j) ls (by omega) (by omega) (by rw [mo_firstp, ← e_acc] <;> simp [c_9, c_19, c_23, c_37, c_46]) (lv_sub hl [0, 1, 2, 3] rfl)
            · -- on 40
              exact absurd (i_ge c_23) c_37
  exact lp4 (n - 0 + 1) 0 _ ls (by omega) (by omega) rfl  (lv_sub hl [0, 1, 2, 3] rfl)

set_option maxHeartbeats 4000000 in
set_option maxRecDepth 100000 in
theorem ct_M_giveBack (l : Launch) (D : va_G) (cI cQ : ClassId) (β : Nat → Nat) (n : Nat) (τ : mS) (hI : m_ok n τ.1) (z : Nat) (hz : z < 16) : Met l y_M_giveBack w_M_giveBack { frames := 1, cells := 0, slots := 0, locals := 23 } (gPc D (kty cI cQ) (mw_w cI β τ) [.ref (β 0), .int (nI z)]) (gQv D (mw_al β) (mw_w cI β (mo_gb n τ z))) 0 0 (gA (mw_al β)) := by
  refine Met.ofW (cc := b_M_giveBack) (maxL := 3) (ret := none) (by decide) rfl ?_
  intro p e s m args below meth c s₁ B hml hv
  obtain ⟨rfl, hP, hK, hD⟩ := hv
  have hx := B.exec
  have hb := B.bytes
  have hr := B.returns
  have hts : ∀ w ∈ kT, w.before [.ref (β 0), .int (nI z)].toArray s = true := fun w h => atoms_spec (ws := w_M_giveBack) B.pre w (List.mem_cons_of_mem _ h)
  have hown : s.vm.findClass R_M = some m.cls := findClass_of_methodNamed B.named
  have hlocks := B.notSynchronized
  have hD : va_D (gA (mw_al β)) (mw_w cI β τ) := gD mw_addr hD
  have hS : va_S (gA (mw_al β)) s.heap s.heap [] := va_S.rf
  have hl := lv_entry ([.ref (β 0), .int (nI z)]) (n := 3) (Nat.le_of_ble_eq_true rfl)
  rw [lg_entry_eq]
  generalize (lg_sl ([.ref (β 0), .int (nI z)]) ++ List.replicate (3 - (lg_sl ([.ref (β 0), .int (nI z)])).length) Slot.unset).toArray = ls at hl ⊢
  have hl : lv_has ls 3 [(0, .ref (β 0)), (1, .int (nI z))] := hl
  have hI0 := hI
  refine lv_aload_n hx hb d_M_giveBack_0 rfl (lv_at hl 0 rfl) ?_
  refine lv_iload_n hx hb d_M_giveBack_1 rfl (lv_at hl 1 rfl) ?_
  refine r_calli (W.runV (As := [.int (nI z)]) (rest := []) ⟨hx, hb, hml, hown, hts⟩ (ct_M_first l D cI cQ β n τ hI (nI z)) (cwV 1 hts gd_M_81 rfl rfl rfl (by decide +kernel) ⟨Nat.le_of_ble_eq_true rfl, Nat.le_of_ble_eq_true rfl⟩) (g_preV hK hP hD (ci := 2) (q0 := 0) rfl mw_0) rfl rfl hl.1 rfl (lv_room (Nat.le_of_ble_eq_true rfl)) d_M_giveBack_2 ⟨Nat.le_refl _, Nat.le_refl _⟩) ?_
  refine lv_istore_n (lv' := [(2, .int (mo_firstp τ (nI z) n)), (0, .ref (β 0)), (1, .int (nI z))]) hx hb d_M_giveBack_5 rfl hl (by decide) rfl (fun ls hl => ?_)
  obtain ⟨dd, e_dd⟩ : ∃ ζ, ζ = mo_firstp τ (nI z) n := ⟨_, rfl⟩
  rw [← e_dd] at hl
  refine lv_aload_n hx hb d_M_giveBack_6 rfl (lv_at hl 1 rfl) ?_
  refine mw_get hx hb hts hown hK hP 8 (by decide) fl_M_28 (v := .ref (β 8)) rfl d_M_giveBack_7 ?_
  refine lv_iload_n hx hb d_M_giveBack_10 rfl (lv_at hl 2 rfl) ?_
  refine lv_iload_n hx hb d_M_giveBack_11 rfl (lv_at hl 0 rfl) ?_
  refine mw_ast hx hb hK hP hD hS 8 (by unfold mw_as; decide) (j := z) rfl hz d_M_giveBack_12 (fun H locs hP hD hS => ?_)
  obtain ⟨τ1, e_τ1⟩ : ∃ ζ, ζ = m_a τ 8 z dd := ⟨_, rfl⟩
  rw [← e_τ1] at hP hD
  have hI : m_ok n τ1.1 := by rw [e_τ1]; exact hI
  refine lv_aload_n hx hb d_M_giveBack_13 rfl (lv_at hl 1 rfl) ?_
  refine mw_get hx hb hts hown hK hP 9 (by decide) fl_M_31 (v := .ref (β 9)) rfl d_M_giveBack_14 ?_
  refine lv_iload_n hx hb d_M_giveBack_17 rfl (lv_at hl 2 rfl) ?_
  refine lv_aload_n hx hb d_M_giveBack_18 rfl (lv_at hl 1 rfl) ?_
  refine mw_get hx hb hts hown hK hP 19 (by decide) fl_M_84 (v := .int (τ1.1 19)) rfl d_M_giveBack_19 ?_
  refine mw_ast hx hb hK hP hD hS 9 (by unfold mw_as; decide) (j := z) rfl hz d_M_giveBack_22 (fun H locs hP hD hS => ?_)
  obtain ⟨τ2, e_τ2⟩ : ∃ ζ, ζ = m_a τ1 9 z (τ1.1 19) := ⟨_, rfl⟩
  rw [← e_τ2] at hP hD
  have hI : m_ok n τ2.1 := by rw [e_τ2]; exact hI
  refine lv_iload_n hx hb d_M_giveBack_23 rfl (lv_at hl 0 rfl) ?_
  refine lv_if_lt (tgt := 41) hx hb d_M_giveBack_24 (by decide) (fun c_24 => ?_) (fun c_24 => ?_)
  · -- to 41
    exact g_retv hx hb hr hlocks (by simp only [mo_gb]; rw [← e_dd, if_pos c_24, e_τ2, e_τ1]) hP hS d_M_giveBack_41
  · -- on 27
    refine lv_aload_n hx hb d_M_giveBack_27 rfl (lv_at hl 1 rfl) ?_
    refine mw_get hx hb hts hown hK hP 10 (by decide) fl_M_34 (v := .ref (β 10)) rfl d_M_giveBack_28 ?_
    refine lv_iload_n hx hb d_M_giveBack_31 rfl (lv_at hl 0 rfl) ?_
    refine lv_iconst (v := (-1)) hx hb d_M_giveBack_32 (by decide) ?_
    refine mw_ast hx hb hK hP hD hS 10 (by unfold mw_as; decide) (j := dd.toNatClampNeg) (ix_e c_24) (mo_first_8 hI0 c_24 e_dd (Nat.le_refl n)) d_M_giveBack_33 (fun H locs hP hD hS => ?_)
    obtain ⟨τ3, e_τ3⟩ : ∃ ζ, ζ = m_a τ2 10 dd.toNatClampNeg (-1) := ⟨_, rfl⟩
    rw [← e_τ3] at hP hD
    have hI : m_ok n τ3.1 := by rw [e_τ3]; exact hI
    refine lv_aload_n hx hb d_M_giveBack_34 rfl (lv_at hl 1 rfl) ?_
    refine mw_get hx hb hts hown hK hP 6 (by decide) fl_M_22 (v := .ref (β 6)) rfl d_M_giveBack_35 ?_
    refine lv_iload_n hx hb d_M_giveBack_38 rfl (lv_at hl 0 rfl) ?_
    refine lv_iconst (v := 0) hx hb d_M_giveBack_39 (by decide) ?_
    refine mw_ast hx hb hK hP hD hS 6 (by unfold mw_as; decide) (j := dd.toNatClampNeg) (ix_e c_24) (mo_first_8 hI0 c_24 e_dd (Nat.le_refl n)) d_M_giveBack_40 (fun H locs hP hD hS => ?_)
    obtain ⟨τ4, e_τ4⟩ : ∃ ζ, ζ = m_a τ3 6 dd.toNatClampNeg 0 := ⟨_, rfl⟩
    rw [← e_τ4] at hP hD
    have hI : m_ok n τ4.1 := by rw [e_τ4]; exact hI
    exact g_retv hx hb hr hlocks (by simp only [mo_gb]; rw [← e_dd, if_neg c_24, e_τ4, e_τ3, e_τ2, e_τ1]) hP hS d_M_giveBack_41

set_option maxHeartbeats 4000000 in
set_option maxRecDepth 100000 in
theorem ct_M_giveAll (l : Launch) (D : va_G) (cI cQ : ClassId) (β : Nat → Nat) (n : Nat) (τ : mS) (hI : m_ok n τ.1) (i : Nat) (hi : i < n) : Met l y_M_giveAll w_M_giveAll { frames := 2, cells := 0, slots := 0, locals := 45 } (gPc D (kty cI cQ) (mw_w cI β τ) [.ref (β 0), .int (nI i)]) (gQv D (mw_al β) (mw_w cI β (mo_ga n τ i))) 0 0 (gA (mw_al β)) := by
  refine Met.ofW (cc := b_M_giveAll) (maxL := 4) (ret := none) (by decide) rfl ?_
  intro p e s m args below meth c s₁ B hml hv
  obtain ⟨rfl, hP, hK, hD⟩ := hv
  have hx := B.exec
  have hb := B.bytes
  have hr := B.returns
  have hts : ∀ w ∈ kT, w.before [.ref (β 0), .int (nI i)].toArray s = true := fun w h => atoms_spec (ws := w_M_giveAll) B.pre w (List.mem_cons_of_mem _ h)
  have hown : s.vm.findClass R_M = some m.cls := findClass_of_methodNamed B.named
  have hlocks := B.notSynchronized
  have hD : va_D (gA (mw_al β)) (mw_w cI β τ) := gD mw_addr hD
  have hS : va_S (gA (mw_al β)) s.heap s.heap [] := va_S.rf
  have hl := lv_entry ([.ref (β 0), .int (nI i)]) (n := 4) (Nat.le_of_ble_eq_true rfl)
  rw [lg_entry_eq]
  generalize (lg_sl ([.ref (β 0), .int (nI i)]) ++ List.replicate (4 - (lg_sl ([.ref (β 0), .int (nI i)])).length) Slot.unset).toArray = ls at hl ⊢
  have hl : lv_has ls 4 [(0, .ref (β 0)), (1, .int (nI i))] := hl
  refine lv_aload_n hx hb d_M_giveAll_0 rfl (lv_at hl 0 rfl) ?_
  refine lv_iload_n hx hb d_M_giveAll_1 rfl (lv_at hl 1 rfl) ?_
  refine r_calli (W.runV (As := [.int (nI i)]) (rest := []) ⟨hx, hb, hml, hown, hts⟩ (ct_M_held l D cI cQ β n τ hI (nI i)) (cwV 1 hts gd_M_65 rfl rfl rfl (by decide +kernel) ⟨Nat.le_of_ble_eq_true rfl, Nat.le_of_ble_eq_true rfl⟩) (g_preV hK hP hD (ci := 2) (q0 := 0) rfl mw_0) rfl rfl hl.1 rfl (lv_room (Nat.le_of_ble_eq_true rfl)) d_M_giveAll_2 ⟨Nat.le_refl _, Nat.le_refl _⟩) ?_
  refine lv_istore_n (lv' := [(2, .int (mo_held τ (nI i))), (0, .ref (β 0)), (1, .int (nI i))]) hx hb d_M_giveAll_5 rfl hl (by decide) rfl (fun ls hl => ?_)
  obtain ⟨vv, e_vv⟩ : ∃ ζ, ζ = mo_held τ (nI i) := ⟨_, rfl⟩
  rw [← e_vv] at hl
  refine lv_iconst (v := 0) hx hb d_M_giveAll_6 (by decide) ?_
  refine lv_istore_n (lv' := [(3, .int 0), (2, .int vv), (0, .ref (β 0)), (1, .int (nI i))]) hx hb d_M_giveAll_7 rfl hl (by decide) rfl (fun ls hl => ?_)
  have lp8 : ∀ (fu j : Nat) (ς : mS) (H : Heap) (locs : List Loc) (ls : Array Slot), j ≤ 16 → 16 - j < fu → ς = mo_gap n vv τ j → va_P D kcl (mw_w cI β ς) H → va_D (gA (mw_al β)) (mw_w cI β ς) → va_S (gA (mw_al β)) s.heap H locs → lv_has ls 4 [(3, .int (nI j)), (0, .ref (β 0)), (1, .int (nI i)), (2, .int vv)] → W p l e (headSpec w_M_giveAll { frames := 2, cells := 0, slots := 0, locals := 45 }).room s m [.ref (β 0), .int (nI i)].toArray below meth c H locs 0 0 (MQ below (gQv D (mw_al β) (mw_w cI β (mo_ga n τ i))) [.ref (β 0), .int (nI i)].toArray s 0 0 (gA (mw_al β))) (F0 m 8 ls []) := by
    intro fu
    induction fu with
    | zero => intro j  ς H locs ls h1 h2; omega
    | succ fu ih =>
      intro j  ς H locs ls hj8 hf8   e_ς hP hD hS hl
      have hI : m_ok n ς.1 := by rw [e_ς, mo_gap_1]; exact hI
      refine lv_iload_n hx hb d_M_giveAll_8 rfl (lv_at hl 0 rfl) ?_
      refine lv_bipush (v := 16) hx hb d_M_giveAll_9 (by decide) ?_
      refine lv_icmp_ge (tgt := 34) hx hb d_M_giveAll_11 (by decide) (fun c_11 => ?_) (fun c_11 => ?_)
      · -- to 34
        have hx8 : j = 16 := lp_eq (B := 16) (hn := (by decide)) c_11 hj8
        subst hx8
        exact g_retv hx hb hr hlocks (by rw [e_ς, mo_ga, e_vv]) hP hS d_M_giveAll_34
      · -- on 14
        have hl8 : j < 16 := lp_lt (B := 16) (hn := (by decide)) c_11 hj8
        refine lv_iload_n hx hb d_M_giveAll_14 rfl (lv_at hl 3 rfl) ?_
        refine lv_iload_n hx hb d_M_giveAll_15 rfl (lv_at hl 0 rfl) ?_
        refine lv_ishr hx hb d_M_giveAll_16 ?_
        refine lv_iconst (v := 1) hx hb d_M_giveAll_17 (by decide) ?_
        refine lv_iand hx hb d_M_giveAll_18 ?_
        refine lv_iconst (v := 1) hx hb d_M_giveAll_19 (by decide) ?_
        refine lv_icmp_ne (tgt := 28) hx hb d_M_giveAll_20 (by decide) (fun c_20 => ?_) (fun c_20 => ?_)
        · -- to 28
          refine lv_iinc (v := nI (j + 1)) (lv' := [(3, .int (nI (j + 1))), (0, .ref (β 0)), (1, .int (nI i)), (2, .int vv)]) hx hb d_M_giveAll_28 hl (k := 0) rfl (nI_1 j) (by decide) rfl (fun ls hl => ?_)
          refine lv_goto (tgt := 8) hx hb d_M_giveAll_31 (by decide) ?_
          exact ih (j + 1)  _ _ _ ls (by omega) (by omega)  (by rw [mo_gap, ← e_ς, if_neg c_20]) hP hD hS (lv_sub hl [0, 1, 2, 3] rfl)
        · -- on 23
          refine lv_aload_n hx hb d_M_giveAll_23 rfl (lv_at hl 1 rfl) ?_
          refine lv_iload_n hx hb d_M_giveAll_24 rfl (lv_at hl 0 rfl) ?_
          refine g_callv (va_runV (As := [.int (nI j)]) (rest := []) ⟨hx, hb, hml, hown, hts⟩ (ct_M_giveBack l D cI cQ β n ς hI j hl8) (cwV 1 hts gd_M_87 rfl rfl rfl (by decide +kernel) ⟨Nat.le_of_ble_eq_true rfl, Nat.le_of_ble_eq_true rfl⟩) (g_preV hK hP hD (ci := 2) (q0 := 0) rfl mw_0) rfl rfl hl.1 rfl (lv_room (Nat.le_of_ble_eq_true rfl)) d_M_giveAll_25 ⟨Nat.le_refl _, Nat.le_refl _⟩) hD hS (mw_addr.trans mw_addr.symm) (fun H locs hP hD hS => ?_)
          obtain ⟨τ1, e_τ1⟩ : ∃ ζ, ζ = mo_gb n ς j := ⟨_, rfl⟩
          rw [← e_τ1] at hP hD
          have hI : m_ok n τ1.1 := by rw [e_τ1]; exact (by rw [mo_gb_1]; exact hI)
          refine lv_iinc (v := nI (j + 1)) (lv' := [(3, .int (nI (j + 1))), (0, .ref (β 0)), (1, .int (nI i)), (2, .int vv)]) hx hb d_M_giveAll_28 hl (k := 0) rfl (nI_1 j) (by decide) rfl (fun ls hl => ?_)
          refine lv_goto (tgt := 8) hx hb d_M_giveAll_31 (by decide) ?_
          exact ih (j + 1)  _ _ _ ls (by omega) (by omega)  (by rw [e_τ1, mo_gap, ← e_ς, if_pos c_20]) hP hD hS (lv_sub hl [0, 1, 2, 3] rfl)
  exact lp8 (16 - 0 + 1) 0  _ _ _ ls (by omega) (by omega)   rfl hP hD hS (lv_sub hl [0, 2, 3, 1] rfl)

set_option maxHeartbeats 4000000 in
set_option maxRecDepth 100000 in
theorem ct_M_goesOn (l : Launch) (D : va_G) (cI cQ : ClassId) (β : Nat → Nat) (n : Nat) (τ : mS) (hI : m_ok n τ.1) (i : Nat) (hi : i < n) : Met l y_M_goesOn w_M_goesOn { frames := 0, cells := 0, slots := 0, locals := 0 } (gPc D (kty cI cQ) (mw_w cI β τ) [.ref (β 0), .int (nI i)]) (gQv D (mw_al β) (mw_w cI β (mo_goes τ i))) 0 0 (gA (mw_al β)) := by
  refine Met.ofW (cc := b_M_goesOn) (maxL := 2) (ret := none) (by decide) rfl ?_
  intro p e s m args below meth c s₁ B hml hv
  obtain ⟨rfl, hP, hK, hD⟩ := hv
  have hx := B.exec
  have hb := B.bytes
  have hr := B.returns
  have hts : ∀ w ∈ kT, w.before [.ref (β 0), .int (nI i)].toArray s = true := fun w h => atoms_spec (ws := w_M_goesOn) B.pre w (List.mem_cons_of_mem _ h)
  have hown : s.vm.findClass R_M = some m.cls := findClass_of_methodNamed B.named
  have hlocks := B.notSynchronized
  have hD : va_D (gA (mw_al β)) (mw_w cI β τ) := gD mw_addr hD
  have hS : va_S (gA (mw_al β)) s.heap s.heap [] := va_S.rf
  have hl := lv_entry ([.ref (β 0), .int (nI i)]) (n := 2) (Nat.le_of_ble_eq_true rfl)
  rw [lg_entry_eq]
  generalize (lg_sl ([.ref (β 0), .int (nI i)]) ++ List.replicate (2 - (lg_sl ([.ref (β 0), .int (nI i)])).length) Slot.unset).toArray = ls at hl ⊢
  have hl : lv_has ls 2 [(0, .ref (β 0)), (1, .int (nI i))] := hl
  refine lv_aload_n hx hb d_M_goesOn_0 rfl (lv_at hl 0 rfl) ?_
  refine mw_get hx hb hts hown hK hP 4 (by decide) fl_M_16 (v := .ref (β 4)) rfl d_M_goesOn_1 ?_
  refine lv_iload_n hx hb d_M_goesOn_4 rfl (lv_at hl 1 rfl) ?_
  refine lv_dup2_11 hx hb d_M_goesOn_5 rfl rfl ?_
  refine mw_ald hx hb hK hP 4 (by unfold mw_as; decide) (j := i) rfl (m8 hI hi) d_M_goesOn_6 ?_
  refine lv_iconst (v := 1) hx hb d_M_goesOn_7 (by decide) ?_
  refine lv_iadd hx hb d_M_goesOn_8 ?_
  refine mw_ast hx hb hK hP hD hS 4 (by unfold mw_as; decide) (j := i) rfl (m8 hI hi) d_M_goesOn_9 (fun H locs hP hD hS => ?_)
  obtain ⟨τ1, e_τ1⟩ : ∃ ζ, ζ = m_a τ 4 i ((τ.2 4 i) + 1) := ⟨_, rfl⟩
  rw [← e_τ1] at hP hD
  have hI : m_ok n τ1.1 := by rw [e_τ1]; exact hI
  refine lv_aload_n hx hb d_M_goesOn_10 rfl (lv_at hl 0 rfl) ?_
  refine mw_get hx hb hts hown hK hP 6 (by decide) fl_M_22 (v := .ref (β 6)) rfl d_M_goesOn_11 ?_
  refine lv_iload_n hx hb d_M_goesOn_14 rfl (lv_at hl 1 rfl) ?_
  refine lv_aload_n hx hb d_M_goesOn_15 rfl (lv_at hl 0 rfl) ?_
  refine mw_get hx hb hts hown hK hP 4 (by decide) fl_M_16 (v := .ref (β 4)) rfl d_M_goesOn_16 ?_
  refine lv_iload_n hx hb d_M_goesOn_19 rfl (lv_at hl 1 rfl) ?_
  refine mw_ald hx hb hK hP 4 (by unfold mw_as; decide) (j := i) rfl (m8 hI hi) d_M_goesOn_20 ?_
  refine lv_aload_n hx hb d_M_goesOn_21 rfl (lv_at hl 0 rfl) ?_
  refine mw_get hx hb hts hown hK hP 2 (by decide) fl_M_7 (v := .ref (β 2)) rfl d_M_goesOn_22 ?_
  refine lv_iload_n hx hb d_M_goesOn_25 rfl (lv_at hl 1 rfl) ?_
  refine mw_ald hx hb hK hP 2 (by unfold mw_as; decide) (j := i) rfl (m8 hI hi) d_M_goesOn_26 ?_
  refine lv_icmp_ne (tgt := 34) hx hb d_M_goesOn_27 (by decide) (fun c_27 => ?_) (fun c_27 => ?_)
  · -- to 34
    refine lv_iconst (v := 0) hx hb d_M_goesOn_34 (by decide) ?_
    refine mw_ast hx hb hK hP hD hS 6 (by unfold mw_as; decide) (j := i) rfl (m8 hI hi) d_M_goesOn_35 (fun H locs hP hD hS => ?_)
    obtain ⟨τ2, e_τ2⟩ : ∃ ζ, ζ = m_a τ1 6 i 0 := ⟨_, rfl⟩
    rw [← e_τ2] at hP hD
    have hI : m_ok n τ2.1 := by rw [e_τ2]; exact hI
    exact g_retv hx hb hr hlocks (by simp only [mo_goes]; rw [← e_τ1, if_neg c_27, e_τ2]) hP hS d_M_goesOn_36
  · -- on 30
    refine lv_iconst (v := 2) hx hb d_M_goesOn_30 (by decide) ?_
    refine lv_goto (tgt := 35) hx hb d_M_goesOn_31 (by decide) ?_
    refine mw_ast hx hb hK hP hD hS 6 (by unfold mw_as; decide) (j := i) rfl (m8 hI hi) d_M_goesOn_35 (fun H locs hP hD hS => ?_)
    obtain ⟨τ3, e_τ3⟩ : ∃ ζ, ζ = m_a τ1 6 i 2 := ⟨_, rfl⟩
    rw [← e_τ3] at hP hD
    have hI : m_ok n τ3.1 := by rw [e_τ3]; exact hI
    exact g_retv hx hb hr hlocks (by simp only [mo_goes]; rw [← e_τ1, if_pos c_27, e_τ3]) hP hS d_M_goesOn_36
