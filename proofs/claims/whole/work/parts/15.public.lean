set_option maxHeartbeats 4000000 in
set_option maxRecDepth 100000 in
theorem ct_I_bitCount (l : Launch)  (x : Int32) : Met l y_I_bitCount w_I_bitCount { frames := 0, cells := 0, slots := 0, locals := 0 } (fun v _ => v = [.int x].toArray) (QcRead (bc x)) 0 0 (fun _ => False) := by
  refine Met.ofW (cc := b_I_bitCount) (maxL := 1) (ret := some .int) (by decide) rfl ?_
  intro p e s m args below meth c s₁ B hml hv
  subst hv
  have hx := B.exec
  have hb := B.bytes
  have hr := B.returns
  have hts : ∀ w ∈ kT, w.before [.int x].toArray s = true := fun w h => atoms_spec (ws := w_I_bitCount) B.pre w (List.mem_cons_of_mem _ h)
  have hown : s.vm.findClass R_I = some m.cls := findClass_of_methodNamed B.named
  have hlocks := B.notSynchronized
  have hl := lv_entry ([.int x]) (n := 1) (Nat.le_of_ble_eq_true rfl)
  rw [lg_entry_eq]
  generalize (lg_sl ([.int x]) ++ List.replicate (1 - (lg_sl ([.int x])).length) Slot.unset).toArray = ls at hl ⊢
  have hl : lv_has ls 1 [(0, .int x)] := hl
  refine lv_iload_n hx hb d_I_bitCount_0 rfl (lv_at hl 0 rfl) ?_
  refine lv_iload_n hx hb d_I_bitCount_1 rfl (lv_at hl 0 rfl) ?_
  refine lv_iconst (v := 1) hx hb d_I_bitCount_2 (by decide) ?_
  refine lv_iushr (v := us x 1) hx hb d_I_bitCount_3 rfl ?_
  refine lv_ldcw (v := 1431655765) hx hb hown (hts _ kc_I_265) d_I_bitCount_4 ?_
  refine lv_iand hx hb d_I_bitCount_7 ?_
  refine lv_isub hx hb d_I_bitCount_8 ?_
  refine lv_istore_n (lv' := [(0, .int (x - ((us x 1) &&& 1431655765)))]) hx hb d_I_bitCount_9 rfl hl (by decide) rfl (fun ls hl => ?_)
  have hl : lv_has ls 1 [(0, .int (bc1 x))] := hl
  refine lv_iload_n hx hb d_I_bitCount_10 rfl (lv_at hl 0 rfl) ?_
  refine lv_ldcw (v := 858993459) hx hb hown (hts _ kc_I_266) d_I_bitCount_11 ?_
  refine lv_iand hx hb d_I_bitCount_14 ?_
  refine lv_iload_n hx hb d_I_bitCount_15 rfl (lv_at hl 0 rfl) ?_
  refine lv_iconst (v := 2) hx hb d_I_bitCount_16 (by decide) ?_
  refine lv_iushr (v := us (bc1 x) 2) hx hb d_I_bitCount_17 rfl ?_
  refine lv_ldcw (v := 858993459) hx hb hown (hts _ kc_I_266) d_I_bitCount_18 ?_
  refine lv_iand hx hb d_I_bitCount_21 ?_
  refine lv_iadd hx hb d_I_bitCount_22 ?_
  refine lv_istore_n (lv' := [(0, .int (((bc1 x) &&& 858993459) + ((us (bc1 x) 2) &&& 858993459)))]) hx hb d_I_bitCount_23 rfl hl (by decide) rfl (fun ls hl => ?_)
  have hl : lv_has ls 1 [(0, .int (bc2 (bc1 x)))] := hl
  refine lv_iload_n hx hb d_I_bitCount_24 rfl (lv_at hl 0 rfl) ?_
  refine lv_iload_n hx hb d_I_bitCount_25 rfl (lv_at hl 0 rfl) ?_
  refine lv_iconst (v := 4) hx hb d_I_bitCount_26 (by decide) ?_
  refine lv_iushr (v := us (bc2 (bc1 x)) 4) hx hb d_I_bitCount_27 rfl ?_
  refine lv_iadd hx hb d_I_bitCount_28 ?_
  refine lv_ldcw (v := 252645135) hx hb hown (hts _ kc_I_267) d_I_bitCount_29 ?_
  refine lv_iand hx hb d_I_bitCount_32 ?_
  refine lv_istore_n (lv' := [(0, .int (((bc2 (bc1 x)) + (us (bc2 (bc1 x)) 4)) &&& 252645135))]) hx hb d_I_bitCount_33 rfl hl (by decide) rfl (fun ls hl => ?_)
  have hl : lv_has ls 1 [(0, .int (bc3 (bc2 (bc1 x))))] := hl
  refine lv_iload_n hx hb d_I_bitCount_34 rfl (lv_at hl 0 rfl) ?_
  refine lv_iload_n hx hb d_I_bitCount_35 rfl (lv_at hl 0 rfl) ?_
  refine lv_bipush (v := 8) hx hb d_I_bitCount_36 (by decide) ?_
  refine lv_iushr (v := us (bc3 (bc2 (bc1 x))) 8) hx hb d_I_bitCount_38 rfl ?_
  refine lv_iadd hx hb d_I_bitCount_39 ?_
  refine lv_istore_n (lv' := [(0, .int ((bc3 (bc2 (bc1 x))) + (us (bc3 (bc2 (bc1 x))) 8)))]) hx hb d_I_bitCount_40 rfl hl (by decide) rfl (fun ls hl => ?_)
  have hl : lv_has ls 1 [(0, .int (bc4 (bc3 (bc2 (bc1 x)))))] := hl
  refine lv_iload_n hx hb d_I_bitCount_41 rfl (lv_at hl 0 rfl) ?_
  refine lv_iload_n hx hb d_I_bitCount_42 rfl (lv_at hl 0 rfl) ?_
  refine lv_bipush (v := 16) hx hb d_I_bitCount_43 (by decide) ?_
  refine lv_iushr (v := us (bc4 (bc3 (bc2 (bc1 x)))) 16) hx hb d_I_bitCount_45 rfl ?_
  refine lv_iadd hx hb d_I_bitCount_46 ?_
  refine lv_istore_n (lv' := [(0, .int ((bc4 (bc3 (bc2 (bc1 x)))) + (us (bc4 (bc3 (bc2 (bc1 x)))) 16)))]) hx hb d_I_bitCount_47 rfl hl (by decide) rfl (fun ls hl => ?_)
  have hl : lv_has ls 1 [(0, .int (bc5 (bc4 (bc3 (bc2 (bc1 x))))))] := hl
  refine lv_iload_n hx hb d_I_bitCount_48 rfl (lv_at hl 0 rfl) ?_
  refine lv_bipush (v := 63) hx hb d_I_bitCount_49 (by decide) ?_
  refine lv_iand hx hb d_I_bitCount_51 ?_
  exact r_reti hx hb hr hlocks rfl d_I_bitCount_52

set_option maxHeartbeats 4000000 in
set_option maxRecDepth 100000 in
theorem ct_K_needs (l : Launch) (D : va_G) (cI cQ : ClassId) (α ad an : Nat → Nat) (n : Nat) (σ : kS) (hI : k_ok n σ.1) (x y z : Int32) : Met l y_K_needs w_K_needs { frames := 2, cells := 0, slots := 0, locals := 44 } (gPc D (kty cI cQ) (kw_w cI cQ α ad an n σ) [.ref (α 0), .int x, .int y, .int z]) (gQi D (kw_al α ad an n) ((kp_needs n σ x y z).1) (kw_w cI cQ α ad an n ((kp_needs n σ x y z).2))) 0 0 (gA (kw_al α ad an n)) := by
  refine Met.ofW (cc := b_K_needs) (maxL := 5) (ret := some .boolean) (by decide) rfl ?_
  intro p e s m args below meth c s₁ B hml hv
  obtain ⟨rfl, hP, hK, hD⟩ := hv
  have hx := B.exec
  have hb := B.bytes
  have hr := B.returns
  have hts : ∀ w ∈ kT, w.before [.ref (α 0), .int x, .int y, .int z].toArray s = true := fun w h => atoms_spec (ws := w_K_needs) B.pre w (List.mem_cons_of_mem _ h)
  have hown : s.vm.findClass R_K = some m.cls := findClass_of_methodNamed B.named
  have hlocks := B.notSynchronized
  have hD : va_D (gA (kw_al α ad an n)) (kw_w cI cQ α ad an n σ) := gD kw_adr hD
  have hS : va_S (gA (kw_al α ad an n)) s.heap s.heap [] := va_S.rf
  have hl := lv_entry ([.ref (α 0), .int x, .int y, .int z]) (n := 5) (Nat.le_of_ble_eq_true rfl)
  rw [lg_entry_eq]
  generalize (lg_sl ([.ref (α 0), .int x, .int y, .int z]) ++ List.replicate (5 - (lg_sl ([.ref (α 0), .int x, .int y, .int z])).length) Slot.unset).toArray = ls at hl ⊢
  have hl : lv_has ls 5 [(0, .ref (α 0)), (1, .int x), (2, .int y), (3, .int z)] := hl
  refine lv_aload_n hx hb d_K_needs_0 rfl (lv_at hl 0 rfl) ?_
  refine lv_iload_n hx hb d_K_needs_1 rfl (lv_at hl 1 rfl) ?_
  refine r_callq (W.runV (As := [.int x]) (rest := []) ⟨hx, hb, hml, hown, hts⟩ (ct_K_deskAt l D cI cQ α ad an n σ hI x) (cwV 1 hts gd_K_77 rfl rfl rfl (by decide +kernel) ⟨Nat.le_of_ble_eq_true rfl, Nat.le_of_ble_eq_true rfl⟩) (g_preV hK hP hD (ci := 0) (q0 := 0) rfl kw_0) rfl rfl hl.1 rfl (lv_room (Nat.le_of_ble_eq_true rfl)) d_K_needs_2 ⟨Nat.le_refl _, Nat.le_refl _⟩) ?_
  rcases q_2 : kd_at n x with _ | i1
  · -- nobody
    refine W.eq (g2 := F0 m 5 ls [.null]) rfl ?_
    refine lv_astoreN (lv' := [(4, .null), (0, .ref (α 0)), (1, .int x), (2, .int y), (3, .int z)]) hx hb d_K_needs_5 hl (by decide) rfl (fun ls hl => ?_)
    refine lv_aload_n hx hb d_K_needs_7 rfl (lv_at hl 1 rfl) ?_
    refine kw_get hx hb hts hown hK hP 12 (by decide) fl_K_50 (v := .int (σ.1 12)) rfl d_K_needs_8 ?_
    refine lv_if_ne (tgt := 26) hx hb d_K_needs_11 (by decide) (fun c_11 => ?_) (fun c_11 => ?_)
    · -- to 26
      refine lv_iconst (v := 0) hx hb d_K_needs_26 (by decide) ?_
      exact g_retz hx hb hr hlocks (by decide) (by rw [kp_needs, q_2]) (by rw [kp_needs, q_2]) hP hS d_K_needs_27
    · -- on 14
      refine lv_aloadN hx hb d_K_needs_14 (lv_at hl 0 rfl) ?_
      refine lv_ifnullN (tgt := 26) hx hb d_K_needs_16 (by decide) ?_
      refine lv_iconst (v := 0) hx hb d_K_needs_26 (by decide) ?_
      exact g_retz hx hb hr hlocks (by decide) (by rw [kp_needs, q_2]) (by rw [kp_needs, q_2]) hP hS d_K_needs_27
  · -- i1
    have hi1 : i1 < n := kd_at_lt hI q_2
    refine W.eq (g2 := F0 m 5 ls [.ref (ad i1)]) rfl ?_
    refine lv_astore (lv' := [(4, .ref (ad i1)), (0, .ref (α 0)), (1, .int x), (2, .int y), (3, .int z)]) hx hb d_K_needs_5 hl (by decide) rfl (fun ls hl => ?_)
    refine lv_aload_n hx hb d_K_needs_7 rfl (lv_at hl 1 rfl) ?_
    refine kw_get hx hb hts hown hK hP 12 (by decide) fl_K_50 (v := .int (σ.1 12)) rfl d_K_needs_8 ?_
    refine lv_if_ne (tgt := 26) hx hb d_K_needs_11 (by decide) (fun c_11 => ?_) (fun c_11 => ?_)
    · -- to 26
      refine lv_iconst (v := 0) hx hb d_K_needs_26 (by decide) ?_
      exact g_retz hx hb hr hlocks (by decide) (by rw [kp_needs, q_2]; dsimp only; rw [if_neg c_11]) (by rw [kp_needs, q_2]; dsimp only; rw [if_neg c_11]) hP hS d_K_needs_27
    · -- on 14
      refine lv_aload hx hb d_K_needs_14 (lv_at hl 0 rfl) ?_
      refine lv_ifnull hx hb d_K_needs_16 ?_
      refine lv_iload_n hx hb d_K_needs_19 rfl (lv_at hl 4 rfl) ?_
      refine r_calli (W.runS (As := [.int z]) (rest := []) ⟨hx, hb, hml, hown, hts⟩ (ct_K_isSubject l z) (cwS 1 hts gd_K_81 rfl rfl rfl (by decide +kernel) ⟨Nat.le_of_ble_eq_true rfl, Nat.le_of_ble_eq_true rfl⟩) preEq rfl rfl hl.1 rfl (lv_room (Nat.le_of_ble_eq_true rfl)) d_K_needs_20 ⟨Nat.le_refl _, Nat.le_refl _⟩) ?_
      refine lv_if_ne (tgt := 28) hx hb d_K_needs_23 (by decide) (fun c_23 => ?_) (fun c_23 => ?_)
      · -- to 28
        refine lv_aload hx hb d_K_needs_28 (lv_at hl 0 rfl) ?_
        refine lv_iload_n hx hb d_K_needs_30 rfl (lv_at hl 3 rfl) ?_
        refine r_calli (W.runV (As := [.int y]) (rest := []) ⟨hx, hb, hml, hown, hts⟩ (ct_D_isAhead l D cI cQ α ad an n σ hI i1 hi1 y) (cwV 1 hts gd_K_85 rfl rfl rfl (by decide +kernel) ⟨Nat.le_of_ble_eq_true rfl, Nat.le_of_ble_eq_true rfl⟩) (g_preV hK hP hD (ci := 1) (q0 := 6 + i1) rfl (kw_3 hi1)) rfl rfl hl.1 rfl (lv_room (Nat.le_of_ble_eq_true rfl)) d_K_needs_31 ⟨Nat.le_refl _, Nat.le_refl _⟩) ?_
        refine lv_if_eq (tgt := 47) hx hb d_K_needs_34 (by decide) (fun c_34 => ?_) (fun c_34 => ?_)
        · -- to 47
          refine lv_iconst (v := 0) hx hb d_K_needs_47 (by decide) ?_
          exact g_retz hx hb hr hlocks (by decide) (by rw [kp_needs, q_2]; dsimp only; rw [if_pos c_11, if_neg c_23, if_pos c_34]) (by rw [kp_needs, q_2]; dsimp only; rw [if_pos c_11, if_neg c_23, if_pos c_34]) hP hS d_K_needs_48
        · -- on 37
          refine lv_aload hx hb d_K_needs_37 (lv_at hl 0 rfl) ?_
          refine lv_iload_n hx hb d_K_needs_39 rfl (lv_at hl 3 rfl) ?_
          refine lv_iload_n hx hb d_K_needs_40 rfl (lv_at hl 4 rfl) ?_
          refine r_calli (W.runV (As := [.int y, .int z]) (rest := []) ⟨hx, hb, hml, hown, hts⟩ (ct_D_hasNeed l D cI cQ α ad an n σ hI i1 hi1 y z) (cwV 2 hts gd_K_88 rfl rfl rfl (by decide +kernel) ⟨Nat.le_of_ble_eq_true rfl, Nat.le_of_ble_eq_true rfl⟩) (g_preV hK hP hD (ci := 1) (q0 := 6 + i1) rfl (kw_3 hi1)) rfl rfl hl.1 rfl (lv_room (Nat.le_of_ble_eq_true rfl)) d_K_needs_41 ⟨Nat.le_refl _, Nat.le_refl _⟩) ?_
          refine lv_if_eq (tgt := 49) hx hb d_K_needs_44 (by decide) (fun c_44 => ?_) (fun c_44 => ?_)
          · -- to 49
            refine lv_iload_n hx hb d_K_needs_49 rfl (lv_at hl 3 rfl) ?_
            refine lv_aload hx hb d_K_needs_50 (lv_at hl 0 rfl) ?_
            refine kw_dget hx hb hts hown hK hP hi1 4 (by decide) fl_K_92 (v := .int (σ.2.2.1 i1 4)) rfl d_K_needs_52 ?_
            refine lv_icmp_ne (tgt := 69) hx hb d_K_needs_55 (by decide) (fun c_55 => ?_) (fun c_55 => ?_)
            · -- to 69
              refine lv_aload hx hb d_K_needs_69 (lv_at hl 0 rfl) ?_
              refine lv_iload_n hx hb d_K_needs_71 rfl (lv_at hl 3 rfl) ?_
              refine lv_iload_n hx hb d_K_needs_72 rfl (lv_at hl 4 rfl) ?_
              refine g_callv (va_runV (As := [.int y, .int z]) (rest := []) ⟨hx, hb, hml, hown, hts⟩ (ct_D_addNeed l D cI cQ α ad an n σ hI i1 hi1 y z) (cwV 2 hts gd_K_99 rfl rfl rfl (by decide +kernel) ⟨Nat.le_of_ble_eq_true rfl, Nat.le_of_ble_eq_true rfl⟩) (g_preV hK hP hD (ci := 1) (q0 := 6 + i1) rfl (kw_3 hi1)) rfl rfl hl.1 rfl (lv_room (Nat.le_of_ble_eq_true rfl)) d_K_needs_73 ⟨Nat.le_refl _, Nat.le_refl _⟩) hD hS (kw_addr _) (fun H locs hP hD hS => ?_)
              obtain ⟨σ1, e_σ1⟩ : ∃ ζ, ζ = kd_add σ i1 y z := ⟨_, rfl⟩
              rw [← e_σ1] at hP hD
              have hI : k_ok n σ1.1 := by rw [e_σ1]; exact (by rw [kd_add_1]; exact hI)
              refine lv_iconst (v := 1) hx hb d_K_needs_76 (by decide) ?_
              exact g_retz hx hb hr hlocks (by decide) (by rw [kp_needs, q_2]; dsimp only; rw [if_pos c_11, if_neg c_23, if_neg c_34, if_pos c_44, if_neg c_55]) (by rw [kp_needs, q_2]; dsimp only; rw [if_pos c_11, if_neg c_23, if_neg c_34, if_pos c_44, if_neg c_55, e_σ1]) hP hS d_K_needs_77
            · -- on 58
              refine lv_aload_n hx hb d_K_needs_58 rfl (lv_at hl 1 rfl) ?_
              refine lv_aload hx hb d_K_needs_59 (lv_at hl 0 rfl) ?_
              refine r_calli (W.runV (As := [.ref (ad i1)]) (rest := []) ⟨hx, hb, hml, hown, hts⟩ (ct_K_isInTheMidst l D cI cQ α ad an n σ hI i1 hi1) (cwV 1 hts gd_K_95 rfl rfl rfl (by decide +kernel) ⟨Nat.le_of_ble_eq_true rfl, Nat.le_of_ble_eq_true rfl⟩) (g_preV hK hP hD (ci := 0) (q0 := 0) rfl kw_0) rfl rfl hl.1 rfl (lv_room (Nat.le_of_ble_eq_true rfl)) d_K_needs_61 ⟨Nat.le_refl _, Nat.le_refl _⟩) ?_
              refine lv_if_eq (tgt := 69) hx hb d_K_needs_64 (by decide) (fun c_64 => ?_) (fun c_64 => ?_)
              · -- to 69
                refine lv_aload hx hb d_K_needs_69 (lv_at hl 0 rfl) ?_
                refine lv_iload_n hx hb d_K_needs_71 rfl (lv_at hl 3 rfl) ?_
                refine lv_iload_n hx hb d_K_needs_72 rfl (lv_at hl 4 rfl) ?_
                refine g_callv (va_runV (As := [.int y, .int z]) (rest := []) ⟨hx, hb, hml, hown, hts⟩ (ct_D_addNeed l D cI cQ α ad an n σ hI i1 hi1 y z) (cwV 2 hts gd_K_99 rfl rfl rfl (by decide +kernel) ⟨Nat.le_of_ble_eq_true rfl, Nat.le_of_ble_eq_true rfl⟩) (g_preV hK hP hD (ci := 1) (q0 := 6 + i1) rfl (kw_3 hi1)) rfl rfl hl.1 rfl (lv_room (Nat.le_of_ble_eq_true rfl)) d_K_needs_73 ⟨Nat.le_refl _, Nat.le_refl _⟩) hD hS (kw_addr _) (fun H locs hP hD hS => ?_)
                obtain ⟨σ2, e_σ2⟩ : ∃ ζ, ζ = kd_add σ i1 y z := ⟨_, rfl⟩
                rw [← e_σ2] at hP hD
                have hI : k_ok n σ2.1 := by rw [e_σ2]; exact (by rw [kd_add_1]; exact hI)
                refine lv_iconst (v := 1) hx hb d_K_needs_76 (by decide) ?_
                exact g_retz hx hb hr hlocks (by decide) (by rw [kp_needs, q_2]; dsimp only; rw [if_pos c_11, if_neg c_23, if_neg c_34, if_pos c_44, if_pos c_55, if_pos c_64]) (by rw [kp_needs, q_2]; dsimp only; rw [if_pos c_11, if_neg c_23, if_neg c_34, if_pos c_44, if_pos c_55, if_pos c_64, e_σ2]) hP hS d_K_needs_77
              · -- on 67
                refine lv_iconst (v := 0) hx hb d_K_needs_67 (by decide) ?_
                exact g_retz hx hb hr hlocks (by decide) (by rw [kp_needs, q_2]; dsimp only; rw [if_pos c_11, if_neg c_23, if_neg c_34, if_pos c_44, if_pos c_55, if_neg c_64]) (by rw [kp_needs, q_2]; dsimp only; rw [if_pos c_11, if_neg c_23, if_neg c_34, if_pos c_44, if_pos c_55, if_neg c_64]) hP hS d_K_needs_68
          · -- on 47
            refine lv_iconst (v := 0) hx hb d_K_needs_47 (by decide) ?_
            exact g_retz hx hb hr hlocks (by decide) (by rw [kp_needs, q_2]; dsimp only; rw [if_pos c_11, if_neg c_23, if_neg c_34, if_neg c_44]) (by rw [kp_needs, q_2]; dsimp only; rw [if_pos c_11, if_neg c_23, if_neg c_34, if_neg c_44]) hP hS d_K_needs_48
      · -- on 26
        refine lv_iconst (v := 0) hx hb d_K_needs_26 (by decide) ?_
        exact g_retz hx hb hr hlocks (by decide) (by rw [kp_needs, q_2]; dsimp only; rw [if_pos c_11, if_pos c_23]) (by rw [kp_needs, q_2]; dsimp only; rw [if_pos c_11, if_pos c_23]) hP hS d_K_needs_27

set_option maxHeartbeats 4000000 in
set_option maxRecDepth 100000 in
theorem ct_K_interrupt (l : Launch) (D : va_G) (cI cQ : ClassId) (α ad an : Nat → Nat) (n : Nat) (σ : kS) (hI : k_ok n σ.1) (x : Int32) : Met l y_K_interrupt w_K_interrupt { frames := 4, cells := 0, slots := 0, locals := 92 } (gPc D (kty cI cQ) (kw_w cI cQ α ad an n σ) [.ref (α 0), .int x]) (gQi D (kw_al α ad an n) ((kp_int n σ x).1) (kw_w cI cQ α ad an n ((kp_int n σ x).2))) 0 0 (gA (kw_al α ad an n)) := by
  refine Met.ofW (cc := b_K_interrupt) (maxL := 3) (ret := some .boolean) (by decide) rfl ?_
  intro p e s m args below meth c s₁ B hml hv
  obtain ⟨rfl, hP, hK, hD⟩ := hv
  have hx := B.exec
  have hb := B.bytes
  have hr := B.returns
  have hts : ∀ w ∈ kT, w.before [.ref (α 0), .int x].toArray s = true := fun w h => atoms_spec (ws := w_K_interrupt) B.pre w (List.mem_cons_of_mem _ h)
  have hown : s.vm.findClass R_K = some m.cls := findClass_of_methodNamed B.named
  have hlocks := B.notSynchronized
  have hD : va_D (gA (kw_al α ad an n)) (kw_w cI cQ α ad an n σ) := gD kw_adr hD
  have hS : va_S (gA (kw_al α ad an n)) s.heap s.heap [] := va_S.rf
  have hl := lv_entry ([.ref (α 0), .int x]) (n := 3) (Nat.le_of_ble_eq_true rfl)
  rw [lg_entry_eq]
  generalize (lg_sl ([.ref (α 0), .int x]) ++ List.replicate (3 - (lg_sl ([.ref (α 0), .int x])).length) Slot.unset).toArray = ls at hl ⊢
  have hl : lv_has ls 3 [(0, .ref (α 0)), (1, .int x)] := hl
  refine lv_aload_n hx hb d_K_interrupt_0 rfl (lv_at hl 0 rfl) ?_
  refine lv_iload_n hx hb d_K_interrupt_1 rfl (lv_at hl 1 rfl) ?_
  refine r_callq (W.runV (As := [.int x]) (rest := []) ⟨hx, hb, hml, hown, hts⟩ (ct_K_deskAt l D cI cQ α ad an n σ hI x) (cwV 1 hts gd_K_77 rfl rfl rfl (by decide +kernel) ⟨Nat.le_of_ble_eq_true rfl, Nat.le_of_ble_eq_true rfl⟩) (g_preV hK hP hD (ci := 0) (q0 := 0) rfl kw_0) rfl rfl hl.1 rfl (lv_room (Nat.le_of_ble_eq_true rfl)) d_K_interrupt_2 ⟨Nat.le_refl _, Nat.le_refl _⟩) ?_
  rcases q_2 : kd_at n x with _ | i1
  · -- nobody
    refine W.eq (g2 := F0 m 5 ls [.null]) rfl ?_
    refine lv_astore_nN (lv' := [(2, .null), (0, .ref (α 0)), (1, .int x)]) hx hb d_K_interrupt_5 rfl hl (by decide) rfl (fun ls hl => ?_)
    refine lv_aload_nN hx hb d_K_interrupt_6 rfl (lv_at hl 0 rfl) ?_
    refine lv_ifnullN (tgt := 18) hx hb d_K_interrupt_7 (by decide) ?_
    refine lv_iconst (v := 0) hx hb d_K_interrupt_18 (by decide) ?_
    exact g_retz hx hb hr hlocks (by decide) (by rw [kp_int, q_2]) (by rw [kp_int, q_2]) hP hS d_K_interrupt_19
  · -- i1
    have hi1 : i1 < n := kd_at_lt hI q_2
    refine W.eq (g2 := F0 m 5 ls [.ref (ad i1)]) rfl ?_
    refine lv_astore_n (lv' := [(2, .ref (ad i1)), (0, .ref (α 0)), (1, .int x)]) hx hb d_K_interrupt_5 rfl hl (by decide) rfl (fun ls hl => ?_)
    refine lv_aload_n hx hb d_K_interrupt_6 rfl (lv_at hl 0 rfl) ?_
    refine lv_ifnull hx hb d_K_interrupt_7 ?_
    refine lv_aload_n hx hb d_K_interrupt_10 rfl (lv_at hl 0 rfl) ?_
    refine kw_dget hx hb hts hown hK hP hi1 6 (by decide) fl_K_120 (v := .int (σ.2.2.1 i1 6)) rfl d_K_interrupt_11 ?_
    refine lv_iconst (v := (-1)) hx hb d_K_interrupt_14 (by decide) ?_
    refine lv_icmp_ne (tgt := 20) hx hb d_K_interrupt_15 (by decide) (fun c_15 => ?_) (fun c_15 => ?_)
    · -- to 20
      refine lv_aload_n hx hb d_K_interrupt_20 rfl (lv_at hl 0 rfl) ?_
      refine lv_iconst (v := (-1)) hx hb d_K_interrupt_21 (by decide) ?_
      refine kw_dput hx hb hts hown hK hP hD hS hi1 6 (by decide) fl_K_120 rfl rfl rfl d_K_interrupt_22 (fun H locs hP hD hS => ?_)
      obtain ⟨σ1, e_σ1⟩ : ∃ ζ, ζ = k_d σ i1 6 (-1) := ⟨_, rfl⟩
      rw [← e_σ1] at hP hD
      have hI : k_ok n σ1.1 := by rw [e_σ1]; exact hI
      refine lv_aload_n hx hb d_K_interrupt_25 rfl (lv_at hl 1 rfl) ?_
      refine lv_aload_n hx hb d_K_interrupt_26 rfl (lv_at hl 0 rfl) ?_
      refine g_callv (va_runV (As := [.ref (ad i1)]) (rest := []) ⟨hx, hb, hml, hown, hts⟩ (ct_K_giveBackAll l D cI cQ α ad an n σ1 hI i1 hi1) (cwV 1 hts gd_K_123 rfl rfl rfl (by decide +kernel) ⟨Nat.le_of_ble_eq_true rfl, Nat.le_of_ble_eq_true rfl⟩) (g_preV hK hP hD (ci := 0) (q0 := 0) rfl kw_0) rfl rfl hl.1 rfl (lv_room (Nat.le_of_ble_eq_true rfl)) d_K_interrupt_27 ⟨Nat.le_refl _, Nat.le_refl _⟩) hD hS (kw_addr _) (fun H locs hP hD hS => ?_)
      obtain ⟨σ2, e_σ2⟩ : ∃ ζ, ζ = kd_gba n σ1 i1 16 := ⟨_, rfl⟩
      rw [← e_σ2] at hP hD
      have hI : k_ok n σ2.1 := by rw [e_σ2]; exact (by rw [kd_gba_1]; exact hI)
      refine lv_aload_n hx hb d_K_interrupt_30 rfl (lv_at hl 1 rfl) ?_
      refine lv_iconst (v := 3) hx hb d_K_interrupt_31 (by decide) ?_
      refine lv_aload_n hx hb d_K_interrupt_32 rfl (lv_at hl 0 rfl) ?_
      refine g_callv (va_runV (As := [.int 3, .ref (ad i1)]) (rest := []) ⟨hx, hb, hml, hown, hts⟩ (ct_K_tell l D cI cQ α ad an n σ2 hI 3 i1 hi1) (cwV 2 hts gd_K_127 rfl rfl rfl (by decide +kernel) ⟨Nat.le_of_ble_eq_true rfl, Nat.le_of_ble_eq_true rfl⟩) (g_preV hK hP hD (ci := 0) (q0 := 0) rfl kw_0) rfl rfl hl.1 rfl (lv_room (Nat.le_of_ble_eq_true rfl)) d_K_interrupt_33 ⟨Nat.le_refl _, Nat.le_refl _⟩) hD hS (kw_addr _) (fun H locs hP hD hS => ?_)
      obtain ⟨σ3, e_σ3⟩ : ∃ ζ, ζ = kd_tell σ2 3 i1 := ⟨_, rfl⟩
      rw [← e_σ3] at hP hD
      have hI : k_ok n σ3.1 := by rw [e_σ3]; exact (k_ok_tell hI)
      refine lv_aload_n hx hb d_K_interrupt_36 rfl (lv_at hl 0 rfl) ?_
      refine lv_dup hx hb d_K_interrupt_37 rfl ?_
      refine kw_dget hx hb hts hown hK hP hi1 4 (by decide) fl_K_92 (v := .int (σ3.2.2.1 i1 4)) rfl d_K_interrupt_38 ?_
      refine lv_iconst (v := 1) hx hb d_K_interrupt_41 (by decide) ?_
      refine lv_iadd hx hb d_K_interrupt_42 ?_
      refine kw_dput hx hb hts hown hK hP hD hS hi1 4 (by decide) fl_K_92 rfl rfl rfl d_K_interrupt_43 (fun H locs hP hD hS => ?_)
      obtain ⟨σ4, e_σ4⟩ : ∃ ζ, ζ = k_d σ3 i1 4 ((σ3.2.2.1 i1 4) + 1) := ⟨_, rfl⟩
      rw [← e_σ4] at hP hD
      have hI : k_ok n σ4.1 := by rw [e_σ4]; exact hI
      refine lv_iconst (v := 1) hx hb d_K_interrupt_46 (by decide) ?_
      exact g_retz hx hb hr hlocks (by decide) (by rw [kp_int, q_2]; dsimp only; rw [if_neg c_15]) (by rw [kp_int, q_2]; dsimp only; rw [if_neg c_15, e_σ4, e_σ3, e_σ2, e_σ1]) hP hS d_K_interrupt_47
    · -- on 18
      refine lv_iconst (v := 0) hx hb d_K_interrupt_18 (by decide) ?_
      exact g_retz hx hb hr hlocks (by decide) (by rw [kp_int, q_2]; dsimp only; rw [if_pos c_15]) (by rw [kp_int, q_2]; dsimp only; rw [if_pos c_15]) hP hS d_K_interrupt_19

set_option maxHeartbeats 4000000 in
set_option maxRecDepth 100000 in
theorem ct_K_log (l : Launch) (D : va_G) (cI cQ : ClassId) (α ad an : Nat → Nat) (n : Nat) (σ : kS) (hI : k_ok n σ.1) (x : Int32) : Met l y_K_log w_K_log { frames := 0, cells := 0, slots := 0, locals := 0 } (gPc D (kty cI cQ) (kw_w cI cQ α ad an n σ) [.ref (α 0), .int x]) (QcRead (kp_log σ x)) 0 0 (fun _ => False) := by
  refine Met.ofW (cc := b_K_log) (maxL := 2) (ret := some .int) (by decide) rfl ?_
  intro p e s m args below meth c s₁ B hml hv
  obtain ⟨rfl, hP, hK, hD⟩ := hv
  have hx := B.exec
  have hb := B.bytes
  have hr := B.returns
  have hts : ∀ w ∈ kT, w.before [.ref (α 0), .int x].toArray s = true := fun w h => atoms_spec (ws := w_K_log) B.pre w (List.mem_cons_of_mem _ h)
  have hown : s.vm.findClass R_K = some m.cls := findClass_of_methodNamed B.named
  have hlocks := B.notSynchronized
  have hl := lv_entry ([.ref (α 0), .int x]) (n := 2) (Nat.le_of_ble_eq_true rfl)
  rw [lg_entry_eq]
  generalize (lg_sl ([.ref (α 0), .int x]) ++ List.replicate (2 - (lg_sl ([.ref (α 0), .int x])).length) Slot.unset).toArray = ls at hl ⊢
  have hl : lv_has ls 2 [(0, .ref (α 0)), (1, .int x)] := hl
  refine lv_iload_n hx hb d_K_log_0 rfl (lv_at hl 1 rfl) ?_
  refine lv_if_lt (tgt := 30) hx hb d_K_log_1 (by decide) (fun c_1 => ?_) (fun c_1 => ?_)
  · -- to 30
    refine lv_iconst (v := (-1)) hx hb d_K_log_30 (by decide) ?_
    exact r_reti hx hb hr hlocks (by simp [kp_log, c_1]) d_K_log_31
  · -- on 4
    refine lv_iload_n hx hb d_K_log_4 rfl (lv_at hl 1 rfl) ?_
    refine lv_aload_n hx hb d_K_log_5 rfl (lv_at hl 0 rfl) ?_
    refine kw_get hx hb hts hown hK hP 10 (by decide) fl_K_44 (v := .int (σ.1 10)) rfl d_K_log_6 ?_
    refine lv_icmp_ge (tgt := 30) hx hb d_K_log_9 (by decide) (fun c_9 => ?_) (fun c_9 => ?_)
    · -- to 30
      refine lv_iconst (v := (-1)) hx hb d_K_log_30 (by decide) ?_
      exact r_reti hx hb hr hlocks (by simp [kp_log, c_1, c_9]) d_K_log_31
    · -- on 12
      refine lv_iload_n hx hb d_K_log_12 rfl (lv_at hl 1 rfl) ?_
      refine lv_aload_n hx hb d_K_log_13 rfl (lv_at hl 0 rfl) ?_
      refine kw_get hx hb hts hown hK hP 9 (by decide) fl_K_41 (v := .ref (α 5)) rfl d_K_log_14 ?_
      refine kw_alen hx hb hK hP 3 (by decide) (v := 400) rfl d_K_log_17 ?_
      refine lv_icmp_ge (tgt := 30) hx hb d_K_log_18 (by decide) (fun c_18 => ?_) (fun c_18 => ?_)
      · -- to 30
        exact absurd c_18 (k_nle400 c_1 (k_log400 hI c_1 c_9))
      · -- on 21
        refine lv_aload_n hx hb d_K_log_21 rfl (lv_at hl 0 rfl) ?_
        refine kw_get hx hb hts hown hK hP 9 (by decide) fl_K_41 (v := .ref (α 5)) rfl d_K_log_22 ?_
        refine lv_iload_n hx hb d_K_log_25 rfl (lv_at hl 1 rfl) ?_
        refine kw_ald hx hb hK hP 3 (by decide) (j := x.toNatClampNeg) (ix_e c_1) (k_log400 hI c_1 c_9) d_K_log_26 ?_
        refine lv_goto (tgt := 31) hx hb d_K_log_27 (by decide) ?_
        exact r_reti hx hb hr hlocks (by simp [kp_log, c_1, c_9, c_18]) d_K_log_31

set_option maxHeartbeats 4000000 in
set_option maxRecDepth 100000 in
theorem ct_K_count (l : Launch) (D : va_G) (cI cQ : ClassId) (α ad an : Nat → Nat) (n : Nat) (σ : kS) (hI : k_ok n σ.1) (x : Int32) : Met l y_K_count w_K_count { frames := 1, cells := 0, slots := 0, locals := 22 } (gPc D (kty cI cQ) (kw_w cI cQ α ad an n σ) [.ref (α 0), .int x]) (QcRead (kp_count σ x)) 0 0 (fun _ => False) := by
  refine Met.ofW (cc := b_K_count) (maxL := 2) (ret := some .int) (by decide) rfl ?_
  intro p e s m args below meth c s₁ B hml hv
  obtain ⟨rfl, hP, hK, hD⟩ := hv
  have hx := B.exec
  have hb := B.bytes
  have hr := B.returns
  have hts : ∀ w ∈ kT, w.before [.ref (α 0), .int x].toArray s = true := fun w h => atoms_spec (ws := w_K_count) B.pre w (List.mem_cons_of_mem _ h)
  have hown : s.vm.findClass R_K = some m.cls := findClass_of_methodNamed B.named
  have hlocks := B.notSynchronized
  have hl := lv_entry ([.ref (α 0), .int x]) (n := 2) (Nat.le_of_ble_eq_true rfl)
  rw [lg_entry_eq]
  generalize (lg_sl ([.ref (α 0), .int x]) ++ List.replicate (2 - (lg_sl ([.ref (α 0), .int x])).length) Slot.unset).toArray = ls at hl ⊢
  have hl : lv_has ls 2 [(0, .ref (α 0)), (1, .int x)] := hl
  refine lv_iload_n hx hb d_K_count_0 rfl (lv_at hl 1 rfl) ?_
  by_cases h_0 : x = 0
  · subst h_0
    refine lv_tableIn (tgt := 44) (off := 43) hx hb d_K_count_1 (by decide) (by decide) rfl (by decide) ?_
    refine lv_aload_n hx hb d_K_count_44 rfl (lv_at hl 0 rfl) ?_
    refine kw_get hx hb hts hown hK hP 1 (by decide) fl_K_15 (v := .int (σ.1 1)) rfl d_K_count_45 ?_
    exact r_reti hx hb hr hlocks rfl d_K_count_48
  by_cases h_1 : x = 1
  · subst h_1
    refine lv_tableIn (tgt := 49) (off := 48) hx hb d_K_count_1 (by decide) (by decide) rfl (by decide) ?_
    refine lv_aload_n hx hb d_K_count_49 rfl (lv_at hl 0 rfl) ?_
    refine kw_get hx hb hts hown hK hP 10 (by decide) fl_K_44 (v := .int (σ.1 10)) rfl d_K_count_50 ?_
    exact r_reti hx hb hr hlocks rfl d_K_count_53
  by_cases h_2 : x = 2
  · subst h_2
    refine lv_tableIn (tgt := 54) (off := 53) hx hb d_K_count_1 (by decide) (by decide) rfl (by decide) ?_
    refine lv_aload_n hx hb d_K_count_54 rfl (lv_at hl 0 rfl) ?_
    refine kw_get hx hb hts hown hK hP 6 (by decide) fl_K_32 (v := .int (σ.1 6)) rfl d_K_count_55 ?_
    exact r_reti hx hb hr hlocks rfl d_K_count_58
  by_cases h_3 : x = 3
  · subst h_3
    refine lv_tableIn (tgt := 59) (off := 58) hx hb d_K_count_1 (by decide) (by decide) rfl (by decide) ?_
    refine lv_aload_n hx hb d_K_count_59 rfl (lv_at hl 0 rfl) ?_
    refine kw_get hx hb hts hown hK hP 8 (by decide) fl_K_38 (v := .int (σ.1 8)) rfl d_K_count_60 ?_
    exact r_reti hx hb hr hlocks rfl d_K_count_63
  by_cases h_4 : x = 4
  · subst h_4
    refine lv_tableIn (tgt := 64) (off := 63) hx hb d_K_count_1 (by decide) (by decide) rfl (by decide) ?_
    refine lv_aload_n hx hb d_K_count_64 rfl (lv_at hl 0 rfl) ?_
    refine kw_get hx hb hts hown hK hP 11 (by decide) fl_K_47 (v := .int (σ.1 11)) rfl d_K_count_65 ?_
    exact r_reti hx hb hr hlocks rfl d_K_count_68
  by_cases h_5 : x = 5
  · subst h_5
    refine lv_tableIn (tgt := 69) (off := 68) hx hb d_K_count_1 (by decide) (by decide) rfl (by decide) ?_
    refine lv_aload_n hx hb d_K_count_69 rfl (lv_at hl 0 rfl) ?_
    refine kw_get hx hb hts hown hK hP 12 (by decide) fl_K_50 (v := .int (σ.1 12)) rfl d_K_count_70 ?_
    refine lv_if_eq (tgt := 80) hx hb d_K_count_73 (by decide) (fun c_73 => ?_) (fun c_73 => ?_)
    · -- to 80
      refine lv_iconst (v := 0) hx hb d_K_count_80 (by decide) ?_
      exact r_reti hx hb hr hlocks (by rw [show kp_count σ 5 = if σ.1 12 = 0 then 0 else 1 from rfl, if_pos c_73]) d_K_count_81
    · -- on 76
      refine lv_iconst (v := 1) hx hb d_K_count_76 (by decide) ?_
      refine lv_goto (tgt := 81) hx hb d_K_count_77 (by decide) ?_
      exact r_reti hx hb hr hlocks (by rw [show kp_count σ 5 = if σ.1 12 = 0 then 0 else 1 from rfl, if_neg c_73]) d_K_count_81
  by_cases h_6 : x = 6
  · subst h_6
    refine lv_tableIn (tgt := 82) (off := 81) hx hb d_K_count_1 (by decide) (by decide) rfl (by decide) ?_
    refine lv_aload_n hx hb d_K_count_82 rfl (lv_at hl 0 rfl) ?_
    refine r_calli (W.runV (As := []) (rest := []) ⟨hx, hb, hml, hown, hts⟩ (ct_K_subjectsHeld l D cI cQ α ad an n σ hI ) (cwV 0 hts gd_K_172 rfl rfl rfl (by decide +kernel) ⟨Nat.le_of_ble_eq_true rfl, Nat.le_of_ble_eq_true rfl⟩) (g_preV hK hP hD (ci := 0) (q0 := 0) rfl kw_0) rfl rfl hl.1 rfl (lv_room (Nat.le_of_ble_eq_true rfl)) d_K_count_83 ⟨Nat.le_refl _, Nat.le_refl _⟩) ?_
    exact r_reti hx hb hr hlocks rfl d_K_count_86
  refine lv_tableOut (tgt := 87) hx hb d_K_count_1 (tb_7 h_0 h_1 h_2 h_3 h_4 h_5 h_6) (by decide) ?_
  refine lv_iconst (v := (-1)) hx hb d_K_count_87 (by decide) ?_
  exact r_reti hx hb hr hlocks (by rw [kp_count, if_neg h_0, if_neg h_1, if_neg h_2, if_neg h_3, if_neg h_4, if_neg h_5, if_neg h_6]) d_K_count_88

set_option maxHeartbeats 4000000 in
set_option maxRecDepth 100000 in
theorem ct_K_close (l : Launch) (D : va_G) (cI cQ : ClassId) (α ad an : Nat → Nat) (n : Nat) (σ : kS) (hI : k_ok n σ.1)  : Met l y_K_close w_K_close { frames := 5, cells := 0, slots := 0, locals := 114 } (gPc D (kty cI cQ) (kw_w cI cQ α ad an n σ) [.ref (α 0)]) (gQi D (kw_al α ad an n) ((kp_close n σ).1) (kw_w cI cQ α ad an n ((kp_close n σ).2))) 0 0 (gA (kw_al α ad an n)) := by
  refine Met.ofW (cc := b_K_close) (maxL := 4) (ret := some .int) (by decide) rfl ?_
  intro p e s m args below meth c s₁ B hml hv
  obtain ⟨rfl, hP, hK, hD⟩ := hv
  have hx := B.exec
  have hb := B.bytes
  have hr := B.returns
  have hts : ∀ w ∈ kT, w.before [.ref (α 0)].toArray s = true := fun w h => atoms_spec (ws := w_K_close) B.pre w (List.mem_cons_of_mem _ h)
  have hown : s.vm.findClass R_K = some m.cls := findClass_of_methodNamed B.named
  have hlocks := B.notSynchronized
  have hD : va_D (gA (kw_al α ad an n)) (kw_w cI cQ α ad an n σ) := gD kw_adr hD
  have hS : va_S (gA (kw_al α ad an n)) s.heap s.heap [] := va_S.rf
  have hl := lv_entry ([.ref (α 0)]) (n := 4) (Nat.le_of_ble_eq_true rfl)
  rw [lg_entry_eq]
  generalize (lg_sl ([.ref (α 0)]) ++ List.replicate (4 - (lg_sl ([.ref (α 0)])).length) Slot.unset).toArray = ls at hl ⊢
  have hl : lv_has ls 4 [(0, .ref (α 0))] := hl
  refine lv_aload_n hx hb d_K_close_0 rfl (lv_at hl 0 rfl) ?_
  refine kw_get hx hb hts hown hK hP 12 (by decide) fl_K_50 (v := .int (σ.1 12)) rfl d_K_close_1 ?_
  refine lv_if_eq (tgt := 9) hx hb d_K_close_4 (by decide) (fun c_4 => ?_) (fun c_4 => ?_)
  · -- to 9
    refine lv_aload_n hx hb d_K_close_9 rfl (lv_at hl 0 rfl) ?_
    refine lv_iconst (v := 1) hx hb d_K_close_10 (by decide) ?_
    refine kw_put hx hb hts hown hK hP hD hS 12 (by decide) fl_K_50 rfl (by decide +kernel) (by decide +kernel) d_K_close_11 (fun H locs hP hD hS => ?_)
    obtain ⟨σ1, e_σ1⟩ : ∃ ζ, ζ = k_f σ 12 1 := ⟨_, rfl⟩
    rw [← e_σ1] at hP hD
    have hI : k_ok n σ1.1 := by rw [e_σ1]; exact (k_ok_f hI (by decide))
    refine lv_iconst (v := 0) hx hb d_K_close_14 (by decide) ?_
    refine lv_istore_n (lv' := [(1, .int 0), (0, .ref (α 0))]) hx hb d_K_close_15 rfl hl (by decide) rfl (fun ls hl => ?_)
    refine lv_iconst (v := 0) hx hb d_K_close_16 (by decide) ?_
    refine lv_istore_n (lv' := [(2, .int 0), (1, .int 0), (0, .ref (α 0))]) hx hb d_K_close_17 rfl hl (by decide) rfl (fun ls hl => ?_)
    have lp18 : ∀ (fu j : Nat) (acc : Int32) (ς : kS) (H : Heap) (locs : List Loc) (ls : Array Slot), j ≤ n → n - j < fu → acc = (kd_closep n σ1 j).1 → ς = (kd_closep n σ1 j).2 → va_P D kcl (kw_w cI cQ α ad an n ς) H → va_D (gA (kw_al α ad an n)) (kw_w cI cQ α ad an n ς) → va_S (gA (kw_al α ad an n)) s.heap H locs → lv_has ls 4 [(2, .int (nI j)), (1, .int acc), (0, .ref (α 0))] → W p l e (headSpec w_K_close { frames := 5, cells := 0, slots := 0, locals := 114 }).room s m [.ref (α 0)].toArray below meth c H locs 0 0 (MQ below (gQi D (kw_al α ad an n) ((kp_close n σ).1) (kw_w cI cQ α ad an n ((kp_close n σ).2))) [.ref (α 0)].toArray s 0 0 (gA (kw_al α ad an n))) (F0 m 18 ls []) := by
      intro fu
      induction fu with
      | zero => intro j acc ς H locs ls h1 h2; omega
      | succ fu ih =>
        intro j acc ς H locs ls hj18 hf18 e_acc  e_ς hP hD hS hl
        have hI : k_ok n ς.1 := by rw [e_ς]; exact k_ok_closep hI _
        refine lv_iload_n hx hb d_K_close_18 rfl (lv_at hl 0 rfl) ?_
        refine lv_aload_n hx hb d_K_close_19 rfl (lv_at hl 2 rfl) ?_
        refine kw_get hx hb hts hown hK hP 1 (by decide) fl_K_15 (v := .int (ς.1 1)) rfl d_K_close_20 ?_
        refine lv_icmp_ge (tgt := 68) hx hb d_K_close_23 (by decide) (fun c_23 => ?_) (fun c_23 => ?_)
        · -- to 68
          have hx18 : j = n := lp_eqI hI c_23 hj18
          rw [hx18] at e_acc e_ς
          refine lv_iload_n hx hb d_K_close_68 rfl (lv_at hl 1 rfl) ?_
          exact g_reti hx hb hr hlocks (by rw [kp_close, if_pos c_4, e_acc, e_σ1]) (by rw [kp_close, if_pos c_4, e_ς, e_σ1]) hP hS d_K_close_69
        · -- on 26
          have hl18 : j < n := lp_ltI hI c_23 hj18
          refine lv_iload_n hx hb d_K_close_26 rfl (lv_at hl 0 rfl) ?_
          refine lv_aload_n hx hb d_K_close_27 rfl (lv_at hl 2 rfl) ?_
          refine kw_get hx hb hts hown hK hP 0 (by decide) fl_K_11 (v := .ref (α 1)) rfl d_K_close_28 ?_
          refine kw_qlen hx hb hK hP d_K_close_31 ?_
          refine lv_icmp_ge (tgt := 68) hx hb d_K_close_32 (by decide) (fun c_32 => ?_) (fun c_32 => ?_)
          · -- to 68
            exact absurd c_32 (lp_8 hI hl18)
          · -- on 35
            refine lv_aload_n hx hb d_K_close_35 rfl (lv_at hl 2 rfl) ?_
            refine kw_get hx hb hts hown hK hP 0 (by decide) fl_K_11 (v := .ref (α 1)) rfl d_K_close_36 ?_
            refine lv_iload_n hx hb d_K_close_39 rfl (lv_at hl 0 rfl) ?_
            refine kw_qld hx hb hK hP (j := j) rfl hl18 hI.1 d_K_close_40 ?_
            refine lv_astore_n (lv' := [(3, .ref (ad j)), (2, .int (nI j)), (1, .int acc), (0, .ref (α 0))]) hx hb d_K_close_41 rfl hl (by decide) rfl (fun ls hl => ?_)
            refine lv_aload_n hx hb d_K_close_42 rfl (lv_at hl 0 rfl) ?_
            refine lv_ifnull hx hb d_K_close_43 ?_
            refine lv_aload_n hx hb d_K_close_46 rfl (lv_at hl 0 rfl) ?_
            refine r_calli (W.runV (As := []) (rest := []) ⟨hx, hb, hml, hown, hts⟩ (ct_D_condition l D cI cQ α ad an n ς hI j hl18) (cwV 0 hts gd_K_157 rfl rfl rfl (by decide +kernel) ⟨Nat.le_of_ble_eq_true rfl, Nat.le_of_ble_eq_true rfl⟩) (g_preV hK hP hD (ci := 1) (q0 := 6 + j) rfl (kw_3 hl18)) rfl rfl hl.1 rfl (lv_room (Nat.le_of_ble_eq_true rfl)) d_K_close_47 ⟨Nat.le_refl _, Nat.le_refl _⟩) ?_
            refine lv_iconst (v := 2) hx hb d_K_close_50 (by decide) ?_
            refine lv_icmp_eq (tgt := 62) hx hb d_K_close_51 (by decide) (fun c_51 => ?_) (fun c_51 => ?_)
            · -- to 62
              refine lv_iinc (v := nI (j + 1)) (lv' := [(2, .int (nI (j + 1))), (3, .ref (ad j)), (1, .int acc), (0, .ref (α 0))]) hx hb d_K_close_62 hl (k := 1) rfl (nI_1 j) (by decide) rfl (fun ls hl => ?_)
              refine lv_goto (tgt := 18) hx hb d_K_close_65 (by decide) ?_
              exact ih (j + 1) acc _ _ _ ls (by omega) (by omega) (by rw [kd_closep, ← e_ς, if_pos c_51]; exact e_acc) (by rw [kd_closep, ← e_ς, if_pos c_51]; exact e_ς) hP hD hS (lv_sub hl [0, 2, 3] rfl)
            · -- on 54
              refine lv_aload_n hx hb d_K_close_54 rfl (lv_at hl 3 rfl) ?_
              refine lv_aload_n hx hb d_K_close_55 rfl (lv_at hl 0 rfl) ?_
              refine g_callv (va_runV (As := [.ref (ad j)]) (rest := []) ⟨hx, hb, hml, hown, hts⟩ (ct_K_end l D cI cQ α ad an n ς hI j hl18) (cwV 1 hts gd_K_161 rfl rfl rfl (by decide +kernel) ⟨Nat.le_of_ble_eq_true rfl, Nat.le_of_ble_eq_true rfl⟩) (g_preV hK hP hD (ci := 0) (q0 := 0) rfl kw_0) rfl rfl hl.1 rfl (lv_room (Nat.le_of_ble_eq_true rfl)) d_K_close_56 ⟨Nat.le_refl _, Nat.le_refl _⟩) hD hS (kw_addr _) (fun H locs hP hD hS => ?_)
              obtain ⟨σ2, e_σ2⟩ : ∃ ζ, ζ = kd_end n ς j := ⟨_, rfl⟩
              rw [← e_σ2] at hP hD
              have hI : k_ok n σ2.1 := by rw [e_σ2]; exact (k_ok_end hI)
              refine lv_iinc (v := acc + 1) (lv' := [(1, .int (acc + 1)), (3, .ref (ad j)), (2, .int (nI j)), (0, .ref (α 0))]) hx hb d_K_close_59 hl (k := 2) rfl rfl (by decide) rfl (fun ls hl => ?_)
              refine lv_iinc (v := nI (j + 1)) (lv' := [(2, .int (nI (j + 1))), (1, .int (acc + 1)), (3, .ref (ad j)), (0, .ref (α 0))]) hx hb d_K_close_62 hl (k := 2) rfl (nI_1 j) (by decide) rfl (fun ls hl => ?_)
              refine lv_goto (tgt := 18) hx hb d_K_close_65 (by decide) ?_
              exact ih (j + 1) (acc + 1) _ _ _ ls (by omega) (by omega) (by rw [kd_closep, ← e_ς, if_neg c_51]; exact congrArg (fun z => z + 1) e_acc) (by rw [e_σ2, kd_closep, ← e_ς, if_neg c_51]) hP hD hS (lv_sub hl [0, 1, 3] rfl)
    exact lp18 (n - 0 + 1) 0 _ _ _ _ ls (by omega) (by omega) rfl  rfl hP hD hS (lv_sub hl [0, 1, 2] rfl)
  · -- on 7
    refine lv_iconst (v := (-1)) hx hb d_K_close_7 (by decide) ?_
    exact g_reti hx hb hr hlocks (by rw [kp_close, if_neg c_4]) (by rw [kp_close, if_neg c_4]) hP hS d_K_close_8
