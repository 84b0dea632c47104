set_option maxHeartbeats 4000000 in
set_option maxRecDepth 100000 in
theorem ct_M_lookN (l : Launch) (D : va_G) (cI cQ : ClassId) (β : Nat → Nat) (n : Nat) (τ : mS) (hI : m_ok n τ.1) (x y : Int32) (hx0 : mo_isd τ x = 0 ∨ mo_in y 0 4 = 0) : Met l y_M_look w_M_look { frames := 1, cells := 0, slots := 0, locals := 23 } (gPc D (kty cI cQ) (mw_w cI β τ) [.ref (β 0), .int x, .int y]) (gQi D (mw_al β) (0) (mw_w cI β (m_f τ 0 1))) 0 0 (gA (mw_al β)) := by
  refine Met.ofW (cc := b_M_look) (maxL := 3) (ret := some .int) (by decide) rfl ?_
  intro p e s m args below meth c s₁ B hml hv
  obtain ⟨rfl, hP, hK, hD⟩ := hv
  have hx := B.exec
  have hb := B.bytes
  have hr := B.returns
  have hts : ∀ w ∈ kT, w.before [.ref (β 0), .int x, .int y].toArray s = true := fun w h => atoms_spec (ws := w_M_look) B.pre w (List.mem_cons_of_mem _ h)
  have hown : s.vm.findClass R_M = some m.cls := findClass_of_methodNamed B.named
  have hlocks := B.notSynchronized
  have hD : va_D (gA (mw_al β)) (mw_w cI β τ) := gD mw_addr hD
  have hS : va_S (gA (mw_al β)) s.heap s.heap [] := va_S.rf
  have hl := lv_entry ([.ref (β 0), .int x, .int y]) (n := 3) (Nat.le_of_ble_eq_true rfl)
  rw [lg_entry_eq]
  generalize (lg_sl ([.ref (β 0), .int x, .int y]) ++ List.replicate (3 - (lg_sl ([.ref (β 0), .int x, .int y])).length) Slot.unset).toArray = ls at hl ⊢
  have hl : lv_has ls 3 [(0, .ref (β 0)), (1, .int x), (2, .int y)] := hl
  refine lv_aload_n hx hb d_M_look_0 rfl (lv_at hl 0 rfl) ?_
  refine lv_iload_n hx hb d_M_look_1 rfl (lv_at hl 1 rfl) ?_
  refine r_calli (W.runV (As := [.int x]) (rest := []) ⟨hx, hb, hml, hown, hts⟩ (ct_M_isDesk l D cI cQ β n τ hI x) (cwV 1 hts gd_M_68 rfl rfl rfl (by decide +kernel) ⟨Nat.le_of_ble_eq_true rfl, Nat.le_of_ble_eq_true rfl⟩) (g_preV hK hP hD (ci := 2) (q0 := 0) rfl mw_0) rfl rfl hl.1 rfl (lv_room (Nat.le_of_ble_eq_true rfl)) d_M_look_2 ⟨Nat.le_refl _, Nat.le_refl _⟩) ?_
  refine lv_if_eq (tgt := 17) hx hb d_M_look_5 (by decide) (fun c_5 => ?_) (fun c_5 => ?_)
  · -- to 17
    refine lv_aload_n hx hb d_M_look_17 rfl (lv_at hl 0 rfl) ?_
    refine lv_iconst (v := 1) hx hb d_M_look_18 (by decide) ?_
    refine g_calli (va_runV (As := [.int 1]) (rest := []) ⟨hx, hb, hml, hown, hts⟩ (ct_M_refuse l D cI cQ β n τ hI 1) (cwV 1 hts gd_M_57 rfl rfl rfl (by decide +kernel) ⟨Nat.le_of_ble_eq_true rfl, Nat.le_of_ble_eq_true rfl⟩) (g_preV hK hP hD (ci := 2) (q0 := 0) rfl mw_0) rfl rfl hl.1 rfl (lv_room (Nat.le_of_ble_eq_true rfl)) d_M_look_19 ⟨Nat.le_refl _, Nat.le_refl _⟩) hD hS (mw_addr.trans mw_addr.symm) (fun H locs hP hD hS => ?_)
    obtain ⟨τ1, e_τ1⟩ : ∃ ζ, ζ = m_f τ 0 1 := ⟨_, rfl⟩
    rw [← e_τ1] at hP hD
    have hI : m_ok n τ1.1 := by rw [e_τ1]; exact (m_ok_f hI (by decide))
    exact g_reti hx hb hr hlocks rfl (by rw [e_τ1]) hP hS d_M_look_22
  · -- on 8
    refine lv_iload_n hx hb d_M_look_8 rfl (lv_at hl 2 rfl) ?_
    refine lv_iconst (v := 0) hx hb d_M_look_9 (by decide) ?_
    refine lv_iconst (v := 4) hx hb d_M_look_10 (by decide) ?_
    refine r_calli (W.runS (As := [.int y, .int 0, .int 4]) (rest := []) ⟨hx, hb, hml, hown, hts⟩ (ct_M_in l y 0 4) (cwS 3 hts gd_M_53 rfl rfl rfl (by decide +kernel) ⟨Nat.le_of_ble_eq_true rfl, Nat.le_of_ble_eq_true rfl⟩) preEq rfl rfl hl.1 rfl (lv_room (Nat.le_of_ble_eq_true rfl)) d_M_look_11 ⟨Nat.le_refl _, Nat.le_refl _⟩) ?_
    refine lv_if_ne (tgt := 23) hx hb d_M_look_14 (by decide) (fun c_14 => ?_) (fun c_14 => ?_)
    · -- to 23
      exact absurd hx0 (fun q => q.elim c_5 c_14)
    · -- on 17
      refine lv_aload_n hx hb d_M_look_17 rfl (lv_at hl 0 rfl) ?_
      refine lv_iconst (v := 1) hx hb d_M_look_18 (by decide) ?_
      refine g_calli (va_runV (As := [.int 1]) (rest := []) ⟨hx, hb, hml, hown, hts⟩ (ct_M_refuse l D cI cQ β n τ hI 1) (cwV 1 hts gd_M_57 rfl rfl rfl (by decide +kernel) ⟨Nat.le_of_ble_eq_true rfl, Nat.le_of_ble_eq_true rfl⟩) (g_preV hK hP hD (ci := 2) (q0 := 0) rfl mw_0) rfl rfl hl.1 rfl (lv_room (Nat.le_of_ble_eq_true rfl)) d_M_look_19 ⟨Nat.le_refl _, Nat.le_refl _⟩) hD hS (mw_addr.trans mw_addr.symm) (fun H locs hP hD hS => ?_)
      obtain ⟨τ2, e_τ2⟩ : ∃ ζ, ζ = m_f τ 0 1 := ⟨_, rfl⟩
      rw [← e_τ2] at hP hD
      have hI : m_ok n τ2.1 := by rw [e_τ2]; exact (m_ok_f hI (by decide))
      exact g_reti hx hb hr hlocks rfl (by rw [e_τ2]) hP hS d_M_look_22

set_option maxHeartbeats 4000000 in
set_option maxRecDepth 100000 in
theorem ct_M_look (l : Launch) (D : va_G) (cI cQ : ClassId) (β : Nat → Nat) (n : Nat) (τ : mS) (hI : m_ok n τ.1) (i : Nat) (hi : i < n) (y : Int32) (hy0 : ¬ mo_in y 0 4 = 0) : Met l y_M_look w_M_look { frames := 1, cells := 0, slots := 0, locals := 23 } (gPc D (kty cI cQ) (mw_w cI β τ) [.ref (β 0), .int (nI i), .int y]) (gQi D (mw_al β) (mo_look τ i y) (mw_w cI β (m_f τ 0 0))) 0 0 (gA (mw_al β)) := by
  refine Met.ofW (cc := b_M_look) (maxL := 3) (ret := some .int) (by decide) rfl ?_
  intro p e s m args below meth c s₁ B hml hv
  obtain ⟨rfl, hP, hK, hD⟩ := hv
  have hx := B.exec
  have hb := B.bytes
  have hr := B.returns
  have hts : ∀ w ∈ kT, w.before [.ref (β 0), .int (nI i), .int y].toArray s = true := fun w h => atoms_spec (ws := w_M_look) B.pre w (List.mem_cons_of_mem _ h)
  have hown : s.vm.findClass R_M = some m.cls := findClass_of_methodNamed B.named
  have hlocks := B.notSynchronized
  have hD : va_D (gA (mw_al β)) (mw_w cI β τ) := gD mw_addr hD
  have hS : va_S (gA (mw_al β)) s.heap s.heap [] := va_S.rf
  have hl := lv_entry ([.ref (β 0), .int (nI i), .int y]) (n := 3) (Nat.le_of_ble_eq_true rfl)
  rw [lg_entry_eq]
  generalize (lg_sl ([.ref (β 0), .int (nI i), .int y]) ++ List.replicate (3 - (lg_sl ([.ref (β 0), .int (nI i), .int y])).length) Slot.unset).toArray = ls at hl ⊢
  have hl : lv_has ls 3 [(0, .ref (β 0)), (1, .int (nI i)), (2, .int y)] := hl
  refine lv_aload_n hx hb d_M_look_0 rfl (lv_at hl 0 rfl) ?_
  refine lv_iload_n hx hb d_M_look_1 rfl (lv_at hl 1 rfl) ?_
  refine r_calli (W.runV (As := [.int (nI i)]) (rest := []) ⟨hx, hb, hml, hown, hts⟩ (ct_M_isDesk l D cI cQ β n τ hI (nI i)) (cwV 1 hts gd_M_68 rfl rfl rfl (by decide +kernel) ⟨Nat.le_of_ble_eq_true rfl, Nat.le_of_ble_eq_true rfl⟩) (g_preV hK hP hD (ci := 2) (q0 := 0) rfl mw_0) rfl rfl hl.1 rfl (lv_room (Nat.le_of_ble_eq_true rfl)) d_M_look_2 ⟨Nat.le_refl _, Nat.le_refl _⟩) ?_
  refine lv_if_eq (tgt := 17) hx hb d_M_look_5 (by decide) (fun c_5 => ?_) (fun c_5 => ?_)
  · -- to 17
    exact absurd c_5 (by rw [mo_isd_nI hI hi]; decide)
  · -- on 8
    refine lv_iload_n hx hb d_M_look_8 rfl (lv_at hl 2 rfl) ?_
    refine lv_iconst (v := 0) hx hb d_M_look_9 (by decide) ?_
    refine lv_iconst (v := 4) hx hb d_M_look_10 (by decide) ?_
    refine r_calli (W.runS (As := [.int y, .int 0, .int 4]) (rest := []) ⟨hx, hb, hml, hown, hts⟩ (ct_M_in l y 0 4) (cwS 3 hts gd_M_53 rfl rfl rfl (by decide +kernel) ⟨Nat.le_of_ble_eq_true rfl, Nat.le_of_ble_eq_true rfl⟩) preEq rfl rfl hl.1 rfl (lv_room (Nat.le_of_ble_eq_true rfl)) d_M_look_11 ⟨Nat.le_refl _, Nat.le_refl _⟩) ?_
    refine lv_if_ne (tgt := 23) hx hb d_M_look_14 (by decide) (fun c_14 => ?_) (fun c_14 => ?_)
    · -- to 23
      refine lv_aload_n hx hb d_M_look_23 rfl (lv_at hl 0 rfl) ?_
      refine lv_iconst (v := 0) hx hb d_M_look_24 (by decide) ?_
      refine mw_put hx hb hts hown hK hP hD hS 0 (by unfold mw_is; decide) fl_M_46 rfl rfl rfl d_M_look_25 (fun H locs hP hD hS => ?_)
      obtain ⟨τ1, e_τ1⟩ : ∃ ζ, ζ = m_f τ 0 0 := ⟨_, rfl⟩
      rw [← e_τ1] at hP hD
      have hI : m_ok n τ1.1 := by rw [e_τ1]; exact (m_ok_f hI (by decide))
      refine lv_iload_n hx hb d_M_look_28 rfl (lv_at hl 2 rfl) ?_
      by_cases h_0 : y = 0
      · subst h_0
        refine lv_tableIn (tgt := 60) (off := 31) hx hb d_M_look_29 (by decide) (by decide) rfl (by decide) ?_
        refine lv_aload_n hx hb d_M_look_60 rfl (lv_at hl 0 rfl) ?_
        refine mw_get hx hb hts hown hK hP 4 (by decide) fl_M_16 (v := .ref (β 4)) rfl d_M_look_61 ?_
        refine lv_iload_n hx hb d_M_look_64 rfl (lv_at hl 1 rfl) ?_
        refine mw_ald hx hb hK hP 4 (by unfold mw_as; decide) (j := i) rfl (m8 hI hi) d_M_look_65 ?_
        exact g_reti hx hb hr hlocks (by rw [e_τ1]; rfl) (by rw [e_τ1]) hP hS d_M_look_66
      by_cases h_1 : y = 1
      · subst h_1
        refine lv_tableIn (tgt := 67) (off := 38) hx hb d_M_look_29 (by decide) (by decide) rfl (by decide) ?_
        refine lv_aload_n hx hb d_M_look_67 rfl (lv_at hl 0 rfl) ?_
        refine mw_get hx hb hts hown hK hP 5 (by decide) fl_M_19 (v := .ref (β 5)) rfl d_M_look_68 ?_
        refine lv_iload_n hx hb d_M_look_71 rfl (lv_at hl 1 rfl) ?_
        refine mw_ald hx hb hK hP 5 (by unfold mw_as; decide) (j := i) rfl (m8 hI hi) d_M_look_72 ?_
        exact g_reti hx hb hr hlocks (by rw [e_τ1]; rfl) (by rw [e_τ1]) hP hS d_M_look_73
      by_cases h_2 : y = 2
      · subst h_2
        refine lv_tableIn (tgt := 74) (off := 45) hx hb d_M_look_29 (by decide) (by decide) rfl (by decide) ?_
        refine lv_aload_n hx hb d_M_look_74 rfl (lv_at hl 0 rfl) ?_
        refine mw_get hx hb hts hown hK hP 6 (by decide) fl_M_22 (v := .ref (β 6)) rfl d_M_look_75 ?_
        refine lv_iload_n hx hb d_M_look_78 rfl (lv_at hl 1 rfl) ?_
        refine mw_ald hx hb hK hP 6 (by unfold mw_as; decide) (j := i) rfl (m8 hI hi) d_M_look_79 ?_
        exact g_reti hx hb hr hlocks (by rw [e_τ1]; rfl) (by rw [e_τ1]) hP hS d_M_look_80
      by_cases h_3 : y = 3
      · subst h_3
        refine lv_tableIn (tgt := 81) (off := 52) hx hb d_M_look_29 (by decide) (by decide) rfl (by decide) ?_
        refine lv_aload_n hx hb d_M_look_81 rfl (lv_at hl 0 rfl) ?_
        refine lv_iload_n hx hb d_M_look_82 rfl (lv_at hl 1 rfl) ?_
        refine r_calli (W.runV (As := [.int (nI i)]) (rest := []) ⟨hx, hb, hml, hown, hts⟩ (ct_M_held l D cI cQ β n τ1 hI (nI i)) (cwV 1 hts gd_M_65 rfl rfl rfl (by decide +kernel) ⟨Nat.le_of_ble_eq_true rfl, Nat.le_of_ble_eq_true rfl⟩) (g_preV hK hP hD (ci := 2) (q0 := 0) rfl mw_0) rfl rfl hl.1 rfl (lv_room (Nat.le_of_ble_eq_true rfl)) d_M_look_83 ⟨Nat.le_refl _, Nat.le_refl _⟩) ?_
        exact g_reti hx hb hr hlocks (by rw [e_τ1]; rfl) (by rw [e_τ1]) hP hS d_M_look_86
      refine lv_tableOut (tgt := 87) hx hb d_M_look_29 (tb_4 h_0 h_1 h_2 h_3) (by decide) ?_
      refine lv_aload_n hx hb d_M_look_87 rfl (lv_at hl 0 rfl) ?_
      refine mw_get hx hb hts hown hK hP 10 (by decide) fl_M_34 (v := .ref (β 10)) rfl d_M_look_88 ?_
      refine lv_iload_n hx hb d_M_look_91 rfl (lv_at hl 1 rfl) ?_
      refine mw_ald hx hb hK hP 10 (by unfold mw_as; decide) (j := i) rfl (m8 hI hi) d_M_look_92 ?_
      exact g_reti hx hb hr hlocks (by rw [e_τ1, mo_look, if_neg h_0, if_neg h_1, if_neg h_2, if_neg h_3]; rfl) (by rw [e_τ1]) hP hS d_M_look_93
    · -- on 17
      exact absurd c_14 hy0

set_option maxHeartbeats 4000000 in
set_option maxRecDepth 100000 in
theorem ct_M_count (l : Launch) (D : va_G) (cI cQ : ClassId) (β : Nat → Nat) (n : Nat) (τ : mS) (hI : m_ok n τ.1) (x : Int32) : Met l y_M_count w_M_count { frames := 0, cells := 0, slots := 0, locals := 0 } (gPc D (kty cI cQ) (mw_w cI β τ) [.ref (β 0), .int x]) (gQi D (mw_al β) (mo_count τ x) (mw_w cI β (m_f τ 0 0))) 0 0 (gA (mw_al β)) := by
  refine Met.ofW (cc := b_M_count) (maxL := 4) (ret := some .int) (by decide) rfl ?_
  intro p e s m args below meth c s₁ B hml hv
  obtain ⟨rfl, hP, hK, hD⟩ := hv
  have hx := B.exec
  have hb := B.bytes
  have hr := B.returns
  have hts : ∀ w ∈ kT, w.before [.ref (β 0), .int x].toArray s = true := fun w h => atoms_spec (ws := w_M_count) B.pre w (List.mem_cons_of_mem _ h)
  have hown : s.vm.findClass R_M = some m.cls := findClass_of_methodNamed B.named
  have hlocks := B.notSynchronized
  have hD : va_D (gA (mw_al β)) (mw_w cI β τ) := gD mw_addr hD
  have hS : va_S (gA (mw_al β)) s.heap s.heap [] := va_S.rf
  have hl := lv_entry ([.ref (β 0), .int x]) (n := 4) (Nat.le_of_ble_eq_true rfl)
  rw [lg_entry_eq]
  generalize (lg_sl ([.ref (β 0), .int x]) ++ List.replicate (4 - (lg_sl ([.ref (β 0), .int x])).length) Slot.unset).toArray = ls at hl ⊢
  have hl : lv_has ls 4 [(0, .ref (β 0)), (1, .int x)] := hl
  refine lv_aload_n hx hb d_M_count_0 rfl (lv_at hl 0 rfl) ?_
  refine lv_iconst (v := 0) hx hb d_M_count_1 (by decide) ?_
  refine mw_put hx hb hts hown hK hP hD hS 0 (by unfold mw_is; decide) fl_M_46 rfl rfl rfl d_M_count_2 (fun H locs hP hD hS => ?_)
  obtain ⟨τ1, e_τ1⟩ : ∃ ζ, ζ = m_f τ 0 0 := ⟨_, rfl⟩
  rw [← e_τ1] at hP hD
  have hI : m_ok n τ1.1 := by rw [e_τ1]; exact (m_ok_f hI (by decide))
  refine lv_iconst (v := 0) hx hb d_M_count_5 (by decide) ?_
  refine lv_istore_n (lv' := [(2, .int 0), (0, .ref (β 0)), (1, .int x)]) hx hb d_M_count_6 rfl hl (by decide) rfl (fun ls hl => ?_)
  refine lv_iconst (v := 0) hx hb d_M_count_7 (by decide) ?_
  refine lv_istore_n (lv' := [(3, .int 0), (2, .int 0), (0, .ref (β 0)), (1, .int x)]) hx hb d_M_count_8 rfl hl (by decide) rfl (fun ls hl => ?_)
  have lp9 : ∀ (fu j : Nat) (acc : Int32) (ls : Array Slot), j ≤ 16 → 16 - j < fu → acc = mo_cntp (τ1.2 8) j → lv_has ls 4 [(3, .int (nI j)), (2, .int acc), (0, .ref (β 0)), (1, .int x)] → W p l e (headSpec w_M_count { frames := 0, cells := 0, slots := 0, locals := 0 }).room s m [.ref (β 0), .int x].toArray below meth c H locs 0 0 (MQ below (gQi D (mw_al β) (mo_count τ x) (mw_w cI β (m_f τ 0 0))) [.ref (β 0), .int x].toArray s 0 0 (gA (mw_al β))) (F0 m 9 ls []) := by
    intro fu
    induction fu with
    | zero => intro j acc ls h1 h2; omega
    | succ fu ih =>
      intro j acc ls hj9 hf9 e_acc hl
      refine lv_iload_n hx hb d_M_count_9 rfl (lv_at hl 0 rfl) ?_
      refine lv_bipush (v := 16) hx hb d_M_count_10 (by decide) ?_
      refine lv_icmp_ge (tgt := 38) hx hb d_M_count_12 (by decide) (fun c_12 => ?_) (fun c_12 => ?_)
      · -- to 38
        have hx9 : j = 16 := lp_eq (B := 16) (hn := (by decide)) c_12 hj9
        rw [hx9] at e_acc
        refine lv_iload_n hx hb d_M_count_38 rfl (lv_at hl 3 rfl) ?_
        by_cases h_0 : x = 0
        · subst h_0
          refine lv_tableIn (tgt := 80) (off := 41) hx hb d_M_count_39 (by decide) (by decide) rfl (by decide) ?_
          refine lv_aload_n hx hb d_M_count_80 rfl (lv_at hl 2 rfl) ?_
          refine mw_get hx hb hts hown hK hP 1 (by decide) fl_M_50 (v := .int (τ1.1 1)) rfl d_M_count_81 ?_
          exact g_reti hx hb hr hlocks (by rw [e_τ1]; rfl) (by rw [e_τ1]) hP hS d_M_count_84
        by_cases h_1 : x = 1
        · subst h_1
          refine lv_tableIn (tgt := 85) (off := 46) hx hb d_M_count_39 (by decide) (by decide) rfl (by decide) ?_
          refine lv_aload_n hx hb d_M_count_85 rfl (lv_at hl 2 rfl) ?_
          refine mw_get hx hb hts hown hK hP 17 (by decide) fl_M_78 (v := .int (τ1.1 17)) rfl d_M_count_86 ?_
          exact g_reti hx hb hr hlocks (by rw [e_τ1]; rfl) (by rw [e_τ1]) hP hS d_M_count_89
        by_cases h_2 : x = 2
        · subst h_2
          refine lv_tableIn (tgt := 90) (off := 51) hx hb d_M_count_39 (by decide) (by decide) rfl (by decide) ?_
          refine lv_aload_n hx hb d_M_count_90 rfl (lv_at hl 2 rfl) ?_
          refine mw_get hx hb hts hown hK hP 14 (by decide) fl_M_104 (v := .int (τ1.1 14)) rfl d_M_count_91 ?_
          exact g_reti hx hb hr hlocks (by rw [e_τ1]; rfl) (by rw [e_τ1]) hP hS d_M_count_94
        by_cases h_3 : x = 3
        · subst h_3
          refine lv_tableIn (tgt := 95) (off := 56) hx hb d_M_count_39 (by decide) (by decide) rfl (by decide) ?_
          refine lv_aload_n hx hb d_M_count_95 rfl (lv_at hl 2 rfl) ?_
          refine mw_get hx hb hts hown hK hP 16 (by decide) fl_M_110 (v := .int (τ1.1 16)) rfl d_M_count_96 ?_
          exact g_reti hx hb hr hlocks (by rw [e_τ1]; rfl) (by rw [e_τ1]) hP hS d_M_count_99
        by_cases h_4 : x = 4
        · subst h_4
          refine lv_tableIn (tgt := 100) (off := 61) hx hb d_M_count_39 (by decide) (by decide) rfl (by decide) ?_
          refine lv_aload_n hx hb d_M_count_100 rfl (lv_at hl 2 rfl) ?_
          refine mw_get hx hb hts hown hK hP 19 (by decide) fl_M_84 (v := .int (τ1.1 19)) rfl d_M_count_101 ?_
          exact g_reti hx hb hr hlocks (by rw [e_τ1]; rfl) (by rw [e_τ1]) hP hS d_M_count_104
        by_cases h_5 : x = 5
        · subst h_5
          refine lv_tableIn (tgt := 105) (off := 66) hx hb d_M_count_39 (by decide) (by decide) rfl (by decide) ?_
          refine lv_aload_n hx hb d_M_count_105 rfl (lv_at hl 2 rfl) ?_
          refine mw_get hx hb hts hown hK hP 20 (by decide) fl_M_61 (v := .int (τ1.1 20)) rfl d_M_count_106 ?_
          refine lv_if_eq (tgt := 116) hx hb d_M_count_109 (by decide) (fun c_109 => ?_) (fun c_109 => ?_)
          · -- to 116
            refine lv_iconst (v := 0) hx hb d_M_count_116 (by decide) ?_
            exact g_reti hx hb hr hlocks (by rw [show mo_count τ 5 = if τ.1 20 = 0 then 0 else 1 from rfl, if_pos (by have := c_109; rw [e_τ1] at this; exact this)]) (by rw [e_τ1]) hP hS d_M_count_117
          · -- on 112
            refine lv_iconst (v := 1) hx hb d_M_count_112 (by decide) ?_
            refine lv_goto (tgt := 117) hx hb d_M_count_113 (by decide) ?_
            exact g_reti hx hb hr hlocks (by rw [show mo_count τ 5 = if τ.1 20 = 0 then 0 else 1 from rfl, if_neg (by have := c_109; rw [e_τ1] at this; exact this)]) (by rw [e_τ1]) hP hS d_M_count_117
        by_cases h_6 : x = 6
        · subst h_6
          refine lv_tableIn (tgt := 118) (off := 79) hx hb d_M_count_39 (by decide) (by decide) rfl (by decide) ?_
          refine lv_iload_n hx hb d_M_count_118 rfl (lv_at hl 1 rfl) ?_
          exact g_reti hx hb hr hlocks (by rw [e_acc, e_τ1]; rfl) (by rw [e_τ1]) hP hS d_M_count_119
        refine lv_tableOut (tgt := 120) hx hb d_M_count_39 (tb_7 h_0 h_1 h_2 h_3 h_4 h_5 h_6) (by decide) ?_
        refine lv_iconst (v := (-1)) hx hb d_M_count_120 (by decide) ?_
        exact g_reti hx hb hr hlocks (by rw [mo_count, if_neg h_0, if_neg h_1, if_neg h_2, if_neg h_3, if_neg h_4, if_neg h_5, if_neg h_6]) (by rw [e_τ1]) hP hS d_M_count_121
      · -- on 15
        have hl9 : j < 16 := lp_lt (B := 16) (hn := (by decide)) c_12 hj9
        refine lv_iload_n hx hb d_M_count_15 rfl (lv_at hl 1 rfl) ?_
        refine lv_aload_n hx hb d_M_count_16 rfl (lv_at hl 2 rfl) ?_
        refine mw_get hx hb hts hown hK hP 8 (by decide) fl_M_28 (v := .ref (β 8)) rfl d_M_count_17 ?_
        refine lv_iload_n hx hb d_M_count_20 rfl (lv_at hl 0 rfl) ?_
        refine mw_ald hx hb hK hP 8 (by unfold mw_as; decide) (j := j) rfl hl9 d_M_count_21 ?_
        refine lv_if_lt (tgt := 29) hx hb d_M_count_22 (by decide) (fun c_22 => ?_) (fun c_22 => ?_)
        · -- to 29
          refine lv_iconst (v := 0) hx hb d_M_count_29 (by decide) ?_
          refine lv_iadd hx hb d_M_count_30 ?_
          refine lv_istore_n (lv' := [(2, .int (acc + 0)), (3, .int (nI j)), (0, .ref (β 0)), (1, .int x)]) hx hb d_M_count_31 rfl hl (by decide) rfl (fun ls hl => ?_)
          refine lv_iinc (v := nI (j + 1)) (lv' := [(3, .int (nI (j + 1))), (2, .int (acc + 0)), (0, .ref (β 0)), (1, .int x)]) hx hb d_M_count_32 hl (k := 1) rfl (nI_1 j) (by decide) rfl (fun ls hl => ?_)
          refine lv_goto (tgt := 9) hx hb d_M_count_35 (by decide) ?_
          exact ih (j + 1) (acc + 0) ls (by omega) (by omega) (by rw [mo_cntp, ← e_acc]; simp [c_22]) (lv_sub hl [0, 1, 2, 3] rfl)
        · -- on 25
          refine lv_iconst (v := 1) hx hb d_M_count_25 (by decide) ?_
          refine lv_goto (tgt := 30) hx hb d_M_count_26 (by decide) ?_
          refine lv_iadd hx hb d_M_count_30 ?_
          refine lv_istore_n (lv' := [(2, .int (acc + 1)), (3, .int (nI j)), (0, .ref (β 0)), (1, .int x)]) hx hb d_M_count_31 rfl hl (by decide) rfl (fun ls hl => ?_)
          refine lv_iinc (v := nI (j + 1)) (lv' := [(3, .int (nI (j + 1))), (2, .int (acc + 1)), (0, .ref (β 0)), (1, .int x)]) hx hb d_M_count_32 hl (k := 1) rfl (nI_1 j) (by decide) rfl (fun ls hl => ?_)
          refine lv_goto (tgt := 9) hx hb d_M_count_35 (by decide) ?_
          exact ih (j + 1) (acc + 1) ls (by omega) (by omega) (by rw [mo_cntp, ← e_acc]; simp [c_22]) (lv_sub hl [0, 1, 2, 3] rfl)
  exact lp9 (16 + 1) 0 _ ls (by omega) (by omega) rfl (lv_sub hl [0, 1, 2, 3] rfl)
