set_option maxHeartbeats 4000000 in
set_option maxRecDepth 100000 in
theorem ct_M_tickN (l : Launch) (D : va_G) (cI cQ : ClassId) (β : Nat → Nat) (n : Nat) (τ : mS) (hI : m_ok n τ.1) (x : Int32) (hx0 : mo_in x (τ.1 19) 100000 = 0) : Met l y_M_tick w_M_tick { frames := 1, cells := 0, slots := 0, locals := 22 } (gPc D (kty cI cQ) (mw_w cI β τ) [.ref (β 0), .int x]) (gQi D (mw_al β) (0) (mw_w cI β (m_f τ 0 1))) 0 0 (gA (mw_al β)) := by
  refine Met.ofW (cc := b_M_tick) (maxL := 5) (ret := some .int) (by decide) rfl ?_
  intro p e s m args below meth c s₁ B hml hv
  obtain ⟨rfl, hP, hK, hD⟩ := hv
  have hx := B.exec
  have hb := B.bytes
  have hr := B.returns
  have hts : ∀ w ∈ kT, w.before [.ref (β 0), .int x].toArray s = true := fun w h => atoms_spec (ws := w_M_tick) B.pre w (List.mem_cons_of_mem _ h)
  have hown : s.vm.findClass R_M = some m.cls := findClass_of_methodNamed B.named
  have hlocks := B.notSynchronized
  have hD : va_D (gA (mw_al β)) (mw_w cI β τ) := gD mw_addr hD
  have hS : va_S (gA (mw_al β)) s.heap s.heap [] := va_S.rf
  have hl := lv_entry ([.ref (β 0), .int x]) (n := 5) (Nat.le_of_ble_eq_true rfl)
  rw [lg_entry_eq]
  generalize (lg_sl ([.ref (β 0), .int x]) ++ List.replicate (5 - (lg_sl ([.ref (β 0), .int x])).length) Slot.unset).toArray = ls at hl ⊢
  have hl : lv_has ls 5 [(0, .ref (β 0)), (1, .int x)] := hl
  refine lv_iload_n hx hb d_M_tick_0 rfl (lv_at hl 1 rfl) ?_
  refine lv_aload_n hx hb d_M_tick_1 rfl (lv_at hl 0 rfl) ?_
  refine mw_get hx hb hts hown hK hP 19 (by decide) fl_M_84 (v := .int (τ.1 19)) rfl d_M_tick_2 ?_
  refine lv_ldc (v := 100000) hx hb hown (hts _ kc_M_119) d_M_tick_5 ?_
  refine r_calli (W.runS (As := [.int x, .int (τ.1 19), .int 100000]) (rest := []) ⟨hx, hb, hml, hown, hts⟩ (ct_M_in l x (τ.1 19) 100000) (cwS 3 hts gd_M_53 rfl rfl rfl (by decide +kernel) ⟨Nat.le_of_ble_eq_true rfl, Nat.le_of_ble_eq_true rfl⟩) preEq rfl rfl hl.1 rfl (lv_room (Nat.le_of_ble_eq_true rfl)) d_M_tick_7 ⟨Nat.le_refl _, Nat.le_refl _⟩) ?_
  refine lv_if_ne (tgt := 19) hx hb d_M_tick_10 (by decide) (fun c_10 => ?_) (fun c_10 => ?_)
  · -- to 19
    exact absurd hx0 c_10
  · -- on 13
    refine lv_aload_n hx hb d_M_tick_13 rfl (lv_at hl 0 rfl) ?_
    refine lv_iconst (v := 1) hx hb d_M_tick_14 (by decide) ?_
    refine g_calli (va_runV (As := [.int 1]) (rest := []) ⟨hx, hb, hml, hown, hts⟩ (ct_M_refuse l D cI cQ β n τ hI 1) (cwV 1 hts gd_M_57 rfl rfl rfl (by decide +kernel) ⟨Nat.le_of_ble_eq_true rfl, Nat.le_of_ble_eq_true rfl⟩) (g_preV hK hP hD (ci := 2) (q0 := 0) rfl mw_0) rfl rfl hl.1 rfl (lv_room (Nat.le_of_ble_eq_true rfl)) d_M_tick_15 ⟨Nat.le_refl _, Nat.le_refl _⟩) hD hS (mw_addr.trans mw_addr.symm) (fun H locs hP hD hS => ?_)
    obtain ⟨τ1, e_τ1⟩ : ∃ ζ, ζ = m_f τ 0 1 := ⟨_, rfl⟩
    rw [← e_τ1] at hP hD
    have hI : m_ok n τ1.1 := by rw [e_τ1]; exact (m_ok_f hI (by decide))
    exact g_reti hx hb hr hlocks rfl (by rw [e_τ1]) hP hS d_M_tick_18

set_option maxHeartbeats 4000000 in
set_option maxRecDepth 100000 in
theorem ct_M_tick (l : Launch) (D : va_G) (cI cQ : ClassId) (β : Nat → Nat) (n : Nat) (τ : mS) (hI : m_ok n τ.1) (x : Int32) (hx0 : ¬ mo_in x (τ.1 19) 100000 = 0) (hh : ∀ j, j < 16 → (mo_tickp n (m_f (m_f τ 0 0) 19 x) j).2.2 8 j = -1 ∨ ∃ d, d < n ∧ (mo_tickp n (m_f (m_f τ 0 0) 19 x) j).2.2 8 j = nI d) : Met l y_M_tick w_M_tick { frames := 2, cells := 0, slots := 0, locals := 45 } (gPc D (kty cI cQ) (mw_w cI β τ) [.ref (β 0), .int x]) (gQi D (mw_al β) ((mo_tick n τ x).1) (mw_w cI β ((mo_tick n τ x).2))) 0 0 (gA (mw_al β)) := by
  refine Met.ofW (cc := b_M_tick) (maxL := 5) (ret := some .int) (by decide) rfl ?_
  intro p e s m args below meth c s₁ B hml hv
  obtain ⟨rfl, hP, hK, hD⟩ := hv
  have hx := B.exec
  have hb := B.bytes
  have hr := B.returns
  have hts : ∀ w ∈ kT, w.before [.ref (β 0), .int x].toArray s = true := fun w h => atoms_spec (ws := w_M_tick) B.pre w (List.mem_cons_of_mem _ h)
  have hown : s.vm.findClass R_M = some m.cls := findClass_of_methodNamed B.named
  have hlocks := B.notSynchronized
  have hD : va_D (gA (mw_al β)) (mw_w cI β τ) := gD mw_addr hD
  have hS : va_S (gA (mw_al β)) s.heap s.heap [] := va_S.rf
  have hl := lv_entry ([.ref (β 0), .int x]) (n := 5) (Nat.le_of_ble_eq_true rfl)
  rw [lg_entry_eq]
  generalize (lg_sl ([.ref (β 0), .int x]) ++ List.replicate (5 - (lg_sl ([.ref (β 0), .int x])).length) Slot.unset).toArray = ls at hl ⊢
  have hl : lv_has ls 5 [(0, .ref (β 0)), (1, .int x)] := hl
  refine lv_iload_n hx hb d_M_tick_0 rfl (lv_at hl 1 rfl) ?_
  refine lv_aload_n hx hb d_M_tick_1 rfl (lv_at hl 0 rfl) ?_
  refine mw_get hx hb hts hown hK hP 19 (by decide) fl_M_84 (v := .int (τ.1 19)) rfl d_M_tick_2 ?_
  refine lv_ldc (v := 100000) hx hb hown (hts _ kc_M_119) d_M_tick_5 ?_
  refine r_calli (W.runS (As := [.int x, .int (τ.1 19), .int 100000]) (rest := []) ⟨hx, hb, hml, hown, hts⟩ (ct_M_in l x (τ.1 19) 100000) (cwS 3 hts gd_M_53 rfl rfl rfl (by decide +kernel) ⟨Nat.le_of_ble_eq_true rfl, Nat.le_of_ble_eq_true rfl⟩) preEq rfl rfl hl.1 rfl (lv_room (Nat.le_of_ble_eq_true rfl)) d_M_tick_7 ⟨Nat.le_refl _, Nat.le_refl _⟩) ?_
  refine lv_if_ne (tgt := 19) hx hb d_M_tick_10 (by decide) (fun c_10 => ?_) (fun c_10 => ?_)
  · -- to 19
    refine lv_aload_n hx hb d_M_tick_19 rfl (lv_at hl 0 rfl) ?_
    refine lv_iconst (v := 0) hx hb d_M_tick_20 (by decide) ?_
    refine mw_put hx hb hts hown hK hP hD hS 0 (by unfold mw_is; decide) fl_M_46 rfl rfl rfl d_M_tick_21 (fun H locs hP hD hS => ?_)
    obtain ⟨τ1, e_τ1⟩ : ∃ ζ, ζ = m_f τ 0 0 := ⟨_, rfl⟩
    rw [← e_τ1] at hP hD
    have hI : m_ok n τ1.1 := by rw [e_τ1]; exact (m_ok_f hI (by decide))
    refine lv_aload_n hx hb d_M_tick_24 rfl (lv_at hl 0 rfl) ?_
    refine lv_iload_n hx hb d_M_tick_25 rfl (lv_at hl 1 rfl) ?_
    refine mw_put hx hb hts hown hK hP hD hS 19 (by unfold mw_is; decide) fl_M_84 rfl rfl rfl d_M_tick_26 (fun H locs hP hD hS => ?_)
    obtain ⟨τ2, e_τ2⟩ : ∃ ζ, ζ = m_f τ1 19 x := ⟨_, rfl⟩
    rw [← e_τ2] at hP hD
    have hI : m_ok n τ2.1 := by rw [e_τ2]; exact (m_ok_f hI (by decide))
    refine lv_iconst (v := 0) hx hb d_M_tick_29 (by decide) ?_
    refine lv_istore_n (lv' := [(2, .int 0), (0, .ref (β 0)), (1, .int x)]) hx hb d_M_tick_30 rfl hl (by decide) rfl (fun ls hl => ?_)
    refine lv_iconst (v := 0) hx hb d_M_tick_31 (by decide) ?_
    refine lv_istore_n (lv' := [(3, .int 0), (2, .int 0), (0, .ref (β 0)), (1, .int x)]) hx hb d_M_tick_32 rfl hl (by decide) rfl (fun ls hl => ?_)
    have lp33 : ∀ (fu j : Nat) (acc : Int32) (ς : mS) (H : Heap) (locs : List Loc) (ls : Array Slot), j ≤ 16 → 16 - j < fu → acc = (mo_tickp n τ2 j).1 → ς = (mo_tickp n τ2 j).2 → va_P D kcl (mw_w cI β ς) H → va_D (gA (mw_al β)) (mw_w cI β ς) → va_S (gA (mw_al β)) s.heap H locs → lv_has ls 5 [(3, .int (nI j)), (2, .int acc), (0, .ref (β 0)), (1, .int x)] → W p l e (headSpec w_M_tick { frames := 2, cells := 0, slots := 0, locals := 45 }).room s m [.ref (β 0), .int x].toArray below meth c H locs 0 0 (MQ below (gQi D (mw_al β) ((mo_tick n τ x).1) (mw_w cI β ((mo_tick n τ x).2))) [.ref (β 0), .int x].toArray s 0 0 (gA (mw_al β))) (F0 m 33 ls []) := by
      intro fu
      induction fu with
      | zero => intro j acc ς H locs ls h1 h2; omega
      | succ fu ih =>
        intro j acc ς H locs ls hj33 hf33 e_acc  e_ς hP hD hS hl
        have hI : m_ok n ς.1 := by rw [e_ς, mo_tickp_1]; exact hI
        refine lv_iload_n hx hb d_M_tick_33 rfl (lv_at hl 0 rfl) ?_
        refine lv_bipush (v := 16) hx hb d_M_tick_34 (by decide) ?_
        refine lv_icmp_ge (tgt := 93) hx hb d_M_tick_36 (by decide) (fun c_36 => ?_) (fun c_36 => ?_)
        · -- to 93
          have hx33 : j = 16 := lp_eq (B := 16) (hn := (by decide)) c_36 hj33
          subst hx33
          refine lv_iload_n hx hb d_M_tick_93 rfl (lv_at hl 1 rfl) ?_
          exact g_reti hx hb hr hlocks (by rw [e_acc, e_τ2, e_τ1]; rfl) (by rw [e_ς, e_τ2, e_τ1]; rfl) hP hS d_M_tick_94
        · -- on 39
          have hl33 : j < 16 := lp_lt (B := 16) (hn := (by decide)) c_36 hj33
          refine lv_aload_n hx hb d_M_tick_39 rfl (lv_at hl 2 rfl) ?_
          refine mw_get hx hb hts hown hK hP 8 (by decide) fl_M_28 (v := .ref (β 8)) rfl d_M_tick_40 ?_
          refine lv_iload_n hx hb d_M_tick_43 rfl (lv_at hl 0 rfl) ?_
          refine mw_ald hx hb hK hP 8 (by unfold mw_as; decide) (j := j) rfl hl33 d_M_tick_44 ?_
          refine lv_istore (lv' := [(4, .int (ς.2 8 j)), (3, .int (nI j)), (2, .int acc), (0, .ref (β 0)), (1, .int x)]) hx hb d_M_tick_45 hl (by decide) rfl (fun ls hl => ?_)
          refine lv_iload hx hb d_M_tick_47 (lv_at hl 0 rfl) ?_
          refine lv_if_lt (tgt := 87) hx hb d_M_tick_49 (by decide) (fun c_49 => ?_) (fun c_49 => ?_)
          · -- to 87
            refine lv_iinc (v := nI (j + 1)) (lv' := [(3, .int (nI (j + 1))), (4, .int (ς.2 8 j)), (2, .int acc), (0, .ref (β 0)), (1, .int x)]) hx hb d_M_tick_87 hl (k := 1) rfl (nI_1 j) (by decide) rfl (fun ls hl => ?_)
            refine lv_goto (tgt := 33) hx hb d_M_tick_90 (by decide) ?_
            have ho : mo_over ς j = 0 := by simp [mo_over, c_49]
            exact ih (j + 1) acc _ _ _ ls (by omega) (by omega) (by rw [mo_tickp, ← e_ς, if_pos ho]; exact e_acc) (by rw [mo_tickp, ← e_ς, if_pos ho]; exact e_ς) hP hD hS (lv_sub hl [0, 2, 3, 4] rfl)
          · -- on 52
            refine lv_aload_n hx hb d_M_tick_52 rfl (lv_at hl 3 rfl) ?_
            refine mw_get hx hb hts hown hK hP 6 (by decide) fl_M_22 (v := .ref (β 6)) rfl d_M_tick_53 ?_
            refine lv_iload hx hb d_M_tick_56 (lv_at hl 0 rfl) ?_
            refine mw_ald hx hb hK hP 6 (by unfold mw_as; decide) (j := (ς.2 8 j).toNatClampNeg) (ix_e c_49) (h8_ix hI c_49 (by rw [e_ς, e_τ2, e_τ1]; exact hh j hl33)) d_M_tick_58 ?_
            refine lv_iconst (v := 3) hx hb d_M_tick_59 (by decide) ?_
            refine lv_icmp_ne (tgt := 87) hx hb d_M_tick_60 (by decide) (fun c_60 => ?_) (fun c_60 => ?_)
            · -- to 87
              refine lv_iinc (v := nI (j + 1)) (lv' := [(3, .int (nI (j + 1))), (4, .int (ς.2 8 j)), (2, .int acc), (0, .ref (β 0)), (1, .int x)]) hx hb d_M_tick_87 hl (k := 1) rfl (nI_1 j) (by decide) rfl (fun ls hl => ?_)
              refine lv_goto (tgt := 33) hx hb d_M_tick_90 (by decide) ?_
              have ho : mo_over ς j = 0 := by simp [mo_over, c_49, c_60]
              exact ih (j + 1) acc _ _ _ ls (by omega) (by omega) (by rw [mo_tickp, ← e_ς, if_pos ho]; exact e_acc) (by rw [mo_tickp, ← e_ς, if_pos ho]; exact e_ς) hP hD hS (lv_sub hl [0, 2, 3, 4] rfl)
            · -- on 63
              refine lv_aload_n hx hb d_M_tick_63 rfl (lv_at hl 3 rfl) ?_
              refine mw_get hx hb hts hown hK hP 19 (by decide) fl_M_84 (v := .int (ς.1 19)) rfl d_M_tick_64 ?_
              refine lv_aload_n hx hb d_M_tick_67 rfl (lv_at hl 3 rfl) ?_
              refine mw_get hx hb hts hown hK hP 9 (by decide) fl_M_31 (v := .ref (β 9)) rfl d_M_tick_68 ?_
              refine lv_iload_n hx hb d_M_tick_71 rfl (lv_at hl 1 rfl) ?_
              refine mw_ald hx hb hK hP 9 (by unfold mw_as; decide) (j := j) rfl hl33 d_M_tick_72 ?_
              refine lv_isub hx hb d_M_tick_73 ?_
              refine lv_bipush (v := 100) hx hb d_M_tick_74 (by decide) ?_
              refine lv_icmp_le (tgt := 87) hx hb d_M_tick_76 (by decide) (fun c_76 => ?_) (fun c_76 => ?_)
              · -- to 87
                refine lv_iinc (v := nI (j + 1)) (lv' := [(3, .int (nI (j + 1))), (4, .int (ς.2 8 j)), (2, .int acc), (0, .ref (β 0)), (1, .int x)]) hx hb d_M_tick_87 hl (k := 1) rfl (nI_1 j) (by decide) rfl (fun ls hl => ?_)
                refine lv_goto (tgt := 33) hx hb d_M_tick_90 (by decide) ?_
                have ho : mo_over ς j = 0 := by simp [mo_over, c_49, c_60, c_76]
                exact ih (j + 1) acc _ _ _ ls (by omega) (by omega) (by rw [mo_tickp, ← e_ς, if_pos ho]; exact e_acc) (by rw [mo_tickp, ← e_ς, if_pos ho]; exact e_ς) hP hD hS (lv_sub hl [0, 2, 3, 4] rfl)
              · -- on 79
                refine lv_aload_n hx hb d_M_tick_79 rfl (lv_at hl 3 rfl) ?_
                refine lv_iload_n hx hb d_M_tick_80 rfl (lv_at hl 1 rfl) ?_
                refine g_callv (va_runV (As := [.int (nI j)]) (rest := []) ⟨hx, hb, hml, hown, hts⟩ (ct_M_giveBack l D cI cQ β n ς hI j hl33) (cwV 1 hts gd_M_87 rfl rfl rfl (by decide +kernel) ⟨Nat.le_of_ble_eq_true rfl, Nat.le_of_ble_eq_true rfl⟩) (g_preV hK hP hD (ci := 2) (q0 := 0) rfl mw_0) rfl rfl hl.1 rfl (lv_room (Nat.le_of_ble_eq_true rfl)) d_M_tick_81 ⟨Nat.le_refl _, Nat.le_refl _⟩) hD hS (mw_addr.trans mw_addr.symm) (fun H locs hP hD hS => ?_)
                obtain ⟨τ3, e_τ3⟩ : ∃ ζ, ζ = mo_gb n ς j := ⟨_, rfl⟩
                rw [← e_τ3] at hP hD
                have hI : m_ok n τ3.1 := by rw [e_τ3]; exact (by rw [mo_gb_1]; exact hI)
                refine lv_iinc (v := acc + 1) (lv' := [(2, .int (acc + 1)), (4, .int (ς.2 8 j)), (3, .int (nI j)), (0, .ref (β 0)), (1, .int x)]) hx hb d_M_tick_84 hl (k := 2) rfl rfl (by decide) rfl (fun ls hl => ?_)
                refine lv_iinc (v := nI (j + 1)) (lv' := [(3, .int (nI (j + 1))), (2, .int (acc + 1)), (4, .int (ς.2 8 j)), (0, .ref (β 0)), (1, .int x)]) hx hb d_M_tick_87 hl (k := 2) rfl (nI_1 j) (by decide) rfl (fun ls hl => ?_)
                refine lv_goto (tgt := 33) hx hb d_M_tick_90 (by decide) ?_
                have ho : ¬ mo_over ς j = 0 := by simp [mo_over, c_49, c_60, c_76]
                exact ih (j + 1) (acc + 1) _ _ _ ls (by omega) (by omega) (by rw [mo_tickp, ← e_ς, if_neg ho]; exact congrArg (fun z => z + 1) e_acc) (by rw [e_τ3, mo_tickp, ← e_ς, if_neg ho]) hP hD hS (lv_sub hl [0, 1, 3, 4] rfl)
    exact lp33 (16 - 0 + 1) 0 _ _ _ _ ls (by omega) (by omega) rfl  rfl hP hD hS (lv_sub hl [0, 1, 2, 3] rfl)
  · -- on 13
    exact absurd c_10 hx0

set_option maxHeartbeats 4000000 in
set_option maxRecDepth 100000 in
theorem ct_M_close (l : Launch) (D : va_G) (cI cQ : ClassId) (β : Nat → Nat) (n : Nat) (τ : mS) (hI : m_ok n τ.1)  : Met l y_M_close w_M_close { frames := 3, cells := 0, slots := 0, locals := 68 } (gPc D (kty cI cQ) (mw_w cI β τ) [.ref (β 0)]) (gQi D (mw_al β) ((mo_close n τ).1) (mw_w cI β ((mo_close n τ).2))) 0 0 (gA (mw_al β)) := by
  refine Met.ofW (cc := b_M_close) (maxL := 3) (ret := some .int) (by decide) rfl ?_
  intro p e s m args below meth c s₁ B hml hv
  obtain ⟨rfl, hP, hK, hD⟩ := hv
  have hx := B.exec
  have hb := B.bytes
  have hr := B.returns
  have hts : ∀ w ∈ kT, w.before [.ref (β 0)].toArray s = true := fun w h => atoms_spec (ws := w_M_close) B.pre w (List.mem_cons_of_mem _ h)
  have hown : s.vm.findClass R_M = some m.cls := findClass_of_methodNamed B.named
  have hlocks := B.notSynchronized
  have hD : va_D (gA (mw_al β)) (mw_w cI β τ) := gD mw_addr hD
  have hS : va_S (gA (mw_al β)) s.heap s.heap [] := va_S.rf
  have hl := lv_entry ([.ref (β 0)]) (n := 3) (Nat.le_of_ble_eq_true rfl)
  rw [lg_entry_eq]
  generalize (lg_sl ([.ref (β 0)]) ++ List.replicate (3 - (lg_sl ([.ref (β 0)])).length) Slot.unset).toArray = ls at hl ⊢
  have hl : lv_has ls 3 [(0, .ref (β 0))] := hl
  refine lv_aload_n hx hb d_M_close_0 rfl (lv_at hl 0 rfl) ?_
  refine lv_iconst (v := 0) hx hb d_M_close_1 (by decide) ?_
  refine mw_put hx hb hts hown hK hP hD hS 0 (by unfold mw_is; decide) fl_M_46 rfl rfl rfl d_M_close_2 (fun H locs hP hD hS => ?_)
  obtain ⟨τ1, e_τ1⟩ : ∃ ζ, ζ = m_f τ 0 0 := ⟨_, rfl⟩
  rw [← e_τ1] at hP hD
  have hI : m_ok n τ1.1 := by rw [e_τ1]; exact (m_ok_f hI (by decide))
  refine lv_aload_n hx hb d_M_close_5 rfl (lv_at hl 0 rfl) ?_
  refine mw_get hx hb hts hown hK hP 20 (by decide) fl_M_61 (v := .int (τ1.1 20)) rfl d_M_close_6 ?_
  refine lv_if_eq (tgt := 14) hx hb d_M_close_9 (by decide) (fun c_9 => ?_) (fun c_9 => ?_)
  · -- to 14
    refine lv_aload_n hx hb d_M_close_14 rfl (lv_at hl 0 rfl) ?_
    refine lv_iconst (v := 1) hx hb d_M_close_15 (by decide) ?_
    refine mw_put hx hb hts hown hK hP hD hS 20 (by unfold mw_is; decide) fl_M_61 rfl (by decide +kernel) (by decide +kernel) d_M_close_16 (fun H locs hP hD hS => ?_)
    obtain ⟨τ2, e_τ2⟩ : ∃ ζ, ζ = m_f τ1 20 1 := ⟨_, rfl⟩
    rw [← e_τ2] at hP hD
    have hI : m_ok n τ2.1 := by rw [e_τ2]; exact (m_ok_f hI (by decide))
    refine lv_iconst (v := 0) hx hb d_M_close_19 (by decide) ?_
    refine lv_istore_n (lv' := [(1, .int 0), (0, .ref (β 0))]) hx hb d_M_close_20 rfl hl (by decide) rfl (fun ls hl => ?_)
    refine lv_iconst (v := 0) hx hb d_M_close_21 (by decide) ?_
    refine lv_istore_n (lv' := [(2, .int 0), (1, .int 0), (0, .ref (β 0))]) hx hb d_M_close_22 rfl hl (by decide) rfl (fun ls hl => ?_)
    have lp23 : ∀ (fu j : Nat) (acc : Int32) (ς : mS) (H : Heap) (locs : List Loc) (ls : Array Slot), j ≤ n → n - j < fu → acc = (mo_closep n τ2 j).1 → ς = (mo_closep n τ2 j).2 → va_P D kcl (mw_w cI β ς) H → va_D (gA (mw_al β)) (mw_w cI β ς) → va_S (gA (mw_al β)) s.heap H locs → lv_has ls 3 [(2, .int (nI j)), (1, .int acc), (0, .ref (β 0))] → W p l e (headSpec w_M_close { frames := 3, cells := 0, slots := 0, locals := 68 }).room s m [.ref (β 0)].toArray below meth c H locs 0 0 (MQ below (gQi D (mw_al β) ((mo_close n τ).1) (mw_w cI β ((mo_close n τ).2))) [.ref (β 0)].toArray s 0 0 (gA (mw_al β))) (F0 m 23 ls []) := by
      intro fu
      induction fu with
      | zero => intro j acc ς H locs ls h1 h2; omega
      | succ fu ih =>
        intro j acc ς H locs ls hj23 hf23 e_acc  e_ς hP hD hS hl
        have hI : m_ok n ς.1 := by rw [e_ς]; exact m_ok_closep hI _
        refine lv_iload_n hx hb d_M_close_23 rfl (lv_at hl 0 rfl) ?_
        refine lv_aload_n hx hb d_M_close_24 rfl (lv_at hl 2 rfl) ?_
        refine mw_get hx hb hts hown hK hP 1 (by decide) fl_M_50 (v := .int (ς.1 1)) rfl d_M_close_25 ?_
        refine lv_icmp_ge (tgt := 83) hx hb d_M_close_28 (by decide) (fun c_28 => ?_) (fun c_28 => ?_)
        · -- to 83
          have hx23 : j = n := mp_eqI hI c_28 hj23
          rw [hx23] at e_acc e_ς
          refine lv_iload_n hx hb d_M_close_83 rfl (lv_at hl 1 rfl) ?_
          exact g_reti hx hb hr hlocks (by rw [mo_close, if_pos (by rw [← e_τ1]; exact c_9), e_acc, e_τ2, e_τ1]) (by rw [mo_close, if_pos (by rw [← e_τ1]; exact c_9), e_ς, e_τ2, e_τ1]) hP hS d_M_close_84
        · -- on 31
          have hl23 : j < n := mp_ltI hI c_28 hj23
          refine lv_aload_n hx hb d_M_close_31 rfl (lv_at hl 2 rfl) ?_
          refine mw_get hx hb hts hown hK hP 6 (by decide) fl_M_22 (v := .ref (β 6)) rfl d_M_close_32 ?_
          refine lv_iload_n hx hb d_M_close_35 rfl (lv_at hl 0 rfl) ?_
          refine mw_ald hx hb hK hP 6 (by unfold mw_as; decide) (j := j) rfl (m8 hI hl23) d_M_close_36 ?_
          refine lv_iconst (v := 2) hx hb d_M_close_37 (by decide) ?_
          refine lv_icmp_eq (tgt := 77) hx hb d_M_close_38 (by decide) (fun c_38 => ?_) (fun c_38 => ?_)
          · -- to 77
            refine lv_iinc (v := nI (j + 1)) (lv' := [(2, .int (nI (j + 1))), (1, .int acc), (0, .ref (β 0))]) hx hb d_M_close_77 hl (k := 0) rfl (nI_1 j) (by decide) rfl (fun ls hl => ?_)
            refine lv_goto (tgt := 23) hx hb d_M_close_80 (by decide) ?_
            exact ih (j + 1) acc _ _ _ ls (by omega) (by omega) (by rw [mo_closep, ← e_ς, if_pos c_38]; exact e_acc) (by rw [mo_closep, ← e_ς, if_pos c_38]; exact e_ς) hP hD hS (lv_sub hl [0, 1, 2] rfl)
          · -- on 41
            refine lv_aload_n hx hb d_M_close_41 rfl (lv_at hl 2 rfl) ?_
            refine lv_iload_n hx hb d_M_close_42 rfl (lv_at hl 0 rfl) ?_
            refine r_calli (W.runV (As := [.int (nI j)]) (rest := []) ⟨hx, hb, hml, hown, hts⟩ (ct_M_isMidst l D cI cQ β n ς hI j hl23) (cwV 1 hts gd_M_75 rfl rfl rfl (by decide +kernel) ⟨Nat.le_of_ble_eq_true rfl, Nat.le_of_ble_eq_true rfl⟩) (g_preV hK hP hD (ci := 2) (q0 := 0) rfl mw_0) rfl rfl hl.1 rfl (lv_room (Nat.le_of_ble_eq_true rfl)) d_M_close_43 ⟨Nat.le_refl _, Nat.le_refl _⟩) ?_
            refine lv_if_eq (tgt := 55) hx hb d_M_close_46 (by decide) (fun c_46 => ?_) (fun c_46 => ?_)
            · -- to 55
              refine lv_aload_n hx hb d_M_close_55 rfl (lv_at hl 2 rfl) ?_
              refine mw_get hx hb hts hown hK hP 6 (by decide) fl_M_22 (v := .ref (β 6)) rfl d_M_close_56 ?_
              refine lv_iload_n hx hb d_M_close_59 rfl (lv_at hl 0 rfl) ?_
              refine lv_iconst (v := 4) hx hb d_M_close_60 (by decide) ?_
              refine mw_ast hx hb hK hP hD hS 6 (by unfold mw_as; decide) (j := j) rfl (m8 hI hl23) d_M_close_61 (fun H locs hP hD hS => ?_)
              obtain ⟨τ3, e_τ3⟩ : ∃ ζ, ζ = m_a ς 6 j 4 := ⟨_, rfl⟩
              rw [← e_τ3] at hP hD
              have hI : m_ok n τ3.1 := by rw [e_τ3]; exact hI
              refine lv_aload_n hx hb d_M_close_62 rfl (lv_at hl 2 rfl) ?_
              refine mw_get hx hb hts hown hK hP 10 (by decide) fl_M_34 (v := .ref (β 10)) rfl d_M_close_63 ?_
              refine lv_iload_n hx hb d_M_close_66 rfl (lv_at hl 0 rfl) ?_
              refine lv_iconst (v := (-1)) hx hb d_M_close_67 (by decide) ?_
              refine mw_ast hx hb hK hP hD hS 10 (by unfold mw_as; decide) (j := j) rfl (m8 hI hl23) d_M_close_68 (fun H locs hP hD hS => ?_)
              obtain ⟨τ4, e_τ4⟩ : ∃ ζ, ζ = m_a τ3 10 j (-1) := ⟨_, rfl⟩
              rw [← e_τ4] at hP hD
              have hI : m_ok n τ4.1 := by rw [e_τ4]; exact hI
              refine lv_aload_n hx hb d_M_close_69 rfl (lv_at hl 2 rfl) ?_
              refine lv_iload_n hx hb d_M_close_70 rfl (lv_at hl 0 rfl) ?_
              refine g_callv (va_runV (As := [.int (nI j)]) (rest := []) ⟨hx, hb, hml, hown, hts⟩ (ct_M_giveAll l D cI cQ β n τ4 hI j hl23) (cwV 1 hts gd_M_98 rfl rfl rfl (by decide +kernel) ⟨Nat.le_of_ble_eq_true rfl, Nat.le_of_ble_eq_true rfl⟩) (g_preV hK hP hD (ci := 2) (q0 := 0) rfl mw_0) rfl rfl hl.1 rfl (lv_room (Nat.le_of_ble_eq_true rfl)) d_M_close_71 ⟨Nat.le_refl _, Nat.le_refl _⟩) hD hS (mw_addr.trans mw_addr.symm) (fun H locs hP hD hS => ?_)
              obtain ⟨τ5, e_τ5⟩ : ∃ ζ, ζ = mo_ga n τ4 j := ⟨_, rfl⟩
              rw [← e_τ5] at hP hD
              have hI : m_ok n τ5.1 := by rw [e_τ5]; exact (by rw [mo_ga_1]; exact hI)
              refine lv_iinc (v := acc + 1) (lv' := [(1, .int (acc + 1)), (2, .int (nI j)), (0, .ref (β 0))]) hx hb d_M_close_74 hl (k := 1) rfl rfl (by decide) rfl (fun ls hl => ?_)
              refine lv_iinc (v := nI (j + 1)) (lv' := [(2, .int (nI (j + 1))), (1, .int (acc + 1)), (0, .ref (β 0))]) hx hb d_M_close_77 hl (k := 1) rfl (nI_1 j) (by decide) rfl (fun ls hl => ?_)
              refine lv_goto (tgt := 23) hx hb d_M_close_80 (by decide) ?_
              exact ih (j + 1) (acc + 1) _ _ _ ls (by omega) (by omega) (by rw [mo_closep, ← e_ς, if_neg c_38]; exact congrArg (fun z => z + 1) e_acc) (by rw [e_τ5, e_τ4, e_τ3, mo_closep, ← e_ς, if_neg c_38, mo_end, if_pos c_46]) hP hD hS (lv_sub hl [0, 1, 2] rfl)
            · -- on 49
              refine lv_aload_n hx hb d_M_close_49 rfl (lv_at hl 2 rfl) ?_
              refine lv_iconst (v := 4) hx hb d_M_close_50 (by decide) ?_
              refine lv_iload_n hx hb d_M_close_51 rfl (lv_at hl 0 rfl) ?_
              refine g_callv (va_runV (As := [.int 4, .int (nI j)]) (rest := []) ⟨hx, hb, hml, hown, hts⟩ (ct_M_write l D cI cQ β n ς hI 4 j hl23) (cwV 2 hts gd_M_94 rfl rfl rfl (by decide +kernel) ⟨Nat.le_of_ble_eq_true rfl, Nat.le_of_ble_eq_true rfl⟩) (g_preV hK hP hD (ci := 2) (q0 := 0) rfl mw_0) rfl rfl hl.1 rfl (lv_room (Nat.le_of_ble_eq_true rfl)) d_M_close_52 ⟨Nat.le_refl _, Nat.le_refl _⟩) hD hS (mw_addr.trans mw_addr.symm) (fun H locs hP hD hS => ?_)
              obtain ⟨τ6, e_τ6⟩ : ∃ ζ, ζ = mo_write ς 4 j := ⟨_, rfl⟩
              rw [← e_τ6] at hP hD
              have hI : m_ok n τ6.1 := by rw [e_τ6]; exact (m_ok_write hI)
              refine lv_aload_n hx hb d_M_close_55 rfl (lv_at hl 2 rfl) ?_
              refine mw_get hx hb hts hown hK hP 6 (by decide) fl_M_22 (v := .ref (β 6)) rfl d_M_close_56 ?_
              refine lv_iload_n hx hb d_M_close_59 rfl (lv_at hl 0 rfl) ?_
              refine lv_iconst (v := 4) hx hb d_M_close_60 (by decide) ?_
              refine mw_ast hx hb hK hP hD hS 6 (by unfold mw_as; decide) (j := j) rfl (m8 hI hl23) d_M_close_61 (fun H locs hP hD hS => ?_)
              obtain ⟨τ7, e_τ7⟩ : ∃ ζ, ζ = m_a τ6 6 j 4 := ⟨_, rfl⟩
              rw [← e_τ7] at hP hD
              have hI : m_ok n τ7.1 := by rw [e_τ7]; exact hI
              refine lv_aload_n hx hb d_M_close_62 rfl (lv_at hl 2 rfl) ?_
              refine mw_get hx hb hts hown hK hP 10 (by decide) fl_M_34 (v := .ref (β 10)) rfl d_M_close_63 ?_
              refine lv_iload_n hx hb d_M_close_66 rfl (lv_at hl 0 rfl) ?_
              refine lv_iconst (v := (-1)) hx hb d_M_close_67 (by decide) ?_
              refine mw_ast hx hb hK hP hD hS 10 (by unfold mw_as; decide) (j := j) rfl (m8 hI hl23) d_M_close_68 (fun H locs hP hD hS => ?_)
              obtain ⟨τ8, e_τ8⟩ : ∃ ζ, ζ = m_a τ7 10 j (-1) := ⟨_, rfl⟩
              rw [← e_τ8] at hP hD
              have hI : m_ok n τ8.1 := by rw [e_τ8]; exact hI
              refine lv_aload_n hx hb d_M_close_69 rfl (lv_at hl 2 rfl) ?_
              refine lv_iload_n hx hb d_M_close_70 rfl (lv_at hl 0 rfl) ?_
              refine g_callv (va_runV (As := [.int (nI j)]) (rest := []) ⟨hx, hb, hml, hown, hts⟩ (ct_M_giveAll l D cI cQ β n τ8 hI j hl23) (cwV 1 hts gd_M_98 rfl rfl rfl (by decide +kernel) ⟨Nat.le_of_ble_eq_true rfl, Nat.le_of_ble_eq_true rfl⟩) (g_preV hK hP hD (ci := 2) (q0 := 0) rfl mw_0) rfl rfl hl.1 rfl (lv_room (Nat.le_of_ble_eq_true rfl)) d_M_close_71 ⟨Nat.le_refl _, Nat.le_refl _⟩) hD hS (mw_addr.trans mw_addr.symm) (fun H locs hP hD hS => ?_)
              obtain ⟨τ9, e_τ9⟩ : ∃ ζ, ζ = mo_ga n τ8 j := ⟨_, rfl⟩
              rw [← e_τ9] at hP hD
              have hI : m_ok n τ9.1 := by rw [e_τ9]; exact (by rw [mo_ga_1]; exact hI)
              refine lv_iinc (v := acc + 1) (lv' := [(1, .int (acc + 1)), (2, .int (nI j)), (0, .ref (β 0))]) hx hb d_M_close_74 hl (k := 1) rfl rfl (by decide) rfl (fun ls hl => ?_)
              refine lv_iinc (v := nI (j + 1)) (lv' := [(2, .int (nI (j + 1))), (1, .int (acc + 1)), (0, .ref (β 0))]) hx hb d_M_close_77 hl (k := 1) rfl (nI_1 j) (by decide) rfl (fun ls hl => ?_)
              refine lv_goto (tgt := 23) hx hb d_M_close_80 (by decide) ?_
              exact ih (j + 1) (acc + 1) _ _ _ ls (by omega) (by omega) (by rw [mo_closep, ← e_ς, if_neg c_38]; exact congrArg (fun z => z + 1) e_acc) (by rw [e_τ9, e_τ8, e_τ7, e_τ6, mo_closep, ← e_ς, if_neg c_38, mo_end, if_neg c_46]) hP hD hS (lv_sub hl [0, 1, 2] rfl)
    exact lp23 (n - 0 + 1) 0 _ _ _ _ ls (by omega) (by omega) rfl  rfl hP hD hS (lv_sub hl [0, 1, 2] rfl)
  · -- on 12
    refine lv_iconst (v := (-1)) hx hb d_M_close_12 (by decide) ?_
    exact g_reti hx hb hr hlocks (by rw [mo_close, if_neg (by rw [← e_τ1]; exact c_9)]) (by rw [mo_close, if_neg (by rw [← e_τ1]; exact c_9), e_τ1]) hP hS d_M_close_13
