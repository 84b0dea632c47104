set_option maxHeartbeats 4000000 in
set_option maxRecDepth 100000 in
theorem ct_K_leastLacking (l : Launch) (D : va_G) (cI cQ : ClassId) (α ad an : Nat → Nat) (n : Nat) (σ : kS) (hI : k_ok n σ.1) (i : Nat) (hi : i < n) : Met l y_K_leastLacking w_K_leastLacking { frames := 1, cells := 0, slots := 0, locals := 22 } (gPc D (kty cI cQ) (kw_w cI cQ α ad an n σ) [.ref (α 0), .ref (ad i)]) (QcRead (kd_ll σ i)) 0 0 (fun _ => False) := by
  refine Met.ofW (cc := b_K_leastLacking) (maxL := 3) (ret := some .int) (by decide) rfl ?_
  intro p e s m args below meth c s₁ B hml hv
  obtain ⟨rfl, hP, hK, hD⟩ := hv
  have hx := B.exec
  have hb := B.bytes
  have hr := B.returns
  have hts : ∀ w ∈ kT, w.before [.ref (α 0), .ref (ad i)].toArray s = true := fun w h => atoms_spec (ws := w_K_leastLacking) B.pre w (List.mem_cons_of_mem _ h)
  have hown : s.vm.findClass R_K = some m.cls := findClass_of_methodNamed B.named
  have hlocks := B.notSynchronized
  have hl := lv_entry ([.ref (α 0), .ref (ad i)]) (n := 3) (Nat.le_of_ble_eq_true rfl)
  rw [lg_entry_eq]
  generalize (lg_sl ([.ref (α 0), .ref (ad i)]) ++ List.replicate (3 - (lg_sl ([.ref (α 0), .ref (ad i)])).length) Slot.unset).toArray = ls at hl ⊢
  have hl : lv_has ls 3 [(0, .ref (α 0)), (1, .ref (ad i))] := hl
  refine lv_iconst (v := 0) hx hb d_K_leastLacking_0 (by decide) ?_
  refine lv_istore_n (lv' := [(2, .int 0), (0, .ref (α 0)), (1, .ref (ad i))]) hx hb d_K_leastLacking_1 rfl hl (by decide) rfl (fun ls hl => ?_)
  have lp2 : ∀ (fu j : Nat) (ls : Array Slot), j ≤ 16 → 16 - j < fu → kd_llp σ i j = none → lv_has ls 3 [(2, .int (nI j)), (0, .ref (α 0)), (1, .ref (ad i))] → W p l e (headSpec w_K_leastLacking { frames := 1, cells := 0, slots := 0, locals := 22 }).room s m [.ref (α 0), .ref (ad i)].toArray below meth c s.heap [] 0 0 (MQ below (QcRead (kd_ll σ i)) [.ref (α 0), .ref (ad i)].toArray s 0 0 (fun _ => False)) (F0 m 2 ls []) := by
    intro fu
    induction fu with
    | zero => intro j  ls h1 h2; omega
    | succ fu ih =>
      intro j  ls hj2 hf2  e_ll hl
      refine lv_iload_n hx hb d_K_leastLacking_2 rfl (lv_at hl 0 rfl) ?_
      refine lv_bipush (v := 16) hx hb d_K_leastLacking_3 (by decide) ?_
      refine lv_icmp_ge (tgt := 41) hx hb d_K_leastLacking_5 (by decide) (fun c_5 => ?_) (fun c_5 => ?_)
      · -- to 41
        have hx2 : j = 16 := lp_eq (B := 16) (hn := (by decide)) c_5 hj2
        subst hx2
        refine lv_iconst (v := (-1)) hx hb d_K_leastLacking_41 (by decide) ?_
        exact r_reti hx hb hr hlocks (kd_ll_n e_ll) d_K_leastLacking_42
      · -- on 8
        have hl2 : j < 16 := lp_lt (B := 16) (hn := (by decide)) c_5 hj2
        refine lv_aload_n hx hb d_K_leastLacking_8 rfl (lv_at hl 2 rfl) ?_
        refine lv_aload_n hx hb d_K_leastLacking_9 rfl (lv_at hl 2 rfl) ?_
        refine kw_dget hx hb hts hown hK hP hi 4 (by decide) fl_K_92 (v := .int (σ.2.2.1 i 4)) rfl d_K_leastLacking_10 ?_
        refine lv_iload_n hx hb d_K_leastLacking_13 rfl (lv_at hl 0 rfl) ?_
        refine r_calli (W.runV (As := [.int (σ.2.2.1 i 4), .int (nI j)]) (rest := []) ⟨hx, hb, hml, hown, hts⟩ (ct_D_hasNeed l D cI cQ α ad an n σ hI i hi (σ.2.2.1 i 4) (nI j)) (cwV 2 hts gd_K_88 rfl rfl rfl (by decide +kernel) ⟨Nat.le_of_ble_eq_true rfl, Nat.le_of_ble_eq_true rfl⟩) (g_preV hK hP hD (ci := 1) (q0 := 6 + i) rfl (kw_3 hi)) rfl rfl hl.1 rfl (lv_room (Nat.le_of_ble_eq_true rfl)) d_K_leastLacking_14 ⟨Nat.le_refl _, Nat.le_refl _⟩) ?_
        refine lv_if_eq (tgt := 35) hx hb d_K_leastLacking_17 (by decide) (fun c_17 => ?_) (fun c_17 => ?_)
        · -- to 35
          refine lv_iinc (v := nI (j + 1)) (lv' := [(2, .int (nI (j + 1))), (0, .ref (α 0)), (1, .ref (ad i))]) hx hb d_K_leastLacking_35 hl (k := 0) rfl (nI_1 j) (by decide) rfl (fun ls hl => ?_)
          refine lv_goto (tgt := 2) hx hb d_K_leastLacking_38 (by decide) ?_
          exact ih (j + 1)  ls (by omega) (by omega) (by simp [kd_llp, e_ll, c_5, c_17]) (lv_sub hl [0, 1, 2] rfl)
        · -- on 20
          refine lv_aload_n hx hb d_K_leastLacking_20 rfl (lv_at hl 1 rfl) ?_
          refine kw_get hx hb hts hown hK hP 2 (by decide) fl_K_19 (v := .ref (α 2)) rfl d_K_leastLacking_21 ?_
          refine lv_iload_n hx hb d_K_leastLacking_24 rfl (lv_at hl 0 rfl) ?_
          refine kw_ald hx hb hK hP 0 (by decide) (j := j) rfl hl2 d_K_leastLacking_25 ?_
          refine lv_aload_n hx hb d_K_leastLacking_26 rfl (lv_at hl 2 rfl) ?_
          refine kw_dget hx hb hts hown hK hP hi 0 (by decide) fl_K_117 (v := .int (σ.2.2.1 i 0)) rfl d_K_leastLacking_27 ?_
          refine lv_icmp_eq (tgt := 35) hx hb d_K_leastLacking_30 (by decide) (fun c_30 => ?_) (fun c_30 => ?_)
          · -- to 35
            refine lv_iinc (v := nI (j + 1)) (lv' := [(2, .int (nI (j + 1))), (0, .ref (α 0)), (1, .ref (ad i))]) hx hb d_K_leastLacking_35 hl (k := 0) rfl (nI_1 j) (by decide) rfl (fun ls hl => ?_)
            refine lv_goto (tgt := 2) hx hb d_K_leastLacking_38 (by decide) ?_
            exact ih (j + 1)  ls (by omega) (by omega) (by simp [kd_llp, e_ll, c_5, c_17, c_30]) (lv_sub hl [0, 1, 2] rfl)
          · -- on 33
            refine lv_iload_n hx hb d_K_leastLacking_33 rfl (lv_at hl 0 rfl) ?_
            exact r_reti hx hb hr hlocks (kd_ll_s (kd_llp_up (m := j + 1) (by rw [kd_llp, e_ll]; simp [c_17, c_30]) (show j + 1 ≤ 16 by omega))) d_K_leastLacking_34
  exact lp2 (16 - 0 + 1) 0  ls (by omega) (by omega)  rfl (lv_sub hl [0, 1, 2] rfl)

set_option maxHeartbeats 4000000 in
set_option maxRecDepth 100000 in
theorem ct_K_waitersAheadOf (l : Launch) (D : va_G) (cI cQ : ClassId) (α ad an : Nat → Nat) (n : Nat) (σ : kS) (hI : k_ok n σ.1) (i : Nat) (hi : i < n) : Met l y_K_waitersAheadOf w_K_waitersAheadOf { frames := 0, cells := 0, slots := 0, locals := 0 } (gPc D (kty cI cQ) (kw_w cI cQ α ad an n σ) [.ref (α 0), .ref (ad i)]) (QcRead (kd_wap σ i n)) 0 0 (fun _ => False) := by
  refine Met.ofW (cc := b_K_waitersAheadOf) (maxL := 5) (ret := some .int) (by decide) rfl ?_
  intro p e s m args below meth c s₁ B hml hv
  obtain ⟨rfl, hP, hK, hD⟩ := hv
  have hx := B.exec
  have hb := B.bytes
  have hr := B.returns
  have hts : ∀ w ∈ kT, w.before [.ref (α 0), .ref (ad i)].toArray s = true := fun w h => atoms_spec (ws := w_K_waitersAheadOf) B.pre w (List.mem_cons_of_mem _ h)
  have hown : s.vm.findClass R_K = some m.cls := findClass_of_methodNamed B.named
  have hlocks := B.notSynchronized
  have hl := lv_entry ([.ref (α 0), .ref (ad i)]) (n := 5) (Nat.le_of_ble_eq_true rfl)
  rw [lg_entry_eq]
  generalize (lg_sl ([.ref (α 0), .ref (ad i)]) ++ List.replicate (5 - (lg_sl ([.ref (α 0), .ref (ad i)])).length) Slot.unset).toArray = ls at hl ⊢
  have hl : lv_has ls 5 [(0, .ref (α 0)), (1, .ref (ad i))] := hl
  refine lv_iconst (v := 0) hx hb d_K_waitersAheadOf_0 (by decide) ?_
  refine lv_istore_n (lv' := [(2, .int 0), (0, .ref (α 0)), (1, .ref (ad i))]) hx hb d_K_waitersAheadOf_1 rfl hl (by decide) rfl (fun ls hl => ?_)
  refine lv_iconst (v := 0) hx hb d_K_waitersAheadOf_2 (by decide) ?_
  refine lv_istore_n (lv' := [(3, .int 0), (2, .int 0), (0, .ref (α 0)), (1, .ref (ad i))]) hx hb d_K_waitersAheadOf_3 rfl hl (by decide) rfl (fun ls hl => ?_)
  have lp4 : ∀ (fu j : Nat) (acc : Int32) (ls : Array Slot), j ≤ n → n - j < fu → acc = kd_wap σ i j → lv_has ls 5 [(3, .int (nI j)), (2, .int acc), (0, .ref (α 0)), (1, .ref (ad i))] → W p l e (headSpec w_K_waitersAheadOf { frames := 0, cells := 0, slots := 0, locals := 0 }).room s m [.ref (α 0), .ref (ad i)].toArray below meth c s.heap [] 0 0 (MQ below (QcRead (kd_wap σ i n)) [.ref (α 0), .ref (ad i)].toArray s 0 0 (fun _ => False)) (F0 m 4 ls []) := by
    intro fu
    induction fu with
    | zero => intro j acc ls h1 h2; omega
    | succ fu ih =>
      intro j acc ls hj4 hf4 e_acc  hl
      refine lv_iload_n hx hb d_K_waitersAheadOf_4 rfl (lv_at hl 0 rfl) ?_
      refine lv_aload_n hx hb d_K_waitersAheadOf_5 rfl (lv_at hl 2 rfl) ?_
      refine kw_get hx hb hts hown hK hP 1 (by decide) fl_K_15 (v := .int (σ.1 1)) rfl d_K_waitersAheadOf_6 ?_
      refine lv_icmp_ge (tgt := 67) hx hb d_K_waitersAheadOf_9 (by decide) (fun c_9 => ?_) (fun c_9 => ?_)
      · -- to 67
        have hx4 : j = n := lp_eqI hI c_9 hj4
        rw [hx4] at e_acc
        refine lv_iload_n hx hb d_K_waitersAheadOf_67 rfl (lv_at hl 1 rfl) ?_
        exact r_reti hx hb hr hlocks e_acc d_K_waitersAheadOf_68
      · -- on 12
        have hl4 : j < n := lp_ltI hI c_9 hj4
        refine lv_iload_n hx hb d_K_waitersAheadOf_12 rfl (lv_at hl 0 rfl) ?_
        refine lv_aload_n hx hb d_K_waitersAheadOf_13 rfl (lv_at hl 2 rfl) ?_
        refine kw_get hx hb hts hown hK hP 0 (by decide) fl_K_11 (v := .ref (α 1)) rfl d_K_waitersAheadOf_14 ?_
        refine kw_qlen hx hb hK hP d_K_waitersAheadOf_17 ?_
        refine lv_icmp_ge (tgt := 67) hx hb d_K_waitersAheadOf_18 (by decide) (fun c_18 => ?_) (fun c_18 => ?_)
        · -- to 67
          exact absurd c_18 (lp_8 hI hl4)
        · -- on 21
          refine lv_aload_n hx hb d_K_waitersAheadOf_21 rfl (lv_at hl 2 rfl) ?_
          refine kw_get hx hb hts hown hK hP 0 (by decide) fl_K_11 (v := .ref (α 1)) rfl d_K_waitersAheadOf_22 ?_
          refine lv_iload_n hx hb d_K_waitersAheadOf_25 rfl (lv_at hl 0 rfl) ?_
          refine kw_qld hx hb hK hP (j := j) rfl hl4 hI.1 d_K_waitersAheadOf_26 ?_
          refine lv_astore (lv' := [(4, .ref (ad j)), (3, .int (nI j)), (2, .int acc), (0, .ref (α 0)), (1, .ref (ad i))]) hx hb d_K_waitersAheadOf_27 hl (by decide) rfl (fun ls hl => ?_)
          refine lv_aload hx hb d_K_waitersAheadOf_29 (lv_at hl 0 rfl) ?_
          refine lv_ifnull hx hb d_K_waitersAheadOf_31 ?_
          refine lv_aload hx hb d_K_waitersAheadOf_34 (lv_at hl 0 rfl) ?_
          refine kw_dget hx hb hts hown hK hP hl4 6 (by decide) fl_K_120 (v := .int (σ.2.2.1 j 6)) rfl d_K_waitersAheadOf_36 ?_
          refine lv_aload_n hx hb d_K_waitersAheadOf_39 rfl (lv_at hl 4 rfl) ?_
          refine kw_dget hx hb hts hown hK hP hi 6 (by decide) fl_K_120 (v := .int (σ.2.2.1 i 6)) rfl d_K_waitersAheadOf_40 ?_
          refine lv_icmp_ne (tgt := 61) hx hb d_K_waitersAheadOf_43 (by decide) (fun c_43 => ?_) (fun c_43 => ?_)
          · -- to 61
            refine lv_iinc (v := nI (j + 1)) (lv' := [(3, .int (nI (j + 1))), (4, .ref (ad j)), (2, .int acc), (0, .ref (α 0)), (1, .ref (ad i))]) hx hb d_K_waitersAheadOf_61 hl (k := 1) rfl (nI_1 j) (by decide) rfl (fun ls hl => ?_)
            refine lv_goto (tgt := 4) hx hb d_K_waitersAheadOf_64 (by decide) ?_
            exact ih (j + 1) acc ls (by omega) (by omega) (by rw [kd_wap, ← e_acc] <;> simp [c_9, c_18, c_43]) (lv_sub hl [0, 2, 3, 4] rfl)
          · -- on 46
            refine lv_aload hx hb d_K_waitersAheadOf_46 (lv_at hl 0 rfl) ?_
            refine kw_dget hx hb hts hown hK hP hl4 7 (by decide) fl_K_188 (v := .int (σ.2.2.1 j 7)) rfl d_K_waitersAheadOf_48 ?_
            refine lv_aload_n hx hb d_K_waitersAheadOf_51 rfl (lv_at hl 4 rfl) ?_
            refine kw_dget hx hb hts hown hK hP hi 7 (by decide) fl_K_188 (v := .int (σ.2.2.1 i 7)) rfl d_K_waitersAheadOf_52 ?_
            refine lv_icmp_ge (tgt := 61) hx hb d_K_waitersAheadOf_55 (by decide) (fun c_55 => ?_) (fun c_55 => ?_)
            · -- to 61
              refine lv_iinc (v := nI (j + 1)) (lv' := [(3, .int (nI (j + 1))), (4, .ref (ad j)), (2, .int acc), (0, .ref (α 0)), (1, .ref (ad i))]) hx hb d_K_waitersAheadOf_61 hl (k := 1) rfl (nI_1 j) (by decide) rfl (fun ls hl => ?_)
              refine lv_goto (tgt := 4) hx hb d_K_waitersAheadOf_64 (by decide) ?_
              exact ih (j + 1) acc ls (by omega) (by omega) (by rw [kd_wap, ← e_acc] <;> simp [c_9, c_18, c_43, c_55]) (lv_sub hl [0, 2, 3, 4] rfl)
            · -- on 58
              refine lv_iinc (v := acc + 1) (lv' := [(2, .int (acc + 1)), (4, .ref (ad j)), (3, .int (nI j)), (0, .ref (α 0)), (1, .ref (ad i))]) hx hb d_K_waitersAheadOf_58 hl (k := 2) rfl rfl (by decide) rfl (fun ls hl => ?_)
              refine lv_iinc (v := nI (j + 1)) (lv' := [(3, .int (nI (j + 1))), (2, .int (acc + 1)), (4, .ref (ad j)), (0, .ref (α 0)), (1, .ref (ad i))]) hx hb d_K_waitersAheadOf_61 hl (k := 2) rfl (nI_1 j) (by decide) rfl (fun ls hl => ?_)
              refine lv_goto (tgt := 4) hx hb d_K_waitersAheadOf_64 (by decide) ?_
              exact ih (j + 1) (acc + 1) ls (by omega) (by omega) (by rw [kd_wap, ← e_acc] <;> simp [c_9, c_18, c_43, c_55]) (lv_sub hl [0, 1, 3, 4] rfl)
  exact lp4 (n - 0 + 1) 0 _ ls (by omega) (by omega) rfl  (lv_sub hl [0, 1, 2, 3] rfl)

set_option maxHeartbeats 4000000 in
set_option maxRecDepth 100000 in
theorem ct_K_waiterFor (l : Launch) (D : va_G) (cI cQ : ClassId) (α ad an : Nat → Nat) (n : Nat) (σ : kS) (hI : k_ok n σ.1) (x y : Int32) : Met l y_K_waiterFor w_K_waiterFor { frames := 1, cells := 0, slots := 0, locals := 24 } (gPc D (kty cI cQ) (kw_w cI cQ α ad an n σ) [.ref (α 0), .int x, .int y]) (va_Sq (fun q => q = (kd_wfp σ n x y n).map ad)) 0 0 (fun _ => False) := by
  refine Met.ofW (cc := b_K_waiterFor) (maxL := 5) (ret := (some (.object R_D))) (by decide) rfl ?_
  intro p e s m args below meth c s₁ B hml hv
  obtain ⟨rfl, hP, hK, hD⟩ := hv
  have hx := B.exec
  have hb := B.bytes
  have hr := B.returns
  have hts : ∀ w ∈ kT, w.before [.ref (α 0), .int x, .int y].toArray s = true := fun w h => atoms_spec (ws := w_K_waiterFor) B.pre w (List.mem_cons_of_mem _ h)
  have hown : s.vm.findClass R_K = some m.cls := findClass_of_methodNamed B.named
  have hlocks := B.notSynchronized
  have hl := lv_entry ([.ref (α 0), .int x, .int y]) (n := 5) (Nat.le_of_ble_eq_true rfl)
  rw [lg_entry_eq]
  generalize (lg_sl ([.ref (α 0), .int x, .int y]) ++ List.replicate (5 - (lg_sl ([.ref (α 0), .int x, .int y])).length) Slot.unset).toArray = ls at hl ⊢
  have hl : lv_has ls 5 [(0, .ref (α 0)), (1, .int x), (2, .int y)] := hl
  refine lv_iconst (v := 0) hx hb d_K_waiterFor_0 (by decide) ?_
  refine lv_istore_n (lv' := [(3, .int 0), (0, .ref (α 0)), (1, .int x), (2, .int y)]) hx hb d_K_waiterFor_1 rfl hl (by decide) rfl (fun ls hl => ?_)
  have lp2 : ∀ (fu j : Nat) (ls : Array Slot), j ≤ n → n - j < fu → kd_wfp σ n x y j = none → lv_has ls 5 [(3, .int (nI j)), (0, .ref (α 0)), (1, .int x), (2, .int y)] → W p l e (headSpec w_K_waiterFor { frames := 1, cells := 0, slots := 0, locals := 24 }).room s m [.ref (α 0), .int x, .int y].toArray below meth c s.heap [] 0 0 (MQ below (va_Sq (fun q => q = (kd_wfp σ n x y n).map ad)) [.ref (α 0), .int x, .int y].toArray s 0 0 (fun _ => False)) (F0 m 2 ls []) := by
    intro fu
    induction fu with
    | zero => intro j  ls h1 h2; omega
    | succ fu ih =>
      intro j  ls hj2 hf2  e_wf hl
      refine lv_iload_n hx hb d_K_waiterFor_2 rfl (lv_at hl 0 rfl) ?_
      refine lv_aload_n hx hb d_K_waiterFor_3 rfl (lv_at hl 1 rfl) ?_
      refine kw_get hx hb hts hown hK hP 1 (by decide) fl_K_15 (v := .int (σ.1 1)) rfl d_K_waiterFor_4 ?_
      refine lv_icmp_ge (tgt := 60) hx hb d_K_waiterFor_7 (by decide) (fun c_7 => ?_) (fun c_7 => ?_)
      · -- to 60
        have hx2 : j = n := lp_eqI hI c_7 hj2
        rw [hx2] at e_wf
        refine lv_null hx hb d_K_waiterFor_60 ?_
        exact r_retq hx hb hr hlocks (r := (kd_wfp σ n x y n).map ad) (by rw [e_wf]; rfl) d_K_waiterFor_61
      · -- on 10
        have hl2 : j < n := lp_ltI hI c_7 hj2
        refine lv_iload_n hx hb d_K_waiterFor_10 rfl (lv_at hl 0 rfl) ?_
        refine lv_aload_n hx hb d_K_waiterFor_11 rfl (lv_at hl 1 rfl) ?_
        refine kw_get hx hb hts hown hK hP 0 (by decide) fl_K_11 (v := .ref (α 1)) rfl d_K_waiterFor_12 ?_
        refine kw_qlen hx hb hK hP d_K_waiterFor_15 ?_
        refine lv_icmp_ge (tgt := 60) hx hb d_K_waiterFor_16 (by decide) (fun c_16 => ?_) (fun c_16 => ?_)
        · -- to 60
          exact absurd c_16 (lp_8 hI hl2)
        · -- on 19
          refine lv_aload_n hx hb d_K_waiterFor_19 rfl (lv_at hl 1 rfl) ?_
          refine kw_get hx hb hts hown hK hP 0 (by decide) fl_K_11 (v := .ref (α 1)) rfl d_K_waiterFor_20 ?_
          refine lv_iload_n hx hb d_K_waiterFor_23 rfl (lv_at hl 0 rfl) ?_
          refine kw_qld hx hb hK hP (j := j) rfl hl2 hI.1 d_K_waiterFor_24 ?_
          refine lv_astore (lv' := [(4, .ref (ad j)), (3, .int (nI j)), (0, .ref (α 0)), (1, .int x), (2, .int y)]) hx hb d_K_waiterFor_25 hl (by decide) rfl (fun ls hl => ?_)
          refine lv_aload hx hb d_K_waiterFor_27 (lv_at hl 0 rfl) ?_
          refine lv_ifnull hx hb d_K_waiterFor_29 ?_
          refine lv_aload hx hb d_K_waiterFor_32 (lv_at hl 0 rfl) ?_
          refine kw_dget hx hb hts hown hK hP hl2 6 (by decide) fl_K_120 (v := .int (σ.2.2.1 j 6)) rfl d_K_waiterFor_34 ?_
          refine lv_iload_n hx hb d_K_waiterFor_37 rfl (lv_at hl 3 rfl) ?_
          refine lv_icmp_ne (tgt := 54) hx hb d_K_waiterFor_38 (by decide) (fun c_38 => ?_) (fun c_38 => ?_)
          · -- to 54
            refine lv_iinc (v := nI (j + 1)) (lv' := [(3, .int (nI (j + 1))), (4, .ref (ad j)), (0, .ref (α 0)), (1, .int x), (2, .int y)]) hx hb d_K_waiterFor_54 hl (k := 1) rfl (nI_1 j) (by decide) rfl (fun ls hl => ?_)
            refine lv_goto (tgt := 2) hx hb d_K_waiterFor_57 (by decide) ?_
            exact ih (j + 1)  ls (by omega) (by omega) (by simp [kd_wfp, e_wf, c_7, c_16, c_38]) (lv_sub hl [0, 2, 3, 4] rfl)
          · -- on 41
            refine lv_aload_n hx hb d_K_waiterFor_41 rfl (lv_at hl 2 rfl) ?_
            refine lv_aload hx hb d_K_waiterFor_42 (lv_at hl 0 rfl) ?_
            refine r_calli (W.runV (As := [.ref (ad j)]) (rest := []) ⟨hx, hb, hml, hown, hts⟩ (ct_K_waitersAheadOf l D cI cQ α ad an n σ hI j hl2) (cwV 1 hts gd_K_194 rfl rfl rfl (by decide +kernel) ⟨Nat.le_of_ble_eq_true rfl, Nat.le_of_ble_eq_true rfl⟩) (g_preV hK hP hD (ci := 0) (q0 := 0) rfl kw_0) rfl rfl hl.1 rfl (lv_room (Nat.le_of_ble_eq_true rfl)) d_K_waiterFor_44 ⟨Nat.le_refl _, Nat.le_refl _⟩) ?_
            refine lv_iload_n hx hb d_K_waiterFor_47 rfl (lv_at hl 4 rfl) ?_
            refine lv_icmp_ne (tgt := 54) hx hb d_K_waiterFor_48 (by decide) (fun c_48 => ?_) (fun c_48 => ?_)
            · -- to 54
              refine lv_iinc (v := nI (j + 1)) (lv' := [(3, .int (nI (j + 1))), (4, .ref (ad j)), (0, .ref (α 0)), (1, .int x), (2, .int y)]) hx hb d_K_waiterFor_54 hl (k := 1) rfl (nI_1 j) (by decide) rfl (fun ls hl => ?_)
              refine lv_goto (tgt := 2) hx hb d_K_waiterFor_57 (by decide) ?_
              exact ih (j + 1)  ls (by omega) (by omega) (by simp [kd_wfp, e_wf, c_7, c_16, c_38, c_48]) (lv_sub hl [0, 2, 3, 4] rfl)
            · -- on 51
              refine lv_aload hx hb d_K_waiterFor_51 (lv_at hl 0 rfl) ?_
              exact r_retq hx hb hr hlocks (r := (kd_wfp σ n x y n).map ad) (by rw [kd_wfp_up (m := j + 1) (i := j) (by rw [kd_wfp, e_wf]; simp [c_38, c_48]) (show j + 1 ≤ n by omega)]; rfl) d_K_waiterFor_53
  exact lp2 (n - 0 + 1) 0  ls (by omega) (by omega)  rfl (lv_sub hl [0, 1, 2, 3] rfl)
