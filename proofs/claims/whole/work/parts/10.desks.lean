set_option maxHeartbeats 4000000 in
set_option maxRecDepth 100000 in
theorem ct_D_condition (l : Launch) (D : va_G) (cI cQ : ClassId) (α ad an : Nat → Nat) (n : Nat) (σ : kS) (hI : k_ok n σ.1) (i : Nat) (hi : i < n) : Met l y_D_condition w_D_condition { frames := 0, cells := 0, slots := 0, locals := 0 } (gPc D (kty cI cQ) (kw_w cI cQ α ad an n σ) [.ref (ad i)]) (QcRead (kd_cond σ i)) 0 0 (fun _ => False) := by
  refine Met.ofW (cc := b_D_condition) (maxL := 1) (ret := some .int) (by decide) rfl ?_
  intro p e s m args below meth c s₁ B hml hv
  obtain ⟨rfl, hP, hK, hD⟩ := hv
  have hx := B.exec
  have hb := B.bytes
  have hr := B.returns
  have hts : ∀ w ∈ kT, w.before [.ref (ad i)].toArray s = true := fun w h => atoms_spec (ws := w_D_condition) B.pre w (List.mem_cons_of_mem _ h)
  have hown : s.vm.findClass R_D = some m.cls := findClass_of_methodNamed B.named
  have hlocks := B.notSynchronized
  have hl := lv_entry ([.ref (ad i)]) (n := 1) (Nat.le_of_ble_eq_true rfl)
  rw [lg_entry_eq]
  generalize (lg_sl ([.ref (ad i)]) ++ List.replicate (1 - (lg_sl ([.ref (ad i)])).length) Slot.unset).toArray = ls at hl ⊢
  have hl : lv_has ls 1 [(0, .ref (ad i))] := hl
  refine lv_aload_n hx hb d_D_condition_0 rfl (lv_at hl 0 rfl) ?_
  refine kw_dget hx hb hts hown hK hP hi 9 (by decide) fl_D_32 (v := .int (σ.2.2.1 i 9)) rfl d_D_condition_1 ?_
  refine lv_if_eq (tgt := 9) hx hb d_D_condition_4 (by decide) (fun c_4 => ?_) (fun c_4 => ?_)
  · -- to 9
    refine lv_aload_n hx hb d_D_condition_9 rfl (lv_at hl 0 rfl) ?_
    refine kw_dget hx hb hts hown hK hP hi 8 (by decide) fl_D_28 (v := .int (σ.2.2.1 i 8)) rfl d_D_condition_10 ?_
    refine lv_if_eq (tgt := 18) hx hb d_D_condition_13 (by decide) (fun c_13 => ?_) (fun c_13 => ?_)
    · -- to 18
      refine lv_aload_n hx hb d_D_condition_18 rfl (lv_at hl 0 rfl) ?_
      refine kw_dget hx hb hts hown hK hP hi 4 (by decide) fl_D_15 (v := .int (σ.2.2.1 i 4)) rfl d_D_condition_19 ?_
      refine lv_aload_n hx hb d_D_condition_22 rfl (lv_at hl 0 rfl) ?_
      refine kw_dget hx hb hts hown hK hP hi 1 (by decide) fl_D_38 (v := .int (σ.2.2.1 i 1)) rfl d_D_condition_23 ?_
      refine lv_icmp_lt (tgt := 31) hx hb d_D_condition_26 (by decide) (fun c_26 => ?_) (fun c_26 => ?_)
      · -- to 31
        refine lv_aload_n hx hb d_D_condition_31 rfl (lv_at hl 0 rfl) ?_
        refine kw_dget hx hb hts hown hK hP hi 6 (by decide) fl_D_22 (v := .int (σ.2.2.1 i 6)) rfl d_D_condition_32 ?_
        refine lv_iconst (v := (-1)) hx hb d_D_condition_35 (by decide) ?_
        refine lv_icmp_eq (tgt := 43) hx hb d_D_condition_36 (by decide) (fun c_36 => ?_) (fun c_36 => ?_)
        · -- to 43
          refine lv_iconst (v := 0) hx hb d_D_condition_43 (by decide) ?_
          exact r_reti hx hb hr hlocks (by simp [kd_cond, c_4, c_13, c_26, c_36]) d_D_condition_44
        · -- on 39
          refine lv_iconst (v := 1) hx hb d_D_condition_39 (by decide) ?_
          refine lv_goto (tgt := 44) hx hb d_D_condition_40 (by decide) ?_
          exact r_reti hx hb hr hlocks (by simp [kd_cond, c_4, c_13, c_26, c_36]) d_D_condition_44
      · -- on 29
        refine lv_iconst (v := 2) hx hb d_D_condition_29 (by decide) ?_
        exact r_reti hx hb hr hlocks (by simp [kd_cond, c_4, c_13, c_26]) d_D_condition_30
    · -- on 16
      refine lv_iconst (v := 3) hx hb d_D_condition_16 (by decide) ?_
      exact r_reti hx hb hr hlocks (by simp [kd_cond, c_4, c_13]) d_D_condition_17
  · -- on 7
    refine lv_iconst (v := 4) hx hb d_D_condition_7 (by decide) ?_
    exact r_reti hx hb hr hlocks (by simp [kd_cond, c_4]) d_D_condition_8

set_option maxHeartbeats 4000000 in
set_option maxRecDepth 100000 in
theorem ct_D_isAhead (l : Launch) (D : va_G) (cI cQ : ClassId) (α ad an : Nat → Nat) (n : Nat) (σ : kS) (hI : k_ok n σ.1) (i : Nat) (hi : i < n) (x : Int32) : Met l y_D_isAhead w_D_isAhead { frames := 0, cells := 0, slots := 0, locals := 0 } (gPc D (kty cI cQ) (kw_w cI cQ α ad an n σ) [.ref (ad i), .int x]) (QcRead (kd_ahead σ i x)) 0 0 (fun _ => False) := by
  refine Met.ofW (cc := b_D_isAhead) (maxL := 2) (ret := some .boolean) (by decide) rfl ?_
  intro p e s m args below meth c s₁ B hml hv
  obtain ⟨rfl, hP, hK, hD⟩ := hv
  have hx := B.exec
  have hb := B.bytes
  have hr := B.returns
  have hts : ∀ w ∈ kT, w.before [.ref (ad i), .int x].toArray s = true := fun w h => atoms_spec (ws := w_D_isAhead) B.pre w (List.mem_cons_of_mem _ h)
  have hown : s.vm.findClass R_D = some m.cls := findClass_of_methodNamed B.named
  have hlocks := B.notSynchronized
  have hl := lv_entry ([.ref (ad i), .int x]) (n := 2) (Nat.le_of_ble_eq_true rfl)
  rw [lg_entry_eq]
  generalize (lg_sl ([.ref (ad i), .int x]) ++ List.replicate (2 - (lg_sl ([.ref (ad i), .int x])).length) Slot.unset).toArray = ls at hl ⊢
  have hl : lv_has ls 2 [(0, .ref (ad i)), (1, .int x)] := hl
  refine lv_iload_n hx hb d_D_isAhead_0 rfl (lv_at hl 1 rfl) ?_
  refine lv_if_lt (tgt := 24) hx hb d_D_isAhead_1 (by decide) (fun c_1 => ?_) (fun c_1 => ?_)
  · -- to 24
    refine lv_iconst (v := 0) hx hb d_D_isAhead_24 (by decide) ?_
    exact r_retz hx hb hr hlocks (by decide) (by simp [kd_ahead, c_1]) d_D_isAhead_25
  · -- on 4
    refine lv_iload_n hx hb d_D_isAhead_4 rfl (lv_at hl 1 rfl) ?_
    refine lv_aload_n hx hb d_D_isAhead_5 rfl (lv_at hl 0 rfl) ?_
    refine kw_dget hx hb hts hown hK hP hi 4 (by decide) fl_D_15 (v := .int (σ.2.2.1 i 4)) rfl d_D_isAhead_6 ?_
    refine lv_icmp_lt (tgt := 24) hx hb d_D_isAhead_9 (by decide) (fun c_9 => ?_) (fun c_9 => ?_)
    · -- to 24
      refine lv_iconst (v := 0) hx hb d_D_isAhead_24 (by decide) ?_
      exact r_retz hx hb hr hlocks (by decide) (by simp [kd_ahead, c_1, c_9]) d_D_isAhead_25
    · -- on 12
      refine lv_iload_n hx hb d_D_isAhead_12 rfl (lv_at hl 1 rfl) ?_
      refine lv_aload_n hx hb d_D_isAhead_13 rfl (lv_at hl 0 rfl) ?_
      refine kw_dget hx hb hts hown hK hP hi 1 (by decide) fl_D_38 (v := .int (σ.2.2.1 i 1)) rfl d_D_isAhead_14 ?_
      refine lv_icmp_ge (tgt := 24) hx hb d_D_isAhead_17 (by decide) (fun c_17 => ?_) (fun c_17 => ?_)
      · -- to 24
        refine lv_iconst (v := 0) hx hb d_D_isAhead_24 (by decide) ?_
        exact r_retz hx hb hr hlocks (by decide) (by simp [kd_ahead, c_1, c_9, c_17]) d_D_isAhead_25
      · -- on 20
        refine lv_iconst (v := 1) hx hb d_D_isAhead_20 (by decide) ?_
        refine lv_goto (tgt := 25) hx hb d_D_isAhead_21 (by decide) ?_
        exact r_retz hx hb hr hlocks (by decide) (by simp [kd_ahead, c_1, c_9, c_17]) d_D_isAhead_25

set_option maxHeartbeats 4000000 in
set_option maxRecDepth 100000 in
theorem ct_D_hasNeed (l : Launch) (D : va_G) (cI cQ : ClassId) (α ad an : Nat → Nat) (n : Nat) (σ : kS) (hI : k_ok n σ.1) (i : Nat) (hi : i < n) (x y : Int32) : Met l y_D_hasNeed w_D_hasNeed { frames := 0, cells := 0, slots := 0, locals := 0 } (gPc D (kty cI cQ) (kw_w cI cQ α ad an n σ) [.ref (ad i), .int x, .int y]) (QcRead (kd_has σ i x y)) 0 0 (fun _ => False) := by
  refine Met.ofW (cc := b_D_hasNeed) (maxL := 3) (ret := some .boolean) (by decide) rfl ?_
  intro p e s m args below meth c s₁ B hml hv
  obtain ⟨rfl, hP, hK, hD⟩ := hv
  have hx := B.exec
  have hb := B.bytes
  have hr := B.returns
  have hts : ∀ w ∈ kT, w.before [.ref (ad i), .int x, .int y].toArray s = true := fun w h => atoms_spec (ws := w_D_hasNeed) B.pre w (List.mem_cons_of_mem _ h)
  have hown : s.vm.findClass R_D = some m.cls := findClass_of_methodNamed B.named
  have hlocks := B.notSynchronized
  have hl := lv_entry ([.ref (ad i), .int x, .int y]) (n := 3) (Nat.le_of_ble_eq_true rfl)
  rw [lg_entry_eq]
  generalize (lg_sl ([.ref (ad i), .int x, .int y]) ++ List.replicate (3 - (lg_sl ([.ref (ad i), .int x, .int y])).length) Slot.unset).toArray = ls at hl ⊢
  have hl : lv_has ls 3 [(0, .ref (ad i)), (1, .int x), (2, .int y)] := hl
  refine lv_iload_n hx hb d_D_hasNeed_0 rfl (lv_at hl 1 rfl) ?_
  refine lv_if_lt (tgt := 30) hx hb d_D_hasNeed_1 (by decide) (fun c_1 => ?_) (fun c_1 => ?_)
  · -- to 30
    refine lv_iconst (v := 0) hx hb d_D_hasNeed_30 (by decide) ?_
    exact r_retz hx hb hr hlocks (by decide) (by simp [kd_has, c_1]) d_D_hasNeed_31
  · -- on 4
    refine lv_iload_n hx hb d_D_hasNeed_4 rfl (lv_at hl 1 rfl) ?_
    refine lv_aload_n hx hb d_D_hasNeed_5 rfl (lv_at hl 0 rfl) ?_
    refine kw_dget hx hb hts hown hK hP hi 2 (by decide) fl_D_9 (v := .ref (an i)) rfl d_D_hasNeed_6 ?_
    refine kw_nlen hx hb hK hP hi d_D_hasNeed_9 ?_
    refine lv_icmp_ge (tgt := 30) hx hb d_D_hasNeed_10 (by decide) (fun c_10 => ?_) (fun c_10 => ?_)
    · -- to 30
      refine lv_iconst (v := 0) hx hb d_D_hasNeed_30 (by decide) ?_
      exact r_retz hx hb hr hlocks (by decide) (by simp [kd_has, c_1, c_10]) d_D_hasNeed_31
    · -- on 13
      refine lv_aload_n hx hb d_D_hasNeed_13 rfl (lv_at hl 0 rfl) ?_
      refine kw_dget hx hb hts hown hK hP hi 2 (by decide) fl_D_9 (v := .ref (an i)) rfl d_D_hasNeed_14 ?_
      refine lv_iload_n hx hb d_D_hasNeed_17 rfl (lv_at hl 1 rfl) ?_
      refine kw_nld hx hb hK hP hi (j := x.toNatClampNeg) (ix_e c_1) (ix_l (B := 12) c_1 c_10) d_D_hasNeed_18 ?_
      refine lv_iload_n hx hb d_D_hasNeed_19 rfl (lv_at hl 2 rfl) ?_
      refine lv_ishr hx hb d_D_hasNeed_20 ?_
      refine lv_iconst (v := 1) hx hb d_D_hasNeed_21 (by decide) ?_
      refine lv_iand hx hb d_D_hasNeed_22 ?_
      refine lv_if_eq (tgt := 30) hx hb d_D_hasNeed_23 (by decide) (fun c_23 => ?_) (fun c_23 => ?_)
      · -- to 30
        refine lv_iconst (v := 0) hx hb d_D_hasNeed_30 (by decide) ?_
        exact r_retz hx hb hr hlocks (by decide) (by simp [kd_has, c_1, c_10, c_23]) d_D_hasNeed_31
      · -- on 26
        refine lv_iconst (v := 1) hx hb d_D_hasNeed_26 (by decide) ?_
        refine lv_goto (tgt := 31) hx hb d_D_hasNeed_27 (by decide) ?_
        exact r_retz hx hb hr hlocks (by decide) (by simp [kd_has, c_1, c_10, c_23]) d_D_hasNeed_31

set_option maxHeartbeats 4000000 in
set_option maxRecDepth 100000 in
theorem ct_D_addNeed (l : Launch) (D : va_G) (cI cQ : ClassId) (α ad an : Nat → Nat) (n : Nat) (σ : kS) (hI : k_ok n σ.1) (i : Nat) (hi : i < n) (x y : Int32) : Met l y_D_addNeed w_D_addNeed { frames := 0, cells := 0, slots := 0, locals := 0 } (gPc D (kty cI cQ) (kw_w cI cQ α ad an n σ) [.ref (ad i), .int x, .int y]) (gQv D (kw_al α ad an n) (kw_w cI cQ α ad an n (kd_add σ i x y))) 0 0 (gA (kw_al α ad an n)) := by
  refine Met.ofW (cc := b_D_addNeed) (maxL := 3) (ret := none) (by decide) rfl ?_
  intro p e s m args below meth c s₁ B hml hv
  obtain ⟨rfl, hP, hK, hD⟩ := hv
  have hx := B.exec
  have hb := B.bytes
  have hr := B.returns
  have hts : ∀ w ∈ kT, w.before [.ref (ad i), .int x, .int y].toArray s = true := fun w h => atoms_spec (ws := w_D_addNeed) B.pre w (List.mem_cons_of_mem _ h)
  have hown : s.vm.findClass R_D = some m.cls := findClass_of_methodNamed B.named
  have hlocks := B.notSynchronized
  have hD : va_D (gA (kw_al α ad an n)) (kw_w cI cQ α ad an n σ) := gD kw_adr hD
  have hS : va_S (gA (kw_al α ad an n)) s.heap s.heap [] := va_S.rf
  have hl := lv_entry ([.ref (ad i), .int x, .int y]) (n := 3) (Nat.le_of_ble_eq_true rfl)
  rw [lg_entry_eq]
  generalize (lg_sl ([.ref (ad i), .int x, .int y]) ++ List.replicate (3 - (lg_sl ([.ref (ad i), .int x, .int y])).length) Slot.unset).toArray = ls at hl ⊢
  have hl : lv_has ls 3 [(0, .ref (ad i)), (1, .int x), (2, .int y)] := hl
  refine lv_iload_n hx hb d_D_addNeed_0 rfl (lv_at hl 1 rfl) ?_
  refine lv_if_lt (tgt := 25) hx hb d_D_addNeed_1 (by decide) (fun c_1 => ?_) (fun c_1 => ?_)
  · -- to 25
    exact g_retv hx hb hr hlocks (by simp [kd_add, c_1]) hP hS d_D_addNeed_25
  · -- on 4
    refine lv_iload_n hx hb d_D_addNeed_4 rfl (lv_at hl 1 rfl) ?_
    refine lv_aload_n hx hb d_D_addNeed_5 rfl (lv_at hl 0 rfl) ?_
    refine kw_dget hx hb hts hown hK hP hi 2 (by decide) fl_D_9 (v := .ref (an i)) rfl d_D_addNeed_6 ?_
    refine kw_nlen hx hb hK hP hi d_D_addNeed_9 ?_
    refine lv_icmp_ge (tgt := 25) hx hb d_D_addNeed_10 (by decide) (fun c_10 => ?_) (fun c_10 => ?_)
    · -- to 25
      exact g_retv hx hb hr hlocks (by simp [kd_add, c_1, c_10]) hP hS d_D_addNeed_25
    · -- on 13
      refine lv_aload_n hx hb d_D_addNeed_13 rfl (lv_at hl 0 rfl) ?_
      refine kw_dget hx hb hts hown hK hP hi 2 (by decide) fl_D_9 (v := .ref (an i)) rfl d_D_addNeed_14 ?_
      refine lv_iload_n hx hb d_D_addNeed_17 rfl (lv_at hl 1 rfl) ?_
      refine lv_dup2_11 hx hb d_D_addNeed_18 rfl rfl ?_
      refine kw_nld hx hb hK hP hi (j := x.toNatClampNeg) (ix_e c_1) (ix_l (B := 12) c_1 c_10) d_D_addNeed_19 ?_
      refine lv_iconst (v := 1) hx hb d_D_addNeed_20 (by decide) ?_
      refine lv_iload_n hx hb d_D_addNeed_21 rfl (lv_at hl 2 rfl) ?_
      refine lv_ishl hx hb d_D_addNeed_22 ?_
      refine lv_ior hx hb d_D_addNeed_23 ?_
      refine kw_nst hx hb hK hP hD hS hi (j := x.toNatClampNeg) (ix_e c_1) (ix_l (B := 12) c_1 c_10) d_D_addNeed_24 (fun H locs hP hD hS => ?_)
      obtain ⟨σ1, e_σ1⟩ : ∃ ζ, ζ = k_n σ i x.toNatClampNeg ((σ.2.2.2 i x.toNatClampNeg) ||| (1 <<< (y &&& 31))) := ⟨_, rfl⟩
      rw [← e_σ1] at hP hD
      have hI : k_ok n σ1.1 := by rw [e_σ1]; exact hI
      exact g_retv hx hb hr hlocks (by simp [e_σ1, kd_add, c_1, c_10]) hP hS d_D_addNeed_25
