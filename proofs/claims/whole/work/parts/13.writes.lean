set_option maxHeartbeats 4000000 in
set_option maxRecDepth 100000 in
theorem ct_K_take (l : Launch) (D : va_G) (cI cQ : ClassId) (α ad an : Nat → Nat) (n : Nat) (σ : kS) (hI : k_ok n σ.1) (i : Nat) (hi : i < n) (z : Nat) (hz : z < 16) : Met l y_K_take w_K_take { frames := 0, cells := 0, slots := 0, locals := 0 } (gPc D (kty cI cQ) (kw_w cI cQ α ad an n σ) [.ref (α 0), .ref (ad i), .int (nI z)]) (gQv D (kw_al α ad an n) (kw_w cI cQ α ad an n (kd_take σ i z))) 0 0 (gA (kw_al α ad an n)) := by
  refine Met.ofW (cc := b_K_take) (maxL := 3) (ret := none) (by decide) rfl ?_
  intro p e s m args below meth c s₁ B hml hv
  obtain ⟨rfl, hP, hK, hD⟩ := hv
  have hx := B.exec
  have hb := B.bytes
  have hr := B.returns
  have hts : ∀ w ∈ kT, w.before [.ref (α 0), .ref (ad i), .int (nI z)].toArray s = true := fun w h => atoms_spec (ws := w_K_take) B.pre w (List.mem_cons_of_mem _ h)
  have hown : s.vm.findClass R_K = some m.cls := findClass_of_methodNamed B.named
  have hlocks := B.notSynchronized
  have hD : va_D (gA (kw_al α ad an n)) (kw_w cI cQ α ad an n σ) := gD kw_adr hD
  have hS : va_S (gA (kw_al α ad an n)) s.heap s.heap [] := va_S.rf
  have hl := lv_entry ([.ref (α 0), .ref (ad i), .int (nI z)]) (n := 3) (Nat.le_of_ble_eq_true rfl)
  rw [lg_entry_eq]
  generalize (lg_sl ([.ref (α 0), .ref (ad i), .int (nI z)]) ++ List.replicate (3 - (lg_sl ([.ref (α 0), .ref (ad i), .int (nI z)])).length) Slot.unset).toArray = ls at hl ⊢
  have hl : lv_has ls 3 [(0, .ref (α 0)), (1, .ref (ad i)), (2, .int (nI z))] := hl
  refine lv_aload_n hx hb d_K_take_0 rfl (lv_at hl 1 rfl) ?_
  refine lv_iconst (v := (-1)) hx hb d_K_take_1 (by decide) ?_
  refine kw_dput hx hb hts hown hK hP hD hS hi 6 (by decide) fl_K_120 rfl rfl rfl d_K_take_2 (fun H locs hP hD hS => ?_)
  obtain ⟨σ1, e_σ1⟩ : ∃ ζ, ζ = k_d σ i 6 (-1) := ⟨_, rfl⟩
  rw [← e_σ1] at hP hD
  have hI : k_ok n σ1.1 := by rw [e_σ1]; exact hI
  refine lv_aload_n hx hb d_K_take_5 rfl (lv_at hl 0 rfl) ?_
  refine kw_get hx hb hts hown hK hP 2 (by decide) fl_K_19 (v := .ref (α 2)) rfl d_K_take_6 ?_
  refine lv_iload_n hx hb d_K_take_9 rfl (lv_at hl 2 rfl) ?_
  refine lv_aload_n hx hb d_K_take_10 rfl (lv_at hl 1 rfl) ?_
  refine kw_dget hx hb hts hown hK hP hi 0 (by decide) fl_K_117 (v := .int (σ1.2.2.1 i 0)) rfl d_K_take_11 ?_
  refine kw_ast hx hb hK hP hD hS 0 (by decide) (j := z) rfl hz d_K_take_14 (fun H locs hP hD hS => ?_)
  obtain ⟨σ2, e_σ2⟩ : ∃ ζ, ζ = k_a σ1 0 z (σ1.2.2.1 i 0) := ⟨_, rfl⟩
  rw [← e_σ2] at hP hD
  have hI : k_ok n σ2.1 := by rw [e_σ2]; exact hI
  refine lv_aload_n hx hb d_K_take_15 rfl (lv_at hl 0 rfl) ?_
  refine kw_get hx hb hts hown hK hP 3 (by decide) fl_K_23 (v := .ref (α 3)) rfl d_K_take_16 ?_
  refine lv_iload_n hx hb d_K_take_19 rfl (lv_at hl 2 rfl) ?_
  refine lv_aload_n hx hb d_K_take_20 rfl (lv_at hl 0 rfl) ?_
  refine kw_get hx hb hts hown hK hP 11 (by decide) fl_K_47 (v := .int (σ2.1 11)) rfl d_K_take_21 ?_
  refine kw_ast hx hb hK hP hD hS 1 (by decide) (j := z) rfl hz d_K_take_24 (fun H locs hP hD hS => ?_)
  obtain ⟨σ3, e_σ3⟩ : ∃ ζ, ζ = k_a σ2 1 z (σ2.1 11) := ⟨_, rfl⟩
  rw [← e_σ3] at hP hD
  have hI : k_ok n σ3.1 := by rw [e_σ3]; exact hI
  exact g_retv hx hb hr hlocks (by rw [e_σ3, e_σ2, e_σ1]; rfl) hP hS d_K_take_25

set_option maxHeartbeats 4000000 in
set_option maxRecDepth 100000 in
theorem ct_K_ask (l : Launch) (D : va_G) (cI cQ : ClassId) (α ad an : Nat → Nat) (n : Nat) (σ : kS) (hI : k_ok n σ.1) (i : Nat) (hi : i < n) (z : Nat) (hz : z < 16) : Met l y_K_ask w_K_ask { frames := 1, cells := 0, slots := 0, locals := 22 } (gPc D (kty cI cQ) (kw_w cI cQ α ad an n σ) [.ref (α 0), .ref (ad i), .int (nI z)]) (gQv D (kw_al α ad an n) (kw_w cI cQ α ad an n (kd_ask σ i z))) 0 0 (gA (kw_al α ad an n)) := by
  refine Met.ofW (cc := b_K_ask) (maxL := 3) (ret := none) (by decide) rfl ?_
  intro p e s m args below meth c s₁ B hml hv
  obtain ⟨rfl, hP, hK, hD⟩ := hv
  have hx := B.exec
  have hb := B.bytes
  have hr := B.returns
  have hts : ∀ w ∈ kT, w.before [.ref (α 0), .ref (ad i), .int (nI z)].toArray s = true := fun w h => atoms_spec (ws := w_K_ask) B.pre w (List.mem_cons_of_mem _ h)
  have hown : s.vm.findClass R_K = some m.cls := findClass_of_methodNamed B.named
  have hlocks := B.notSynchronized
  have hD : va_D (gA (kw_al α ad an n)) (kw_w cI cQ α ad an n σ) := gD kw_adr hD
  have hS : va_S (gA (kw_al α ad an n)) s.heap s.heap [] := va_S.rf
  have hl := lv_entry ([.ref (α 0), .ref (ad i), .int (nI z)]) (n := 3) (Nat.le_of_ble_eq_true rfl)
  rw [lg_entry_eq]
  generalize (lg_sl ([.ref (α 0), .ref (ad i), .int (nI z)]) ++ List.replicate (3 - (lg_sl ([.ref (α 0), .ref (ad i), .int (nI z)])).length) Slot.unset).toArray = ls at hl ⊢
  have hl : lv_has ls 3 [(0, .ref (α 0)), (1, .ref (ad i)), (2, .int (nI z))] := hl
  refine lv_aload_n hx hb d_K_ask_0 rfl (lv_at hl 0 rfl) ?_
  refine kw_get hx hb hts hown hK hP 2 (by decide) fl_K_19 (v := .ref (α 2)) rfl d_K_ask_1 ?_
  refine lv_iload_n hx hb d_K_ask_4 rfl (lv_at hl 2 rfl) ?_
  refine kw_ald hx hb hK hP 0 (by decide) (j := z) rfl hz d_K_ask_5 ?_
  refine lv_iconst (v := (-1)) hx hb d_K_ask_6 (by decide) ?_
  refine lv_icmp_ne (tgt := 17) hx hb d_K_ask_7 (by decide) (fun c_7 => ?_) (fun c_7 => ?_)
  · -- to 17
    refine lv_aload_n hx hb d_K_ask_17 rfl (lv_at hl 1 rfl) ?_
    refine lv_iload_n hx hb d_K_ask_18 rfl (lv_at hl 2 rfl) ?_
    refine kw_dput hx hb hts hown hK hP hD hS hi 6 (by decide) fl_K_120 rfl rfl rfl d_K_ask_19 (fun H locs hP hD hS => ?_)
    obtain ⟨σ1, e_σ1⟩ : ∃ ζ, ζ = k_d σ i 6 (nI z) := ⟨_, rfl⟩
    rw [← e_σ1] at hP hD
    have hI : k_ok n σ1.1 := by rw [e_σ1]; exact hI
    refine lv_aload_n hx hb d_K_ask_22 rfl (lv_at hl 1 rfl) ?_
    refine lv_aload_n hx hb d_K_ask_23 rfl (lv_at hl 0 rfl) ?_
    refine kw_get hx hb hts hown hK hP 4 (by decide) fl_K_26 (v := .int (σ1.1 4)) rfl d_K_ask_24 ?_
    refine kw_dput hx hb hts hown hK hP hD hS hi 7 (by decide) fl_K_188 rfl rfl rfl d_K_ask_27 (fun H locs hP hD hS => ?_)
    obtain ⟨σ2, e_σ2⟩ : ∃ ζ, ζ = k_d σ1 i 7 (σ1.1 4) := ⟨_, rfl⟩
    rw [← e_σ2] at hP hD
    have hI : k_ok n σ2.1 := by rw [e_σ2]; exact hI
    refine lv_aload_n hx hb d_K_ask_30 rfl (lv_at hl 0 rfl) ?_
    refine lv_dup hx hb d_K_ask_31 rfl ?_
    refine kw_get hx hb hts hown hK hP 4 (by decide) fl_K_26 (v := .int (σ2.1 4)) rfl d_K_ask_32 ?_
    refine lv_iconst (v := 1) hx hb d_K_ask_35 (by decide) ?_
    refine lv_iadd hx hb d_K_ask_36 ?_
    refine kw_put hx hb hts hown hK hP hD hS 4 (by decide) fl_K_26 rfl rfl rfl d_K_ask_37 (fun H locs hP hD hS => ?_)
    obtain ⟨σ3, e_σ3⟩ : ∃ ζ, ζ = k_f σ2 4 ((σ2.1 4) + 1) := ⟨_, rfl⟩
    rw [← e_σ3] at hP hD
    have hI : k_ok n σ3.1 := by rw [e_σ3]; exact (k_ok_f hI (by decide))
    exact g_retv hx hb hr hlocks (by rw [kd_ask, if_neg c_7, e_σ3, e_σ2, e_σ1]) hP hS d_K_ask_40
  · -- on 10
    refine lv_aload_n hx hb d_K_ask_10 rfl (lv_at hl 0 rfl) ?_
    refine lv_aload_n hx hb d_K_ask_11 rfl (lv_at hl 1 rfl) ?_
    refine lv_iload_n hx hb d_K_ask_12 rfl (lv_at hl 2 rfl) ?_
    refine g_callv (va_runV (As := [.ref (ad i), .int (nI z)]) (rest := []) ⟨hx, hb, hml, hown, hts⟩ (ct_K_take l D cI cQ α ad an n σ hI i hi z hz) (cwV 2 hts gd_K_185 rfl rfl rfl (by decide +kernel) ⟨Nat.le_of_ble_eq_true rfl, Nat.le_of_ble_eq_true rfl⟩) (g_preV hK hP hD (ci := 0) (q0 := 0) rfl kw_0) rfl rfl hl.1 rfl (lv_room (Nat.le_of_ble_eq_true rfl)) d_K_ask_13 ⟨Nat.le_refl _, Nat.le_refl _⟩) hD hS (kw_addr _) (fun H locs hP hD hS => ?_)
    obtain ⟨σ4, e_σ4⟩ : ∃ ζ, ζ = kd_take σ i z := ⟨_, rfl⟩
    rw [← e_σ4] at hP hD
    have hI : k_ok n σ4.1 := by rw [e_σ4]; exact hI
    exact g_retv hx hb hr hlocks (by rw [kd_ask, if_pos c_7, e_σ4]) hP hS d_K_ask_16

set_option maxHeartbeats 4000000 in
set_option maxRecDepth 100000 in
theorem ct_K_giveBack (l : Launch) (D : va_G) (cI cQ : ClassId) (α ad an : Nat → Nat) (n : Nat) (σ : kS) (hI : k_ok n σ.1) (z : Nat) (hz : z < 16) : Met l y_K_giveBack w_K_giveBack { frames := 2, cells := 0, slots := 0, locals := 48 } (gPc D (kty cI cQ) (kw_w cI cQ α ad an n σ) [.ref (α 0), .int (nI z)]) (gQv D (kw_al α ad an n) (kw_w cI cQ α ad an n (kd_gb n σ z))) 0 0 (gA (kw_al α ad an n)) := by
  refine Met.ofW (cc := b_K_giveBack) (maxL := 3) (ret := none) (by decide) rfl ?_
  intro p e s m args below meth c s₁ B hml hv
  obtain ⟨rfl, hP, hK, hD⟩ := hv
  have hx := B.exec
  have hb := B.bytes
  have hr := B.returns
  have hts : ∀ w ∈ kT, w.before [.ref (α 0), .int (nI z)].toArray s = true := fun w h => atoms_spec (ws := w_K_giveBack) B.pre w (List.mem_cons_of_mem _ h)
  have hown : s.vm.findClass R_K = some m.cls := findClass_of_methodNamed B.named
  have hlocks := B.notSynchronized
  have hD : va_D (gA (kw_al α ad an n)) (kw_w cI cQ α ad an n σ) := gD kw_adr hD
  have hS : va_S (gA (kw_al α ad an n)) s.heap s.heap [] := va_S.rf
  have hl := lv_entry ([.ref (α 0), .int (nI z)]) (n := 3) (Nat.le_of_ble_eq_true rfl)
  rw [lg_entry_eq]
  generalize (lg_sl ([.ref (α 0), .int (nI z)]) ++ List.replicate (3 - (lg_sl ([.ref (α 0), .int (nI z)])).length) Slot.unset).toArray = ls at hl ⊢
  have hl : lv_has ls 3 [(0, .ref (α 0)), (1, .int (nI z))] := hl
  refine lv_aload_n hx hb d_K_giveBack_0 rfl (lv_at hl 0 rfl) ?_
  refine kw_get hx hb hts hown hK hP 2 (by decide) fl_K_19 (v := .ref (α 2)) rfl d_K_giveBack_1 ?_
  refine lv_iload_n hx hb d_K_giveBack_4 rfl (lv_at hl 1 rfl) ?_
  refine lv_iconst (v := (-1)) hx hb d_K_giveBack_5 (by decide) ?_
  refine kw_ast hx hb hK hP hD hS 0 (by decide) (j := z) rfl hz d_K_giveBack_6 (fun H locs hP hD hS => ?_)
  obtain ⟨σ1, e_σ1⟩ : ∃ ζ, ζ = k_a σ 0 z (-1) := ⟨_, rfl⟩
  rw [← e_σ1] at hP hD
  have hI : k_ok n σ1.1 := by rw [e_σ1]; exact hI
  refine lv_aload_n hx hb d_K_giveBack_7 rfl (lv_at hl 0 rfl) ?_
  refine lv_iload_n hx hb d_K_giveBack_8 rfl (lv_at hl 1 rfl) ?_
  refine lv_iconst (v := 0) hx hb d_K_giveBack_9 (by decide) ?_
  refine r_callq (W.runV (As := [.int (nI z), .int 0]) (rest := []) ⟨hx, hb, hml, hown, hts⟩ (ct_K_waiterFor l D cI cQ α ad an n σ1 hI (nI z) 0) (cwV 2 hts gd_K_113 rfl rfl rfl (by decide +kernel) ⟨Nat.le_of_ble_eq_true rfl, Nat.le_of_ble_eq_true rfl⟩) (g_preV hK hP hD (ci := 0) (q0 := 0) rfl kw_0) rfl rfl hl.1 rfl (lv_room (Nat.le_of_ble_eq_true rfl)) d_K_giveBack_10 ⟨Nat.le_refl _, Nat.le_refl _⟩) ?_
  rcases q_10 : kd_wfp σ1 n (nI z) 0 n with _ | i1
  · -- nobody
    refine W.eq (g2 := F0 m 13 ls [.null]) rfl ?_
    refine lv_astore_nN (lv' := [(2, .null), (0, .ref (α 0)), (1, .int (nI z))]) hx hb d_K_giveBack_13 rfl hl (by decide) rfl (fun ls hl => ?_)
    refine lv_aload_nN hx hb d_K_giveBack_14 rfl (lv_at hl 0 rfl) ?_
    refine lv_ifnullN (tgt := 24) hx hb d_K_giveBack_15 (by decide) ?_
    rw [e_σ1] at q_10
    exact g_retv hx hb hr hlocks (by simp only [kd_gb]; rw [q_10, e_σ1]) hP hS d_K_giveBack_24
  · -- i1
    have hi1 : i1 < n := kd_wfp_lt q_10
    refine W.eq (g2 := F0 m 13 ls [.ref (ad i1)]) rfl ?_
    refine lv_astore_n (lv' := [(2, .ref (ad i1)), (0, .ref (α 0)), (1, .int (nI z))]) hx hb d_K_giveBack_13 rfl hl (by decide) rfl (fun ls hl => ?_)
    refine lv_aload_n hx hb d_K_giveBack_14 rfl (lv_at hl 0 rfl) ?_
    refine lv_ifnull hx hb d_K_giveBack_15 ?_
    refine lv_aload_n hx hb d_K_giveBack_18 rfl (lv_at hl 1 rfl) ?_
    refine lv_aload_n hx hb d_K_giveBack_19 rfl (lv_at hl 0 rfl) ?_
    refine lv_iload_n hx hb d_K_giveBack_20 rfl (lv_at hl 2 rfl) ?_
    refine g_callv (va_runV (As := [.ref (ad i1), .int (nI z)]) (rest := []) ⟨hx, hb, hml, hown, hts⟩ (ct_K_take l D cI cQ α ad an n σ1 hI i1 hi1 z hz) (cwV 2 hts gd_K_185 rfl rfl rfl (by decide +kernel) ⟨Nat.le_of_ble_eq_true rfl, Nat.le_of_ble_eq_true rfl⟩) (g_preV hK hP hD (ci := 0) (q0 := 0) rfl kw_0) rfl rfl hl.1 rfl (lv_room (Nat.le_of_ble_eq_true rfl)) d_K_giveBack_21 ⟨Nat.le_refl _, Nat.le_refl _⟩) hD hS (kw_addr _) (fun H locs hP hD hS => ?_)
    obtain ⟨σ2, e_σ2⟩ : ∃ ζ, ζ = kd_take σ1 i1 z := ⟨_, rfl⟩
    rw [← e_σ2] at hP hD
    have hI : k_ok n σ2.1 := by rw [e_σ2]; exact hI
    rw [e_σ1] at q_10
    exact g_retv hx hb hr hlocks (by simp only [kd_gb]; rw [q_10, e_σ2, e_σ1]) hP hS d_K_giveBack_24

set_option maxHeartbeats 4000000 in
set_option maxRecDepth 100000 in
theorem ct_K_giveBackAll (l : Launch) (D : va_G) (cI cQ : ClassId) (α ad an : Nat → Nat) (n : Nat) (σ : kS) (hI : k_ok n σ.1) (i : Nat) (hi : i < n) : Met l y_K_giveBackAll w_K_giveBackAll { frames := 3, cells := 0, slots := 0, locals := 70 } (gPc D (kty cI cQ) (kw_w cI cQ α ad an n σ) [.ref (α 0), .ref (ad i)]) (gQv D (kw_al α ad an n) (kw_w cI cQ α ad an n (kd_gba n σ i 16))) 0 0 (gA (kw_al α ad an n)) := by
  refine Met.ofW (cc := b_K_giveBackAll) (maxL := 3) (ret := none) (by decide) rfl ?_
  intro p e s m args below meth c s₁ B hml hv
  obtain ⟨rfl, hP, hK, hD⟩ := hv
  have hx := B.exec
  have hb := B.bytes
  have hr := B.returns
  have hts : ∀ w ∈ kT, w.before [.ref (α 0), .ref (ad i)].toArray s = true := fun w h => atoms_spec (ws := w_K_giveBackAll) B.pre w (List.mem_cons_of_mem _ h)
  have hown : s.vm.findClass R_K = some m.cls := findClass_of_methodNamed B.named
  have hlocks := B.notSynchronized
  have hD : va_D (gA (kw_al α ad an n)) (kw_w cI cQ α ad an n σ) := gD kw_adr hD
  have hS : va_S (gA (kw_al α ad an n)) s.heap s.heap [] := va_S.rf
  have hl := lv_entry ([.ref (α 0), .ref (ad i)]) (n := 3) (Nat.le_of_ble_eq_true rfl)
  rw [lg_entry_eq]
  generalize (lg_sl ([.ref (α 0), .ref (ad i)]) ++ List.replicate (3 - (lg_sl ([.ref (α 0), .ref (ad i)])).length) Slot.unset).toArray = ls at hl ⊢
  have hl : lv_has ls 3 [(0, .ref (α 0)), (1, .ref (ad i))] := hl
  refine lv_iconst (v := 0) hx hb d_K_giveBackAll_0 (by decide) ?_
  refine lv_istore_n (lv' := [(2, .int 0), (0, .ref (α 0)), (1, .ref (ad i))]) hx hb d_K_giveBackAll_1 rfl hl (by decide) rfl (fun ls hl => ?_)
  have lp2 : ∀ (fu j : Nat) (ς : kS) (H : Heap) (locs : List Loc) (ls : Array Slot), j ≤ 16 → 16 - j < fu → ς = kd_gba n σ i j → va_P D kcl (kw_w cI cQ α ad an n ς) H → va_D (gA (kw_al α ad an n)) (kw_w cI cQ α ad an n ς) → va_S (gA (kw_al α ad an n)) s.heap H locs → lv_has ls 3 [(2, .int (nI j)), (0, .ref (α 0)), (1, .ref (ad i))] → W p l e (headSpec w_K_giveBackAll { frames := 3, cells := 0, slots := 0, locals := 70 }).room s m [.ref (α 0), .ref (ad i)].toArray below meth c H locs 0 0 (MQ below (gQv D (kw_al α ad an n) (kw_w cI cQ α ad an n (kd_gba n σ i 16))) [.ref (α 0), .ref (ad i)].toArray s 0 0 (gA (kw_al α ad an n))) (F0 m 2 ls []) := by
    intro fu
    induction fu with
    | zero => intro j  ς H locs ls h1 h2; omega
    | succ fu ih =>
      intro j  ς H locs ls hj2 hf2   e_ς hP hD hS hl
      have hI : k_ok n ς.1 := by rw [e_ς, kd_gba_1]; exact hI
      refine lv_iload_n hx hb d_K_giveBackAll_2 rfl (lv_at hl 0 rfl) ?_
      refine lv_bipush (v := 16) hx hb d_K_giveBackAll_3 (by decide) ?_
      refine lv_icmp_ge (tgt := 32) hx hb d_K_giveBackAll_5 (by decide) (fun c_5 => ?_) (fun c_5 => ?_)
      · -- to 32
        have hx2 : j = 16 := lp_eq (B := 16) (hn := (by decide)) c_5 hj2
        subst hx2
        exact g_retv hx hb hr hlocks (by rw [e_ς]) hP hS d_K_giveBackAll_32
      · -- on 8
        have hl2 : j < 16 := lp_lt (B := 16) (hn := (by decide)) c_5 hj2
        refine lv_aload_n hx hb d_K_giveBackAll_8 rfl (lv_at hl 1 rfl) ?_
        refine kw_get hx hb hts hown hK hP 2 (by decide) fl_K_19 (v := .ref (α 2)) rfl d_K_giveBackAll_9 ?_
        refine lv_iload_n hx hb d_K_giveBackAll_12 rfl (lv_at hl 0 rfl) ?_
        refine kw_ald hx hb hK hP 0 (by decide) (j := j) rfl hl2 d_K_giveBackAll_13 ?_
        refine lv_aload_n hx hb d_K_giveBackAll_14 rfl (lv_at hl 2 rfl) ?_
        refine kw_dget hx hb hts hown hK hP hi 0 (by decide) fl_K_117 (v := .int (ς.2.2.1 i 0)) rfl d_K_giveBackAll_15 ?_
        refine lv_icmp_ne (tgt := 26) hx hb d_K_giveBackAll_18 (by decide) (fun c_18 => ?_) (fun c_18 => ?_)
        · -- to 26
          refine lv_iinc (v := nI (j + 1)) (lv' := [(2, .int (nI (j + 1))), (0, .ref (α 0)), (1, .ref (ad i))]) hx hb d_K_giveBackAll_26 hl (k := 0) rfl (nI_1 j) (by decide) rfl (fun ls hl => ?_)
          refine lv_goto (tgt := 2) hx hb d_K_giveBackAll_29 (by decide) ?_
          exact ih (j + 1)  _ _ _ ls (by omega) (by omega)  (by rw [kd_gba, ← e_ς, if_neg c_18]) hP hD hS (lv_sub hl [0, 1, 2] rfl)
        · -- on 21
          refine lv_aload_n hx hb d_K_giveBackAll_21 rfl (lv_at hl 1 rfl) ?_
          refine lv_iload_n hx hb d_K_giveBackAll_22 rfl (lv_at hl 0 rfl) ?_
          refine g_callv (va_runV (As := [.int (nI j)]) (rest := []) ⟨hx, hb, hml, hown, hts⟩ (ct_K_giveBack l D cI cQ α ad an n ς hI j hl2) (cwV 1 hts gd_K_153 rfl rfl rfl (by decide +kernel) ⟨Nat.le_of_ble_eq_true rfl, Nat.le_of_ble_eq_true rfl⟩) (g_preV hK hP hD (ci := 0) (q0 := 0) rfl kw_0) rfl rfl hl.1 rfl (lv_room (Nat.le_of_ble_eq_true rfl)) d_K_giveBackAll_23 ⟨Nat.le_refl _, Nat.le_refl _⟩) hD hS (kw_addr _) (fun H locs hP hD hS => ?_)
          obtain ⟨σ1, e_σ1⟩ : ∃ ζ, ζ = kd_gb n ς j := ⟨_, rfl⟩
          rw [← e_σ1] at hP hD
          have hI : k_ok n σ1.1 := by rw [e_σ1]; exact (by rw [kd_gb_1]; exact hI)
          refine lv_iinc (v := nI (j + 1)) (lv' := [(2, .int (nI (j + 1))), (0, .ref (α 0)), (1, .ref (ad i))]) hx hb d_K_giveBackAll_26 hl (k := 0) rfl (nI_1 j) (by decide) rfl (fun ls hl => ?_)
          refine lv_goto (tgt := 2) hx hb d_K_giveBackAll_29 (by decide) ?_
          exact ih (j + 1)  _ _ _ ls (by omega) (by omega)  (by rw [e_σ1, kd_gba, ← e_ς, if_pos c_18]) hP hD hS (lv_sub hl [0, 1, 2] rfl)
  exact lp2 (16 - 0 + 1) 0  _ _ _ ls (by omega) (by omega)   rfl hP hD hS (lv_sub hl [0, 1, 2] rfl)

set_option maxHeartbeats 4000000 in
set_option maxRecDepth 100000 in
theorem ct_K_tell (l : Launch) (D : va_G) (cI cQ : ClassId) (α ad an : Nat → Nat) (n : Nat) (σ : kS) (hI : k_ok n σ.1) (x : Int32) (i : Nat) (hi : i < n) : Met l y_K_tell w_K_tell { frames := 0, cells := 0, slots := 0, locals := 0 } (gPc D (kty cI cQ) (kw_w cI cQ α ad an n σ) [.ref (α 0), .int x, .ref (ad i)]) (gQv D (kw_al α ad an n) (kw_w cI cQ α ad an n (kd_tell σ x i))) 0 0 (gA (kw_al α ad an n)) := by
  refine Met.ofW (cc := b_K_tell) (maxL := 3) (ret := none) (by decide) rfl ?_
  intro p e s m args below meth c s₁ B hml hv
  obtain ⟨rfl, hP, hK, hD⟩ := hv
  have hx := B.exec
  have hb := B.bytes
  have hr := B.returns
  have hts : ∀ w ∈ kT, w.before [.ref (α 0), .int x, .ref (ad i)].toArray s = true := fun w h => atoms_spec (ws := w_K_tell) B.pre w (List.mem_cons_of_mem _ h)
  have hown : s.vm.findClass R_K = some m.cls := findClass_of_methodNamed B.named
  have hlocks := B.notSynchronized
  have hD : va_D (gA (kw_al α ad an n)) (kw_w cI cQ α ad an n σ) := gD kw_adr hD
  have hS : va_S (gA (kw_al α ad an n)) s.heap s.heap [] := va_S.rf
  have hl := lv_entry ([.ref (α 0), .int x, .ref (ad i)]) (n := 3) (Nat.le_of_ble_eq_true rfl)
  rw [lg_entry_eq]
  generalize (lg_sl ([.ref (α 0), .int x, .ref (ad i)]) ++ List.replicate (3 - (lg_sl ([.ref (α 0), .int x, .ref (ad i)])).length) Slot.unset).toArray = ls at hl ⊢
  have hl : lv_has ls 3 [(0, .ref (α 0)), (1, .int x), (2, .ref (ad i))] := hl
  refine lv_aload_n hx hb d_K_tell_0 rfl (lv_at hl 0 rfl) ?_
  refine kw_get hx hb hts hown hK hP 10 (by decide) fl_K_44 (v := .int (σ.1 10)) rfl d_K_tell_1 ?_
  refine lv_aload_n hx hb d_K_tell_4 rfl (lv_at hl 0 rfl) ?_
  refine kw_get hx hb hts hown hK hP 9 (by decide) fl_K_41 (v := .ref (α 5)) rfl d_K_tell_5 ?_
  refine kw_alen hx hb hK hP 3 (by decide) (v := 400) rfl d_K_tell_8 ?_
  refine lv_icmp_ge (tgt := 49) hx hb d_K_tell_9 (by decide) (fun c_9 => ?_) (fun c_9 => ?_)
  · -- to 49
    exact g_retv hx hb hr hlocks (by rw [kd_tell, if_pos c_9]) hP hS d_K_tell_49
  · -- on 12
    refine lv_aload_n hx hb d_K_tell_12 rfl (lv_at hl 0 rfl) ?_
    refine kw_get hx hb hts hown hK hP 9 (by decide) fl_K_41 (v := .ref (α 5)) rfl d_K_tell_13 ?_
    refine lv_aload_n hx hb d_K_tell_16 rfl (lv_at hl 0 rfl) ?_
    refine kw_get hx hb hts hown hK hP 10 (by decide) fl_K_44 (v := .int (σ.1 10)) rfl d_K_tell_17 ?_
    refine lv_sipush (v := 1000) hx hb d_K_tell_20 (by decide) ?_
    refine lv_iload_n hx hb d_K_tell_23 rfl (lv_at hl 1 rfl) ?_
    refine lv_imul hx hb d_K_tell_24 ?_
    refine lv_bipush (v := 100) hx hb d_K_tell_25 (by decide) ?_
    refine lv_aload_n hx hb d_K_tell_27 rfl (lv_at hl 2 rfl) ?_
    refine kw_dget hx hb hts hown hK hP hi 0 (by decide) fl_K_117 (v := .int (σ.2.2.1 i 0)) rfl d_K_tell_28 ?_
    refine lv_imul hx hb d_K_tell_31 ?_
    refine lv_iadd hx hb d_K_tell_32 ?_
    refine lv_aload_n hx hb d_K_tell_33 rfl (lv_at hl 2 rfl) ?_
    refine kw_dget hx hb hts hown hK hP hi 4 (by decide) fl_K_92 (v := .int (σ.2.2.1 i 4)) rfl d_K_tell_34 ?_
    refine lv_iadd hx hb d_K_tell_37 ?_
    refine kw_ast hx hb hK hP hD hS 3 (by decide) (j := (σ.1 10).toNatClampNeg) (ix_e (k_ok_e0 hI)) (ix_l (B := 400) (k_ok_e0 hI) c_9) d_K_tell_38 (fun H locs hP hD hS => ?_)
    obtain ⟨σ1, e_σ1⟩ : ∃ ζ, ζ = k_a σ 3 ((σ.1 10).toNatClampNeg) (((1000 * x) + (100 * (σ.2.2.1 i 0))) + (σ.2.2.1 i 4)) := ⟨_, rfl⟩
    rw [← e_σ1] at hP hD
    have hI : k_ok n σ1.1 := by rw [e_σ1]; exact hI
    refine lv_aload_n hx hb d_K_tell_39 rfl (lv_at hl 0 rfl) ?_
    refine lv_dup hx hb d_K_tell_40 rfl ?_
    refine kw_get hx hb hts hown hK hP 10 (by decide) fl_K_44 (v := .int (σ1.1 10)) rfl d_K_tell_41 ?_
    refine lv_iconst (v := 1) hx hb d_K_tell_44 (by decide) ?_
    refine lv_iadd hx hb d_K_tell_45 ?_
    refine kw_put hx hb hts hown hK hP hD hS 10 (by decide) fl_K_44 rfl rfl rfl d_K_tell_46 (fun H locs hP hD hS => ?_)
    obtain ⟨σ2, e_σ2⟩ : ∃ ζ, ζ = k_f σ1 10 ((σ1.1 10) + 1) := ⟨_, rfl⟩
    rw [← e_σ2] at hP hD
    exact g_retv hx hb hr hlocks (by rw [kd_tell, if_neg c_9, e_σ2, e_σ1]) hP hS d_K_tell_49
