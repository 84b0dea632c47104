set_option maxHeartbeats 4000000 in
set_option maxRecDepth 100000 in
theorem lc_run {p : Program} {l : Launch} {e : Env} {s : State} {m : MethodId} {below : List Frame} {meth : Method} {c : Code} {Q : State → Prop} {b L : Nat} {xs : Nat → Int32} {D : va_G} {cI cQ cL : ClassId} (C : lw_C p s m c b L xs D cI cQ cL) (hlT : l.stackTraces = false) (hL : L ≤ 2048) {α β : Nat → Nat} {ω n : Nat} {σ : kS} {τ : mS} {ad an : Nat → Nat} {f : Nat → Int64} {H : Heap} {locs : List Loc} {ls : Array Slot} {i cells slots : Nat} (hi : i + 3 < L) (hcs : cells + 2 ≤ 601024 ∧ slots + 22 ≤ 7293034) (hw : lw_W D cI cQ cL s α β ω n σ τ ad an f H locs) (hl : lv_has ls 7 [(4, .int (nI i)), (3, .ref ω), (2, .ref (β 0)), (1, .ref (α 0)), (0, .ref b)])
    (back : ∀ (n' : Nat) (σ' : kS) (τ' : mS) (ad' an' : Nat → Nat) (f' : Nat → Int64) (H' : Heap) (locs' : List Loc) (ls' : Array Slot), lw_W D cI cQ cL s α β ω n' σ' τ' ad' an' f' H' locs' → lv_has ls' 7 [(4, .int (nI i)), (3, .ref ω), (2, .ref (β 0)), (1, .ref (α 0)), (0, .ref b)] → W p l e room_1 s m #[Value.ref b] below meth c H' locs' (cells + 2) (slots + 22) Q (F0 m 713 ls' [])) : W p l e room_1 s m #[Value.ref b] below meth c H locs cells slots Q (F0 m 277 ls []) := by
  obtain ⟨hx, hb, hml, hown, hts, hX, hbl, hK, hZ, hSt⟩ := C
  obtain ⟨hIV, hPk, hPm, hPo, hDk, hDm, hak, ham, hω, hS⟩ := hw
  have hK2 : va_K D kcl (kty cI cQ) s := hK.sub (tys' := kty cI cQ) [0, 1] rfl
  have hI := hIV.1
  have hIm := hIV.mok
  have hn8 := hI.1
  have hne : ∀ q ∈ kw_w cI cQ α ad an n σ, q.1 ≠ ω := fun q hq => (hak _ (kw_in hq)).2.2
  have t7 : τ.1 20 = σ.1 12 := hIV.2.1.2.2.2.2.2.2.1.2.2.2.2.2
  by_cases hc : σ.1 12 = 0
  · obtain ⟨t, r, hrt, ht, e6, e7⟩ := hI.2.2.2
    obtain ⟨e14, e15, hst, hres, hthr, hIV2⟩ := st_run hIV hrt ht e6 e7
    have hm2 := hIV2.mok
    refine lv_aload_n hx hb d_L_law_277 rfl (lv_at hl 3 rfl) ?_
    refine lv_aload_n hx hb d_L_law_278 rfl (lv_at hl 1 rfl) ?_
    refine l_help (vx_runSX (hh := h_L_run) (As := [.ref (α 0), .ref ω]) (rest := []) ⟨hx, hb, hml, hown, hts⟩ (hp_run l hlT D cI cQ cL α ad an n σ hI ω H.size f hc t r hrt ht e6 e7) (vx_cwSW 2 hts gh_run rfl rfl rfl (by decide +kernel) ⟨Nat.le_of_ble_eq_true rfl, Nat.le_of_ble_eq_true rfl⟩) (l_preS hK hPk hPo hDk hne hZ hS hSt) rfl rfl hl.1 rfl (lv_room (Nat.le_of_ble_eq_true rfl)) d_L_law_279 ⟨hcs.1, hcs.2⟩) hS hak ham hω hPm (fun H locs hPk hPo hPm hS => ?_)
    have hDk := vd_addr (kw_addr ((kp_run n σ r (t - r)).2)) hDk
    refine lv_istore (lv' := [(5, .int 0), (4, .int (nI i)), (3, .ref ω), (2, .ref (β 0)), (1, .ref (α 0)), (0, .ref b)]) hx hb d_L_law_282 hl (by decide) rfl (fun ls hl => ?_)
    refine lv_aload_n hx hb d_L_law_284 rfl (lv_at hl 3 rfl) ?_
    refine l_m (va_runV (As := []) (rest := []) ⟨hx, hb, hml, hown, hts⟩ (ct_M_run l D cI cQ β n τ hIm (t7.trans hc) t r hrt ht e14 e15 hst) (cwV 0 hts gd_L_67 rfl rfl rfl (by decide +kernel) ⟨Nat.le_of_ble_eq_true rfl, Nat.le_of_ble_eq_true rfl⟩) (g_preV hK2 hPm hDm (ci := 2) (q0 := 0) rfl mw_0) rfl rfl hl.1 rfl (lv_room (Nat.le_of_ble_eq_true rfl)) d_L_law_285 ⟨hcs.1, hcs.2⟩) hS hak ham hPk hPo (fun H locs hPm hPk hPo hS => ?_)
    have hDm := vd_addr (w' := mw_w cI β ((mo_runp n (m_f τ 0 0) (t - r)).2)) (mw_addr.trans mw_addr.symm) hDm
    refine lv_istore (lv' := [(6, .int ((mo_runp n (m_f τ 0 0) (t - r)).1)), (5, .int 0), (4, .int (nI i)), (3, .ref ω), (2, .ref (β 0)), (1, .ref (α 0)), (0, .ref b)]) hx hb d_L_law_288 hl (by decide) rfl (fun ls hl => ?_)
    refine lv_aload_n hx hb d_L_law_290 rfl (lv_at hl 4 rfl) ?_
    refine r_calli (W.runV (As := []) (rest := []) ⟨hx, hb, hml, hown, hts⟩ (ct_M_thrown l D cI cQ β n ((mo_runp n (m_f τ 0 0) (t - r)).2) hm2) (cwV 0 hts gd_L_52 rfl rfl rfl (by decide +kernel) ⟨Nat.le_of_ble_eq_true rfl, Nat.le_of_ble_eq_true rfl⟩) (g_preV hK2 hPm hDm (ci := 2) (q0 := 0) rfl mw_0) rfl rfl hl.1 rfl (lv_room (Nat.le_of_ble_eq_true rfl)) d_L_law_291 ⟨hcs.1, hcs.2⟩) ?_
    refine lv_iload hx hb d_L_law_294 (lv_at hl 1 rfl) ?_
    refine lv_icmp_eq (tgt := 301) hx hb d_L_law_296 (by decide) (fun _ => ?_) (fun q => absurd hthr q)
    refine lv_iload hx hb d_L_law_301 (lv_at hl 1 rfl) ?_
    refine lv_if_ne (tgt := 318) hx hb d_L_law_303 (by decide) (fun q => absurd rfl q) (fun _ => ?_)
    refine lv_aload_n hx hb d_L_law_306 rfl (lv_at hl 3 rfl) ?_
    refine lv_iconst (v := 0) hx hb d_L_law_307 (by decide) ?_
    refine l_lald (v := ((kp_run n σ r (t - r)).1).toInt64) hx hb hK hPo pk_uLs d_L_law_308 ?_
    refine lv_iload hx hb d_L_law_309 (lv_at hl 0 rfl) ?_
    refine lv_i2l hx hb d_L_law_311 rfl ?_
    refine W.lcmp hx hb d_L_law_312 ?_
    refine lv_if_eq (tgt := 318) hx hb d_L_law_313 (by decide) (fun _ => ?_) (fun q => absurd (by rw [hres]; exact lg_self _) q)
    refine lv_goto (tgt := 713) hx hb d_L_law_318 (by decide) ?_
    exact back _ _ _ _ _ _ _ _ ls ⟨hIV2, hPk, hPm, hPo, hDk, hDm, hak, ham, hω, hS⟩ (lv_sub hl [2, 3, 4, 5, 6] rfl)
  · have hthr : (m_f τ 0 1).1 0 = 1 := rfl
    have hIV2 := hIV.f0 1
    have hm2 := hIV2.mok
    refine lv_aload_n hx hb d_L_law_277 rfl (lv_at hl 3 rfl) ?_
    refine lv_aload_n hx hb d_L_law_278 rfl (lv_at hl 1 rfl) ?_
    refine l_help (vx_runSX (hh := h_L_run) (As := [.ref (α 0), .ref ω]) (rest := []) ⟨hx, hb, hml, hown, hts⟩ (hp_runS l hlT D cI cQ cL α ad an n σ hI ω H.size f hc) (vx_cwSW 2 hts gh_run rfl rfl rfl (by decide +kernel) ⟨Nat.le_of_ble_eq_true rfl, Nat.le_of_ble_eq_true rfl⟩) (l_preS hK hPk hPo hDk hne hZ hS hSt) rfl rfl hl.1 rfl (lv_room (Nat.le_of_ble_eq_true rfl)) d_L_law_279 ⟨hcs.1, hcs.2⟩) hS hak ham hω hPm (fun H locs hPk hPo hPm hS => ?_)
    refine lv_istore (lv' := [(5, .int 1), (4, .int (nI i)), (3, .ref ω), (2, .ref (β 0)), (1, .ref (α 0)), (0, .ref b)]) hx hb d_L_law_282 hl (by decide) rfl (fun ls hl => ?_)
    refine lv_aload_n hx hb d_L_law_284 rfl (lv_at hl 3 rfl) ?_
    refine l_m (va_runV (As := []) (rest := []) ⟨hx, hb, hml, hown, hts⟩ (ct_M_runN l D cI cQ β n τ hIm (fun q => hc (t7.symm.trans q))) (cwV 0 hts gd_L_67 rfl rfl rfl (by decide +kernel) ⟨Nat.le_of_ble_eq_true rfl, Nat.le_of_ble_eq_true rfl⟩) (g_preV hK2 hPm hDm (ci := 2) (q0 := 0) rfl mw_0) rfl rfl hl.1 rfl (lv_room (Nat.le_of_ble_eq_true rfl)) d_L_law_285 ⟨hcs.1, hcs.2⟩) hS hak ham hPk hPo (fun H locs hPm hPk hPo hS => ?_)
    have hDm := vd_addr (w' := mw_w cI β (m_f τ 0 1)) (mw_addr.trans mw_addr.symm) hDm
    refine lv_istore (lv' := [(6, .int 0), (5, .int 1), (4, .int (nI i)), (3, .ref ω), (2, .ref (β 0)), (1, .ref (α 0)), (0, .ref b)]) hx hb d_L_law_288 hl (by decide) rfl (fun ls hl => ?_)
    refine lv_aload_n hx hb d_L_law_290 rfl (lv_at hl 4 rfl) ?_
    refine r_calli (W.runV (As := []) (rest := []) ⟨hx, hb, hml, hown, hts⟩ (ct_M_thrown l D cI cQ β n (m_f τ 0 1) hm2) (cwV 0 hts gd_L_52 rfl rfl rfl (by decide +kernel) ⟨Nat.le_of_ble_eq_true rfl, Nat.le_of_ble_eq_true rfl⟩) (g_preV hK2 hPm hDm (ci := 2) (q0 := 0) rfl mw_0) rfl rfl hl.1 rfl (lv_room (Nat.le_of_ble_eq_true rfl)) d_L_law_291 ⟨hcs.1, hcs.2⟩) ?_
    refine lv_iload hx hb d_L_law_294 (lv_at hl 1 rfl) ?_
    refine lv_icmp_eq (tgt := 301) hx hb d_L_law_296 (by decide) (fun _ => ?_) (fun q => absurd hthr q)
    refine lv_iload hx hb d_L_law_301 (lv_at hl 1 rfl) ?_
    refine lv_if_ne (tgt := 318) hx hb d_L_law_303 (by decide) (fun _ => ?_) (fun q => absurd q (by decide))
    refine lv_goto (tgt := 713) hx hb d_L_law_318 (by decide) ?_
    exact back _ _ _ _ _ _ _ _ ls ⟨hIV2, hPk, hPm, hPo, hDk, hDm, hak, ham, hω, hS⟩ (lv_sub hl [2, 3, 4, 5, 6] rfl)
set_option maxHeartbeats 4000000 in
set_option maxRecDepth 100000 in
theorem lc_log {p : Program} {l : Launch} {e : Env} {s : State} {m : MethodId} {below : List Frame} {meth : Method} {c : Code} {Q : State → Prop} {b L : Nat} {xs : Nat → Int32} {D : va_G} {cI cQ cL : ClassId} (C : lw_C p s m c b L xs D cI cQ cL) (hlT : l.stackTraces = false) (hL : L ≤ 2048) {α β : Nat → Nat} {ω n : Nat} {σ : kS} {τ : mS} {ad an : Nat → Nat} {f : Nat → Int64} {H : Heap} {locs : List Loc} {ls : Array Slot} {i cells slots : Nat} (hi : i + 3 < L) (hcs : cells + 2 ≤ 601024 ∧ slots + 22 ≤ 7293034) (hw : lw_W D cI cQ cL s α β ω n σ τ ad an f H locs) (hl : lv_has ls 7 [(4, .int (nI i)), (3, .ref ω), (2, .ref (β 0)), (1, .ref (α 0)), (0, .ref b)])
    (back : ∀ (n' : Nat) (σ' : kS) (τ' : mS) (ad' an' : Nat → Nat) (f' : Nat → Int64) (H' : Heap) (locs' : List Loc) (ls' : Array Slot), lw_W D cI cQ cL s α β ω n' σ' τ' ad' an' f' H' locs' → lv_has ls' 7 [(4, .int (nI i)), (3, .ref ω), (2, .ref (β 0)), (1, .ref (α 0)), (0, .ref b)] → W p l e room_1 s m #[Value.ref b] below meth c H' locs' (cells + 2) (slots + 22) Q (F0 m 713 ls' [])) : W p l e room_1 s m #[Value.ref b] below meth c H locs cells slots Q (F0 m 321 ls []) := by
  obtain ⟨hx, hb, hml, hown, hts, hX, hbl, hK, hZ, hSt⟩ := C
  obtain ⟨hIV, hPk, hPm, hPo, hDk, hDm, hak, ham, hω, hS⟩ := hw
  have hK2 : va_K D kcl (kty cI cQ) s := hK.sub (tys' := kty cI cQ) [0, 1] rfl
  have hI := hIV.1
  have hIm := hIV.mok
  have hn8 := hI.1
  have hne : ∀ q ∈ kw_w cI cQ α ad an n σ, q.1 ≠ ω := fun q hq => (hak _ (kw_in hq)).2.2
  have hres := (st_log hIV (xs (i + 1))).symm
  have hIV2 := hIV.f0 0
  refine lv_aload_n hx hb d_L_law_321 rfl (lv_at hl 3 rfl) ?_
  refine lv_aload_n hx hb d_L_law_322 rfl (lv_at hl 4 rfl) ?_
  refine lv_iload hx hb d_L_law_323 (lv_at hl 0 rfl) ?_
  refine lv_iconst (v := 1) hx hb d_L_law_325 (by decide) ?_
  refine lv_iadd hx hb d_L_law_326 ?_
  refine l_ld (v := xs (i + 1)) (j := i + 1) hx hb hX hbl hS (nI_add i 1) (by omega) hL rfl d_L_law_327 ?_
  refine r_calli (W.runV (As := [.int (xs (i + 1))]) (rest := []) ⟨hx, hb, hml, hown, hts⟩ (ct_K_log l D cI cQ α ad an n σ hI (xs (i + 1))) (cwV 1 hts gd_L_68 rfl rfl rfl (by decide +kernel) ⟨Nat.le_of_ble_eq_true rfl, Nat.le_of_ble_eq_true rfl⟩) (g_preV hK2 hPk hDk (ci := 0) (q0 := 0) rfl kw_0) rfl rfl hl.1 rfl (lv_room (Nat.le_of_ble_eq_true rfl)) d_L_law_328 ⟨by have := hcs.1; show cells + 0 ≤ 601024; omega, by have := hcs.2; show slots + 0 ≤ 7293034; omega⟩) ?_
  refine lv_aload_n hx hb d_L_law_331 rfl (lv_at hl 2 rfl) ?_
  refine lv_aload_n hx hb d_L_law_332 rfl (lv_at hl 4 rfl) ?_
  refine lv_iload hx hb d_L_law_333 (lv_at hl 0 rfl) ?_
  refine lv_iconst (v := 1) hx hb d_L_law_335 (by decide) ?_
  refine lv_iadd hx hb d_L_law_336 ?_
  refine l_ld (v := xs (i + 1)) (j := i + 1) hx hb hX hbl hS (nI_add i 1) (by omega) hL rfl d_L_law_337 ?_
  refine l_m (va_runV (As := [.int (xs (i + 1))]) (rest := [.int (kp_log σ (xs (i + 1)))]) ⟨hx, hb, hml, hown, hts⟩ (ct_M_log l D cI cQ β n τ hIm (xs (i + 1))) (cwV 1 hts gd_L_71 rfl rfl rfl (by decide +kernel) ⟨Nat.le_of_ble_eq_true rfl, Nat.le_of_ble_eq_true rfl⟩) (g_preV hK2 hPm hDm (ci := 2) (q0 := 0) rfl mw_0) rfl rfl hl.1 rfl (lv_room (Nat.le_of_ble_eq_true rfl)) d_L_law_338 ⟨by have := hcs.1; show cells + 0 ≤ 601024; omega, by have := hcs.2; show slots + 0 ≤ 7293034; omega⟩) hS hak ham hPk hPo (fun H locs hPm hPk hPo hS => ?_)
  have hDm := vd_addr (w' := mw_w cI β (m_f τ 0 0)) (mw_addr.trans mw_addr.symm) hDm
  refine lv_icmp_eq (tgt := 713) hx hb d_L_law_341 (by decide) (fun _ => ?_) (fun q => absurd hres q)
  refine W.widen (k := cells + 2) (n := slots + 22) (by omega) (by omega) ?_
  exact back _ _ _ _ _ _ _ _ ls ⟨hIV2, hPk, hPm, hPo, hDk, hDm, hak, ham, hω, hS⟩ (lv_sub hl [0, 1, 2, 3, 4] rfl)
set_option maxHeartbeats 4000000 in
set_option maxRecDepth 100000 in
theorem lc_holder {p : Program} {l : Launch} {e : Env} {s : State} {m : MethodId} {below : List Frame} {meth : Method} {c : Code} {Q : State → Prop} {b L : Nat} {xs : Nat → Int32} {D : va_G} {cI cQ cL : ClassId} (C : lw_C p s m c b L xs D cI cQ cL) (hlT : l.stackTraces = false) (hL : L ≤ 2048) {α β : Nat → Nat} {ω n : Nat} {σ : kS} {τ : mS} {ad an : Nat → Nat} {f : Nat → Int64} {H : Heap} {locs : List Loc} {ls : Array Slot} {i cells slots : Nat} (hi : i + 3 < L) (hcs : cells + 2 ≤ 601024 ∧ slots + 22 ≤ 7293034) (hw : lw_W D cI cQ cL s α β ω n σ τ ad an f H locs) (hl : lv_has ls 7 [(4, .int (nI i)), (3, .ref ω), (2, .ref (β 0)), (1, .ref (α 0)), (0, .ref b)])
    (back : ∀ (n' : Nat) (σ' : kS) (τ' : mS) (ad' an' : Nat → Nat) (f' : Nat → Int64) (H' : Heap) (locs' : List Loc) (ls' : Array Slot), lw_W D cI cQ cL s α β ω n' σ' τ' ad' an' f' H' locs' → lv_has ls' 7 [(4, .int (nI i)), (3, .ref ω), (2, .ref (β 0)), (1, .ref (α 0)), (0, .ref b)] → W p l e room_1 s m #[Value.ref b] below meth c H' locs' (cells + 2) (slots + 22) Q (F0 m 713 ls' [])) : W p l e room_1 s m #[Value.ref b] below meth c H locs cells slots Q (F0 m 346 ls []) := by
  obtain ⟨hx, hb, hml, hown, hts, hX, hbl, hK, hZ, hSt⟩ := C
  obtain ⟨hIV, hPk, hPm, hPo, hDk, hDm, hak, ham, hω, hS⟩ := hw
  have hK2 : va_K D kcl (kty cI cQ) s := hK.sub (tys' := kty cI cQ) [0, 1] rfl
  have hI := hIV.1
  have hIm := hIV.mok
  have hn8 := hI.1
  have hne : ∀ q ∈ kw_w cI cQ α ad an n σ, q.1 ≠ ω := fun q hq => (hak _ (kw_in hq)).2.2
  obtain ⟨x, ex⟩ : ∃ z, xs (i + 1) = z := ⟨_, rfl⟩
  by_cases hq : kd_sub x = 0
  · have hthr : (m_f τ 0 1).1 0 = 1 := rfl
    have hIV2 := hIV.f0 1
    have hm2 := hIV2.mok
    refine lv_aload_n hx hb d_L_law_346 rfl (lv_at hl 3 rfl) ?_
    refine lv_aload_n hx hb d_L_law_347 rfl (lv_at hl 4 rfl) ?_
    refine lv_iload hx hb d_L_law_348 (lv_at hl 0 rfl) ?_
    refine lv_iconst (v := 1) hx hb d_L_law_350 (by decide) ?_
    refine lv_iadd hx hb d_L_law_351 ?_
    refine l_ld (v := x) (j := i + 1) hx hb hX hbl hS (nI_add i 1) (by omega) hL ex d_L_law_352 ?_
    refine lv_aload_n hx hb d_L_law_353 rfl (lv_at hl 1 rfl) ?_
    refine l_help (vx_runSX (hh := h_L_holder) (As := [.ref (α 0), .int x, .ref ω]) (rest := []) ⟨hx, hb, hml, hown, hts⟩ (hp_holderA l hlT D cI cQ cL α ad an n σ hI ω H.size f x hq) (vx_cwSW 3 hts gh_holder rfl rfl rfl (by decide +kernel) ⟨Nat.le_of_ble_eq_true rfl, Nat.le_of_ble_eq_true rfl⟩) (l_preS hK hPk hPo hDk hne hZ hS hSt) rfl rfl hl.1 rfl (lv_room (Nat.le_of_ble_eq_true rfl)) d_L_law_354 ⟨hcs.1, hcs.2⟩) hS hak ham hω hPm (fun H locs hPk hPo hPm hS => ?_)
    refine lv_istore (lv' := [(5, .int 1), (4, .int (nI i)), (3, .ref ω), (2, .ref (β 0)), (1, .ref (α 0)), (0, .ref b)]) hx hb d_L_law_357 hl (by decide) rfl (fun ls hl => ?_)
    refine lv_aload_n hx hb d_L_law_359 rfl (lv_at hl 3 rfl) ?_
    refine lv_aload_n hx hb d_L_law_360 rfl (lv_at hl 5 rfl) ?_
    refine lv_iload hx hb d_L_law_361 (lv_at hl 1 rfl) ?_
    refine lv_iconst (v := 1) hx hb d_L_law_363 (by decide) ?_
    refine lv_iadd hx hb d_L_law_364 ?_
    refine l_ld (v := x) (j := i + 1) hx hb hX hbl hS (nI_add i 1) (by omega) hL ex d_L_law_365 ?_
    refine l_m (va_runV (As := [.int x]) (rest := []) ⟨hx, hb, hml, hown, hts⟩ (ct_M_holderN l D cI cQ β n τ hIm x hq) (cwV 1 hts gd_L_74 rfl rfl rfl (by decide +kernel) ⟨Nat.le_of_ble_eq_true rfl, Nat.le_of_ble_eq_true rfl⟩) (g_preV hK2 hPm hDm (ci := 2) (q0 := 0) rfl mw_0) rfl rfl hl.1 rfl (lv_room (Nat.le_of_ble_eq_true rfl)) d_L_law_366 ⟨hcs.1, hcs.2⟩) hS hak ham hPk hPo (fun H locs hPm hPk hPo hS => ?_)
    have hDm := vd_addr (w' := mw_w cI β (m_f τ 0 1)) (mw_addr.trans mw_addr.symm) hDm
    refine lv_istore (lv' := [(6, .int 0), (5, .int 1), (4, .int (nI i)), (3, .ref ω), (2, .ref (β 0)), (1, .ref (α 0)), (0, .ref b)]) hx hb d_L_law_369 hl (by decide) rfl (fun ls hl => ?_)
    refine lv_aload_n hx hb d_L_law_371 rfl (lv_at hl 4 rfl) ?_
    refine r_calli (W.runV (As := []) (rest := []) ⟨hx, hb, hml, hown, hts⟩ (ct_M_thrown l D cI cQ β n (m_f τ 0 1) hm2) (cwV 0 hts gd_L_52 rfl rfl rfl (by decide +kernel) ⟨Nat.le_of_ble_eq_true rfl, Nat.le_of_ble_eq_true rfl⟩) (g_preV hK2 hPm hDm (ci := 2) (q0 := 0) rfl mw_0) rfl rfl hl.1 rfl (lv_room (Nat.le_of_ble_eq_true rfl)) d_L_law_372 ⟨hcs.1, hcs.2⟩) ?_
    refine lv_iload hx hb d_L_law_375 (lv_at hl 1 rfl) ?_
    refine lv_icmp_eq (tgt := 382) hx hb d_L_law_377 (by decide) (fun _ => ?_) (fun q => absurd hthr q)
    refine lv_iload hx hb d_L_law_382 (lv_at hl 1 rfl) ?_
    refine lv_if_ne (tgt := 399) hx hb d_L_law_384 (by decide) (fun _ => ?_) (fun q => absurd q (by decide))
    refine lv_goto (tgt := 713) hx hb d_L_law_399 (by decide) ?_
    exact back _ _ _ _ _ _ _ _ ls ⟨hIV2, hPk, hPm, hPo, hDk, hDm, hak, ham, hω, hS⟩ (lv_sub hl [2, 3, 4, 5, 6] rfl)
  · obtain ⟨z, hz, rfl⟩ := ksub_some hq
    have hthr : (m_f τ 0 0).1 0 = 0 := rfl
    have hIV2 := hIV.f0 0
    have hm2 := hIV2.mok
    have hres := st_holder hIV hz
    refine lv_aload_n hx hb d_L_law_346 rfl (lv_at hl 3 rfl) ?_
    refine lv_aload_n hx hb d_L_law_347 rfl (lv_at hl 4 rfl) ?_
    refine lv_iload hx hb d_L_law_348 (lv_at hl 0 rfl) ?_
    refine lv_iconst (v := 1) hx hb d_L_law_350 (by decide) ?_
    refine lv_iadd hx hb d_L_law_351 ?_
    refine l_ld (v := nI z) (j := i + 1) hx hb hX hbl hS (nI_add i 1) (by omega) hL ex d_L_law_352 ?_
    refine lv_aload_n hx hb d_L_law_353 rfl (lv_at hl 1 rfl) ?_
    refine l_help (vx_runSX (hh := h_L_holder) (As := [.ref (α 0), .int (nI z), .ref ω]) (rest := []) ⟨hx, hb, hml, hown, hts⟩ (hp_holder l hlT D cI cQ cL α ad an n σ hI ω H.size f z hz) (vx_cwSW 3 hts gh_holder rfl rfl rfl (by decide +kernel) ⟨Nat.le_of_ble_eq_true rfl, Nat.le_of_ble_eq_true rfl⟩) (l_preS hK hPk hPo hDk hne hZ hS hSt) rfl rfl hl.1 rfl (lv_room (Nat.le_of_ble_eq_true rfl)) d_L_law_354 ⟨hcs.1, hcs.2⟩) hS hak ham hω hPm (fun H locs hPk hPo hPm hS => ?_)
    refine lv_istore (lv' := [(5, .int 0), (4, .int (nI i)), (3, .ref ω), (2, .ref (β 0)), (1, .ref (α 0)), (0, .ref b)]) hx hb d_L_law_357 hl (by decide) rfl (fun ls hl => ?_)
    refine lv_aload_n hx hb d_L_law_359 rfl (lv_at hl 3 rfl) ?_
    refine lv_aload_n hx hb d_L_law_360 rfl (lv_at hl 5 rfl) ?_
    refine lv_iload hx hb d_L_law_361 (lv_at hl 1 rfl) ?_
    refine lv_iconst (v := 1) hx hb d_L_law_363 (by decide) ?_
    refine lv_iadd hx hb d_L_law_364 ?_
    refine l_ld (v := nI z) (j := i + 1) hx hb hX hbl hS (nI_add i 1) (by omega) hL ex d_L_law_365 ?_
    refine l_m (va_runV (As := [.int (nI z)]) (rest := []) ⟨hx, hb, hml, hown, hts⟩ (ct_M_holder l D cI cQ β n τ hIm z hz) (cwV 1 hts gd_L_74 rfl rfl rfl (by decide +kernel) ⟨Nat.le_of_ble_eq_true rfl, Nat.le_of_ble_eq_true rfl⟩) (g_preV hK2 hPm hDm (ci := 2) (q0 := 0) rfl mw_0) rfl rfl hl.1 rfl (lv_room (Nat.le_of_ble_eq_true rfl)) d_L_law_366 ⟨hcs.1, hcs.2⟩) hS hak ham hPk hPo (fun H locs hPm hPk hPo hS => ?_)
    have hDm := vd_addr (w' := mw_w cI β (m_f τ 0 0)) (mw_addr.trans mw_addr.symm) hDm
    refine lv_istore (lv' := [(6, .int (τ.2 8 z)), (5, .int 0), (4, .int (nI i)), (3, .ref ω), (2, .ref (β 0)), (1, .ref (α 0)), (0, .ref b)]) hx hb d_L_law_369 hl (by decide) rfl (fun ls hl => ?_)
    refine lv_aload_n hx hb d_L_law_371 rfl (lv_at hl 4 rfl) ?_
    refine r_calli (W.runV (As := []) (rest := []) ⟨hx, hb, hml, hown, hts⟩ (ct_M_thrown l D cI cQ β n (m_f τ 0 0) hm2) (cwV 0 hts gd_L_52 rfl rfl rfl (by decide +kernel) ⟨Nat.le_of_ble_eq_true rfl, Nat.le_of_ble_eq_true rfl⟩) (g_preV hK2 hPm hDm (ci := 2) (q0 := 0) rfl mw_0) rfl rfl hl.1 rfl (lv_room (Nat.le_of_ble_eq_true rfl)) d_L_law_372 ⟨hcs.1, hcs.2⟩) ?_
    refine lv_iload hx hb d_L_law_375 (lv_at hl 1 rfl) ?_
    refine lv_icmp_eq (tgt := 382) hx hb d_L_law_377 (by decide) (fun _ => ?_) (fun q => absurd hthr q)
    refine lv_iload hx hb d_L_law_382 (lv_at hl 1 rfl) ?_
    refine lv_if_ne (tgt := 399) hx hb d_L_law_384 (by decide) (fun q => absurd rfl q) (fun _ => ?_)
    refine lv_aload_n hx hb d_L_law_387 rfl (lv_at hl 3 rfl) ?_
    refine lv_iconst (v := 0) hx hb d_L_law_388 (by decide) ?_
    refine l_lald (v := (σ.2.1 0 z).toInt64) hx hb hK hPo pk_uLs d_L_law_389 ?_
    refine lv_iload hx hb d_L_law_390 (lv_at hl 0 rfl) ?_
    refine lv_i2l hx hb d_L_law_392 rfl ?_
    refine W.lcmp hx hb d_L_law_393 ?_
    refine lv_if_eq (tgt := 399) hx hb d_L_law_394 (by decide) (fun _ => ?_) (fun q => absurd (by rw [hres]; exact lg_self _) q)
    refine lv_goto (tgt := 713) hx hb d_L_law_399 (by decide) ?_
    exact back _ _ _ _ _ _ _ _ ls ⟨hIV2, hPk, hPm, hPo, hDk, hDm, hak, ham, hω, hS⟩ (lv_sub hl [2, 3, 4, 5, 6] rfl)
set_option maxHeartbeats 4000000 in
set_option maxRecDepth 100000 in
theorem lc_waits {p : Program} {l : Launch} {e : Env} {s : State} {m : MethodId} {below : List Frame} {meth : Method} {c : Code} {Q : State → Prop} {b L : Nat} {xs : Nat → Int32} {D : va_G} {cI cQ cL : ClassId} (C : lw_C p s m c b L xs D cI cQ cL) (hlT : l.stackTraces = false) (hL : L ≤ 2048) {α β : Nat → Nat} {ω n : Nat} {σ : kS} {τ : mS} {ad an : Nat → Nat} {f : Nat → Int64} {H : Heap} {locs : List Loc} {ls : Array Slot} {i cells slots : Nat} (hi : i + 3 < L) (hcs : cells + 2 ≤ 601024 ∧ slots + 22 ≤ 7293034) (hw : lw_W D cI cQ cL s α β ω n σ τ ad an f H locs) (hl : lv_has ls 7 [(4, .int (nI i)), (3, .ref ω), (2, .ref (β 0)), (1, .ref (α 0)), (0, .ref b)])
    (back : ∀ (n' : Nat) (σ' : kS) (τ' : mS) (ad' an' : Nat → Nat) (f' : Nat → Int64) (H' : Heap) (locs' : List Loc) (ls' : Array Slot), lw_W D cI cQ cL s α β ω n' σ' τ' ad' an' f' H' locs' → lv_has ls' 7 [(4, .int (nI i)), (3, .ref ω), (2, .ref (β 0)), (1, .ref (α 0)), (0, .ref b)] → W p l e room_1 s m #[Value.ref b] below meth c H' locs' (cells + 2) (slots + 22) Q (F0 m 713 ls' [])) : W p l e room_1 s m #[Value.ref b] below meth c H locs cells slots Q (F0 m 402 ls []) := by
  obtain ⟨hx, hb, hml, hown, hts, hX, hbl, hK, hZ, hSt⟩ := C
  obtain ⟨hIV, hPk, hPm, hPo, hDk, hDm, hak, ham, hω, hS⟩ := hw
  have hK2 : va_K D kcl (kty cI cQ) s := hK.sub (tys' := kty cI cQ) [0, 1] rfl
  have hI := hIV.1
  have hIm := hIV.mok
  have hn8 := hI.1
  have hne : ∀ q ∈ kw_w cI cQ α ad an n σ, q.1 ≠ ω := fun q hq => (hak _ (kw_in hq)).2.2
  obtain ⟨x, ex⟩ : ∃ z, xs (i + 1) = z := ⟨_, rfl⟩
  obtain ⟨y, ey⟩ : ∃ z, xs (i + 2) = z := ⟨_, rfl⟩
  by_cases hq : kd_sub x = 0
  · have hthr : (m_f τ 0 1).1 0 = 1 := rfl
    have hIV2 := hIV.f0 1
    have hm2 := hIV2.mok
    refine lv_aload_n hx hb d_L_law_402 rfl (lv_at hl 3 rfl) ?_
    refine lv_aload_n hx hb d_L_law_403 rfl (lv_at hl 4 rfl) ?_
    refine lv_iload hx hb d_L_law_404 (lv_at hl 0 rfl) ?_
    refine lv_iconst (v := 1) hx hb d_L_law_406 (by decide) ?_
    refine lv_iadd hx hb d_L_law_407 ?_
    refine l_ld (v := x) (j := i + 1) hx hb hX hbl hS (nI_add i 1) (by omega) hL ex d_L_law_408 ?_
    refine lv_aload_n hx hb d_L_law_409 rfl (lv_at hl 4 rfl) ?_
    refine lv_iload hx hb d_L_law_410 (lv_at hl 0 rfl) ?_
    refine lv_iconst (v := 2) hx hb d_L_law_412 (by decide) ?_
    refine lv_iadd hx hb d_L_law_413 ?_
    refine l_ld (v := y) (j := i + 2) hx hb hX hbl hS (nI_add i 2) (by omega) hL ey d_L_law_414 ?_
    refine lv_aload_n hx hb d_L_law_415 rfl (lv_at hl 1 rfl) ?_
    refine l_help (vx_runSX (hh := h_L_waits) (As := [.ref (α 0), .int x, .int y, .ref ω]) (rest := []) ⟨hx, hb, hml, hown, hts⟩ (hp_waitsA l hlT D cI cQ cL α ad an n σ hI ω H.size f x y hq) (vx_cwSW 4 hts gh_waits rfl rfl rfl (by decide +kernel) ⟨Nat.le_of_ble_eq_true rfl, Nat.le_of_ble_eq_true rfl⟩) (l_preS hK hPk hPo hDk hne hZ hS hSt) rfl rfl hl.1 rfl (lv_room (Nat.le_of_ble_eq_true rfl)) d_L_law_416 ⟨hcs.1, hcs.2⟩) hS hak ham hω hPm (fun H locs hPk hPo hPm hS => ?_)
    refine lv_istore (lv' := [(5, .int 1), (4, .int (nI i)), (3, .ref ω), (2, .ref (β 0)), (1, .ref (α 0)), (0, .ref b)]) hx hb d_L_law_419 hl (by decide) rfl (fun ls hl => ?_)
    refine lv_aload_n hx hb d_L_law_421 rfl (lv_at hl 3 rfl) ?_
    refine lv_aload_n hx hb d_L_law_422 rfl (lv_at hl 5 rfl) ?_
    refine lv_iload hx hb d_L_law_423 (lv_at hl 1 rfl) ?_
    refine lv_iconst (v := 1) hx hb d_L_law_425 (by decide) ?_
    refine lv_iadd hx hb d_L_law_426 ?_
    refine l_ld (v := x) (j := i + 1) hx hb hX hbl hS (nI_add i 1) (by omega) hL ex d_L_law_427 ?_
    refine lv_aload_n hx hb d_L_law_428 rfl (lv_at hl 5 rfl) ?_
    refine lv_iload hx hb d_L_law_429 (lv_at hl 1 rfl) ?_
    refine lv_iconst (v := 2) hx hb d_L_law_431 (by decide) ?_
    refine lv_iadd hx hb d_L_law_432 ?_
    refine l_ld (v := y) (j := i + 2) hx hb hX hbl hS (nI_add i 2) (by omega) hL ey d_L_law_433 ?_
    refine l_m (va_runV (As := [.int x, .int y]) (rest := []) ⟨hx, hb, hml, hown, hts⟩ (ct_M_waitsN l D cI cQ β n τ hIm x y hq) (cwV 2 hts gd_L_77 rfl rfl rfl (by decide +kernel) ⟨Nat.le_of_ble_eq_true rfl, Nat.le_of_ble_eq_true rfl⟩) (g_preV hK2 hPm hDm (ci := 2) (q0 := 0) rfl mw_0) rfl rfl hl.1 rfl (lv_room (Nat.le_of_ble_eq_true rfl)) d_L_law_434 ⟨hcs.1, hcs.2⟩) hS hak ham hPk hPo (fun H locs hPm hPk hPo hS => ?_)
    have hDm := vd_addr (w' := mw_w cI β (m_f τ 0 1)) (mw_addr.trans mw_addr.symm) hDm
    refine lv_istore (lv' := [(6, .int 0), (5, .int 1), (4, .int (nI i)), (3, .ref ω), (2, .ref (β 0)), (1, .ref (α 0)), (0, .ref b)]) hx hb d_L_law_437 hl (by decide) rfl (fun ls hl => ?_)
    refine lv_aload_n hx hb d_L_law_439 rfl (lv_at hl 4 rfl) ?_
    refine r_calli (W.runV (As := []) (rest := []) ⟨hx, hb, hml, hown, hts⟩ (ct_M_thrown l D cI cQ β n (m_f τ 0 1) hm2) (cwV 0 hts gd_L_52 rfl rfl rfl (by decide +kernel) ⟨Nat.le_of_ble_eq_true rfl, Nat.le_of_ble_eq_true rfl⟩) (g_preV hK2 hPm hDm (ci := 2) (q0 := 0) rfl mw_0) rfl rfl hl.1 rfl (lv_room (Nat.le_of_ble_eq_true rfl)) d_L_law_440 ⟨hcs.1, hcs.2⟩) ?_
    refine lv_iload hx hb d_L_law_443 (lv_at hl 1 rfl) ?_
    refine lv_icmp_eq (tgt := 450) hx hb d_L_law_445 (by decide) (fun _ => ?_) (fun q => absurd hthr q)
    refine lv_iload hx hb d_L_law_450 (lv_at hl 1 rfl) ?_
    refine lv_if_ne (tgt := 467) hx hb d_L_law_452 (by decide) (fun _ => ?_) (fun q => absurd q (by decide))
    refine lv_goto (tgt := 713) hx hb d_L_law_467 (by decide) ?_
    exact back _ _ _ _ _ _ _ _ ls ⟨hIV2, hPk, hPm, hPo, hDk, hDm, hak, ham, hω, hS⟩ (lv_sub hl [2, 3, 4, 5, 6] rfl)
  · obtain ⟨z, hz, rfl⟩ := ksub_some hq
    have hthr : (m_f τ 0 0).1 0 = 0 := rfl
    have hIV2 := hIV.f0 0
    have hm2 := hIV2.mok
    have hres := st_waits hIV z y
    refine lv_aload_n hx hb d_L_law_402 rfl (lv_at hl 3 rfl) ?_
    refine lv_aload_n hx hb d_L_law_403 rfl (lv_at hl 4 rfl) ?_
    refine lv_iload hx hb d_L_law_404 (lv_at hl 0 rfl) ?_
    refine lv_iconst (v := 1) hx hb d_L_law_406 (by decide) ?_
    refine lv_iadd hx hb d_L_law_407 ?_
    refine l_ld (v := nI z) (j := i + 1) hx hb hX hbl hS (nI_add i 1) (by omega) hL ex d_L_law_408 ?_
    refine lv_aload_n hx hb d_L_law_409 rfl (lv_at hl 4 rfl) ?_
    refine lv_iload hx hb d_L_law_410 (lv_at hl 0 rfl) ?_
    refine lv_iconst (v := 2) hx hb d_L_law_412 (by decide) ?_
    refine lv_iadd hx hb d_L_law_413 ?_
    refine l_ld (v := y) (j := i + 2) hx hb hX hbl hS (nI_add i 2) (by omega) hL ey d_L_law_414 ?_
    refine lv_aload_n hx hb d_L_law_415 rfl (lv_at hl 1 rfl) ?_
    refine l_help (vx_runSX (hh := h_L_waits) (As := [.ref (α 0), .int (nI z), .int y, .ref ω]) (rest := []) ⟨hx, hb, hml, hown, hts⟩ (hp_waits l hlT D cI cQ cL α ad an n σ hI ω H.size f z hz y) (vx_cwSW 4 hts gh_waits rfl rfl rfl (by decide +kernel) ⟨Nat.le_of_ble_eq_true rfl, Nat.le_of_ble_eq_true rfl⟩) (l_preS hK hPk hPo hDk hne hZ hS hSt) rfl rfl hl.1 rfl (lv_room (Nat.le_of_ble_eq_true rfl)) d_L_law_416 ⟨hcs.1, hcs.2⟩) hS hak ham hω hPm (fun H locs hPk hPo hPm hS => ?_)
    refine lv_istore (lv' := [(5, .int 0), (4, .int (nI i)), (3, .ref ω), (2, .ref (β 0)), (1, .ref (α 0)), (0, .ref b)]) hx hb d_L_law_419 hl (by decide) rfl (fun ls hl => ?_)
    refine lv_aload_n hx hb d_L_law_421 rfl (lv_at hl 3 rfl) ?_
    refine lv_aload_n hx hb d_L_law_422 rfl (lv_at hl 5 rfl) ?_
    refine lv_iload hx hb d_L_law_423 (lv_at hl 1 rfl) ?_
    refine lv_iconst (v := 1) hx hb d_L_law_425 (by decide) ?_
    refine lv_iadd hx hb d_L_law_426 ?_
    refine l_ld (v := nI z) (j := i + 1) hx hb hX hbl hS (nI_add i 1) (by omega) hL ex d_L_law_427 ?_
    refine lv_aload_n hx hb d_L_law_428 rfl (lv_at hl 5 rfl) ?_
    refine lv_iload hx hb d_L_law_429 (lv_at hl 1 rfl) ?_
    refine lv_iconst (v := 2) hx hb d_L_law_431 (by decide) ?_
    refine lv_iadd hx hb d_L_law_432 ?_
    refine l_ld (v := y) (j := i + 2) hx hb hX hbl hS (nI_add i 2) (by omega) hL ey d_L_law_433 ?_
    refine l_m (va_runV (As := [.int (nI z), .int y]) (rest := []) ⟨hx, hb, hml, hown, hts⟩ (ct_M_waits l D cI cQ β n τ hIm z hz y) (cwV 2 hts gd_L_77 rfl rfl rfl (by decide +kernel) ⟨Nat.le_of_ble_eq_true rfl, Nat.le_of_ble_eq_true rfl⟩) (g_preV hK2 hPm hDm (ci := 2) (q0 := 0) rfl mw_0) rfl rfl hl.1 rfl (lv_room (Nat.le_of_ble_eq_true rfl)) d_L_law_434 ⟨hcs.1, hcs.2⟩) hS hak ham hPk hPo (fun H locs hPm hPk hPo hS => ?_)
    have hDm := vd_addr (w' := mw_w cI β (m_f τ 0 0)) (mw_addr.trans mw_addr.symm) hDm
    refine lv_istore (lv' := [(6, .int (mo_wt τ n z y)), (5, .int 0), (4, .int (nI i)), (3, .ref ω), (2, .ref (β 0)), (1, .ref (α 0)), (0, .ref b)]) hx hb d_L_law_437 hl (by decide) rfl (fun ls hl => ?_)
    refine lv_aload_n hx hb d_L_law_439 rfl (lv_at hl 4 rfl) ?_
    refine r_calli (W.runV (As := []) (rest := []) ⟨hx, hb, hml, hown, hts⟩ (ct_M_thrown l D cI cQ β n (m_f τ 0 0) hm2) (cwV 0 hts gd_L_52 rfl rfl rfl (by decide +kernel) ⟨Nat.le_of_ble_eq_true rfl, Nat.le_of_ble_eq_true rfl⟩) (g_preV hK2 hPm hDm (ci := 2) (q0 := 0) rfl mw_0) rfl rfl hl.1 rfl (lv_room (Nat.le_of_ble_eq_true rfl)) d_L_law_440 ⟨hcs.1, hcs.2⟩) ?_
    refine lv_iload hx hb d_L_law_443 (lv_at hl 1 rfl) ?_
    refine lv_icmp_eq (tgt := 450) hx hb d_L_law_445 (by decide) (fun _ => ?_) (fun q => absurd hthr q)
    refine lv_iload hx hb d_L_law_450 (lv_at hl 1 rfl) ?_
    refine lv_if_ne (tgt := 467) hx hb d_L_law_452 (by decide) (fun q => absurd rfl q) (fun _ => ?_)
    refine lv_aload_n hx hb d_L_law_455 rfl (lv_at hl 3 rfl) ?_
    refine lv_iconst (v := 0) hx hb d_L_law_456 (by decide) ?_
    refine l_lald (v := (kp_wt σ n z y).toInt64) hx hb hK hPo pk_uLs d_L_law_457 ?_
    refine lv_iload hx hb d_L_law_458 (lv_at hl 0 rfl) ?_
    refine lv_i2l hx hb d_L_law_460 rfl ?_
    refine W.lcmp hx hb d_L_law_461 ?_
    refine lv_if_eq (tgt := 467) hx hb d_L_law_462 (by decide) (fun _ => ?_) (fun q => absurd (by rw [hres]; exact lg_self _) q)
    refine lv_goto (tgt := 713) hx hb d_L_law_467 (by decide) ?_
    exact back _ _ _ _ _ _ _ _ ls ⟨hIV2, hPk, hPm, hPo, hDk, hDm, hak, ham, hω, hS⟩ (lv_sub hl [2, 3, 4, 5, 6] rfl)
set_option maxHeartbeats 4000000 in
set_option maxRecDepth 100000 in
theorem lc_interrupt {p : Program} {l : Launch} {e : Env} {s : State} {m : MethodId} {below : List Frame} {meth : Method} {c : Code} {Q : State → Prop} {b L : Nat} {xs : Nat → Int32} {D : va_G} {cI cQ cL : ClassId} (C : lw_C p s m c b L xs D cI cQ cL) (hlT : l.stackTraces = false) (hL : L ≤ 2048) {α β : Nat → Nat} {ω n : Nat} {σ : kS} {τ : mS} {ad an : Nat → Nat} {f : Nat → Int64} {H : Heap} {locs : List Loc} {ls : Array Slot} {i cells slots : Nat} (hi : i + 3 < L) (hcs : cells + 2 ≤ 601024 ∧ slots + 22 ≤ 7293034) (hw : lw_W D cI cQ cL s α β ω n σ τ ad an f H locs) (hl : lv_has ls 7 [(4, .int (nI i)), (3, .ref ω), (2, .ref (β 0)), (1, .ref (α 0)), (0, .ref b)])
    (back : ∀ (n' : Nat) (σ' : kS) (τ' : mS) (ad' an' : Nat → Nat) (f' : Nat → Int64) (H' : Heap) (locs' : List Loc) (ls' : Array Slot), lw_W D cI cQ cL s α β ω n' σ' τ' ad' an' f' H' locs' → lv_has ls' 7 [(4, .int (nI i)), (3, .ref ω), (2, .ref (β 0)), (1, .ref (α 0)), (0, .ref b)] → W p l e room_1 s m #[Value.ref b] below meth c H' locs' (cells + 2) (slots + 22) Q (F0 m 713 ls' [])) : W p l e room_1 s m #[Value.ref b] below meth c H locs cells slots Q (F0 m 470 ls []) := by
  obtain ⟨hx, hb, hml, hown, hts, hX, hbl, hK, hZ, hSt⟩ := C
  obtain ⟨hIV, hPk, hPm, hPo, hDk, hDm, hak, ham, hω, hS⟩ := hw
  have hK2 : va_K D kcl (kty cI cQ) s := hK.sub (tys' := kty cI cQ) [0, 1] rfl
  have hI := hIV.1
  have hIm := hIV.mok
  have hn8 := hI.1
  have hne : ∀ q ∈ kw_w cI cQ α ad an n σ, q.1 ≠ ω := fun q hq => (hak _ (kw_in hq)).2.2
  obtain ⟨x, ex⟩ : ∃ z, xs (i + 1) = z := ⟨_, rfl⟩
  rcases hq : kd_at n x with _ | d
  · obtain ⟨hm0, hk0⟩ := st_intN hIV hq
    have hres : (kp_int n σ x).1 = 0 := by rw [hk0]
    have hIV2 : IV n (kp_int n σ x).2 (m_f τ 0 0) := by rw [hk0]; exact hIV.f0 0
    refine lv_aload_n hx hb d_L_law_470 rfl (lv_at hl 3 rfl) ?_
    refine lv_aload_n hx hb d_L_law_471 rfl (lv_at hl 4 rfl) ?_
    refine lv_iload hx hb d_L_law_472 (lv_at hl 0 rfl) ?_
    refine lv_iconst (v := 1) hx hb d_L_law_474 (by decide) ?_
    refine lv_iadd hx hb d_L_law_475 ?_
    refine l_ld (v := x) (j := i + 1) hx hb hX hbl hS (nI_add i 1) (by omega) hL ex d_L_law_476 ?_
    refine l_k (va_runV (As := [.int x]) (rest := []) ⟨hx, hb, hml, hown, hts⟩ (ct_K_interrupt l D cI cQ α ad an n σ hI x) (cwV 1 hts gd_L_78 rfl rfl rfl (by decide +kernel) ⟨Nat.le_of_ble_eq_true rfl, Nat.le_of_ble_eq_true rfl⟩) (g_preV hK2 hPk hDk (ci := 0) (q0 := 0) rfl kw_0) rfl rfl hl.1 rfl (lv_room (Nat.le_of_ble_eq_true rfl)) d_L_law_477 ⟨by have := hcs.1; show cells + 0 ≤ 601024; omega, by have := hcs.2; show slots + 0 ≤ 7293034; omega⟩) hS hak hPm hPo (fun H locs hPk hPm hPo hS => ?_)
    have hDk := vd_addr (kw_addr ((kp_int n σ x).2)) hDk
    refine lv_aload_n hx hb d_L_law_480 rfl (lv_at hl 2 rfl) ?_
    refine lv_aload_n hx hb d_L_law_481 rfl (lv_at hl 4 rfl) ?_
    refine lv_iload hx hb d_L_law_482 (lv_at hl 0 rfl) ?_
    refine lv_iconst (v := 1) hx hb d_L_law_484 (by decide) ?_
    refine lv_iadd hx hb d_L_law_485 ?_
    refine l_ld (v := x) (j := i + 1) hx hb hX hbl hS (nI_add i 1) (by omega) hL ex d_L_law_486 ?_
    refine l_m (va_runV (As := [.int x]) (rest := [.int ((kp_int n σ x).1)]) ⟨hx, hb, hml, hown, hts⟩ (ct_M_interruptN l D cI cQ β n τ hIm x hm0) (cwV 1 hts gd_L_82 rfl rfl rfl (by decide +kernel) ⟨Nat.le_of_ble_eq_true rfl, Nat.le_of_ble_eq_true rfl⟩) (g_preV hK2 hPm hDm (ci := 2) (q0 := 0) rfl mw_0) rfl rfl hl.1 rfl (lv_room (Nat.le_of_ble_eq_true rfl)) d_L_law_487 ⟨by have := hcs.1; show cells + 0 ≤ 601024; omega, by have := hcs.2; show slots + 0 ≤ 7293034; omega⟩) hS hak ham hPk hPo (fun H locs hPm hPk hPo hS => ?_)
    have hDm := vd_addr (w' := mw_w cI β (m_f τ 0 0)) (mw_addr.trans mw_addr.symm) hDm
    refine lv_icmp_eq (tgt := 713) hx hb d_L_law_490 (by decide) (fun _ => ?_) (fun q => absurd hres q)
    refine W.widen (k := cells + 2) (n := slots + 22) (by omega) (by omega) ?_
    exact back _ _ _ _ _ _ _ _ ls ⟨hIV2, hPk, hPm, hPo, hDk, hDm, hak, ham, hω, hS⟩ (lv_sub hl [0, 1, 2, 3, 4] rfl)
  · obtain ⟨hd, rfl⟩ := kat_some hn8 hq
    obtain ⟨hres, hIV2⟩ := st_int hIV hd
    have hres := hres.symm
    refine lv_aload_n hx hb d_L_law_470 rfl (lv_at hl 3 rfl) ?_
    refine lv_aload_n hx hb d_L_law_471 rfl (lv_at hl 4 rfl) ?_
    refine lv_iload hx hb d_L_law_472 (lv_at hl 0 rfl) ?_
    refine lv_iconst (v := 1) hx hb d_L_law_474 (by decide) ?_
    refine lv_iadd hx hb d_L_law_475 ?_
    refine l_ld (v := nI d) (j := i + 1) hx hb hX hbl hS (nI_add i 1) (by omega) hL ex d_L_law_476 ?_
    refine l_k (va_runV (As := [.int (nI d)]) (rest := []) ⟨hx, hb, hml, hown, hts⟩ (ct_K_interrupt l D cI cQ α ad an n σ hI (nI d)) (cwV 1 hts gd_L_78 rfl rfl rfl (by decide +kernel) ⟨Nat.le_of_ble_eq_true rfl, Nat.le_of_ble_eq_true rfl⟩) (g_preV hK2 hPk hDk (ci := 0) (q0 := 0) rfl kw_0) rfl rfl hl.1 rfl (lv_room (Nat.le_of_ble_eq_true rfl)) d_L_law_477 ⟨by have := hcs.1; show cells + 0 ≤ 601024; omega, by have := hcs.2; show slots + 0 ≤ 7293034; omega⟩) hS hak hPm hPo (fun H locs hPk hPm hPo hS => ?_)
    have hDk := vd_addr (kw_addr ((kp_int n σ (nI d)).2)) hDk
    refine lv_aload_n hx hb d_L_law_480 rfl (lv_at hl 2 rfl) ?_
    refine lv_aload_n hx hb d_L_law_481 rfl (lv_at hl 4 rfl) ?_
    refine lv_iload hx hb d_L_law_482 (lv_at hl 0 rfl) ?_
    refine lv_iconst (v := 1) hx hb d_L_law_484 (by decide) ?_
    refine lv_iadd hx hb d_L_law_485 ?_
    refine l_ld (v := nI d) (j := i + 1) hx hb hX hbl hS (nI_add i 1) (by omega) hL ex d_L_law_486 ?_
    refine l_m (va_runV (As := [.int (nI d)]) (rest := [.int ((kp_int n σ (nI d)).1)]) ⟨hx, hb, hml, hown, hts⟩ (ct_M_interrupt l D cI cQ β n τ hIm d hd) (cwV 1 hts gd_L_82 rfl rfl rfl (by decide +kernel) ⟨Nat.le_of_ble_eq_true rfl, Nat.le_of_ble_eq_true rfl⟩) (g_preV hK2 hPm hDm (ci := 2) (q0 := 0) rfl mw_0) rfl rfl hl.1 rfl (lv_room (Nat.le_of_ble_eq_true rfl)) d_L_law_487 ⟨by have := hcs.1; show cells + 0 ≤ 601024; omega, by have := hcs.2; show slots + 0 ≤ 7293034; omega⟩) hS hak ham hPk hPo (fun H locs hPm hPk hPo hS => ?_)
    have hDm := vd_addr (w' := mw_w cI β ((mo_inti n τ d).2)) (mw_addr.trans mw_addr.symm) hDm
    refine lv_icmp_eq (tgt := 713) hx hb d_L_law_490 (by decide) (fun _ => ?_) (fun q => absurd hres q)
    refine W.widen (k := cells + 2) (n := slots + 22) (by omega) (by omega) ?_
    exact back _ _ _ _ _ _ _ _ ls ⟨hIV2, hPk, hPm, hPo, hDk, hDm, hak, ham, hω, hS⟩ (lv_sub hl [0, 1, 2, 3, 4] rfl)
