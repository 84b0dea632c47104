set_option maxHeartbeats 4000000 in
set_option maxRecDepth 100000 in
theorem lc_dead {p : Program} {l : Launch} {e : Env} {s : State} {m : MethodId} {below : List Frame} {meth : Method} {c : Code} {Q : State → Prop} {b L : Nat} {xs : Nat → Int32} {D : va_G} {cI cQ cL : ClassId} (C : lw_C p s m c b L xs D cI cQ cL) (hlT : l.stackTraces = false) (hL : L ≤ 2048) {α β : Nat → Nat} {ω n : Nat} {σ : kS} {τ : mS} {ad an : Nat → Nat} {f : Nat → Int64} {H : Heap} {locs : List Loc} {ls : Array Slot} {i cells slots : Nat} (hi : i + 3 < L) (hcs : cells + 2 ≤ 601024 ∧ slots + 22 ≤ 7293034) (hw : lw_W D cI cQ cL s α β ω n σ τ ad an f H locs) (hl : lv_has ls 7 [(4, .int (nI i)), (3, .ref ω), (2, .ref (β 0)), (1, .ref (α 0)), (0, .ref b)])
    (back : ∀ (n' : Nat) (σ' : kS) (τ' : mS) (ad' an' : Nat → Nat) (f' : Nat → Int64) (H' : Heap) (locs' : List Loc) (ls' : Array Slot), lw_W D cI cQ cL s α β ω n' σ' τ' ad' an' f' H' locs' → lv_has ls' 7 [(4, .int (nI i)), (3, .ref ω), (2, .ref (β 0)), (1, .ref (α 0)), (0, .ref b)] → W p l e room_1 s m #[Value.ref b] below meth c H' locs' (cells + 2) (slots + 22) Q (F0 m 713 ls' [])) : W p l e room_1 s m #[Value.ref b] below meth c H locs cells slots Q (F0 m 495 ls []) := by
  obtain ⟨hx, hb, hml, hown, hts, hX, hbl, hK, hZ, hSt⟩ := C
  obtain ⟨hIV, hPk, hPm, hPo, hDk, hDm, hak, ham, hω, hS⟩ := hw
  have hK2 : va_K D kcl (kty cI cQ) s := hK.sub (tys' := kty cI cQ) [0, 1] rfl
  have hI := hIV.1
  have hIm := hIV.mok
  have hn8 := hI.1
  have hne : ∀ q ∈ kw_w cI cQ α ad an n σ, q.1 ≠ ω := fun q hq => (hak _ (kw_in hq)).2.2
  obtain ⟨x, ex⟩ : ∃ z, xs (i + 1) = z := ⟨_, rfl⟩
  rcases hq : kd_at n x with _ | d
  · have hthr : (m_f τ 0 1).1 0 = 1 := rfl
    have hIV2 := hIV.f0 1
    have hm2 := hIV2.mok
    refine lv_aload_n hx hb d_L_law_495 rfl (lv_at hl 3 rfl) ?_
    refine lv_aload_n hx hb d_L_law_496 rfl (lv_at hl 4 rfl) ?_
    refine lv_iload hx hb d_L_law_497 (lv_at hl 0 rfl) ?_
    refine lv_iconst (v := 1) hx hb d_L_law_499 (by decide) ?_
    refine lv_iadd hx hb d_L_law_500 ?_
    refine l_ld (v := x) (j := i + 1) hx hb hX hbl hS (nI_add i 1) (by omega) hL ex d_L_law_501 ?_
    refine lv_aload_n hx hb d_L_law_502 rfl (lv_at hl 1 rfl) ?_
    refine l_help (vx_runSX (hh := h_L_dead) (As := [.ref (α 0), .int x, .ref ω]) (rest := []) ⟨hx, hb, hml, hown, hts⟩ (hp_deadA l hlT D cI cQ cL α ad an n σ hI ω H.size f x hq) (vx_cwSW 3 hts gh_dead rfl rfl rfl (by decide +kernel) ⟨Nat.le_of_ble_eq_true rfl, Nat.le_of_ble_eq_true rfl⟩) (l_preS hK hPk hPo hDk hne hZ hS hSt) rfl rfl hl.1 rfl (lv_room (Nat.le_of_ble_eq_true rfl)) d_L_law_503 ⟨hcs.1, hcs.2⟩) hS hak ham hω hPm (fun H locs hPk hPo hPm hS => ?_)
    refine lv_istore (lv' := [(5, .int 1), (4, .int (nI i)), (3, .ref ω), (2, .ref (β 0)), (1, .ref (α 0)), (0, .ref b)]) hx hb d_L_law_506 hl (by decide) rfl (fun ls hl => ?_)
    refine lv_aload_n hx hb d_L_law_508 rfl (lv_at hl 3 rfl) ?_
    refine lv_aload_n hx hb d_L_law_509 rfl (lv_at hl 5 rfl) ?_
    refine lv_iload hx hb d_L_law_510 (lv_at hl 1 rfl) ?_
    refine lv_iconst (v := 1) hx hb d_L_law_512 (by decide) ?_
    refine lv_iadd hx hb d_L_law_513 ?_
    refine l_ld (v := x) (j := i + 1) hx hb hX hbl hS (nI_add i 1) (by omega) hL ex d_L_law_514 ?_
    refine l_m (va_runV (As := [.int x]) (rest := []) ⟨hx, hb, hml, hown, hts⟩ (ct_M_deadN l D cI cQ β n τ hIm x (st_deadN hIV hq)) (cwV 1 hts gd_L_85 rfl rfl rfl (by decide +kernel) ⟨Nat.le_of_ble_eq_true rfl, Nat.le_of_ble_eq_true rfl⟩) (g_preV hK2 hPm hDm (ci := 2) (q0 := 0) rfl mw_0) rfl rfl hl.1 rfl (lv_room (Nat.le_of_ble_eq_true rfl)) d_L_law_515 ⟨hcs.1, hcs.2⟩) hS hak ham hPk hPo (fun H locs hPm hPk hPo hS => ?_)
    have hDm := vd_addr (w' := mw_w cI β (m_f τ 0 1)) (mw_addr.trans mw_addr.symm) hDm
    refine lv_istore (lv' := [(6, .int 0), (5, .int 1), (4, .int (nI i)), (3, .ref ω), (2, .ref (β 0)), (1, .ref (α 0)), (0, .ref b)]) hx hb d_L_law_518 hl (by decide) rfl (fun ls hl => ?_)
    refine lv_aload_n hx hb d_L_law_520 rfl (lv_at hl 4 rfl) ?_
    refine r_calli (W.runV (As := []) (rest := []) ⟨hx, hb, hml, hown, hts⟩ (ct_M_thrown l D cI cQ β n (m_f τ 0 1) hm2) (cwV 0 hts gd_L_52 rfl rfl rfl (by decide +kernel) ⟨Nat.le_of_ble_eq_true rfl, Nat.le_of_ble_eq_true rfl⟩) (g_preV hK2 hPm hDm (ci := 2) (q0 := 0) rfl mw_0) rfl rfl hl.1 rfl (lv_room (Nat.le_of_ble_eq_true rfl)) d_L_law_521 ⟨hcs.1, hcs.2⟩) ?_
    refine lv_iload hx hb d_L_law_524 (lv_at hl 1 rfl) ?_
    refine lv_icmp_eq (tgt := 531) hx hb d_L_law_526 (by decide) (fun _ => ?_) (fun q => absurd hthr q)
    refine lv_iload hx hb d_L_law_531 (lv_at hl 1 rfl) ?_
    refine lv_if_ne (tgt := 548) hx hb d_L_law_533 (by decide) (fun _ => ?_) (fun q => absurd q (by decide))
    refine lv_goto (tgt := 713) hx hb d_L_law_548 (by decide) ?_
    exact back _ _ _ _ _ _ _ _ ls ⟨hIV2, hPk, hPm, hPo, hDk, hDm, hak, ham, hω, hS⟩ (lv_sub hl [2, 3, 4, 5, 6] rfl)
  · obtain ⟨hd, rfl⟩ := kat_some hn8 hq
    obtain ⟨hres, hthr, hIV2⟩ := st_dead hIV hd
    have hm2 := hIV2.mok
    refine lv_aload_n hx hb d_L_law_495 rfl (lv_at hl 3 rfl) ?_
    refine lv_aload_n hx hb d_L_law_496 rfl (lv_at hl 4 rfl) ?_
    refine lv_iload hx hb d_L_law_497 (lv_at hl 0 rfl) ?_
    refine lv_iconst (v := 1) hx hb d_L_law_499 (by decide) ?_
    refine lv_iadd hx hb d_L_law_500 ?_
    refine l_ld (v := nI d) (j := i + 1) hx hb hX hbl hS (nI_add i 1) (by omega) hL ex d_L_law_501 ?_
    refine lv_aload_n hx hb d_L_law_502 rfl (lv_at hl 1 rfl) ?_
    refine l_help (vx_runSX (hh := h_L_dead) (As := [.ref (α 0), .int (nI d), .ref ω]) (rest := []) ⟨hx, hb, hml, hown, hts⟩ (hp_dead l hlT D cI cQ cL α ad an n σ hI ω H.size f d hd) (vx_cwSW 3 hts gh_dead rfl rfl rfl (by decide +kernel) ⟨Nat.le_of_ble_eq_true rfl, Nat.le_of_ble_eq_true rfl⟩) (l_preS hK hPk hPo hDk hne hZ hS hSt) rfl rfl hl.1 rfl (lv_room (Nat.le_of_ble_eq_true rfl)) d_L_law_503 ⟨hcs.1, hcs.2⟩) hS hak ham hω hPm (fun H locs hPk hPo hPm hS => ?_)
    have hDk := vd_addr (kw_addr ((kp_dead σ d).2)) hDk
    refine lv_istore (lv' := [(5, .int 0), (4, .int (nI i)), (3, .ref ω), (2, .ref (β 0)), (1, .ref (α 0)), (0, .ref b)]) hx hb d_L_law_506 hl (by decide) rfl (fun ls hl => ?_)
    refine lv_aload_n hx hb d_L_law_508 rfl (lv_at hl 3 rfl) ?_
    refine lv_aload_n hx hb d_L_law_509 rfl (lv_at hl 5 rfl) ?_
    refine lv_iload hx hb d_L_law_510 (lv_at hl 1 rfl) ?_
    refine lv_iconst (v := 1) hx hb d_L_law_512 (by decide) ?_
    refine lv_iadd hx hb d_L_law_513 ?_
    refine l_ld (v := nI d) (j := i + 1) hx hb hX hbl hS (nI_add i 1) (by omega) hL ex d_L_law_514 ?_
    refine l_m (va_runV (As := [.int (nI d)]) (rest := []) ⟨hx, hb, hml, hown, hts⟩ (ct_M_dead l D cI cQ β n τ hIm d hd) (cwV 1 hts gd_L_85 rfl rfl rfl (by decide +kernel) ⟨Nat.le_of_ble_eq_true rfl, Nat.le_of_ble_eq_true rfl⟩) (g_preV hK2 hPm hDm (ci := 2) (q0 := 0) rfl mw_0) rfl rfl hl.1 rfl (lv_room (Nat.le_of_ble_eq_true rfl)) d_L_law_515 ⟨hcs.1, hcs.2⟩) hS hak ham hPk hPo (fun H locs hPm hPk hPo hS => ?_)
    have hDm := vd_addr (w' := mw_w cI β ((mo_dead τ d).2)) (mw_addr.trans mw_addr.symm) hDm
    refine lv_istore (lv' := [(6, .int ((mo_dead τ d).1)), (5, .int 0), (4, .int (nI i)), (3, .ref ω), (2, .ref (β 0)), (1, .ref (α 0)), (0, .ref b)]) hx hb d_L_law_518 hl (by decide) rfl (fun ls hl => ?_)
    refine lv_aload_n hx hb d_L_law_520 rfl (lv_at hl 4 rfl) ?_
    refine r_calli (W.runV (As := []) (rest := []) ⟨hx, hb, hml, hown, hts⟩ (ct_M_thrown l D cI cQ β n ((mo_dead τ d).2) hm2) (cwV 0 hts gd_L_52 rfl rfl rfl (by decide +kernel) ⟨Nat.le_of_ble_eq_true rfl, Nat.le_of_ble_eq_true rfl⟩) (g_preV hK2 hPm hDm (ci := 2) (q0 := 0) rfl mw_0) rfl rfl hl.1 rfl (lv_room (Nat.le_of_ble_eq_true rfl)) d_L_law_521 ⟨hcs.1, hcs.2⟩) ?_
    refine lv_iload hx hb d_L_law_524 (lv_at hl 1 rfl) ?_
    refine lv_icmp_eq (tgt := 531) hx hb d_L_law_526 (by decide) (fun _ => ?_) (fun q => absurd hthr q)
    refine lv_iload hx hb d_L_law_531 (lv_at hl 1 rfl) ?_
    refine lv_if_ne (tgt := 548) hx hb d_L_law_533 (by decide) (fun q => absurd rfl q) (fun _ => ?_)
    refine lv_aload_n hx hb d_L_law_536 rfl (lv_at hl 3 rfl) ?_
    refine lv_iconst (v := 0) hx hb d_L_law_537 (by decide) ?_
    refine l_lald (v := ((kp_dead σ d).1).toInt64) hx hb hK hPo pk_uLs d_L_law_538 ?_
    refine lv_iload hx hb d_L_law_539 (lv_at hl 0 rfl) ?_
    refine lv_i2l hx hb d_L_law_541 rfl ?_
    refine W.lcmp hx hb d_L_law_542 ?_
    refine lv_if_eq (tgt := 548) hx hb d_L_law_543 (by decide) (fun _ => ?_) (fun q => absurd (by rw [hres]; exact lg_self _) q)
    refine lv_goto (tgt := 713) hx hb d_L_law_548 (by decide) ?_
    exact back _ _ _ _ _ _ _ _ ls ⟨hIV2, hPk, hPm, hPo, hDk, hDm, hak, ham, hω, hS⟩ (lv_sub hl [2, 3, 4, 5, 6] rfl)
set_option maxHeartbeats 4000000 in
set_option maxRecDepth 100000 in
theorem lc_tick {p : Program} {l : Launch} {e : Env} {s : State} {m : MethodId} {below : List Frame} {meth : Method} {c : Code} {Q : State → Prop} {b L : Nat} {xs : Nat → Int32} {D : va_G} {cI cQ cL : ClassId} (C : lw_C p s m c b L xs D cI cQ cL) (hlT : l.stackTraces = false) (hL : L ≤ 2048) {α β : Nat → Nat} {ω n : Nat} {σ : kS} {τ : mS} {ad an : Nat → Nat} {f : Nat → Int64} {H : Heap} {locs : List Loc} {ls : Array Slot} {i cells slots : Nat} (hi : i + 3 < L) (hcs : cells + 2 ≤ 601024 ∧ slots + 22 ≤ 7293034) (hw : lw_W D cI cQ cL s α β ω n σ τ ad an f H locs) (hl : lv_has ls 7 [(4, .int (nI i)), (3, .ref ω), (2, .ref (β 0)), (1, .ref (α 0)), (0, .ref b)])
    (back : ∀ (n' : Nat) (σ' : kS) (τ' : mS) (ad' an' : Nat → Nat) (f' : Nat → Int64) (H' : Heap) (locs' : List Loc) (ls' : Array Slot), lw_W D cI cQ cL s α β ω n' σ' τ' ad' an' f' H' locs' → lv_has ls' 7 [(4, .int (nI i)), (3, .ref ω), (2, .ref (β 0)), (1, .ref (α 0)), (0, .ref b)] → W p l e room_1 s m #[Value.ref b] below meth c H' locs' (cells + 2) (slots + 22) Q (F0 m 713 ls' [])) : W p l e room_1 s m #[Value.ref b] below meth c H locs cells slots Q (F0 m 551 ls []) := by
  obtain ⟨hx, hb, hml, hown, hts, hX, hbl, hK, hZ, hSt⟩ := C
  obtain ⟨hIV, hPk, hPm, hPo, hDk, hDm, hak, ham, hω, hS⟩ := hw
  have hK2 : va_K D kcl (kty cI cQ) s := hK.sub (tys' := kty cI cQ) [0, 1] rfl
  have hI := hIV.1
  have hIm := hIV.mok
  have hn8 := hI.1
  have hne : ∀ q ∈ kw_w cI cQ α ad an n σ, q.1 ≠ ω := fun q hq => (hak _ (kw_in hq)).2.2
  obtain ⟨x, ex⟩ : ∃ z, xs (i + 1) = z := ⟨_, rfl⟩
  by_cases hT : ¬ x < σ.1 11 ∧ x ≤ 100000
  · obtain ⟨h1, h2⟩ := hT
    obtain ⟨hin, hh, hres, hthr, hIV2⟩ := st_tick hIV h1 h2
    have hm2 := hIV2.mok
    refine lv_aload_n hx hb d_L_law_551 rfl (lv_at hl 3 rfl) ?_
    refine lv_aload_n hx hb d_L_law_552 rfl (lv_at hl 4 rfl) ?_
    refine lv_iload hx hb d_L_law_553 (lv_at hl 0 rfl) ?_
    refine lv_iconst (v := 1) hx hb d_L_law_555 (by decide) ?_
    refine lv_iadd hx hb d_L_law_556 ?_
    refine l_ld (v := x) (j := i + 1) hx hb hX hbl hS (nI_add i 1) (by omega) hL ex d_L_law_557 ?_
    refine lv_aload_n hx hb d_L_law_558 rfl (lv_at hl 1 rfl) ?_
    refine l_help (vx_runSX (hh := h_L_tick) (As := [.ref (α 0), .int x, .ref ω]) (rest := []) ⟨hx, hb, hml, hown, hts⟩ (hp_tick l hlT D cI cQ cL α ad an n σ hI ω H.size f x h1 h2) (vx_cwSW 3 hts gh_tick rfl rfl rfl (by decide +kernel) ⟨Nat.le_of_ble_eq_true rfl, Nat.le_of_ble_eq_true rfl⟩) (l_preS hK hPk hPo hDk hne hZ hS hSt) rfl rfl hl.1 rfl (lv_room (Nat.le_of_ble_eq_true rfl)) d_L_law_559 ⟨hcs.1, hcs.2⟩) hS hak ham hω hPm (fun H locs hPk hPo hPm hS => ?_)
    have hDk := vd_addr (kw_addr ((kd_tickp n (k_f σ 11 x) 16).2)) hDk
    refine lv_istore (lv' := [(5, .int 0), (4, .int (nI i)), (3, .ref ω), (2, .ref (β 0)), (1, .ref (α 0)), (0, .ref b)]) hx hb d_L_law_562 hl (by decide) rfl (fun ls hl => ?_)
    refine lv_aload_n hx hb d_L_law_564 rfl (lv_at hl 3 rfl) ?_
    refine lv_aload_n hx hb d_L_law_565 rfl (lv_at hl 5 rfl) ?_
    refine lv_iload hx hb d_L_law_566 (lv_at hl 1 rfl) ?_
    refine lv_iconst (v := 1) hx hb d_L_law_568 (by decide) ?_
    refine lv_iadd hx hb d_L_law_569 ?_
    refine l_ld (v := x) (j := i + 1) hx hb hX hbl hS (nI_add i 1) (by omega) hL ex d_L_law_570 ?_
    refine l_m (va_runV (As := [.int x]) (rest := []) ⟨hx, hb, hml, hown, hts⟩ (ct_M_tick l D cI cQ β n τ hIm x hin hh) (cwV 1 hts gd_L_88 rfl rfl rfl (by decide +kernel) ⟨Nat.le_of_ble_eq_true rfl, Nat.le_of_ble_eq_true rfl⟩) (g_preV hK2 hPm hDm (ci := 2) (q0 := 0) rfl mw_0) rfl rfl hl.1 rfl (lv_room (Nat.le_of_ble_eq_true rfl)) d_L_law_571 ⟨hcs.1, hcs.2⟩) hS hak ham hPk hPo (fun H locs hPm hPk hPo hS => ?_)
    have hDm := vd_addr (w' := mw_w cI β ((mo_tickp n (m_f (m_f τ 0 0) 19 x) 16).2)) (mw_addr.trans mw_addr.symm) hDm
    refine lv_istore (lv' := [(6, .int ((mo_tickp n (m_f (m_f τ 0 0) 19 x) 16).1)), (5, .int 0), (4, .int (nI i)), (3, .ref ω), (2, .ref (β 0)), (1, .ref (α 0)), (0, .ref b)]) hx hb d_L_law_574 hl (by decide) rfl (fun ls hl => ?_)
    refine lv_aload_n hx hb d_L_law_576 rfl (lv_at hl 4 rfl) ?_
    refine r_calli (W.runV (As := []) (rest := []) ⟨hx, hb, hml, hown, hts⟩ (ct_M_thrown l D cI cQ β n ((mo_tickp n (m_f (m_f τ 0 0) 19 x) 16).2) hm2) (cwV 0 hts gd_L_52 rfl rfl rfl (by decide +kernel) ⟨Nat.le_of_ble_eq_true rfl, Nat.le_of_ble_eq_true rfl⟩) (g_preV hK2 hPm hDm (ci := 2) (q0 := 0) rfl mw_0) rfl rfl hl.1 rfl (lv_room (Nat.le_of_ble_eq_true rfl)) d_L_law_577 ⟨hcs.1, hcs.2⟩) ?_
    refine lv_iload hx hb d_L_law_580 (lv_at hl 1 rfl) ?_
    refine lv_icmp_eq (tgt := 587) hx hb d_L_law_582 (by decide) (fun _ => ?_) (fun q => absurd hthr q)
    refine lv_iload hx hb d_L_law_587 (lv_at hl 1 rfl) ?_
    refine lv_if_ne (tgt := 604) hx hb d_L_law_589 (by decide) (fun q => absurd rfl q) (fun _ => ?_)
    refine lv_aload_n hx hb d_L_law_592 rfl (lv_at hl 3 rfl) ?_
    refine lv_iconst (v := 0) hx hb d_L_law_593 (by decide) ?_
    refine l_lald (v := ((kd_tickp n (k_f σ 11 x) 16).1).toInt64) hx hb hK hPo pk_uLs d_L_law_594 ?_
    refine lv_iload hx hb d_L_law_595 (lv_at hl 0 rfl) ?_
    refine lv_i2l hx hb d_L_law_597 rfl ?_
    refine W.lcmp hx hb d_L_law_598 ?_
    refine lv_if_eq (tgt := 604) hx hb d_L_law_599 (by decide) (fun _ => ?_) (fun q => absurd (by rw [hres]; exact lg_self _) q)
    refine lv_goto (tgt := 713) hx hb d_L_law_604 (by decide) ?_
    exact back _ _ _ _ _ _ _ _ ls ⟨hIV2, hPk, hPm, hPo, hDk, hDm, hak, ham, hω, hS⟩ (lv_sub hl [2, 3, 4, 5, 6] rfl)
  · have hthr : (m_f τ 0 1).1 0 = 1 := rfl
    have hIV2 := hIV.f0 1
    have hm2 := hIV2.mok
    refine lv_aload_n hx hb d_L_law_551 rfl (lv_at hl 3 rfl) ?_
    refine lv_aload_n hx hb d_L_law_552 rfl (lv_at hl 4 rfl) ?_
    refine lv_iload hx hb d_L_law_553 (lv_at hl 0 rfl) ?_
    refine lv_iconst (v := 1) hx hb d_L_law_555 (by decide) ?_
    refine lv_iadd hx hb d_L_law_556 ?_
    refine l_ld (v := x) (j := i + 1) hx hb hX hbl hS (nI_add i 1) (by omega) hL ex d_L_law_557 ?_
    refine lv_aload_n hx hb d_L_law_558 rfl (lv_at hl 1 rfl) ?_
    refine l_help (vx_runSX (hh := h_L_tick) (As := [.ref (α 0), .int x, .ref ω]) (rest := []) ⟨hx, hb, hml, hown, hts⟩ (hp_tickA l hlT D cI cQ cL α ad an n σ hI ω H.size f x hT) (vx_cwSW 3 hts gh_tick rfl rfl rfl (by decide +kernel) ⟨Nat.le_of_ble_eq_true rfl, Nat.le_of_ble_eq_true rfl⟩) (l_preS hK hPk hPo hDk hne hZ hS hSt) rfl rfl hl.1 rfl (lv_room (Nat.le_of_ble_eq_true rfl)) d_L_law_559 ⟨hcs.1, hcs.2⟩) hS hak ham hω hPm (fun H locs hPk hPo hPm hS => ?_)
    refine lv_istore (lv' := [(5, .int 1), (4, .int (nI i)), (3, .ref ω), (2, .ref (β 0)), (1, .ref (α 0)), (0, .ref b)]) hx hb d_L_law_562 hl (by decide) rfl (fun ls hl => ?_)
    refine lv_aload_n hx hb d_L_law_564 rfl (lv_at hl 3 rfl) ?_
    refine lv_aload_n hx hb d_L_law_565 rfl (lv_at hl 5 rfl) ?_
    refine lv_iload hx hb d_L_law_566 (lv_at hl 1 rfl) ?_
    refine lv_iconst (v := 1) hx hb d_L_law_568 (by decide) ?_
    refine lv_iadd hx hb d_L_law_569 ?_
    refine l_ld (v := x) (j := i + 1) hx hb hX hbl hS (nI_add i 1) (by omega) hL ex d_L_law_570 ?_
    refine l_m (va_runV (As := [.int x]) (rest := []) ⟨hx, hb, hml, hown, hts⟩ (ct_M_tickN l D cI cQ β n τ hIm x (st_tickA hIV hT)) (cwV 1 hts gd_L_88 rfl rfl rfl (by decide +kernel) ⟨Nat.le_of_ble_eq_true rfl, Nat.le_of_ble_eq_true rfl⟩) (g_preV hK2 hPm hDm (ci := 2) (q0 := 0) rfl mw_0) rfl rfl hl.1 rfl (lv_room (Nat.le_of_ble_eq_true rfl)) d_L_law_571 ⟨hcs.1, hcs.2⟩) hS hak ham hPk hPo (fun H locs hPm hPk hPo hS => ?_)
    have hDm := vd_addr (w' := mw_w cI β (m_f τ 0 1)) (mw_addr.trans mw_addr.symm) hDm
    refine lv_istore (lv' := [(6, .int 0), (5, .int 1), (4, .int (nI i)), (3, .ref ω), (2, .ref (β 0)), (1, .ref (α 0)), (0, .ref b)]) hx hb d_L_law_574 hl (by decide) rfl (fun ls hl => ?_)
    refine lv_aload_n hx hb d_L_law_576 rfl (lv_at hl 4 rfl) ?_
    refine r_calli (W.runV (As := []) (rest := []) ⟨hx, hb, hml, hown, hts⟩ (ct_M_thrown l D cI cQ β n (m_f τ 0 1) hm2) (cwV 0 hts gd_L_52 rfl rfl rfl (by decide +kernel) ⟨Nat.le_of_ble_eq_true rfl, Nat.le_of_ble_eq_true rfl⟩) (g_preV hK2 hPm hDm (ci := 2) (q0 := 0) rfl mw_0) rfl rfl hl.1 rfl (lv_room (Nat.le_of_ble_eq_true rfl)) d_L_law_577 ⟨hcs.1, hcs.2⟩) ?_
    refine lv_iload hx hb d_L_law_580 (lv_at hl 1 rfl) ?_
    refine lv_icmp_eq (tgt := 587) hx hb d_L_law_582 (by decide) (fun _ => ?_) (fun q => absurd hthr q)
    refine lv_iload hx hb d_L_law_587 (lv_at hl 1 rfl) ?_
    refine lv_if_ne (tgt := 604) hx hb d_L_law_589 (by decide) (fun _ => ?_) (fun q => absurd q (by decide))
    refine lv_goto (tgt := 713) hx hb d_L_law_604 (by decide) ?_
    exact back _ _ _ _ _ _ _ _ ls ⟨hIV2, hPk, hPm, hPo, hDk, hDm, hak, ham, hω, hS⟩ (lv_sub hl [2, 3, 4, 5, 6] rfl)
set_option maxHeartbeats 4000000 in
set_option maxRecDepth 100000 in
theorem lc_close {p : Program} {l : Launch} {e : Env} {s : State} {m : MethodId} {below : List Frame} {meth : Method} {c : Code} {Q : State → Prop} {b L : Nat} {xs : Nat → Int32} {D : va_G} {cI cQ cL : ClassId} (C : lw_C p s m c b L xs D cI cQ cL) (hlT : l.stackTraces = false) (hL : L ≤ 2048) {α β : Nat → Nat} {ω n : Nat} {σ : kS} {τ : mS} {ad an : Nat → Nat} {f : Nat → Int64} {H : Heap} {locs : List Loc} {ls : Array Slot} {i cells slots : Nat} (hi : i + 3 < L) (hcs : cells + 2 ≤ 601024 ∧ slots + 22 ≤ 7293034) (hw : lw_W D cI cQ cL s α β ω n σ τ ad an f H locs) (hl : lv_has ls 7 [(4, .int (nI i)), (3, .ref ω), (2, .ref (β 0)), (1, .ref (α 0)), (0, .ref b)])
    (back : ∀ (n' : Nat) (σ' : kS) (τ' : mS) (ad' an' : Nat → Nat) (f' : Nat → Int64) (H' : Heap) (locs' : List Loc) (ls' : Array Slot), lw_W D cI cQ cL s α β ω n' σ' τ' ad' an' f' H' locs' → lv_has ls' 7 [(4, .int (nI i)), (3, .ref ω), (2, .ref (β 0)), (1, .ref (α 0)), (0, .ref b)] → W p l e room_1 s m #[Value.ref b] below meth c H' locs' (cells + 2) (slots + 22) Q (F0 m 713 ls' [])) : W p l e room_1 s m #[Value.ref b] below meth c H locs cells slots Q (F0 m 607 ls []) := by
  obtain ⟨hx, hb, hml, hown, hts, hX, hbl, hK, hZ, hSt⟩ := C
  obtain ⟨hIV, hPk, hPm, hPo, hDk, hDm, hak, ham, hω, hS⟩ := hw
  have hK2 : va_K D kcl (kty cI cQ) s := hK.sub (tys' := kty cI cQ) [0, 1] rfl
  have hI := hIV.1
  have hIm := hIV.mok
  have hn8 := hI.1
  have hne : ∀ q ∈ kw_w cI cQ α ad an n σ, q.1 ≠ ω := fun q hq => (hak _ (kw_in hq)).2.2
  obtain ⟨hres, hIV2⟩ := st_close hIV
  have hres := hres.symm
  refine lv_aload_n hx hb d_L_law_607 rfl (lv_at hl 3 rfl) ?_
  refine l_k (va_runV (As := []) (rest := []) ⟨hx, hb, hml, hown, hts⟩ (ct_K_close l D cI cQ α ad an n σ hI) (cwV 0 hts gd_L_89 rfl rfl rfl (by decide +kernel) ⟨Nat.le_of_ble_eq_true rfl, Nat.le_of_ble_eq_true rfl⟩) (g_preV hK2 hPk hDk (ci := 0) (q0 := 0) rfl kw_0) rfl rfl hl.1 rfl (lv_room (Nat.le_of_ble_eq_true rfl)) d_L_law_608 ⟨by have := hcs.1; show cells + 0 ≤ 601024; omega, by have := hcs.2; show slots + 0 ≤ 7293034; omega⟩) hS hak hPm hPo (fun H locs hPk hPm hPo hS => ?_)
  have hDk := vd_addr (kw_addr ((kp_close n σ).2)) hDk
  refine lv_aload_n hx hb d_L_law_611 rfl (lv_at hl 2 rfl) ?_
  refine l_m (va_runV (As := []) (rest := [.int ((kp_close n σ).1)]) ⟨hx, hb, hml, hown, hts⟩ (ct_M_close l D cI cQ β n τ hIm) (cwV 0 hts gd_L_92 rfl rfl rfl (by decide +kernel) ⟨Nat.le_of_ble_eq_true rfl, Nat.le_of_ble_eq_true rfl⟩) (g_preV hK2 hPm hDm (ci := 2) (q0 := 0) rfl mw_0) rfl rfl hl.1 rfl (lv_room (Nat.le_of_ble_eq_true rfl)) d_L_law_612 ⟨by have := hcs.1; show cells + 0 ≤ 601024; omega, by have := hcs.2; show slots + 0 ≤ 7293034; omega⟩) hS hak ham hPk hPo (fun H locs hPm hPk hPo hS => ?_)
  have hDm := vd_addr (w' := mw_w cI β ((mo_close n τ).2)) (mw_addr.trans mw_addr.symm) hDm
  refine lv_icmp_eq (tgt := 713) hx hb d_L_law_615 (by decide) (fun _ => ?_) (fun q => absurd hres q)
  refine W.widen (k := cells + 2) (n := slots + 22) (by omega) (by omega) ?_
  exact back _ _ _ _ _ _ _ _ ls ⟨hIV2, hPk, hPm, hPo, hDk, hDm, hak, ham, hω, hS⟩ (lv_sub hl [0, 1, 2, 3, 4] rfl)
set_option maxHeartbeats 4000000 in
set_option maxRecDepth 100000 in
theorem lc_look {p : Program} {l : Launch} {e : Env} {s : State} {m : MethodId} {below : List Frame} {meth : Method} {c : Code} {Q : State → Prop} {b L : Nat} {xs : Nat → Int32} {D : va_G} {cI cQ cL : ClassId} (C : lw_C p s m c b L xs D cI cQ cL) (hlT : l.stackTraces = false) (hL : L ≤ 2048) {α β : Nat → Nat} {ω n : Nat} {σ : kS} {τ : mS} {ad an : Nat → Nat} {f : Nat → Int64} {H : Heap} {locs : List Loc} {ls : Array Slot} {i cells slots : Nat} (hi : i + 3 < L) (hcs : cells + 2 ≤ 601024 ∧ slots + 22 ≤ 7293034) (hw : lw_W D cI cQ cL s α β ω n σ τ ad an f H locs) (hl : lv_has ls 7 [(4, .int (nI i)), (3, .ref ω), (2, .ref (β 0)), (1, .ref (α 0)), (0, .ref b)])
    (back : ∀ (n' : Nat) (σ' : kS) (τ' : mS) (ad' an' : Nat → Nat) (f' : Nat → Int64) (H' : Heap) (locs' : List Loc) (ls' : Array Slot), lw_W D cI cQ cL s α β ω n' σ' τ' ad' an' f' H' locs' → lv_has ls' 7 [(4, .int (nI i)), (3, .ref ω), (2, .ref (β 0)), (1, .ref (α 0)), (0, .ref b)] → W p l e room_1 s m #[Value.ref b] below meth c H' locs' (cells + 2) (slots + 22) Q (F0 m 713 ls' [])) : W p l e room_1 s m #[Value.ref b] below meth c H locs cells slots Q (F0 m 620 ls []) := by
  obtain ⟨hx, hb, hml, hown, hts, hX, hbl, hK, hZ, hSt⟩ := C
  obtain ⟨hIV, hPk, hPm, hPo, hDk, hDm, hak, ham, hω, hS⟩ := hw
  have hK2 : va_K D kcl (kty cI cQ) s := hK.sub (tys' := kty cI cQ) [0, 1] rfl
  have hI := hIV.1
  have hIm := hIV.mok
  have hn8 := hI.1
  have hne : ∀ q ∈ kw_w cI cQ α ad an n σ, q.1 ≠ ω := fun q hq => (hak _ (kw_in hq)).2.2
  obtain ⟨x, ex⟩ : ∃ z, xs (i + 1) = z := ⟨_, rfl⟩
  obtain ⟨y, ey⟩ : ∃ z, xs (i + 2) = z := ⟨_, rfl⟩
  rcases hq : kd_at n x with _ | d
  · have hthr : (m_f τ 0 1).1 0 = 1 := rfl
    have hIV2 := hIV.f0 1
    have hm2 := hIV2.mok
    refine lv_aload_n hx hb d_L_law_620 rfl (lv_at hl 3 rfl) ?_
    refine lv_aload_n hx hb d_L_law_621 rfl (lv_at hl 4 rfl) ?_
    refine lv_iload hx hb d_L_law_622 (lv_at hl 0 rfl) ?_
    refine lv_iconst (v := 1) hx hb d_L_law_624 (by decide) ?_
    refine lv_iadd hx hb d_L_law_625 ?_
    refine l_ld (v := x) (j := i + 1) hx hb hX hbl hS (nI_add i 1) (by omega) hL ex d_L_law_626 ?_
    refine lv_aload_n hx hb d_L_law_627 rfl (lv_at hl 4 rfl) ?_
    refine lv_iload hx hb d_L_law_628 (lv_at hl 0 rfl) ?_
    refine lv_iconst (v := 2) hx hb d_L_law_630 (by decide) ?_
    refine lv_iadd hx hb d_L_law_631 ?_
    refine l_ld (v := y) (j := i + 2) hx hb hX hbl hS (nI_add i 2) (by omega) hL ey d_L_law_632 ?_
    refine lv_aload_n hx hb d_L_law_633 rfl (lv_at hl 1 rfl) ?_
    refine l_help (vx_runSX (hh := h_L_look) (As := [.ref (α 0), .int x, .int y, .ref ω]) (rest := []) ⟨hx, hb, hml, hown, hts⟩ (hp_lookX l hlT D cI cQ cL α ad an n σ hI ω H.size f x y hq) (vx_cwSW 4 hts gh_look rfl rfl rfl (by decide +kernel) ⟨Nat.le_of_ble_eq_true rfl, Nat.le_of_ble_eq_true rfl⟩) (l_preS hK hPk hPo hDk hne hZ hS hSt) rfl rfl hl.1 rfl (lv_room (Nat.le_of_ble_eq_true rfl)) d_L_law_634 ⟨hcs.1, hcs.2⟩) hS hak ham hω hPm (fun H locs hPk hPo hPm hS => ?_)
    refine lv_istore (lv' := [(5, .int 1), (4, .int (nI i)), (3, .ref ω), (2, .ref (β 0)), (1, .ref (α 0)), (0, .ref b)]) hx hb d_L_law_637 hl (by decide) rfl (fun ls hl => ?_)
    refine lv_aload_n hx hb d_L_law_639 rfl (lv_at hl 3 rfl) ?_
    refine lv_aload_n hx hb d_L_law_640 rfl (lv_at hl 5 rfl) ?_
    refine lv_iload hx hb d_L_law_641 (lv_at hl 1 rfl) ?_
    refine lv_iconst (v := 1) hx hb d_L_law_643 (by decide) ?_
    refine lv_iadd hx hb d_L_law_644 ?_
    refine l_ld (v := x) (j := i + 1) hx hb hX hbl hS (nI_add i 1) (by omega) hL ex d_L_law_645 ?_
    refine lv_aload_n hx hb d_L_law_646 rfl (lv_at hl 5 rfl) ?_
    refine lv_iload hx hb d_L_law_647 (lv_at hl 1 rfl) ?_
    refine lv_iconst (v := 2) hx hb d_L_law_649 (by decide) ?_
    refine lv_iadd hx hb d_L_law_650 ?_
    refine l_ld (v := y) (j := i + 2) hx hb hX hbl hS (nI_add i 2) (by omega) hL ey d_L_law_651 ?_
    refine l_m (va_runV (As := [.int x, .int y]) (rest := []) ⟨hx, hb, hml, hown, hts⟩ (ct_M_lookN l D cI cQ β n τ hIm x y (Or.inl (st_deadN hIV hq))) (cwV 2 hts gd_L_95 rfl rfl rfl (by decide +kernel) ⟨Nat.le_of_ble_eq_true rfl, Nat.le_of_ble_eq_true rfl⟩) (g_preV hK2 hPm hDm (ci := 2) (q0 := 0) rfl mw_0) rfl rfl hl.1 rfl (lv_room (Nat.le_of_ble_eq_true rfl)) d_L_law_652 ⟨hcs.1, hcs.2⟩) hS hak ham hPk hPo (fun H locs hPm hPk hPo hS => ?_)
    have hDm := vd_addr (w' := mw_w cI β (m_f τ 0 1)) (mw_addr.trans mw_addr.symm) hDm
    refine lv_istore (lv' := [(6, .int 0), (5, .int 1), (4, .int (nI i)), (3, .ref ω), (2, .ref (β 0)), (1, .ref (α 0)), (0, .ref b)]) hx hb d_L_law_655 hl (by decide) rfl (fun ls hl => ?_)
    refine lv_aload_n hx hb d_L_law_657 rfl (lv_at hl 4 rfl) ?_
    refine r_calli (W.runV (As := []) (rest := []) ⟨hx, hb, hml, hown, hts⟩ (ct_M_thrown l D cI cQ β n (m_f τ 0 1) hm2) (cwV 0 hts gd_L_52 rfl rfl rfl (by decide +kernel) ⟨Nat.le_of_ble_eq_true rfl, Nat.le_of_ble_eq_true rfl⟩) (g_preV hK2 hPm hDm (ci := 2) (q0 := 0) rfl mw_0) rfl rfl hl.1 rfl (lv_room (Nat.le_of_ble_eq_true rfl)) d_L_law_658 ⟨hcs.1, hcs.2⟩) ?_
    refine lv_iload hx hb d_L_law_661 (lv_at hl 1 rfl) ?_
    refine lv_icmp_eq (tgt := 668) hx hb d_L_law_663 (by decide) (fun _ => ?_) (fun q => absurd hthr q)
    refine lv_iload hx hb d_L_law_668 (lv_at hl 1 rfl) ?_
    refine lv_if_ne (tgt := 685) hx hb d_L_law_670 (by decide) (fun _ => ?_) (fun q => absurd q (by decide))
    refine lv_goto (tgt := 713) hx hb d_L_law_685 (by decide) ?_
    exact back _ _ _ _ _ _ _ _ ls ⟨hIV2, hPk, hPm, hPo, hDk, hDm, hak, ham, hω, hS⟩ (lv_sub hl [2, 3, 4, 5, 6] rfl)
  · obtain ⟨hd, rfl⟩ := kat_some hn8 hq
    by_cases hy : y = 0 ∨ y = 1 ∨ y = 2 ∨ y = 3 ∨ y = 4
    · have hthr : (m_f τ 0 0).1 0 = 0 := rfl
      have hIV2 := hIV.f0 0
      have hm2 := hIV2.mok
      have hres := st_look hIV hd y
      refine lv_aload_n hx hb d_L_law_620 rfl (lv_at hl 3 rfl) ?_
      refine lv_aload_n hx hb d_L_law_621 rfl (lv_at hl 4 rfl) ?_
      refine lv_iload hx hb d_L_law_622 (lv_at hl 0 rfl) ?_
      refine lv_iconst (v := 1) hx hb d_L_law_624 (by decide) ?_
      refine lv_iadd hx hb d_L_law_625 ?_
      refine l_ld (v := nI d) (j := i + 1) hx hb hX hbl hS (nI_add i 1) (by omega) hL ex d_L_law_626 ?_
      refine lv_aload_n hx hb d_L_law_627 rfl (lv_at hl 4 rfl) ?_
      refine lv_iload hx hb d_L_law_628 (lv_at hl 0 rfl) ?_
      refine lv_iconst (v := 2) hx hb d_L_law_630 (by decide) ?_
      refine lv_iadd hx hb d_L_law_631 ?_
      refine l_ld (v := y) (j := i + 2) hx hb hX hbl hS (nI_add i 2) (by omega) hL ey d_L_law_632 ?_
      refine lv_aload_n hx hb d_L_law_633 rfl (lv_at hl 1 rfl) ?_
      refine l_help (vx_runSX (hh := h_L_look) (As := [.ref (α 0), .int (nI d), .int y, .ref ω]) (rest := []) ⟨hx, hb, hml, hown, hts⟩ (hp_look l hlT D cI cQ cL α ad an n σ hI ω H.size f d hd y hy) (vx_cwSW 4 hts gh_look rfl rfl rfl (by decide +kernel) ⟨Nat.le_of_ble_eq_true rfl, Nat.le_of_ble_eq_true rfl⟩) (l_preS hK hPk hPo hDk hne hZ hS hSt) rfl rfl hl.1 rfl (lv_room (Nat.le_of_ble_eq_true rfl)) d_L_law_634 ⟨hcs.1, hcs.2⟩) hS hak ham hω hPm (fun H locs hPk hPo hPm hS => ?_)
      refine lv_istore (lv' := [(5, .int 0), (4, .int (nI i)), (3, .ref ω), (2, .ref (β 0)), (1, .ref (α 0)), (0, .ref b)]) hx hb d_L_law_637 hl (by decide) rfl (fun ls hl => ?_)
      refine lv_aload_n hx hb d_L_law_639 rfl (lv_at hl 3 rfl) ?_
      refine lv_aload_n hx hb d_L_law_640 rfl (lv_at hl 5 rfl) ?_
      refine lv_iload hx hb d_L_law_641 (lv_at hl 1 rfl) ?_
      refine lv_iconst (v := 1) hx hb d_L_law_643 (by decide) ?_
      refine lv_iadd hx hb d_L_law_644 ?_
      refine l_ld (v := nI d) (j := i + 1) hx hb hX hbl hS (nI_add i 1) (by omega) hL ex d_L_law_645 ?_
      refine lv_aload_n hx hb d_L_law_646 rfl (lv_at hl 5 rfl) ?_
      refine lv_iload hx hb d_L_law_647 (lv_at hl 1 rfl) ?_
      refine lv_iconst (v := 2) hx hb d_L_law_649 (by decide) ?_
      refine lv_iadd hx hb d_L_law_650 ?_
      refine l_ld (v := y) (j := i + 2) hx hb hX hbl hS (nI_add i 2) (by omega) hL ey d_L_law_651 ?_
      refine l_m (va_runV (As := [.int (nI d), .int y]) (rest := []) ⟨hx, hb, hml, hown, hts⟩ (ct_M_look l D cI cQ β n τ hIm d hd y (lk_in hy)) (cwV 2 hts gd_L_95 rfl rfl rfl (by decide +kernel) ⟨Nat.le_of_ble_eq_true rfl, Nat.le_of_ble_eq_true rfl⟩) (g_preV hK2 hPm hDm (ci := 2) (q0 := 0) rfl mw_0) rfl rfl hl.1 rfl (lv_room (Nat.le_of_ble_eq_true rfl)) d_L_law_652 ⟨hcs.1, hcs.2⟩) hS hak ham hPk hPo (fun H locs hPm hPk hPo hS => ?_)
      have hDm := vd_addr (w' := mw_w cI β (m_f τ 0 0)) (mw_addr.trans mw_addr.symm) hDm
      refine lv_istore (lv' := [(6, .int (mo_look τ d y)), (5, .int 0), (4, .int (nI i)), (3, .ref ω), (2, .ref (β 0)), (1, .ref (α 0)), (0, .ref b)]) hx hb d_L_law_655 hl (by decide) rfl (fun ls hl => ?_)
      refine lv_aload_n hx hb d_L_law_657 rfl (lv_at hl 4 rfl) ?_
      refine r_calli (W.runV (As := []) (rest := []) ⟨hx, hb, hml, hown, hts⟩ (ct_M_thrown l D cI cQ β n (m_f τ 0 0) hm2) (cwV 0 hts gd_L_52 rfl rfl rfl (by decide +kernel) ⟨Nat.le_of_ble_eq_true rfl, Nat.le_of_ble_eq_true rfl⟩) (g_preV hK2 hPm hDm (ci := 2) (q0 := 0) rfl mw_0) rfl rfl hl.1 rfl (lv_room (Nat.le_of_ble_eq_true rfl)) d_L_law_658 ⟨hcs.1, hcs.2⟩) ?_
      refine lv_iload hx hb d_L_law_661 (lv_at hl 1 rfl) ?_
      refine lv_icmp_eq (tgt := 668) hx hb d_L_law_663 (by decide) (fun _ => ?_) (fun q => absurd hthr q)
      refine lv_iload hx hb d_L_law_668 (lv_at hl 1 rfl) ?_
      refine lv_if_ne (tgt := 685) hx hb d_L_law_670 (by decide) (fun q => absurd rfl q) (fun _ => ?_)
      refine lv_aload_n hx hb d_L_law_673 rfl (lv_at hl 3 rfl) ?_
      refine lv_iconst (v := 0) hx hb d_L_law_674 (by decide) ?_
      refine l_lald (v := (kp_look σ d y).toInt64) hx hb hK hPo pk_uLs d_L_law_675 ?_
      refine lv_iload hx hb d_L_law_676 (lv_at hl 0 rfl) ?_
      refine lv_i2l hx hb d_L_law_678 rfl ?_
      refine W.lcmp hx hb d_L_law_679 ?_
      refine lv_if_eq (tgt := 685) hx hb d_L_law_680 (by decide) (fun _ => ?_) (fun q => absurd (by rw [hres]; exact lg_self _) q)
      refine lv_goto (tgt := 713) hx hb d_L_law_685 (by decide) ?_
      exact back _ _ _ _ _ _ _ _ ls ⟨hIV2, hPk, hPm, hPo, hDk, hDm, hak, ham, hω, hS⟩ (lv_sub hl [2, 3, 4, 5, 6] rfl)
    · have hthr : (m_f τ 0 1).1 0 = 1 := rfl
      have hIV2 := hIV.f0 1
      have hm2 := hIV2.mok
      refine lv_aload_n hx hb d_L_law_620 rfl (lv_at hl 3 rfl) ?_
      refine lv_aload_n hx hb d_L_law_621 rfl (lv_at hl 4 rfl) ?_
      refine lv_iload hx hb d_L_law_622 (lv_at hl 0 rfl) ?_
      refine lv_iconst (v := 1) hx hb d_L_law_624 (by decide) ?_
      refine lv_iadd hx hb d_L_law_625 ?_
      refine l_ld (v := nI d) (j := i + 1) hx hb hX hbl hS (nI_add i 1) (by omega) hL ex d_L_law_626 ?_
      refine lv_aload_n hx hb d_L_law_627 rfl (lv_at hl 4 rfl) ?_
      refine lv_iload hx hb d_L_law_628 (lv_at hl 0 rfl) ?_
      refine lv_iconst (v := 2) hx hb d_L_law_630 (by decide) ?_
      refine lv_iadd hx hb d_L_law_631 ?_
      refine l_ld (v := y) (j := i + 2) hx hb hX hbl hS (nI_add i 2) (by omega) hL ey d_L_law_632 ?_
      refine lv_aload_n hx hb d_L_law_633 rfl (lv_at hl 1 rfl) ?_
      refine l_help (vx_runSX (hh := h_L_look) (As := [.ref (α 0), .int (nI d), .int y, .ref ω]) (rest := []) ⟨hx, hb, hml, hown, hts⟩ (hp_lookY l hlT D cI cQ cL α ad an n σ hI ω H.size f d hd y hy) (vx_cwSW 4 hts gh_look rfl rfl rfl (by decide +kernel) ⟨Nat.le_of_ble_eq_true rfl, Nat.le_of_ble_eq_true rfl⟩) (l_preS hK hPk hPo hDk hne hZ hS hSt) rfl rfl hl.1 rfl (lv_room (Nat.le_of_ble_eq_true rfl)) d_L_law_634 ⟨hcs.1, hcs.2⟩) hS hak ham hω hPm (fun H locs hPk hPo hPm hS => ?_)
      refine lv_istore (lv' := [(5, .int 1), (4, .int (nI i)), (3, .ref ω), (2, .ref (β 0)), (1, .ref (α 0)), (0, .ref b)]) hx hb d_L_law_637 hl (by decide) rfl (fun ls hl => ?_)
      refine lv_aload_n hx hb d_L_law_639 rfl (lv_at hl 3 rfl) ?_
      refine lv_aload_n hx hb d_L_law_640 rfl (lv_at hl 5 rfl) ?_
      refine lv_iload hx hb d_L_law_641 (lv_at hl 1 rfl) ?_
      refine lv_iconst (v := 1) hx hb d_L_law_643 (by decide) ?_
      refine lv_iadd hx hb d_L_law_644 ?_
      refine l_ld (v := nI d) (j := i + 1) hx hb hX hbl hS (nI_add i 1) (by omega) hL ex d_L_law_645 ?_
      refine lv_aload_n hx hb d_L_law_646 rfl (lv_at hl 5 rfl) ?_
      refine lv_iload hx hb d_L_law_647 (lv_at hl 1 rfl) ?_
      refine lv_iconst (v := 2) hx hb d_L_law_649 (by decide) ?_
      refine lv_iadd hx hb d_L_law_650 ?_
      refine l_ld (v := y) (j := i + 2) hx hb hX hbl hS (nI_add i 2) (by omega) hL ey d_L_law_651 ?_
      refine l_m (va_runV (As := [.int (nI d), .int y]) (rest := []) ⟨hx, hb, hml, hown, hts⟩ (ct_M_lookN l D cI cQ β n τ hIm (nI d) y (Or.inr (lk_out hy))) (cwV 2 hts gd_L_95 rfl rfl rfl (by decide +kernel) ⟨Nat.le_of_ble_eq_true rfl, Nat.le_of_ble_eq_true rfl⟩) (g_preV hK2 hPm hDm (ci := 2) (q0 := 0) rfl mw_0) rfl rfl hl.1 rfl (lv_room (Nat.le_of_ble_eq_true rfl)) d_L_law_652 ⟨hcs.1, hcs.2⟩) hS hak ham hPk hPo (fun H locs hPm hPk hPo hS => ?_)
      have hDm := vd_addr (w' := mw_w cI β (m_f τ 0 1)) (mw_addr.trans mw_addr.symm) hDm
      refine lv_istore (lv' := [(6, .int 0), (5, .int 1), (4, .int (nI i)), (3, .ref ω), (2, .ref (β 0)), (1, .ref (α 0)), (0, .ref b)]) hx hb d_L_law_655 hl (by decide) rfl (fun ls hl => ?_)
      refine lv_aload_n hx hb d_L_law_657 rfl (lv_at hl 4 rfl) ?_
      refine r_calli (W.runV (As := []) (rest := []) ⟨hx, hb, hml, hown, hts⟩ (ct_M_thrown l D cI cQ β n (m_f τ 0 1) hm2) (cwV 0 hts gd_L_52 rfl rfl rfl (by decide +kernel) ⟨Nat.le_of_ble_eq_true rfl, Nat.le_of_ble_eq_true rfl⟩) (g_preV hK2 hPm hDm (ci := 2) (q0 := 0) rfl mw_0) rfl rfl hl.1 rfl (lv_room (Nat.le_of_ble_eq_true rfl)) d_L_law_658 ⟨hcs.1, hcs.2⟩) ?_
      refine lv_iload hx hb d_L_law_661 (lv_at hl 1 rfl) ?_
      refine lv_icmp_eq (tgt := 668) hx hb d_L_law_663 (by decide) (fun _ => ?_) (fun q => absurd hthr q)
      refine lv_iload hx hb d_L_law_668 (lv_at hl 1 rfl) ?_
      refine lv_if_ne (tgt := 685) hx hb d_L_law_670 (by decide) (fun _ => ?_) (fun q => absurd q (by decide))
      refine lv_goto (tgt := 713) hx hb d_L_law_685 (by decide) ?_
      exact back _ _ _ _ _ _ _ _ ls ⟨hIV2, hPk, hPm, hPo, hDk, hDm, hak, ham, hω, hS⟩ (lv_sub hl [2, 3, 4, 5, 6] rfl)
set_option maxHeartbeats 4000000 in
set_option maxRecDepth 100000 in
theorem lc_count {p : Program} {l : Launch} {e : Env} {s : State} {m : MethodId} {below : List Frame} {meth : Method} {c : Code} {Q : State → Prop} {b L : Nat} {xs : Nat → Int32} {D : va_G} {cI cQ cL : ClassId} (C : lw_C p s m c b L xs D cI cQ cL) (hlT : l.stackTraces = false) (hL : L ≤ 2048) {α β : Nat → Nat} {ω n : Nat} {σ : kS} {τ : mS} {ad an : Nat → Nat} {f : Nat → Int64} {H : Heap} {locs : List Loc} {ls : Array Slot} {i cells slots : Nat} (hi : i + 3 < L) (hcs : cells + 2 ≤ 601024 ∧ slots + 22 ≤ 7293034) (hw : lw_W D cI cQ cL s α β ω n σ τ ad an f H locs) (hl : lv_has ls 7 [(4, .int (nI i)), (3, .ref ω), (2, .ref (β 0)), (1, .ref (α 0)), (0, .ref b)])
    (back : ∀ (n' : Nat) (σ' : kS) (τ' : mS) (ad' an' : Nat → Nat) (f' : Nat → Int64) (H' : Heap) (locs' : List Loc) (ls' : Array Slot), lw_W D cI cQ cL s α β ω n' σ' τ' ad' an' f' H' locs' → lv_has ls' 7 [(4, .int (nI i)), (3, .ref ω), (2, .ref (β 0)), (1, .ref (α 0)), (0, .ref b)] → W p l e room_1 s m #[Value.ref b] below meth c H' locs' (cells + 2) (slots + 22) Q (F0 m 713 ls' [])) : W p l e room_1 s m #[Value.ref b] below meth c H locs cells slots Q (F0 m 688 ls []) := by
  obtain ⟨hx, hb, hml, hown, hts, hX, hbl, hK, hZ, hSt⟩ := C
  obtain ⟨hIV, hPk, hPm, hPo, hDk, hDm, hak, ham, hω, hS⟩ := hw
  have hK2 : va_K D kcl (kty cI cQ) s := hK.sub (tys' := kty cI cQ) [0, 1] rfl
  have hI := hIV.1
  have hIm := hIV.mok
  have hn8 := hI.1
  have hne : ∀ q ∈ kw_w cI cQ α ad an n σ, q.1 ≠ ω := fun q hq => (hak _ (kw_in hq)).2.2
  have hres := (st_count hIV (xs (i + 1))).symm
  have hIV2 := hIV.f0 0
  refine lv_aload_n hx hb d_L_law_688 rfl (lv_at hl 3 rfl) ?_
  refine lv_aload_n hx hb d_L_law_689 rfl (lv_at hl 4 rfl) ?_
  refine lv_iload hx hb d_L_law_690 (lv_at hl 0 rfl) ?_
  refine lv_iconst (v := 1) hx hb d_L_law_692 (by decide) ?_
  refine lv_iadd hx hb d_L_law_693 ?_
  refine l_ld (v := xs (i + 1)) (j := i + 1) hx hb hX hbl hS (nI_add i 1) (by omega) hL rfl d_L_law_694 ?_
  refine r_calli (W.runV (As := [.int (xs (i + 1))]) (rest := []) ⟨hx, hb, hml, hown, hts⟩ (ct_K_count l D cI cQ α ad an n σ hI (xs (i + 1))) (cwV 1 hts gd_L_96 rfl rfl rfl (by decide +kernel) ⟨Nat.le_of_ble_eq_true rfl, Nat.le_of_ble_eq_true rfl⟩) (g_preV hK2 hPk hDk (ci := 0) (q0 := 0) rfl kw_0) rfl rfl hl.1 rfl (lv_room (Nat.le_of_ble_eq_true rfl)) d_L_law_695 ⟨by have := hcs.1; show cells + 0 ≤ 601024; omega, by have := hcs.2; show slots + 0 ≤ 7293034; omega⟩) ?_
  refine lv_aload_n hx hb d_L_law_698 rfl (lv_at hl 2 rfl) ?_
  refine lv_aload_n hx hb d_L_law_699 rfl (lv_at hl 4 rfl) ?_
  refine lv_iload hx hb d_L_law_700 (lv_at hl 0 rfl) ?_
  refine lv_iconst (v := 1) hx hb d_L_law_702 (by decide) ?_
  refine lv_iadd hx hb d_L_law_703 ?_
  refine l_ld (v := xs (i + 1)) (j := i + 1) hx hb hX hbl hS (nI_add i 1) (by omega) hL rfl d_L_law_704 ?_
  refine l_m (va_runV (As := [.int (xs (i + 1))]) (rest := [.int (kp_count σ (xs (i + 1)))]) ⟨hx, hb, hml, hown, hts⟩ (ct_M_count l D cI cQ β n τ hIm (xs (i + 1))) (cwV 1 hts gd_L_99 rfl rfl rfl (by decide +kernel) ⟨Nat.le_of_ble_eq_true rfl, Nat.le_of_ble_eq_true rfl⟩) (g_preV hK2 hPm hDm (ci := 2) (q0 := 0) rfl mw_0) rfl rfl hl.1 rfl (lv_room (Nat.le_of_ble_eq_true rfl)) d_L_law_705 ⟨by have := hcs.1; show cells + 0 ≤ 601024; omega, by have := hcs.2; show slots + 0 ≤ 7293034; omega⟩) hS hak ham hPk hPo (fun H locs hPm hPk hPo hS => ?_)
  have hDm := vd_addr (w' := mw_w cI β (m_f τ 0 0)) (mw_addr.trans mw_addr.symm) hDm
  refine lv_icmp_eq (tgt := 713) hx hb d_L_law_708 (by decide) (fun _ => ?_) (fun q => absurd hres q)
  refine W.widen (k := cells + 2) (n := slots + 22) (by omega) (by omega) ?_
  exact back _ _ _ _ _ _ _ _ ls ⟨hIV2, hPk, hPm, hPo, hDk, hDm, hak, ham, hω, hS⟩ (lv_sub hl [0, 1, 2, 3, 4] rfl)
