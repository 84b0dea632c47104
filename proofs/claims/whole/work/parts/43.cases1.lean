theorem lk_in {y : Int32} (h : y = 0 ∨ y = 1 ∨ y = 2 ∨ y = 3 ∨ y = 4) : ¬ mo_in y 0 4 = 0 := by
  rcases h with rfl | rfl | rfl | rfl | rfl <;> decide
theorem lk_out {y : Int32} (h : ¬ (y = 0 ∨ y = 1 ∨ y = 2 ∨ y = 3 ∨ y = 4)) : mo_in y 0 4 = 0 := by
  rw [in_0]
  by_cases h0 : y < 0
  · exact Or.inl h0
  · refine Or.inr ?_
    obtain ⟨j, hj, rfl⟩ := nI_of h0
    refine nI_lt (a := 4) ?_ hj
    rcases Nat.lt_or_ge 4 j with q | q
    · exact q
    · exfalso
      apply h
      rcases (show j = 0 ∨ j = 1 ∨ j = 2 ∨ j = 3 ∨ j = 4 by omega) with rfl | rfl | rfl | rfl | rfl
      · exact Or.inl rfl
      · exact Or.inr (Or.inl rfl)
      · exact Or.inr (Or.inr (Or.inl rfl))
      · exact Or.inr (Or.inr (Or.inr (Or.inl rfl)))
      · exact Or.inr (Or.inr (Or.inr (Or.inr rfl)))
set_option maxHeartbeats 4000000 in
set_option maxRecDepth 100000 in
theorem lc_desk {p : Program} {l : Launch} {e : Env} {s : State} {m : MethodId} {below : List Frame} {meth : Method} {c : Code} {Q : State → Prop} {b L : Nat} {xs : Nat → Int32} {D : va_G} {cI cQ cL : ClassId} (C : lw_C p s m c b L xs D cI cQ cL) (hlT : l.stackTraces = false) (hL : L ≤ 2048) {α β : Nat → Nat} {ω n : Nat} {σ : kS} {τ : mS} {ad an : Nat → Nat} {f : Nat → Int64} {H : Heap} {locs : List Loc} {ls : Array Slot} {i cells slots : Nat} (hi : i + 3 < L) (hcs : cells + 2 ≤ 601024 ∧ slots + 22 ≤ 7293034) (hw : lw_W D cI cQ cL s α β ω n σ τ ad an f H locs) (hl : lv_has ls 7 [(4, .int (nI i)), (3, .ref ω), (2, .ref (β 0)), (1, .ref (α 0)), (0, .ref b)])
    (back : ∀ (n' : Nat) (σ' : kS) (τ' : mS) (ad' an' : Nat → Nat) (f' : Nat → Int64) (H' : Heap) (locs' : List Loc) (ls' : Array Slot), lw_W D cI cQ cL s α β ω n' σ' τ' ad' an' f' H' locs' → lv_has ls' 7 [(4, .int (nI i)), (3, .ref ω), (2, .ref (β 0)), (1, .ref (α 0)), (0, .ref b)] → W p l e room_1 s m #[Value.ref b] below meth c H' locs' (cells + 2) (slots + 22) Q (F0 m 713 ls' [])) : W p l e room_1 s m #[Value.ref b] below meth c H locs cells slots Q (F0 m 104 ls []) := by
  obtain ⟨hx, hb, hml, hown, hts, hX, hbl, hK, hZ, hSt⟩ := C
  obtain ⟨hIV, hPk, hPm, hPo, hDk, hDm, hak, ham, hω, hS⟩ := hw
  have hK2 : va_K D kcl (kty cI cQ) s := hK.sub (tys' := kty cI cQ) [0, 1] rfl
  have hI := hIV.1
  have hIm := hIV.mok
  have hn8 := hI.1
  have hne : ∀ q ∈ kw_w cI cQ α ad an n σ, q.1 ≠ ω := fun q hq => (hak _ (kw_in hq)).2.2
  obtain ⟨x, ex⟩ : ∃ z, xs (i + 1) = z := ⟨_, rfl⟩
  obtain ⟨y, ey⟩ : ∃ z, xs (i + 2) = z := ⟨_, rfl⟩
  by_cases hT : ¬ x < 1 ∧ x ≤ 12 ∧ ¬ y < -1 ∧ y < x
  · obtain ⟨h1, h2, h3, h4⟩ := hT
    by_cases hc : σ.1 12 = 0 ∧ σ.1 1 < 8
    · obtain ⟨hres, hthr, hIV2⟩ := st_desk hIV h1 h2 h3 h4 hc.1 hc.2
      have hm2 := hIV2.mok
      refine lv_aload_n hx hb d_L_law_104 rfl (lv_at hl 3 rfl) ?_
      refine lv_aload_n hx hb d_L_law_105 rfl (lv_at hl 4 rfl) ?_
      refine lv_iload hx hb d_L_law_106 (lv_at hl 0 rfl) ?_
      refine lv_iconst (v := 1) hx hb d_L_law_108 (by decide) ?_
      refine lv_iadd hx hb d_L_law_109 ?_
      refine l_ld (v := x) (j := i + 1) hx hb hX hbl hS (nI_add i 1) (by omega) hL ex d_L_law_110 ?_
      refine lv_aload_n hx hb d_L_law_111 rfl (lv_at hl 4 rfl) ?_
      refine lv_iload hx hb d_L_law_112 (lv_at hl 0 rfl) ?_
      refine lv_iconst (v := 2) hx hb d_L_law_114 (by decide) ?_
      refine lv_iadd hx hb d_L_law_115 ?_
      refine l_ld (v := y) (j := i + 2) hx hb hX hbl hS (nI_add i 2) (by omega) hL ey d_L_law_116 ?_
      refine lv_aload_n hx hb d_L_law_117 rfl (lv_at hl 1 rfl) ?_
      refine l_helpD (vx_runSX (hh := h_L_desk) (As := [.ref (α 0), .int x, .int y, .ref ω]) (rest := []) ⟨hx, hb, hml, hown, hts⟩ (hp_desk l hlT D cI cQ cL α ad an n σ hI ω H.size f x y h1 h2 h3 h4 hc.1 hc.2) (vx_cwSW 4 hts gh_desk rfl rfl rfl (by decide +kernel) ⟨Nat.le_of_ble_eq_true rfl, Nat.le_of_ble_eq_true rfl⟩) (l_preS hK hPk hPo hDk hne hZ hS hSt) rfl rfl hl.1 rfl (lv_room (Nat.le_of_ble_eq_true rfl)) d_L_law_118 ⟨hcs.1, hcs.2⟩) hS hak ham hω hPm hPo (fun q1 q2 H locs hak hDk hPk hPo hPm hS => ?_)
      refine lv_istore (lv' := [(5, .int 0), (4, .int (nI i)), (3, .ref ω), (2, .ref (β 0)), (1, .ref (α 0)), (0, .ref b)]) hx hb d_L_law_121 hl (by decide) rfl (fun ls hl => ?_)
      refine lv_aload_n hx hb d_L_law_123 rfl (lv_at hl 3 rfl) ?_
      refine lv_aload_n hx hb d_L_law_124 rfl (lv_at hl 5 rfl) ?_
      refine lv_iload hx hb d_L_law_125 (lv_at hl 1 rfl) ?_
      refine lv_iconst (v := 1) hx hb d_L_law_127 (by decide) ?_
      refine lv_iadd hx hb d_L_law_128 ?_
      refine l_ld (v := x) (j := i + 1) hx hb hX hbl hS (nI_add i 1) (by omega) hL ex d_L_law_129 ?_
      refine lv_aload_n hx hb d_L_law_130 rfl (lv_at hl 5 rfl) ?_
      refine lv_iload hx hb d_L_law_131 (lv_at hl 1 rfl) ?_
      refine lv_iconst (v := 2) hx hb d_L_law_133 (by decide) ?_
      refine lv_iadd hx hb d_L_law_134 ?_
      refine l_ld (v := y) (j := i + 2) hx hb hX hbl hS (nI_add i 2) (by omega) hL ey d_L_law_135 ?_
      refine l_m (va_runV (As := [.int x, .int y]) (rest := []) ⟨hx, hb, hml, hown, hts⟩ (ct_M_desk l D cI cQ β n τ hIm x y) (cwV 2 hts gd_L_51 rfl rfl rfl (by decide +kernel) ⟨Nat.le_of_ble_eq_true rfl, Nat.le_of_ble_eq_true rfl⟩) (g_preV hK2 hPm hDm (ci := 2) (q0 := 0) rfl mw_0) rfl rfl hl.1 rfl (lv_room (Nat.le_of_ble_eq_true rfl)) d_L_law_136 ⟨hcs.1, hcs.2⟩) hS hak ham hPk hPo (fun H locs hPm hPk hPo hS => ?_)
      have hDm := vd_addr (w' := mw_w cI β ((mo_desk n τ x y).2)) (mw_addr.trans mw_addr.symm) hDm
      refine lv_istore (lv' := [(6, .int ((mo_desk n τ x y).1)), (5, .int 0), (4, .int (nI i)), (3, .ref ω), (2, .ref (β 0)), (1, .ref (α 0)), (0, .ref b)]) hx hb d_L_law_139 hl (by decide) rfl (fun ls hl => ?_)
      refine lv_aload_n hx hb d_L_law_141 rfl (lv_at hl 4 rfl) ?_
      refine r_calli (W.runV (As := []) (rest := []) ⟨hx, hb, hml, hown, hts⟩ (ct_M_thrown l D cI cQ β (n + 1) ((mo_desk n τ x y).2) hm2) (cwV 0 hts gd_L_52 rfl rfl rfl (by decide +kernel) ⟨Nat.le_of_ble_eq_true rfl, Nat.le_of_ble_eq_true rfl⟩) (g_preV hK2 hPm hDm (ci := 2) (q0 := 0) rfl mw_0) rfl rfl hl.1 rfl (lv_room (Nat.le_of_ble_eq_true rfl)) d_L_law_142 ⟨hcs.1, hcs.2⟩) ?_
      refine lv_iload hx hb d_L_law_145 (lv_at hl 1 rfl) ?_
      refine lv_icmp_eq (tgt := 152) hx hb d_L_law_147 (by decide) (fun _ => ?_) (fun q => absurd hthr q)
      refine lv_iload hx hb d_L_law_152 (lv_at hl 1 rfl) ?_
      refine lv_if_ne (tgt := 169) hx hb d_L_law_154 (by decide) (fun q => absurd rfl q) (fun _ => ?_)
      refine lv_aload_n hx hb d_L_law_157 rfl (lv_at hl 3 rfl) ?_
      refine lv_iconst (v := 0) hx hb d_L_law_158 (by decide) ?_
      refine l_lald (v := (nI n).toInt64) hx hb hK hPo pk_uLs d_L_law_159 ?_
      refine lv_iload hx hb d_L_law_160 (lv_at hl 0 rfl) ?_
      refine lv_i2l hx hb d_L_law_162 rfl ?_
      refine W.lcmp hx hb d_L_law_163 ?_
      refine lv_if_eq (tgt := 169) hx hb d_L_law_164 (by decide) (fun _ => ?_) (fun q => absurd (by rw [hres]; exact lg_self _) q)
      refine lv_goto (tgt := 713) hx hb d_L_law_169 (by decide) ?_
      exact back _ _ _ _ _ _ _ _ ls ⟨hIV2, hPk, hPm, hPo, hDk, hDm, hak, ham, hω, hS⟩ (lv_sub hl [2, 3, 4, 5, 6] rfl)
    · have hS2 := st_deskS hIV h1 h2 h3 h4 (Classical.not_and_iff_not_or_not.mp hc)
      have hthr : (mo_desk n τ x y).2.1 0 = 2 := by rw [hS2]; rfl
      have hIV2 : IV n σ (mo_desk n τ x y).2 := by rw [hS2]; exact hIV.f0 2
      have hm2 := hIV2.mok
      refine lv_aload_n hx hb d_L_law_104 rfl (lv_at hl 3 rfl) ?_
      refine lv_aload_n hx hb d_L_law_105 rfl (lv_at hl 4 rfl) ?_
      refine lv_iload hx hb d_L_law_106 (lv_at hl 0 rfl) ?_
      refine lv_iconst (v := 1) hx hb d_L_law_108 (by decide) ?_
      refine lv_iadd hx hb d_L_law_109 ?_
      refine l_ld (v := x) (j := i + 1) hx hb hX hbl hS (nI_add i 1) (by omega) hL ex d_L_law_110 ?_
      refine lv_aload_n hx hb d_L_law_111 rfl (lv_at hl 4 rfl) ?_
      refine lv_iload hx hb d_L_law_112 (lv_at hl 0 rfl) ?_
      refine lv_iconst (v := 2) hx hb d_L_law_114 (by decide) ?_
      refine lv_iadd hx hb d_L_law_115 ?_
      refine l_ld (v := y) (j := i + 2) hx hb hX hbl hS (nI_add i 2) (by omega) hL ey d_L_law_116 ?_
      refine lv_aload_n hx hb d_L_law_117 rfl (lv_at hl 1 rfl) ?_
      refine l_help (vx_runSX (hh := h_L_desk) (As := [.ref (α 0), .int x, .int y, .ref ω]) (rest := []) ⟨hx, hb, hml, hown, hts⟩ (hp_deskS l hlT D cI cQ cL α ad an n σ hI ω H.size f x y h1 h2 h3 h4 (Classical.not_and_iff_not_or_not.mp hc)) (vx_cwSW 4 hts gh_desk rfl rfl rfl (by decide +kernel) ⟨Nat.le_of_ble_eq_true rfl, Nat.le_of_ble_eq_true rfl⟩) (l_preS hK hPk hPo hDk hne hZ hS hSt) rfl rfl hl.1 rfl (lv_room (Nat.le_of_ble_eq_true rfl)) d_L_law_118 ⟨hcs.1, hcs.2⟩) hS hak ham hω hPm (fun H locs hPk hPo hPm hS => ?_)
      refine lv_istore (lv' := [(5, .int 2), (4, .int (nI i)), (3, .ref ω), (2, .ref (β 0)), (1, .ref (α 0)), (0, .ref b)]) hx hb d_L_law_121 hl (by decide) rfl (fun ls hl => ?_)
      refine lv_aload_n hx hb d_L_law_123 rfl (lv_at hl 3 rfl) ?_
      refine lv_aload_n hx hb d_L_law_124 rfl (lv_at hl 5 rfl) ?_
      refine lv_iload hx hb d_L_law_125 (lv_at hl 1 rfl) ?_
      refine lv_iconst (v := 1) hx hb d_L_law_127 (by decide) ?_
      refine lv_iadd hx hb d_L_law_128 ?_
      refine l_ld (v := x) (j := i + 1) hx hb hX hbl hS (nI_add i 1) (by omega) hL ex d_L_law_129 ?_
      refine lv_aload_n hx hb d_L_law_130 rfl (lv_at hl 5 rfl) ?_
      refine lv_iload hx hb d_L_law_131 (lv_at hl 1 rfl) ?_
      refine lv_iconst (v := 2) hx hb d_L_law_133 (by decide) ?_
      refine lv_iadd hx hb d_L_law_134 ?_
      refine l_ld (v := y) (j := i + 2) hx hb hX hbl hS (nI_add i 2) (by omega) hL ey d_L_law_135 ?_
      refine l_m (va_runV (As := [.int x, .int y]) (rest := []) ⟨hx, hb, hml, hown, hts⟩ (ct_M_desk l D cI cQ β n τ hIm x y) (cwV 2 hts gd_L_51 rfl rfl rfl (by decide +kernel) ⟨Nat.le_of_ble_eq_true rfl, Nat.le_of_ble_eq_true rfl⟩) (g_preV hK2 hPm hDm (ci := 2) (q0 := 0) rfl mw_0) rfl rfl hl.1 rfl (lv_room (Nat.le_of_ble_eq_true rfl)) d_L_law_136 ⟨hcs.1, hcs.2⟩) hS hak ham hPk hPo (fun H locs hPm hPk hPo hS => ?_)
      have hDm := vd_addr (w' := mw_w cI β ((mo_desk n τ x y).2)) (mw_addr.trans mw_addr.symm) hDm
      refine lv_istore (lv' := [(6, .int ((mo_desk n τ x y).1)), (5, .int 2), (4, .int (nI i)), (3, .ref ω), (2, .ref (β 0)), (1, .ref (α 0)), (0, .ref b)]) hx hb d_L_law_139 hl (by decide) rfl (fun ls hl => ?_)
      refine lv_aload_n hx hb d_L_law_141 rfl (lv_at hl 4 rfl) ?_
      refine r_calli (W.runV (As := []) (rest := []) ⟨hx, hb, hml, hown, hts⟩ (ct_M_thrown l D cI cQ β n ((mo_desk n τ x y).2) hm2) (cwV 0 hts gd_L_52 rfl rfl rfl (by decide +kernel) ⟨Nat.le_of_ble_eq_true rfl, Nat.le_of_ble_eq_true rfl⟩) (g_preV hK2 hPm hDm (ci := 2) (q0 := 0) rfl mw_0) rfl rfl hl.1 rfl (lv_room (Nat.le_of_ble_eq_true rfl)) d_L_law_142 ⟨hcs.1, hcs.2⟩) ?_
      refine lv_iload hx hb d_L_law_145 (lv_at hl 1 rfl) ?_
      refine lv_icmp_eq (tgt := 152) hx hb d_L_law_147 (by decide) (fun _ => ?_) (fun q => absurd hthr q)
      refine lv_iload hx hb d_L_law_152 (lv_at hl 1 rfl) ?_
      refine lv_if_ne (tgt := 169) hx hb d_L_law_154 (by decide) (fun _ => ?_) (fun q => absurd q (by decide))
      refine lv_goto (tgt := 713) hx hb d_L_law_169 (by decide) ?_
      exact back _ _ _ _ _ _ _ _ ls ⟨hIV2, hPk, hPm, hPo, hDk, hDm, hak, ham, hω, hS⟩ (lv_sub hl [2, 3, 4, 5, 6] rfl)
  · have hS2 := dk_no (n := n) (τ := τ) hT
    have hthr : (mo_desk n τ x y).2.1 0 = 1 := by rw [hS2]; rfl
    have hIV2 : IV n σ (mo_desk n τ x y).2 := by rw [hS2]; exact hIV.f0 1
    have hm2 := hIV2.mok
    refine lv_aload_n hx hb d_L_law_104 rfl (lv_at hl 3 rfl) ?_
    refine lv_aload_n hx hb d_L_law_105 rfl (lv_at hl 4 rfl) ?_
    refine lv_iload hx hb d_L_law_106 (lv_at hl 0 rfl) ?_
    refine lv_iconst (v := 1) hx hb d_L_law_108 (by decide) ?_
    refine lv_iadd hx hb d_L_law_109 ?_
    refine l_ld (v := x) (j := i + 1) hx hb hX hbl hS (nI_add i 1) (by omega) hL ex d_L_law_110 ?_
    refine lv_aload_n hx hb d_L_law_111 rfl (lv_at hl 4 rfl) ?_
    refine lv_iload hx hb d_L_law_112 (lv_at hl 0 rfl) ?_
    refine lv_iconst (v := 2) hx hb d_L_law_114 (by decide) ?_
    refine lv_iadd hx hb d_L_law_115 ?_
    refine l_ld (v := y) (j := i + 2) hx hb hX hbl hS (nI_add i 2) (by omega) hL ey d_L_law_116 ?_
    refine lv_aload_n hx hb d_L_law_117 rfl (lv_at hl 1 rfl) ?_
    refine l_help (vx_runSX (hh := h_L_desk) (As := [.ref (α 0), .int x, .int y, .ref ω]) (rest := []) ⟨hx, hb, hml, hown, hts⟩ (hp_deskA l hlT D cI cQ cL α ad an n σ hI ω H.size f x y hT) (vx_cwSW 4 hts gh_desk rfl rfl rfl (by decide +kernel) ⟨Nat.le_of_ble_eq_true rfl, Nat.le_of_ble_eq_true rfl⟩) (l_preS hK hPk hPo hDk hne hZ hS hSt) rfl rfl hl.1 rfl (lv_room (Nat.le_of_ble_eq_true rfl)) d_L_law_118 ⟨hcs.1, hcs.2⟩) hS hak ham hω hPm (fun H locs hPk hPo hPm hS => ?_)
    refine lv_istore (lv' := [(5, .int 1), (4, .int (nI i)), (3, .ref ω), (2, .ref (β 0)), (1, .ref (α 0)), (0, .ref b)]) hx hb d_L_law_121 hl (by decide) rfl (fun ls hl => ?_)
    refine lv_aload_n hx hb d_L_law_123 rfl (lv_at hl 3 rfl) ?_
    refine lv_aload_n hx hb d_L_law_124 rfl (lv_at hl 5 rfl) ?_
    refine lv_iload hx hb d_L_law_125 (lv_at hl 1 rfl) ?_
    refine lv_iconst (v := 1) hx hb d_L_law_127 (by decide) ?_
    refine lv_iadd hx hb d_L_law_128 ?_
    refine l_ld (v := x) (j := i + 1) hx hb hX hbl hS (nI_add i 1) (by omega) hL ex d_L_law_129 ?_
    refine lv_aload_n hx hb d_L_law_130 rfl (lv_at hl 5 rfl) ?_
    refine lv_iload hx hb d_L_law_131 (lv_at hl 1 rfl) ?_
    refine lv_iconst (v := 2) hx hb d_L_law_133 (by decide) ?_
    refine lv_iadd hx hb d_L_law_134 ?_
    refine l_ld (v := y) (j := i + 2) hx hb hX hbl hS (nI_add i 2) (by omega) hL ey d_L_law_135 ?_
    refine l_m (va_runV (As := [.int x, .int y]) (rest := []) ⟨hx, hb, hml, hown, hts⟩ (ct_M_desk l D cI cQ β n τ hIm x y) (cwV 2 hts gd_L_51 rfl rfl rfl (by decide +kernel) ⟨Nat.le_of_ble_eq_true rfl, Nat.le_of_ble_eq_true rfl⟩) (g_preV hK2 hPm hDm (ci := 2) (q0 := 0) rfl mw_0) rfl rfl hl.1 rfl (lv_room (Nat.le_of_ble_eq_true rfl)) d_L_law_136 ⟨hcs.1, hcs.2⟩) hS hak ham hPk hPo (fun H locs hPm hPk hPo hS => ?_)
    have hDm := vd_addr (w' := mw_w cI β ((mo_desk n τ x y).2)) (mw_addr.trans mw_addr.symm) hDm
    refine lv_istore (lv' := [(6, .int ((mo_desk n τ x y).1)), (5, .int 1), (4, .int (nI i)), (3, .ref ω), (2, .ref (β 0)), (1, .ref (α 0)), (0, .ref b)]) hx hb d_L_law_139 hl (by decide) rfl (fun ls hl => ?_)
    refine lv_aload_n hx hb d_L_law_141 rfl (lv_at hl 4 rfl) ?_
    refine r_calli (W.runV (As := []) (rest := []) ⟨hx, hb, hml, hown, hts⟩ (ct_M_thrown l D cI cQ β n ((mo_desk n τ x y).2) hm2) (cwV 0 hts gd_L_52 rfl rfl rfl (by decide +kernel) ⟨Nat.le_of_ble_eq_true rfl, Nat.le_of_ble_eq_true rfl⟩) (g_preV hK2 hPm hDm (ci := 2) (q0 := 0) rfl mw_0) rfl rfl hl.1 rfl (lv_room (Nat.le_of_ble_eq_true rfl)) d_L_law_142 ⟨hcs.1, hcs.2⟩) ?_
    refine lv_iload hx hb d_L_law_145 (lv_at hl 1 rfl) ?_
    refine lv_icmp_eq (tgt := 152) hx hb d_L_law_147 (by decide) (fun _ => ?_) (fun q => absurd hthr q)
    refine lv_iload hx hb d_L_law_152 (lv_at hl 1 rfl) ?_
    refine lv_if_ne (tgt := 169) hx hb d_L_law_154 (by decide) (fun _ => ?_) (fun q => absurd q (by decide))
    refine lv_goto (tgt := 713) hx hb d_L_law_169 (by decide) ?_
    exact back _ _ _ _ _ _ _ _ ls ⟨hIV2, hPk, hPm, hPo, hDk, hDm, hak, ham, hω, hS⟩ (lv_sub hl [2, 3, 4, 5, 6] rfl)
set_option maxHeartbeats 4000000 in
set_option maxRecDepth 100000 in
theorem lc_needs {p : Program} {l : Launch} {e : Env} {s : State} {m : MethodId} {below : List Frame} {meth : Method} {c : Code} {Q : State → Prop} {b L : Nat} {xs : Nat → Int32} {D : va_G} {cI cQ cL : ClassId} (C : lw_C p s m c b L xs D cI cQ cL) (hlT : l.stackTraces = false) (hL : L ≤ 2048) {α β : Nat → Nat} {ω n : Nat} {σ : kS} {τ : mS} {ad an : Nat → Nat} {f : Nat → Int64} {H : Heap} {locs : List Loc} {ls : Array Slot} {i cells slots : Nat} (hi : i + 3 < L) (hcs : cells + 2 ≤ 601024 ∧ slots + 22 ≤ 7293034) (hw : lw_W D cI cQ cL s α β ω n σ τ ad an f H locs) (hl : lv_has ls 7 [(4, .int (nI i)), (3, .ref ω), (2, .ref (β 0)), (1, .ref (α 0)), (0, .ref b)])
    (back : ∀ (n' : Nat) (σ' : kS) (τ' : mS) (ad' an' : Nat → Nat) (f' : Nat → Int64) (H' : Heap) (locs' : List Loc) (ls' : Array Slot), lw_W D cI cQ cL s α β ω n' σ' τ' ad' an' f' H' locs' → lv_has ls' 7 [(4, .int (nI i)), (3, .ref ω), (2, .ref (β 0)), (1, .ref (α 0)), (0, .ref b)] → W p l e room_1 s m #[Value.ref b] below meth c H' locs' (cells + 2) (slots + 22) Q (F0 m 713 ls' [])) : W p l e room_1 s m #[Value.ref b] below meth c H locs cells slots Q (F0 m 172 ls []) := by
  obtain ⟨hx, hb, hml, hown, hts, hX, hbl, hK, hZ, hSt⟩ := C
  obtain ⟨hIV, hPk, hPm, hPo, hDk, hDm, hak, ham, hω, hS⟩ := hw
  have hK2 : va_K D kcl (kty cI cQ) s := hK.sub (tys' := kty cI cQ) [0, 1] rfl
  have hI := hIV.1
  have hIm := hIV.mok
  have hn8 := hI.1
  have hne : ∀ q ∈ kw_w cI cQ α ad an n σ, q.1 ≠ ω := fun q hq => (hak _ (kw_in hq)).2.2
  obtain ⟨x, ex⟩ : ∃ z, xs (i + 1) = z := ⟨_, rfl⟩
  obtain ⟨y, ey⟩ : ∃ z, xs (i + 2) = z := ⟨_, rfl⟩
  obtain ⟨z, ez⟩ : ∃ z, xs (i + 3) = z := ⟨_, rfl⟩
  rcases hq : kd_at n x with _ | d
  · obtain ⟨hm0, hk0⟩ := st_needsN (y := y) (z := z) hIV hq
    have hres : (kp_needs n σ x y z).1 = 0 := by rw [hk0]
    have hIV2 : IV n (kp_needs n σ x y z).2 (m_f τ 0 0) := by rw [hk0]; exact hIV.f0 0
    refine lv_aload_n hx hb d_L_law_172 rfl (lv_at hl 3 rfl) ?_
    refine lv_aload_n hx hb d_L_law_173 rfl (lv_at hl 4 rfl) ?_
    refine lv_iload hx hb d_L_law_174 (lv_at hl 0 rfl) ?_
    refine lv_iconst (v := 1) hx hb d_L_law_176 (by decide) ?_
    refine lv_iadd hx hb d_L_law_177 ?_
    refine l_ld (v := x) (j := i + 1) hx hb hX hbl hS (nI_add i 1) (by omega) hL ex d_L_law_178 ?_
    refine lv_aload_n hx hb d_L_law_179 rfl (lv_at hl 4 rfl) ?_
    refine lv_iload hx hb d_L_law_180 (lv_at hl 0 rfl) ?_
    refine lv_iconst (v := 2) hx hb d_L_law_182 (by decide) ?_
    refine lv_iadd hx hb d_L_law_183 ?_
    refine l_ld (v := y) (j := i + 2) hx hb hX hbl hS (nI_add i 2) (by omega) hL ey d_L_law_184 ?_
    refine lv_aload_n hx hb d_L_law_185 rfl (lv_at hl 4 rfl) ?_
    refine lv_iload hx hb d_L_law_186 (lv_at hl 0 rfl) ?_
    refine lv_iconst (v := 3) hx hb d_L_law_188 (by decide) ?_
    refine lv_iadd hx hb d_L_law_189 ?_
    refine l_ld (v := z) (j := i + 3) hx hb hX hbl hS (nI_add i 3) (by omega) hL ez d_L_law_190 ?_
    refine l_k (va_runV (As := [.int x, .int y, .int z]) (rest := []) ⟨hx, hb, hml, hown, hts⟩ (ct_K_needs l D cI cQ α ad an n σ hI x y z) (cwV 3 hts gd_L_55 rfl rfl rfl (by decide +kernel) ⟨Nat.le_of_ble_eq_true rfl, Nat.le_of_ble_eq_true rfl⟩) (g_preV hK2 hPk hDk (ci := 0) (q0 := 0) rfl kw_0) rfl rfl hl.1 rfl (lv_room (Nat.le_of_ble_eq_true rfl)) d_L_law_191 ⟨by have := hcs.1; show cells + 0 ≤ 601024; omega, by have := hcs.2; show slots + 0 ≤ 7293034; omega⟩) hS hak hPm hPo (fun H locs hPk hPm hPo hS => ?_)
    have hDk := vd_addr (kw_addr ((kp_needs n σ x y z).2)) hDk
    refine lv_aload_n hx hb d_L_law_194 rfl (lv_at hl 2 rfl) ?_
    refine lv_aload_n hx hb d_L_law_195 rfl (lv_at hl 4 rfl) ?_
    refine lv_iload hx hb d_L_law_196 (lv_at hl 0 rfl) ?_
    refine lv_iconst (v := 1) hx hb d_L_law_198 (by decide) ?_
    refine lv_iadd hx hb d_L_law_199 ?_
    refine l_ld (v := x) (j := i + 1) hx hb hX hbl hS (nI_add i 1) (by omega) hL ex d_L_law_200 ?_
    refine lv_aload_n hx hb d_L_law_201 rfl (lv_at hl 4 rfl) ?_
    refine lv_iload hx hb d_L_law_202 (lv_at hl 0 rfl) ?_
    refine lv_iconst (v := 2) hx hb d_L_law_204 (by decide) ?_
    refine lv_iadd hx hb d_L_law_205 ?_
    refine l_ld (v := y) (j := i + 2) hx hb hX hbl hS (nI_add i 2) (by omega) hL ey d_L_law_206 ?_
    refine lv_aload_n hx hb d_L_law_207 rfl (lv_at hl 4 rfl) ?_
    refine lv_iload hx hb d_L_law_208 (lv_at hl 0 rfl) ?_
    refine lv_iconst (v := 3) hx hb d_L_law_210 (by decide) ?_
    refine lv_iadd hx hb d_L_law_211 ?_
    refine l_ld (v := z) (j := i + 3) hx hb hX hbl hS (nI_add i 3) (by omega) hL ez d_L_law_212 ?_
    refine l_m (va_runV (As := [.int x, .int y, .int z]) (rest := [.int ((kp_needs n σ x y z).1)]) ⟨hx, hb, hml, hown, hts⟩ (ct_M_needsN l D cI cQ β n τ hIm x y z hm0) (cwV 3 hts gd_L_59 rfl rfl rfl (by decide +kernel) ⟨Nat.le_of_ble_eq_true rfl, Nat.le_of_ble_eq_true rfl⟩) (g_preV hK2 hPm hDm (ci := 2) (q0 := 0) rfl mw_0) rfl rfl hl.1 rfl (lv_room (Nat.le_of_ble_eq_true rfl)) d_L_law_213 ⟨by have := hcs.1; show cells + 0 ≤ 601024; omega, by have := hcs.2; show slots + 0 ≤ 7293034; omega⟩) hS hak ham hPk hPo (fun H locs hPm hPk hPo hS => ?_)
    have hDm := vd_addr (w' := mw_w cI β (m_f τ 0 0)) (mw_addr.trans mw_addr.symm) hDm
    refine lv_icmp_eq (tgt := 713) hx hb d_L_law_216 (by decide) (fun _ => ?_) (fun q => absurd hres q)
    refine W.widen (k := cells + 2) (n := slots + 22) (by omega) (by omega) ?_
    exact back _ _ _ _ _ _ _ _ ls ⟨hIV2, hPk, hPm, hPo, hDk, hDm, hak, ham, hω, hS⟩ (lv_sub hl [0, 1, 2, 3, 4] rfl)
  · obtain ⟨hd, rfl⟩ := kat_some hn8 hq
    obtain ⟨hres, hIV2⟩ := st_needs hIV hd y z
    have hres := hres.symm
    have ha9 : ∃ b, 1 ≤ b ∧ b ≤ 12 ∧ τ.2 2 d = nI b := by
      obtain ⟨a, p9, a1, a2, -, a4, -⟩ := hIV.2.2.1.1 d hd
      exact ⟨a, a1, a2, ((hIV.2.1.2.1 d hd).1).trans a4⟩
    refine lv_aload_n hx hb d_L_law_172 rfl (lv_at hl 3 rfl) ?_
    refine lv_aload_n hx hb d_L_law_173 rfl (lv_at hl 4 rfl) ?_
    refine lv_iload hx hb d_L_law_174 (lv_at hl 0 rfl) ?_
    refine lv_iconst (v := 1) hx hb d_L_law_176 (by decide) ?_
    refine lv_iadd hx hb d_L_law_177 ?_
    refine l_ld (v := nI d) (j := i + 1) hx hb hX hbl hS (nI_add i 1) (by omega) hL ex d_L_law_178 ?_
    refine lv_aload_n hx hb d_L_law_179 rfl (lv_at hl 4 rfl) ?_
    refine lv_iload hx hb d_L_law_180 (lv_at hl 0 rfl) ?_
    refine lv_iconst (v := 2) hx hb d_L_law_182 (by decide) ?_
    refine lv_iadd hx hb d_L_law_183 ?_
    refine l_ld (v := y) (j := i + 2) hx hb hX hbl hS (nI_add i 2) (by omega) hL ey d_L_law_184 ?_
    refine lv_aload_n hx hb d_L_law_185 rfl (lv_at hl 4 rfl) ?_
    refine lv_iload hx hb d_L_law_186 (lv_at hl 0 rfl) ?_
    refine lv_iconst (v := 3) hx hb d_L_law_188 (by decide) ?_
    refine lv_iadd hx hb d_L_law_189 ?_
    refine l_ld (v := z) (j := i + 3) hx hb hX hbl hS (nI_add i 3) (by omega) hL ez d_L_law_190 ?_
    refine l_k (va_runV (As := [.int (nI d), .int y, .int z]) (rest := []) ⟨hx, hb, hml, hown, hts⟩ (ct_K_needs l D cI cQ α ad an n σ hI (nI d) y z) (cwV 3 hts gd_L_55 rfl rfl rfl (by decide +kernel) ⟨Nat.le_of_ble_eq_true rfl, Nat.le_of_ble_eq_true rfl⟩) (g_preV hK2 hPk hDk (ci := 0) (q0 := 0) rfl kw_0) rfl rfl hl.1 rfl (lv_room (Nat.le_of_ble_eq_true rfl)) d_L_law_191 ⟨by have := hcs.1; show cells + 0 ≤ 601024; omega, by have := hcs.2; show slots + 0 ≤ 7293034; omega⟩) hS hak hPm hPo (fun H locs hPk hPm hPo hS => ?_)
    have hDk := vd_addr (kw_addr ((kp_needs n σ (nI d) y z).2)) hDk
    refine lv_aload_n hx hb d_L_law_194 rfl (lv_at hl 2 rfl) ?_
    refine lv_aload_n hx hb d_L_law_195 rfl (lv_at hl 4 rfl) ?_
    refine lv_iload hx hb d_L_law_196 (lv_at hl 0 rfl) ?_
    refine lv_iconst (v := 1) hx hb d_L_law_198 (by decide) ?_
    refine lv_iadd hx hb d_L_law_199 ?_
    refine l_ld (v := nI d) (j := i + 1) hx hb hX hbl hS (nI_add i 1) (by omega) hL ex d_L_law_200 ?_
    refine lv_aload_n hx hb d_L_law_201 rfl (lv_at hl 4 rfl) ?_
    refine lv_iload hx hb d_L_law_202 (lv_at hl 0 rfl) ?_
    refine lv_iconst (v := 2) hx hb d_L_law_204 (by decide) ?_
    refine lv_iadd hx hb d_L_law_205 ?_
    refine l_ld (v := y) (j := i + 2) hx hb hX hbl hS (nI_add i 2) (by omega) hL ey d_L_law_206 ?_
    refine lv_aload_n hx hb d_L_law_207 rfl (lv_at hl 4 rfl) ?_
    refine lv_iload hx hb d_L_law_208 (lv_at hl 0 rfl) ?_
    refine lv_iconst (v := 3) hx hb d_L_law_210 (by decide) ?_
    refine lv_iadd hx hb d_L_law_211 ?_
    refine l_ld (v := z) (j := i + 3) hx hb hX hbl hS (nI_add i 3) (by omega) hL ez d_L_law_212 ?_
    refine l_m (va_runV (As := [.int (nI d), .int y, .int z]) (rest := [.int ((kp_needs n σ (nI d) y z).1)]) ⟨hx, hb, hml, hown, hts⟩ (ct_M_needs l D cI cQ β n τ hIm d hd y z ha9) (cwV 3 hts gd_L_59 rfl rfl rfl (by decide +kernel) ⟨Nat.le_of_ble_eq_true rfl, Nat.le_of_ble_eq_true rfl⟩) (g_preV hK2 hPm hDm (ci := 2) (q0 := 0) rfl mw_0) rfl rfl hl.1 rfl (lv_room (Nat.le_of_ble_eq_true rfl)) d_L_law_213 ⟨by have := hcs.1; show cells + 0 ≤ 601024; omega, by have := hcs.2; show slots + 0 ≤ 7293034; omega⟩) hS hak ham hPk hPo (fun H locs hPm hPk hPo hS => ?_)
    have hDm := vd_addr (w' := mw_w cI β ((mo_needs n τ d y z).2)) (mw_addr.trans mw_addr.symm) hDm
    refine lv_icmp_eq (tgt := 713) hx hb d_L_law_216 (by decide) (fun _ => ?_) (fun q => absurd hres q)
    refine W.widen (k := cells + 2) (n := slots + 22) (by omega) (by omega) ?_
    exact back _ _ _ _ _ _ _ _ ls ⟨hIV2, hPk, hPm, hPo, hDk, hDm, hak, ham, hω, hS⟩ (lv_sub hl [0, 1, 2, 3, 4] rfl)
set_option maxHeartbeats 4000000 in
set_option maxRecDepth 100000 in
theorem lc_turn {p : Program} {l : Launch} {e : Env} {s : State} {m : MethodId} {below : List Frame} {meth : Method} {c : Code} {Q : State → Prop} {b L : Nat} {xs : Nat → Int32} {D : va_G} {cI cQ cL : ClassId} (C : lw_C p s m c b L xs D cI cQ cL) (hlT : l.stackTraces = false) (hL : L ≤ 2048) {α β : Nat → Nat} {ω n : Nat} {σ : kS} {τ : mS} {ad an : Nat → Nat} {f : Nat → Int64} {H : Heap} {locs : List Loc} {ls : Array Slot} {i cells slots : Nat} (hi : i + 3 < L) (hcs : cells + 2 ≤ 601024 ∧ slots + 22 ≤ 7293034) (hw : lw_W D cI cQ cL s α β ω n σ τ ad an f H locs) (hl : lv_has ls 7 [(4, .int (nI i)), (3, .ref ω), (2, .ref (β 0)), (1, .ref (α 0)), (0, .ref b)])
    (back : ∀ (n' : Nat) (σ' : kS) (τ' : mS) (ad' an' : Nat → Nat) (f' : Nat → Int64) (H' : Heap) (locs' : List Loc) (ls' : Array Slot), lw_W D cI cQ cL s α β ω n' σ' τ' ad' an' f' H' locs' → lv_has ls' 7 [(4, .int (nI i)), (3, .ref ω), (2, .ref (β 0)), (1, .ref (α 0)), (0, .ref b)] → W p l e room_1 s m #[Value.ref b] below meth c H' locs' (cells + 2) (slots + 22) Q (F0 m 713 ls' [])) : W p l e room_1 s m #[Value.ref b] below meth c H locs cells slots Q (F0 m 221 ls []) := by
  obtain ⟨hx, hb, hml, hown, hts, hX, hbl, hK, hZ, hSt⟩ := C
  obtain ⟨hIV, hPk, hPm, hPo, hDk, hDm, hak, ham, hω, hS⟩ := hw
  have hK2 : va_K D kcl (kty cI cQ) s := hK.sub (tys' := kty cI cQ) [0, 1] rfl
  have hI := hIV.1
  have hIm := hIV.mok
  have hn8 := hI.1
  have hne : ∀ q ∈ kw_w cI cQ α ad an n σ, q.1 ≠ ω := fun q hq => (hak _ (kw_in hq)).2.2
  obtain ⟨x, ex⟩ : ∃ z, xs (i + 1) = z := ⟨_, rfl⟩
  rcases hq : kd_at n x with _ | d
  · have hS2 := st_turnA hIV hq
    have hthr : (mo_turn τ x).2.1 0 = 1 := by rw [hS2]; rfl
    have hIV2 : IV n σ (mo_turn τ x).2 := by rw [hS2]; exact hIV.f0 1
    have hm2 := hIV2.mok
    refine lv_aload_n hx hb d_L_law_221 rfl (lv_at hl 3 rfl) ?_
    refine lv_aload_n hx hb d_L_law_222 rfl (lv_at hl 4 rfl) ?_
    refine lv_iload hx hb d_L_law_223 (lv_at hl 0 rfl) ?_
    refine lv_iconst (v := 1) hx hb d_L_law_225 (by decide) ?_
    refine lv_iadd hx hb d_L_law_226 ?_
    refine l_ld (v := x) (j := i + 1) hx hb hX hbl hS (nI_add i 1) (by omega) hL ex d_L_law_227 ?_
    refine lv_aload_n hx hb d_L_law_228 rfl (lv_at hl 1 rfl) ?_
    refine l_help (vx_runSX (hh := h_L_turn) (As := [.ref (α 0), .int x, .ref ω]) (rest := []) ⟨hx, hb, hml, hown, hts⟩ (hp_turnA l hlT D cI cQ cL α ad an n σ hI ω H.size f x hq) (vx_cwSW 3 hts gh_turn rfl rfl rfl (by decide +kernel) ⟨Nat.le_of_ble_eq_true rfl, Nat.le_of_ble_eq_true rfl⟩) (l_preS hK hPk hPo hDk hne hZ hS hSt) rfl rfl hl.1 rfl (lv_room (Nat.le_of_ble_eq_true rfl)) d_L_law_229 ⟨hcs.1, hcs.2⟩) hS hak ham hω hPm (fun H locs hPk hPo hPm hS => ?_)
    refine lv_istore (lv' := [(5, .int 1), (4, .int (nI i)), (3, .ref ω), (2, .ref (β 0)), (1, .ref (α 0)), (0, .ref b)]) hx hb d_L_law_232 hl (by decide) rfl (fun ls hl => ?_)
    refine lv_aload_n hx hb d_L_law_234 rfl (lv_at hl 3 rfl) ?_
    refine lv_aload_n hx hb d_L_law_235 rfl (lv_at hl 5 rfl) ?_
    refine lv_iload hx hb d_L_law_236 (lv_at hl 1 rfl) ?_
    refine lv_iconst (v := 1) hx hb d_L_law_238 (by decide) ?_
    refine lv_iadd hx hb d_L_law_239 ?_
    refine l_ld (v := x) (j := i + 1) hx hb hX hbl hS (nI_add i 1) (by omega) hL ex d_L_law_240 ?_
    refine l_m (va_runV (As := [.int x]) (rest := []) ⟨hx, hb, hml, hown, hts⟩ (ct_M_turn l D cI cQ β n τ hIm x) (cwV 1 hts gd_L_63 rfl rfl rfl (by decide +kernel) ⟨Nat.le_of_ble_eq_true rfl, Nat.le_of_ble_eq_true rfl⟩) (g_preV hK2 hPm hDm (ci := 2) (q0 := 0) rfl mw_0) rfl rfl hl.1 rfl (lv_room (Nat.le_of_ble_eq_true rfl)) d_L_law_241 ⟨hcs.1, hcs.2⟩) hS hak ham hPk hPo (fun H locs hPm hPk hPo hS => ?_)
    have hDm := vd_addr (w' := mw_w cI β ((mo_turn τ x).2)) (mw_addr.trans mw_addr.symm) hDm
    refine lv_istore (lv' := [(6, .int ((mo_turn τ x).1)), (5, .int 1), (4, .int (nI i)), (3, .ref ω), (2, .ref (β 0)), (1, .ref (α 0)), (0, .ref b)]) hx hb d_L_law_244 hl (by decide) rfl (fun ls hl => ?_)
    refine lv_aload_n hx hb d_L_law_246 rfl (lv_at hl 4 rfl) ?_
    refine r_calli (W.runV (As := []) (rest := []) ⟨hx, hb, hml, hown, hts⟩ (ct_M_thrown l D cI cQ β n ((mo_turn τ x).2) hm2) (cwV 0 hts gd_L_52 rfl rfl rfl (by decide +kernel) ⟨Nat.le_of_ble_eq_true rfl, Nat.le_of_ble_eq_true rfl⟩) (g_preV hK2 hPm hDm (ci := 2) (q0 := 0) rfl mw_0) rfl rfl hl.1 rfl (lv_room (Nat.le_of_ble_eq_true rfl)) d_L_law_247 ⟨hcs.1, hcs.2⟩) ?_
    refine lv_iload hx hb d_L_law_250 (lv_at hl 1 rfl) ?_
    refine lv_icmp_eq (tgt := 257) hx hb d_L_law_252 (by decide) (fun _ => ?_) (fun q => absurd hthr q)
    refine lv_iload hx hb d_L_law_257 (lv_at hl 1 rfl) ?_
    refine lv_if_ne (tgt := 274) hx hb d_L_law_259 (by decide) (fun _ => ?_) (fun q => absurd q (by decide))
    refine lv_goto (tgt := 713) hx hb d_L_law_274 (by decide) ?_
    exact back _ _ _ _ _ _ _ _ ls ⟨hIV2, hPk, hPm, hPo, hDk, hDm, hak, ham, hω, hS⟩ (lv_sub hl [2, 3, 4, 5, 6] rfl)
  · obtain ⟨hd, rfl⟩ := kat_some hn8 hq
    by_cases hc : σ.1 12 = 0 ∧ σ.1 6 < 300
    · obtain ⟨hres, hthr, hIV2⟩ := st_turn hIV hd hc.1 (i32_nle hc.2)
      have hm2 := hIV2.mok
      refine lv_aload_n hx hb d_L_law_221 rfl (lv_at hl 3 rfl) ?_
      refine lv_aload_n hx hb d_L_law_222 rfl (lv_at hl 4 rfl) ?_
      refine lv_iload hx hb d_L_law_223 (lv_at hl 0 rfl) ?_
      refine lv_iconst (v := 1) hx hb d_L_law_225 (by decide) ?_
      refine lv_iadd hx hb d_L_law_226 ?_
      refine l_ld (v := nI d) (j := i + 1) hx hb hX hbl hS (nI_add i 1) (by omega) hL ex d_L_law_227 ?_
      refine lv_aload_n hx hb d_L_law_228 rfl (lv_at hl 1 rfl) ?_
      refine l_help (vx_runSX (hh := h_L_turn) (As := [.ref (α 0), .int (nI d), .ref ω]) (rest := []) ⟨hx, hb, hml, hown, hts⟩ (hp_turn l hlT D cI cQ cL α ad an n σ hI ω H.size f d hd hc.1 (i32_nle hc.2)) (vx_cwSW 3 hts gh_turn rfl rfl rfl (by decide +kernel) ⟨Nat.le_of_ble_eq_true rfl, Nat.le_of_ble_eq_true rfl⟩) (l_preS hK hPk hPo hDk hne hZ hS hSt) rfl rfl hl.1 rfl (lv_room (Nat.le_of_ble_eq_true rfl)) d_L_law_229 ⟨hcs.1, hcs.2⟩) hS hak ham hω hPm (fun H locs hPk hPo hPm hS => ?_)
      have hDk := vd_addr (kw_addr ((kp_turn σ (nI d)).2)) hDk
      refine lv_istore (lv' := [(5, .int 0), (4, .int (nI i)), (3, .ref ω), (2, .ref (β 0)), (1, .ref (α 0)), (0, .ref b)]) hx hb d_L_law_232 hl (by decide) rfl (fun ls hl => ?_)
      refine lv_aload_n hx hb d_L_law_234 rfl (lv_at hl 3 rfl) ?_
      refine lv_aload_n hx hb d_L_law_235 rfl (lv_at hl 5 rfl) ?_
      refine lv_iload hx hb d_L_law_236 (lv_at hl 1 rfl) ?_
      refine lv_iconst (v := 1) hx hb d_L_law_238 (by decide) ?_
      refine lv_iadd hx hb d_L_law_239 ?_
      refine l_ld (v := nI d) (j := i + 1) hx hb hX hbl hS (nI_add i 1) (by omega) hL ex d_L_law_240 ?_
      refine l_m (va_runV (As := [.int (nI d)]) (rest := []) ⟨hx, hb, hml, hown, hts⟩ (ct_M_turn l D cI cQ β n τ hIm (nI d)) (cwV 1 hts gd_L_63 rfl rfl rfl (by decide +kernel) ⟨Nat.le_of_ble_eq_true rfl, Nat.le_of_ble_eq_true rfl⟩) (g_preV hK2 hPm hDm (ci := 2) (q0 := 0) rfl mw_0) rfl rfl hl.1 rfl (lv_room (Nat.le_of_ble_eq_true rfl)) d_L_law_241 ⟨hcs.1, hcs.2⟩) hS hak ham hPk hPo (fun H locs hPm hPk hPo hS => ?_)
      have hDm := vd_addr (w' := mw_w cI β ((mo_turn τ (nI d)).2)) (mw_addr.trans mw_addr.symm) hDm
      refine lv_istore (lv' := [(6, .int ((mo_turn τ (nI d)).1)), (5, .int 0), (4, .int (nI i)), (3, .ref ω), (2, .ref (β 0)), (1, .ref (α 0)), (0, .ref b)]) hx hb d_L_law_244 hl (by decide) rfl (fun ls hl => ?_)
      refine lv_aload_n hx hb d_L_law_246 rfl (lv_at hl 4 rfl) ?_
      refine r_calli (W.runV (As := []) (rest := []) ⟨hx, hb, hml, hown, hts⟩ (ct_M_thrown l D cI cQ β n ((mo_turn τ (nI d)).2) hm2) (cwV 0 hts gd_L_52 rfl rfl rfl (by decide +kernel) ⟨Nat.le_of_ble_eq_true rfl, Nat.le_of_ble_eq_true rfl⟩) (g_preV hK2 hPm hDm (ci := 2) (q0 := 0) rfl mw_0) rfl rfl hl.1 rfl (lv_room (Nat.le_of_ble_eq_true rfl)) d_L_law_247 ⟨hcs.1, hcs.2⟩) ?_
      refine lv_iload hx hb d_L_law_250 (lv_at hl 1 rfl) ?_
      refine lv_icmp_eq (tgt := 257) hx hb d_L_law_252 (by decide) (fun _ => ?_) (fun q => absurd hthr q)
      refine lv_iload hx hb d_L_law_257 (lv_at hl 1 rfl) ?_
      refine lv_if_ne (tgt := 274) hx hb d_L_law_259 (by decide) (fun q => absurd rfl q) (fun _ => ?_)
      refine lv_aload_n hx hb d_L_law_262 rfl (lv_at hl 3 rfl) ?_
      refine lv_iconst (v := 0) hx hb d_L_law_263 (by decide) ?_
      refine l_lald (v := ((kp_turn σ (nI d)).1).toInt64) hx hb hK hPo pk_uLs d_L_law_264 ?_
      refine lv_iload hx hb d_L_law_265 (lv_at hl 0 rfl) ?_
      refine lv_i2l hx hb d_L_law_267 rfl ?_
      refine W.lcmp hx hb d_L_law_268 ?_
      refine lv_if_eq (tgt := 274) hx hb d_L_law_269 (by decide) (fun _ => ?_) (fun q => absurd (by rw [hres]; exact lg_self _) q)
      refine lv_goto (tgt := 713) hx hb d_L_law_274 (by decide) ?_
      exact back _ _ _ _ _ _ _ _ ls ⟨hIV2, hPk, hPm, hPo, hDk, hDm, hak, ham, hω, hS⟩ (lv_sub hl [2, 3, 4, 5, 6] rfl)
    · have hS2 := st_turnS hIV hd (Classical.not_and_iff_not_or_not.mp hc)
      have hthr : (mo_turn τ (nI d)).2.1 0 = 2 := by rw [hS2]; rfl
      have hIV2 : IV n σ (mo_turn τ (nI d)).2 := by rw [hS2]; exact hIV.f0 2
      have hm2 := hIV2.mok
      refine lv_aload_n hx hb d_L_law_221 rfl (lv_at hl 3 rfl) ?_
      refine lv_aload_n hx hb d_L_law_222 rfl (lv_at hl 4 rfl) ?_
      refine lv_iload hx hb d_L_law_223 (lv_at hl 0 rfl) ?_
      refine lv_iconst (v := 1) hx hb d_L_law_225 (by decide) ?_
      refine lv_iadd hx hb d_L_law_226 ?_
      refine l_ld (v := nI d) (j := i + 1) hx hb hX hbl hS (nI_add i 1) (by omega) hL ex d_L_law_227 ?_
      refine lv_aload_n hx hb d_L_law_228 rfl (lv_at hl 1 rfl) ?_
      refine l_help (vx_runSX (hh := h_L_turn) (As := [.ref (α 0), .int (nI d), .ref ω]) (rest := []) ⟨hx, hb, hml, hown, hts⟩ (hp_turnS l hlT D cI cQ cL α ad an n σ hI ω H.size f d hd (Classical.not_and_iff_not_or_not.mp hc)) (vx_cwSW 3 hts gh_turn rfl rfl rfl (by decide +kernel) ⟨Nat.le_of_ble_eq_true rfl, Nat.le_of_ble_eq_true rfl⟩) (l_preS hK hPk hPo hDk hne hZ hS hSt) rfl rfl hl.1 rfl (lv_room (Nat.le_of_ble_eq_true rfl)) d_L_law_229 ⟨hcs.1, hcs.2⟩) hS hak ham hω hPm (fun H locs hPk hPo hPm hS => ?_)
      refine lv_istore (lv' := [(5, .int 2), (4, .int (nI i)), (3, .ref ω), (2, .ref (β 0)), (1, .ref (α 0)), (0, .ref b)]) hx hb d_L_law_232 hl (by decide) rfl (fun ls hl => ?_)
      refine lv_aload_n hx hb d_L_law_234 rfl (lv_at hl 3 rfl) ?_
      refine lv_aload_n hx hb d_L_law_235 rfl (lv_at hl 5 rfl) ?_
      refine lv_iload hx hb d_L_law_236 (lv_at hl 1 rfl) ?_
      refine lv_iconst (v := 1) hx hb d_L_law_238 (by decide) ?_
      refine lv_iadd hx hb d_L_law_239 ?_
      refine l_ld (v := nI d) (j := i + 1) hx hb hX hbl hS (nI_add i 1) (by omega) hL ex d_L_law_240 ?_
      refine l_m (va_runV (As := [.int (nI d)]) (rest := []) ⟨hx, hb, hml, hown, hts⟩ (ct_M_turn l D cI cQ β n τ hIm (nI d)) (cwV 1 hts gd_L_63 rfl rfl rfl (by decide +kernel) ⟨Nat.le_of_ble_eq_true rfl, Nat.le_of_ble_eq_true rfl⟩) (g_preV hK2 hPm hDm (ci := 2) (q0 := 0) rfl mw_0) rfl rfl hl.1 rfl (lv_room (Nat.le_of_ble_eq_true rfl)) d_L_law_241 ⟨hcs.1, hcs.2⟩) hS hak ham hPk hPo (fun H locs hPm hPk hPo hS => ?_)
      have hDm := vd_addr (w' := mw_w cI β ((mo_turn τ (nI d)).2)) (mw_addr.trans mw_addr.symm) hDm
      refine lv_istore (lv' := [(6, .int ((mo_turn τ (nI d)).1)), (5, .int 2), (4, .int (nI i)), (3, .ref ω), (2, .ref (β 0)), (1, .ref (α 0)), (0, .ref b)]) hx hb d_L_law_244 hl (by decide) rfl (fun ls hl => ?_)
      refine lv_aload_n hx hb d_L_law_246 rfl (lv_at hl 4 rfl) ?_
      refine r_calli (W.runV (As := []) (rest := []) ⟨hx, hb, hml, hown, hts⟩ (ct_M_thrown l D cI cQ β n ((mo_turn τ (nI d)).2) hm2) (cwV 0 hts gd_L_52 rfl rfl rfl (by decide +kernel) ⟨Nat.le_of_ble_eq_true rfl, Nat.le_of_ble_eq_true rfl⟩) (g_preV hK2 hPm hDm (ci := 2) (q0 := 0) rfl mw_0) rfl rfl hl.1 rfl (lv_room (Nat.le_of_ble_eq_true rfl)) d_L_law_247 ⟨hcs.1, hcs.2⟩) ?_
      refine lv_iload hx hb d_L_law_250 (lv_at hl 1 rfl) ?_
      refine lv_icmp_eq (tgt := 257) hx hb d_L_law_252 (by decide) (fun _ => ?_) (fun q => absurd hthr q)
      refine lv_iload hx hb d_L_law_257 (lv_at hl 1 rfl) ?_
      refine lv_if_ne (tgt := 274) hx hb d_L_law_259 (by decide) (fun _ => ?_) (fun q => absurd q (by decide))
      refine lv_goto (tgt := 713) hx hb d_L_law_274 (by decide) ?_
      exact back _ _ _ _ _ _ _ _ ls ⟨hIV2, hPk, hPm, hPo, hDk, hDm, hak, ham, hω, hS⟩ (lv_sub hl [2, 3, 4, 5, 6] rfl)
