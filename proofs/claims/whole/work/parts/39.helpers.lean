theorem kw_al_up {cI cQ : ClassId} {α ad an : Nat → Nat} {n q1 q2 : Nat} {σ : kS} {x y : Int32} {q : Nat × va_E} (hq : q ∈ kw_w cI cQ α (va_up ad n q1) (va_up an n q2) (n + 1) (k_new n σ x y)) : q.1 ∈ kw_al α ad an n ∨ q.1 = q1 ∨ q.1 = q2 := by
  have h : q.1 ∈ kw_al α (va_up ad n q1) (va_up an n q2) (n + 1) := by rw [← kw_adr (cI := cI) (cQ := cQ) (σ := k_new n σ x y)]; exact List.mem_map.mpr ⟨q, hq, rfl⟩
  unfold kw_al at h ⊢
  rw [kw_map_up ad (va_up ad n q1) (fun i hi => va_up_ne _ _ (by omega)), kw_map_up an (va_up an n q2) (fun i hi => va_up_ne _ _ (by omega)), va_up_self, va_up_self] at h
  simp only [List.mem_append, List.mem_singleton] at h ⊢
  rcases h with h | (h | h) | h | h
  · exact Or.inl (Or.inl h)
  · exact Or.inl (Or.inr (Or.inl h))
  · exact Or.inr (Or.inl h)
  · exact Or.inl (Or.inr (Or.inr h))
  · exact Or.inr (Or.inr h)
set_option maxHeartbeats 4000000 in
set_option maxRecDepth 100000 in
theorem hp_desk (l : Launch) (hlT : l.stackTraces = false) (D : va_G) (cI cQ cL : ClassId) (α ad an : Nat → Nat) (n : Nat) (σ : kS) (hI : k_ok n σ.1) (ω N0 : Nat) (f : Nat → Int64) (x y : Int32) (h1 : ¬ x < 1) (h2 : x ≤ 12) (h3 : ¬ y < -1) (h4 : y < x) (hc0 : σ.1 12 = 0) (hn8 : σ.1 1 < 8) : vx_Met l y_L_desk w_L_desk { frames := 3, cells := 2, slots := 22, locals := 68 } (hPc D cI cQ cL (kw_w cI cQ α ad an n σ) ω f N0 [.ref (α 0), .int x, .int y, .ref ω]) (va_Qi (S := Nat × Nat) (fun v u => v = 0 ∧ N0 ≤ u.1 ∧ N0 ≤ u.2 ∧ va_D (fun _ => True) (kw_w cI cQ α (va_up ad n u.1) (va_up an n u.2) (n + 1) (k_new n σ x y))) (fun u t => va_P D kcl (kw_w cI cQ α (va_up ad n u.1) (va_up an n u.2) (n + 1) (k_new n σ x y)) t.heap ∧ va_P D kcl [(ω, eL cL (vp_updL f 0 (nI n).toInt64))] t.heap) (lA α ad an n ω N0)) xNo 2 22 (lA α ad an n ω N0) := by
  refine vx_ofWH (hh := h_L_desk) (cc := b_L_desk) (maxL := 5) (ret := some .int) (by decide) rfl ?_
  intro p e s m args below meth c s₁ B hml hv
  obtain ⟨rfl, hsz, hP, hO, hK, hD, hω, hZ, hSt⟩ := hv
  have hx := B.exec
  have hb := B.bytes
  have hr := B.returns
  have hts : ∀ w ∈ kT, w.before [.ref (α 0), .int x, .int y, .ref ω].toArray s = true := fun w h => atoms_spec (ws := w_L_desk) B.pre w (List.mem_cons_of_mem _ h)
  have htb : c.exceptionTable.toList = tableOf h_L_desk := vx_table (x := y_L_desk) B (hts _ cd_L_desk)
  have hown : s.vm.findClass R_L = some m.cls := findClass_of_methodNamed B.named
  have hlocks := B.notSynchronized
  subst hsz
  have hK2 : va_K D kcl (kty cI cQ) s := hK.sub (tys' := kty cI cQ) [0, 1] rfl
  have hAk : ∀ q ∈ kw_al α ad an n, lA α ad an n ω s.heap.size q := fun q h => Or.inr (Or.inl h)
  have hAw : ∀ q ∈ (kw_w cI cQ α ad an n σ), lA α ad an n ω s.heap.size q.1 := fun q h => hAk q.1 (by rw [← kw_adr (cI := cI) (cQ := cQ) (σ := σ)]; exact List.mem_map.mpr ⟨q, h, rfl⟩)
  have hoA : ∀ q ∈ [(ω, eL cL f)], q.1 ∉ kw_al α ad an n := fun q h h2 => by
    rw [List.mem_singleton.mp h, ← kw_adr (cI := cI) (cQ := cQ) (σ := σ)] at h2
    obtain ⟨z, hz, e9⟩ := List.mem_map.mp h2
    exact hω z hz e9
  have hS : va_S (lA α ad an n ω s.heap.size) s.heap s.heap [] := va_S.rf
  have hl := lv_entry ([.ref (α 0), .int x, .int y, .ref ω]) (n := 5) (Nat.le_of_ble_eq_true rfl)
  rw [lg_entry_eq]
  generalize (lg_sl ([.ref (α 0), .int x, .int y, .ref ω]) ++ List.replicate (5 - (lg_sl ([.ref (α 0), .int x, .int y, .ref ω])).length) Slot.unset).toArray = ls at hl ⊢
  have hl : lv_has ls 5 [(0, .ref (α 0)), (1, .int x), (2, .int y), (3, .ref ω)] := hl
  refine lv_aload_n hx hb d_L_desk_0 rfl (lv_at hl 3 rfl) ?_
  refine lv_iconst (v := 0) hx hb d_L_desk_1 (by decide) ?_
  refine lv_aload_n hx hb d_L_desk_2 rfl (lv_at hl 0 rfl) ?_
  refine lv_iload_n hx hb d_L_desk_3 rfl (lv_at hl 1 rfl) ?_
  refine lv_iload_n hx hb d_L_desk_4 rfl (lv_at hl 2 rfl) ?_
  refine va_calli (va_runV (As := [.int x, .int y]) (rest := [.int 0, .ref ω]) ⟨hx, hb, hml, hown, hts⟩ (ct_K_desk l D cI cQ α ad an n σ hI s.heap.size x y h1 h2 h3 h4 hc0 hn8) (cwV 2 hts gd_L_7 rfl rfl rfl (by decide +kernel) ⟨Nat.le_of_ble_eq_true rfl, Nat.le_of_ble_eq_true rfl⟩) ⟨fun a U g mk q => ⟨q.1, q.2.1, q.2.2.1, va_K.moved (u := U) (U := U.calling g mk a) (Vm.Alike.refl U.vm) q.2.2.2.1, q.2.2.2.2⟩, va_recv (q := (R_K, T_K, 13)) hK2 hP (ci := 0) (q0 := 0) rfl kw_0, fun U hU hW => ⟨rfl, by rw [hU], by rw [hU]; exact hP, va_K.moved hW.alike hK2, hD⟩⟩ rfl rfl hl.1 rfl (lv_room (Nat.le_of_ble_eq_true rfl)) d_L_desk_5 ⟨Nat.le_of_ble_eq_true rfl, Nat.le_of_ble_eq_true rfl⟩) hS (fun q _ h => Or.inr h) (fun q h => Or.inr h) (fun r u t H locs ht _ hu hB hz hk hS => ?_)
  obtain ⟨rfl, hu1, hu2, hD⟩ := hu
  rw [ht] at hB
  have hωl : ω < s.heap.size := (hO 0 _ rfl).lt
  have hO := vP_keep (H1 := H) hO (fun q hq => hk q.1 (by rw [List.mem_singleton.mp hq]; exact hωl) (fun h => h.elim (hoA q hq) (fun h2 => by rw [List.mem_singleton.mp hq] at h2; exact absurd hωl (Nat.not_lt.mpr h2))))
  have hω2 : ∀ q ∈ (kw_w cI cQ α (va_up ad n u.1) (va_up an n u.2) (n + 1) (k_new n σ x y)), q.1 ≠ ω ∧ lA α ad an n ω s.heap.size q.1 := fun q hq => by
    have h3 := kw_al_up (cI := cI) (cQ := cQ) (σ := σ) hq
    rcases h3 with h3 | h3 | h3
    · exact ⟨fun e9 => hoA (ω, eL cL f) List.mem_cons_self (by rw [← e9]; exact h3), hAk _ h3⟩
    · rw [h3]; exact ⟨fun e9 => by omega, Or.inr (Or.inr hu1)⟩
    · rw [h3]; exact ⟨fun e9 => by omega, Or.inr (Or.inr hu2)⟩
  refine lv_i2l hx hb d_L_desk_8 rfl ?_
  refine x_last hx hb hK hB hO hD (fun q h => (hω2 q h).1) (fun q h => (hω2 q h).2) (Or.inl rfl) hS 2 rfl d_L_desk_9 (fun H locs hP hO hS => ?_)
  refine lv_goto (tgt := 21) hx hb d_L_desk_10 (by decide) ?_
  refine lv_iconst (v := 0) hx hb d_L_desk_21 (by decide) ?_
  refine W.widen (k := 2) (n := 22) (Nat.le_of_ble_eq_true rfl) (Nat.le_of_ble_eq_true rfl) ?_
  exact vx_ret (W.iret (v := 0) hx hb hr (fun t ht _ => ⟨⟨0, u, rfl, ⟨rfl, hu1, hu2, hD⟩, by rw [ht]; exact hP, by rw [ht]; exact hO⟩, hS.F ht⟩) hS.2.2 d_L_desk_22 hlocks)

set_option maxHeartbeats 4000000 in
set_option maxRecDepth 100000 in
theorem hp_deskA (l : Launch) (hlT : l.stackTraces = false) (D : va_G) (cI cQ cL : ClassId) (α ad an : Nat → Nat) (n : Nat) (σ : kS) (hI : k_ok n σ.1) (ω N0 : Nat) (f : Nat → Int64) (x y : Int32) (hT : ¬ (¬ x < 1 ∧ x ≤ 12 ∧ ¬ y < -1 ∧ y < x)) : vx_Met l y_L_desk w_L_desk { frames := 7, cells := 2, slots := 22, locals := 113 } (hPc D cI cQ cL (kw_w cI cQ α ad an n σ) ω f N0 [.ref (α 0), .int x, .int y, .ref ω]) (hQ D cL 1 (kw_w cI cQ α ad an n σ) ω (f) (lA α ad an n ω N0)) xNo 2 22 (lA α ad an n ω N0) := by
  refine vx_ofWH (hh := h_L_desk) (cc := b_L_desk) (maxL := 5) (ret := some .int) (by decide) rfl ?_
  intro p e s m args below meth c s₁ B hml hv
  obtain ⟨rfl, hsz, hP, hO, hK, hD, hω, hZ, hSt⟩ := hv
  have hx := B.exec
  have hb := B.bytes
  have hr := B.returns
  have hts : ∀ w ∈ kT, w.before [.ref (α 0), .int x, .int y, .ref ω].toArray s = true := fun w h => atoms_spec (ws := w_L_desk) B.pre w (List.mem_cons_of_mem _ h)
  have htb : c.exceptionTable.toList = tableOf h_L_desk := vx_table (x := y_L_desk) B (hts _ cd_L_desk)
  have hown : s.vm.findClass R_L = some m.cls := findClass_of_methodNamed B.named
  have hlocks := B.notSynchronized
  subst hsz
  have hK2 : va_K D kcl (kty cI cQ) s := hK.sub (tys' := kty cI cQ) [0, 1] rfl
  have hAk : ∀ q ∈ kw_al α ad an n, lA α ad an n ω s.heap.size q := fun q h => Or.inr (Or.inl h)
  have hAw : ∀ q ∈ (kw_w cI cQ α ad an n σ), lA α ad an n ω s.heap.size q.1 := fun q h => hAk q.1 (by rw [← kw_adr (cI := cI) (cQ := cQ) (σ := σ)]; exact List.mem_map.mpr ⟨q, h, rfl⟩)
  have hoA : ∀ q ∈ [(ω, eL cL f)], q.1 ∉ kw_al α ad an n := fun q h h2 => by
    rw [List.mem_singleton.mp h, ← kw_adr (cI := cI) (cQ := cQ) (σ := σ)] at h2
    obtain ⟨z, hz, e9⟩ := List.mem_map.mp h2
    exact hω z hz e9
  have hS : va_S (lA α ad an n ω s.heap.size) s.heap s.heap [] := va_S.rf
  have hl := lv_entry ([.ref (α 0), .int x, .int y, .ref ω]) (n := 5) (Nat.le_of_ble_eq_true rfl)
  rw [lg_entry_eq]
  generalize (lg_sl ([.ref (α 0), .int x, .int y, .ref ω]) ++ List.replicate (5 - (lg_sl ([.ref (α 0), .int x, .int y, .ref ω])).length) Slot.unset).toArray = ls at hl ⊢
  have hl : lv_has ls 5 [(0, .ref (α 0)), (1, .int x), (2, .int y), (3, .ref ω)] := hl
  refine lv_aload_n hx hb d_L_desk_0 rfl (lv_at hl 3 rfl) ?_
  refine lv_iconst (v := 0) hx hb d_L_desk_1 (by decide) ?_
  refine lv_aload_n hx hb d_L_desk_2 rfl (lv_at hl 0 rfl) ?_
  refine lv_iload_n hx hb d_L_desk_3 rfl (lv_at hl 1 rfl) ?_
  refine lv_iload_n hx hb d_L_desk_4 rfl (lv_at hl 2 rfl) ?_
  refine h_thr (E := E_A) (vx_runV (As := [.int x, .int y]) (rest := [.int 0, .ref ω]) ⟨hx, hb, hml, hown, hts⟩ (tt_K_deskA l hlT D cI cQ α ad an n σ hI x y hT) (cwV 2 hts gd_L_7 rfl rfl rfl (by decide +kernel) ⟨Nat.le_of_ble_eq_true rfl, Nat.le_of_ble_eq_true rfl⟩) (x_preV hK2 hP hD hZ hSt (ci := 0) (q0 := 0) rfl kw_0) rfl rfl hl.1 rfl (lv_room (Nat.le_of_ble_eq_true rfl)) d_L_desk_5 ⟨Nat.le_of_ble_eq_true rfl, Nat.le_of_ble_eq_true rfl⟩) hS hown [] ⟨0, 10, 13, 13⟩ [⟨0, 10, 17, 15⟩] htb (fun z h => by cases h) (by decide) (by decide) (hts _ lk_13) (hSt.2.1 _ (List.mem_of_getElem? (i := 0) rfl)) (fun q9 H locs hz hk hS => ?_)
  refine lv_astore (lv' := [(4, .ref q9), (0, .ref (α 0)), (1, .int x), (2, .int y), (3, .ref ω)]) hx hb d_L_desk_13 hl (by decide) rfl (fun ls hl => ?_)
  refine lv_iconst (v := 1) hx hb d_L_desk_15 (by decide) ?_
  refine W.widen (k := 2) (n := 22) (Nat.le_of_ble_eq_true rfl) (Nat.le_of_ble_eq_true rfl) ?_
  exact vx_ret (W.iret (v := 1) hx hb hr (fun t ht _ => ⟨⟨1, (), rfl, rfl, by rw [ht]; exact vP_same hP hk, by rw [ht]; exact vP_same hO hk⟩, hS.F ht⟩) hS.2.2 d_L_desk_16 hlocks)

set_option maxHeartbeats 4000000 in
set_option maxRecDepth 100000 in
theorem hp_deskS (l : Launch) (hlT : l.stackTraces = false) (D : va_G) (cI cQ cL : ClassId) (α ad an : Nat → Nat) (n : Nat) (σ : kS) (hI : k_ok n σ.1) (ω N0 : Nat) (f : Nat → Int64) (x y : Int32) (h1 : ¬ x < 1) (h2 : x ≤ 12) (h3 : ¬ y < -1) (h4 : y < x) (hT : ¬ σ.1 12 = 0 ∨ ¬ σ.1 1 < 8) : vx_Met l y_L_desk w_L_desk { frames := 7, cells := 2, slots := 22, locals := 113 } (hPc D cI cQ cL (kw_w cI cQ α ad an n σ) ω f N0 [.ref (α 0), .int x, .int y, .ref ω]) (hQ D cL 2 (kw_w cI cQ α ad an n σ) ω (f) (lA α ad an n ω N0)) xNo 2 22 (lA α ad an n ω N0) := by
  refine vx_ofWH (hh := h_L_desk) (cc := b_L_desk) (maxL := 5) (ret := some .int) (by decide) rfl ?_
  intro p e s m args below meth c s₁ B hml hv
  obtain ⟨rfl, hsz, hP, hO, hK, hD, hω, hZ, hSt⟩ := hv
  have hx := B.exec
  have hb := B.bytes
  have hr := B.returns
  have hts : ∀ w ∈ kT, w.before [.ref (α 0), .int x, .int y, .ref ω].toArray s = true := fun w h => atoms_spec (ws := w_L_desk) B.pre w (List.mem_cons_of_mem _ h)
  have htb : c.exceptionTable.toList = tableOf h_L_desk := vx_table (x := y_L_desk) B (hts _ cd_L_desk)
  have hown : s.vm.findClass R_L = some m.cls := findClass_of_methodNamed B.named
  have hlocks := B.notSynchronized
  subst hsz
  have hK2 : va_K D kcl (kty cI cQ) s := hK.sub (tys' := kty cI cQ) [0, 1] rfl
  have hAk : ∀ q ∈ kw_al α ad an n, lA α ad an n ω s.heap.size q := fun q h => Or.inr (Or.inl h)
  have hAw : ∀ q ∈ (kw_w cI cQ α ad an n σ), lA α ad an n ω s.heap.size q.1 := fun q h => hAk q.1 (by rw [← kw_adr (cI := cI) (cQ := cQ) (σ := σ)]; exact List.mem_map.mpr ⟨q, h, rfl⟩)
  have hoA : ∀ q ∈ [(ω, eL cL f)], q.1 ∉ kw_al α ad an n := fun q h h2 => by
    rw [List.mem_singleton.mp h, ← kw_adr (cI := cI) (cQ := cQ) (σ := σ)] at h2
    obtain ⟨z, hz, e9⟩ := List.mem_map.mp h2
    exact hω z hz e9
  have hS : va_S (lA α ad an n ω s.heap.size) s.heap s.heap [] := va_S.rf
  have hl := lv_entry ([.ref (α 0), .int x, .int y, .ref ω]) (n := 5) (Nat.le_of_ble_eq_true rfl)
  rw [lg_entry_eq]
  generalize (lg_sl ([.ref (α 0), .int x, .int y, .ref ω]) ++ List.replicate (5 - (lg_sl ([.ref (α 0), .int x, .int y, .ref ω])).length) Slot.unset).toArray = ls at hl ⊢
  have hl : lv_has ls 5 [(0, .ref (α 0)), (1, .int x), (2, .int y), (3, .ref ω)] := hl
  refine lv_aload_n hx hb d_L_desk_0 rfl (lv_at hl 3 rfl) ?_
  refine lv_iconst (v := 0) hx hb d_L_desk_1 (by decide) ?_
  refine lv_aload_n hx hb d_L_desk_2 rfl (lv_at hl 0 rfl) ?_
  refine lv_iload_n hx hb d_L_desk_3 rfl (lv_at hl 1 rfl) ?_
  refine lv_iload_n hx hb d_L_desk_4 rfl (lv_at hl 2 rfl) ?_
  refine h_thr (E := E_S) (vx_runV (As := [.int x, .int y]) (rest := [.int 0, .ref ω]) ⟨hx, hb, hml, hown, hts⟩ (tt_K_deskS l hlT D cI cQ α ad an n σ hI x y h1 h2 h3 h4 hT) (cwV 2 hts gd_L_7 rfl rfl rfl (by decide +kernel) ⟨Nat.le_of_ble_eq_true rfl, Nat.le_of_ble_eq_true rfl⟩) (x_preV hK2 hP hD hZ hSt (ci := 0) (q0 := 0) rfl kw_0) rfl rfl hl.1 rfl (lv_room (Nat.le_of_ble_eq_true rfl)) d_L_desk_5 ⟨Nat.le_of_ble_eq_true rfl, Nat.le_of_ble_eq_true rfl⟩) hS hown [⟨0, 10, 13, 13⟩] ⟨0, 10, 17, 15⟩ [] htb (fun z h => by rw [List.mem_singleton.mp h]; exact Or.inr ⟨by decide, E_A, hts _ lk_13, hSt.2.2⟩) (by decide) (by decide) (hts _ lk_15) (hSt.2.1 _ (List.mem_of_getElem? (i := 1) rfl)) (fun q9 H locs hz hk hS => ?_)
  refine lv_astore (lv' := [(4, .ref q9), (0, .ref (α 0)), (1, .int x), (2, .int y), (3, .ref ω)]) hx hb d_L_desk_17 hl (by decide) rfl (fun ls hl => ?_)
  refine lv_iconst (v := 2) hx hb d_L_desk_19 (by decide) ?_
  refine W.widen (k := 2) (n := 22) (Nat.le_of_ble_eq_true rfl) (Nat.le_of_ble_eq_true rfl) ?_
  exact vx_ret (W.iret (v := 2) hx hb hr (fun t ht _ => ⟨⟨2, (), rfl, rfl, by rw [ht]; exact vP_same hP hk, by rw [ht]; exact vP_same hO hk⟩, hS.F ht⟩) hS.2.2 d_L_desk_20 hlocks)

set_option maxHeartbeats 4000000 in
set_option maxRecDepth 100000 in
theorem hp_turn (l : Launch) (hlT : l.stackTraces = false) (D : va_G) (cI cQ cL : ClassId) (α ad an : Nat → Nat) (n : Nat) (σ : kS) (hI : k_ok n σ.1) (ω N0 : Nat) (f : Nat → Int64) (i : Nat) (hi : i < n) (hc0 : σ.1 12 = 0) (ht0 : ¬ (300 : Int32) ≤ σ.1 6) : vx_Met l y_L_turn w_L_turn { frames := 2, cells := 2, slots := 22, locals := 42 } (hPc D cI cQ cL (kw_w cI cQ α ad an n σ) ω f N0 [.ref (α 0), .int (nI i), .ref ω]) (hQ D cL 0 (kw_w cI cQ α ad an n ((kp_turn σ (nI i)).2)) ω (vp_updL f 0 ((kp_turn σ (nI i)).1).toInt64) (lA α ad an n ω N0)) xNo 2 22 (lA α ad an n ω N0) := by
  refine vx_ofWH (hh := h_L_turn) (cc := b_L_turn) (maxL := 4) (ret := some .int) (by decide) rfl ?_
  intro p e s m args below meth c s₁ B hml hv
  obtain ⟨rfl, hsz, hP, hO, hK, hD, hω, hZ, hSt⟩ := hv
  have hx := B.exec
  have hb := B.bytes
  have hr := B.returns
  have hts : ∀ w ∈ kT, w.before [.ref (α 0), .int (nI i), .ref ω].toArray s = true := fun w h => atoms_spec (ws := w_L_turn) B.pre w (List.mem_cons_of_mem _ h)
  have htb : c.exceptionTable.toList = tableOf h_L_turn := vx_table (x := y_L_turn) B (hts _ cd_L_turn)
  have hown : s.vm.findClass R_L = some m.cls := findClass_of_methodNamed B.named
  have hlocks := B.notSynchronized
  subst hsz
  have hK2 : va_K D kcl (kty cI cQ) s := hK.sub (tys' := kty cI cQ) [0, 1] rfl
  have hAk : ∀ q ∈ kw_al α ad an n, lA α ad an n ω s.heap.size q := fun q h => Or.inr (Or.inl h)
  have hAw : ∀ q ∈ (kw_w cI cQ α ad an n σ), lA α ad an n ω s.heap.size q.1 := fun q h => hAk q.1 (by rw [← kw_adr (cI := cI) (cQ := cQ) (σ := σ)]; exact List.mem_map.mpr ⟨q, h, rfl⟩)
  have hoA : ∀ q ∈ [(ω, eL cL f)], q.1 ∉ kw_al α ad an n := fun q h h2 => by
    rw [List.mem_singleton.mp h, ← kw_adr (cI := cI) (cQ := cQ) (σ := σ)] at h2
    obtain ⟨z, hz, e9⟩ := List.mem_map.mp h2
    exact hω z hz e9
  have hS : va_S (lA α ad an n ω s.heap.size) s.heap s.heap [] := va_S.rf
  have hl := lv_entry ([.ref (α 0), .int (nI i), .ref ω]) (n := 4) (Nat.le_of_ble_eq_true rfl)
  rw [lg_entry_eq]
  generalize (lg_sl ([.ref (α 0), .int (nI i), .ref ω]) ++ List.replicate (4 - (lg_sl ([.ref (α 0), .int (nI i), .ref ω])).length) Slot.unset).toArray = ls at hl ⊢
  have hl : lv_has ls 4 [(0, .ref (α 0)), (1, .int (nI i)), (2, .ref ω)] := hl
  refine lv_aload_n hx hb d_L_turn_0 rfl (lv_at hl 2 rfl) ?_
  refine lv_iconst (v := 0) hx hb d_L_turn_1 (by decide) ?_
  refine lv_aload_n hx hb d_L_turn_2 rfl (lv_at hl 0 rfl) ?_
  refine lv_iload_n hx hb d_L_turn_3 rfl (lv_at hl 1 rfl) ?_
  refine h_calli (va_runV (As := [.int (nI i)]) (rest := [.int 0, .ref ω]) ⟨hx, hb, hml, hown, hts⟩ (ct_K_turn l D cI cQ α ad an n σ hI i hi hc0 ht0) (cwV 1 hts gd_L_17 rfl rfl rfl (by decide +kernel) ⟨Nat.le_of_ble_eq_true rfl, Nat.le_of_ble_eq_true rfl⟩) (g_preV hK2 hP hD (ci := 0) (q0 := 0) rfl kw_0) rfl rfl hl.1 rfl (lv_room (Nat.le_of_ble_eq_true rfl)) d_L_turn_4 ⟨Nat.le_of_ble_eq_true rfl, Nat.le_of_ble_eq_true rfl⟩) hS hAk hO hoA (fun H locs hP hO _ _ hS => ?_)
  have hD := vd_addr (kw_addr ((kp_turn σ (nI i)).2)) hD
  have hω : ∀ q ∈ (kw_w cI cQ α ad an n ((kp_turn σ (nI i)).2)), q.1 ≠ ω := fun q hq e9 => by
    have h2 : q.1 ∈ (kw_w cI cQ α ad an n σ).map (fun q => q.1) := by rw [kw_addr ((kp_turn σ (nI i)).2)]; exact List.mem_map.mpr ⟨q, hq, rfl⟩
    obtain ⟨z, hz, e8⟩ := List.mem_map.mp h2
    exact hω z hz (e8.trans e9)
  have hAw : ∀ q ∈ (kw_w cI cQ α ad an n ((kp_turn σ (nI i)).2)), lA α ad an n ω s.heap.size q.1 := fun q h => hAk q.1 (by rw [← kw_adr (cI := cI) (cQ := cQ) (σ := (kp_turn σ (nI i)).2)]; exact List.mem_map.mpr ⟨q, h, rfl⟩)
  refine lv_i2l hx hb d_L_turn_7 rfl ?_
  refine x_last hx hb hK hP hO hD hω hAw (Or.inl rfl) hS 2 rfl d_L_turn_8 (fun H locs hP hO hS => ?_)
  refine lv_goto (tgt := 18) hx hb d_L_turn_9 (by decide) ?_
  refine lv_iconst (v := 0) hx hb d_L_turn_18 (by decide) ?_
  refine W.widen (k := 2) (n := 22) (Nat.le_of_ble_eq_true rfl) (Nat.le_of_ble_eq_true rfl) ?_
  exact vx_ret (W.iret (v := 0) hx hb hr (fun t ht _ => ⟨⟨0, (), rfl, rfl, by rw [ht]; exact hP, by rw [ht]; exact hO⟩, hS.F ht⟩) hS.2.2 d_L_turn_19 hlocks)

set_option maxHeartbeats 4000000 in
set_option maxRecDepth 100000 in
theorem hp_turnA (l : Launch) (hlT : l.stackTraces = false) (D : va_G) (cI cQ cL : ClassId) (α ad an : Nat → Nat) (n : Nat) (σ : kS) (hI : k_ok n σ.1) (ω N0 : Nat) (f : Nat → Int64) (x : Int32) (hT : kd_at n x = none) : vx_Met l y_L_turn w_L_turn { frames := 7, cells := 2, slots := 22, locals := 111 } (hPc D cI cQ cL (kw_w cI cQ α ad an n σ) ω f N0 [.ref (α 0), .int x, .ref ω]) (hQ D cL 1 (kw_w cI cQ α ad an n σ) ω (f) (lA α ad an n ω N0)) xNo 2 22 (lA α ad an n ω N0) := by
  refine vx_ofWH (hh := h_L_turn) (cc := b_L_turn) (maxL := 4) (ret := some .int) (by decide) rfl ?_
  intro p e s m args below meth c s₁ B hml hv
  obtain ⟨rfl, hsz, hP, hO, hK, hD, hω, hZ, hSt⟩ := hv
  have hx := B.exec
  have hb := B.bytes
  have hr := B.returns
  have hts : ∀ w ∈ kT, w.before [.ref (α 0), .int x, .ref ω].toArray s = true := fun w h => atoms_spec (ws := w_L_turn) B.pre w (List.mem_cons_of_mem _ h)
  have htb : c.exceptionTable.toList = tableOf h_L_turn := vx_table (x := y_L_turn) B (hts _ cd_L_turn)
  have hown : s.vm.findClass R_L = some m.cls := findClass_of_methodNamed B.named
  have hlocks := B.notSynchronized
  subst hsz
  have hK2 : va_K D kcl (kty cI cQ) s := hK.sub (tys' := kty cI cQ) [0, 1] rfl
  have hAk : ∀ q ∈ kw_al α ad an n, lA α ad an n ω s.heap.size q := fun q h => Or.inr (Or.inl h)
  have hAw : ∀ q ∈ (kw_w cI cQ α ad an n σ), lA α ad an n ω s.heap.size q.1 := fun q h => hAk q.1 (by rw [← kw_adr (cI := cI) (cQ := cQ) (σ := σ)]; exact List.mem_map.mpr ⟨q, h, rfl⟩)
  have hoA : ∀ q ∈ [(ω, eL cL f)], q.1 ∉ kw_al α ad an n := fun q h h2 => by
    rw [List.mem_singleton.mp h, ← kw_adr (cI := cI) (cQ := cQ) (σ := σ)] at h2
    obtain ⟨z, hz, e9⟩ := List.mem_map.mp h2
    exact hω z hz e9
  have hS : va_S (lA α ad an n ω s.heap.size) s.heap s.heap [] := va_S.rf
  have hl := lv_entry ([.ref (α 0), .int x, .ref ω]) (n := 4) (Nat.le_of_ble_eq_true rfl)
  rw [lg_entry_eq]
  generalize (lg_sl ([.ref (α 0), .int x, .ref ω]) ++ List.replicate (4 - (lg_sl ([.ref (α 0), .int x, .ref ω])).length) Slot.unset).toArray = ls at hl ⊢
  have hl : lv_has ls 4 [(0, .ref (α 0)), (1, .int x), (2, .ref ω)] := hl
  refine lv_aload_n hx hb d_L_turn_0 rfl (lv_at hl 2 rfl) ?_
  refine lv_iconst (v := 0) hx hb d_L_turn_1 (by decide) ?_
  refine lv_aload_n hx hb d_L_turn_2 rfl (lv_at hl 0 rfl) ?_
  refine lv_iload_n hx hb d_L_turn_3 rfl (lv_at hl 1 rfl) ?_
  refine h_thr (E := E_A) (vx_runV (As := [.int x]) (rest := [.int 0, .ref ω]) ⟨hx, hb, hml, hown, hts⟩ (tt_K_turnA l hlT D cI cQ α ad an n σ hI x hT) (cwV 1 hts gd_L_17 rfl rfl rfl (by decide +kernel) ⟨Nat.le_of_ble_eq_true rfl, Nat.le_of_ble_eq_true rfl⟩) (x_preV hK2 hP hD hZ hSt (ci := 0) (q0 := 0) rfl kw_0) rfl rfl hl.1 rfl (lv_room (Nat.le_of_ble_eq_true rfl)) d_L_turn_4 ⟨Nat.le_of_ble_eq_true rfl, Nat.le_of_ble_eq_true rfl⟩) hS hown [] ⟨0, 9, 12, 13⟩ [⟨0, 9, 15, 15⟩] htb (fun z h => by cases h) (by decide) (by decide) (hts _ lk_13) (hSt.2.1 _ (List.mem_of_getElem? (i := 0) rfl)) (fun q9 H locs hz hk hS => ?_)
  refine lv_astore_n (lv' := [(3, .ref q9), (0, .ref (α 0)), (1, .int x), (2, .ref ω)]) hx hb d_L_turn_12 rfl hl (by decide) rfl (fun ls hl => ?_)
  refine lv_iconst (v := 1) hx hb d_L_turn_13 (by decide) ?_
  refine W.widen (k := 2) (n := 22) (Nat.le_of_ble_eq_true rfl) (Nat.le_of_ble_eq_true rfl) ?_
  exact vx_ret (W.iret (v := 1) hx hb hr (fun t ht _ => ⟨⟨1, (), rfl, rfl, by rw [ht]; exact vP_same hP hk, by rw [ht]; exact vP_same hO hk⟩, hS.F ht⟩) hS.2.2 d_L_turn_14 hlocks)

set_option maxHeartbeats 4000000 in
set_option maxRecDepth 100000 in
theorem hp_turnS (l : Launch) (hlT : l.stackTraces = false) (D : va_G) (cI cQ cL : ClassId) (α ad an : Nat → Nat) (n : Nat) (σ : kS) (hI : k_ok n σ.1) (ω N0 : Nat) (f : Nat → Int64) (i : Nat) (hi : i < n) (hT : ¬ σ.1 12 = 0 ∨ ¬ σ.1 6 < 300) : vx_Met l y_L_turn w_L_turn { frames := 7, cells := 2, slots := 22, locals := 111 } (hPc D cI cQ cL (kw_w cI cQ α ad an n σ) ω f N0 [.ref (α 0), .int (nI i), .ref ω]) (hQ D cL 2 (kw_w cI cQ α ad an n σ) ω (f) (lA α ad an n ω N0)) xNo 2 22 (lA α ad an n ω N0) := by
  refine vx_ofWH (hh := h_L_turn) (cc := b_L_turn) (maxL := 4) (ret := some .int) (by decide) rfl ?_
  intro p e s m args below meth c s₁ B hml hv
  obtain ⟨rfl, hsz, hP, hO, hK, hD, hω, hZ, hSt⟩ := hv
  have hx := B.exec
  have hb := B.bytes
  have hr := B.returns
  have hts : ∀ w ∈ kT, w.before [.ref (α 0), .int (nI i), .ref ω].toArray s = true := fun w h => atoms_spec (ws := w_L_turn) B.pre w (List.mem_cons_of_mem _ h)
  have htb : c.exceptionTable.toList = tableOf h_L_turn := vx_table (x := y_L_turn) B (hts _ cd_L_turn)
  have hown : s.vm.findClass R_L = some m.cls := findClass_of_methodNamed B.named
  have hlocks := B.notSynchronized
  subst hsz
  have hK2 : va_K D kcl (kty cI cQ) s := hK.sub (tys' := kty cI cQ) [0, 1] rfl
  have hAk : ∀ q ∈ kw_al α ad an n, lA α ad an n ω s.heap.size q := fun q h => Or.inr (Or.inl h)
  have hAw : ∀ q ∈ (kw_w cI cQ α ad an n σ), lA α ad an n ω s.heap.size q.1 := fun q h => hAk q.1 (by rw [← kw_adr (cI := cI) (cQ := cQ) (σ := σ)]; exact List.mem_map.mpr ⟨q, h, rfl⟩)
  have hoA : ∀ q ∈ [(ω, eL cL f)], q.1 ∉ kw_al α ad an n := fun q h h2 => by
    rw [List.mem_singleton.mp h, ← kw_adr (cI := cI) (cQ := cQ) (σ := σ)] at h2
    obtain ⟨z, hz, e9⟩ := List.mem_map.mp h2
    exact hω z hz e9
  have hS : va_S (lA α ad an n ω s.heap.size) s.heap s.heap [] := va_S.rf
  have hl := lv_entry ([.ref (α 0), .int (nI i), .ref ω]) (n := 4) (Nat.le_of_ble_eq_true rfl)
  rw [lg_entry_eq]
  generalize (lg_sl ([.ref (α 0), .int (nI i), .ref ω]) ++ List.replicate (4 - (lg_sl ([.ref (α 0), .int (nI i), .ref ω])).length) Slot.unset).toArray = ls at hl ⊢
  have hl : lv_has ls 4 [(0, .ref (α 0)), (1, .int (nI i)), (2, .ref ω)] := hl
  refine lv_aload_n hx hb d_L_turn_0 rfl (lv_at hl 2 rfl) ?_
  refine lv_iconst (v := 0) hx hb d_L_turn_1 (by decide) ?_
  refine lv_aload_n hx hb d_L_turn_2 rfl (lv_at hl 0 rfl) ?_
  refine lv_iload_n hx hb d_L_turn_3 rfl (lv_at hl 1 rfl) ?_
  refine h_thr (E := E_S) (vx_runV (As := [.int (nI i)]) (rest := [.int 0, .ref ω]) ⟨hx, hb, hml, hown, hts⟩ (tt_K_turnS l hlT D cI cQ α ad an n σ hI i hi hT) (cwV 1 hts gd_L_17 rfl rfl rfl (by decide +kernel) ⟨Nat.le_of_ble_eq_true rfl, Nat.le_of_ble_eq_true rfl⟩) (x_preV hK2 hP hD hZ hSt (ci := 0) (q0 := 0) rfl kw_0) rfl rfl hl.1 rfl (lv_room (Nat.le_of_ble_eq_true rfl)) d_L_turn_4 ⟨Nat.le_of_ble_eq_true rfl, Nat.le_of_ble_eq_true rfl⟩) hS hown [⟨0, 9, 12, 13⟩] ⟨0, 9, 15, 15⟩ [] htb (fun z h => by rw [List.mem_singleton.mp h]; exact Or.inr ⟨by decide, E_A, hts _ lk_13, hSt.2.2⟩) (by decide) (by decide) (hts _ lk_15) (hSt.2.1 _ (List.mem_of_getElem? (i := 1) rfl)) (fun q9 H locs hz hk hS => ?_)
  refine lv_astore_n (lv' := [(3, .ref q9), (0, .ref (α 0)), (1, .int (nI i)), (2, .ref ω)]) hx hb d_L_turn_15 rfl hl (by decide) rfl (fun ls hl => ?_)
  refine lv_iconst (v := 2) hx hb d_L_turn_16 (by decide) ?_
  refine W.widen (k := 2) (n := 22) (Nat.le_of_ble_eq_true rfl) (Nat.le_of_ble_eq_true rfl) ?_
  exact vx_ret (W.iret (v := 2) hx hb hr (fun t ht _ => ⟨⟨2, (), rfl, rfl, by rw [ht]; exact vP_same hP hk, by rw [ht]; exact vP_same hO hk⟩, hS.F ht⟩) hS.2.2 d_L_turn_17 hlocks)

set_option maxHeartbeats 4000000 in
set_option maxRecDepth 100000 in
theorem hp_run (l : Launch) (hlT : l.stackTraces = false) (D : va_G) (cI cQ cL : ClassId) (α ad an : Nat → Nat) (n : Nat) (σ : kS) (hI : k_ok n σ.1) (ω N0 : Nat) (f : Nat → Int64) (hc0 : σ.1 12 = 0) (t r : Nat) (hrt : r ≤ t) (ht : t ≤ 300) (e6 : σ.1 6 = nI t) (e7 : σ.1 7 = nI r) : vx_Met l y_L_run w_L_run { frames := 7, cells := 2, slots := 22, locals := 159 } (hPc D cI cQ cL (kw_w cI cQ α ad an n σ) ω f N0 [.ref (α 0), .ref ω]) (hQ D cL 0 (kw_w cI cQ α ad an n ((kp_run n σ r (t - r)).2)) ω (vp_updL f 0 ((kp_run n σ r (t - r)).1).toInt64) (lA α ad an n ω N0)) xNo 2 22 (lA α ad an n ω N0) := by
  refine vx_ofWH (hh := h_L_run) (cc := b_L_run) (maxL := 3) (ret := some .int) (by decide) rfl ?_
  intro p e s m args below meth c s₁ B hml hv
  obtain ⟨rfl, hsz, hP, hO, hK, hD, hω, hZ, hSt⟩ := hv
  have hx := B.exec
  have hb := B.bytes
  have hr := B.returns
  have hts : ∀ w ∈ kT, w.before [.ref (α 0), .ref ω].toArray s = true := fun w h => atoms_spec (ws := w_L_run) B.pre w (List.mem_cons_of_mem _ h)
  have htb : c.exceptionTable.toList = tableOf h_L_run := vx_table (x := y_L_run) B (hts _ cd_L_run)
  have hown : s.vm.findClass R_L = some m.cls := findClass_of_methodNamed B.named
  have hlocks := B.notSynchronized
  subst hsz
  have hK2 : va_K D kcl (kty cI cQ) s := hK.sub (tys' := kty cI cQ) [0, 1] rfl
  have hAk : ∀ q ∈ kw_al α ad an n, lA α ad an n ω s.heap.size q := fun q h => Or.inr (Or.inl h)
  have hAw : ∀ q ∈ (kw_w cI cQ α ad an n σ), lA α ad an n ω s.heap.size q.1 := fun q h => hAk q.1 (by rw [← kw_adr (cI := cI) (cQ := cQ) (σ := σ)]; exact List.mem_map.mpr ⟨q, h, rfl⟩)
  have hoA : ∀ q ∈ [(ω, eL cL f)], q.1 ∉ kw_al α ad an n := fun q h h2 => by
    rw [List.mem_singleton.mp h, ← kw_adr (cI := cI) (cQ := cQ) (σ := σ)] at h2
    obtain ⟨z, hz, e9⟩ := List.mem_map.mp h2
    exact hω z hz e9
  have hS : va_S (lA α ad an n ω s.heap.size) s.heap s.heap [] := va_S.rf
  have hl := lv_entry ([.ref (α 0), .ref ω]) (n := 3) (Nat.le_of_ble_eq_true rfl)
  rw [lg_entry_eq]
  generalize (lg_sl ([.ref (α 0), .ref ω]) ++ List.replicate (3 - (lg_sl ([.ref (α 0), .ref ω])).length) Slot.unset).toArray = ls at hl ⊢
  have hl : lv_has ls 3 [(0, .ref (α 0)), (1, .ref ω)] := hl
  refine lv_aload_n hx hb d_L_run_0 rfl (lv_at hl 1 rfl) ?_
  refine lv_iconst (v := 0) hx hb d_L_run_1 (by decide) ?_
  refine lv_aload_n hx hb d_L_run_2 rfl (lv_at hl 0 rfl) ?_
  refine h_calli (va_runV (As := []) (rest := [.int 0, .ref ω]) ⟨hx, hb, hml, hown, hts⟩ (ct_K_run l D cI cQ α ad an n σ hI hc0 t r hrt ht e6 e7) (cwV 0 hts gd_L_21 rfl rfl rfl (by decide +kernel) ⟨Nat.le_of_ble_eq_true rfl, Nat.le_of_ble_eq_true rfl⟩) (g_preV hK2 hP hD (ci := 0) (q0 := 0) rfl kw_0) rfl rfl hl.1 rfl (lv_room (Nat.le_of_ble_eq_true rfl)) d_L_run_3 ⟨Nat.le_of_ble_eq_true rfl, Nat.le_of_ble_eq_true rfl⟩) hS hAk hO hoA (fun H locs hP hO _ _ hS => ?_)
  have hD := vd_addr (kw_addr ((kp_run n σ r (t - r)).2)) hD
  have hω : ∀ q ∈ (kw_w cI cQ α ad an n ((kp_run n σ r (t - r)).2)), q.1 ≠ ω := fun q hq e9 => by
    have h2 : q.1 ∈ (kw_w cI cQ α ad an n σ).map (fun q => q.1) := by rw [kw_addr ((kp_run n σ r (t - r)).2)]; exact List.mem_map.mpr ⟨q, hq, rfl⟩
    obtain ⟨z, hz, e8⟩ := List.mem_map.mp h2
    exact hω z hz (e8.trans e9)
  have hAw : ∀ q ∈ (kw_w cI cQ α ad an n ((kp_run n σ r (t - r)).2)), lA α ad an n ω s.heap.size q.1 := fun q h => hAk q.1 (by rw [← kw_adr (cI := cI) (cQ := cQ) (σ := (kp_run n σ r (t - r)).2)]; exact List.mem_map.mpr ⟨q, h, rfl⟩)
  refine lv_i2l hx hb d_L_run_6 rfl ?_
  refine x_last hx hb hK hP hO hD hω hAw (Or.inl rfl) hS 2 rfl d_L_run_7 (fun H locs hP hO hS => ?_)
  refine lv_goto (tgt := 14) hx hb d_L_run_8 (by decide) ?_
  refine lv_iconst (v := 0) hx hb d_L_run_14 (by decide) ?_
  refine W.widen (k := 2) (n := 22) (Nat.le_of_ble_eq_true rfl) (Nat.le_of_ble_eq_true rfl) ?_
  exact vx_ret (W.iret (v := 0) hx hb hr (fun t ht _ => ⟨⟨0, (), rfl, rfl, by rw [ht]; exact hP, by rw [ht]; exact hO⟩, hS.F ht⟩) hS.2.2 d_L_run_15 hlocks)

set_option maxHeartbeats 4000000 in
set_option maxRecDepth 100000 in
theorem hp_runS (l : Launch) (hlT : l.stackTraces = false) (D : va_G) (cI cQ cL : ClassId) (α ad an : Nat → Nat) (n : Nat) (σ : kS) (hI : k_ok n σ.1) (ω N0 : Nat) (f : Nat → Int64) (hT : ¬ σ.1 12 = 0) : vx_Met l y_L_run w_L_run { frames := 7, cells := 2, slots := 22, locals := 113 } (hPc D cI cQ cL (kw_w cI cQ α ad an n σ) ω f N0 [.ref (α 0), .ref ω]) (hQ D cL 1 (kw_w cI cQ α ad an n σ) ω (f) (lA α ad an n ω N0)) xNo 2 22 (lA α ad an n ω N0) := by
  refine vx_ofWH (hh := h_L_run) (cc := b_L_run) (maxL := 3) (ret := some .int) (by decide) rfl ?_
  intro p e s m args below meth c s₁ B hml hv
  obtain ⟨rfl, hsz, hP, hO, hK, hD, hω, hZ, hSt⟩ := hv
  have hx := B.exec
  have hb := B.bytes
  have hr := B.returns
  have hts : ∀ w ∈ kT, w.before [.ref (α 0), .ref ω].toArray s = true := fun w h => atoms_spec (ws := w_L_run) B.pre w (List.mem_cons_of_mem _ h)
  have htb : c.exceptionTable.toList = tableOf h_L_run := vx_table (x := y_L_run) B (hts _ cd_L_run)
  have hown : s.vm.findClass R_L = some m.cls := findClass_of_methodNamed B.named
  have hlocks := B.notSynchronized
  subst hsz
  have hK2 : va_K D kcl (kty cI cQ) s := hK.sub (tys' := kty cI cQ) [0, 1] rfl
  have hAk : ∀ q ∈ kw_al α ad an n, lA α ad an n ω s.heap.size q := fun q h => Or.inr (Or.inl h)
  have hAw : ∀ q ∈ (kw_w cI cQ α ad an n σ), lA α ad an n ω s.heap.size q.1 := fun q h => hAk q.1 (by rw [← kw_adr (cI := cI) (cQ := cQ) (σ := σ)]; exact List.mem_map.mpr ⟨q, h, rfl⟩)
  have hoA : ∀ q ∈ [(ω, eL cL f)], q.1 ∉ kw_al α ad an n := fun q h h2 => by
    rw [List.mem_singleton.mp h, ← kw_adr (cI := cI) (cQ := cQ) (σ := σ)] at h2
    obtain ⟨z, hz, e9⟩ := List.mem_map.mp h2
    exact hω z hz e9
  have hS : va_S (lA α ad an n ω s.heap.size) s.heap s.heap [] := va_S.rf
  have hl := lv_entry ([.ref (α 0), .ref ω]) (n := 3) (Nat.le_of_ble_eq_true rfl)
  rw [lg_entry_eq]
  generalize (lg_sl ([.ref (α 0), .ref ω]) ++ List.replicate (3 - (lg_sl ([.ref (α 0), .ref ω])).length) Slot.unset).toArray = ls at hl ⊢
  have hl : lv_has ls 3 [(0, .ref (α 0)), (1, .ref ω)] := hl
  refine lv_aload_n hx hb d_L_run_0 rfl (lv_at hl 1 rfl) ?_
  refine lv_iconst (v := 0) hx hb d_L_run_1 (by decide) ?_
  refine lv_aload_n hx hb d_L_run_2 rfl (lv_at hl 0 rfl) ?_
  refine h_thr (E := E_S) (vx_runV (As := []) (rest := [.int 0, .ref ω]) ⟨hx, hb, hml, hown, hts⟩ (tt_K_runS l hlT D cI cQ α ad an n σ hI hT) (cwV 0 hts gd_L_21 rfl rfl rfl (by decide +kernel) ⟨Nat.le_of_ble_eq_true rfl, Nat.le_of_ble_eq_true rfl⟩) (x_preV hK2 hP hD hZ hSt (ci := 0) (q0 := 0) rfl kw_0) rfl rfl hl.1 rfl (lv_room (Nat.le_of_ble_eq_true rfl)) d_L_run_3 ⟨Nat.le_of_ble_eq_true rfl, Nat.le_of_ble_eq_true rfl⟩) hS hown [] ⟨0, 8, 11, 15⟩ [] htb (fun z h => by cases h) (by decide) (by decide) (hts _ lk_15) (hSt.2.1 _ (List.mem_of_getElem? (i := 1) rfl)) (fun q9 H locs hz hk hS => ?_)
  refine lv_astore_n (lv' := [(2, .ref q9), (0, .ref (α 0)), (1, .ref ω)]) hx hb d_L_run_11 rfl hl (by decide) rfl (fun ls hl => ?_)
  refine lv_iconst (v := 1) hx hb d_L_run_12 (by decide) ?_
  refine W.widen (k := 2) (n := 22) (Nat.le_of_ble_eq_true rfl) (Nat.le_of_ble_eq_true rfl) ?_
  exact vx_ret (W.iret (v := 1) hx hb hr (fun t ht _ => ⟨⟨1, (), rfl, rfl, by rw [ht]; exact vP_same hP hk, by rw [ht]; exact vP_same hO hk⟩, hS.F ht⟩) hS.2.2 d_L_run_13 hlocks)

set_option maxHeartbeats 4000000 in
set_option maxRecDepth 100000 in
theorem hp_holder (l : Launch) (hlT : l.stackTraces = false) (D : va_G) (cI cQ cL : ClassId) (α ad an : Nat → Nat) (n : Nat) (σ : kS) (hI : k_ok n σ.1) (ω N0 : Nat) (f : Nat → Int64) (z : Nat) (hz : z < 16) : vx_Met l y_L_holder w_L_holder { frames := 2, cells := 2, slots := 22, locals := 41 } (hPc D cI cQ cL (kw_w cI cQ α ad an n σ) ω f N0 [.ref (α 0), .int (nI z), .ref ω]) (hQ D cL 0 (kw_w cI cQ α ad an n σ) ω (vp_updL f 0 (σ.2.1 0 z).toInt64) (lA α ad an n ω N0)) xNo 2 22 (lA α ad an n ω N0) := by
  refine vx_ofWH (hh := h_L_holder) (cc := b_L_holder) (maxL := 4) (ret := some .int) (by decide) rfl ?_
  intro p e s m args below meth c s₁ B hml hv
  obtain ⟨rfl, hsz, hP, hO, hK, hD, hω, hZ, hSt⟩ := hv
  have hx := B.exec
  have hb := B.bytes
  have hr := B.returns
  have hts : ∀ w ∈ kT, w.before [.ref (α 0), .int (nI z), .ref ω].toArray s = true := fun w h => atoms_spec (ws := w_L_holder) B.pre w (List.mem_cons_of_mem _ h)
  have htb : c.exceptionTable.toList = tableOf h_L_holder := vx_table (x := y_L_holder) B (hts _ cd_L_holder)
  have hown : s.vm.findClass R_L = some m.cls := findClass_of_methodNamed B.named
  have hlocks := B.notSynchronized
  subst hsz
  have hK2 : va_K D kcl (kty cI cQ) s := hK.sub (tys' := kty cI cQ) [0, 1] rfl
  have hAk : ∀ q ∈ kw_al α ad an n, lA α ad an n ω s.heap.size q := fun q h => Or.inr (Or.inl h)
  have hAw : ∀ q ∈ (kw_w cI cQ α ad an n σ), lA α ad an n ω s.heap.size q.1 := fun q h => hAk q.1 (by rw [← kw_adr (cI := cI) (cQ := cQ) (σ := σ)]; exact List.mem_map.mpr ⟨q, h, rfl⟩)
  have hoA : ∀ q ∈ [(ω, eL cL f)], q.1 ∉ kw_al α ad an n := fun q h h2 => by
    rw [List.mem_singleton.mp h, ← kw_adr (cI := cI) (cQ := cQ) (σ := σ)] at h2
    obtain ⟨z, hz, e9⟩ := List.mem_map.mp h2
    exact hω z hz e9
  have hS : va_S (lA α ad an n ω s.heap.size) s.heap s.heap [] := va_S.rf
  have hl := lv_entry ([.ref (α 0), .int (nI z), .ref ω]) (n := 4) (Nat.le_of_ble_eq_true rfl)
  rw [lg_entry_eq]
  generalize (lg_sl ([.ref (α 0), .int (nI z), .ref ω]) ++ List.replicate (4 - (lg_sl ([.ref (α 0), .int (nI z), .ref ω])).length) Slot.unset).toArray = ls at hl ⊢
  have hl : lv_has ls 4 [(0, .ref (α 0)), (1, .int (nI z)), (2, .ref ω)] := hl
  refine lv_aload_n hx hb d_L_holder_0 rfl (lv_at hl 2 rfl) ?_
  refine lv_iconst (v := 0) hx hb d_L_holder_1 (by decide) ?_
  refine lv_aload_n hx hb d_L_holder_2 rfl (lv_at hl 0 rfl) ?_
  refine lv_iload_n hx hb d_L_holder_3 rfl (lv_at hl 1 rfl) ?_
  refine r_calli (W.runV (As := [.int (nI z)]) (rest := [.int 0, .ref ω]) ⟨hx, hb, hml, hown, hts⟩ (ct_K_holder l D cI cQ α ad an n σ hI z hz) (cwV 1 hts gd_L_25 rfl rfl rfl (by decide +kernel) ⟨Nat.le_of_ble_eq_true rfl, Nat.le_of_ble_eq_true rfl⟩) (g_preV hK2 hP hD (ci := 0) (q0 := 0) rfl kw_0) rfl rfl hl.1 rfl (lv_room (Nat.le_of_ble_eq_true rfl)) d_L_holder_4 ⟨Nat.le_of_ble_eq_true rfl, Nat.le_of_ble_eq_true rfl⟩) ?_
  refine lv_i2l hx hb d_L_holder_7 rfl ?_
  refine x_last hx hb hK hP hO hD hω hAw (Or.inl rfl) hS 2 rfl d_L_holder_8 (fun H locs hP hO hS => ?_)
  refine lv_goto (tgt := 15) hx hb d_L_holder_9 (by decide) ?_
  refine lv_iconst (v := 0) hx hb d_L_holder_15 (by decide) ?_
  refine W.widen (k := 2) (n := 22) (Nat.le_of_ble_eq_true rfl) (Nat.le_of_ble_eq_true rfl) ?_
  exact vx_ret (W.iret (v := 0) hx hb hr (fun t ht _ => ⟨⟨0, (), rfl, rfl, by rw [ht]; exact hP, by rw [ht]; exact hO⟩, hS.F ht⟩) hS.2.2 d_L_holder_16 hlocks)

set_option maxHeartbeats 4000000 in
set_option maxRecDepth 100000 in
theorem hp_holderA (l : Launch) (hlT : l.stackTraces = false) (D : va_G) (cI cQ cL : ClassId) (α ad an : Nat → Nat) (n : Nat) (σ : kS) (hI : k_ok n σ.1) (ω N0 : Nat) (f : Nat → Int64) (x : Int32) (hT : kd_sub x = 0) : vx_Met l y_L_holder w_L_holder { frames := 7, cells := 2, slots := 22, locals := 111 } (hPc D cI cQ cL (kw_w cI cQ α ad an n σ) ω f N0 [.ref (α 0), .int x, .ref ω]) (hQ D cL 1 (kw_w cI cQ α ad an n σ) ω (f) (lA α ad an n ω N0)) xNo 2 22 (lA α ad an n ω N0) := by
  refine vx_ofWH (hh := h_L_holder) (cc := b_L_holder) (maxL := 4) (ret := some .int) (by decide) rfl ?_
  intro p e s m args below meth c s₁ B hml hv
  obtain ⟨rfl, hsz, hP, hO, hK, hD, hω, hZ, hSt⟩ := hv
  have hx := B.exec
  have hb := B.bytes
  have hr := B.returns
  have hts : ∀ w ∈ kT, w.before [.ref (α 0), .int x, .ref ω].toArray s = true := fun w h => atoms_spec (ws := w_L_holder) B.pre w (List.mem_cons_of_mem _ h)
  have htb : c.exceptionTable.toList = tableOf h_L_holder := vx_table (x := y_L_holder) B (hts _ cd_L_holder)
  have hown : s.vm.findClass R_L = some m.cls := findClass_of_methodNamed B.named
  have hlocks := B.notSynchronized
  subst hsz
  have hK2 : va_K D kcl (kty cI cQ) s := hK.sub (tys' := kty cI cQ) [0, 1] rfl
  have hAk : ∀ q ∈ kw_al α ad an n, lA α ad an n ω s.heap.size q := fun q h => Or.inr (Or.inl h)
  have hAw : ∀ q ∈ (kw_w cI cQ α ad an n σ), lA α ad an n ω s.heap.size q.1 := fun q h => hAk q.1 (by rw [← kw_adr (cI := cI) (cQ := cQ) (σ := σ)]; exact List.mem_map.mpr ⟨q, h, rfl⟩)
  have hoA : ∀ q ∈ [(ω, eL cL f)], q.1 ∉ kw_al α ad an n := fun q h h2 => by
    rw [List.mem_singleton.mp h, ← kw_adr (cI := cI) (cQ := cQ) (σ := σ)] at h2
    obtain ⟨z, hz, e9⟩ := List.mem_map.mp h2
    exact hω z hz e9
  have hS : va_S (lA α ad an n ω s.heap.size) s.heap s.heap [] := va_S.rf
  have hl := lv_entry ([.ref (α 0), .int x, .ref ω]) (n := 4) (Nat.le_of_ble_eq_true rfl)
  rw [lg_entry_eq]
  generalize (lg_sl ([.ref (α 0), .int x, .ref ω]) ++ List.replicate (4 - (lg_sl ([.ref (α 0), .int x, .ref ω])).length) Slot.unset).toArray = ls at hl ⊢
  have hl : lv_has ls 4 [(0, .ref (α 0)), (1, .int x), (2, .ref ω)] := hl
  refine lv_aload_n hx hb d_L_holder_0 rfl (lv_at hl 2 rfl) ?_
  refine lv_iconst (v := 0) hx hb d_L_holder_1 (by decide) ?_
  refine lv_aload_n hx hb d_L_holder_2 rfl (lv_at hl 0 rfl) ?_
  refine lv_iload_n hx hb d_L_holder_3 rfl (lv_at hl 1 rfl) ?_
  refine h_thr (E := E_A) (vx_runV (As := [.int x]) (rest := [.int 0, .ref ω]) ⟨hx, hb, hml, hown, hts⟩ (tt_K_holderA l hlT D cI cQ α ad an n σ hI x hT) (cwV 1 hts gd_L_25 rfl rfl rfl (by decide +kernel) ⟨Nat.le_of_ble_eq_true rfl, Nat.le_of_ble_eq_true rfl⟩) (x_preV hK2 hP hD hZ hSt (ci := 0) (q0 := 0) rfl kw_0) rfl rfl hl.1 rfl (lv_room (Nat.le_of_ble_eq_true rfl)) d_L_holder_4 ⟨Nat.le_of_ble_eq_true rfl, Nat.le_of_ble_eq_true rfl⟩) hS hown [] ⟨0, 9, 12, 13⟩ [] htb (fun z h => by cases h) (by decide) (by decide) (hts _ lk_13) (hSt.2.1 _ (List.mem_of_getElem? (i := 0) rfl)) (fun q9 H locs hz hk hS => ?_)
  refine lv_astore_n (lv' := [(3, .ref q9), (0, .ref (α 0)), (1, .int x), (2, .ref ω)]) hx hb d_L_holder_12 rfl hl (by decide) rfl (fun ls hl => ?_)
  refine lv_iconst (v := 1) hx hb d_L_holder_13 (by decide) ?_
  refine W.widen (k := 2) (n := 22) (Nat.le_of_ble_eq_true rfl) (Nat.le_of_ble_eq_true rfl) ?_
  exact vx_ret (W.iret (v := 1) hx hb hr (fun t ht _ => ⟨⟨1, (), rfl, rfl, by rw [ht]; exact vP_same hP hk, by rw [ht]; exact vP_same hO hk⟩, hS.F ht⟩) hS.2.2 d_L_holder_14 hlocks)

set_option maxHeartbeats 4000000 in
set_option maxRecDepth 100000 in
theorem hp_waits (l : Launch) (hlT : l.stackTraces = false) (D : va_G) (cI cQ cL : ClassId) (α ad an : Nat → Nat) (n : Nat) (σ : kS) (hI : k_ok n σ.1) (ω N0 : Nat) (f : Nat → Int64) (z : Nat) (hz : z < 16) (y : Int32) : vx_Met l y_L_waits w_L_waits { frames := 3, cells := 2, slots := 22, locals := 71 } (hPc D cI cQ cL (kw_w cI cQ α ad an n σ) ω f N0 [.ref (α 0), .int (nI z), .int y, .ref ω]) (hQ D cL 0 (kw_w cI cQ α ad an n σ) ω (vp_updL f 0 (kp_wt σ n z y).toInt64) (lA α ad an n ω N0)) xNo 2 22 (lA α ad an n ω N0) := by
  refine vx_ofWH (hh := h_L_waits) (cc := b_L_waits) (maxL := 5) (ret := some .int) (by decide) rfl ?_
  intro p e s m args below meth c s₁ B hml hv
  obtain ⟨rfl, hsz, hP, hO, hK, hD, hω, hZ, hSt⟩ := hv
  have hx := B.exec
  have hb := B.bytes
  have hr := B.returns
  have hts : ∀ w ∈ kT, w.before [.ref (α 0), .int (nI z), .int y, .ref ω].toArray s = true := fun w h => atoms_spec (ws := w_L_waits) B.pre w (List.mem_cons_of_mem _ h)
  have htb : c.exceptionTable.toList = tableOf h_L_waits := vx_table (x := y_L_waits) B (hts _ cd_L_waits)
  have hown : s.vm.findClass R_L = some m.cls := findClass_of_methodNamed B.named
  have hlocks := B.notSynchronized
  subst hsz
  have hK2 : va_K D kcl (kty cI cQ) s := hK.sub (tys' := kty cI cQ) [0, 1] rfl
  have hAk : ∀ q ∈ kw_al α ad an n, lA α ad an n ω s.heap.size q := fun q h => Or.inr (Or.inl h)
  have hAw : ∀ q ∈ (kw_w cI cQ α ad an n σ), lA α ad an n ω s.heap.size q.1 := fun q h => hAk q.1 (by rw [← kw_adr (cI := cI) (cQ := cQ) (σ := σ)]; exact List.mem_map.mpr ⟨q, h, rfl⟩)
  have hoA : ∀ q ∈ [(ω, eL cL f)], q.1 ∉ kw_al α ad an n := fun q h h2 => by
    rw [List.mem_singleton.mp h, ← kw_adr (cI := cI) (cQ := cQ) (σ := σ)] at h2
    obtain ⟨z, hz, e9⟩ := List.mem_map.mp h2
    exact hω z hz e9
  have hS : va_S (lA α ad an n ω s.heap.size) s.heap s.heap [] := va_S.rf
  have hl := lv_entry ([.ref (α 0), .int (nI z), .int y, .ref ω]) (n := 5) (Nat.le_of_ble_eq_true rfl)
  rw [lg_entry_eq]
  generalize (lg_sl ([.ref (α 0), .int (nI z), .int y, .ref ω]) ++ List.replicate (5 - (lg_sl ([.ref (α 0), .int (nI z), .int y, .ref ω])).length) Slot.unset).toArray = ls at hl ⊢
  have hl : lv_has ls 5 [(0, .ref (α 0)), (1, .int (nI z)), (2, .int y), (3, .ref ω)] := hl
  refine lv_aload_n hx hb d_L_waits_0 rfl (lv_at hl 3 rfl) ?_
  refine lv_iconst (v := 0) hx hb d_L_waits_1 (by decide) ?_
  refine lv_aload_n hx hb d_L_waits_2 rfl (lv_at hl 0 rfl) ?_
  refine lv_iload_n hx hb d_L_waits_3 rfl (lv_at hl 1 rfl) ?_
  refine lv_iload_n hx hb d_L_waits_4 rfl (lv_at hl 2 rfl) ?_
  refine r_calli (W.runV (As := [.int (nI z), .int y]) (rest := [.int 0, .ref ω]) ⟨hx, hb, hml, hown, hts⟩ (ct_K_waits l D cI cQ α ad an n σ hI z hz y) (cwV 2 hts gd_L_28 rfl rfl rfl (by decide +kernel) ⟨Nat.le_of_ble_eq_true rfl, Nat.le_of_ble_eq_true rfl⟩) (g_preV hK2 hP hD (ci := 0) (q0 := 0) rfl kw_0) rfl rfl hl.1 rfl (lv_room (Nat.le_of_ble_eq_true rfl)) d_L_waits_5 ⟨Nat.le_of_ble_eq_true rfl, Nat.le_of_ble_eq_true rfl⟩) ?_
  refine lv_i2l hx hb d_L_waits_8 rfl ?_
  refine x_last hx hb hK hP hO hD hω hAw (Or.inl rfl) hS 2 rfl d_L_waits_9 (fun H locs hP hO hS => ?_)
  refine lv_goto (tgt := 17) hx hb d_L_waits_10 (by decide) ?_
  refine lv_iconst (v := 0) hx hb d_L_waits_17 (by decide) ?_
  refine W.widen (k := 2) (n := 22) (Nat.le_of_ble_eq_true rfl) (Nat.le_of_ble_eq_true rfl) ?_
  exact vx_ret (W.iret (v := 0) hx hb hr (fun t ht _ => ⟨⟨0, (), rfl, rfl, by rw [ht]; exact hP, by rw [ht]; exact hO⟩, hS.F ht⟩) hS.2.2 d_L_waits_18 hlocks)

set_option maxHeartbeats 4000000 in
set_option maxRecDepth 100000 in
theorem hp_waitsA (l : Launch) (hlT : l.stackTraces = false) (D : va_G) (cI cQ cL : ClassId) (α ad an : Nat → Nat) (n : Nat) (σ : kS) (hI : k_ok n σ.1) (ω N0 : Nat) (f : Nat → Int64) (x y : Int32) (hT : kd_sub x = 0) : vx_Met l y_L_waits w_L_waits { frames := 7, cells := 2, slots := 22, locals := 113 } (hPc D cI cQ cL (kw_w cI cQ α ad an n σ) ω f N0 [.ref (α 0), .int x, .int y, .ref ω]) (hQ D cL 1 (kw_w cI cQ α ad an n σ) ω (f) (lA α ad an n ω N0)) xNo 2 22 (lA α ad an n ω N0) := by
  refine vx_ofWH (hh := h_L_waits) (cc := b_L_waits) (maxL := 5) (ret := some .int) (by decide) rfl ?_
  intro p e s m args below meth c s₁ B hml hv
  obtain ⟨rfl, hsz, hP, hO, hK, hD, hω, hZ, hSt⟩ := hv
  have hx := B.exec
  have hb := B.bytes
  have hr := B.returns
  have hts : ∀ w ∈ kT, w.before [.ref (α 0), .int x, .int y, .ref ω].toArray s = true := fun w h => atoms_spec (ws := w_L_waits) B.pre w (List.mem_cons_of_mem _ h)
  have htb : c.exceptionTable.toList = tableOf h_L_waits := vx_table (x := y_L_waits) B (hts _ cd_L_waits)
  have hown : s.vm.findClass R_L = some m.cls := findClass_of_methodNamed B.named
  have hlocks := B.notSynchronized
  subst hsz
  have hK2 : va_K D kcl (kty cI cQ) s := hK.sub (tys' := kty cI cQ) [0, 1] rfl
  have hAk : ∀ q ∈ kw_al α ad an n, lA α ad an n ω s.heap.size q := fun q h => Or.inr (Or.inl h)
  have hAw : ∀ q ∈ (kw_w cI cQ α ad an n σ), lA α ad an n ω s.heap.size q.1 := fun q h => hAk q.1 (by rw [← kw_adr (cI := cI) (cQ := cQ) (σ := σ)]; exact List.mem_map.mpr ⟨q, h, rfl⟩)
  have hoA : ∀ q ∈ [(ω, eL cL f)], q.1 ∉ kw_al α ad an n := fun q h h2 => by
    rw [List.mem_singleton.mp h, ← kw_adr (cI := cI) (cQ := cQ) (σ := σ)] at h2
    obtain ⟨z, hz, e9⟩ := List.mem_map.mp h2
    exact hω z hz e9
  have hS : va_S (lA α ad an n ω s.heap.size) s.heap s.heap [] := va_S.rf
  have hl := lv_entry ([.ref (α 0), .int x, .int y, .ref ω]) (n := 5) (Nat.le_of_ble_eq_true rfl)
  rw [lg_entry_eq]
  generalize (lg_sl ([.ref (α 0), .int x, .int y, .ref ω]) ++ List.replicate (5 - (lg_sl ([.ref (α 0), .int x, .int y, .ref ω])).length) Slot.unset).toArray = ls at hl ⊢
  have hl : lv_has ls 5 [(0, .ref (α 0)), (1, .int x), (2, .int y), (3, .ref ω)] := hl
  refine lv_aload_n hx hb d_L_waits_0 rfl (lv_at hl 3 rfl) ?_
  refine lv_iconst (v := 0) hx hb d_L_waits_1 (by decide) ?_
  refine lv_aload_n hx hb d_L_waits_2 rfl (lv_at hl 0 rfl) ?_
  refine lv_iload_n hx hb d_L_waits_3 rfl (lv_at hl 1 rfl) ?_
  refine lv_iload_n hx hb d_L_waits_4 rfl (lv_at hl 2 rfl) ?_
  refine h_thr (E := E_A) (vx_runV (As := [.int x, .int y]) (rest := [.int 0, .ref ω]) ⟨hx, hb, hml, hown, hts⟩ (tt_K_waitsA l hlT D cI cQ α ad an n σ hI x y hT) (cwV 2 hts gd_L_28 rfl rfl rfl (by decide +kernel) ⟨Nat.le_of_ble_eq_true rfl, Nat.le_of_ble_eq_true rfl⟩) (x_preV hK2 hP hD hZ hSt (ci := 0) (q0 := 0) rfl kw_0) rfl rfl hl.1 rfl (lv_room (Nat.le_of_ble_eq_true rfl)) d_L_waits_5 ⟨Nat.le_of_ble_eq_true rfl, Nat.le_of_ble_eq_true rfl⟩) hS hown [] ⟨0, 10, 13, 13⟩ [] htb (fun z h => by cases h) (by decide) (by decide) (hts _ lk_13) (hSt.2.1 _ (List.mem_of_getElem? (i := 0) rfl)) (fun q9 H locs hz hk hS => ?_)
  refine lv_astore (lv' := [(4, .ref q9), (0, .ref (α 0)), (1, .int x), (2, .int y), (3, .ref ω)]) hx hb d_L_waits_13 hl (by decide) rfl (fun ls hl => ?_)
  refine lv_iconst (v := 1) hx hb d_L_waits_15 (by decide) ?_
  refine W.widen (k := 2) (n := 22) (Nat.le_of_ble_eq_true rfl) (Nat.le_of_ble_eq_true rfl) ?_
  exact vx_ret (W.iret (v := 1) hx hb hr (fun t ht _ => ⟨⟨1, (), rfl, rfl, by rw [ht]; exact vP_same hP hk, by rw [ht]; exact vP_same hO hk⟩, hS.F ht⟩) hS.2.2 d_L_waits_16 hlocks)

set_option maxHeartbeats 4000000 in
set_option maxRecDepth 100000 in
theorem hp_dead (l : Launch) (hlT : l.stackTraces = false) (D : va_G) (cI cQ cL : ClassId) (α ad an : Nat → Nat) (n : Nat) (σ : kS) (hI : k_ok n σ.1) (ω N0 : Nat) (f : Nat → Int64) (i : Nat) (hi : i < n) : vx_Met l y_L_dead w_L_dead { frames := 3, cells := 2, slots := 22, locals := 63 } (hPc D cI cQ cL (kw_w cI cQ α ad an n σ) ω f N0 [.ref (α 0), .int (nI i), .ref ω]) (hQ D cL 0 (kw_w cI cQ α ad an n ((kp_dead σ i).2)) ω (vp_updL f 0 ((kp_dead σ i).1).toInt64) (lA α ad an n ω N0)) xNo 2 22 (lA α ad an n ω N0) := by
  refine vx_ofWH (hh := h_L_dead) (cc := b_L_dead) (maxL := 4) (ret := some .int) (by decide) rfl ?_
  intro p e s m args below meth c s₁ B hml hv
  obtain ⟨rfl, hsz, hP, hO, hK, hD, hω, hZ, hSt⟩ := hv
  have hx := B.exec
  have hb := B.bytes
  have hr := B.returns
  have hts : ∀ w ∈ kT, w.before [.ref (α 0), .int (nI i), .ref ω].toArray s = true := fun w h => atoms_spec (ws := w_L_dead) B.pre w (List.mem_cons_of_mem _ h)
  have htb : c.exceptionTable.toList = tableOf h_L_dead := vx_table (x := y_L_dead) B (hts _ cd_L_dead)
  have hown : s.vm.findClass R_L = some m.cls := findClass_of_methodNamed B.named
  have hlocks := B.notSynchronized
  subst hsz
  have hK2 : va_K D kcl (kty cI cQ) s := hK.sub (tys' := kty cI cQ) [0, 1] rfl
  have hAk : ∀ q ∈ kw_al α ad an n, lA α ad an n ω s.heap.size q := fun q h => Or.inr (Or.inl h)
  have hAw : ∀ q ∈ (kw_w cI cQ α ad an n σ), lA α ad an n ω s.heap.size q.1 := fun q h => hAk q.1 (by rw [← kw_adr (cI := cI) (cQ := cQ) (σ := σ)]; exact List.mem_map.mpr ⟨q, h, rfl⟩)
  have hoA : ∀ q ∈ [(ω, eL cL f)], q.1 ∉ kw_al α ad an n := fun q h h2 => by
    rw [List.mem_singleton.mp h, ← kw_adr (cI := cI) (cQ := cQ) (σ := σ)] at h2
    obtain ⟨z, hz, e9⟩ := List.mem_map.mp h2
    exact hω z hz e9
  have hS : va_S (lA α ad an n ω s.heap.size) s.heap s.heap [] := va_S.rf
  have hl := lv_entry ([.ref (α 0), .int (nI i), .ref ω]) (n := 4) (Nat.le_of_ble_eq_true rfl)
  rw [lg_entry_eq]
  generalize (lg_sl ([.ref (α 0), .int (nI i), .ref ω]) ++ List.replicate (4 - (lg_sl ([.ref (α 0), .int (nI i), .ref ω])).length) Slot.unset).toArray = ls at hl ⊢
  have hl : lv_has ls 4 [(0, .ref (α 0)), (1, .int (nI i)), (2, .ref ω)] := hl
  refine lv_aload_n hx hb d_L_dead_0 rfl (lv_at hl 2 rfl) ?_
  refine lv_iconst (v := 0) hx hb d_L_dead_1 (by decide) ?_
  refine lv_aload_n hx hb d_L_dead_2 rfl (lv_at hl 0 rfl) ?_
  refine lv_iload_n hx hb d_L_dead_3 rfl (lv_at hl 1 rfl) ?_
  refine h_calli (va_runV (As := [.int (nI i)]) (rest := [.int 0, .ref ω]) ⟨hx, hb, hml, hown, hts⟩ (ct_K_dead l D cI cQ α ad an n σ hI i hi) (cwV 1 hts gd_L_31 rfl rfl rfl (by decide +kernel) ⟨Nat.le_of_ble_eq_true rfl, Nat.le_of_ble_eq_true rfl⟩) (g_preV hK2 hP hD (ci := 0) (q0 := 0) rfl kw_0) rfl rfl hl.1 rfl (lv_room (Nat.le_of_ble_eq_true rfl)) d_L_dead_4 ⟨Nat.le_of_ble_eq_true rfl, Nat.le_of_ble_eq_true rfl⟩) hS hAk hO hoA (fun H locs hP hO _ _ hS => ?_)
  have hD := vd_addr (kw_addr ((kp_dead σ i).2)) hD
  have hω : ∀ q ∈ (kw_w cI cQ α ad an n ((kp_dead σ i).2)), q.1 ≠ ω := fun q hq e9 => by
    have h2 : q.1 ∈ (kw_w cI cQ α ad an n σ).map (fun q => q.1) := by rw [kw_addr ((kp_dead σ i).2)]; exact List.mem_map.mpr ⟨q, hq, rfl⟩
    obtain ⟨z, hz, e8⟩ := List.mem_map.mp h2
    exact hω z hz (e8.trans e9)
  have hAw : ∀ q ∈ (kw_w cI cQ α ad an n ((kp_dead σ i).2)), lA α ad an n ω s.heap.size q.1 := fun q h => hAk q.1 (by rw [← kw_adr (cI := cI) (cQ := cQ) (σ := (kp_dead σ i).2)]; exact List.mem_map.mpr ⟨q, h, rfl⟩)
  refine lv_i2l hx hb d_L_dead_7 rfl ?_
  refine x_last hx hb hK hP hO hD hω hAw (Or.inl rfl) hS 2 rfl d_L_dead_8 (fun H locs hP hO hS => ?_)
  refine lv_goto (tgt := 15) hx hb d_L_dead_9 (by decide) ?_
  refine lv_iconst (v := 0) hx hb d_L_dead_15 (by decide) ?_
  refine W.widen (k := 2) (n := 22) (Nat.le_of_ble_eq_true rfl) (Nat.le_of_ble_eq_true rfl) ?_
  exact vx_ret (W.iret (v := 0) hx hb hr (fun t ht _ => ⟨⟨0, (), rfl, rfl, by rw [ht]; exact hP, by rw [ht]; exact hO⟩, hS.F ht⟩) hS.2.2 d_L_dead_16 hlocks)

set_option maxHeartbeats 4000000 in
set_option maxRecDepth 100000 in
theorem hp_deadA (l : Launch) (hlT : l.stackTraces = false) (D : va_G) (cI cQ cL : ClassId) (α ad an : Nat → Nat) (n : Nat) (σ : kS) (hI : k_ok n σ.1) (ω N0 : Nat) (f : Nat → Int64) (x : Int32) (hT : kd_at n x = none) : vx_Met l y_L_dead w_L_dead { frames := 7, cells := 2, slots := 22, locals := 112 } (hPc D cI cQ cL (kw_w cI cQ α ad an n σ) ω f N0 [.ref (α 0), .int x, .ref ω]) (hQ D cL 1 (kw_w cI cQ α ad an n σ) ω (f) (lA α ad an n ω N0)) xNo 2 22 (lA α ad an n ω N0) := by
  refine vx_ofWH (hh := h_L_dead) (cc := b_L_dead) (maxL := 4) (ret := some .int) (by decide) rfl ?_
  intro p e s m args below meth c s₁ B hml hv
  obtain ⟨rfl, hsz, hP, hO, hK, hD, hω, hZ, hSt⟩ := hv
  have hx := B.exec
  have hb := B.bytes
  have hr := B.returns
  have hts : ∀ w ∈ kT, w.before [.ref (α 0), .int x, .ref ω].toArray s = true := fun w h => atoms_spec (ws := w_L_dead) B.pre w (List.mem_cons_of_mem _ h)
  have htb : c.exceptionTable.toList = tableOf h_L_dead := vx_table (x := y_L_dead) B (hts _ cd_L_dead)
  have hown : s.vm.findClass R_L = some m.cls := findClass_of_methodNamed B.named
  have hlocks := B.notSynchronized
  subst hsz
  have hK2 : va_K D kcl (kty cI cQ) s := hK.sub (tys' := kty cI cQ) [0, 1] rfl
  have hAk : ∀ q ∈ kw_al α ad an n, lA α ad an n ω s.heap.size q := fun q h => Or.inr (Or.inl h)
  have hAw : ∀ q ∈ (kw_w cI cQ α ad an n σ), lA α ad an n ω s.heap.size q.1 := fun q h => hAk q.1 (by rw [← kw_adr (cI := cI) (cQ := cQ) (σ := σ)]; exact List.mem_map.mpr ⟨q, h, rfl⟩)
  have hoA : ∀ q ∈ [(ω, eL cL f)], q.1 ∉ kw_al α ad an n := fun q h h2 => by
    rw [List.mem_singleton.mp h, ← kw_adr (cI := cI) (cQ := cQ) (σ := σ)] at h2
    obtain ⟨z, hz, e9⟩ := List.mem_map.mp h2
    exact hω z hz e9
  have hS : va_S (lA α ad an n ω s.heap.size) s.heap s.heap [] := va_S.rf
  have hl := lv_entry ([.ref (α 0), .int x, .ref ω]) (n := 4) (Nat.le_of_ble_eq_true rfl)
  rw [lg_entry_eq]
  generalize (lg_sl ([.ref (α 0), .int x, .ref ω]) ++ List.replicate (4 - (lg_sl ([.ref (α 0), .int x, .ref ω])).length) Slot.unset).toArray = ls at hl ⊢
  have hl : lv_has ls 4 [(0, .ref (α 0)), (1, .int x), (2, .ref ω)] := hl
  refine lv_aload_n hx hb d_L_dead_0 rfl (lv_at hl 2 rfl) ?_
  refine lv_iconst (v := 0) hx hb d_L_dead_1 (by decide) ?_
  refine lv_aload_n hx hb d_L_dead_2 rfl (lv_at hl 0 rfl) ?_
  refine lv_iload_n hx hb d_L_dead_3 rfl (lv_at hl 1 rfl) ?_
  refine h_thr (E := E_A) (vx_runV (As := [.int x]) (rest := [.int 0, .ref ω]) ⟨hx, hb, hml, hown, hts⟩ (tt_K_deadA l hlT D cI cQ α ad an n σ hI x hT) (cwV 1 hts gd_L_31 rfl rfl rfl (by decide +kernel) ⟨Nat.le_of_ble_eq_true rfl, Nat.le_of_ble_eq_true rfl⟩) (x_preV hK2 hP hD hZ hSt (ci := 0) (q0 := 0) rfl kw_0) rfl rfl hl.1 rfl (lv_room (Nat.le_of_ble_eq_true rfl)) d_L_dead_4 ⟨Nat.le_of_ble_eq_true rfl, Nat.le_of_ble_eq_true rfl⟩) hS hown [] ⟨0, 9, 12, 13⟩ [] htb (fun z h => by cases h) (by decide) (by decide) (hts _ lk_13) (hSt.2.1 _ (List.mem_of_getElem? (i := 0) rfl)) (fun q9 H locs hz hk hS => ?_)
  refine lv_astore_n (lv' := [(3, .ref q9), (0, .ref (α 0)), (1, .int x), (2, .ref ω)]) hx hb d_L_dead_12 rfl hl (by decide) rfl (fun ls hl => ?_)
  refine lv_iconst (v := 1) hx hb d_L_dead_13 (by decide) ?_
  refine W.widen (k := 2) (n := 22) (Nat.le_of_ble_eq_true rfl) (Nat.le_of_ble_eq_true rfl) ?_
  exact vx_ret (W.iret (v := 1) hx hb hr (fun t ht _ => ⟨⟨1, (), rfl, rfl, by rw [ht]; exact vP_same hP hk, by rw [ht]; exact vP_same hO hk⟩, hS.F ht⟩) hS.2.2 d_L_dead_14 hlocks)

set_option maxHeartbeats 4000000 in
set_option maxRecDepth 100000 in
theorem hp_tick (l : Launch) (hlT : l.stackTraces = false) (D : va_G) (cI cQ cL : ClassId) (α ad an : Nat → Nat) (n : Nat) (σ : kS) (hI : k_ok n σ.1) (ω N0 : Nat) (f : Nat → Int64) (x : Int32) (hx1 : ¬ x < σ.1 11) (hx2 : x ≤ 100000) : vx_Met l y_L_tick w_L_tick { frames := 4, cells := 2, slots := 22, locals := 93 } (hPc D cI cQ cL (kw_w cI cQ α ad an n σ) ω f N0 [.ref (α 0), .int x, .ref ω]) (hQ D cL 0 (kw_w cI cQ α ad an n ((kd_tickp n (k_f σ 11 x) 16).2)) ω (vp_updL f 0 ((kd_tickp n (k_f σ 11 x) 16).1).toInt64) (lA α ad an n ω N0)) xNo 2 22 (lA α ad an n ω N0) := by
  refine vx_ofWH (hh := h_L_tick) (cc := b_L_tick) (maxL := 4) (ret := some .int) (by decide) rfl ?_
  intro p e s m args below meth c s₁ B hml hv
  obtain ⟨rfl, hsz, hP, hO, hK, hD, hω, hZ, hSt⟩ := hv
  have hx := B.exec
  have hb := B.bytes
  have hr := B.returns
  have hts : ∀ w ∈ kT, w.before [.ref (α 0), .int x, .ref ω].toArray s = true := fun w h => atoms_spec (ws := w_L_tick) B.pre w (List.mem_cons_of_mem _ h)
  have htb : c.exceptionTable.toList = tableOf h_L_tick := vx_table (x := y_L_tick) B (hts _ cd_L_tick)
  have hown : s.vm.findClass R_L = some m.cls := findClass_of_methodNamed B.named
  have hlocks := B.notSynchronized
  subst hsz
  have hK2 : va_K D kcl (kty cI cQ) s := hK.sub (tys' := kty cI cQ) [0, 1] rfl
  have hAk : ∀ q ∈ kw_al α ad an n, lA α ad an n ω s.heap.size q := fun q h => Or.inr (Or.inl h)
  have hAw : ∀ q ∈ (kw_w cI cQ α ad an n σ), lA α ad an n ω s.heap.size q.1 := fun q h => hAk q.1 (by rw [← kw_adr (cI := cI) (cQ := cQ) (σ := σ)]; exact List.mem_map.mpr ⟨q, h, rfl⟩)
  have hoA : ∀ q ∈ [(ω, eL cL f)], q.1 ∉ kw_al α ad an n := fun q h h2 => by
    rw [List.mem_singleton.mp h, ← kw_adr (cI := cI) (cQ := cQ) (σ := σ)] at h2
    obtain ⟨z, hz, e9⟩ := List.mem_map.mp h2
    exact hω z hz e9
  have hS : va_S (lA α ad an n ω s.heap.size) s.heap s.heap [] := va_S.rf
  have hl := lv_entry ([.ref (α 0), .int x, .ref ω]) (n := 4) (Nat.le_of_ble_eq_true rfl)
  rw [lg_entry_eq]
  generalize (lg_sl ([.ref (α 0), .int x, .ref ω]) ++ List.replicate (4 - (lg_sl ([.ref (α 0), .int x, .ref ω])).length) Slot.unset).toArray = ls at hl ⊢
  have hl : lv_has ls 4 [(0, .ref (α 0)), (1, .int x), (2, .ref ω)] := hl
  refine lv_aload_n hx hb d_L_tick_0 rfl (lv_at hl 2 rfl) ?_
  refine lv_iconst (v := 0) hx hb d_L_tick_1 (by decide) ?_
  refine lv_aload_n hx hb d_L_tick_2 rfl (lv_at hl 0 rfl) ?_
  refine lv_iload_n hx hb d_L_tick_3 rfl (lv_at hl 1 rfl) ?_
  refine h_calli (va_runV (As := [.int x]) (rest := [.int 0, .ref ω]) ⟨hx, hb, hml, hown, hts⟩ (ct_K_tick l D cI cQ α ad an n σ hI x hx1 hx2) (cwV 1 hts gd_L_34 rfl rfl rfl (by decide +kernel) ⟨Nat.le_of_ble_eq_true rfl, Nat.le_of_ble_eq_true rfl⟩) (g_preV hK2 hP hD (ci := 0) (q0 := 0) rfl kw_0) rfl rfl hl.1 rfl (lv_room (Nat.le_of_ble_eq_true rfl)) d_L_tick_4 ⟨Nat.le_of_ble_eq_true rfl, Nat.le_of_ble_eq_true rfl⟩) hS hAk hO hoA (fun H locs hP hO _ _ hS => ?_)
  have hD := vd_addr (kw_addr ((kd_tickp n (k_f σ 11 x) 16).2)) hD
  have hω : ∀ q ∈ (kw_w cI cQ α ad an n ((kd_tickp n (k_f σ 11 x) 16).2)), q.1 ≠ ω := fun q hq e9 => by
    have h2 : q.1 ∈ (kw_w cI cQ α ad an n σ).map (fun q => q.1) := by rw [kw_addr ((kd_tickp n (k_f σ 11 x) 16).2)]; exact List.mem_map.mpr ⟨q, hq, rfl⟩
    obtain ⟨z, hz, e8⟩ := List.mem_map.mp h2
    exact hω z hz (e8.trans e9)
  have hAw : ∀ q ∈ (kw_w cI cQ α ad an n ((kd_tickp n (k_f σ 11 x) 16).2)), lA α ad an n ω s.heap.size q.1 := fun q h => hAk q.1 (by rw [← kw_adr (cI := cI) (cQ := cQ) (σ := (kd_tickp n (k_f σ 11 x) 16).2)]; exact List.mem_map.mpr ⟨q, h, rfl⟩)
  refine lv_i2l hx hb d_L_tick_7 rfl ?_
  refine x_last hx hb hK hP hO hD hω hAw (Or.inl rfl) hS 2 rfl d_L_tick_8 (fun H locs hP hO hS => ?_)
  refine lv_goto (tgt := 15) hx hb d_L_tick_9 (by decide) ?_
  refine lv_iconst (v := 0) hx hb d_L_tick_15 (by decide) ?_
  refine W.widen (k := 2) (n := 22) (Nat.le_of_ble_eq_true rfl) (Nat.le_of_ble_eq_true rfl) ?_
  exact vx_ret (W.iret (v := 0) hx hb hr (fun t ht _ => ⟨⟨0, (), rfl, rfl, by rw [ht]; exact hP, by rw [ht]; exact hO⟩, hS.F ht⟩) hS.2.2 d_L_tick_16 hlocks)

set_option maxHeartbeats 4000000 in
set_option maxRecDepth 100000 in
theorem hp_tickA (l : Launch) (hlT : l.stackTraces = false) (D : va_G) (cI cQ cL : ClassId) (α ad an : Nat → Nat) (n : Nat) (σ : kS) (hI : k_ok n σ.1) (ω N0 : Nat) (f : Nat → Int64) (x : Int32) (hT : ¬ (¬ x < σ.1 11 ∧ x ≤ 100000)) : vx_Met l y_L_tick w_L_tick { frames := 7, cells := 2, slots := 22, locals := 113 } (hPc D cI cQ cL (kw_w cI cQ α ad an n σ) ω f N0 [.ref (α 0), .int x, .ref ω]) (hQ D cL 1 (kw_w cI cQ α ad an n σ) ω (f) (lA α ad an n ω N0)) xNo 2 22 (lA α ad an n ω N0) := by
  refine vx_ofWH (hh := h_L_tick) (cc := b_L_tick) (maxL := 4) (ret := some .int) (by decide) rfl ?_
  intro p e s m args below meth c s₁ B hml hv
  obtain ⟨rfl, hsz, hP, hO, hK, hD, hω, hZ, hSt⟩ := hv
  have hx := B.exec
  have hb := B.bytes
  have hr := B.returns
  have hts : ∀ w ∈ kT, w.before [.ref (α 0), .int x, .ref ω].toArray s = true := fun w h => atoms_spec (ws := w_L_tick) B.pre w (List.mem_cons_of_mem _ h)
  have htb : c.exceptionTable.toList = tableOf h_L_tick := vx_table (x := y_L_tick) B (hts _ cd_L_tick)
  have hown : s.vm.findClass R_L = some m.cls := findClass_of_methodNamed B.named
  have hlocks := B.notSynchronized
  subst hsz
  have hK2 : va_K D kcl (kty cI cQ) s := hK.sub (tys' := kty cI cQ) [0, 1] rfl
  have hAk : ∀ q ∈ kw_al α ad an n, lA α ad an n ω s.heap.size q := fun q h => Or.inr (Or.inl h)
  have hAw : ∀ q ∈ (kw_w cI cQ α ad an n σ), lA α ad an n ω s.heap.size q.1 := fun q h => hAk q.1 (by rw [← kw_adr (cI := cI) (cQ := cQ) (σ := σ)]; exact List.mem_map.mpr ⟨q, h, rfl⟩)
  have hoA : ∀ q ∈ [(ω, eL cL f)], q.1 ∉ kw_al α ad an n := fun q h h2 => by
    rw [List.mem_singleton.mp h, ← kw_adr (cI := cI) (cQ := cQ) (σ := σ)] at h2
    obtain ⟨z, hz, e9⟩ := List.mem_map.mp h2
    exact hω z hz e9
  have hS : va_S (lA α ad an n ω s.heap.size) s.heap s.heap [] := va_S.rf
  have hl := lv_entry ([.ref (α 0), .int x, .ref ω]) (n := 4) (Nat.le_of_ble_eq_true rfl)
  rw [lg_entry_eq]
  generalize (lg_sl ([.ref (α 0), .int x, .ref ω]) ++ List.replicate (4 - (lg_sl ([.ref (α 0), .int x, .ref ω])).length) Slot.unset).toArray = ls at hl ⊢
  have hl : lv_has ls 4 [(0, .ref (α 0)), (1, .int x), (2, .ref ω)] := hl
  refine lv_aload_n hx hb d_L_tick_0 rfl (lv_at hl 2 rfl) ?_
  refine lv_iconst (v := 0) hx hb d_L_tick_1 (by decide) ?_
  refine lv_aload_n hx hb d_L_tick_2 rfl (lv_at hl 0 rfl) ?_
  refine lv_iload_n hx hb d_L_tick_3 rfl (lv_at hl 1 rfl) ?_
  refine h_thr (E := E_A) (vx_runV (As := [.int x]) (rest := [.int 0, .ref ω]) ⟨hx, hb, hml, hown, hts⟩ (tt_K_tickA l hlT D cI cQ α ad an n σ hI x hT) (cwV 1 hts gd_L_34 rfl rfl rfl (by decide +kernel) ⟨Nat.le_of_ble_eq_true rfl, Nat.le_of_ble_eq_true rfl⟩) (x_preV hK2 hP hD hZ hSt (ci := 0) (q0 := 0) rfl kw_0) rfl rfl hl.1 rfl (lv_room (Nat.le_of_ble_eq_true rfl)) d_L_tick_4 ⟨Nat.le_of_ble_eq_true rfl, Nat.le_of_ble_eq_true rfl⟩) hS hown [] ⟨0, 9, 12, 13⟩ [] htb (fun z h => by cases h) (by decide) (by decide) (hts _ lk_13) (hSt.2.1 _ (List.mem_of_getElem? (i := 0) rfl)) (fun q9 H locs hz hk hS => ?_)
  refine lv_astore_n (lv' := [(3, .ref q9), (0, .ref (α 0)), (1, .int x), (2, .ref ω)]) hx hb d_L_tick_12 rfl hl (by decide) rfl (fun ls hl => ?_)
  refine lv_iconst (v := 1) hx hb d_L_tick_13 (by decide) ?_
  refine W.widen (k := 2) (n := 22) (Nat.le_of_ble_eq_true rfl) (Nat.le_of_ble_eq_true rfl) ?_
  exact vx_ret (W.iret (v := 1) hx hb hr (fun t ht _ => ⟨⟨1, (), rfl, rfl, by rw [ht]; exact vP_same hP hk, by rw [ht]; exact vP_same hO hk⟩, hS.F ht⟩) hS.2.2 d_L_tick_14 hlocks)

set_option maxHeartbeats 4000000 in
set_option maxRecDepth 100000 in
theorem hp_look (l : Launch) (hlT : l.stackTraces = false) (D : va_G) (cI cQ cL : ClassId) (α ad an : Nat → Nat) (n : Nat) (σ : kS) (hI : k_ok n σ.1) (ω N0 : Nat) (f : Nat → Int64) (i : Nat) (hi : i < n) (y : Int32) (hy0 : y = 0 ∨ y = 1 ∨ y = 2 ∨ y = 3 ∨ y = 4) : vx_Met l y_L_look w_L_look { frames := 2, cells := 2, slots := 22, locals := 46 } (hPc D cI cQ cL (kw_w cI cQ α ad an n σ) ω f N0 [.ref (α 0), .int (nI i), .int y, .ref ω]) (hQ D cL 0 (kw_w cI cQ α ad an n σ) ω (vp_updL f 0 (kp_look σ i y).toInt64) (lA α ad an n ω N0)) xNo 2 22 (lA α ad an n ω N0) := by
  refine vx_ofWH (hh := h_L_look) (cc := b_L_look) (maxL := 5) (ret := some .int) (by decide) rfl ?_
  intro p e s m args below meth c s₁ B hml hv
  obtain ⟨rfl, hsz, hP, hO, hK, hD, hω, hZ, hSt⟩ := hv
  have hx := B.exec
  have hb := B.bytes
  have hr := B.returns
  have hts : ∀ w ∈ kT, w.before [.ref (α 0), .int (nI i), .int y, .ref ω].toArray s = true := fun w h => atoms_spec (ws := w_L_look) B.pre w (List.mem_cons_of_mem _ h)
  have htb : c.exceptionTable.toList = tableOf h_L_look := vx_table (x := y_L_look) B (hts _ cd_L_look)
  have hown : s.vm.findClass R_L = some m.cls := findClass_of_methodNamed B.named
  have hlocks := B.notSynchronized
  subst hsz
  have hK2 : va_K D kcl (kty cI cQ) s := hK.sub (tys' := kty cI cQ) [0, 1] rfl
  have hAk : ∀ q ∈ kw_al α ad an n, lA α ad an n ω s.heap.size q := fun q h => Or.inr (Or.inl h)
  have hAw : ∀ q ∈ (kw_w cI cQ α ad an n σ), lA α ad an n ω s.heap.size q.1 := fun q h => hAk q.1 (by rw [← kw_adr (cI := cI) (cQ := cQ) (σ := σ)]; exact List.mem_map.mpr ⟨q, h, rfl⟩)
  have hoA : ∀ q ∈ [(ω, eL cL f)], q.1 ∉ kw_al α ad an n := fun q h h2 => by
    rw [List.mem_singleton.mp h, ← kw_adr (cI := cI) (cQ := cQ) (σ := σ)] at h2
    obtain ⟨z, hz, e9⟩ := List.mem_map.mp h2
    exact hω z hz e9
  have hS : va_S (lA α ad an n ω s.heap.size) s.heap s.heap [] := va_S.rf
  have hl := lv_entry ([.ref (α 0), .int (nI i), .int y, .ref ω]) (n := 5) (Nat.le_of_ble_eq_true rfl)
  rw [lg_entry_eq]
  generalize (lg_sl ([.ref (α 0), .int (nI i), .int y, .ref ω]) ++ List.replicate (5 - (lg_sl ([.ref (α 0), .int (nI i), .int y, .ref ω])).length) Slot.unset).toArray = ls at hl ⊢
  have hl : lv_has ls 5 [(0, .ref (α 0)), (1, .int (nI i)), (2, .int y), (3, .ref ω)] := hl
  refine lv_aload_n hx hb d_L_look_0 rfl (lv_at hl 3 rfl) ?_
  refine lv_iconst (v := 0) hx hb d_L_look_1 (by decide) ?_
  refine lv_aload_n hx hb d_L_look_2 rfl (lv_at hl 0 rfl) ?_
  refine lv_iload_n hx hb d_L_look_3 rfl (lv_at hl 1 rfl) ?_
  refine lv_iload_n hx hb d_L_look_4 rfl (lv_at hl 2 rfl) ?_
  refine r_calli (W.runV (As := [.int (nI i), .int y]) (rest := [.int 0, .ref ω]) ⟨hx, hb, hml, hown, hts⟩ (ct_K_look l D cI cQ α ad an n σ hI i hi y hy0) (cwV 2 hts gd_L_37 rfl rfl rfl (by decide +kernel) ⟨Nat.le_of_ble_eq_true rfl, Nat.le_of_ble_eq_true rfl⟩) (g_preV hK2 hP hD (ci := 0) (q0 := 0) rfl kw_0) rfl rfl hl.1 rfl (lv_room (Nat.le_of_ble_eq_true rfl)) d_L_look_5 ⟨Nat.le_of_ble_eq_true rfl, Nat.le_of_ble_eq_true rfl⟩) ?_
  refine lv_i2l hx hb d_L_look_8 rfl ?_
  refine x_last hx hb hK hP hO hD hω hAw (Or.inl rfl) hS 2 rfl d_L_look_9 (fun H locs hP hO hS => ?_)
  refine lv_goto (tgt := 17) hx hb d_L_look_10 (by decide) ?_
  refine lv_iconst (v := 0) hx hb d_L_look_17 (by decide) ?_
  refine W.widen (k := 2) (n := 22) (Nat.le_of_ble_eq_true rfl) (Nat.le_of_ble_eq_true rfl) ?_
  exact vx_ret (W.iret (v := 0) hx hb hr (fun t ht _ => ⟨⟨0, (), rfl, rfl, by rw [ht]; exact hP, by rw [ht]; exact hO⟩, hS.F ht⟩) hS.2.2 d_L_look_18 hlocks)

set_option maxHeartbeats 4000000 in
set_option maxRecDepth 100000 in
theorem hp_lookX (l : Launch) (hlT : l.stackTraces = false) (D : va_G) (cI cQ cL : ClassId) (α ad an : Nat → Nat) (n : Nat) (σ : kS) (hI : k_ok n σ.1) (ω N0 : Nat) (f : Nat → Int64) (x y : Int32) (hT : kd_at n x = none) : vx_Met l y_L_look w_L_look { frames := 7, cells := 2, slots := 22, locals := 113 } (hPc D cI cQ cL (kw_w cI cQ α ad an n σ) ω f N0 [.ref (α 0), .int x, .int y, .ref ω]) (hQ D cL 1 (kw_w cI cQ α ad an n σ) ω (f) (lA α ad an n ω N0)) xNo 2 22 (lA α ad an n ω N0) := by
  refine vx_ofWH (hh := h_L_look) (cc := b_L_look) (maxL := 5) (ret := some .int) (by decide) rfl ?_
  intro p e s m args below meth c s₁ B hml hv
  obtain ⟨rfl, hsz, hP, hO, hK, hD, hω, hZ, hSt⟩ := hv
  have hx := B.exec
  have hb := B.bytes
  have hr := B.returns
  have hts : ∀ w ∈ kT, w.before [.ref (α 0), .int x, .int y, .ref ω].toArray s = true := fun w h => atoms_spec (ws := w_L_look) B.pre w (List.mem_cons_of_mem _ h)
  have htb : c.exceptionTable.toList = tableOf h_L_look := vx_table (x := y_L_look) B (hts _ cd_L_look)
  have hown : s.vm.findClass R_L = some m.cls := findClass_of_methodNamed B.named
  have hlocks := B.notSynchronized
  subst hsz
  have hK2 : va_K D kcl (kty cI cQ) s := hK.sub (tys' := kty cI cQ) [0, 1] rfl
  have hAk : ∀ q ∈ kw_al α ad an n, lA α ad an n ω s.heap.size q := fun q h => Or.inr (Or.inl h)
  have hAw : ∀ q ∈ (kw_w cI cQ α ad an n σ), lA α ad an n ω s.heap.size q.1 := fun q h => hAk q.1 (by rw [← kw_adr (cI := cI) (cQ := cQ) (σ := σ)]; exact List.mem_map.mpr ⟨q, h, rfl⟩)
  have hoA : ∀ q ∈ [(ω, eL cL f)], q.1 ∉ kw_al α ad an n := fun q h h2 => by
    rw [List.mem_singleton.mp h, ← kw_adr (cI := cI) (cQ := cQ) (σ := σ)] at h2
    obtain ⟨z, hz, e9⟩ := List.mem_map.mp h2
    exact hω z hz e9
  have hS : va_S (lA α ad an n ω s.heap.size) s.heap s.heap [] := va_S.rf
  have hl := lv_entry ([.ref (α 0), .int x, .int y, .ref ω]) (n := 5) (Nat.le_of_ble_eq_true rfl)
  rw [lg_entry_eq]
  generalize (lg_sl ([.ref (α 0), .int x, .int y, .ref ω]) ++ List.replicate (5 - (lg_sl ([.ref (α 0), .int x, .int y, .ref ω])).length) Slot.unset).toArray = ls at hl ⊢
  have hl : lv_has ls 5 [(0, .ref (α 0)), (1, .int x), (2, .int y), (3, .ref ω)] := hl
  refine lv_aload_n hx hb d_L_look_0 rfl (lv_at hl 3 rfl) ?_
  refine lv_iconst (v := 0) hx hb d_L_look_1 (by decide) ?_
  refine lv_aload_n hx hb d_L_look_2 rfl (lv_at hl 0 rfl) ?_
  refine lv_iload_n hx hb d_L_look_3 rfl (lv_at hl 1 rfl) ?_
  refine lv_iload_n hx hb d_L_look_4 rfl (lv_at hl 2 rfl) ?_
  refine h_thr (E := E_X) (vx_runV (As := [.int x, .int y]) (rest := [.int 0, .ref ω]) ⟨hx, hb, hml, hown, hts⟩ (tt_K_lookX l hlT D cI cQ α ad an n σ hI x y hT) (cwV 2 hts gd_L_37 rfl rfl rfl (by decide +kernel) ⟨Nat.le_of_ble_eq_true rfl, Nat.le_of_ble_eq_true rfl⟩) (x_preV hK2 hP hD hZ hSt (ci := 0) (q0 := 0) rfl kw_0) rfl rfl hl.1 rfl (lv_room (Nat.le_of_ble_eq_true rfl)) d_L_look_5 ⟨Nat.le_of_ble_eq_true rfl, Nat.le_of_ble_eq_true rfl⟩) hS hown [] ⟨0, 10, 13, 40⟩ [] htb (fun z h => by cases h) (by decide) (by decide) (hts _ lk_40) (hSt.2.1 _ (List.mem_of_getElem? (i := 2) rfl)) (fun q9 H locs hz hk hS => ?_)
  refine lv_astore (lv' := [(4, .ref q9), (0, .ref (α 0)), (1, .int x), (2, .int y), (3, .ref ω)]) hx hb d_L_look_13 hl (by decide) rfl (fun ls hl => ?_)
  refine lv_iconst (v := 1) hx hb d_L_look_15 (by decide) ?_
  refine W.widen (k := 2) (n := 22) (Nat.le_of_ble_eq_true rfl) (Nat.le_of_ble_eq_true rfl) ?_
  exact vx_ret (W.iret (v := 1) hx hb hr (fun t ht _ => ⟨⟨1, (), rfl, rfl, by rw [ht]; exact vP_same hP hk, by rw [ht]; exact vP_same hO hk⟩, hS.F ht⟩) hS.2.2 d_L_look_16 hlocks)

set_option maxHeartbeats 4000000 in
set_option maxRecDepth 100000 in
theorem hp_lookY (l : Launch) (hlT : l.stackTraces = false) (D : va_G) (cI cQ cL : ClassId) (α ad an : Nat → Nat) (n : Nat) (σ : kS) (hI : k_ok n σ.1) (ω N0 : Nat) (f : Nat → Int64) (i : Nat) (hi : i < n) (y : Int32) (hT : ¬ (y = 0 ∨ y = 1 ∨ y = 2 ∨ y = 3 ∨ y = 4)) : vx_Met l y_L_look w_L_look { frames := 7, cells := 2, slots := 22, locals := 113 } (hPc D cI cQ cL (kw_w cI cQ α ad an n σ) ω f N0 [.ref (α 0), .int (nI i), .int y, .ref ω]) (hQ D cL 1 (kw_w cI cQ α ad an n σ) ω (f) (lA α ad an n ω N0)) xNo 2 22 (lA α ad an n ω N0) := by
  refine vx_ofWH (hh := h_L_look) (cc := b_L_look) (maxL := 5) (ret := some .int) (by decide) rfl ?_
  intro p e s m args below meth c s₁ B hml hv
  obtain ⟨rfl, hsz, hP, hO, hK, hD, hω, hZ, hSt⟩ := hv
  have hx := B.exec
  have hb := B.bytes
  have hr := B.returns
  have hts : ∀ w ∈ kT, w.before [.ref (α 0), .int (nI i), .int y, .ref ω].toArray s = true := fun w h => atoms_spec (ws := w_L_look) B.pre w (List.mem_cons_of_mem _ h)
  have htb : c.exceptionTable.toList = tableOf h_L_look := vx_table (x := y_L_look) B (hts _ cd_L_look)
  have hown : s.vm.findClass R_L = some m.cls := findClass_of_methodNamed B.named
  have hlocks := B.notSynchronized
  subst hsz
  have hK2 : va_K D kcl (kty cI cQ) s := hK.sub (tys' := kty cI cQ) [0, 1] rfl
  have hAk : ∀ q ∈ kw_al α ad an n, lA α ad an n ω s.heap.size q := fun q h => Or.inr (Or.inl h)
  have hAw : ∀ q ∈ (kw_w cI cQ α ad an n σ), lA α ad an n ω s.heap.size q.1 := fun q h => hAk q.1 (by rw [← kw_adr (cI := cI) (cQ := cQ) (σ := σ)]; exact List.mem_map.mpr ⟨q, h, rfl⟩)
  have hoA : ∀ q ∈ [(ω, eL cL f)], q.1 ∉ kw_al α ad an n := fun q h h2 => by
    rw [List.mem_singleton.mp h, ← kw_adr (cI := cI) (cQ := cQ) (σ := σ)] at h2
    obtain ⟨z, hz, e9⟩ := List.mem_map.mp h2
    exact hω z hz e9
  have hS : va_S (lA α ad an n ω s.heap.size) s.heap s.heap [] := va_S.rf
  have hl := lv_entry ([.ref (α 0), .int (nI i), .int y, .ref ω]) (n := 5) (Nat.le_of_ble_eq_true rfl)
  rw [lg_entry_eq]
  generalize (lg_sl ([.ref (α 0), .int (nI i), .int y, .ref ω]) ++ List.replicate (5 - (lg_sl ([.ref (α 0), .int (nI i), .int y, .ref ω])).length) Slot.unset).toArray = ls at hl ⊢
  have hl : lv_has ls 5 [(0, .ref (α 0)), (1, .int (nI i)), (2, .int y), (3, .ref ω)] := hl
  refine lv_aload_n hx hb d_L_look_0 rfl (lv_at hl 3 rfl) ?_
  refine lv_iconst (v := 0) hx hb d_L_look_1 (by decide) ?_
  refine lv_aload_n hx hb d_L_look_2 rfl (lv_at hl 0 rfl) ?_
  refine lv_iload_n hx hb d_L_look_3 rfl (lv_at hl 1 rfl) ?_
  refine lv_iload_n hx hb d_L_look_4 rfl (lv_at hl 2 rfl) ?_
  refine h_thr (E := E_X) (vx_runV (As := [.int (nI i), .int y]) (rest := [.int 0, .ref ω]) ⟨hx, hb, hml, hown, hts⟩ (tt_K_lookY l hlT D cI cQ α ad an n σ hI i hi y hT) (cwV 2 hts gd_L_37 rfl rfl rfl (by decide +kernel) ⟨Nat.le_of_ble_eq_true rfl, Nat.le_of_ble_eq_true rfl⟩) (x_preV hK2 hP hD hZ hSt (ci := 0) (q0 := 0) rfl kw_0) rfl rfl hl.1 rfl (lv_room (Nat.le_of_ble_eq_true rfl)) d_L_look_5 ⟨Nat.le_of_ble_eq_true rfl, Nat.le_of_ble_eq_true rfl⟩) hS hown [] ⟨0, 10, 13, 40⟩ [] htb (fun z h => by cases h) (by decide) (by decide) (hts _ lk_40) (hSt.2.1 _ (List.mem_of_getElem? (i := 2) rfl)) (fun q9 H locs hz hk hS => ?_)
  refine lv_astore (lv' := [(4, .ref q9), (0, .ref (α 0)), (1, .int (nI i)), (2, .int y), (3, .ref ω)]) hx hb d_L_look_13 hl (by decide) rfl (fun ls hl => ?_)
  refine lv_iconst (v := 1) hx hb d_L_look_15 (by decide) ?_
  refine W.widen (k := 2) (n := 22) (Nat.le_of_ble_eq_true rfl) (Nat.le_of_ble_eq_true rfl) ?_
  exact vx_ret (W.iret (v := 1) hx hb hr (fun t ht _ => ⟨⟨1, (), rfl, rfl, by rw [ht]; exact vP_same hP hk, by rw [ht]; exact vP_same hO hk⟩, hS.F ht⟩) hS.2.2 d_L_look_16 hlocks)
