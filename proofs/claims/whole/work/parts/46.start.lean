theorem is_K : Cond.instantiable R_K 13 ∈ kT := mk_T 13 rfl rfl
theorem is_M : Cond.instantiable R_M 21 ∈ kT := mk_T 389 rfl rfl
theorem cl_L_8 : Cond.classLink R_L 8 R_K ∈ kT := mk_T 12 rfl rfl
theorem cl_L_43 : Cond.classLink R_L 43 R_M ∈ kT := mk_T 388 rfl rfl
theorem tb_in {w : Cond} (i : Nat) (h : tables_1[i]? = some w) : w ∈ lw_tbl := List.mem_append_right _ (List.mem_of_getElem? h)
set_option maxRecDepth 100000 in
theorem xBs_in : ∀ w ∈ xBs, w ∈ lw_tbl := by decide +kernel
theorem gi_K : GoodIn kT w_K_init := by
  intro w hw
  have h : w ∈ kT := by
    rcases List.mem_cons.mp hw with rfl | h
    · exact cd_K_init
    · exact h
  exact ⟨h, kT_good w h⟩
theorem gi_M : GoodIn kT w_M_init := by
  intro w hw
  have h : w ∈ kT := by
    rcases List.mem_cons.mp hw with rfl | h
    · exact cd_M_init
    · exact h
  exact ⟨h, kT_good w h⟩
set_option maxRecDepth 1000000 in
set_option maxHeartbeats 4000000 in
theorem xSt_of {s : State} {b : Nat} (hts0 : ∀ w ∈ lw_tbl, w.before #[Value.ref b] s = true) (hgv : (Jvm.Cond.and given_1 narrow_1).before #[Value.ref b] s = true) : xSt s := by
  have hs := flat_of_before _ hgv
  refine ⟨fun q hq => ?_, fun w hw => va_Nw.of (xBs_on w hw) (hts0 w (xBs_in w hw)), va_Nc.of (hs (.not (.castable E_S E_A)) (by decide +kernel))⟩
  have str : ∀ (k : Nat) (tx : String), Cond.stringRef R_K k tx ∈ lw_tbl → Cond.exactly (.string R_K k) "java/lang/String" ∈ flatC (Jvm.Cond.and given_1 narrow_1) → ∃ sa, vk_R R_K k tx sa s := by
    intro k tx h1 h2
    obtain ⟨a, -, -, -, ha, -⟩ := Cond.exactly_spec (hs _ h2)
    exact ⟨a, vk_R.of (hts0 _ h1) ha⟩
  simp only [xStrs, List.mem_cons, List.not_mem_nil, or_false] at hq
  rcases hq with rfl | rfl | rfl | rfl | rfl | rfl | rfl | rfl | rfl
  · exact str 62 _ (tb_in 199 rfl) (by decide +kernel)
  · exact str 67 _ (tb_in 226 rfl) (by decide +kernel)
  · exact str 71 _ (tb_in 236 rfl) (by decide +kernel)
  · exact str 103 _ (tb_in 294 rfl) (by decide +kernel)
  · exact str 105 _ (tb_in 295 rfl) (by decide +kernel)
  · exact str 107 _ (tb_in 303 rfl) (by decide +kernel)
  · exact str 111 _ (tb_in 327 rfl) (by decide +kernel)
  · exact str 148 _ (tb_in 359 rfl) (by decide +kernel)
  · exact str 170 _ (tb_in 387 rfl) (by decide +kernel)
set_option maxRecDepth 1000000 in
theorem xZ_of {s : State} {b : Nat} (hts0 : ∀ w ∈ lw_tbl, w.before #[Value.ref b] s = true) (hgv : (Jvm.Cond.and given_1 narrow_1).before #[Value.ref b] s = true) : xZ s s.heap := by
  have hs := flat_of_before _ hgv
  exact ⟨vx_Zqof (hts0 _ (tb_in 185 rfl)) (hts0 _ (tb_in 4 rfl)) (hs (.isRef (.static Bundle.tN "UNASSIGNED_STACK" Bundle.steD)) (by decide +kernel)) (fun _ _ h => h), vx_Zqof (hts0 _ (tb_in 187 rfl)) (hts0 _ (tb_in 4 rfl)) (hs (.isRef (.static Bundle.tN "SUPPRESSED_SENTINEL" Bundle.listD)) (by decide +kernel)) (fun _ _ h => h)⟩
set_option maxRecDepth 100000 in
theorem lw_known {s : State} {b : Nat} (hts0 : ∀ w ∈ lw_tbl, w.before #[Value.ref b] s = true) : ∃ (D : va_G) (cI cQ cL : ClassId), va_K D kcl (ktl cI cQ cL) s ∧ va_AO R_D s := by
  have hts : ∀ w ∈ kT, w.before #[Value.ref b] s = true := fun w h => hts0 w (kT_tbl w h)
  obtain ⟨c0, iS0, hKn0⟩ := u_known (C := R_K) (T := T_K) (N := 13) (n := 13) hts in_K (hts _ is_K)
  obtain ⟨c1, iS1, hKn1⟩ := u_known (C := R_D) (T := T_D) (N := 10) (n := 10) hts in_D (hts _ is_D)
  obtain ⟨c2, iS2, hKn2⟩ := u_known (C := R_M) (T := T_M) (N := 21) (n := 21) hts in_M (hts _ is_M)
  obtain ⟨cI, kI, compI, i1, i2, i3⟩ := Cond.arrayClass_spec (hts _ aw_int)
  obtain ⟨cL, kL, compL, l1, l2, l3⟩ := Cond.arrayClass_spec (hts _ aw_long)
  have hAO : va_AO R_D s := va_AO.of (hts0 (Cond.arrayOver (.object R_D)) (tb_in 21 rfl))
  obtain ⟨compQ, cQ, kQ, q1, q2, q3, q4, q5⟩ := Cond.arrayOver_spec hAO
  refine ⟨(fun k => if k = 0 then c0 else if k = 1 then c1 else c2, fun k => if k = 0 then iS0 else if k = 1 then iS1 else iS2), cI, cQ, cL, ⟨?_, ?_⟩, hAO⟩
  · intro k q hq
    match k, hq with
    | 0, hq => cases hq; exact hKn0
    | 1, hq => cases hq; exact hKn1
    | 2, hq => cases hq; exact hKn2
    | k + 3, hq => simp [kcl] at hq
  · intro k q hq
    match k, hq with
    | 0, hq => cases hq; exact ⟨fun n z => ⟨fun k h => (by cases h), kI, i2, compI, i3⟩, i1⟩
    | 1, hq => cases hq; exact ⟨fun n z => ⟨fun k h => (by cases h), kQ, q3, compQ, q4⟩, kQ, compQ, q3, q4, q1, q5⟩
    | 2, hq => cases hq; exact ⟨fun n z => ⟨fun k h => (by cases h), kL, l2, compL, l3⟩, l1⟩
    | k + 3, hq => simp [ktl] at hq
theorem kw_al0 {α : Nat → Nat} {q : Nat} (h : q ∈ kw_al α (fun _ => 0) (fun _ => 0) 0) : ∃ k, q = α k := by
  simp only [kw_al, List.range_zero, List.map_nil, List.append_nil, List.mem_cons, List.not_mem_nil, or_false] at h
  rcases h with h | h | h | h | h | h
  · exact ⟨0, h⟩
  · exact ⟨1, h⟩
  · exact ⟨2, h⟩
  · exact ⟨3, h⟩
  · exact ⟨4, h⟩
  · exact ⟨5, h⟩
theorem mw_al0 {β : Nat → Nat} {q : Nat} (h : q ∈ mw_al β) : ∃ k, q = β k := by
  simp only [mw_al, List.mem_cons, List.not_mem_nil, or_false] at h
  rcases h with h | h | h | h | h | h | h | h | h | h | h | h | h <;> exact ⟨_, h⟩
set_option maxHeartbeats 4000000 in
set_option maxRecDepth 100000 in
/-- from the entry, for every script of at most 2048 ints, the law comes to its end with true -/
theorem whole_start {p : Program} {e : Env} {s : State} {m : MethodId} {below : List Frame} {meth : Method} {c : Code} (l : Launch) (hlT : l.stackTraces = false) {b L : Nat} {xs : Nat → Int32} (hL : L ≤ 2048) (C0 : lw_At p s m meth c b L xs) : W p l e room_1 s m #[Value.ref b] below meth c s.heap [] 0 0 (lw_Z below #[Value.ref b] s) (entryFrame m ([Value.ref b] : List Value).toArray 7) := by
  obtain ⟨hx, hb, hr, hml, hown, hts0, hX, hbl, hlocks, hgv⟩ := id C0
  have hown : s.vm.findClass R_L = some m.cls := hown
  have hts : ∀ w ∈ kT, w.before #[Value.ref b] s = true := fun w h => hts0 w (kT_tbl w h)
  obtain ⟨D, cI, cQ, cL, hK, hAO⟩ := lw_known hts0
  have hK2 : va_K D kcl (kty cI cQ) s := hK.sub (tys' := kty cI cQ) [0, 1] rfl
  have C : lw_C p s m c b L xs D cI cQ cL := ⟨hx, hb, hml, hown, hts, hX, hbl, hK, xZ_of hts0 hgv, xSt_of hts0 hgv⟩
  have hA : ∀ q : Nat, s.heap.size ≤ q → (fun q : Nat => s.heap.size ≤ q) q := fun _ h => h
  have hS : va_S (fun q : Nat => s.heap.size ≤ q) s.heap s.heap [] := va_S.rf
  have hP : va_P D kcl [] s.heap := fun k q h => by simp at h
  have hD : va_D (fun q : Nat => s.heap.size ≤ q) [] := ⟨fun i j p q h => by simp at h, fun k q h => by simp at h⟩
  have hl := lv_entry ([.ref b]) (n := 7) (Nat.le_of_ble_eq_true rfl)
  rw [lg_entry_eq]
  generalize (lg_sl ([.ref b]) ++ List.replicate (7 - (lg_sl ([.ref b])).length) Slot.unset).toArray = ls at hl ⊢
  have hl : lv_has ls 7 [(0, .ref b)] := hl
  refine va_new (ci := 0) (fs := [.null, .int 0, .null, .null, .int 0, .null, .int 0, .int 0, .int 0, .null, .int 0, .int 0, .int 0]) (C := R_K) (T := T_K) (N := 13) hx hb hts in_K ty_K ty_K_ok hown (hts _ cl_L_8) (hts _ is_K) (hts _ ini_K) hK hP hD hS hA rfl (fun j hj => by rcases (show j = 0 ∨ j = 1 ∨ j = 2 ∨ j = 3 ∨ j = 4 ∨ j = 5 ∨ j = 6 ∨ j = 7 ∨ j = 8 ∨ j = 9 ∨ j = 10 ∨ j = 11 ∨ j = 12 by omega) with rfl | rfl | rfl | rfl | rfl | rfl | rfl | rfl | rfl | rfl | rfl | rfl | rfl <;> rfl) (Nat.le_of_ble_eq_true rfl) (Nat.le_of_ble_eq_true rfl) d_L_law_0 (fun o H hP hD hS => ?_)
  refine W.widen (k := 1) (n := 13) (Nat.le_of_ble_eq_true rfl) (Nat.le_of_ble_eq_true rfl) ?_
  have hP : va_P D kcl [(o, d0_K)] H := hP
  have hD : va_D (fun q : Nat => s.heap.size ≤ q) [(o, d0_K)] := hD
  have ho : s.heap.size ≤ o := hD.2 0 _ rfl
  have hoH : o < H.size := (hP 0 _ rfl).lt
  refine lv_dup hx hb d_L_law_3 rfl ?_
  have hFc : ∀ q, va_A [(o, d0_K)] H.size q → s.heap.size ≤ q := fun q h => by
    rcases va_A1 h with h | h
    · rw [h]; exact ho
    · exact Nat.le_trans hS.1 h
  refine va_callv (va_runI (As := []) (rest := [.ref o]) ⟨hx, hb, hml, hown, hts⟩ (ct_K_init l D cI cQ o H.size) (cwI 0 hts gi_K rfl rfl rfl (hts _ ini_K) (hts _ ml_L_42) (hts _ im_K_init) rfl (by decide +kernel) ⟨Nat.le_of_ble_eq_true rfl, Nat.le_of_ble_eq_true rfl⟩) ⟨fun a U g mk q => ⟨q.1, q.2.1, q.2.2.1, va_K.moved (u := U) (U := U.calling g mk a) (Vm.Alike.refl U.vm) q.2.2.2.1, va_AO.moved (u := U) (U := U.calling g mk a) (Vm.Alike.refl U.vm) q.2.2.2.2⟩, fun U hU hW => ⟨rfl, by rw [hU], by rw [hU]; exact hP, va_K.moved hW.alike hK2, va_AO.moved hW.alike hAO⟩⟩ rfl rfl hl.1 rfl (lv_room (Nat.le_of_ble_eq_true rfl)) d_L_law_4 ⟨Nat.le_of_ble_eq_true rfl, Nat.le_of_ble_eq_true rfl⟩) hS (fun q _ h => hFc q h) (fun q h => hFc q h) (fun α t H1 locs1 ht _ hα hB hz hk1 hS1 => ?_)
  obtain ⟨hα0, hαk, hDk⟩ := hα
  rw [ht] at hB
  refine W.widen (k := 6) (n := 753) (Nat.le_of_ble_eq_true rfl) (Nat.le_of_ble_eq_true rfl) ?_
  have hαs : ∀ k, s.heap.size ≤ α k := fun k => by
    rcases Nat.eq_zero_or_pos k with h | h
    · rw [h, hα0]; exact ho
    · exact Nat.le_trans hS.1 (hαk k h)
  have hDA : va_D (fun q : Nat => s.heap.size ≤ q) (kw_w cI cQ α (fun _ => 0) (fun _ => 0) 0 k_init) := ⟨hDk.1, fun k q hk => by
    obtain ⟨j, hj⟩ := kw_al0 (kw_in (List.mem_of_getElem? hk))
    rw [hj]; exact hαs j⟩
  refine lv_astore_n (lv' := [(1, .ref o), (0, .ref b)]) hx hb d_L_law_7 rfl hl (by decide) rfl (fun ls hl => ?_)
  rw [← hα0] at hl
  refine va_new (ci := 2) (fs := [.int 0, .int 0, .null, .null, .null, .null, .null, .null, .null, .null, .null, .null, .int 0, .null, .int 0, .int 0, .int 0, .int 0, .null, .int 0, .int 0]) (C := R_M) (T := T_M) (N := 21) hx hb hts in_M ty_M ty_M_ok hown (hts _ cl_L_43) (hts _ is_M) (hts _ ini_M) hK hB hDA hS1 hA rfl (fun j hj => by rcases (show j = 0 ∨ j = 1 ∨ j = 2 ∨ j = 3 ∨ j = 4 ∨ j = 5 ∨ j = 6 ∨ j = 7 ∨ j = 8 ∨ j = 9 ∨ j = 10 ∨ j = 11 ∨ j = 12 ∨ j = 13 ∨ j = 14 ∨ j = 15 ∨ j = 16 ∨ j = 17 ∨ j = 18 ∨ j = 19 ∨ j = 20 by omega) with rfl | rfl | rfl | rfl | rfl | rfl | rfl | rfl | rfl | rfl | rfl | rfl | rfl | rfl | rfl | rfl | rfl | rfl | rfl | rfl | rfl <;> rfl) (Nat.le_of_ble_eq_true rfl) (Nat.le_of_ble_eq_true rfl) d_L_law_8 (fun o2 H2 hP2 hD2 hS2 => ?_)
  refine W.widen (k := 7) (n := 774) (Nat.le_of_ble_eq_true rfl) (Nat.le_of_ble_eq_true rfl) ?_
  have hlen : (kw_w cI cQ α (fun _ => 0) (fun _ => 0) 0 k_init ++ [(o2, d0_M)])[6]? = some (o2, d0_M) := rfl
  have hPk : va_P D kcl (kw_w cI cQ α (fun _ => 0) (fun _ => 0) 0 k_init) H2 := fun k q hk => hP2 k q (by rw [List.getElem?_append_left (List.getElem?_eq_some_iff.mp hk).1]; exact hk)
  have hPo2 : va_P D kcl [(o2, d0_M)] H2 := fun k q hk => by
    have hk9 : k < 1 := (List.getElem?_eq_some_iff.mp hk).1
    rw [show k = 0 by omega] at hk
    cases hk
    exact hP2 6 _ hlen
  have ho2 : s.heap.size ≤ o2 := hD2.2 6 _ hlen
  have ho2H : o2 < H2.size := (hP2 6 _ hlen).lt
  have hko2 : ∀ (k : Nat) (q : Nat × va_E), (kw_w cI cQ α (fun _ => 0) (fun _ => 0) 0 k_init)[k]? = some q → q.1 ≠ o2 := fun k q hk e1 => by
    have hkl := (List.getElem?_eq_some_iff.mp hk).1
    have h6 : (kw_w cI cQ α (fun _ => 0) (fun _ => 0) 0 k_init).length = 6 := rfl
    have := hD2.1 k 6 q (o2, d0_M) (by rw [List.getElem?_append_left hkl]; exact hk) hlen e1
    omega
  refine lv_dup hx hb d_L_law_11 rfl ?_
  have hFc2 : ∀ q, va_A [(o2, d0_M)] H2.size q → s.heap.size ≤ q := fun q h => by
    rcases va_A1 h with h | h
    · rw [h]; exact ho2
    · exact Nat.le_trans hS2.1 h
  refine va_callv (va_runI (As := []) (rest := [.ref o2]) ⟨hx, hb, hml, hown, hts⟩ (ct_M_init l D cI cQ o2 H2.size) (cwI 0 hts gi_M rfl rfl rfl (hts _ ini_M) (hts _ ml_L_45) (hts _ im_M_init) rfl (by decide +kernel) ⟨Nat.le_of_ble_eq_true rfl, Nat.le_of_ble_eq_true rfl⟩) ⟨fun a U g mk q => ⟨q.1, q.2.1, q.2.2.1, va_K.moved (u := U) (U := U.calling g mk a) (Vm.Alike.refl U.vm) q.2.2.2⟩, fun U hU hW => ⟨rfl, by rw [hU], by rw [hU]; exact hPo2, va_K.moved hW.alike hK2⟩⟩ rfl rfl hl.1 rfl (lv_room (Nat.le_of_ble_eq_true rfl)) d_L_law_12 ⟨Nat.le_of_ble_eq_true rfl, Nat.le_of_ble_eq_true rfl⟩) hS2 (fun q _ h => hFc2 q h) (fun q h => hFc2 q h) (fun β t2 H3 locs3 ht2 _ hβ hB2 hz2 hk2 hS3 => ?_)
  obtain ⟨hβ0, hβk, hDm⟩ := hβ
  rw [ht2] at hB2
  refine W.widen (k := 19) (n := 1658) (Nat.le_of_ble_eq_true rfl) (Nat.le_of_ble_eq_true rfl) ?_
  have hPk3 : va_P D kcl (kw_w cI cQ α (fun _ => 0) (fun _ => 0) 0 k_init) H3 := hPk.kept (fun k q hk => hk2 _ (hPk k q hk).lt (fun h => by
    rcases va_A1 h with h | h
    · exact hko2 k q hk h
    · exact absurd (hPk k q hk).lt (Nat.not_lt.mpr h)))
  have hβs : ∀ k, s.heap.size ≤ β k := fun k => by
    rcases Nat.eq_zero_or_pos k with h | h
    · rw [h, hβ0]; exact ho2
    · exact Nat.le_trans hS2.1 (hβk k h)
  have hkH : ∀ q ∈ kw_al α (fun _ => 0) (fun _ => 0) 0, q < H2.size ∧ q ≠ o2 := fun q hq => by
    rw [← kw_adr (cI := cI) (cQ := cQ) (σ := k_init)] at hq
    obtain ⟨z, hz9, rfl⟩ := List.mem_map.mp hq
    obtain ⟨i9, hi9⟩ := List.getElem?_of_mem hz9
    exact ⟨(hPk i9 z hi9).lt, hko2 i9 z hi9⟩
  have hap : ∀ q ∈ kw_al α (fun _ => 0) (fun _ => 0) 0, q ∉ mw_al β := fun q hq hq2 => by
    obtain ⟨j, hj⟩ := mw_al0 hq2
    rcases Nat.eq_zero_or_pos j with h | h
    · rw [h, hβ0] at hj
      exact (hkH q hq).2 hj
    · have h1 := hβk j h
      have h2 := (hkH q hq).1
      omega
  have hPkm : va_P D kcl (kw_w cI cQ α (fun _ => 0) (fun _ => 0) 0 k_init ++ mw_w cI β m_init) H3 := hPk3.app hB2
  have hDkm : va_D (fun q : Nat => s.heap.size ≤ q) (kw_w cI cQ α (fun _ => 0) (fun _ => 0) 0 k_init ++ mw_w cI β m_init) := by
    rw [vD_nd]
    rw [vD_nd] at hDk hDm
    refine ⟨?_, fun q hq => ?_⟩
    · rw [List.map_append, List.nodup_append]
      refine ⟨hDk.1, hDm.1, fun a ha b9 hb9 e9 => ?_⟩
      obtain ⟨z, hz9, rfl⟩ := List.mem_map.mp ha
      obtain ⟨z2, hz2, rfl⟩ := List.mem_map.mp hb9
      exact hap _ (kw_in hz9) (by rw [e9]; exact mw_in hz2)
    · rcases List.mem_append.mp hq with h | h
      · obtain ⟨j, hj⟩ := kw_al0 (kw_in h)
        rw [hj]; exact hαs j
      · obtain ⟨j, hj⟩ := mw_al0 (mw_in h)
        rw [hj]; exact hβs j
  refine lv_astore_n (lv' := [(2, .ref o2), (1, .ref (α 0)), (0, .ref b)]) hx hb d_L_law_15 rfl hl (by decide) rfl (fun ls hl => ?_)
  rw [← hβ0] at hl
  refine lv_iconst (v := 1) hx hb d_L_law_16 (by decide) ?_
  refine va_newa (atype := .long) (ty := .long) hx hb (hts _ aw_long) rfl hK hPkm hDkm hS3 hA (a0 := (1, .inr (.inl (fun _ => 0)))) (fun cA => rfl) (by decide) (N' := 1) (by decide) (by decide) (Nat.le_of_ble_eq_true rfl) (Nat.le_of_ble_eq_true rfl) d_L_law_17 (fun ω cA H4 hK4 hP4 hD4 hS4 => ?_)
  have e1 : s.vm.findClass ("[" ++ FieldType.long.toString) = some cA := (hK4.2 3 (cA, .long) rfl).2
  have e2 : s.vm.findClass ("[" ++ FieldType.long.toString) = some cL := (hK.2 2 (cL, .long) rfl).2
  obtain rfl := Option.some.inj (e1.symm.trans e2)
  refine W.widen (k := 20) (n := 1659) (Nat.le_of_ble_eq_true rfl) (Nat.le_of_ble_eq_true rfl) ?_
  refine lv_astore_n (lv' := [(3, .ref ω), (2, .ref (β 0)), (1, .ref (α 0)), (0, .ref b)]) hx hb d_L_law_19 rfl hl (by decide) rfl (fun ls hl => ?_)
  refine lv_iconst (v := 0) hx hb d_L_law_20 (by decide) ?_
  refine lv_istore (lv' := [(4, .int 0), (3, .ref ω), (2, .ref (β 0)), (1, .ref (α 0)), (0, .ref b)]) hx hb d_L_law_21 hl (by decide) rfl (fun ls hl => ?_)
  have hmem : ∀ q, q ∈ kw_w cI cQ α (fun _ => 0) (fun _ => 0) 0 k_init ++ mw_w cI β m_init → q.1 ≠ ω := fun q hq e9 => by
    obtain ⟨i9, hi9⟩ := List.getElem?_of_mem hq
    have hl9 := (List.getElem?_eq_some_iff.mp hi9).1
    have := hD4.1 i9 (kw_w cI cQ α (fun _ => 0) (fun _ => 0) 0 k_init ++ mw_w cI β m_init).length q (ω, .inl (cA, 1, .inr (.inl (fun _ => 0)))) (by rw [List.getElem?_append_left hl9]; exact hi9) (by rw [List.getElem?_append_right (Nat.le_refl _), Nat.sub_self]; rfl) e9
    omega
  have hωs : s.heap.size ≤ ω := hD4.2 (kw_w cI cQ α (fun _ => 0) (fun _ => 0) 0 k_init ++ mw_w cI β m_init).length (ω, .inl (cA, 1, .inr (.inl (fun _ => 0)))) (by rw [List.getElem?_append_right (Nat.le_refl _), Nat.sub_self]; rfl)
  have hw : lw_W D cI cQ cA s α β ω 0 k_init m_init (fun _ => 0) (fun _ => 0) (fun _ => 0) H4 locs3 := by
    refine ⟨st_init, ?_, ?_, ?_, hDk, hDm, ?_, ?_, hωs, hS4⟩
    · exact fun k q hk => vP_of hP4 (List.mem_append_left _ (List.mem_append_left _ (List.mem_of_getElem? hk)))
    · exact fun k q hk => vP_of hP4 (List.mem_append_left _ (List.mem_append_right _ (List.mem_of_getElem? hk)))
    · exact fun k q hk => vP_of hP4 (List.mem_append_right _ (List.mem_of_getElem? hk))
    · intro q hq
      refine ⟨?_, hap q hq, ?_⟩
      · obtain ⟨j, hj⟩ := kw_al0 hq
        rw [hj]; exact hαs j
      · rw [← kw_adr (cI := cI) (cQ := cQ) (σ := k_init)] at hq
        obtain ⟨z, hz9, rfl⟩ := List.mem_map.mp hq
        exact hmem z (List.mem_append_left _ hz9)
    · intro q hq
      refine ⟨?_, ?_⟩
      · obtain ⟨j, hj⟩ := mw_al0 hq
        rw [hj]; exact hβs j
      · rw [← mw_addr (cI := cI) (τ := m_init)] at hq
        obtain ⟨z, hz9, rfl⟩ := List.mem_map.mp hq
        exact hmem z (List.mem_append_right _ hz9)
  exact lw_loop C hr hlocks hlT hL 601 0 0 k_init m_init (fun _ => 0) (fun _ => 0) (fun _ => 0) H4 locs3 ls (by omega) (by omega) hw hl
