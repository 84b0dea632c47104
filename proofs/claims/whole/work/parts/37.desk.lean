/-! the system's desk: a desk more -/
theorem vP_perm {D : va_G} {cl : List vw_C} {w w' : va_W} {H : Heap} (h : w.Perm w') (hP : va_P D cl w H) : va_P D cl w' H := by
  intro k q hk
  obtain ⟨i, hi⟩ := List.getElem?_of_mem (h.mem_iff.mpr (List.mem_of_getElem? hk))
  exact hP i q hi
theorem vD_nd {A : Nat → Prop} {w : va_W} : va_D A w ↔ (w.map (fun q => q.1)).Nodup ∧ ∀ q ∈ w, A q.1 := by
  constructor
  · intro h
    refine ⟨?_, fun q hq => ?_⟩
    · rw [List.nodup_iff_pairwise_ne, List.pairwise_iff_getElem]
      intro i j hi hj hij e
      rw [List.length_map] at hi hj
      rw [List.getElem_map, List.getElem_map] at e
      have := h.1 i j _ _ (List.getElem?_eq_getElem hi) (List.getElem?_eq_getElem hj) e
      omega
    · obtain ⟨i, hi⟩ := List.getElem?_of_mem hq
      exact h.2 i q hi
  · intro ⟨h, hA⟩
    rw [List.nodup_iff_pairwise_ne, List.pairwise_iff_getElem] at h
    refine ⟨fun i j x y hi hj e => ?_, fun k q hk => hA q (List.mem_of_getElem? hk)⟩
    obtain ⟨hi1, hi2⟩ := List.getElem?_eq_some_iff.mp hi
    obtain ⟨hj1, hj2⟩ := List.getElem?_eq_some_iff.mp hj
    rcases Nat.lt_trichotomy i j with q | q | q
    · exact absurd (by rw [List.getElem_map, List.getElem_map, hi2, hj2]; exact e) (h i j (by rw [List.length_map]; exact hi1) (by rw [List.length_map]; exact hj1) q)
    · exact q
    · exact absurd (by rw [List.getElem_map, List.getElem_map, hi2, hj2]; exact e.symm) (h j i (by rw [List.length_map]; exact hj1) (by rw [List.length_map]; exact hi1) q)
theorem vD_perm {A : Nat → Prop} {w w' : va_W} (h : w.Perm w') (hD : va_D A w) : va_D A w' := by
  rw [vD_nd] at hD ⊢
  exact ⟨(h.map _).nodup_iff.mp hD.1, fun q hq => hD.2 q (h.mem_iff.mpr hq)⟩
def k_new0 (n : Nat) (σ : kS) (x y : Int32) : kS := (σ.1, σ.2.1, va_up σ.2.2.1 n (fun k => match k with
  | 0 => nI n
  | 1 => x
  | 3 => y
  | 6 => -1
  | _ => 0), va_up σ.2.2.2 n (fun _ => 0))
def k_new (n : Nat) (σ : kS) (x y : Int32) : kS := k_f (k_new0 n σ x y) 1 (σ.1 1 + 1)
abbrev e_dk (n q2 : Nat) (x y : Int32) : va_E := .inr (1, [.int (nI n), .int x, .ref q2, .int y, .int 0, .int 0, .int (-1), .int 0, .int 0, .int 0])
abbrev e_na (cI : ClassId) : va_E := .inl (cI, 12, .inl (fun _ => 0))
section KNW
variable {cI cQ : ClassId} {α ad an : Nat → Nat} {n : Nat} {σ : kS} {x y : Int32} {q1 q2 : Nat}
theorem kw_q_up : kw_q (va_up ad n q1) (n + 1) = va_up (kw_q ad n) n (some q1) := by
  funext j
  unfold kw_q va_up
  by_cases h : j = n
  · subst h
    rw [if_pos (by omega), if_pos rfl, if_pos rfl]
  · rw [if_neg h, if_neg h]
    by_cases h2 : j < n
    · rw [if_pos (by omega)]; exact (if_pos h2).symm
    · rw [if_neg (by omega)]; exact (if_neg h2).symm
theorem kw_map_up {β : Type} (f g : Nat → β) (h : ∀ i, i < n → g i = f i) : (List.range (n + 1)).map g = (List.range n).map f ++ [g n] := by
  rw [List.range_succ, List.map_append, List.map_singleton]
  congr 1
  apply List.map_congr_left
  intro i hi
  exact h i (List.mem_range.mp hi)
theorem kw_pd_up : kw_pd (va_up ad n q1) (va_up an n q2) (n + 1) (k_new0 n σ x y) = kw_pd ad an n σ ++ [(q1, .inr (1, [.int (nI n), .int x, .ref q2, .int y, .int 0, .int 0, .int (-1), .int 0, .int 0, .int 0]))] := by
  unfold kw_pd
  rw [kw_map_up (fun i => (ad i, .inr (1, kw_dk an σ i)))]
  · simp [kw_dk, k_new0, va_up]
  · intro i hi
    have : i ≠ n := by omega
    simp [kw_dk, k_new0, va_up, this]
theorem kw_pn_up : kw_pn cI (va_up an n q2) (n + 1) (k_new0 n σ x y) = kw_pn cI an n σ ++ [(q2, .inl (cI, 12, .inl (fun _ => 0)))] := by
  unfold kw_pn
  rw [kw_map_up (fun i => (an i, .inl (cI, 12, .inl (σ.2.2.2 i))))]
  · simp [k_new0, va_up]
  · intro i hi
    have : i ≠ n := by omega
    simp [k_new0, va_up, this]
theorem kw_grow : (((kw_w cI cQ α ad an n σ) ++ [(q1, e_dk n q2 x y), (q2, e_na cI)]).set 1 (α 1, .inl (cQ, 8, .inr (.inr (.inr (.inr (va_up (kw_q ad n) n (some q1)))))))).Perm (kw_w cI cQ α (va_up ad n q1) (va_up an n q2) (n + 1) (k_new0 n σ x y)) := by
  have e1 : (((kw_w cI cQ α ad an n σ) ++ [(q1, e_dk n q2 x y), (q2, e_na cI)]).set 1 (α 1, .inl (cQ, 8, .inr (.inr (.inr (.inr (va_up (kw_q ad n) n (some q1))))))))
      = kw_x cI cQ α (va_up ad n q1) (n + 1) (k_new0 n σ x y) ++ (kw_pd ad an n σ ++ (kw_pn cI an n σ ++ [(q1, e_dk n q2 x y), (q2, e_na cI)])) := by
    unfold kw_w kw_x
    rw [kw_q_up, List.append_assoc, List.append_assoc]
    rfl
  rw [e1]
  unfold kw_w
  rw [kw_pd_up, kw_pn_up, List.append_assoc (kw_pd ad an n σ)]
  refine List.Perm.append_left _ (List.Perm.append_left _ ?_)
  exact List.perm_middle
end KNW
theorem is_D : Cond.instantiable R_D 10 ∈ kT := mk_T 243 rfl rfl
theorem gi_D : GoodIn kT w_D_init := by
  intro w hw
  have h : w ∈ kT := by
    rcases List.mem_cons.mp hw with rfl | h
    · exact cd_D_init
    · exact h
  exact ⟨h, kT_good w h⟩
abbrev kdA (α ad an : Nat → Nat) (n N0 : Nat) : Nat → Prop := fun q => q ∈ kw_al α ad an n ∨ N0 ≤ q
set_option maxHeartbeats 4000000 in
set_option maxRecDepth 100000 in
theorem ct_K_desk (l : Launch) (D : va_G) (cI cQ : ClassId) (α ad an : Nat → Nat) (n : Nat) (σ : kS) (hI : k_ok n σ.1) (N0 : Nat) (x y : Int32) (h1 : ¬ x < 1) (h2 : x ≤ 12) (h3 : ¬ y < -1) (h4 : y < x) (hc0 : σ.1 12 = 0) (hn8 : σ.1 1 < 8) : Met l y_K_desk w_K_desk { frames := 2, cells := 2, slots := 22, locals := 45 } (va_Pc [.ref (α 0), .int x, .int y] (fun U => U.heap.size = N0 ∧ va_P D kcl (kw_w cI cQ α ad an n σ) U.heap ∧ va_K D kcl (kty cI cQ) U ∧ va_D (fun _ => True) (kw_w cI cQ α ad an n σ))) (va_Qi (S := Nat × Nat) (fun v u => v = nI n ∧ N0 ≤ u.1 ∧ N0 ≤ u.2 ∧ va_D (fun _ => True) (kw_w cI cQ α (va_up ad n u.1) (va_up an n u.2) (n + 1) (k_new n σ x y))) (fun u t => va_P D kcl (kw_w cI cQ α (va_up ad n u.1) (va_up an n u.2) (n + 1) (k_new n σ x y)) t.heap) (kdA α ad an n N0)) 2 22 (kdA α ad an n N0) := by
  have hn : n < 8 := by
    rcases Nat.lt_or_ge n 8 with h | h
    · exact h
    · have h8 : n = 8 := by have := hI.1; omega
      have h9 := hI.2.1
      rw [h8] at h9
      rw [h9] at hn8
      exact absurd hn8 (by decide)
  refine Met.ofW (cc := b_K_desk) (maxL := 4) (ret := some .int) (by decide) rfl ?_
  intro p e s m args below meth c s₁ B hml hv
  obtain ⟨rfl, hsz, hP, hK, hD⟩ := hv
  have hx := B.exec
  have hb := B.bytes
  have hr := B.returns
  have hts : ∀ w ∈ kT, w.before [.ref (α 0), .int x, .int y].toArray s = true := fun w h => atoms_spec (ws := w_K_desk) B.pre w (List.mem_cons_of_mem _ h)
  have hown : s.vm.findClass R_K = some m.cls := findClass_of_methodNamed B.named
  have hlocks := B.notSynchronized
  subst hsz
  have hD : va_D (kdA α ad an n s.heap.size) (kw_w cI cQ α ad an n σ) := (gD kw_adr hD).weaken (fun _ _ _ h => Or.inl h)
  have hA : ∀ q : Nat, s.heap.size ≤ q → kdA α ad an n s.heap.size q := fun q h => Or.inr h
  have hAl : ∀ q : Nat, q ∈ kw_al α ad an n → q < s.heap.size := fun q hq => by
    rw [← kw_adr (cI := cI) (cQ := cQ) (σ := σ)] at hq
    obtain ⟨z, hz, rfl⟩ := List.mem_map.mp hq
    obtain ⟨i, hi⟩ := List.getElem?_of_mem hz
    exact (hP i z hi).lt
  generalize hAe : kdA α ad an n s.heap.size = A at hD hA ⊢
  have hAo : ∀ q, A q → q ∈ kw_al α ad an n ∨ s.heap.size ≤ q := fun q h => by rw [← hAe] at h; exact h
  have hS : va_S A s.heap s.heap [] := va_S.rf
  have hl := lv_entry ([.ref (α 0), .int x, .int y]) (n := 4) (Nat.le_of_ble_eq_true rfl)
  rw [lg_entry_eq]
  generalize (lg_sl ([.ref (α 0), .int x, .int y]) ++ List.replicate (4 - (lg_sl ([.ref (α 0), .int x, .int y])).length) Slot.unset).toArray = ls at hl ⊢
  have hl : lv_has ls 4 [(0, .ref (α 0)), (1, .int x), (2, .int y)] := hl
  refine lv_iload_n hx hb d_K_desk_0 rfl (lv_at hl 1 rfl) ?_
  refine lv_iconst (v := 1) hx hb d_K_desk_1 (by decide) ?_
  refine lv_icmp_lt (tgt := 11) hx hb d_K_desk_2 (by decide) (fun q => absurd q h1) (fun _ => ?_)
  refine lv_iload_n hx hb d_K_desk_5 rfl (lv_at hl 1 rfl) ?_
  refine lv_bipush (v := 12) hx hb d_K_desk_6 (by decide) ?_
  refine lv_icmp_le (tgt := 21) hx hb d_K_desk_8 (by decide) (fun _ => ?_) (fun q => absurd h2 q)
  refine lv_iload_n hx hb d_K_desk_21 rfl (lv_at hl 2 rfl) ?_
  refine lv_iconst (v := (-1)) hx hb d_K_desk_22 (by decide) ?_
  refine lv_icmp_lt (tgt := 31) hx hb d_K_desk_23 (by decide) (fun q => absurd q h3) (fun _ => ?_)
  refine lv_iload_n hx hb d_K_desk_26 rfl (lv_at hl 2 rfl) ?_
  refine lv_iload_n hx hb d_K_desk_27 rfl (lv_at hl 1 rfl) ?_
  refine lv_icmp_lt (tgt := 41) hx hb d_K_desk_28 (by decide) (fun _ => ?_) (fun q => absurd h4 q)
  refine lv_aload_n hx hb d_K_desk_41 rfl (lv_at hl 0 rfl) ?_
  refine kw_get hx hb hts hown hK hP 12 (by decide) fl_K_50 rfl d_K_desk_42 ?_
  refine lv_if_ne (tgt := 57) hx hb d_K_desk_45 (by decide) (fun q => absurd hc0 q) (fun _ => ?_)
  refine lv_aload_n hx hb d_K_desk_48 rfl (lv_at hl 0 rfl) ?_
  refine kw_get hx hb hts hown hK hP 1 (by decide) fl_K_15 rfl d_K_desk_49 ?_
  refine lv_bipush (v := 8) hx hb d_K_desk_52 (by decide) ?_
  refine lv_icmp_lt (tgt := 67) hx hb d_K_desk_54 (by decide) (fun _ => ?_) (fun q => absurd hn8 q)
  refine lv_aload_n hx hb d_K_desk_67 rfl (lv_at hl 0 rfl) ?_
  refine kw_get hx hb hts hown hK hP 1 (by decide) fl_K_15 rfl d_K_desk_68 ?_
  rw [hI.2.1]
  refine lv_istore_n (lv' := [(3, .int (nI n)), (0, .ref (α 0)), (1, .int x), (2, .int y)]) hx hb d_K_desk_71 rfl hl (by decide) rfl (fun ls hl => ?_)
  refine lv_aload_n hx hb d_K_desk_72 rfl (lv_at hl 1 rfl) ?_
  refine kw_get hx hb hts hown hK hP 0 (by decide) fl_K_11 rfl d_K_desk_73 ?_
  refine lv_iload_n hx hb d_K_desk_76 rfl (lv_at hl 0 rfl) ?_
  refine va_new (ci := 1) (fs := [.int 0, .int 0, .null, .int 0, .int 0, .int 0, .int 0, .int 0, .int 0, .int 0]) (C := R_D) (T := T_D) (N := 10) hx hb hts in_D ty_D ty_D_ok hown (hts _ cl_K_9) (hts _ is_D) (hts _ ini_D) hK hP hD hS hA rfl (fun j hj => by rcases (show j = 0 ∨ j = 1 ∨ j = 2 ∨ j = 3 ∨ j = 4 ∨ j = 5 ∨ j = 6 ∨ j = 7 ∨ j = 8 ∨ j = 9 by omega) with rfl | rfl | rfl | rfl | rfl | rfl | rfl | rfl | rfl | rfl <;> rfl) (Nat.le_of_ble_eq_true rfl) (Nat.le_of_ble_eq_true rfl) d_K_desk_77 (fun q1 H hPn hDn hS => ?_)
  refine W.widen (k := 1) (n := 10) (Nat.le_of_ble_eq_true rfl) (Nat.le_of_ble_eq_true rfl) ?_
  have hlen : (kw_w cI cQ α ad an n σ ++ [(q1, d0_D)])[(kw_w cI cQ α ad an n σ).length]? = some (q1, d0_D) := by rw [List.getElem?_append_right (Nat.le_refl _), Nat.sub_self]; rfl
  have hPk : va_P D kcl (kw_w cI cQ α ad an n σ) H := fun k q hk => hPn k q (by rw [List.getElem?_append_left (List.getElem?_eq_some_iff.mp hk).1]; exact hk)
  have hDk : va_D A (kw_w cI cQ α ad an n σ) := hD
  have hPd : va_P D kcl [(q1, d0_D)] H := fun k q hk => by
    have hk1 : k < 1 := (List.getElem?_eq_some_iff.mp hk).1
    rw [show k = 0 by omega] at hk
    cases hk
    exact hPn _ _ hlen
  have hq1 : ∀ (k : Nat) (q : Nat × va_E), (kw_w cI cQ α ad an n σ)[k]? = some q → q.1 ≠ q1 := fun k q hk e1 => by
    have hkl := (List.getElem?_eq_some_iff.mp hk).1
    have := hDn.1 k (kw_w cI cQ α ad an n σ).length q (q1, d0_D) (by rw [List.getElem?_append_left hkl]; exact hk) hlen e1
    omega
  have hA1 : A q1 := hDn.2 _ _ hlen
  have hzH : s.heap.size ≤ H.size := hS.1
  have hge1 : s.heap.size ≤ q1 := by
    rcases hAo q1 hA1 with h | h
    · rw [← kw_adr (cI := cI) (cQ := cQ) (σ := σ)] at h
      obtain ⟨z, hz, hz1⟩ := List.mem_map.mp h
      obtain ⟨i, hi⟩ := List.getElem?_of_mem hz
      exact absurd hz1 (hq1 i z hi)
    · exact h
  refine lv_dup hx hb d_K_desk_80 rfl ?_
  refine lv_iload_n hx hb d_K_desk_81 rfl (lv_at hl 0 rfl) ?_
  refine lv_iload_n hx hb d_K_desk_82 rfl (lv_at hl 2 rfl) ?_
  refine lv_iload_n hx hb d_K_desk_83 rfl (lv_at hl 3 rfl) ?_
  refine va_callv (va_runI (As := [.int (nI n), .int x, .int y]) (rest := [.ref q1, .int (nI n), .ref (α 1)]) ⟨hx, hb, hml, hown, hts⟩ (ct_D_init l D cI cQ q1 H.size (nI n) x y) (cwI 3 hts gi_D rfl rfl rfl (hts _ ini_D) (hts _ ml_K_74) (hts _ im_D_init) rfl (by decide +kernel) ⟨Nat.le_of_ble_eq_true rfl, Nat.le_of_ble_eq_true rfl⟩) ⟨fun a U g mk q => ⟨q.1, q.2.1, q.2.2.1, va_K.moved (u := U) (U := U.calling g mk a) (Vm.Alike.refl U.vm) q.2.2.2⟩, fun U hU hW => ⟨rfl, by rw [hU], by rw [hU]; exact hPd, va_K.moved hW.alike hK⟩⟩ rfl rfl hl.1 rfl (lv_room (Nat.le_of_ble_eq_true rfl)) d_K_desk_84 ⟨Nat.le_of_ble_eq_true rfl, Nat.le_of_ble_eq_true rfl⟩) hS (fun q _ h => ?_) (fun q h => ?_) (fun q2 t H1 locs1 ht _ hq2 hB hz hk1 hS => ?_)
  · rcases va_A1 h with rfl | h
    · exact hA1
    · exact hA q (Nat.le_trans hS.1 h)
  · rcases va_A1 h with rfl | h
    · exact hA1
    · exact hA q (Nat.le_trans hS.1 h)
  refine W.widen (k := 2) (n := 22) (Nat.le_of_ble_eq_true rfl) (Nat.le_of_ble_eq_true rfl) ?_
  rw [ht] at hB
  have hPk1 : va_P D kcl (kw_w cI cQ α ad an n σ) H1 := hPk.kept (fun k q hk => hk1 _ (hPk k q hk).lt (fun h => by
    rcases va_A1 h with h | h
    · exact hq1 k q hk h
    · exact absurd (hPk k q hk).lt (Nat.not_lt.mpr h)))
  have hP := hPk1.app hB
  have hq2' : H.size ≤ q2 := hq2
  have hq1l : q1 < H.size := (hPn _ _ hlen).lt
  have hD : va_D A (kw_w cI cQ α ad an n σ ++ [(q1, e_dk n q2 x y), (q2, e_na cI)]) := by
    rw [vD_nd]
    rw [vD_nd] at hDk
    refine ⟨?_, fun q hq => ?_⟩
    · rw [List.map_append, List.nodup_append]
      refine ⟨hDk.1, ?_, ?_⟩
      · simp
        omega
      · intro a ha b hb9 eab
        obtain ⟨z, hz9, rfl⟩ := List.mem_map.mp ha
        obtain ⟨i, hi⟩ := List.getElem?_of_mem hz9
        simp only [List.map_cons, List.map_nil, List.mem_cons, List.not_mem_nil, or_false] at hb9
        rcases hb9 with rfl | rfl
        · exact hq1 i z hi eab
        · have := (hPk i z hi).lt
          omega
    · rcases List.mem_append.mp hq with h | h
      · exact hDk.2 q h
      · simp only [List.mem_cons, List.not_mem_nil, or_false] at h
        rcases h with rfl | rfl
        · exact hA1
        · exact hA _ (Nat.le_trans hzH hq2')
  obtain ⟨i1, i2⟩ := ix_cl (x := nI n) rfl hn (by decide)
  have hq0 : (kw_w cI cQ α ad an n σ ++ [(q1, e_dk n q2 x y), (q2, e_na cI)])[(kw_w cI cQ α ad an n σ).length]? = some (q1, e_dk n q2 x y) := by rw [List.getElem?_append_right (Nat.le_refl _), Nat.sub_self]; rfl
  refine va_astq (r := (R_D, T_D, 10)) hx hb hK hP hD hS 1 1 (kw_w cI cQ α ad an n σ).length 1 (a := α 1) rfl rfl hq0 rfl i1 d_K_desk_87 (fun H locs hP hD hS => ?_)
  rw [i2] at hP hD
  have hP := vP_perm kw_grow hP
  have hD := vD_perm kw_grow hD
  refine lv_aload_n hx hb d_K_desk_88 rfl (lv_at hl 1 rfl) ?_
  refine lv_dup hx hb d_K_desk_89 rfl ?_
  refine kw_get hx hb hts hown hK hP 1 (by decide) fl_K_15 rfl d_K_desk_90 ?_
  refine lv_iconst (v := 1) hx hb d_K_desk_93 (by decide) ?_
  refine lv_iadd hx hb d_K_desk_94 ?_
  refine kw_put hx hb hts hown hK hP hD hS 1 (by decide) fl_K_15 (ty := .int) (by decide +kernel) rfl rfl d_K_desk_95 (fun H locs hP hD hS => ?_)
  refine lv_iload_n hx hb d_K_desk_98 rfl (lv_at hl 0 rfl) ?_
  exact W.iret (v := nI n) hx hb hr (fun t ht _ => ⟨⟨nI n, (q1, q2), rfl, ⟨rfl, hge1, Nat.le_trans hzH hq2', hD.weaken (fun _ _ _ _ => trivial)⟩, by show va_P D kcl _ t.heap; rw [ht]; exact hP⟩, hS.F ht⟩) hS.2.2 d_K_desk_99 hlocks
