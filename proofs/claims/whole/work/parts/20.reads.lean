set_option maxHeartbeats 4000000 in
set_option maxRecDepth 100000 in
theorem ct_M_thrown (l : Launch) (D : va_G) (cI cQ : ClassId) (β : Nat → Nat) (n : Nat) (τ : mS) (hI : m_ok n τ.1)  : Met l y_M_thrown w_M_thrown { frames := 0, cells := 0, slots := 0, locals := 0 } (gPc D (kty cI cQ) (mw_w cI β τ) [.ref (β 0)]) (QcRead (τ.1 0)) 0 0 (fun _ => False) := by
  refine Met.ofW (cc := b_M_thrown) (maxL := 1) (ret := some .int) (by decide) rfl ?_
  intro p e s m args below meth c s₁ B hml hv
  obtain ⟨rfl, hP, hK, hD⟩ := hv
  have hx := B.exec
  have hb := B.bytes
  have hr := B.returns
  have hts : ∀ w ∈ kT, w.before [.ref (β 0)].toArray s = true := fun w h => atoms_spec (ws := w_M_thrown) B.pre w (List.mem_cons_of_mem _ h)
  have hown : s.vm.findClass R_M = some m.cls := findClass_of_methodNamed B.named
  have hlocks := B.notSynchronized
  have hl := lv_entry ([.ref (β 0)]) (n := 1) (Nat.le_of_ble_eq_true rfl)
  rw [lg_entry_eq]
  generalize (lg_sl ([.ref (β 0)]) ++ List.replicate (1 - (lg_sl ([.ref (β 0)])).length) Slot.unset).toArray = ls at hl ⊢
  have hl : lv_has ls 1 [(0, .ref (β 0))] := hl
  refine lv_aload_n hx hb d_M_thrown_0 rfl (lv_at hl 0 rfl) ?_
  refine mw_get hx hb hts hown hK hP 0 (by decide) fl_M_46 (v := .int (τ.1 0)) rfl d_M_thrown_1 ?_
  exact r_reti hx hb hr hlocks rfl d_M_thrown_4

set_option maxHeartbeats 4000000 in
set_option maxRecDepth 100000 in
theorem ct_M_refuse (l : Launch) (D : va_G) (cI cQ : ClassId) (β : Nat → Nat) (n : Nat) (τ : mS) (hI : m_ok n τ.1) (x : Int32) : Met l y_M_refuse w_M_refuse { frames := 0, cells := 0, slots := 0, locals := 0 } (gPc D (kty cI cQ) (mw_w cI β τ) [.ref (β 0), .int x]) (gQi D (mw_al β) (0) (mw_w cI β (m_f τ 0 x))) 0 0 (gA (mw_al β)) := by
  refine Met.ofW (cc := b_M_refuse) (maxL := 2) (ret := some .int) (by decide) rfl ?_
  intro p e s m args below meth c s₁ B hml hv
  obtain ⟨rfl, hP, hK, hD⟩ := hv
  have hx := B.exec
  have hb := B.bytes
  have hr := B.returns
  have hts : ∀ w ∈ kT, w.before [.ref (β 0), .int x].toArray s = true := fun w h => atoms_spec (ws := w_M_refuse) B.pre w (List.mem_cons_of_mem _ h)
  have hown : s.vm.findClass R_M = some m.cls := findClass_of_methodNamed B.named
  have hlocks := B.notSynchronized
  have hD : va_D (gA (mw_al β)) (mw_w cI β τ) := gD mw_addr hD
  have hS : va_S (gA (mw_al β)) s.heap s.heap [] := va_S.rf
  have hl := lv_entry ([.ref (β 0), .int x]) (n := 2) (Nat.le_of_ble_eq_true rfl)
  rw [lg_entry_eq]
  generalize (lg_sl ([.ref (β 0), .int x]) ++ List.replicate (2 - (lg_sl ([.ref (β 0), .int x])).length) Slot.unset).toArray = ls at hl ⊢
  have hl : lv_has ls 2 [(0, .ref (β 0)), (1, .int x)] := hl
  refine lv_aload_n hx hb d_M_refuse_0 rfl (lv_at hl 0 rfl) ?_
  refine lv_iload_n hx hb d_M_refuse_1 rfl (lv_at hl 1 rfl) ?_
  refine mw_put hx hb hts hown hK hP hD hS 0 (by unfold mw_is; decide) fl_M_46 rfl rfl rfl d_M_refuse_2 (fun H locs hP hD hS => ?_)
  obtain ⟨τ1, e_τ1⟩ : ∃ ζ, ζ = m_f τ 0 x := ⟨_, rfl⟩
  rw [← e_τ1] at hP hD
  have hI : m_ok n τ1.1 := by rw [e_τ1]; exact (m_ok_f hI (by decide))
  refine lv_iconst (v := 0) hx hb d_M_refuse_5 (by decide) ?_
  exact g_reti hx hb hr hlocks rfl (by rw [e_τ1]) hP hS d_M_refuse_6

set_option maxHeartbeats 4000000 in
set_option maxRecDepth 100000 in
theorem ct_M_in (l : Launch)  (x y z : Int32) : Met l y_M_in w_M_in { frames := 0, cells := 0, slots := 0, locals := 0 } (fun v _ => v = [.int x, .int y, .int z].toArray) (QcRead (mo_in x y z)) 0 0 (fun _ => False) := by
  refine Met.ofW (cc := b_M_in) (maxL := 3) (ret := some .boolean) (by decide) rfl ?_
  intro p e s m args below meth c s₁ B hml hv
  subst hv
  have hx := B.exec
  have hb := B.bytes
  have hr := B.returns
  have hts : ∀ w ∈ kT, w.before [.int x, .int y, .int z].toArray s = true := fun w h => atoms_spec (ws := w_M_in) B.pre w (List.mem_cons_of_mem _ h)
  have hown : s.vm.findClass R_M = some m.cls := findClass_of_methodNamed B.named
  have hlocks := B.notSynchronized
  have hl := lv_entry ([.int x, .int y, .int z]) (n := 3) (Nat.le_of_ble_eq_true rfl)
  rw [lg_entry_eq]
  generalize (lg_sl ([.int x, .int y, .int z]) ++ List.replicate (3 - (lg_sl ([.int x, .int y, .int z])).length) Slot.unset).toArray = ls at hl ⊢
  have hl : lv_has ls 3 [(0, .int x), (1, .int y), (2, .int z)] := hl
  refine lv_iload_n hx hb d_M_in_0 rfl (lv_at hl 0 rfl) ?_
  refine lv_iload_n hx hb d_M_in_1 rfl (lv_at hl 1 rfl) ?_
  refine lv_icmp_lt (tgt := 14) hx hb d_M_in_2 (by decide) (fun c_2 => ?_) (fun c_2 => ?_)
  · -- to 14
    refine lv_iconst (v := 0) hx hb d_M_in_14 (by decide) ?_
    exact r_retz hx hb hr hlocks (by decide) (by simp [mo_in, c_2]) d_M_in_15
  · -- on 5
    refine lv_iload_n hx hb d_M_in_5 rfl (lv_at hl 0 rfl) ?_
    refine lv_iload_n hx hb d_M_in_6 rfl (lv_at hl 2 rfl) ?_
    refine lv_icmp_gt (tgt := 14) hx hb d_M_in_7 (by decide) (fun c_7 => ?_) (fun c_7 => ?_)
    · -- to 14
      refine lv_iconst (v := 0) hx hb d_M_in_14 (by decide) ?_
      exact r_retz hx hb hr hlocks (by decide) (by simp [mo_in, c_2, c_7]) d_M_in_15
    · -- on 10
      refine lv_iconst (v := 1) hx hb d_M_in_10 (by decide) ?_
      refine lv_goto (tgt := 15) hx hb d_M_in_11 (by decide) ?_
      exact r_retz hx hb hr hlocks (by decide) (by simp [mo_in, c_2, c_7]) d_M_in_15

set_option maxHeartbeats 4000000 in
set_option maxRecDepth 100000 in
theorem ct_M_isDesk (l : Launch) (D : va_G) (cI cQ : ClassId) (β : Nat → Nat) (n : Nat) (τ : mS) (hI : m_ok n τ.1) (x : Int32) : Met l y_M_isDesk w_M_isDesk { frames := 0, cells := 0, slots := 0, locals := 0 } (gPc D (kty cI cQ) (mw_w cI β τ) [.ref (β 0), .int x]) (QcRead (mo_isd τ x)) 0 0 (fun _ => False) := by
  refine Met.ofW (cc := b_M_isDesk) (maxL := 2) (ret := some .boolean) (by decide) rfl ?_
  intro p e s m args below meth c s₁ B hml hv
  obtain ⟨rfl, hP, hK, hD⟩ := hv
  have hx := B.exec
  have hb := B.bytes
  have hr := B.returns
  have hts : ∀ w ∈ kT, w.before [.ref (β 0), .int x].toArray s = true := fun w h => atoms_spec (ws := w_M_isDesk) B.pre w (List.mem_cons_of_mem _ h)
  have hown : s.vm.findClass R_M = some m.cls := findClass_of_methodNamed B.named
  have hlocks := B.notSynchronized
  have hl := lv_entry ([.ref (β 0), .int x]) (n := 2) (Nat.le_of_ble_eq_true rfl)
  rw [lg_entry_eq]
  generalize (lg_sl ([.ref (β 0), .int x]) ++ List.replicate (2 - (lg_sl ([.ref (β 0), .int x])).length) Slot.unset).toArray = ls at hl ⊢
  have hl : lv_has ls 2 [(0, .ref (β 0)), (1, .int x)] := hl
  refine lv_iload_n hx hb d_M_isDesk_0 rfl (lv_at hl 1 rfl) ?_
  refine lv_if_lt (tgt := 16) hx hb d_M_isDesk_1 (by decide) (fun c_1 => ?_) (fun c_1 => ?_)
  · -- to 16
    refine lv_iconst (v := 0) hx hb d_M_isDesk_16 (by decide) ?_
    exact r_retz hx hb hr hlocks (by decide) (by simp [mo_isd, c_1]) d_M_isDesk_17
  · -- on 4
    refine lv_iload_n hx hb d_M_isDesk_4 rfl (lv_at hl 1 rfl) ?_
    refine lv_aload_n hx hb d_M_isDesk_5 rfl (lv_at hl 0 rfl) ?_
    refine mw_get hx hb hts hown hK hP 1 (by decide) fl_M_50 (v := .int (τ.1 1)) rfl d_M_isDesk_6 ?_
    refine lv_icmp_ge (tgt := 16) hx hb d_M_isDesk_9 (by decide) (fun c_9 => ?_) (fun c_9 => ?_)
    · -- to 16
      refine lv_iconst (v := 0) hx hb d_M_isDesk_16 (by decide) ?_
      exact r_retz hx hb hr hlocks (by decide) (by simp [mo_isd, c_1, c_9]) d_M_isDesk_17
    · -- on 12
      refine lv_iconst (v := 1) hx hb d_M_isDesk_12 (by decide) ?_
      refine lv_goto (tgt := 17) hx hb d_M_isDesk_13 (by decide) ?_
      exact r_retz hx hb hr hlocks (by decide) (by simp [mo_isd, c_1, c_9]) d_M_isDesk_17

set_option maxHeartbeats 4000000 in
set_option maxRecDepth 100000 in
theorem ct_M_isSubject (l : Launch)  (x : Int32) : Met l y_M_isSubject w_M_isSubject { frames := 0, cells := 0, slots := 0, locals := 0 } (fun v _ => v = [.int x].toArray) (QcRead (kd_sub x)) 0 0 (fun _ => False) := by
  refine Met.ofW (cc := b_M_isSubject) (maxL := 1) (ret := some .boolean) (by decide) rfl ?_
  intro p e s m args below meth c s₁ B hml hv
  subst hv
  have hx := B.exec
  have hb := B.bytes
  have hr := B.returns
  have hts : ∀ w ∈ kT, w.before [.int x].toArray s = true := fun w h => atoms_spec (ws := w_M_isSubject) B.pre w (List.mem_cons_of_mem _ h)
  have hown : s.vm.findClass R_M = some m.cls := findClass_of_methodNamed B.named
  have hlocks := B.notSynchronized
  have hl := lv_entry ([.int x]) (n := 1) (Nat.le_of_ble_eq_true rfl)
  rw [lg_entry_eq]
  generalize (lg_sl ([.int x]) ++ List.replicate (1 - (lg_sl ([.int x])).length) Slot.unset).toArray = ls at hl ⊢
  have hl : lv_has ls 1 [(0, .int x)] := hl
  refine lv_iload_n hx hb d_M_isSubject_0 rfl (lv_at hl 0 rfl) ?_
  refine lv_if_lt (tgt := 14) hx hb d_M_isSubject_1 (by decide) (fun c_1 => ?_) (fun c_1 => ?_)
  · -- to 14
    refine lv_iconst (v := 0) hx hb d_M_isSubject_14 (by decide) ?_
    exact r_retz hx hb hr hlocks (by decide) (by simp [kd_sub, c_1]) d_M_isSubject_15
  · -- on 4
    refine lv_iload_n hx hb d_M_isSubject_4 rfl (lv_at hl 0 rfl) ?_
    refine lv_bipush (v := 16) hx hb d_M_isSubject_5 (by decide) ?_
    refine lv_icmp_ge (tgt := 14) hx hb d_M_isSubject_7 (by decide) (fun c_7 => ?_) (fun c_7 => ?_)
    · -- to 14
      refine lv_iconst (v := 0) hx hb d_M_isSubject_14 (by decide) ?_
      exact r_retz hx hb hr hlocks (by decide) (by simp [kd_sub, c_1, c_7]) d_M_isSubject_15
    · -- on 10
      refine lv_iconst (v := 1) hx hb d_M_isSubject_10 (by decide) ?_
      refine lv_goto (tgt := 15) hx hb d_M_isSubject_11 (by decide) ?_
      exact r_retz hx hb hr hlocks (by decide) (by simp [kd_sub, c_1, c_7]) d_M_isSubject_15

set_option maxHeartbeats 4000000 in
set_option maxRecDepth 100000 in
theorem ct_M_held (l : Launch) (D : va_G) (cI cQ : ClassId) (β : Nat → Nat) (n : Nat) (τ : mS) (hI : m_ok n τ.1) (x : Int32) : Met l y_M_held w_M_held { frames := 0, cells := 0, slots := 0, locals := 0 } (gPc D (kty cI cQ) (mw_w cI β τ) [.ref (β 0), .int x]) (QcRead (mo_held τ x)) 0 0 (fun _ => False) := by
  refine Met.ofW (cc := b_M_held) (maxL := 4) (ret := some .int) (by decide) rfl ?_
  intro p e s m args below meth c s₁ B hml hv
  obtain ⟨rfl, hP, hK, hD⟩ := hv
  have hx := B.exec
  have hb := B.bytes
  have hr := B.returns
  have hts : ∀ w ∈ kT, w.before [.ref (β 0), .int x].toArray s = true := fun w h => atoms_spec (ws := w_M_held) B.pre w (List.mem_cons_of_mem _ h)
  have hown : s.vm.findClass R_M = some m.cls := findClass_of_methodNamed B.named
  have hlocks := B.notSynchronized
  have hl := lv_entry ([.ref (β 0), .int x]) (n := 4) (Nat.le_of_ble_eq_true rfl)
  rw [lg_entry_eq]
  generalize (lg_sl ([.ref (β 0), .int x]) ++ List.replicate (4 - (lg_sl ([.ref (β 0), .int x])).length) Slot.unset).toArray = ls at hl ⊢
  have hl : lv_has ls 4 [(0, .ref (β 0)), (1, .int x)] := hl
  refine lv_iconst (v := 0) hx hb d_M_held_0 (by decide) ?_
  refine lv_istore_n (lv' := [(2, .int 0), (0, .ref (β 0)), (1, .int x)]) hx hb d_M_held_1 rfl hl (by decide) rfl (fun ls hl => ?_)
  refine lv_iconst (v := 0) hx hb d_M_held_2 (by decide) ?_
  refine lv_istore_n (lv' := [(3, .int 0), (2, .int 0), (0, .ref (β 0)), (1, .int x)]) hx hb d_M_held_3 rfl hl (by decide) rfl (fun ls hl => ?_)
  have lp4 : ∀ (fu j : Nat) (acc : Int32) (ls : Array Slot), j ≤ 16 → 16 - j < fu → acc = mo_heldp (τ.2 8) x j → lv_has ls 4 [(3, .int (nI j)), (2, .int acc), (0, .ref (β 0)), (1, .int x)] → W p l e (headSpec w_M_held { frames := 0, cells := 0, slots := 0, locals := 0 }).room s m [.ref (β 0), .int x].toArray below meth c s.heap [] 0 0 (MQ below (QcRead (mo_held τ x)) [.ref (β 0), .int x].toArray s 0 0 (fun _ => False)) (F0 m 4 ls []) := by
    intro fu
    induction fu with
    | zero => intro j acc ls h1 h2; omega
    | succ fu ih =>
      intro j acc ls hj4 hf4 e_acc  hl
      refine lv_iload_n hx hb d_M_held_4 rfl (lv_at hl 0 rfl) ?_
      refine lv_bipush (v := 16) hx hb d_M_held_5 (by decide) ?_
      refine lv_icmp_ge (tgt := 36) hx hb d_M_held_7 (by decide) (fun c_7 => ?_) (fun c_7 => ?_)
      · -- to 36
        have hx4 : j = 16 := lp_eq (B := 16) (hn := (by decide)) c_7 hj4
        subst hx4
        refine lv_iload_n hx hb d_M_held_36 rfl (lv_at hl 1 rfl) ?_
        exact r_reti hx hb hr hlocks (by rw [e_acc] <;> rfl) d_M_held_37
      · -- on 10
        have hl4 : j < 16 := lp_lt (B := 16) (hn := (by decide)) c_7 hj4
        refine lv_iload_n hx hb d_M_held_10 rfl (lv_at hl 1 rfl) ?_
        refine lv_aload_n hx hb d_M_held_11 rfl (lv_at hl 2 rfl) ?_
        refine mw_get hx hb hts hown hK hP 8 (by decide) fl_M_28 (v := .ref (β 8)) rfl d_M_held_12 ?_
        refine lv_iload_n hx hb d_M_held_15 rfl (lv_at hl 0 rfl) ?_
        refine mw_ald hx hb hK hP 8 (by unfold mw_as; decide) (j := j) rfl hl4 d_M_held_16 ?_
        refine lv_iload_n hx hb d_M_held_17 rfl (lv_at hl 3 rfl) ?_
        refine lv_icmp_ne (tgt := 27) hx hb d_M_held_18 (by decide) (fun c_18 => ?_) (fun c_18 => ?_)
        · -- to 27
          refine lv_iconst (v := 0) hx hb d_M_held_27 (by decide) ?_
          refine lv_ior hx hb d_M_held_28 ?_
          refine lv_istore_n (lv' := [(2, .int (acc ||| 0)), (3, .int (nI j)), (0, .ref (β 0)), (1, .int x)]) hx hb d_M_held_29 rfl hl (by decide) rfl (fun ls hl => ?_)
          refine lv_iinc (v := nI (j + 1)) (lv' := [(3, .int (nI (j + 1))), (2, .int (acc ||| 0)), (0, .ref (β 0)), (1, .int x)]) hx hb d_M_held_30 hl (k := 1) rfl (nI_1 j) (by decide) rfl (fun ls hl => ?_)
          refine lv_goto (tgt := 4) hx hb d_M_held_33 (by decide) ?_
          exact ih (j + 1) (acc ||| 0) ls (by omega) (by omega) (by rw [mo_heldp, ← e_acc] <;> simp [c_7, c_18]) (lv_sub hl [0, 1, 2, 3] rfl)
        · -- on 21
          refine lv_iconst (v := 1) hx hb d_M_held_21 (by decide) ?_
          refine lv_iload_n hx hb d_M_held_22 rfl (lv_at hl 0 rfl) ?_
          refine lv_ishl hx hb d_M_held_23 ?_
          refine lv_goto (tgt := 28) hx hb d_M_held_24 (by decide) ?_
          refine lv_ior hx hb d_M_held_28 ?_
          refine lv_istore_n (lv' := [(2, .int (acc ||| (1 <<< ((nI j) &&& 31)))), (3, .int (nI j)), (0, .ref (β 0)), (1, .int x)]) hx hb d_M_held_29 rfl hl (by decide) rfl (fun ls hl => ?_)
          refine lv_iinc (v := nI (j + 1)) (lv' := [(3, .int (nI (j + 1))), (2, .int (acc ||| (1 <<< ((nI j) &&& 31)))), (0, .ref (β 0)), (1, .int x)]) hx hb d_M_held_30 hl (k := 1) rfl (nI_1 j) (by decide) rfl (fun ls hl => ?_)
          refine lv_goto (tgt := 4) hx hb d_M_held_33 (by decide) ?_
          exact ih (j + 1) (acc ||| (1 <<< ((nI j) &&& 31))) ls (by omega) (by omega) (by rw [mo_heldp, ← e_acc] <;> simp [c_7, c_18]) (lv_sub hl [0, 1, 2, 3] rfl)
  exact lp4 (16 - 0 + 1) 0 _ ls (by omega) (by omega) rfl  (lv_sub hl [0, 1, 2, 3] rfl)

set_option maxHeartbeats 4000000 in
set_option maxRecDepth 100000 in
theorem ct_M_ones (l : Launch)  (x : Int32) : Met l y_M_ones w_M_ones { frames := 0, cells := 0, slots := 0, locals := 0 } (fun v _ => v = [.int x].toArray) (QcRead (mo_onesp x 16)) 0 0 (fun _ => False) := by
  refine Met.ofW (cc := b_M_ones) (maxL := 3) (ret := some .int) (by decide) rfl ?_
  intro p e s m args below meth c s₁ B hml hv
  subst hv
  have hx := B.exec
  have hb := B.bytes
  have hr := B.returns
  have hts : ∀ w ∈ kT, w.before [.int x].toArray s = true := fun w h => atoms_spec (ws := w_M_ones) B.pre w (List.mem_cons_of_mem _ h)
  have hown : s.vm.findClass R_M = some m.cls := findClass_of_methodNamed B.named
  have hlocks := B.notSynchronized
  have hl := lv_entry ([.int x]) (n := 3) (Nat.le_of_ble_eq_true rfl)
  rw [lg_entry_eq]
  generalize (lg_sl ([.int x]) ++ List.replicate (3 - (lg_sl ([.int x])).length) Slot.unset).toArray = ls at hl ⊢
  have hl : lv_has ls 3 [(0, .int x)] := hl
  refine lv_iconst (v := 0) hx hb d_M_ones_0 (by decide) ?_
  refine lv_istore_n (lv' := [(1, .int 0), (0, .int x)]) hx hb d_M_ones_1 rfl hl (by decide) rfl (fun ls hl => ?_)
  refine lv_iconst (v := 0) hx hb d_M_ones_2 (by decide) ?_
  refine lv_istore_n (lv' := [(2, .int 0), (1, .int 0), (0, .int x)]) hx hb d_M_ones_3 rfl hl (by decide) rfl (fun ls hl => ?_)
  have lp4 : ∀ (fu j : Nat) (acc : Int32) (ls : Array Slot), j ≤ 16 → 16 - j < fu → acc = mo_onesp x j → lv_has ls 3 [(2, .int (nI j)), (1, .int acc), (0, .int x)] → W p l e (headSpec w_M_ones { frames := 0, cells := 0, slots := 0, locals := 0 }).room s m [.int x].toArray below meth c s.heap [] 0 0 (MQ below (QcRead (mo_onesp x 16)) [.int x].toArray s 0 0 (fun _ => False)) (F0 m 4 ls []) := by
    intro fu
    induction fu with
    | zero => intro j acc ls h1 h2; omega
    | succ fu ih =>
      intro j acc ls hj4 hf4 e_acc  hl
      refine lv_iload_n hx hb d_M_ones_4 rfl (lv_at hl 0 rfl) ?_
      refine lv_bipush (v := 16) hx hb d_M_ones_5 (by decide) ?_
      refine lv_icmp_ge (tgt := 24) hx hb d_M_ones_7 (by decide) (fun c_7 => ?_) (fun c_7 => ?_)
      · -- to 24
        have hx4 : j = 16 := lp_eq (B := 16) (hn := (by decide)) c_7 hj4
        subst hx4
        refine lv_iload_n hx hb d_M_ones_24 rfl (lv_at hl 1 rfl) ?_
        exact r_reti hx hb hr hlocks (by rw [e_acc] <;> rfl) d_M_ones_25
      · -- on 10
        have hl4 : j < 16 := lp_lt (B := 16) (hn := (by decide)) c_7 hj4
        refine lv_iload_n hx hb d_M_ones_10 rfl (lv_at hl 1 rfl) ?_
        refine lv_iload_n hx hb d_M_ones_11 rfl (lv_at hl 2 rfl) ?_
        refine lv_iload_n hx hb d_M_ones_12 rfl (lv_at hl 0 rfl) ?_
        refine lv_ishr hx hb d_M_ones_13 ?_
        refine lv_iconst (v := 1) hx hb d_M_ones_14 (by decide) ?_
        refine lv_iand hx hb d_M_ones_15 ?_
        refine lv_iadd hx hb d_M_ones_16 ?_
        refine lv_istore_n (lv' := [(1, .int (acc + ((x >>> ((nI j) &&& 31)) &&& 1))), (2, .int (nI j)), (0, .int x)]) hx hb d_M_ones_17 rfl hl (by decide) rfl (fun ls hl => ?_)
        refine lv_iinc (v := nI (j + 1)) (lv' := [(2, .int (nI (j + 1))), (1, .int (acc + ((x >>> ((nI j) &&& 31)) &&& 1))), (0, .int x)]) hx hb d_M_ones_18 hl (k := 1) rfl (nI_1 j) (by decide) rfl (fun ls hl => ?_)
        refine lv_goto (tgt := 4) hx hb d_M_ones_21 (by decide) ?_
        exact ih (j + 1) (acc + ((x >>> ((nI j) &&& 31)) &&& 1)) ls (by omega) (by omega) (by rw [mo_onesp, ← e_acc] <;> simp [c_7]) (lv_sub hl [0, 1, 2] rfl)
  exact lp4 (16 - 0 + 1) 0 _ ls (by omega) (by omega) rfl  (lv_sub hl [0, 1, 2] rfl)

set_option maxHeartbeats 4000000 in
set_option maxRecDepth 100000 in
theorem ct_M_isMidst (l : Launch) (D : va_G) (cI cQ : ClassId) (β : Nat → Nat) (n : Nat) (τ : mS) (hI : m_ok n τ.1) (i : Nat) (hi : i < n) : Met l y_M_isMidst w_M_isMidst { frames := 1, cells := 0, slots := 0, locals := 23 } (gPc D (kty cI cQ) (mw_w cI β τ) [.ref (β 0), .int (nI i)]) (QcRead (mo_midst τ i)) 0 0 (fun _ => False) := by
  refine Met.ofW (cc := b_M_isMidst) (maxL := 2) (ret := some .boolean) (by decide) rfl ?_
  intro p e s m args below meth c s₁ B hml hv
  obtain ⟨rfl, hP, hK, hD⟩ := hv
  have hx := B.exec
  have hb := B.bytes
  have hr := B.returns
  have hts : ∀ w ∈ kT, w.before [.ref (β 0), .int (nI i)].toArray s = true := fun w h => atoms_spec (ws := w_M_isMidst) B.pre w (List.mem_cons_of_mem _ h)
  have hown : s.vm.findClass R_M = some m.cls := findClass_of_methodNamed B.named
  have hlocks := B.notSynchronized
  have hl := lv_entry ([.ref (β 0), .int (nI i)]) (n := 2) (Nat.le_of_ble_eq_true rfl)
  rw [lg_entry_eq]
  generalize (lg_sl ([.ref (β 0), .int (nI i)]) ++ List.replicate (2 - (lg_sl ([.ref (β 0), .int (nI i)])).length) Slot.unset).toArray = ls at hl ⊢
  have hl : lv_has ls 2 [(0, .ref (β 0)), (1, .int (nI i))] := hl
  refine lv_aload_n hx hb d_M_isMidst_0 rfl (lv_at hl 0 rfl) ?_
  refine lv_iload_n hx hb d_M_isMidst_1 rfl (lv_at hl 1 rfl) ?_
  refine r_calli (W.runV (As := [.int (nI i)]) (rest := []) ⟨hx, hb, hml, hown, hts⟩ (ct_M_held l D cI cQ β n τ hI (nI i)) (cwV 1 hts gd_M_65 rfl rfl rfl (by decide +kernel) ⟨Nat.le_of_ble_eq_true rfl, Nat.le_of_ble_eq_true rfl⟩) (g_preV hK hP hD (ci := 2) (q0 := 0) rfl mw_0) rfl rfl hl.1 rfl (lv_room (Nat.le_of_ble_eq_true rfl)) d_M_isMidst_2 ⟨Nat.le_refl _, Nat.le_refl _⟩) ?_
  refine lv_if_ne (tgt := 18) hx hb d_M_isMidst_5 (by decide) (fun c_5 => ?_) (fun c_5 => ?_)
  · -- to 18
    refine lv_iconst (v := 1) hx hb d_M_isMidst_18 (by decide) ?_
    refine lv_goto (tgt := 23) hx hb d_M_isMidst_19 (by decide) ?_
    exact r_retz hx hb hr hlocks (by decide) (by simp [mo_midst, c_5]) d_M_isMidst_23
  · -- on 8
    refine lv_aload_n hx hb d_M_isMidst_8 rfl (lv_at hl 0 rfl) ?_
    refine mw_get hx hb hts hown hK hP 10 (by decide) fl_M_34 (v := .ref (β 10)) rfl d_M_isMidst_9 ?_
    refine lv_iload_n hx hb d_M_isMidst_12 rfl (lv_at hl 1 rfl) ?_
    refine mw_ald hx hb hK hP 10 (by unfold mw_as; decide) (j := i) rfl (m8 hI hi) d_M_isMidst_13 ?_
    refine lv_iconst (v := (-1)) hx hb d_M_isMidst_14 (by decide) ?_
    refine lv_icmp_eq (tgt := 22) hx hb d_M_isMidst_15 (by decide) (fun c_15 => ?_) (fun c_15 => ?_)
    · -- to 22
      refine lv_iconst (v := 0) hx hb d_M_isMidst_22 (by decide) ?_
      exact r_retz hx hb hr hlocks (by decide) (by simp [mo_midst, c_5, c_15]) d_M_isMidst_23
    · -- on 18
      refine lv_iconst (v := 1) hx hb d_M_isMidst_18 (by decide) ?_
      refine lv_goto (tgt := 23) hx hb d_M_isMidst_19 (by decide) ?_
      exact r_retz hx hb hr hlocks (by decide) (by simp [mo_midst, c_5, c_15]) d_M_isMidst_23
