set_option maxHeartbeats 4000000 in
set_option maxRecDepth 100000 in
theorem ct_K_run (l : Launch) (D : va_G) (cI cQ : ClassId) (α ad an : Nat → Nat) (n : Nat) (σ : kS) (hI : k_ok n σ.1) (hc0 : σ.1 12 = 0) (t r : Nat) (hrt : r ≤ t) (ht : t ≤ 300) (e6 : σ.1 6 = nI t) (e7 : σ.1 7 = nI r) : Met l y_K_run w_K_run { frames := 6, cells := 0, slots := 0, locals := 136 } (gPc D (kty cI cQ) (kw_w cI cQ α ad an n σ) [.ref (α 0)]) (gQi D (kw_al α ad an n) ((kp_run n σ r (t - r)).1) (kw_w cI cQ α ad an n ((kp_run n σ r (t - r)).2))) 0 0 (gA (kw_al α ad an n)) := by
  refine Met.ofW (cc := b_K_run) (maxL := 4) (ret := some .int) (by decide) rfl ?_
  intro p e s m args below meth c s₁ B hml hv
  obtain ⟨rfl, hP, hK, hD⟩ := hv
  have hx := B.exec
  have hb := B.bytes
  have hr := B.returns
  have hts : ∀ w ∈ kT, w.before [.ref (α 0)].toArray s = true := fun w h => atoms_spec (ws := w_K_run) B.pre w (List.mem_cons_of_mem _ h)
  have hown : s.vm.findClass R_K = some m.cls := findClass_of_methodNamed B.named
  have hlocks := B.notSynchronized
  have hD : va_D (gA (kw_al α ad an n)) (kw_w cI cQ α ad an n σ) := gD kw_adr hD
  have hS : va_S (gA (kw_al α ad an n)) s.heap s.heap [] := va_S.rf
  have hl := lv_entry ([.ref (α 0)]) (n := 4) (Nat.le_of_ble_eq_true rfl)
  rw [lg_entry_eq]
  generalize (lg_sl ([.ref (α 0)]) ++ List.replicate (4 - (lg_sl ([.ref (α 0)])).length) Slot.unset).toArray = ls at hl ⊢
  have hl : lv_has ls 4 [(0, .ref (α 0))] := hl
  refine lv_aload_n hx hb d_K_run_0 rfl (lv_at hl 0 rfl) ?_
  refine kw_get hx hb hts hown hK hP 12 (by decide) fl_K_50 (v := .int (σ.1 12)) rfl d_K_run_1 ?_
  refine lv_if_eq (tgt := 17) hx hb d_K_run_4 (by decide) (fun c_4 => ?_) (fun c_4 => ?_)
  · -- to 17
    refine lv_iconst (v := 0) hx hb d_K_run_17 (by decide) ?_
    refine lv_istore_n (lv' := [(1, .int 0), (0, .ref (α 0))]) hx hb d_K_run_18 rfl hl (by decide) rfl (fun ls hl => ?_)
    refine lv_aload_n hx hb d_K_run_19 rfl (lv_at hl 1 rfl) ?_
    refine kw_get hx hb hts hown hK hP 7 (by decide) fl_K_35 (v := .int (σ.1 7)) rfl d_K_run_20 ?_
    refine lv_istore_n (lv' := [(2, .int (σ.1 7)), (1, .int 0), (0, .ref (α 0))]) hx hb d_K_run_23 rfl hl (by decide) rfl (fun ls hl => ?_)
    have lp24 : ∀ (fu k : Nat) (acc : Int32) (ς : kS) (H : Heap) (locs : List Loc) (ls : Array Slot), r + k ≤ t → t - (r + k) < fu → acc = (kd_runp n σ r k).1 → ς = (kd_runp n σ r k).2 → va_P D kcl (kw_w cI cQ α ad an n ς) H → va_D (gA (kw_al α ad an n)) (kw_w cI cQ α ad an n ς) → va_S (gA (kw_al α ad an n)) s.heap H locs → lv_has ls 4 [(2, .int (nI (r + k))), (1, .int acc), (0, .ref (α 0))] → W p l e (headSpec w_K_run { frames := 6, cells := 0, slots := 0, locals := 136 }).room s m [.ref (α 0)].toArray below meth c H locs 0 0 (MQ below (gQi D (kw_al α ad an n) ((kp_run n σ r (t - r)).1) (kw_w cI cQ α ad an n ((kp_run n σ r (t - r)).2))) [.ref (α 0)].toArray s 0 0 (gA (kw_al α ad an n))) (F0 m 24 ls []) := by
      intro fu
      induction fu with
      | zero => intro k acc ς H locs ls h1 h2; omega
      | succ fu ih =>
        intro k acc ς H locs ls hk24 hf24 e_acc e_ς hP hD hS hl
        obtain ⟨hI, h6⟩ : k_ok n ς.1 ∧ ς.1 6 = nI t := by rw [e_ς, ← e6]; exact kd_runp_ok hI k
        have epq : kd_runp n σ r k = (acc, ς) := by rw [e_acc, e_ς]
        refine lv_iload_n hx hb d_K_run_24 rfl (lv_at hl 0 rfl) ?_
        refine lv_aload_n hx hb d_K_run_25 rfl (lv_at hl 2 rfl) ?_
        refine kw_get hx hb hts hown hK hP 6 (by decide) fl_K_32 (v := .int (ς.1 6)) rfl d_K_run_26 ?_
        refine lv_icmp_ge (tgt := 73) hx hb d_K_run_29 (by decide) (fun c_29 => ?_) (fun c_29 => ?_)
        · -- to 73
          have hkt : k = t - r := by
            rw [h6] at c_29
            have := lp_eq (B := t) (hn := by omega) c_29 hk24
            omega
          rw [hkt] at e_acc e_ς
          refine lv_aload_n hx hb d_K_run_73 rfl (lv_at hl 2 rfl) ?_
          refine lv_aload_n hx hb d_K_run_74 rfl (lv_at hl 2 rfl) ?_
          refine kw_get hx hb hts hown hK hP 6 (by decide) fl_K_32 (v := .int (ς.1 6)) rfl d_K_run_75 ?_
          refine kw_put hx hb hts hown hK hP hD hS 7 (by decide) fl_K_35 rfl rfl rfl d_K_run_78 (fun H locs hP hD hS => ?_)
          obtain ⟨σ1, e_σ1⟩ : ∃ ζ, ζ = k_f ς 7 (ς.1 6) := ⟨_, rfl⟩
          rw [← e_σ1] at hP hD
          refine lv_iload_n hx hb d_K_run_81 rfl (lv_at hl 1 rfl) ?_
          exact g_reti hx hb hr hlocks (by rw [kp_run, e_acc]) (by rw [kp_run, e_σ1, e_ς]) hP hS d_K_run_82
        · -- on 32
          have hlt : r + k < t := by
            rw [h6] at c_29
            exact lp_lt (B := t) (hn := by omega) c_29 hk24
          refine lv_iload_n hx hb d_K_run_32 rfl (lv_at hl 0 rfl) ?_
          refine lv_aload_n hx hb d_K_run_33 rfl (lv_at hl 2 rfl) ?_
          refine kw_get hx hb hts hown hK hP 5 (by decide) fl_K_29 (v := .ref (α 4)) rfl d_K_run_34 ?_
          refine kw_alen hx hb hK hP 2 (by decide) (v := 300) rfl d_K_run_37 ?_
          refine lv_icmp_ge (tgt := 73) hx hb d_K_run_38 (by decide) (fun c_38 => ?_) (fun c_38 => ?_)
          · -- to 73
            exact absurd c_38 (nI_ge (b := 300) (show r + k < 300 by omega) (by decide))
          · -- on 41
            refine lv_aload_n hx hb d_K_run_41 rfl (lv_at hl 2 rfl) ?_
            refine lv_aload_n hx hb d_K_run_42 rfl (lv_at hl 2 rfl) ?_
            refine kw_get hx hb hts hown hK hP 5 (by decide) fl_K_29 (v := .ref (α 4)) rfl d_K_run_43 ?_
            refine lv_iload_n hx hb d_K_run_46 rfl (lv_at hl 0 rfl) ?_
            refine kw_ald hx hb hK hP 2 (by decide) (j := (r + k)) rfl (show r + k < 300 by omega) d_K_run_47 ?_
            refine r_callq (W.runV (As := [.int (ς.2.1 2 (r + k))]) (rest := []) ⟨hx, hb, hml, hown, hts⟩ (ct_K_deskAt l D cI cQ α ad an n ς hI (ς.2.1 2 (r + k))) (cwV 1 hts gd_K_77 rfl rfl rfl (by decide +kernel) ⟨Nat.le_of_ble_eq_true rfl, Nat.le_of_ble_eq_true rfl⟩) (g_preV hK hP hD (ci := 0) (q0 := 0) rfl kw_0) rfl rfl hl.1 rfl (lv_room (Nat.le_of_ble_eq_true rfl)) d_K_run_48 ⟨Nat.le_refl _, Nat.le_refl _⟩) ?_
            rcases q_48 : kd_at n (ς.2.1 2 (r + k)) with _ | i1
            · -- nobody
              refine W.eq (g2 := F0 m 51 ls [.null]) rfl ?_
              refine lv_astore_nN (lv' := [(3, .null), (2, .int (nI (r + k))), (1, .int acc), (0, .ref (α 0))]) hx hb d_K_run_51 rfl hl (by decide) rfl (fun ls hl => ?_)
              refine lv_aload_nN hx hb d_K_run_52 rfl (lv_at hl 0 rfl) ?_
              refine lv_ifnullN (tgt := 67) hx hb d_K_run_53 (by decide) ?_
              refine lv_iinc (v := nI ((r + k) + 1)) (lv' := [(2, .int (nI ((r + k) + 1))), (3, .null), (1, .int acc), (0, .ref (α 0))]) hx hb d_K_run_67 hl (k := 1) rfl (nI_1 (r + k)) (by decide) rfl (fun ls hl => ?_)
              refine lv_goto (tgt := 24) hx hb d_K_run_70 (by decide) ?_
              have e9 : kd_runp n σ r (k + 1) = (match kd_at n (ς.2.1 2 (r + k)) with
                | none => (acc, ς)
                | some i => (if (kd_turn n ς i).1 = 0 then acc else acc + 1, (kd_turn n ς i).2)) := by rw [kd_runp, epq]; rfl
              rw [q_48] at e9
              dsimp only at e9
              have hl : lv_has ls 4 [(2, .int (nI (r + (k + 1)))), (1, .int acc), (0, .ref (α 0))] := lv_sub hl [0, 2, 3] rfl
              exact ih (k + 1) acc _ _ _ ls (by omega) (by omega) (by rw [e9]) (by rw [e9]) hP hD hS hl
            · -- i1
              have hi1 : i1 < n := kd_at_lt hI q_48
              refine W.eq (g2 := F0 m 51 ls [.ref (ad i1)]) rfl ?_
              refine lv_astore_n (lv' := [(3, .ref (ad i1)), (2, .int (nI (r + k))), (1, .int acc), (0, .ref (α 0))]) hx hb d_K_run_51 rfl hl (by decide) rfl (fun ls hl => ?_)
              refine lv_aload_n hx hb d_K_run_52 rfl (lv_at hl 0 rfl) ?_
              refine lv_ifnull hx hb d_K_run_53 ?_
              refine lv_aload_n hx hb d_K_run_56 rfl (lv_at hl 3 rfl) ?_
              refine lv_aload_n hx hb d_K_run_57 rfl (lv_at hl 0 rfl) ?_
              refine g_calli (va_runV (As := [.ref (ad i1)]) (rest := []) ⟨hx, hb, hml, hown, hts⟩ (ct_K_takeTurn l D cI cQ α ad an n ς hI i1 hi1) (cwV 1 hts gd_K_108 rfl rfl rfl (by decide +kernel) ⟨Nat.le_of_ble_eq_true rfl, Nat.le_of_ble_eq_true rfl⟩) (g_preV hK hP hD (ci := 0) (q0 := 0) rfl kw_0) rfl rfl hl.1 rfl (lv_room (Nat.le_of_ble_eq_true rfl)) d_K_run_58 ⟨Nat.le_refl _, Nat.le_refl _⟩) hD hS (kw_addr _) (fun H locs hP hD hS => ?_)
              obtain ⟨σ2, e_σ2⟩ : ∃ ζ, ζ = (kd_turn n ς i1).2 := ⟨_, rfl⟩
              rw [← e_σ2] at hP hD
              have hI : k_ok n σ2.1 := by rw [e_σ2]; exact (k_ok_turn hI)
              refine lv_if_eq (tgt := 67) hx hb d_K_run_61 (by decide) (fun c_61 => ?_) (fun c_61 => ?_)
              · -- to 67
                refine lv_iinc (v := nI ((r + k) + 1)) (lv' := [(2, .int (nI ((r + k) + 1))), (3, .ref (ad i1)), (1, .int acc), (0, .ref (α 0))]) hx hb d_K_run_67 hl (k := 1) rfl (nI_1 (r + k)) (by decide) rfl (fun ls hl => ?_)
                refine lv_goto (tgt := 24) hx hb d_K_run_70 (by decide) ?_
                have e9 : kd_runp n σ r (k + 1) = (match kd_at n (ς.2.1 2 (r + k)) with
                  | none => (acc, ς)
                  | some i => (if (kd_turn n ς i).1 = 0 then acc else acc + 1, (kd_turn n ς i).2)) := by rw [kd_runp, epq]; rfl
                rw [q_48] at e9
                dsimp only at e9
                have hl : lv_has ls 4 [(2, .int (nI (r + (k + 1)))), (1, .int acc), (0, .ref (α 0))] := lv_sub hl [0, 2, 3] rfl
                exact ih (k + 1) acc _ _ _ ls (by omega) (by omega) (by rw [e9, if_pos c_61]) (by rw [e9, e_σ2]) hP hD hS hl
              · -- on 64
                refine lv_iinc (v := acc + 1) (lv' := [(1, .int (acc + 1)), (3, .ref (ad i1)), (2, .int (nI (r + k))), (0, .ref (α 0))]) hx hb d_K_run_64 hl (k := 2) rfl rfl (by decide) rfl (fun ls hl => ?_)
                refine lv_iinc (v := nI ((r + k) + 1)) (lv' := [(2, .int (nI ((r + k) + 1))), (1, .int (acc + 1)), (3, .ref (ad i1)), (0, .ref (α 0))]) hx hb d_K_run_67 hl (k := 2) rfl (nI_1 (r + k)) (by decide) rfl (fun ls hl => ?_)
                refine lv_goto (tgt := 24) hx hb d_K_run_70 (by decide) ?_
                have e9 : kd_runp n σ r (k + 1) = (match kd_at n (ς.2.1 2 (r + k)) with
                  | none => (acc, ς)
                  | some i => (if (kd_turn n ς i).1 = 0 then acc else acc + 1, (kd_turn n ς i).2)) := by rw [kd_runp, epq]; rfl
                rw [q_48] at e9
                dsimp only at e9
                have hl : lv_has ls 4 [(2, .int (nI (r + (k + 1)))), (1, .int (acc + 1)), (0, .ref (α 0))] := lv_sub hl [0, 1, 3] rfl
                exact ih (k + 1) (acc + 1) _ _ _ ls (by omega) (by omega) (by rw [e9, if_neg c_61]) (by rw [e9, e_σ2]) hP hD hS hl
    have hl : lv_has ls 4 [(2, .int (nI (r + 0))), (1, .int 0), (0, .ref (α 0))] := by rw [Nat.add_zero, ← e7]; exact lv_sub hl [0, 1, 2] rfl
    exact lp24 (t - r + 1) 0 _ _ _ _ ls (by omega) (by omega) rfl rfl hP hD hS hl
  · -- on 7
    exact absurd hc0 c_4
