/-! the law's loop -/
theorem tb_13 {x : Int32} (h0 : ¬ x = 0) (h1 : ¬ x = 1) (h2 : ¬ x = 2) (h3 : ¬ x = 3) (h4 : ¬ x = 4) (h5 : ¬ x = 5) (h6 : ¬ x = 6) (h7 : ¬ x = 7) (h8 : ¬ x = 8) (h9 : ¬ x = 9) (h10 : ¬ x = 10) (h11 : ¬ x = 11) (h12 : ¬ x = 12) : x.toInt < 0 ∨ 12 < x.toInt := by
  have a0 := i32_toInt_ne (k := 0) (by decide) h0
  have a1 := i32_toInt_ne (k := 1) (by decide) h1
  have a2 := i32_toInt_ne (k := 2) (by decide) h2
  have a3 := i32_toInt_ne (k := 3) (by decide) h3
  have a4 := i32_toInt_ne (k := 4) (by decide) h4
  have a5 := i32_toInt_ne (k := 5) (by decide) h5
  have a6 := i32_toInt_ne (k := 6) (by decide) h6
  have a7 := i32_toInt_ne (k := 7) (by decide) h7
  have a8 := i32_toInt_ne (k := 8) (by decide) h8
  have a9 := i32_toInt_ne (k := 9) (by decide) h9
  have a10 := i32_toInt_ne (k := 10) (by decide) h10
  have a11 := i32_toInt_ne (k := 11) (by decide) h11
  have a12 := i32_toInt_ne (k := 12) (by decide) h12
  omega
theorem nd_head {L q : Nat} (hL : L ≤ 2048) (hq : 4 * q ≤ L + 3) (c : ¬ nI L - 4 < nI (4 * q)) : 4 * q + 3 < L := by
  rw [Int32.lt_iff_toInt_lt, show (4 : Int32) = nI 4 from rfl, pk_sub_toInt (by omega) (by decide), nI_toInt (by omega)] at c
  omega
set_option maxHeartbeats 4000000 in
set_option maxRecDepth 100000 in
theorem lw_loop {p : Program} {l : Launch} {e : Env} {s : State} {m : MethodId} {below : List Frame} {meth : Method} {c : Code} {b L : Nat} {xs : Nat → Int32} {D : va_G} {cI cQ cL : ClassId} (C : lw_C p s m c b L xs D cI cQ cL) (hr : meth.sig.returnType = ret) (hlocks : meth.locks = false) (hlT : l.stackTraces = false) (hL : L ≤ 2048) {α β : Nat → Nat} {ω : Nat} :
    ∀ (fu q n : Nat) (σ : kS) (τ : mS) (ad an : Nat → Nat) (f : Nat → Int64) (H : Heap) (locs : List Loc) (ls : Array Slot), 4 * q ≤ L + 3 → 600 - q < fu → lw_W D cI cQ cL s α β ω n σ τ ad an f H locs → lv_has ls 7 [(4, .int (nI (4 * q))), (3, .ref ω), (2, .ref (β 0)), (1, .ref (α 0)), (0, .ref b)] →
      W p l e room_1 s m #[Value.ref b] below meth c H locs (20 + 2 * q) (1659 + 22 * q) (lw_Z below #[Value.ref b] s) (F0 m 23 ls []) := by
  obtain ⟨hx, hb, hml, hown, hts, hX, hbl, hK, hZ, hSt⟩ := id C
  intro fu
  induction fu with
  | zero => intro q n σ τ ad an f H locs ls h1 h2; omega
  | succ fu ih =>
    intro q n σ τ ad an f H locs ls hq hf hw hl
    have hS : va_S (fun q => s.heap.size ≤ q) s.heap H locs := hw.2.2.2.2.2.2.2.2.2
    have hbA : ¬ (fun q : Nat => s.heap.size ≤ q) b := Nat.not_le.mpr hbl
    refine lv_iload hx hb d_L_law_23 (lv_at hl 0 rfl) ?_
    refine lv_aload_n hx hb d_L_law_25 rfl (lv_at hl 4 rfl) ?_
    refine va_slen hx hb hX hbl hbA hS d_L_law_26 ?_
    refine lv_iconst (v := 4) hx hb d_L_law_27 (by decide) ?_
    refine lv_isub hx hb d_L_law_28 ?_
    refine lv_icmp_gt (tgt := 719) hx hb d_L_law_29 (by decide) (fun c29 => ?_) (fun c29 => ?_)
    · refine lv_iconst (v := 1) hx hb d_L_law_719 (by decide) ?_
      refine va_forget hS.2.2 ?_
      refine W.widen (k := 601024) (n := 7293034) (by omega) (by omega) ?_
      exact lw_ret hx hb hr hlocks d_L_law_720
    · have hi : 4 * q + 3 < L := nd_head hL hq c29
      have hcs : 20 + 2 * q + 2 ≤ 601024 ∧ 1659 + 22 * q + 22 ≤ 7293034 := ⟨by omega, by omega⟩
      have back : ∀ (n' : Nat) (σ' : kS) (τ' : mS) (ad' an' : Nat → Nat) (f' : Nat → Int64) (H' : Heap) (locs' : List Loc) (ls' : Array Slot), lw_W D cI cQ cL s α β ω n' σ' τ' ad' an' f' H' locs' → lv_has ls' 7 [(4, .int (nI (4 * q))), (3, .ref ω), (2, .ref (β 0)), (1, .ref (α 0)), (0, .ref b)] → W p l e room_1 s m #[Value.ref b] below meth c H' locs' (20 + 2 * q + 2) (1659 + 22 * q + 22) (lw_Z below #[Value.ref b] s) (F0 m 713 ls' []) := by
        intro n' σ' τ' ad' an' f' H' locs' ls' hw' hl'
        refine lv_iinc (v := nI (4 * (q + 1))) (lv' := [(4, .int (nI (4 * (q + 1)))), (3, .ref ω), (2, .ref (β 0)), (1, .ref (α 0)), (0, .ref b)]) hx hb d_L_law_713 hl' (k := 0) rfl (by rw [show 4 * (q + 1) = 4 * q + 4 by omega]; exact nI_add (4 * q) 4) (by decide) rfl (fun ls hl => ?_)
        refine lv_goto (tgt := 23) hx hb d_L_law_716 (by decide) ?_
        exact ih (q + 1) n' σ' τ' ad' an' f' H' locs' ls (by omega) (by omega) hw' hl
      refine lv_aload_n hx hb d_L_law_32 rfl (lv_at hl 4 rfl) ?_
      refine lv_iload hx hb d_L_law_33 (lv_at hl 0 rfl) ?_
      refine l_ld (v := xs (4 * q)) (j := 4 * q) hx hb hX hbl hS rfl (by omega) hL rfl d_L_law_35 ?_
      refine lv_bipush (v := 15) hx hb d_L_law_36 (by decide) ?_
      refine lv_iand hx hb d_L_law_38 ?_
      generalize xs (4 * q) &&& 15 = op
      by_cases h_0 : op = 0
      · rw [h_0]
        refine lv_tableIn (tgt := 104) (off := 65) hx hb d_L_law_39 (by decide) (by decide) rfl (by decide) ?_
        exact lc_desk C hlT hL hi hcs hw hl back
      by_cases h_1 : op = 1
      · rw [h_1]
        refine lv_tableIn (tgt := 172) (off := 133) hx hb d_L_law_39 (by decide) (by decide) rfl (by decide) ?_
        exact lc_needs C hlT hL hi hcs hw hl back
      by_cases h_2 : op = 2
      · rw [h_2]
        refine lv_tableIn (tgt := 221) (off := 182) hx hb d_L_law_39 (by decide) (by decide) rfl (by decide) ?_
        exact lc_turn C hlT hL hi hcs hw hl back
      by_cases h_3 : op = 3
      · rw [h_3]
        refine lv_tableIn (tgt := 277) (off := 238) hx hb d_L_law_39 (by decide) (by decide) rfl (by decide) ?_
        exact lc_run C hlT hL hi hcs hw hl back
      by_cases h_4 : op = 4
      · rw [h_4]
        refine lv_tableIn (tgt := 321) (off := 282) hx hb d_L_law_39 (by decide) (by decide) rfl (by decide) ?_
        exact lc_log C hlT hL hi hcs hw hl back
      by_cases h_5 : op = 5
      · rw [h_5]
        refine lv_tableIn (tgt := 346) (off := 307) hx hb d_L_law_39 (by decide) (by decide) rfl (by decide) ?_
        exact lc_holder C hlT hL hi hcs hw hl back
      by_cases h_6 : op = 6
      · rw [h_6]
        refine lv_tableIn (tgt := 402) (off := 363) hx hb d_L_law_39 (by decide) (by decide) rfl (by decide) ?_
        exact lc_waits C hlT hL hi hcs hw hl back
      by_cases h_7 : op = 7
      · rw [h_7]
        refine lv_tableIn (tgt := 470) (off := 431) hx hb d_L_law_39 (by decide) (by decide) rfl (by decide) ?_
        exact lc_interrupt C hlT hL hi hcs hw hl back
      by_cases h_8 : op = 8
      · rw [h_8]
        refine lv_tableIn (tgt := 495) (off := 456) hx hb d_L_law_39 (by decide) (by decide) rfl (by decide) ?_
        exact lc_dead C hlT hL hi hcs hw hl back
      by_cases h_9 : op = 9
      · rw [h_9]
        refine lv_tableIn (tgt := 551) (off := 512) hx hb d_L_law_39 (by decide) (by decide) rfl (by decide) ?_
        exact lc_tick C hlT hL hi hcs hw hl back
      by_cases h_10 : op = 10
      · rw [h_10]
        refine lv_tableIn (tgt := 607) (off := 568) hx hb d_L_law_39 (by decide) (by decide) rfl (by decide) ?_
        exact lc_close C hlT hL hi hcs hw hl back
      by_cases h_11 : op = 11
      · rw [h_11]
        refine lv_tableIn (tgt := 620) (off := 581) hx hb d_L_law_39 (by decide) (by decide) rfl (by decide) ?_
        exact lc_look C hlT hL hi hcs hw hl back
      by_cases h_12 : op = 12
      · rw [h_12]
        refine lv_tableIn (tgt := 688) (off := 649) hx hb d_L_law_39 (by decide) (by decide) rfl (by decide) ?_
        exact lc_count C hlT hL hi hcs hw hl back
      refine lv_tableOut (tgt := 713) hx hb d_L_law_39 (tb_13 h_0 h_1 h_2 h_3 h_4 h_5 h_6 h_7 h_8 h_9 h_10 h_11 h_12) (by decide) ?_
      refine W.widen (k := 20 + 2 * q + 2) (n := 1659 + 22 * q + 22) (by omega) (by omega) ?_
      exact back n σ τ ad an f H locs ls hw hl
