/-! the law's own rows -/
def lw_C (p : Program) (s : State) (m : MethodId) (c : Code) (b L : Nat) (xs : Nat → Int32) (D : va_G) (cI cQ cL : ClassId) : Prop :=
  p.tables.exec = Jvm.exec ∧ c.code = code ∧ c.maxLocals = 7 ∧ s.vm.findClass R_L = some m.cls ∧ (∀ w ∈ kT, w.before #[Value.ref b] s = true) ∧ va_X b L xs s s.heap ∧ b < s.heap.size ∧ va_K D kcl (ktl cI cQ cL) s ∧ xZ s s.heap ∧ xSt s
def lw_W (D : va_G) (cI cQ cL : ClassId) (s : State) (α β : Nat → Nat) (ω n : Nat) (σ : kS) (τ : mS) (ad an : Nat → Nat) (f : Nat → Int64) (H : Heap) (locs : List Loc) : Prop :=
  IV n σ τ ∧ va_P D kcl (kw_w cI cQ α ad an n σ) H ∧ va_P D kcl (mw_w cI β τ) H ∧ va_P D kcl [(ω, eL cL f)] H ∧ va_D (fun _ => True) (kw_w cI cQ α ad an n σ) ∧ va_D (fun _ => True) (mw_w cI β τ) ∧ (∀ q ∈ kw_al α ad an n, s.heap.size ≤ q ∧ q ∉ mw_al β ∧ q ≠ ω) ∧ (∀ q ∈ mw_al β, s.heap.size ≤ q ∧ q ≠ ω) ∧ s.heap.size ≤ ω ∧ va_S (fun q => s.heap.size ≤ q) s.heap H locs
theorem gdW {own : String} {ix : Nat} {y : MethodName} {b : ByteArray} {n : Nat} {r : Option FieldType} {hh : List (Nat × Nat × Nat × Nat)} (h1 : Cond.methodLink own ix y ∈ kT) (h2 : Cond.static y ∈ kT) (h3 : Cond.initialized y.cls ∈ kT) (h5 : Cond.codeWith y b n r hh ∈ kT) : GoodIn kT (va_wsS own ix y (Cond.codeWith y b n r hh :: kT)) := by
  intro w hw
  have h : w ∈ kT := by
    rcases List.mem_append.mp hw with h | h
    · simp only [List.mem_cons, List.not_mem_nil, or_false] at h
      rcases h with rfl | rfl | rfl
      · exact h1
      · exact h2
      · exact h3
    · rcases List.mem_cons.mp h with rfl | h
      · exact h5
      · exact h
  exact ⟨h, kT_good w h⟩
theorem gh_desk : GoodIn kT (va_wsS R_L 46 y_L_desk w_L_desk) := gdW ml_L_46 st_L_desk ini_L cd_L_desk
theorem gh_turn : GoodIn kT (va_wsS R_L 60 y_L_turn w_L_turn) := gdW ml_L_60 st_L_turn ini_L cd_L_turn
theorem gh_run : GoodIn kT (va_wsS R_L 64 y_L_run w_L_run) := gdW ml_L_64 st_L_run ini_L cd_L_run
theorem gh_holder : GoodIn kT (va_wsS R_L 72 y_L_holder w_L_holder) := gdW ml_L_72 st_L_holder ini_L cd_L_holder
theorem gh_waits : GoodIn kT (va_wsS R_L 75 y_L_waits w_L_waits) := gdW ml_L_75 st_L_waits ini_L cd_L_waits
theorem gh_dead : GoodIn kT (va_wsS R_L 83 y_L_dead w_L_dead) := gdW ml_L_83 st_L_dead ini_L cd_L_dead
theorem gh_tick : GoodIn kT (va_wsS R_L 86 y_L_tick w_L_tick) := gdW ml_L_86 st_L_tick ini_L cd_L_tick
theorem gh_look : GoodIn kT (va_wsS R_L 93 y_L_look w_L_look) := gdW ml_L_93 st_L_look ini_L cd_L_look
theorem lg_self (x : Int64) : lg_cmp x x = 0 := by
  unfold lg_cmp
  simp [Int64.lt_irrefl]
theorem kw_al_up2 {α ad an : Nat → Nat} {n q1 q2 q : Nat} (h : q ∈ kw_al α (va_up ad n q1) (va_up an n q2) (n + 1)) : q ∈ kw_al α ad an n ∨ q = q1 ∨ q = q2 := by
  unfold kw_al at h ⊢
  rw [kw_map_up ad (va_up ad n q1) (fun i hi => va_up_ne _ _ (by omega)), kw_map_up an (va_up an n q2) (fun i hi => va_up_ne _ _ (by omega)), va_up_self, va_up_self] at h
  simp only [List.mem_append, List.mem_singleton] at h ⊢
  rcases h with h | (h | h) | h | h
  · exact Or.inl (Or.inl h)
  · exact Or.inl (Or.inr (Or.inl h))
  · exact Or.inr (Or.inl h)
  · exact Or.inl (Or.inr (Or.inr h))
  · exact Or.inr (Or.inr h)
theorem kw_in {cI cQ : ClassId} {α ad an : Nat → Nat} {n : Nat} {σ : kS} {q : Nat × va_E} (h : q ∈ kw_w cI cQ α ad an n σ) : q.1 ∈ kw_al α ad an n := by
  rw [← kw_adr (cI := cI) (cQ := cQ) (σ := σ)]; exact List.mem_map.mpr ⟨q, h, rfl⟩
theorem mw_in {cI : ClassId} {β : Nat → Nat} {τ : mS} {q : Nat × va_E} (h : q ∈ mw_w cI β τ) : q.1 ∈ mw_al β := by
  rw [← mw_addr (cI := cI) (τ := τ)]; exact List.mem_map.mpr ⟨q, h, rfl⟩
section LR
variable {p : Program} {l : Launch} {e : Env} {R : Room} {s : State} {m : MethodId} {args : Array Value} {below : List Frame} {meth : Method} {c : Code} {H : Heap} {locs : List Loc} {cells slots : Nat} {Q : State → Prop}
variable {cc : ByteArray} {pc : Nat} {ls : Array Slot} {rest st0 : List Value} {D : va_G} {A : Nat → Prop} {cI cQ cL : ClassId} {α ad an β : Nat → Nat} {n ω : Nat} {f f' : Nat → Int64} {w w' wm : va_W} {a : Array Value} {av : List Value} {σ : kS} {τ : mS}
theorem l_ld (hx : p.tables.exec = Jvm.exec) (hb : c.code = cc) {b L : Nat} {xs : Nat → Int32} (hX : va_X b L xs s s.heap) (hbl : b < s.heap.size) (hS : va_S (fun q => s.heap.size ≤ q) s.heap H locs) {x v : Int32} {j : Nat} (he : x = nI j) (hj : j < L) (hL : L ≤ 2048) (hv : xs j = v) (hdg : decode cc pc = .ok (.iaload, 1))
    (kk : W p l e R s m args below meth c H locs cells slots Q (F0 m (pc + 1) ls (.int v :: rest))) : W p l e R s m args below meth c H locs cells slots Q (F0 m pc ls (.int x :: .ref b :: rest)) := by
  obtain ⟨h1, h2⟩ := ix_cl he hj (by omega)
  refine va_sld hx hb hX hbl (by show ¬ s.heap.size ≤ b; omega) hS h1 hdg ?_
  rw [h2, hv]; exact kk
theorem l_lald (hx : p.tables.exec = Jvm.exec) (hb : c.code = cc) (hK : va_K D kcl (ktl cI cQ cL) s) (hPo : va_P D kcl [(ω, eL cL f)] H) {v : Int64} (hv : f 0 = v) (hdg : decode cc pc = .ok (.laload, 1))
    (kk : W p l e R s m args below meth c H locs cells slots Q (F0 m (pc + 1) ls (.long v :: rest))) : W p l e R s m args below meth c H locs cells slots Q (F0 m pc ls (.int 0 :: .ref ω :: rest)) := by
  refine va_lald hx hb hK hPo 0 2 rfl rfl (i := 0) (by unfold vp_in; decide) hdg ?_
  rw [show ((0 : Int32)).toNatClampNeg = 0 from by decide, hv]
  exact kk
theorem l_preS (hK : va_K D kcl (ktl cI cQ cL) s) (hPk : va_P D kcl w H) (hPo : va_P D kcl [(ω, eL cL f)] H) (hDk : va_D (fun _ => True) w) (hne : ∀ q ∈ w, q.1 ≠ ω) (hZ : xZ s s.heap) (hS : va_S (fun q => s.heap.size ≤ q) s.heap H locs) (hSt : xSt s) : PreS s H (hPc D cI cQ cL w ω f H.size av) av :=
  ⟨h_bl, fun U hU hW => ⟨rfl, by rw [hU], by rw [hU]; exact hPk, by rw [hU]; exact hPo, va_K.moved hW.alike hK, hDk, hne, by rw [hU]; exact (hZ.kept (fun q hq => hS.2.1 q hq (Nat.not_le.mpr hq))).moved hW.alike, hSt.warm hW⟩⟩
theorem l_help {k : Int32} (hr : vx_Run p l e R s m args below meth c H locs cells slots 2 22 (F0 m pc ls st0) rest (hQ D cL k w' ω f' (lA α ad an n ω H.size) a) xNo (lA α ad an n ω H.size)) (hS : va_S (fun q => s.heap.size ≤ q) s.heap H locs)
    (hak : ∀ q ∈ kw_al α ad an n, s.heap.size ≤ q ∧ q ∉ mw_al β ∧ q ≠ ω) (ham : ∀ q ∈ mw_al β, s.heap.size ≤ q ∧ q ≠ ω) (hω : s.heap.size ≤ ω) (hPm : va_P D kcl (mw_w cI β τ) H)
    (kk : ∀ (H1 : Heap) (locs1 : List Loc), va_P D kcl w' H1 → va_P D kcl [(ω, eL cL f')] H1 → va_P D kcl (mw_w cI β τ) H1 → va_S (fun q => s.heap.size ≤ q) s.heap H1 locs1 → W p l e R s m args below meth c H1 locs1 (cells + 2) (slots + 22) Q (F0 m (pc + 3) ls (.int k :: rest))) : W p l e R s m args below meth c H locs cells slots Q (F0 m pc ls st0) := by
  have hA : ∀ q, lA α ad an n ω H.size q → s.heap.size ≤ q := fun q h => by
    rcases h with h | h | h
    · rw [h]; exact hω
    · exact (hak q h).1
    · exact Nat.le_trans hS.1 h
  refine vx_calli hr hS (fun q _ h => hA q h) (fun q h => hA q h) (fun q _ h => h.elim) (fun E ce q9 u t H1 locs1 _ _ hpx _ _ _ _ _ _ _ => hpx.elim) (fun r u t H1 locs1 ht _ hw hB _ hk hS1 => ?_)
  have hw : r = k := hw
  subst hw
  obtain ⟨hB1, hB2⟩ := hB
  rw [ht] at hB1 hB2
  refine kk H1 locs1 hB1 hB2 (vP_keep hPm (fun q hq => hk q.1 (vP_of hPm hq).lt (fun h => ?_))) hS1
  have hlt := (vP_of hPm hq).lt
  have hm := mw_in hq
  rcases h with h | h | h
  · exact (ham _ hm).2 h
  · exact (hak _ h).2.1 hm
  · exact absurd hlt (Nat.not_lt.mpr h)
theorem l_helpD {x y : Int32} (hr : vx_Run p l e R s m args below meth c H locs cells slots 2 22 (F0 m pc ls st0) rest (va_Qi (S := Nat × Nat) (fun v u => v = 0 ∧ H.size ≤ u.1 ∧ H.size ≤ u.2 ∧ va_D (fun _ => True) (kw_w cI cQ α (va_up ad n u.1) (va_up an n u.2) (n + 1) (k_new n σ x y))) (fun u t => va_P D kcl (kw_w cI cQ α (va_up ad n u.1) (va_up an n u.2) (n + 1) (k_new n σ x y)) t.heap ∧ va_P D kcl [(ω, eL cL (vp_updL f 0 (nI n).toInt64))] t.heap) (lA α ad an n ω H.size) a) xNo (lA α ad an n ω H.size)) (hS : va_S (fun q => s.heap.size ≤ q) s.heap H locs)
    (hak : ∀ q ∈ kw_al α ad an n, s.heap.size ≤ q ∧ q ∉ mw_al β ∧ q ≠ ω) (ham : ∀ q ∈ mw_al β, s.heap.size ≤ q ∧ q ≠ ω) (hω : s.heap.size ≤ ω) (hPm : va_P D kcl (mw_w cI β τ) H) (hPo : va_P D kcl [(ω, eL cL f)] H)
    (kk : ∀ (q1 q2 : Nat) (H1 : Heap) (locs1 : List Loc), (∀ q ∈ kw_al α (va_up ad n q1) (va_up an n q2) (n + 1), s.heap.size ≤ q ∧ q ∉ mw_al β ∧ q ≠ ω) → va_D (fun _ => True) (kw_w cI cQ α (va_up ad n q1) (va_up an n q2) (n + 1) (k_new n σ x y)) → va_P D kcl (kw_w cI cQ α (va_up ad n q1) (va_up an n q2) (n + 1) (k_new n σ x y)) H1 → va_P D kcl [(ω, eL cL (vp_updL f 0 (nI n).toInt64))] H1 → va_P D kcl (mw_w cI β τ) H1 → va_S (fun q => s.heap.size ≤ q) s.heap H1 locs1 → W p l e R s m args below meth c H1 locs1 (cells + 2) (slots + 22) Q (F0 m (pc + 3) ls (.int 0 :: rest))) : W p l e R s m args below meth c H locs cells slots Q (F0 m pc ls st0) := by
  have hA : ∀ q, lA α ad an n ω H.size q → s.heap.size ≤ q := fun q h => by
    rcases h with h | h | h
    · rw [h]; exact hω
    · exact (hak q h).1
    · exact Nat.le_trans hS.1 h
  have hmH : ∀ q ∈ mw_al β, q < H.size := fun q hq => by
    rw [← mw_addr (cI := cI) (τ := τ)] at hq
    obtain ⟨z, hz, rfl⟩ := List.mem_map.mp hq
    exact (vP_of hPm hz).lt
  have hωH : ω < H.size := (hPo 0 _ rfl).lt
  refine vx_calli hr hS (fun q _ h => hA q h) (fun q h => hA q h) (fun q _ h => h.elim) (fun E ce q9 u t H1 locs1 _ _ hpx _ _ _ _ _ _ _ => hpx.elim) (fun r u t H1 locs1 ht _ hw hB _ hk hS1 => ?_)
  obtain ⟨hw, hu1, hu2, hDn⟩ := hw
  have hw : r = 0 := hw
  subst hw
  obtain ⟨hB1, hB2⟩ := hB
  rw [ht] at hB1 hB2
  refine kk u.1 u.2 H1 locs1 (fun q hq => ?_) hDn hB1 hB2 (vP_keep hPm (fun q hq => hk q.1 (vP_of hPm hq).lt (fun h => ?_))) hS1
  · rcases kw_al_up2 hq with h | h | h
    · exact hak q h
    · rw [h]
      exact ⟨Nat.le_trans hS.1 hu1, fun z => absurd (hmH _ z) (Nat.not_lt.mpr hu1), by omega⟩
    · rw [h]
      exact ⟨Nat.le_trans hS.1 hu2, fun z => absurd (hmH _ z) (Nat.not_lt.mpr hu2), by omega⟩
  · have hlt := (vP_of hPm hq).lt
    have hm := mw_in hq
    rcases h with h | h | h
    · exact (ham _ hm).2 h
    · exact (hak _ h).2.1 hm
    · exact absurd hlt (Nat.not_lt.mpr h)
/-- a call of the reference -/
theorem l_m {r : Int32} {τ' : mS} (hr : va_Run p l e R s m args below meth c H locs cells slots 0 0 (F0 m pc ls st0) rest (gQi D (mw_al β) r (mw_w cI β τ') a) (gA (mw_al β))) (hS : va_S (fun q => s.heap.size ≤ q) s.heap H locs)
    (hak : ∀ q ∈ kw_al α ad an n, s.heap.size ≤ q ∧ q ∉ mw_al β ∧ q ≠ ω) (ham : ∀ q ∈ mw_al β, s.heap.size ≤ q ∧ q ≠ ω) (hPk : va_P D kcl (kw_w cI cQ α ad an n σ) H) (hPo : va_P D kcl [(ω, eL cL f)] H)
    (kk : ∀ (H1 : Heap) (locs1 : List Loc), va_P D kcl (mw_w cI β τ') H1 → va_P D kcl (kw_w cI cQ α ad an n σ) H1 → va_P D kcl [(ω, eL cL f)] H1 → va_S (fun q => s.heap.size ≤ q) s.heap H1 locs1 → W p l e R s m args below meth c H1 locs1 cells slots Q (F0 m (pc + 3) ls (.int r :: rest))) : W p l e R s m args below meth c H locs cells slots Q (F0 m pc ls st0) :=
  h_calli hr hS (fun q h => (ham q h).1) hPk (fun q hq z => (hak _ (kw_in hq)).2.1 z) (fun H1 locs1 h1 h2 _ hk h3 => kk H1 locs1 h1 h2 (vP_keep hPo (fun q hq => hk q.1 (vP_of hPo hq).lt (fun z => (ham _ z).2 (by rw [List.mem_singleton.mp hq])))) h3)
/-- a call of the system that doesn't throw, and writes -/
theorem l_k {r : Int32} {σ' : kS} (hr : va_Run p l e R s m args below meth c H locs cells slots 0 0 (F0 m pc ls st0) rest (gQi D (kw_al α ad an n) r (kw_w cI cQ α ad an n σ') a) (gA (kw_al α ad an n))) (hS : va_S (fun q => s.heap.size ≤ q) s.heap H locs)
    (hak : ∀ q ∈ kw_al α ad an n, s.heap.size ≤ q ∧ q ∉ mw_al β ∧ q ≠ ω) (hPm : va_P D kcl (mw_w cI β τ) H) (hPo : va_P D kcl [(ω, eL cL f)] H)
    (kk : ∀ (H1 : Heap) (locs1 : List Loc), va_P D kcl (kw_w cI cQ α ad an n σ') H1 → va_P D kcl (mw_w cI β τ) H1 → va_P D kcl [(ω, eL cL f)] H1 → va_S (fun q => s.heap.size ≤ q) s.heap H1 locs1 → W p l e R s m args below meth c H1 locs1 cells slots Q (F0 m (pc + 3) ls (.int r :: rest))) : W p l e R s m args below meth c H locs cells slots Q (F0 m pc ls st0) :=
  h_calli hr hS (fun q h => (hak q h).1) hPm (fun q hq z => (hak _ z).2.1 (mw_in hq)) (fun H1 locs1 h1 h2 _ hk h3 => kk H1 locs1 h1 h2 (vP_keep hPo (fun q hq => hk q.1 (vP_of hPo hq).lt (fun z => (hak _ z).2.2 (by rw [List.mem_singleton.mp hq])))) h3)
end LR
