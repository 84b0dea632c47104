/-! the worlds' lists of cells, and rows that read and write them by the numbers of the state -/
def kw_ob (α : Nat → Nat) (σ : kS) : List Value := [.ref (α 1), .int (σ.1 1), .ref (α 2), .ref (α 3), .int (σ.1 4), .ref (α 4), .int (σ.1 6), .int (σ.1 7), .int (σ.1 8), .ref (α 5), .int (σ.1 10), .int (σ.1 11), .int (σ.1 12)]
def kw_dk (an : Nat → Nat) (σ : kS) (i : Nat) : List Value := [.int (σ.2.2.1 i 0), .int (σ.2.2.1 i 1), .ref (an i), .int (σ.2.2.1 i 3), .int (σ.2.2.1 i 4), .int (σ.2.2.1 i 5), .int (σ.2.2.1 i 6), .int (σ.2.2.1 i 7), .int (σ.2.2.1 i 8), .int (σ.2.2.1 i 9)]
def kw_q (ad : Nat → Nat) (n : Nat) : Nat → Option Nat := fun j => if j < n then some (ad j) else none
/-- the lengths of the arrays -/
def kw_len : Nat → Nat
  | 0 => 16
  | 1 => 16
  | 2 => 300
  | _ => 400
def kw_x (cI cQ : ClassId) (α ad : Nat → Nat) (n : Nat) (σ : kS) : va_W := [(α 0, .inr (0, kw_ob α σ)), (α 1, .inl (cQ, 8, .inr (.inr (.inr (.inr (kw_q ad n)))))), (α 2, .inl (cI, 16, .inl (σ.2.1 0))), (α 3, .inl (cI, 16, .inl (σ.2.1 1))), (α 4, .inl (cI, 300, .inl (σ.2.1 2))), (α 5, .inl (cI, 400, .inl (σ.2.1 3)))]
def kw_pd (ad an : Nat → Nat) (n : Nat) (σ : kS) : va_W := (List.range n).map (fun i => (ad i, .inr (1, kw_dk an σ i)))
def kw_pn (cI : ClassId) (an : Nat → Nat) (n : Nat) (σ : kS) : va_W := (List.range n).map (fun i => (an i, .inl (cI, 12, .inl (σ.2.2.2 i))))
def kw_w (cI cQ : ClassId) (α ad an : Nat → Nat) (n : Nat) (σ : kS) : va_W := kw_x cI cQ α ad n σ ++ (kw_pd ad an n σ ++ kw_pn cI an n σ)
def kw_al (α ad an : Nat → Nat) (n : Nat) : List Nat := [α 0, α 1, α 2, α 3, α 4, α 5] ++ ((List.range n).map ad ++ (List.range n).map an)
section KWa
variable {cI cQ : ClassId} {α ad an : Nat → Nat} {n : Nat} {σ : kS}
theorem kw_0 : (kw_w cI cQ α ad an n σ)[0]? = some (α 0, .inr (0, kw_ob α σ)) := rfl
theorem kw_1 : (kw_w cI cQ α ad an n σ)[1]? = some (α 1, .inl (cQ, 8, .inr (.inr (.inr (.inr (kw_q ad n)))))) := rfl
theorem kw_2 (a : Nat) (ha : a < 4) : (kw_w cI cQ α ad an n σ)[2 + a]? = some (α (2 + a), .inl (cI, kw_len a, .inl (σ.2.1 a))) := by
  rcases (show a = 0 ∨ a = 1 ∨ a = 2 ∨ a = 3 by omega) with rfl | rfl | rfl | rfl <;> rfl
theorem kw_3 {i : Nat} (h : i < n) : (kw_w cI cQ α ad an n σ)[6 + i]? = some (ad i, .inr (1, kw_dk an σ i)) := by
  have hx : (kw_x cI cQ α ad n σ).length = 6 := rfl
  unfold kw_w
  rw [List.getElem?_append_right (by rw [hx]; omega), hx, Nat.add_sub_cancel_left, List.getElem?_append_left (by simp [kw_pd]; exact h)]
  simp [kw_pd, h]
theorem kw_4 {i : Nat} (h : i < n) : (kw_w cI cQ α ad an n σ)[6 + n + i]? = some (an i, .inl (cI, 12, .inl (σ.2.2.2 i))) := by
  have hx : (kw_x cI cQ α ad n σ).length = 6 := rfl
  have hd : (kw_pd ad an n σ).length = n := by simp [kw_pd]
  unfold kw_w
  rw [List.getElem?_append_right (by rw [hx]; omega), hx, List.getElem?_append_right (by rw [hd]; omega), hd, show 6 + n + i - 6 - n = i by omega]
  simp [kw_pn, h]
/-- a list out of a function, one place changed -/
theorem kw_map_set {β : Type} (f g : Nat → β) {i : Nat} (h : i < n) {x : β} (hi : g i = x) (ho : ∀ j, j ≠ i → g j = f j) : ((List.range n).map f).set i x = (List.range n).map g := by
  apply List.ext_getElem?
  intro j
  by_cases hj : j = i
  · subst hj
    rw [List.getElem?_set_self (by simp; exact h)]
    simp [h, hi]
  · rw [List.getElem?_set_ne (Ne.symm hj)]
    by_cases hjn : j < n
    · simp [hjn, ho j hj]
    · simp [hjn]
theorem kw_3s {i : Nat} (h : i < n) (k : Nat) (hk : k = 3 ∨ k = 4 ∨ k = 5 ∨ k = 6 ∨ k = 7 ∨ k = 8 ∨ k = 9) (v : Int32) : (kw_w cI cQ α ad an n σ).set (6 + i) (ad i, .inr (1, (kw_dk an σ i).set k (.int v))) = kw_w cI cQ α ad an n (k_d σ i k v) := by
  have hx : (kw_x cI cQ α ad n σ).length = 6 := rfl
  have hd : (kw_pd ad an n σ).length = n := by simp [kw_pd]
  unfold kw_w
  rw [List.set_append_right _ _ (by rw [hx]; omega), hx, Nat.add_sub_cancel_left, List.set_append_left _ _ (by rw [hd]; exact h)]
  have e : (kw_pd ad an n σ).set i (ad i, .inr (1, (kw_dk an σ i).set k (.int v))) = kw_pd ad an n (k_d σ i k v) := by
    refine kw_map_set _ _ h ?_ ?_
    · rcases hk with rfl | rfl | rfl | rfl | rfl | rfl | rfl <;> simp [kw_dk, k_d, va_up]
    · intro j hj
      simp [kw_dk, k_d, va_up, hj]
  rw [e]
  rfl
theorem kw_4s {i : Nat} (h : i < n) (j : Nat) (v : Int32) : (kw_w cI cQ α ad an n σ).set (6 + n + i) (an i, .inl (cI, 12, .inl (upd (σ.2.2.2 i) j v))) = kw_w cI cQ α ad an n (k_n σ i j v) := by
  have hx : (kw_x cI cQ α ad n σ).length = 6 := rfl
  have hd : (kw_pd ad an n σ).length = n := by simp [kw_pd]
  unfold kw_w
  rw [List.set_append_right _ _ (by rw [hx]; omega), hx, List.set_append_right _ _ (by rw [hd]; omega), hd, show 6 + n + i - 6 - n = i by omega]
  have e : (kw_pn cI an n σ).set i (an i, .inl (cI, 12, .inl (upd (σ.2.2.2 i) j v))) = kw_pn cI an n (k_n σ i j v) := by
    refine kw_map_set _ _ h ?_ ?_
    · simp [k_n, va_up]
    · intro q hq
      simp [k_n, va_up, hq]
  rw [e]
  rfl
theorem kw_0s (k : Nat) (hk : k = 1 ∨ k = 4 ∨ k = 6 ∨ k = 7 ∨ k = 8 ∨ k = 10 ∨ k = 11 ∨ k = 12) (v : Int32) : (kw_w cI cQ α ad an n σ).set 0 (α 0, .inr (0, (kw_ob α σ).set k (.int v))) = kw_w cI cQ α ad an n (k_f σ k v) := by
  rcases hk with rfl | rfl | rfl | rfl | rfl | rfl | rfl | rfl <;> rfl
theorem kw_2s (a : Nat) (ha : a < 4) (j : Nat) (v : Int32) : (kw_w cI cQ α ad an n σ).set (2 + a) (α (2 + a), .inl (cI, kw_len a, .inl (upd (σ.2.1 a) j v))) = kw_w cI cQ α ad an n (k_a σ a j v) := by
  rcases (show a = 0 ∨ a = 1 ∨ a = 2 ∨ a = 3 by omega) with rfl | rfl | rfl | rfl <;> rfl
/-- the cells lie apart: that doesn't hang on the numbers -/
theorem kw_adr : (kw_w cI cQ α ad an n σ).map (fun q => q.1) = kw_al α ad an n := by
  simp [kw_w, kw_x, kw_pd, kw_pn, kw_al, Function.comp_def]
theorem kw_addr (σ' : kS) : (kw_w cI cQ α ad an n σ).map (fun q => q.1) = (kw_w cI cQ α ad an n σ').map (fun q => q.1) := kw_adr.trans kw_adr.symm
end KWa
theorem vd_addr {A : Nat → Prop} {w w' : va_W} (h : w.map (fun q => q.1) = w'.map (fun q => q.1)) (hD : va_D A w) : va_D A w' := by
  have key : ∀ (k : Nat) (q : Nat × va_E), w'[k]? = some q → ∃ q0, w[k]? = some q0 ∧ q0.1 = q.1 := by
    intro k q hk
    have h1 : (w'.map (fun q => q.1))[k]? = some q.1 := by rw [List.getElem?_map, hk]; rfl
    rw [← h, List.getElem?_map] at h1
    cases hw : w[k]? with
    | none => rw [hw] at h1; cases h1
    | some q0 => rw [hw] at h1; exact ⟨q0, rfl, Option.some.inj h1⟩
  refine ⟨fun i j x y hi hj hxy => ?_, fun k q hk => ?_⟩
  · obtain ⟨x0, h1, h2⟩ := key i x hi
    obtain ⟨y0, h3, h4⟩ := key j y hj
    exact hD.1 i j x0 y0 h1 h3 (h2.trans (hxy.trans h4.symm))
  · obtain ⟨q0, h1, h2⟩ := key k q hk
    rw [← h2]
    exact hD.2 k q0 h1
