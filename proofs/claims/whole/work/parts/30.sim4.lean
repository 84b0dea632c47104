/-- all that a desk holds is given back -/
theorem sm_gba {n i : Nat} {σ : kS} {τ : mS} (h : sm n i σ τ) (hv : iv n σ) (hn : n ≤ 8) (hi : i < n) (he : σ.2.2.1 i 6 = -1) {j : Nat} (hj : j ≤ 16) :
    sm n i (kd_gba n σ i j) (mo_gap n (mo_held τ (nI i)) τ j) ∧ iv n (kd_gba n σ i j) ∧ (∀ k f, f ≠ 6 → (kd_gba n σ i j).2.2.1 k f = σ.2.2.1 k f) ∧ (kd_gba n σ i j).2.2.1 i 6 = -1 ∧ (∀ w, j ≤ w → (kd_gba n σ i j).2.1 0 w = σ.2.1 0 w) ∧ (kd_gba n σ i j).2.2.2 = σ.2.2.2 ∧ (∀ w, (kd_gba n σ i j).2.1 2 w = σ.2.1 2 w) ∧ (mo_gap n (mo_held τ (nI i)) τ j).2 6 i = τ.2 6 i ∧ (∀ k, (mo_gap n (mo_held τ (nI i)) τ j).2 3 k = τ.2 3 k) := by
  have hbit : ∀ z, z < 16 → ((mo_held τ (nI i) >>> (nI z &&& 31)) &&& 1 = 1 ↔ σ.2.1 0 z = nI i) := by
    intro z hz
    have hlt := hbt_lt (τ.2 8) (nI i) 16
    rw [show mo_held τ (nI i) = nI (hbt (τ.2 8) (nI i) 16) from mo_heldp_hbt _ _ (Nat.le_refl 16), qb_bit1 hlt hz, hbt_bit]
    rw [h.2.2.2.2.1 z hz]
    simp [hz]
  induction j with
  | zero => exact ⟨h, hv, fun _ _ _ => rfl, he, fun _ _ => rfl, rfl, fun _ => rfl, rfl, fun _ => rfl⟩
  | succ j ih =>
    obtain ⟨q1, q2, q3, q4, q5, q6, q7, q8, q9⟩ := ih (by omega)
    have hnum : (kd_gba n σ i j).2.2.1 i 0 = nI i := by rw [q3 i 0 (by decide)]; exact h.1 i hi
    unfold kd_gba mo_gap
    by_cases hc : σ.2.1 0 j = nI i
    · rw [if_pos (by rw [q5 j (Nat.le_refl j), hnum]; exact hc), if_pos ((hbit j (by omega)).mpr hc)]
      obtain ⟨g1, g2, g3, g4, g5, g6, g7, g8, g9⟩ := sm_gb q1 q2 hn (fun _ => q4) (show j < 16 by omega)
      exact ⟨g1, g2, fun k f hf => (g3 k f hf).trans (q3 k f hf), g4 i q4, fun w hw => (g5 w (by omega)).trans (q5 w (by omega)), g6.trans q6, fun w => (g7 w).trans (q7 w), (g8 i hi q4).trans q8, fun k => (g9 k).trans (q9 k)⟩
    · rw [if_neg (by rw [q5 j (Nat.le_refl j), hnum]; exact hc), if_neg (fun z => hc ((hbit j (by omega)).mp z))]
      exact ⟨q1, q2, q3, q4, fun w hw => q5 w (by omega), q6, q7, q8, q9⟩
/-- told in the log -/
theorem sm_tell {n e i : Nat} {σ : kS} {τ : mS} (h : sm n e σ τ) (hi : i < n) (w : Int32) : sm n e (kd_tell σ w i) (mo_write τ w i) ∧ (kd_tell σ w i).2.2 = σ.2.2 ∧ (∀ z, (kd_tell σ w i).2.1 0 z = σ.2.1 0 z) ∧ (∀ z, (kd_tell σ w i).2.1 2 z = σ.2.1 2 z) := by
  obtain ⟨s1, s2, s3, s4, s5, s6, ⟨t1, t2, t4, t5, t6, t7⟩, s8, s9⟩ := h
  unfold kd_tell mo_write
  rw [t5]
  by_cases hc : (400 : Int32) ≤ σ.1 10
  · rw [if_pos hc, if_pos hc]
    exact ⟨⟨s1, s2, s3, s4, s5, s6, ⟨t1, t2, t4, t5, t6, t7⟩, s8, s9⟩, rfl, fun _ => rfl, fun _ => rfl⟩
  · rw [if_neg hc, if_neg hc]
    dsimp only
    refine ⟨⟨s1, ?_, ?_, ?_, ?_, ?_, ⟨?_, ?_, ?_, ?_, ?_, ?_⟩, ?_, ?_⟩, rfl, ?_, ?_⟩
    · intro k hk; simp only [mf_2, ma_2]; exact s2 k hk
    · intro k hk hke; simp only [mf_2, ma_2]; exact s3 k hk hke
    · intro k hk j hj; simp only [mf_2, ma_2]; exact s4 k hk j hj
    · intro z hz; simp [mf_2, ma_2, kf_2, ka_2]; exact s5 z hz
    · intro z hz hne; simp [mf_2, ma_2, kf_2, ka_2] at hne ⊢; exact s6 z hz hne
    · simp [mf_1, kf_1, ma_1, ka_1, t1]
    · simp [mf_1, kf_1, ma_1, ka_1, t2]
    · simp [mf_1, kf_1, ma_1, ka_1, t4]
    · simp [mf_1, kf_1, ma_1, ka_1, t5]
    · simp [mf_1, kf_1, ma_1, ka_1, t6]
    · simp [mf_1, kf_1, ma_1, ka_1, t7]
    · intro j hj; simp [mf_2, ma_2, kf_2, ka_2]; exact s8 j hj
    · intro j hj
      simp only [mf_2, ma_2, kf_2, ka_2, if_true]
      obtain ⟨-, a3, -⟩ := s2 i hi
      split
      · rw [a3, s1 i hi]
      · exact s9 j hj
    · intro z; simp [kf_2, ka_2]
    · intro z; simp [kf_2, ka_2]
theorem iv_congr {n : Nat} {σ σ' : kS} (h : iv n σ) (h1 : σ'.2.2 = σ.2.2) (h2 : ∀ z, σ'.2.1 0 z = σ.2.1 0 z) : iv n σ' := by
  obtain ⟨v1, v2, v3, v4⟩ := h
  refine ⟨?_, ?_, ?_, ?_⟩
  · rw [h1]; exact v1
  · intro z hz; rw [h2]; exact v2 z hz
  · rw [h1]; exact v3
  · rw [h1]; exact v4
