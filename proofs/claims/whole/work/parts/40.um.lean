/-! desks that aren't made yet: the reference's rows of them -/
def um (n : Nat) (τ : mS) : Prop := ∀ i, n ≤ i → i < 8 → τ.2 4 i = 0 ∧ τ.2 5 i = 0 ∧ τ.2 6 i = 0 ∧ τ.2 11 i = 0 ∧ ∀ j, j < 12 → τ.2 7 (12 * i + j) = 0
theorem um_f {n : Nat} {τ : mS} (h : um n τ) (k : Nat) (v : Int32) : um n (m_f τ k v) := h
theorem um_a {n : Nat} {τ : mS} (h : um n τ) {a j : Nat} {v : Int32} (ha : a ≠ 7 ∧ (j < n ∨ (a ≠ 4 ∧ a ≠ 5 ∧ a ≠ 6 ∧ a ≠ 11))) : um n (m_a τ a j v) := by
  intro i h1 h2
  obtain ⟨q1, q2, q3, q4, q5⟩ := h i h1 h2
  have e : ∀ b, (b = 4 ∨ b = 5 ∨ b = 6 ∨ b = 11) → (m_a τ a j v).2 b i = τ.2 b i := by
    intro b hb
    rw [ma_2]
    split
    · split
      · omega
      · rfl
    · rfl
  refine ⟨by rw [e 4 (by omega)]; exact q1, by rw [e 5 (by omega)]; exact q2, by rw [e 6 (by omega)]; exact q3, by rw [e 11 (by omega)]; exact q4, fun k hk => ?_⟩
  rw [ma_2, if_neg (Ne.symm ha.1)]
  exact q5 k hk
theorem um_7 {n : Nat} {τ : mS} (h : um n τ) {j : Nat} {v : Int32} (hj : j < 12 * n) : um n (m_a τ 7 j v) := by
  intro i h1 h2
  obtain ⟨q1, q2, q3, q4, q5⟩ := h i h1 h2
  refine ⟨by rw [ma_2, if_neg (by decide)]; exact q1, by rw [ma_2, if_neg (by decide)]; exact q2, by rw [ma_2, if_neg (by decide)]; exact q3, by rw [ma_2, if_neg (by decide)]; exact q4, fun k hk => ?_⟩
  rw [ma_2, if_pos rfl, if_neg (by omega)]
  exact q5 k hk
theorem um_gb {n z : Nat} {τ : mS} (h : um n τ) (hn : n ≤ 8) : um n (mo_gb n τ z) := by
  unfold mo_gb
  dsimp only
  have h2 : um n (m_a (m_a τ 8 z (mo_firstp τ (nI z) n)) 9 z ((m_a τ 8 z (mo_firstp τ (nI z) n)).1 19)) := um_a (um_a h ⟨by decide, Or.inr (by decide)⟩) ⟨by decide, Or.inr (by decide)⟩
  split
  · exact h2
  · rename_i c
    rcases mo_first_is τ (nI z) n (by omega) with ⟨q, -⟩ | ⟨j, hj, q, -⟩
    · rw [q] at c; exact absurd (by decide) c
    · rw [q, nI_clamp (by omega)]
      exact um_a (um_a (by rw [← q]; exact h2) ⟨by decide, Or.inr (by decide)⟩) ⟨by decide, Or.inl hj⟩
theorem um_gap {n : Nat} {v : Int32} {τ : mS} (h : um n τ) (hn : n ≤ 8) (j : Nat) : um n (mo_gap n v τ j) := by
  induction j with
  | zero => exact h
  | succ j ih =>
    unfold mo_gap
    split
    · exact um_gb ih hn
    · exact ih
theorem um_ga {n i : Nat} {τ : mS} (h : um n τ) (hn : n ≤ 8) : um n (mo_ga n τ i) := um_gap h hn 16
theorem um_write {n i : Nat} {w : Int32} {τ : mS} (h : um n τ) : um n (mo_write τ w i) := by
  unfold mo_write
  split
  · exact h
  · exact um_f (um_a h ⟨by decide, Or.inr (by decide)⟩) _ _
theorem um_goes {n i : Nat} {τ : mS} (h : um n τ) (hi : i < n) : um n (mo_goes τ i) := um_a (um_a h ⟨by decide, Or.inl hi⟩) ⟨by decide, Or.inl hi⟩
theorem um_ask {n i z : Nat} {τ : mS} (h : um n τ) (hi : i < n) : um n (mo_ask τ i z) := by
  unfold mo_ask
  split
  · exact um_a (um_a h ⟨by decide, Or.inr (by decide)⟩) ⟨by decide, Or.inr (by decide)⟩
  · exact um_a (um_f (um_a (um_a h ⟨by decide, Or.inl hi⟩) ⟨by decide, Or.inl hi⟩) _ _) ⟨by decide, Or.inl hi⟩
theorem um_do {n i : Nat} {τ : mS} (h : um n τ) (hn : n ≤ 8) (hi : i < n) : um n (mo_do n τ i).2 := by
  unfold mo_do
  split
  · exact um_ga (um_a (um_write h) ⟨by decide, Or.inl hi⟩) hn
  · exact um_goes (um_a (um_ga (um_a (um_write h) ⟨by decide, Or.inl hi⟩) hn) ⟨by decide, Or.inl hi⟩) hi
theorem um_steps {n i : Nat} {τ : mS} (h : um n τ) (hn : n ≤ 8) (hi : i < n) : um n (mo_steps n τ i).2 := by
  unfold mo_steps
  split
  · exact um_do h hn hi
  · split
    · exact um_ask h hi
    · exact h
theorem um_tickp {n : Nat} {τ : mS} (h : um n τ) (hn : n ≤ 8) (j : Nat) : um n (mo_tickp n τ j).2 := by
  induction j with
  | zero => exact h
  | succ j ih =>
    unfold mo_tickp
    split
    · exact ih
    · exact um_gb ih hn
theorem um_end {n i : Nat} {τ : mS} (h : um n τ) (hn : n ≤ 8) (hi : i < n) : um n (mo_end n τ i) := by
  unfold mo_end
  split
  · exact um_ga (um_a (um_a h ⟨by decide, Or.inl hi⟩) ⟨by decide, Or.inl hi⟩) hn
  · exact um_ga (um_a (um_a (um_write h) ⟨by decide, Or.inl hi⟩) ⟨by decide, Or.inl hi⟩) hn
theorem um_closep {n : Nat} {τ : mS} (h : um n τ) (hn : n ≤ 8) {j : Nat} (hj : j ≤ n) : um n (mo_closep n τ j).2 := by
  induction j with
  | zero => exact h
  | succ j ih =>
    unfold mo_closep
    split
    · exact ih (by omega)
    · exact um_end (ih (by omega)) hn (by omega)
theorem mo_end_f {n i k : Nat} {τ : mS} (hk : k ≠ 17) : (mo_end n τ i).1 k = τ.1 k := by
  unfold mo_end
  split
  · rw [mo_ga_1]; rfl
  · rw [mo_ga_1]; exact write_f hk
theorem mo_closep_f {n k : Nat} {τ : mS} (hk : k ≠ 17) (j : Nat) : (mo_closep n τ j).2.1 k = τ.1 k := by
  induction j with
  | zero => rfl
  | succ j ih =>
    unfold mo_closep
    split
    · exact ih
    · exact (mo_end_f hk).trans ih
theorem kd_end_f {n i k : Nat} {σ : kS} (hk : k ≠ 10) : (kd_end n σ i).1 k = σ.1 k := by
  unfold kd_end
  split
  · rw [kd_gba_1]; rfl
  · rw [tell_f hk, kd_gba_1]; rfl
theorem kd_closep_f {n k : Nat} {σ : kS} (hk : k ≠ 10) (j : Nat) : (kd_closep n σ j).2.1 k = σ.1 k := by
  induction j with
  | zero => rfl
  | succ j ih =>
    unfold kd_closep
    split
    · exact ih
    · exact (kd_end_f hk).trans ih
/-! the two systems side by side -/
def IV (n : Nat) (σ : kS) (τ : mS) : Prop :=
  k_ok n σ.1 ∧ sm n n σ τ ∧ iv n σ ∧ um n τ ∧ τ.1 1 = nI n ∧ τ.1 15 = σ.1 7 ∧ (∀ t, t ≤ 300 → σ.1 6 = nI t → ∀ j, j < t → ∃ i, i < n ∧ σ.2.1 2 j = nI i)
theorem IV.mok {n : Nat} {σ : kS} {τ : mS} (h : IV n σ τ) : m_ok n τ.1 := by
  obtain ⟨⟨k1, k2, ⟨e, he, k3⟩, t, r, h1, h2, h3, h4⟩, s, -, -, m1, m15, -⟩ := h
  obtain ⟨-, -, -, -, -, -, ⟨t1, t2, t4, t5, t6, t7⟩, -, -⟩ := s
  exact ⟨k1, m1, ⟨e, he, t5.trans k3⟩, t, r, h1, h2, t2.trans h3, m15.trans h4⟩
theorem IV.f0 {n : Nat} {σ : kS} {τ : mS} (h : IV n σ τ) (v : Int32) : IV n σ (m_f τ 0 v) := by
  obtain ⟨k, s, i, u, m1, m15, t⟩ := h
  exact ⟨k, sm_f0 s 0 v (Or.inl rfl), i, u, m1, m15, t⟩
theorem kat_isd {n : Nat} {τ : mS} (h1 : τ.1 1 = nI n) (x : Int32) : kd_at n x = none ↔ mo_isd τ x = 0 := by
  unfold kd_at mo_isd
  rw [h1]
  split
  · simp
  · split
    · simp
    · simp
theorem kat_some {n i : Nat} {x : Int32} (hn : n ≤ 8) (h : kd_at n x = some i) : i < n ∧ x = nI i := by
  unfold kd_at at h
  split at h
  · cases h
  · rename_i h0
    split at h
    · cases h
    · rename_i h1
      cases h
      exact ⟨ix_l h0 h1 (by omega), ix_e h0⟩
theorem ksub_some {x : Int32} (h : ¬ kd_sub x = 0) : ∃ z, z < 16 ∧ x = nI z := by
  unfold kd_sub at h
  split at h
  · exact absurd rfl h
  · rename_i h0
    split at h
    · exact absurd rfl h
    · rename_i h1
      exact ⟨x.toNatClampNeg, ix_l (B := 16) h0 h1, ix_e h0⟩
