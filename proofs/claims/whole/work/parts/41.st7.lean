/-! closed; interrupted; run; the start -/
theorem tell_kd (σ : kS) (w : Int32) (i k f : Nat) (v : Int32) (hf : f ≠ 0 ∧ f ≠ 4) : kd_tell (k_d σ k f v) w i = k_d (kd_tell σ w i) k f v := by
  unfold kd_tell
  rw [kd_1]
  have e : ∀ g, g ≠ f → (k_d σ k f v).2.2.1 i g = σ.2.2.1 i g := by
    intro g hg
    rw [kd_3]
    by_cases q : i = k
    · rw [if_pos q, if_neg hg]
    · rw [if_neg q]
  rw [e 0 (Ne.symm hf.1), e 4 (Ne.symm hf.2)]
  split
  · rfl
  · rfl
theorem sm_endp {n i : Nat} {σ : kS} {τ : mS} (h : sm n n σ τ) (hv : iv n σ) (hn : n ≤ 8) (hi : i < n) :
    sm n n (kd_gba n (k_d (k_d σ i 6 (-1)) i 9 1) i 16) (mo_ga n (m_a (m_a τ 6 i 4) 10 i (-1)) i) ∧ iv n (kd_gba n (k_d (k_d σ i 6 (-1)) i 9 1) i 16) ∧ (∀ w, (kd_gba n (k_d (k_d σ i 6 (-1)) i 9 1) i 16).2.1 2 w = σ.2.1 2 w) := by
  have ec : kd_cond (k_d (k_d σ i 6 (-1)) i 9 1) i = 4 := by
    unfold kd_cond
    simp [kd_3]
  obtain ⟨g1, g2⟩ := sm_put h hv hi (Or.inr rfl) ec
  have h6 : (k_d (k_d σ i 6 (-1)) i 9 1).2.2.1 i 6 = -1 := by simp [kd_3]
  obtain ⟨q1, q2, q3, q4, q5, q6, q7, q8, q9⟩ := sm_gba (sm_weak g1 i) g2 hn hi h6 (Nat.le_refl 16)
  refine ⟨sm_all q1 (fun _ => ⟨?_, ?_⟩) n, q2, fun w => q7 w⟩
  · show (mo_gap n _ _ 16).2 6 i = _
    rw [q8]
    have e9 : (kd_gba n (k_d (k_d σ i 6 (-1)) i 9 1) i 16).2.2.1 i 9 = 1 := by
      rw [q3 i 9 (by decide)]; simp [kd_3]
    have : kd_cond (kd_gba n (k_d (k_d σ i 6 (-1)) i 9 1) i 16) i = 4 := by
      unfold kd_cond
      rw [e9]
      simp
    rw [this]
    simp [ma_2]
  · show (mo_gap n _ _ 16).2 3 i = _
    rw [q9, q3 i 3 (by decide)]
    simp [ma_2, kd_3]
    exact (h.2.2.1 i hi (by omega)).2
theorem sm_end {n i : Nat} {σ : kS} {τ : mS} (h : sm n n σ τ) (hv : iv n σ) (hn : n ≤ 8) (hi : i < n) : sm n n (kd_end n σ i) (mo_end n τ i) ∧ iv n (kd_end n σ i) ∧ (∀ w, (kd_end n σ i).2.1 2 w = σ.2.1 2 w) := by
  unfold kd_end mo_end
  by_cases hm : kd_midst σ i = 0
  · rw [if_pos hm, if_pos ((midst_eq h hi).mpr hm)]
    exact sm_endp h hv hn hi
  · rw [if_neg hm, if_neg (fun q => hm ((midst_eq h hi).mp q)), tell_gba, tell_kd _ _ _ _ _ _ (by decide), tell_kd _ _ _ _ _ _ (by decide)]
    obtain ⟨a1, a2, a3, a4⟩ := sm_tell h hi 4
    obtain ⟨q1, q2, q3⟩ := sm_endp a1 (iv_congr hv a2 a3) hn hi
    exact ⟨q1, q2, fun w => (q3 w).trans (a4 w)⟩
theorem sm_close {n : Nat} {σ : kS} {τ : mS} (h : sm n n σ τ) (hv : iv n σ) (hn : n ≤ 8) {j : Nat} (hj : j ≤ n) : (mo_closep n τ j).1 = (kd_closep n σ j).1 ∧ sm n n (kd_closep n σ j).2 (mo_closep n τ j).2 ∧ iv n (kd_closep n σ j).2 ∧ ∀ w, (kd_closep n σ j).2.2.1 2 w = σ.2.1 2 w := by
  induction j with
  | zero => exact ⟨rfl, h, hv, fun _ => rfl⟩
  | succ j ih =>
    obtain ⟨q1, q2, q3, q4⟩ := ih (by omega)
    unfold mo_closep kd_closep
    rw [(q2.2.2.1 j (by omega) (by omega)).1]
    split
    · exact ⟨q1, q2, q3, q4⟩
    · obtain ⟨g1, g2, g3⟩ := sm_end q2 q3 hn (show j < n by omega)
      exact ⟨by dsimp only; rw [q1], g1, g2, fun w => (g3 w).trans (q4 w)⟩
theorem st_close {n : Nat} {σ : kS} {τ : mS} (h : IV n σ τ) : (mo_close n τ).1 = (kp_close n σ).1 ∧ IV n (kp_close n σ).2 (mo_close n τ).2 := by
  have h0 := h.f0 0
  obtain ⟨k, s, v, u, m1, m15, hT⟩ := h
  have hn := k.1
  have t7 := s.2.2.2.2.2.2.1.2.2.2.2.2
  unfold mo_close kp_close
  rw [show (m_f τ 0 0).1 20 = τ.1 20 from rfl, t7]
  by_cases hc : σ.1 12 = 0
  · rw [if_pos hc, if_pos hc]
    have s' : sm n n (k_f σ 12 1) (m_f (m_f τ 0 0) 20 1) := by
      obtain ⟨s1, s2, s3, s4, s5, s6, ⟨t1, t2, t4, t5, t6, t7⟩, s8, s9⟩ := s
      exact ⟨s1, s2, s3, s4, s5, s6, ⟨t1, t2, t4, t5, t6, rfl⟩, s8, s9⟩
    obtain ⟨q1, q2, q3, q4⟩ := sm_close s' (show iv n (k_f σ 12 1) from v) hn (Nat.le_refl n)
    refine ⟨q1, k_ok_closep (k_ok_f k (by decide)) n, q2, q3, um_closep (um_f (um_f u _ _) _ _) hn (Nat.le_refl n), ?_, ?_, ?_⟩
    · rw [mo_closep_f (by decide)]; exact m1
    · rw [mo_closep_f (by decide), kd_closep_f (by decide)]; exact m15
    · intro t ht e6 j hj
      rw [kd_closep_f (by decide)] at e6
      rw [q4]
      exact hT t ht e6 j hj
  · rw [if_neg hc, if_neg hc]
    exact ⟨rfl, h0⟩
theorem st_intN {n : Nat} {σ : kS} {τ : mS} (h : IV n σ τ) {x : Int32} (hT : kd_at n x = none) : mo_isd (m_f τ 0 0) x = 0 ∧ kp_int n σ x = (0, σ) := by
  refine ⟨(kat_isd (τ := m_f τ 0 0) h.2.2.2.2.1 x).mp hT, ?_⟩
  unfold kp_int
  rw [hT]
theorem st_int {n i : Nat} {σ : kS} {τ : mS} (h : IV n σ τ) (hi : i < n) : (mo_inti n τ i).1 = (kp_int n σ (nI i)).1 ∧ IV n (kp_int n σ (nI i)).2 (mo_inti n τ i).2 := by
  obtain ⟨k, s, v, u, m1, m15, hT⟩ := h
  have hn := k.1
  have ea := kd_at_nI k hi
  obtain ⟨q1, q2, q3⟩ := sm_int s v hn (nI i) (fun j hj => by rw [ea] at hj; cases hj; exact hi)
  have em : mo_int n τ (nI i) = mo_inti n τ i := by
    unfold mo_int mo_inti
    rw [ea]
  rw [em] at q1 q2
  have ef : ∀ f, f ≠ 10 → (kp_int n σ (nI i)).2.1 f = σ.1 f := by
    intro f hf
    unfold kp_int
    rw [ea]
    dsimp only
    split
    · rfl
    · dsimp only
      rw [kd_1, tell_f hf, kd_gba_1, kd_1]
  have ef2 : ∀ f, f ≠ 17 → f ≠ 0 → (mo_inti n τ i).2.1 f = τ.1 f := by
    intro f hf h0
    unfold mo_inti
    split
    · show (mo_ga n _ i).1 f = _
      rw [mo_ga_1, write_f hf, ma_1]
      exact va_up_ne _ _ h0
    · exact va_up_ne _ _ h0
  have hg : ∀ w, (kp_int n σ (nI i)).2.2.1 2 w = σ.2.1 2 w := by
    intro w
    unfold kp_int
    rw [ea]
    dsimp only
    split
    · rfl
    · dsimp only
      rw [kd_2, tell_gba]
      have e1 : ∀ (ρ : kS) (j : Nat), (kd_gba n ρ i j).2.1 2 w = ρ.2.1 2 w := by
        intro ρ j
        induction j with
        | zero => rfl
        | succ j ih =>
          unfold kd_gba
          split
          · rw [← ih]
            unfold kd_gb
            dsimp only
            split
            · simp [ka_2]
            · unfold kd_take
              simp [ka_2, kd_2]
          · exact ih
      rw [e1]
      unfold kd_tell
      split
      · rfl
      · simp [kf_2, ka_2, kd_2]
  refine ⟨q1.symm, ?_, q2, q3, ?_, ?_, ?_, ?_⟩
  · unfold kp_int
    rw [ea]
    dsimp only
    split
    · exact k
    · dsimp only
      rw [kd_1]
      exact k_ok_tell (by rw [kd_gba_1]; exact k)
  · unfold mo_inti
    split
    · exact um_goes (um_ga (um_write (um_a (um_f u _ _) ⟨by decide, Or.inl hi⟩)) hn) hi
    · exact um_f u _ _
  · rw [ef2 1 (by decide) (by decide)]; exact m1
  · rw [ef2 15 (by decide) (by decide), ef 7 (by decide)]; exact m15
  · intro t ht e6 j hj
    rw [ef 6 (by decide)] at e6
    rw [hg]
    exact hT t ht e6 j hj
