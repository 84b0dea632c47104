/-! fields that a turn leaves -/
theorem tell_f {σ : kS} {w : Int32} {i k : Nat} (hk : k ≠ 10) : (kd_tell σ w i).1 k = σ.1 k := by
  unfold kd_tell
  split
  · rfl
  · exact va_up_ne _ _ hk
theorem write_f {τ : mS} {w : Int32} {i k : Nat} (hk : k ≠ 17) : (mo_write τ w i).1 k = τ.1 k := by
  unfold mo_write
  split
  · rfl
  · exact va_up_ne _ _ hk
theorem do_f {n i k : Nat} {σ : kS} (hk : k ≠ 10) : (kd_do n σ i).2.1 k = σ.1 k := by
  unfold kd_do
  split
  · dsimp only
    rw [kd_1, kd_gba_1, tell_f hk]
  · dsimp only
    rw [kd_1, kd_1, kd_gba_1, tell_f hk]
theorem ask_f {i z k : Nat} {σ : kS} (hk : k ≠ 4) : (kd_ask σ i z).1 k = σ.1 k := by
  unfold kd_ask
  split
  · rfl
  · exact va_up_ne _ _ hk
theorem turn_f {n i k : Nat} {σ : kS} (h4 : k ≠ 4) (h8 : k ≠ 8) (h10 : k ≠ 10) : (kd_turn n σ i).2.1 k = σ.1 k := by
  unfold kd_turn
  split
  · split
    · exact ask_f h4
    · exact do_f h10
  · exact va_up_ne _ _ h8
theorem steps_f {n i k : Nat} {τ : mS} (h12 : k ≠ 12) (h17 : k ≠ 17) : (mo_steps n τ i).2.1 k = τ.1 k := by
  unfold mo_steps
  split
  · unfold mo_do
    split
    · dsimp only
      rw [mo_ga_1, ma_1]; exact write_f h17
    · dsimp only
      rw [show ∀ T : mS, (mo_goes T i).1 = T.1 from fun _ => rfl, ma_1, mo_ga_1, ma_1]; exact write_f h17
  · split
    · unfold mo_ask
      split
      · rfl
      · exact va_up_ne _ _ h12
    · rfl
theorem gb_f2 {n z : Nat} {τ : mS} : ∀ w, (mo_gb n τ z).2 13 w = τ.2 13 w := by
  intro w
  unfold mo_gb
  dsimp only
  split <;> simp [ma_2]
/-- one turn -/
theorem sm_turn {n i : Nat} {σ : kS} {τ : mS} (h : sm n n σ τ) (hv : iv n σ) (hn : n ≤ 8) (hi : i < n) (hc : kd_cond σ i = 0) : (kd_turn n σ i).1 = (mo_steps n τ i).1 ∧ sm n n (kd_turn n σ i).2 (mo_steps n τ i).2 ∧ iv n (kd_turn n σ i).2 ∧ (∀ w, (kd_turn n σ i).2.2.1 2 w = σ.2.1 2 w) := by
  obtain ⟨a, p, b1, b2, b3, b4, b5⟩ := hv.1 i hi
  have hp : p < 12 := by
    have c4 := (cond_0 hc).2.2.1
    rw [b4, b5] at c4
    have := (nI_ltI (by omega) (by omega)).mp c4
    omega
  unfold kd_turn mo_steps
  rw [if_pos hc]
  have h0 := wants_0 h hv hn hi hp b5
  have hl := llp_low h hv hn hi hp b5 16 (Nat.le_refl 16)
  cases hq : kd_llp σ i 16 with
  | none =>
    rw [if_pos (h0.mpr hq)]
    exact sm_do h hv hn hi hc
  | some z =>
    rw [if_neg (fun q => by rw [h0.mp q] at hq; cases hq), ← hl, hq]
    dsimp only
    obtain ⟨q1, q2, q3⟩ := sm_ask h hv hn hi (kd_llp_lt hq) hc
    exact ⟨rfl, q1, q2, q3⟩
/-- all turns -/
theorem sm_run {n r : Nat} {σ : kS} {τ : mS} (h : sm n n σ τ) (hv : iv n σ) (hn : n ≤ 8) (hr : τ.1 15 = nI r) {t : Nat} (ht : t ≤ 300) (hT : ∀ j, j < t → ∃ i, i < n ∧ σ.2.1 2 j = nI i) :
    ∀ k, r + k ≤ t → (kd_runp n σ r k).1 = (mo_runp n τ k).1 ∧ sm n n (kd_runp n σ r k).2 (mo_runp n τ k).2 ∧ iv n (kd_runp n σ r k).2 ∧ (∀ w, (kd_runp n σ r k).2.2.1 2 w = σ.2.1 2 w) ∧ (mo_runp n τ k).2.1 15 = nI (r + k) ∧ (∀ f, f ≠ 4 → f ≠ 8 → f ≠ 10 → (kd_runp n σ r k).2.1 f = σ.1 f) := by
  intro k
  induction k with
  | zero => exact fun _ => ⟨rfl, h, hv, fun _ => rfl, hr, fun _ _ _ _ => rfl⟩
  | succ k ih =>
    intro hk
    obtain ⟨q1, q2, q3, q4, q5, q6⟩ := ih (by omega)
    obtain ⟨i, hi, ei⟩ := hT (r + k) (by omega)
    have e1 : (kd_runp n σ r k).2.2.1 2 (r + k) = nI i := by rw [q4]; exact ei
    have e2 : kd_at n (nI i) = some i := by
      unfold kd_at
      rw [if_neg (nI_pos (by omega)), if_neg (nI_ge hi (by omega)), nI_clamp (by omega)]
    unfold kd_runp mo_runp
    rw [e1, e2]
    dsimp only
    generalize kd_runp n σ r k = Q at q1 q2 q3 q4 q6 e1 ⊢
    generalize mo_runp n τ k = P at q1 q2 q5 ⊢
    unfold mo_run1
    dsimp only
    have e3 : P.2.2 13 (P.2.1 15).toNatClampNeg = nI i := by
      rw [q5, nI_clamp (by omega), q2.2.2.2.2.2.2.2.1 (r + k) (by omega)]; exact e1
    rw [e3, nI_clamp (by omega)]
    have hs : sm n n Q.2 (m_f P.2 15 (P.2.1 15 + 1)) := by
      obtain ⟨s1, s2, s3, s4, s5, s6, ⟨t1, t2, t4, t5, t6, t7⟩, s8, s9⟩ := q2
      exact ⟨s1, s2, s3, s4, s5, s6, ⟨by simp [mf_1, t1], by simp [mf_1, t2], by simp [mf_1, t4], by simp [mf_1, t5], by simp [mf_1, t6], by simp [mf_1, t7]⟩, s8, s9⟩
    have e4 : (m_f P.2 15 (P.2.1 15 + 1)).1 15 = nI (r + (k + 1)) := by
      simp only [mf_1, if_true]
      rw [q5, nI_1]; rfl
    have e5 := (hs.2.2.1 i hi (by omega)).1
    by_cases hc : kd_cond Q.2 i = 0
    · have hs0 : (m_f P.2 15 (P.2.1 15 + 1)).2 6 i = 0 := by rw [e5]; exact hc
      rw [if_pos hs0]
      obtain ⟨g1, g2, g3, g4⟩ := sm_turn hs q3 hn hi hc
      refine ⟨?_, g2, g3, fun w => (g4 w).trans (q4 w), ?_, fun f f4 f8 f10 => (turn_f f4 f8 f10).trans (q6 f f4 f8 f10)⟩
      · dsimp only
        rw [g1, q1]
        split
        · rw [Int32.add_zero]
        · rfl
      · dsimp only
        rw [steps_f (by decide) (by decide)]; exact e4
    · have hs0 : ¬ (m_f P.2 15 (P.2.1 15 + 1)).2 6 i = 0 := by rw [e5]; exact hc
      rw [if_neg hs0]
      have e6 : kd_turn n Q.2 i = (0, k_f Q.2 8 (Q.2.1 8 + 1)) := by unfold kd_turn; rw [if_neg hc]
      rw [e6]
      dsimp only
      refine ⟨by rw [if_pos rfl]; exact q1, ?_, q3, q4, ?_, fun f f4 f8 f10 => (va_up_ne _ _ f8).trans (q6 f f4 f8 f10)⟩
      · obtain ⟨s1, s2, s3, s4, s5, s6, ⟨t1, t2, t4, t5, t6, t7⟩, s8, s9⟩ := hs
        exact ⟨s1, s2, s3, s4, s5, s6, ⟨by simp [mf_1, kf_1] at t1 ⊢; exact t1, by simp [mf_1, kf_1] at t2 ⊢; exact t2, by simp [mf_1, kf_1] at t4 ⊢; rw [t4], by simp [mf_1, kf_1] at t5 ⊢; exact t5, by simp [mf_1, kf_1] at t6 ⊢; exact t6, by simp [mf_1, kf_1] at t7 ⊢; exact t7⟩, s8, s9⟩
      · simp only [mf_1, if_neg (show ¬ (15 : Nat) = 16 by decide)]; exact e4
