/-! interrupted; dead; a time; closed -/
def mo_int (n : Nat) (τ : mS) (x : Int32) : Int32 × mS :=
  let τ0 := m_f τ 0 0
  match kd_at n x with
  | none => (0, τ0)
  | some i => if τ0.2 6 i = 1 then (1, mo_goes (mo_ga n (mo_write (m_a τ0 10 i (-1)) 3 i) i) i) else (0, τ0)
theorem sm_f0 {n e : Nat} {σ : kS} {τ : mS} (h : sm n e σ τ) (k : Nat) (v : Int32) (hk : k = 0 ∨ k = 1 ∨ k = 15) : sm n e σ (m_f τ k v) := by
  obtain ⟨s1, s2, s3, s4, s5, s6, ⟨t1, t2, t4, t5, t6, t7⟩, s8, s9⟩ := h
  have e : ∀ q, q ≠ k → (m_f τ k v).1 q = τ.1 q := fun q hq => va_up_ne _ _ hq
  exact ⟨s1, s2, s3, s4, s5, s6, ⟨by rw [e 12 (by omega)]; exact t1, by rw [e 14 (by omega)]; exact t2, by rw [e 16 (by omega)]; exact t4, by rw [e 17 (by omega)]; exact t5, by rw [e 19 (by omega)]; exact t6, by rw [e 20 (by omega)]; exact t7⟩, s8, s9⟩
theorem sm_weak {n : Nat} {σ : kS} {τ : mS} (h : sm n n σ τ) (e : Nat) : sm n e σ τ := by
  obtain ⟨s1, s2, s3, s4⟩ := h
  exact ⟨s1, s2, fun i hi _ => s3 i hi (by omega), s4⟩
/-- the next act is the present one -/
theorem sm_goes {n i a p : Nat} {G : kS} {T : mS} (q1 : sm n i G T) (q2 : iv n G) (hi : i < n) (q4 : G.2.2.1 i 6 = -1) (e8 : G.2.2.1 i 8 = 0) (e9 : G.2.2.1 i 9 = 0) (e4 : G.2.2.1 i 4 = nI p) (e1 : G.2.2.1 i 1 = nI a) (b1 : 1 ≤ a) (b2 : a ≤ 12) (hpa : p < a) (w3 : T.2 3 i = G.2.2.1 i 3) :
    sm n n (k_d G i 4 (G.2.2.1 i 4 + 1)) (mo_goes T i) ∧ iv n (k_d G i 4 (G.2.2.1 i 4 + 1)) := by
  have r4 : nI p + 1 = nI (p + 1) := nI_1 p
  have eC : kd_cond (k_d G i 4 (G.2.2.1 i 4 + 1)) i = if p + 1 = a then 2 else 0 := by
    unfold kd_cond
    simp only [kd_3, if_true, if_neg (show ¬ (9 : Nat) = 4 by decide), if_neg (show ¬ (8 : Nat) = 4 by decide), if_neg (show ¬ (1 : Nat) = 4 by decide), if_neg (show ¬ (6 : Nat) = 4 by decide), e9, e8, e4, e1, q4, r4]
    by_cases q : p + 1 = a
    · rw [if_neg (by rw [q]; exact nI_nlt (Nat.le_refl a) (by omega)), if_pos q]
    · rw [if_pos (nI_lt (show p + 1 < a by omega) (by omega)), if_neg q]
  refine ⟨?_, ?_⟩
  · obtain ⟨s1, s2, s3, s4, s5, s6, s7, s8, s9⟩ := q1
    unfold mo_goes
    dsimp only
    refine ⟨?_, ?_, ?_, ?_, ?_, ?_, s7, ?_, ?_⟩
    · intro k hk
      by_cases q : k = i
      · subst q; simp [kd_3]; exact s1 k hk
      · simp [kd_3, q]; exact s1 k hk
    · intro k hk
      obtain ⟨d1, d3, d4, d5, d6⟩ := s2 k hk
      by_cases q : k = i
      · subst q; simp [kd_3, ma_2, d1, d3, d4, d5, d6]
      · simp [kd_3, ma_2, q, d1, d3, d4, d5, d6]
    · intro k hk _
      by_cases q : k = i
      · subst q
        obtain ⟨d1, d3, d4, d5, d6⟩ := s2 k hk
        rw [eC]
        refine ⟨?_, ?_⟩
        · simp only [ma_2, if_true, if_neg (show ¬ (2 : Nat) = 4 by decide), d3, d1, e4, e1, r4]
          by_cases q2 : p + 1 = a
          · rw [if_pos (by rw [q2]), if_pos q2]
          · rw [if_neg (fun z => q2 ((nI_eq (by omega) (by omega)).mp z)), if_neg q2]
        · simp [ma_2, kd_3, w3]
      · rw [kd_cond_congr (σ' := G) (by funext g; simp [kd_3, q])]
        simp [kd_3, ma_2, q]
        exact s3 k hk q
    · intro k hk j hj; simp only [ma_2]; exact s4 k hk j hj
    · intro w hw; simp [ma_2]; exact s5 w hw
    · intro w hw hne; simp [ma_2]; exact s6 w hw hne
    · intro j hj; simp [ma_2]; exact s8 j hj
    · intro j hj; simp [ma_2]; exact s9 j hj
  · obtain ⟨v1, v2, v3, v4⟩ := q2
    refine ⟨?_, v2, ?_, v4⟩
    · intro k hk
      by_cases q : k = i
      · subst q
        exact ⟨a, p + 1, b1, b2, hpa, by simp [kd_3, e1], by simp [kd_3, e4, r4]⟩
      · obtain ⟨a9, p9, y1, y2, y3, y4, y5⟩ := v1 k hk
        exact ⟨a9, p9, y1, y2, y3, by simp [kd_3, q, y4], by simp [kd_3, q, y5]⟩
    · intro k hk
      by_cases q : k = i
      · subst q; exact Or.inl (by simp [kd_3, q4])
      · simp [kd_3, q]; exact v3 k hk
/-- a desk waits no more -/
theorem sm_unwait {n i : Nat} {σ : kS} {τ : mS} (h : sm n i σ τ) (hv : iv n σ) (hi : i < n) : sm n i (k_d σ i 6 (-1)) (m_a τ 10 i (-1)) ∧ iv n (k_d σ i 6 (-1)) := by
  obtain ⟨s1, s2, s3, s4, s5, s6, s7, s8, s9⟩ := h
  obtain ⟨v1, v2, v3, v4⟩ := hv
  refine ⟨⟨?_, ?_, ?_, ?_, ?_, ?_, s7, ?_, ?_⟩, ⟨?_, v2, ?_, v4⟩⟩
  · intro k hk; simp [kd_3]; exact s1 k hk
  · intro k hk
    obtain ⟨d1, d3, d4, d5, d6⟩ := s2 k hk
    by_cases q : k = i
    · subst q; simp [kd_3, ma_2, d1, d3, d4, d6]
    · simp [kd_3, ma_2, q, d1, d3, d4, d5, d6]
  · intro k hk hki
    rw [kd_cond_congr (σ' := σ) (by funext g; simp [kd_3, hki])]
    simp [kd_3, ma_2]
    exact s3 k hk hki
  · intro k hk j hj; simp only [ma_2]; exact s4 k hk j hj
  · intro w hw; simp [ma_2]; exact s5 w hw
  · intro w hw hne; simp [ma_2]; exact s6 w hw hne
  · intro j hj; simp [ma_2]; exact s8 j hj
  · intro j hj; simp [ma_2]; exact s9 j hj
  · intro k hk
    obtain ⟨a9, p9, y1, y2, y3, y4, y5⟩ := v1 k hk
    exact ⟨a9, p9, y1, y2, y3, by simp [kd_3, y4], by simp [kd_3, y5]⟩
  · intro k hk
    by_cases q : k = i
    · subst q; exact Or.inl (by simp [kd_3])
    · simp [kd_3, q]; exact v3 k hk
theorem sm_int {n : Nat} {σ : kS} {τ : mS} (h : sm n n σ τ) (hv : iv n σ) (hn : n ≤ 8) (x : Int32) (hx : ∀ i, kd_at n x = some i → i < n) : (kp_int n σ x).1 = (mo_int n τ x).1 ∧ sm n n (kp_int n σ x).2 (mo_int n τ x).2 ∧ iv n (kp_int n σ x).2 := by
  have h0 := sm_f0 h 0 0 (Or.inl rfl)
  unfold kp_int mo_int
  dsimp only
  cases hq : kd_at n x with
  | none => exact ⟨rfl, h0, hv⟩
  | some i =>
    dsimp only
    have hi := hx i hq
    have u1 := (h0.2.2.1 i hi (by omega)).1
    by_cases h6 : σ.2.2.1 i 6 = -1
    · have hc : ¬ (m_f τ 0 0).2 6 i = 1 := by
        rw [u1]; unfold kd_cond
        rw [h6]
        split
        · split
          · split
            · simp
            · decide
          · decide
        · decide
      rw [if_pos h6, if_neg hc]
      exact ⟨rfl, h0, hv⟩
    · obtain ⟨-, c8, c9, c4⟩ := (hv.2.2.1 i hi).resolve_left h6
      have hc : (m_f τ 0 0).2 6 i = 1 := by
        rw [u1]; unfold kd_cond
        simp [c9, c8, c4, h6]
      rw [if_neg h6, if_pos hc]
      obtain ⟨g1, g2⟩ := sm_unwait (sm_weak h0 i) hv hi
      obtain ⟨a1, a2, a3, a3'⟩ := sm_tell g1 hi 3
      have hb6 : (kd_tell (k_d σ i 6 (-1)) 3 i).2.2.1 i 6 = -1 := by rw [a2]; simp [kd_3]
      obtain ⟨q1, q2, q3, q4, q5, q6, q7, q8, q9⟩ := sm_gba a1 (iv_congr g2 a2 a3) hn hi hb6 (Nat.le_refl 16)
      rw [tell_gba]
      dsimp only
      obtain ⟨a, p, b1, b2, b3, b4, b5⟩ := hv.1 i hi
      have hpa : p < a := by
        rw [b4, b5] at c4
        exact (nI_ltI (by omega) (by omega)).mp c4
      have eD : ∀ f, f ≠ 6 → (kd_gba n (kd_tell (k_d σ i 6 (-1)) 3 i) i 16).2.2.1 i f = σ.2.2.1 i f := by
        intro f hf
        rw [q3 i f hf, a2]
        simp [kd_3, hf]
      have w3 : (mo_ga n (mo_write (m_a (m_f τ 0 0) 10 i (-1)) 3 i) i).2 3 i = σ.2.2.1 i 3 := by
        show (mo_gap n _ _ 16).2 3 i = _
        rw [q9]
        have e1 : (mo_write (m_a (m_f τ 0 0) 10 i (-1)) 3 i).2 3 i = τ.2 3 i := by
          unfold mo_write
          split <;> simp [ma_2, mf_2]
        rw [e1]
        exact (h.2.2.1 i hi (by omega)).2
      obtain ⟨r1, r2⟩ := sm_goes q1 q2 hi q4 ((eD 8 (by decide)).trans c8) ((eD 9 (by decide)).trans c9) ((eD 4 (by decide)).trans b5) ((eD 1 (by decide)).trans b4) b1 b2 hpa (by rw [eD 3 (by decide)]; exact w3)
      exact ⟨rfl, r1, r2⟩
