/-! dead; a time -/
theorem heldb {σ : kS} {i : Nat} : ∃ b, b < 65536 ∧ kd_held σ i = nI b := ⟨hbt (σ.2.1 0) (σ.2.2.1 i 0) 16, hbt_lt _ _ 16, kd_heldp_hbt _ _ (Nat.le_refl 16)⟩
theorem cond_cases (σ : kS) (i : Nat) : (kd_cond σ i = 4 ∧ ¬ σ.2.2.1 i 9 = 0) ∨ (kd_cond σ i = 3 ∧ σ.2.2.1 i 9 = 0 ∧ ¬ σ.2.2.1 i 8 = 0) ∨ (kd_cond σ i = 2 ∧ σ.2.2.1 i 9 = 0 ∧ σ.2.2.1 i 8 = 0 ∧ ¬ σ.2.2.1 i 4 < σ.2.2.1 i 1) ∨ (kd_cond σ i = 1 ∧ σ.2.2.1 i 9 = 0 ∧ σ.2.2.1 i 8 = 0 ∧ σ.2.2.1 i 4 < σ.2.2.1 i 1 ∧ ¬ σ.2.2.1 i 6 = -1) ∨ (kd_cond σ i = 0 ∧ σ.2.2.1 i 9 = 0 ∧ σ.2.2.1 i 8 = 0 ∧ σ.2.2.1 i 4 < σ.2.2.1 i 1 ∧ σ.2.2.1 i 6 = -1) := by
  unfold kd_cond
  by_cases h9 : σ.2.2.1 i 9 = 0
  · by_cases h8 : σ.2.2.1 i 8 = 0
    · by_cases h4 : σ.2.2.1 i 4 < σ.2.2.1 i 1
      · by_cases h6 : σ.2.2.1 i 6 = -1
        · simp [h9, h8, h4, h6]
        · simp [h9, h8, h4, h6]
      · simp [h9, h8, h4]
    · simp [h9, h8]
  · simp [h9]
theorem st_deadN {n : Nat} {σ : kS} {τ : mS} (h : IV n σ τ) {x : Int32} (hT : kd_at n x = none) : mo_isd τ x = 0 := (kat_isd h.2.2.2.2.1 x).mp hT
/-- a desk's state is told by its own fields: it is dead or has ended -/
theorem sm_put {n i f : Nat} {σ : kS} {τ : mS} {c : Int32} (h : sm n n σ τ) (hv : iv n σ) (hi : i < n) (hf : f = 8 ∨ f = 9) (hc : kd_cond (k_d (k_d σ i 6 (-1)) i f 1) i = c) :
    sm n n (k_d (k_d σ i 6 (-1)) i f 1) (m_a (m_a τ 6 i c) 10 i (-1)) ∧ iv n (k_d (k_d σ i 6 (-1)) i f 1) := by
  obtain ⟨s1, s2, s3, s4, s5, s6, s7, s8, s9⟩ := h
  obtain ⟨v1, v2, v3, v4⟩ := hv
  have ek : ∀ k g, (k_d (k_d σ i 6 (-1)) i f 1).2.2.1 k g = if k = i then (if g = f then 1 else if g = 6 then -1 else σ.2.2.1 k g) else σ.2.2.1 k g := by
    intro k g
    simp only [kd_3]
    by_cases q : k = i
    · simp [q]
    · simp [q]
  refine ⟨⟨?_, ?_, ?_, ?_, ?_, ?_, s7, ?_, ?_⟩, ⟨?_, v2, ?_, v4⟩⟩
  · intro k hk
    rw [ek]
    split
    · rw [if_neg (by omega), if_neg (by decide)]; exact s1 k hk
    · exact s1 k hk
  · intro k hk
    obtain ⟨d1, d3, d4, d5, d6⟩ := s2 k hk
    rw [ek, ek, ek, ek, ek]
    by_cases q : k = i
    · subst q
      simp [ma_2, show ¬ 1 = f by omega, show ¬ 4 = f by omega, show ¬ 5 = f by omega, show ¬ 6 = f by omega, show ¬ 7 = f by omega, d1, d3, d4, d6]
    · simp [ma_2, q, d1, d3, d4, d5, d6]
  · intro k hk _
    by_cases q : k = i
    · subst q
      rw [hc, ek]
      simp [ma_2, show ¬ 3 = f by omega]
      exact (s3 k hk (by omega)).2
    · rw [kd_cond_congr (σ' := σ) (by funext g; rw [ek, if_neg q]), ek, if_neg q]
      simp [ma_2, q]
      exact s3 k hk (by omega)
  · intro k hk j hj; simp only [ma_2]; exact s4 k hk j hj
  · intro w hw; simp [ma_2]; exact s5 w hw
  · intro w hw hne; simp [ma_2]; exact s6 w hw hne
  · intro j hj; simp [ma_2]; exact s8 j hj
  · intro j hj; simp [ma_2]; exact s9 j hj
  · intro k hk
    obtain ⟨a9, p9, y1, y2, y3, y4, y5⟩ := v1 k hk
    refine ⟨a9, p9, y1, y2, y3, ?_, ?_⟩
    · rw [ek]
      split
      · rw [if_neg (by omega), if_neg (by decide)]; exact y4
      · exact y4
    · rw [ek]
      split
      · rw [if_neg (by omega), if_neg (by decide)]; exact y5
      · exact y5
  · intro k hk
    by_cases q : k = i
    · subst q
      refine Or.inl ?_
      rw [ek, if_pos rfl, if_neg (by omega), if_pos rfl]
    · rw [ek, ek, ek, ek, ek]
      simp only [if_neg q]
      exact v3 k hk
theorem st_dead {n i : Nat} {σ : kS} {τ : mS} (h : IV n σ τ) (hi : i < n) : (mo_dead τ i).1 = (kp_dead σ i).1 ∧ (mo_dead τ i).2.1 0 = 0 ∧ IV n (kp_dead σ i).2 (mo_dead τ i).2 := by
  have h0 := h.f0 0
  obtain ⟨k, s, v, u, m1, m15, hT⟩ := h
  have hn := k.1
  have s' := sm_f0 s 0 0 (Or.inl rfl)
  have e6 : (m_f τ 0 0).2 6 i = kd_cond σ i := (s.2.2.1 i hi (by omega)).1
  unfold mo_dead kp_dead
  rw [e6]
  have alive : kd_cond σ i = 0 ∨ kd_cond σ i = 1 → σ.2.2.1 i 9 = 0 →
      (if kd_cond σ i ≤ 1 then (mo_onesp (mo_held (m_a (m_a (m_f τ 0 0) 6 i 3) 10 i (-1)) (nI i)) 16, m_a (m_a (m_f τ 0 0) 6 i 3) 10 i (-1)) else (-1, m_f τ 0 0)).1 = (if kd_alive σ i = 0 then (-1, σ) else (bc (kd_held (k_d (k_d σ i 6 (-1)) i 8 1) i), k_d (k_d σ i 6 (-1)) i 8 1)).1 ∧
      (if kd_cond σ i ≤ 1 then (mo_onesp (mo_held (m_a (m_a (m_f τ 0 0) 6 i 3) 10 i (-1)) (nI i)) 16, m_a (m_a (m_f τ 0 0) 6 i 3) 10 i (-1)) else (-1, m_f τ 0 0)).2.1 0 = 0 ∧
      IV n (if kd_alive σ i = 0 then (-1, σ) else (bc (kd_held (k_d (k_d σ i 6 (-1)) i 8 1) i), k_d (k_d σ i 6 (-1)) i 8 1)).2 (if kd_cond σ i ≤ 1 then (mo_onesp (mo_held (m_a (m_a (m_f τ 0 0) 6 i 3) 10 i (-1)) (nI i)) 16, m_a (m_a (m_f τ 0 0) 6 i 3) 10 i (-1)) else (-1, m_f τ 0 0)).2 := by
    intro hc h9
    have h1 : kd_cond σ i ≤ 1 := by rcases hc with q | q <;> rw [q] <;> decide
    have h2 : ¬ kd_alive σ i = 0 := by unfold kd_alive; rcases hc with q | q <;> rw [q] <;> decide
    rw [if_pos h1, if_neg h2]
    have ec : kd_cond (k_d (k_d σ i 6 (-1)) i 8 1) i = 3 := by
      unfold kd_cond
      simp [kd_3, h9]
    obtain ⟨g1, g2⟩ := sm_put s' v hi (Or.inl rfl) ec
    refine ⟨?_, rfl, k, g1, g2, um_a (um_a (um_f u 0 0) ⟨by decide, Or.inl hi⟩) ⟨by decide, Or.inl hi⟩, m1, m15, hT⟩
    dsimp only
    rw [held_eq g1 hi]
    obtain ⟨b, hb, e⟩ := heldb (σ := k_d (k_d σ i 6 (-1)) i 8 1) (i := i)
    rw [e, bits_eq hb]
  have gone : kd_cond σ i = 4 ∨ kd_cond σ i = 3 ∨ kd_cond σ i = 2 → ¬ kd_cond σ i ≤ 1 ∧ kd_alive σ i = 0 := by
    intro hc
    unfold kd_alive
    rcases hc with q | q | q <;> rw [q] <;> decide
  rcases cond_cases σ i with ⟨q, -⟩ | ⟨q, -⟩ | ⟨q, -⟩ | ⟨q, h9, -⟩ | ⟨q, h9, -⟩
  · obtain ⟨g1, g2⟩ := gone (Or.inl q)
    rw [if_neg g1, if_pos g2]; exact ⟨rfl, rfl, h0⟩
  · obtain ⟨g1, g2⟩ := gone (Or.inr (Or.inl q))
    rw [if_neg g1, if_pos g2]; exact ⟨rfl, rfl, h0⟩
  · obtain ⟨g1, g2⟩ := gone (Or.inr (Or.inr q))
    rw [if_neg g1, if_pos g2]; exact ⟨rfl, rfl, h0⟩
  · exact alive (Or.inr q) h9
  · exact alive (Or.inl q) h9
/-! a time -/
theorem over_eq {n : Nat} {σ : kS} {τ : mS} (h : sm n n σ τ) (hv : iv n σ) (hn : n ≤ 8) {z : Nat} (hz : z < 16) : mo_over τ z = kd_over n σ z := by
  obtain ⟨s1, s2, s3, s4, s5, s6, ⟨t1, t2, t4, t5, t6, t7⟩, s8, s9⟩ := h
  unfold mo_over kd_over
  rw [s5 z hz, t6]
  rcases hv.2.1 z hz with q | ⟨i, hi, q⟩
  · have e1 : kd_at n (-1) = none := by unfold kd_at; rw [if_pos (by decide)]
    rw [q, e1, if_pos (by decide)]
  · have e1 : kd_at n (nI i) = some i := by
      unfold kd_at
      rw [if_neg (nI_pos (by omega)), if_neg (nI_ge hi (by omega)), nI_clamp (by omega)]
    have e2 : τ.2 9 z = σ.2.1 1 z := s6 z hz (by rw [q]; exact nI_m1 (by omega))
    rw [q, e1, if_neg (nI_pos (by omega)), nI_clamp (by omega), (s3 i hi (by omega)).1, e2]
theorem sm_tick {n : Nat} {σ : kS} {τ : mS} (h : sm n n σ τ) (hv : iv n σ) (hn : n ≤ 8) {j : Nat} (hj : j ≤ 16) : (mo_tickp n τ j).1 = (kd_tickp n σ j).1 ∧ sm n n (kd_tickp n σ j).2 (mo_tickp n τ j).2 ∧ iv n (kd_tickp n σ j).2 ∧ ∀ w, (kd_tickp n σ j).2.2.1 2 w = σ.2.1 2 w := by
  induction j with
  | zero => exact ⟨rfl, h, hv, fun _ => rfl⟩
  | succ j ih =>
    obtain ⟨q1, q2, q3, q4⟩ := ih (by omega)
    unfold mo_tickp kd_tickp
    rw [over_eq q2 q3 hn (show j < 16 by omega)]
    split
    · exact ⟨q1, q2, q3, q4⟩
    · obtain ⟨g1, g2, -, -, -, -, g7, -, -⟩ := sm_gb (z := j) q2 q3 hn (fun hc => absurd hc (Nat.lt_irrefl n)) (by omega)
      exact ⟨by dsimp only; rw [q1], g1, g2, fun w => (g7 w).trans (q4 w)⟩
theorem tk_in {x y : Int32} (h : ¬ x < y) (h2 : x ≤ 100000) : ¬ mo_in x y 100000 = 0 := fun q => (in_0.mp q).elim h (fun z => i32_nle z h2)
theorem tk_out {x y : Int32} (h : ¬ (¬ x < y ∧ x ≤ 100000)) : mo_in x y 100000 = 0 := by
  rw [in_0]
  by_cases q : x < y
  · exact Or.inl q
  · exact Or.inr ((i32_le_total x 100000).resolve_left (fun z => h ⟨q, z⟩))
theorem sm_time {n : Nat} {σ : kS} {τ : mS} (h : sm n n σ τ) (x : Int32) : sm n n (k_f σ 11 x) (m_f τ 19 x) := by
  obtain ⟨s1, s2, s3, s4, s5, s6, ⟨t1, t2, t4, t5, t6, t7⟩, s8, s9⟩ := h
  exact ⟨s1, s2, s3, s4, s5, s6, ⟨t1, t2, t4, t5, rfl, t7⟩, s8, s9⟩
theorem st_tick {n : Nat} {σ : kS} {τ : mS} (h : IV n σ τ) {x : Int32} (h1 : ¬ x < σ.1 11) (h2 : x ≤ 100000) :
    ¬ mo_in x (τ.1 19) 100000 = 0 ∧ (∀ j, j < 16 → (mo_tickp n (m_f (m_f τ 0 0) 19 x) j).2.2 8 j = -1 ∨ ∃ d, d < n ∧ (mo_tickp n (m_f (m_f τ 0 0) 19 x) j).2.2 8 j = nI d) ∧
    (mo_tickp n (m_f (m_f τ 0 0) 19 x) 16).1 = (kd_tickp n (k_f σ 11 x) 16).1 ∧ (mo_tickp n (m_f (m_f τ 0 0) 19 x) 16).2.1 0 = 0 ∧ IV n (kd_tickp n (k_f σ 11 x) 16).2 (mo_tickp n (m_f (m_f τ 0 0) 19 x) 16).2 := by
  obtain ⟨k, s, v, u, m1, m15, hT⟩ := h
  have hn := k.1
  have t6 := s.2.2.2.2.2.2.1.2.2.2.2.1
  have s' := sm_time (sm_f0 s 0 0 (Or.inl rfl)) x
  have v' : iv n (k_f σ 11 x) := v
  refine ⟨by rw [t6]; exact tk_in h1 h2, fun j hj => ?_, ?_, ?_, ?_⟩
  · obtain ⟨-, q2, q3, -⟩ := sm_tick s' v' hn (show j ≤ 16 by omega)
    rw [q2.2.2.2.2.1 j hj]
    exact q3.2.1 j hj
  · exact (sm_tick s' v' hn (Nat.le_refl 16)).1
  · rw [mo_tickp_1]; rfl
  · obtain ⟨-, q2, q3, q4⟩ := sm_tick s' v' hn (Nat.le_refl 16)
    refine ⟨by rw [kd_tickp_1]; exact k_ok_f k (by decide), q2, q3, um_tickp (um_f (um_f u _ _) _ _) hn 16, by rw [mo_tickp_1]; exact m1, by rw [mo_tickp_1, kd_tickp_1]; exact m15, ?_⟩
    intro t ht e6 j hj
    rw [kd_tickp_1] at e6
    rw [q4]
    exact hT t ht e6 j hj
theorem st_tickA {n : Nat} {σ : kS} {τ : mS} (h : IV n σ τ) {x : Int32} (hT : ¬ (¬ x < σ.1 11 ∧ x ≤ 100000)) : mo_in x (τ.1 19) 100000 = 0 := by
  rw [h.2.1.2.2.2.2.2.2.1.2.2.2.2.1]
  exact tk_out hT
