theorem sm_ask {n i z : Nat} {σ : kS} {τ : mS} (h : sm n n σ τ) (hv : iv n σ) (hn : n ≤ 8) (hi : i < n) (hz : z < 16) (hc : kd_cond σ i = 0) : sm n n (kd_ask σ i z) (mo_ask τ i z) ∧ iv n (kd_ask σ i z) ∧ (∀ w, (kd_ask σ i z).2.1 2 w = σ.2.1 2 w) := by
  obtain ⟨s1, s2, s3, s4, s5, s6, ⟨t1, t2, t4, t5, t6, t7⟩, s8, s9⟩ := h
  obtain ⟨v1, v2, v3, v4⟩ := hv
  obtain ⟨c9, c8, c4, c6⟩ := cond_0 hc
  unfold kd_ask mo_ask
  rw [s5 z hz]
  by_cases hq : σ.2.1 0 z = -1
  · rw [if_pos hq, if_pos (by rw [hq]; decide)]
    dsimp only
    have eD : ∀ k g, (kd_take σ i z).2.2.1 k g = σ.2.2.1 k g := by
      intro k g
      rw [kt_3]
      by_cases q : k = i
      · rw [if_pos q]
        by_cases q2 : g = 6
        · rw [if_pos q2, q2, q, c6]
        · rw [if_neg q2]
      · rw [if_neg q]
    have eC : ∀ k, kd_cond (kd_take σ i z) k = kd_cond σ k := fun k => kd_cond_congr (by funext g; exact eD k g)
    refine ⟨⟨?_, ?_, ?_, ?_, ?_, ?_, ⟨t1, t2, t4, t5, t6, t7⟩, ?_, ?_⟩, ⟨?_, ?_, ?_, v4⟩, ?_⟩
    · intro k hk; rw [eD]; exact s1 k hk
    · intro k hk; simp only [ma_2, eD]; exact s2 k hk
    · intro k hk hke; rw [eC]; simp only [ma_2, eD]; exact s3 k hk hke
    · intro k hk j hj; simp only [ma_2, kt_4]; exact s4 k hk j hj
    · intro w hw
      by_cases q : w = z
      · subst q; simp [ma_2, kt_2, s1 i hi]
      · simp [ma_2, kt_2, q]; exact s5 w hw
    · intro w hw hne
      by_cases q : w = z
      · subst q; simp [ma_2, ma_1, kt_2, t6]
      · simp [ma_2, kt_2, q] at hne ⊢; exact s6 w hw hne
    · intro j hj; simp [ma_2, kt_2]; exact s8 j hj
    · intro j hj; simp [ma_2, kt_2]; exact s9 j hj
    · intro k hk; rw [eD, eD]; exact v1 k hk
    · intro w hw
      by_cases q : w = z
      · subst q; exact Or.inr ⟨i, hi, by simp [kt_2, s1 i hi]⟩
      · rw [show (kd_take σ i z).2.1 0 w = σ.2.1 0 w by simp [kt_2, q]]; exact v2 w hw
    · intro k hk; simp only [eD]; exact v3 k hk
    · intro w; simp [kt_2]
  · obtain ⟨k0, hk0, ek0⟩ := (v2 z hz).resolve_left hq
    rw [if_neg hq, if_neg (by rw [ek0]; exact nI_pos (by omega))]
    dsimp only
    refine ⟨⟨?_, ?_, ?_, ?_, ?_, ?_, ⟨?_, ?_, ?_, ?_, ?_, ?_⟩, ?_, ?_⟩, ⟨?_, ?_, ?_, v4⟩, fun w => rfl⟩
    · intro k hk; simp only [kf_2, kd_3]
      by_cases q : k = i
      · simp [q]; exact s1 i hi
      · simp [q]; exact s1 k hk
    · intro k hk
      obtain ⟨a1, a3, a4, a5, a6⟩ := s2 k hk
      by_cases q : k = i
      · subst q; simp [ma_2, ma_1, mf_2, kf_2, kd_3, kd_1, a1, a3, a4, t1]
      · simp [ma_2, mf_2, kf_2, kd_3, q, a1, a3, a4, a5, a6]
    · intro k hk hke
      by_cases q : k = i
      · subst q
        have e1 : kd_cond (k_f (k_d (k_d σ k 6 (nI z)) k 7 ((k_d σ k 6 (nI z)).1 4)) 4 ((k_d (k_d σ k 6 (nI z)) k 7 ((k_d σ k 6 (nI z)).1 4)).1 4 + 1)) k = 1 := by
          unfold kd_cond
          simp [kf_2, kd_3, c9, c8, c4, nI_m1 (show z < 2 ^ 31 by omega)]
        rw [e1]
        have := (s3 k hk hke).2
        simp [ma_2, mf_2, kf_2, kd_3, this]
      · rw [kd_cond_congr (σ' := σ) (by funext g; simp [kf_2, kd_3, q])]
        simp [ma_2, mf_2, kf_2, kd_3, q]
        exact s3 k hk hke
    · intro k hk j hj; simp only [ma_2, mf_2, kf_2, kd_4]; exact s4 k hk j hj
    · intro w hw; simp [ma_2, mf_2, kf_2, kd_2]; exact s5 w hw
    · intro w hw hne; simp [ma_2, mf_2, kf_2, kd_2] at hne ⊢; exact s6 w hw hne
    · simp [mf_1, kf_1, ma_1, kd_1, t1]
    · simp [mf_1, kf_1, ma_1, kd_1, t2]
    · simp [mf_1, kf_1, ma_1, kd_1, t4]
    · simp [mf_1, kf_1, ma_1, kd_1, t5]
    · simp [mf_1, kf_1, ma_1, kd_1, t6]
    · simp [mf_1, kf_1, ma_1, kd_1, t7]
    · intro j hj; simp [ma_2, mf_2, kf_2, kd_2]; exact s8 j hj
    · intro j hj; simp [ma_2, mf_2, kf_2, kd_2]; exact s9 j hj
    · intro k hk
      obtain ⟨a, p, a1, a2, a3, a4, a5⟩ := v1 k hk
      exact ⟨a, p, a1, a2, a3, by simp [kf_2, kd_3, a4], by simp [kf_2, kd_3, a5]⟩
    · intro w hw; exact v2 w hw
    · intro k hk
      by_cases q : k = i
      · subst q
        refine Or.inr ⟨⟨z, hz, by simp [kf_2, kd_3]⟩, by simp [kf_2, kd_3, c8], by simp [kf_2, kd_3, c9], by simp [kf_2, kd_3, c4]⟩
      · simp only [kf_2, kd_3, if_neg q]; exact v3 k hk
/-- undone: it fails no more -/
theorem sm_fail {n i : Nat} {G : kS} {T : mS} (q1 : sm n i G T) (q2 : iv n G) (hi : i < n) (gc : kd_cond G i = 0) (t6 : T.2 6 i = 0) (t3 : T.2 3 i = -1) : sm n n (k_d G i 3 (-1)) T ∧ iv n (k_d G i 3 (-1)) := by
  have eC : ∀ k, kd_cond (k_d G i 3 (-1)) k = kd_cond G k := by
    intro k
    unfold kd_cond
    simp [kd_3]
  obtain ⟨s1, s2, s3, s4, s5, s6, s7, s8, s9⟩ := q1
  obtain ⟨v1, v2, v3, v4⟩ := q2
  refine ⟨⟨?_, ?_, ?_, s4, s5, s6, s7, s8, s9⟩, ⟨?_, v2, ?_, v4⟩⟩
  · intro k hk; simp [kd_3]; exact s1 k hk
  · intro k hk; simp [kd_3]; exact s2 k hk
  · intro k hk _
    rw [eC]
    by_cases q : k = i
    · subst q
      exact ⟨by rw [gc]; exact t6, by rw [t3]; simp [kd_3]⟩
    · simp [kd_3, q]
      exact s3 k hk q
  · intro k hk
    obtain ⟨a9, p9, y1, y2, y3, y4, y5⟩ := v1 k hk
    exact ⟨a9, p9, y1, y2, y3, by simp [kd_3, y4], by simp [kd_3, y5]⟩
  · intro k hk; simp [kd_3]; exact v3 k hk
theorem sm_do {n i : Nat} {σ : kS} {τ : mS} (h : sm n n σ τ) (hv : iv n σ) (hn : n ≤ 8) (hi : i < n) (hc : kd_cond σ i = 0) : (kd_do n σ i).1 = (mo_do n τ i).1 ∧ sm n n (kd_do n σ i).2 (mo_do n τ i).2 ∧ iv n (kd_do n σ i).2 ∧ (∀ w, (kd_do n σ i).2.2.1 2 w = σ.2.1 2 w) := by
  obtain ⟨c9, c8, c4, c6⟩ := cond_0 hc
  obtain ⟨u1, u3⟩ := h.2.2.1 i hi (by omega)
  have u4 := (h.2.1 i hi).2.1
  unfold kd_do mo_do
  rw [u3, u4]
  by_cases hf : σ.2.2.1 i 4 = σ.2.2.1 i 3
  · rw [if_pos hf, if_pos hf.symm]
    obtain ⟨a1, a2, a3, a3'⟩ := sm_tell h hi 2
    have hb : sm n i (kd_tell σ 2 i) (m_a (mo_write τ 2 i) 3 i (-1)) := by
      obtain ⟨s1, s2, s3, s4, s5, s6, s7, s8, s9⟩ := a1
      refine ⟨s1, ?_, ?_, ?_, ?_, ?_, s7, ?_, ?_⟩
      · intro k hk; simp only [ma_2]; exact s2 k hk
      · intro k hk hke; simp [ma_2, hke]; exact s3 k hk (by omega)
      · intro k hk j hj; simp only [ma_2]; exact s4 k hk j hj
      · intro w hw; simp [ma_2]; exact s5 w hw
      · intro w hw hne; simp [ma_2]; exact s6 w hw hne
      · intro j hj; simp [ma_2]; exact s8 j hj
      · intro j hj; simp [ma_2]; exact s9 j hj
    have hb6 : (kd_tell σ 2 i).2.2.1 i 6 = -1 := by rw [a2]; exact c6
    obtain ⟨q1, q2, q3, q4, q5, q6, q7, q8, q9⟩ := sm_gba hb (iv_congr hv a2 a3) hn hi hb6 (Nat.le_refl 16)
    have w6 : (mo_write τ 2 i).2 6 i = 0 := by rw [(a1.2.2.1 i hi (by omega)).1, kd_cond_congr (σ' := σ) (by rw [a2]), hc]
    have hM : mo_ga n (m_a (mo_write τ 2 i) 3 i (-1)) i = mo_gap n (mo_held (m_a (mo_write τ 2 i) 3 i (-1)) (nI i)) (m_a (mo_write τ 2 i) 3 i (-1)) 16 := rfl
    rw [hM]
    have eD : ∀ f, f ≠ 6 → (kd_gba n (kd_tell σ 2 i) i 16).2.2.1 i f = σ.2.2.1 i f := fun f hf => by rw [q3 i f hf, a2]
    generalize kd_gba n (kd_tell σ 2 i) i 16 = G at q1 q2 q3 q4 q5 q6 q7 eD ⊢
    generalize mo_gap n (mo_held (m_a (mo_write τ 2 i) 3 i (-1)) (nI i)) (m_a (mo_write τ 2 i) 3 i (-1)) 16 = T at q1 q8 q9 ⊢
    have t6 : T.2 6 i = 0 := by rw [q8]; simp [ma_2]; exact w6
    have t3 : T.2 3 i = -1 := by rw [q9]; simp [ma_2]
    have gc : kd_cond G i = 0 := by
      unfold kd_cond
      rw [eD 9 (by decide), eD 8 (by decide), eD 4 (by decide), eD 1 (by decide), q4]
      simp [c9, c8, c4]
    obtain ⟨r1, r2⟩ := sm_fail q1 q2 hi gc t6 t3
    exact ⟨rfl, r1, r2, fun w => (q7 w).trans (a3' w)⟩
  · rw [if_neg hf, if_neg (fun q => hf q.symm)]
    dsimp only
    obtain ⟨a1, a2, a3, a3'⟩ := sm_tell h hi 1
    have hb : sm n i (kd_tell σ 1 i) (m_a (mo_write τ 1 i) 3 i ((mo_write τ 1 i).2 3 i)) := by
      obtain ⟨s1, s2, s3, s4, s5, s6, s7, s8, s9⟩ := a1
      refine ⟨s1, ?_, ?_, ?_, ?_, ?_, s7, ?_, ?_⟩
      · intro k hk; simp only [ma_2]; exact s2 k hk
      · intro k hk hke; simp [ma_2, hke]; exact s3 k hk (by omega)
      · intro k hk j hj; simp only [ma_2]; exact s4 k hk j hj
      · intro w hw; simp [ma_2]; exact s5 w hw
      · intro w hw hne; simp [ma_2]; exact s6 w hw hne
      · intro j hj; simp [ma_2]; exact s8 j hj
      · intro j hj; simp [ma_2]; exact s9 j hj
    have hb6 : (kd_tell σ 1 i).2.2.1 i 6 = -1 := by rw [a2]; exact c6
    obtain ⟨q1, q2, q3, q4, q5, q6, q7, q8, q9⟩ := sm_gba hb (iv_congr hv a2 a3) hn hi hb6 (Nat.le_refl 16)
    obtain ⟨a, p, b1, b2, b3, b4, b5⟩ := hv.1 i hi
    have hpa : p < a := by
      rw [b4, b5] at c4
      exact (nI_ltI (by omega) (by omega)).mp c4
    have e4 : (kd_gba n (kd_tell σ 1 i) i 16).2.2.1 i 4 = nI p := by rw [q3 i 4 (by decide), a2]; exact b5
    have e1 : (kd_gba n (kd_tell σ 1 i) i 16).2.2.1 i 1 = nI a := by rw [q3 i 1 (by decide), a2]; exact b4
    have e8 : (kd_gba n (kd_tell σ 1 i) i 16).2.2.1 i 8 = 0 := by rw [q3 i 8 (by decide), a2]; exact c8
    have e9 : (kd_gba n (kd_tell σ 1 i) i 16).2.2.1 i 9 = 0 := by rw [q3 i 9 (by decide), a2]; exact c9
    have e3 : (kd_gba n (kd_tell σ 1 i) i 16).2.2.1 i 3 = σ.2.2.1 i 3 := by rw [q3 i 3 (by decide), a2]
    generalize hG : kd_gba n (kd_tell σ 1 i) i 16 = G at q1 q2 q3 q4 q5 q6 q7 e4 e1 e8 e9 e3 ⊢
    have hM : mo_ga n (m_a (mo_write τ 1 i) 3 i ((mo_write τ 1 i).2 3 i)) i = mo_gap n (mo_held (m_a (mo_write τ 1 i) 3 i ((mo_write τ 1 i).2 3 i)) (nI i)) (m_a (mo_write τ 1 i) 3 i ((mo_write τ 1 i).2 3 i)) 16 := rfl
    rw [hM]
    have w3 : (mo_write τ 1 i).2 3 i = σ.2.2.1 i 3 := by rw [(a1.2.2.1 i hi (by omega)).2, a2]
    generalize hT : mo_gap n (mo_held (m_a (mo_write τ 1 i) 3 i ((mo_write τ 1 i).2 3 i)) (nI i)) (m_a (mo_write τ 1 i) 3 i ((mo_write τ 1 i).2 3 i)) 16 = T at q1 q8 q9 ⊢
    have r4 : nI p + 1 = nI (p + 1) := nI_1 p
    have eC : kd_cond (k_d (k_d G i 4 (G.2.2.1 i 4 + 1)) i 5 ((k_d G i 4 (G.2.2.1 i 4 + 1)).2.2.1 i 5 + 1)) i = if p + 1 = a then 2 else 0 := by
      unfold kd_cond
      simp only [kd_3, if_true, if_neg (show ¬ (9 : Nat) = 5 by decide), if_neg (show ¬ (9 : Nat) = 4 by decide), if_neg (show ¬ (8 : Nat) = 5 by decide), if_neg (show ¬ (8 : Nat) = 4 by decide), if_neg (show ¬ (4 : Nat) = 5 by decide), if_neg (show ¬ (1 : Nat) = 5 by decide), if_neg (show ¬ (1 : Nat) = 4 by decide), if_neg (show ¬ (6 : Nat) = 5 by decide), if_neg (show ¬ (6 : Nat) = 4 by decide), e9, e8, e4, e1, q4, r4]
      by_cases q : p + 1 = a
      · rw [if_neg (by rw [q]; exact nI_nlt (Nat.le_refl a) (by omega)), if_pos q]
      · rw [if_pos (nI_lt (show p + 1 < a by omega) (by omega)), if_neg q]
    refine ⟨rfl, ?_, ?_, ?_⟩
    · obtain ⟨s1, s2, s3, s4, s5, s6, s7, s8, s9⟩ := q1
      unfold mo_goes
      dsimp only
      refine ⟨?_, ?_, ?_, ?_, ?_, ?_, s7, ?_, ?_⟩
      · intro k hk
        by_cases q : k = i
        · subst q; simp [kd_3]; exact s1 k hk
        · simp [kd_3, q]; exact s1 k hk
      · intro k hk
        obtain ⟨d1, d3, d4, d5, d6⟩ := s2 k hk
        by_cases q : k = i
        · subst q; simp [kd_3, ma_2, d1, d3, d4, d5, d6]
        · simp [kd_3, ma_2, q, d1, d3, d4, d5, d6]
      · intro k hk _
        by_cases q : k = i
        · subst q
          obtain ⟨d1, d3, d4, d5, d6⟩ := s2 k hk
          rw [eC]
          refine ⟨?_, ?_⟩
          · simp only [ma_2, if_true, if_neg (show ¬ (4 : Nat) = 5 by decide), if_neg (show ¬ (2 : Nat) = 4 by decide), if_neg (show ¬ (2 : Nat) = 5 by decide), d3, d1, e4, e1, r4]
            by_cases q2 : p + 1 = a
            · rw [if_pos (by rw [q2]), if_pos q2]
            · rw [if_neg (fun z => q2 ((nI_eq (by omega) (by omega)).mp z)), if_neg q2]
          · have := q9 k
            simp only [ma_2, if_true, if_neg (show ¬ (3 : Nat) = 5 by decide), if_neg (show ¬ (3 : Nat) = 4 by decide), if_neg (show ¬ (3 : Nat) = 6 by decide)] at this ⊢
            rw [this, w3]
            simp [kd_3, e3]
        · rw [kd_cond_congr (σ' := G) (by funext g; simp [kd_3, q])]
          simp [kd_3, ma_2, q]
          exact s3 k hk q
      · intro k hk j hj; simp only [ma_2]; exact s4 k hk j hj
      · intro w hw; simp [ma_2]; exact s5 w hw
      · intro w hw hne; simp [ma_2]; exact s6 w hw hne
      · intro j hj; simp [ma_2]; exact s8 j hj
      · intro j hj; simp [ma_2]; exact s9 j hj
    · obtain ⟨v1, v2, v3, v4⟩ := q2
      refine ⟨?_, v2, ?_, v4⟩
      · intro k hk
        by_cases q : k = i
        · subst q
          exact ⟨a, p + 1, b1, b2, hpa, by simp [kd_3, e1], by simp [kd_3, e4, r4]⟩
        · obtain ⟨a9, p9, y1, y2, y3, y4, y5⟩ := v1 k hk
          exact ⟨a9, p9, y1, y2, y3, by simp [kd_3, q, y4], by simp [kd_3, q, y5]⟩
      · intro k hk
        by_cases q : k = i
        · subst q; exact Or.inl (by simp [kd_3, q4])
        · simp [kd_3, q]; exact v3 k hk
    · intro w; exact (q7 w).trans (a3' w)
