/-! the calls that only look; turn -/
theorem st_log {n : Nat} {σ : kS} {τ : mS} (h : IV n σ τ) (x : Int32) : mo_log (m_f τ 0 0) x = kp_log σ x := by
  obtain ⟨k, s, -⟩ := h
  obtain ⟨-, -, -, -, -, -, ⟨-, -, -, t5, -, -⟩, -, s9⟩ := s
  unfold mo_log kp_log
  rw [show (m_f τ 0 0).1 17 = τ.1 17 from rfl, t5]
  split
  · rfl
  · rename_i h0
    split
    · rfl
    · rename_i h1
      exact s9 _ (k_log400 k h0 h1)
theorem cnt_eq {n : Nat} {h h' : Nat → Int32} (hn : n ≤ 8) (he : ∀ z, z < 16 → h' z = h z) (hv : ∀ z, z < 16 → h z = -1 ∨ ∃ i, i < n ∧ h z = nI i) {j : Nat} (hj : j ≤ 16) : mo_cntp h' j = kd_cntp h j := by
  induction j with
  | zero => rfl
  | succ j ih =>
    unfold mo_cntp kd_cntp
    rw [ih (by omega), he j (by omega)]
    rcases hv j (by omega) with q | ⟨i, hi, q⟩
    · rw [if_pos q, q, if_pos (by decide), Int32.add_zero]
    · rw [q, if_neg (nI_pos (by omega)), if_neg (nI_m1 (by omega))]
theorem st_count {n : Nat} {σ : kS} {τ : mS} (h : IV n σ τ) (x : Int32) : mo_count τ x = kp_count σ x := by
  obtain ⟨k, s, v, -, m1, -⟩ := h
  obtain ⟨-, -, -, -, s5, -, ⟨t1, t2, t4, t5, t6, t7⟩, -, -⟩ := s
  unfold mo_count kp_count
  rw [m1, t2, t4, t5, t6, t7, k.2.1, cnt_eq k.1 s5 v.2.1 (Nat.le_refl 16)]
theorem st_holder {n : Nat} {σ : kS} {τ : mS} (h : IV n σ τ) {z : Nat} (hz : z < 16) : τ.2 8 z = σ.2.1 0 z := h.2.1.2.2.2.2.1 z hz
theorem st_waits {n : Nat} {σ : kS} {τ : mS} (h : IV n σ τ) (z : Nat) (y : Int32) : mo_wt τ n z y = kp_wt σ n z y := by
  unfold mo_wt kp_wt
  rw [← sm_wtp (sm_f0 h.2.1 0 0 (Or.inl rfl)) (nI z) y (Nat.le_refl n)]
  cases hq : kd_wfp σ n (nI z) y n with
  | none => rfl
  | some j => exact (h.2.1.1 j (kd_wfp_some hq).1).symm
theorem held_eq {n e : Nat} {σ : kS} {τ : mS} (h : sm n e σ τ) {i : Nat} (hi : i < n) : mo_held τ (nI i) = kd_held σ i := by
  unfold mo_held kd_held
  rw [mo_heldp_hbt _ _ (Nat.le_refl 16), kd_heldp_hbt _ _ (Nat.le_refl 16), h.1 i hi, hbt_congr h.2.2.2.2.1]
theorem st_look {n : Nat} {σ : kS} {τ : mS} (h : IV n σ τ) {i : Nat} (hi : i < n) (y : Int32) : mo_look τ i y = kp_look σ i y := by
  obtain ⟨-, s, -⟩ := h
  obtain ⟨q1, q2, q3, q4, q5⟩ := s.2.1 i hi
  unfold mo_look kp_look
  rw [q2, q3, (s.2.2.1 i hi (by omega)).1, held_eq s hi, q4]
theorem isd_1 {n i : Nat} {τ : mS} (h1 : τ.1 1 = nI n) (hn : n ≤ 8) (hi : i < n) : ¬ mo_isd τ (nI i) = 0 := by
  intro q
  have := (kat_isd h1 (nI i)).mpr q
  unfold kd_at at this
  rw [if_neg (nI_pos (by omega)), if_neg (nI_ge hi (by omega))] at this
  cases this
theorem st_turnA {n : Nat} {σ : kS} {τ : mS} (h : IV n σ τ) {x : Int32} (hT : kd_at n x = none) : mo_turn τ x = (0, m_f τ 0 1) := by
  unfold mo_turn
  rw [if_pos ((kat_isd h.2.2.2.2.1 x).mp hT)]
theorem st_turnS {n i : Nat} {σ : kS} {τ : mS} (h : IV n σ τ) (hi : i < n) (hT : ¬ σ.1 12 = 0 ∨ ¬ σ.1 6 < 300) : mo_turn τ (nI i) = (0, m_f τ 0 2) := by
  unfold mo_turn
  have hn := h.1.1
  rw [if_neg (isd_1 h.2.2.2.2.1 hn hi)]
  obtain ⟨-, -, -, -, -, -, ⟨-, t2, -, -, -, t7⟩, -, -⟩ := h.2.1
  split
  · rfl
  · rename_i c
    rw [t7]
    rcases hT with q | q
    · rw [if_neg q]
    · obtain ⟨t, r, h1, h2, h3, h4⟩ := h.1.2.2.2
      rw [t2, h3] at c
      rw [h3] at q
      have : t = 300 := by
        rcases Nat.lt_or_ge t 300 with z | z
        · exact absurd (nI_lt (b := 300) z (by decide)) q
        · omega
      rw [this] at c
      exact absurd rfl c
theorem sm_af {n : Nat} {σ : kS} {τ : mS} (h : sm n n σ τ) {t : Nat} {v : Int32} {u : Int32} : sm n n (k_f (k_a σ 2 t v) 6 u) (m_f (m_a τ 13 t v) 14 u) := by
  obtain ⟨s1, s2, s3, s4, s5, s6, ⟨t1, t2, t4, t5, t6, t7⟩, s8, s9⟩ := h
  refine ⟨s1, ?_, ?_, ?_, ?_, ?_, ⟨t1, rfl, t4, t5, t6, t7⟩, ?_, ?_⟩
  · intro i hi
    simp only [mf_2, ma_2]
    exact s2 i hi
  · intro i hi hn
    simp only [mf_2, ma_2]
    exact s3 i hi hn
  · intro i hi j hj
    simp only [mf_2, ma_2]
    exact s4 i hi j hj
  · intro z hz
    simp [mf_2, ma_2, kf_2, ka_2]
    exact s5 z hz
  · intro z hz hne
    simp [mf_2, ma_2, kf_2, ka_2] at hne ⊢
    exact s6 z hz hne
  · intro j hj
    simp [mf_2, ma_2, kf_2, ka_2]
    rw [s8 j hj]
  · intro j hj
    simp [mf_2, ma_2, kf_2, ka_2]
    exact s9 j hj
theorem st_turn {n i : Nat} {σ : kS} {τ : mS} (h : IV n σ τ) (hi : i < n) (hc0 : σ.1 12 = 0) (ht0 : ¬ (300 : Int32) ≤ σ.1 6) : (mo_turn τ (nI i)).1 = (kp_turn σ (nI i)).1 ∧ (mo_turn τ (nI i)).2.1 0 = 0 ∧ IV n (kp_turn σ (nI i)).2 (mo_turn τ (nI i)).2 := by
  obtain ⟨k, s, v, u, m1, m15, hT⟩ := h
  have s0 := s
  obtain ⟨-, -, -, -, -, -, ⟨-, t2, -, -, -, t7⟩, -, -⟩ := s0
  have hn := k.1
  obtain ⟨t, r, h1, h2, h3, h4⟩ := k.2.2.2
  have ht : t < 300 := by
    rcases Nat.lt_or_ge t 300 with z | z
    · exact z
    · rw [h3, show t = 300 by omega] at ht0
      exact absurd (by decide) ht0
  have e14 : ¬ τ.1 14 = 300 := by
    rw [t2, h3]
    exact fun q => absurd ((nI_eq (b := 300) (by omega) (by decide)).mp q) (by omega)
  unfold mo_turn kp_turn
  rw [if_neg (isd_1 m1 hn hi), if_neg e14, if_pos (by rw [t7]; exact hc0)]
  dsimp only
  have ea : (m_f τ 0 0).1 14 = σ.1 6 := t2
  have eb : (m_a (m_f τ 0 0) 13 ((m_f τ 0 0).1 14).toNatClampNeg (nI i)).1 14 = σ.1 6 := t2
  have ec : (k_a σ 2 (σ.1 6).toNatClampNeg (nI i)).1 6 = σ.1 6 := rfl
  rw [eb, ea, ec, h3, nI_clamp (by omega), nI_1]
  refine ⟨?_, rfl, ?_, sm_af (sm_f0 s 0 0 (Or.inl rfl)), ?_, ?_, m1, m15, ?_⟩
  · show nI (t + 1) - τ.1 15 = nI (t + 1) - σ.1 7
    rw [m15]
  · exact k_ok_6 (σ := k_a σ 2 t (nI i)) k rfl h4 (by omega) (by omega)
  · exact iv_congr v rfl (fun z => by simp [kf_2, ka_2])
  · exact um_f (um_a (um_f u _ _) ⟨by decide, Or.inr (by decide)⟩) _ _
  · intro t' ht' e6 j hj
    have e6' : nI (t + 1) = nI t' := e6
    have : t + 1 = t' := (nI_eq (by omega) (by omega)).mp e6'
    subst this
    simp only [kf_2, ka_2, if_true]
    by_cases q : j = t
    · rw [if_pos q]; exact ⟨i, hi, rfl⟩
    · rw [if_neg q]; exact hT t (by omega) h3 j (by omega)
