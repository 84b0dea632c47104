theorem kd_wap_congr {σ σ' : kS} (h : σ.2.2.1 = σ'.2.2.1) (i m : Nat) : kd_wap σ i m = kd_wap σ' i m := by
  induction m with
  | zero => rfl
  | succ m ih => unfold kd_wap; rw [ih, h]
theorem kd_wfp_congr {σ σ' : kS} (h : σ.2.2.1 = σ'.2.2.1) (n : Nat) (x y : Int32) (m : Nat) : kd_wfp σ n x y m = kd_wfp σ' n x y m := by
  induction m with
  | zero => rfl
  | succ m ih => unfold kd_wfp; rw [ih, h, kd_wap_congr h]
theorem kd_cond_congr {σ σ' : kS} {i : Nat} (h : σ.2.2.1 i = σ'.2.2.1 i) : kd_cond σ i = kd_cond σ' i := by unfold kd_cond; rw [h]
/-- a subject is given back -/
theorem sm_gb {n e z : Nat} {σ : kS} {τ : mS} (h : sm n e σ τ) (hv : iv n σ) (hn : n ≤ 8) (he : e < n → σ.2.2.1 e 6 = -1) (hz : z < 16) :
    sm n e (kd_gb n σ z) (mo_gb n τ z) ∧ iv n (kd_gb n σ z) ∧ (∀ i f, f ≠ 6 → (kd_gb n σ z).2.2.1 i f = σ.2.2.1 i f) ∧ (∀ i, σ.2.2.1 i 6 = -1 → (kd_gb n σ z).2.2.1 i 6 = -1) ∧ (∀ w, w ≠ z → (kd_gb n σ z).2.1 0 w = σ.2.1 0 w) ∧ (kd_gb n σ z).2.2.2 = σ.2.2.2 ∧ (∀ w, (kd_gb n σ z).2.1 2 w = σ.2.1 2 w) ∧ (∀ i, i < n → σ.2.2.1 i 6 = -1 → (mo_gb n τ z).2 6 i = τ.2 6 i) ∧ (∀ i, (mo_gb n τ z).2 3 i = τ.2 3 i) := by
  obtain ⟨s1, s2, s3, s4, s5, s6, s7, s8, s9⟩ := h
  obtain ⟨v1, v2, v3, v4⟩ := hv
  have hf := sm_first (x := nI z) ⟨s1, s2, s3, s4, s5, s6, s7, s8, s9⟩ hn
  unfold kd_gb mo_gb
  dsimp only
  rw [kd_wfp_congr (σ := k_a σ 0 z (-1)) (σ' := σ) rfl, hf]
  cases hw : kd_wfp σ n (nI z) 0 n with
  | none =>
    dsimp only
    rw [if_pos (show (-1 : Int32) < 0 by decide)]
    refine ⟨⟨s1, ?_, ?_, ?_, ?_, ?_, s7, ?_, ?_⟩, ⟨v1, ?_, v3, v4⟩, fun i f _ => rfl, fun i q => q, ?_, rfl, ?_, ?_, ?_⟩
    · intro i hi; simp only [ma_2]; exact s2 i hi
    · intro i hi hie; simp only [ma_2]; exact s3 i hi hie
    · intro i hi j hj; simp only [ma_2]; exact s4 i hi j hj
    · intro w hw2
      by_cases e : w = z
      · subst e; simp [ma_2, ka_2]
      · simp [ma_2, ka_2, e]; exact s5 w hw2
    · intro w hw2 hne
      by_cases e : w = z
      · subst e; simp [ka_2] at hne
      · simp [ma_2, ka_2, e] at hne ⊢; exact s6 w hw2 hne
    · intro j hj; simp [ma_2, ka_2]; exact s8 j hj
    · intro j hj; simp [ma_2, ka_2]; exact s9 j hj
    · intro w hw2
      by_cases e : w = z
      · subst e; exact Or.inl (by simp [ka_2])
      · rw [show (k_a σ 0 z (-1)).2.1 0 w = σ.2.1 0 w by simp [ka_2, e]]; exact v2 w hw2
    · intro w hw2; simp [ka_2, hw2]
    · intro w; simp [ka_2]
    · intro i _ _; simp [ma_2]
    · intro i; simp [ma_2]
  | some j =>
    dsimp only
    obtain ⟨hj, hj6, -, -⟩ := kd_wfp_some hw
    have hjz : σ.2.2.1 j 6 ≠ -1 := by rw [hj6]; exact nI_m1 (by omega)
    have hje : j ≠ e := fun q => by subst q; exact hjz (he hj)
    rw [if_neg (nI_pos (by omega)), nI_clamp (by omega)]
    obtain ⟨-, w8, w9, w4⟩ := (v3 j hj).resolve_left hjz
    refine ⟨⟨?_, ?_, ?_, ?_, ?_, ?_, ?_, ?_, ?_⟩, ⟨?_, ?_, ?_, ?_⟩, ?_, ?_, ?_, rfl, ?_, ?_, ?_⟩
    · intro i hi
      rw [kt_3, ka_3]
      by_cases q : i = j
      · rw [if_pos q, if_neg (by decide)]; exact s1 i hi
      · rw [if_neg q]; exact s1 i hi
    · intro i hi
      obtain ⟨a1, a3, a4, a5, a6⟩ := s2 i hi
      by_cases q : i = j
      · subst q; simp [ma_2, kt_3, ka_3, a1, a3, a4, a6]
      · simp [ma_2, kt_3, ka_3, q, a1, a3, a4, a5, a6]
    · intro i hi hie
      by_cases q : i = j
      · subst q
        have e1 : kd_cond (kd_take (k_a σ 0 z (-1)) i z) i = 0 := by
          unfold kd_cond
          simp [kt_3, ka_3, w8, w9, w4]
        rw [e1]
        have := (s3 i hi hie).2
        simp [ma_2, kt_3, ka_3, this]
      · rw [kd_cond_congr (σ' := σ) (by funext g; simp [kt_3, ka_3, q])]
        simp [ma_2, kt_3, ka_3, q]
        exact s3 i hi hie
    · intro i hi k hk; simp only [ma_2, kt_4, ka_3]; exact s4 i hi k hk
    · intro w hw2
      by_cases q : w = z
      · subst q; simp [ma_2, kt_2, ka_3, s1 j hj]
      · simp [ma_2, kt_2, ka_2, q]; exact s5 w hw2
    · intro w hw2 hne
      by_cases q : w = z
      · subst q; simp [ma_2, ma_1, kt_2, ka_1]; exact s7.2.2.2.2.1
      · simp [ma_2, kt_2, ka_2, q] at hne ⊢; exact s6 w hw2 hne
    · exact s7
    · intro k hk; simp [ma_2, kt_2, ka_2]; exact s8 k hk
    · intro k hk; simp [ma_2, kt_2, ka_2]; exact s9 k hk
    · intro i hi
      obtain ⟨a, p, a1, a2, a3, a4, a5⟩ := v1 i hi
      exact ⟨a, p, a1, a2, a3, by simp [kt_3, ka_3, a4], by simp [kt_3, ka_3, a5]⟩
    · intro w hw2
      by_cases q : w = z
      · subst q; exact Or.inr ⟨j, hj, by simp [kt_2, ka_3, s1 j hj]⟩
      · rw [show (kd_take (k_a σ 0 z (-1)) j z).2.1 0 w = σ.2.1 0 w by simp [kt_2, ka_2, q]]; exact v2 w hw2
    · intro i hi
      by_cases q : i = j
      · subst q; exact Or.inl (by simp [kt_3])
      · have e1 : ∀ g, (kd_take (k_a σ 0 z (-1)) j z).2.2.1 i g = σ.2.2.1 i g := fun g => by simp [kt_3, ka_3, q]
        rw [e1, e1, e1, e1, e1]; exact v3 i hi
    · exact v4
    · intro i f hf6; simp [kt_3, ka_3, hf6]
    · intro i hi6
      by_cases q : i = j
      · simp [kt_3, q]
      · simp [kt_3, ka_3, q, hi6]
    · intro w hw2; simp [kt_2, ka_2, hw2]
    · intro w; simp [kt_2, ka_2]
    · intro i _ hi6
      have q : i ≠ j := fun q => by subst q; exact hjz hi6
      simp [ma_2, q]
    · intro i; simp [ma_2]
