/-! the first that waits -/
theorem i32_le_total (a b : Int32) : a ≤ b ∨ b < a := by
  rw [Int32.le_iff_toInt_le, Int32.lt_iff_toInt_lt]; omega
theorem i32_nle {a b : Int32} (h : b < a) : ¬ a ≤ b := by
  rw [Int32.le_iff_toInt_le]; rw [Int32.lt_iff_toInt_lt] at h; omega
theorem i32_le_trans {a b c : Int32} (h : a ≤ b) (h2 : b ≤ c) : a ≤ c := by
  rw [Int32.le_iff_toInt_le] at *; omega
theorem i32_lt_le {a b c : Int32} (h : a < b) (h2 : b ≤ c) : a ≤ c := by
  rw [Int32.lt_iff_toInt_lt] at h; rw [Int32.le_iff_toInt_le] at *; omega
theorem i32_le_lt {a b c : Int32} (h : a < b) (h2 : b ≤ c) : a < c := by
  rw [Int32.lt_iff_toInt_lt] at *; rw [Int32.le_iff_toInt_le] at h2; omega
theorem i32_lt_trans {a b c : Int32} (h : a < b) (h2 : b < c) : a < c := by
  rw [Int32.lt_iff_toInt_lt] at *; omega
theorem i32_le_refl (a : Int32) : a ≤ a := by rw [Int32.le_iff_toInt_le]; omega
/-- what 'first' has found among the first m -/
theorem mo_first_is (τ : mS) (x : Int32) (m : Nat) (hm : m < 2 ^ 31) :
    (mo_firstp τ x m = -1 ∧ ∀ k, k < m → τ.2 10 k ≠ x) ∨
    ∃ j, j < m ∧ mo_firstp τ x m = nI j ∧ τ.2 10 j = x ∧ (∀ k, k < m → τ.2 10 k = x → τ.2 11 j ≤ τ.2 11 k) ∧ (∀ k, k < j → τ.2 10 k = x → τ.2 11 j < τ.2 11 k) := by
  induction m with
  | zero => exact Or.inl ⟨rfl, fun k h => absurd h (by omega)⟩
  | succ m ih =>
    unfold mo_firstp
    rcases ih (by omega) with ⟨h1, h2⟩ | ⟨j, hj, h1, h2, h3, h4⟩
    · rw [h1]
      by_cases hx : τ.2 10 m = x
      · refine Or.inr ⟨m, by omega, ?_, hx, fun k hk hkx => ?_, fun k hk hkx => absurd hkx (h2 k hk)⟩
        · rw [if_pos hx, if_pos (by decide)]
        · by_cases e : k = m
          · subst e; exact i32_le_refl _
          · exact absurd hkx (h2 k (by omega))
      · refine Or.inl ⟨by rw [if_neg hx], fun k hk => ?_⟩
        by_cases e : k = m
        · subst e; exact hx
        · exact h2 k (by omega)
    · rw [h1]
      have hjn : ¬ nI j < 0 := nI_pos (by omega)
      by_cases hx : τ.2 10 m = x
      · rw [if_pos hx, if_neg hjn, nI_clamp (by omega)]
        by_cases hle : τ.2 11 j ≤ τ.2 11 m
        · rw [if_pos hle]
          refine Or.inr ⟨j, by omega, rfl, h2, fun k hk hkx => ?_, h4⟩
          by_cases e : k = m
          · subst e; exact hle
          · exact h3 k (by omega) hkx
        · rw [if_neg hle]
          have hlt := i32_lt_of hle
          refine Or.inr ⟨m, by omega, rfl, hx, fun k hk hkx => ?_, fun k hk hkx => i32_le_lt hlt (h3 k hk hkx)⟩
          by_cases e : k = m
          · subst e; exact i32_le_refl _
          · exact i32_lt_le hlt (h3 k (by omega) hkx)
      · rw [if_neg hx]
        refine Or.inr ⟨j, by omega, rfl, h2, fun k hk hkx => ?_, h4⟩
        by_cases e : k = m
        · subst e; exact absurd hkx hx
        · exact h3 k (by omega) hkx
/-- how many are ahead: none, or not none -/
theorem kd_wap_is (σ : kS) (i m : Nat) : ∃ c, c ≤ m ∧ kd_wap σ i m = nI c ∧ (c = 0 ↔ ∀ k, k < m → σ.2.2.1 k 6 = σ.2.2.1 i 6 → σ.2.2.1 i 7 ≤ σ.2.2.1 k 7) := by
  induction m with
  | zero => exact ⟨0, Nat.le_refl 0, rfl, fun _ k h => absurd h (by omega), fun _ => rfl⟩
  | succ m ih =>
    obtain ⟨c, hc, e, hz⟩ := ih
    unfold kd_wap
    rw [e]
    by_cases h1 : σ.2.2.1 m 6 = σ.2.2.1 i 6
    · rw [if_pos h1]
      by_cases h2 : σ.2.2.1 i 7 ≤ σ.2.2.1 m 7
      · rw [if_pos h2]
        refine ⟨c, by omega, rfl, fun h k hk hkx => ?_, fun h => hz.mpr (fun k hk hkx => h k (by omega) hkx)⟩
        by_cases e : k = m
        · subst e; exact h2
        · exact hz.mp h k (by omega) hkx
      · rw [if_neg h2]
        exact ⟨c + 1, by omega, by rw [nI_1], fun h => by omega, fun h => absurd (h m (by omega) h1) h2⟩
    · rw [if_neg h1]
      refine ⟨c, by omega, rfl, fun h k hk hkx => ?_, fun h => hz.mpr (fun k hk hkx => h k (by omega) hkx)⟩
      by_cases e : k = m
      · subst e; exact absurd hkx h1
      · exact hz.mp h k (by omega) hkx
theorem kd_wap_0 (σ : kS) (i m : Nat) (hm : m < 2 ^ 31) : kd_wap σ i m = 0 ↔ ∀ k, k < m → σ.2.2.1 k 6 = σ.2.2.1 i 6 → σ.2.2.1 i 7 ≤ σ.2.2.1 k 7 := by
  obtain ⟨c, hc, e, hz⟩ := kd_wap_is σ i m
  rw [e, ← hz, ← nI_0, nI_eq (by omega) (by omega)]
theorem kd_wfp_none {σ : kS} {n : Nat} {x y : Int32} {m : Nat} (h : kd_wfp σ n x y m = none) : ∀ k, k < m → ¬ (σ.2.2.1 k 6 = x ∧ kd_wap σ k n = y) := by
  induction m with
  | zero => exact fun k hk => absurd hk (by omega)
  | succ m ih =>
    intro k hk ⟨h1, h2⟩
    unfold kd_wfp at h
    cases hm : kd_wfp σ n x y m with
    | some q => rw [hm] at h; cases h
    | none =>
      rw [hm] at h
      by_cases e : k = m
      · subst e
        dsimp only at h
        rw [if_pos h1, if_pos h2] at h
        cases h
      · exact ih hm k (by omega) ⟨h1, h2⟩
theorem kd_wfp_some {σ : kS} {n : Nat} {x y : Int32} {m j : Nat} (h : kd_wfp σ n x y m = some j) : j < m ∧ σ.2.2.1 j 6 = x ∧ kd_wap σ j n = y ∧ ∀ k, k < j → ¬ (σ.2.2.1 k 6 = x ∧ kd_wap σ k n = y) := by
  induction m with
  | zero => cases h
  | succ m ih =>
    unfold kd_wfp at h
    cases hm : kd_wfp σ n x y m with
    | some q =>
      rw [hm] at h
      cases h
      obtain ⟨a, b⟩ := ih hm
      exact ⟨by omega, b⟩
    | none =>
      rw [hm] at h
      dsimp only at h
      by_cases h1 : σ.2.2.1 m 6 = x
      · rw [if_pos h1] at h
        by_cases h2 : kd_wap σ m n = y
        · rw [if_pos h2] at h
          cases h
          exact ⟨by omega, h1, h2, kd_wfp_none hm⟩
        · rw [if_neg h2] at h; cases h
      · rw [if_neg h1] at h; cases h
/-- the first that waits is the same -/
theorem sm_first {n e : Nat} {σ : kS} {τ : mS} (h : sm n e σ τ) (hn : n ≤ 8) (x : Int32) : mo_firstp τ x n = (match kd_wfp σ n x 0 n with
    | some j => nI j
    | none => -1) := by
  have q6 : ∀ k, k < n → τ.2 10 k = σ.2.2.1 k 6 := fun k hk => (h.2.1 k hk).2.2.2.1
  have q7 : ∀ k, k < n → τ.2 11 k = σ.2.2.1 k 7 := fun k hk => (h.2.1 k hk).2.2.2.2
  rcases mo_first_is τ x n (by omega) with ⟨h1, h2⟩ | ⟨j, hj, h1, h2, h3, h4⟩
  · rw [h1]
    cases hw : kd_wfp σ n x 0 n with
    | none => rfl
    | some k =>
      obtain ⟨a, b, -⟩ := kd_wfp_some hw
      exact absurd (by rw [q6 k a]; exact b) (h2 k a)
  · rw [h1]
    have hG : σ.2.2.1 j 6 = x ∧ kd_wap σ j n = 0 := by
      refine ⟨by rw [← q6 j hj]; exact h2, (kd_wap_0 σ j n (by omega)).mpr (fun k hk hkx => ?_)⟩
      rw [← q7 j hj, ← q7 k hk]
      exact h3 k hk (by rw [q6 k hk, hkx, ← q6 j hj]; exact h2)
    cases hw : kd_wfp σ n x 0 n with
    | none => exact absurd hG (kd_wfp_none hw j hj)
    | some k =>
      obtain ⟨a, b, c, d⟩ := kd_wfp_some hw
      have hkj : k = j := by
        rcases Nat.lt_trichotomy k j with q | q | q
        · have g1 := (kd_wap_0 σ k n (by omega)).mp c j hj (by rw [hG.1, b])
          have g2 := h4 k q (by rw [q6 k a]; exact b)
          rw [q7 j hj, q7 k a] at g2
          exact absurd g1 (i32_nle g2)
        · exact q
        · exact absurd hG (d j q)
      rw [hkj]
