/-! desk; needs -/
theorem i32_m1 {y : Int32} : y = -1 ↔ y.toInt = -1 := by
  constructor
  · intro h; rw [h]; decide
  · intro h; exact Int32.toInt_inj.mp (by rw [h]; decide)
theorem in_0 {v a b : Int32} : mo_in v a b = 0 ↔ v < a ∨ b < v := by
  unfold mo_in
  by_cases h : v < a
  · simp [h]
  · by_cases h2 : b < v
    · simp [h, h2]
    · simp [h, h2]
theorem dk_x {x : Int32} (h1 : ¬ x < 1) (h2 : x ≤ 12) : ∃ a : Nat, 1 ≤ a ∧ a ≤ 12 ∧ x = nI a := by
  rw [Int32.lt_iff_toInt_lt, show (1 : Int32).toInt = 1 from by decide] at h1
  rw [Int32.le_iff_toInt_le, show (12 : Int32).toInt = 12 from by decide] at h2
  refine ⟨x.toInt.toNat, by omega, by omega, Int32.toInt_inj.mp ?_⟩
  rw [nI_toInt (by omega)]
  omega
theorem dk_y {a : Nat} {y : Int32} (h1 : 1 ≤ a) (h2 : a ≤ 12) : (y = -1 ∨ ¬ mo_in y 0 (nI a - 1) = 0) ↔ (¬ y < -1 ∧ y < nI a) := by
  have e1 : nI a - 1 = nI (a - 1) := by
    have := nI_pred (a - 1)
    rw [show a - 1 + 1 = a by omega] at this
    exact this
  rw [in_0, e1, i32_m1, Int32.lt_iff_toInt_lt, Int32.lt_iff_toInt_lt, Int32.lt_iff_toInt_lt, Int32.lt_iff_toInt_lt, nI_toInt (show a < 2 ^ 31 by omega), nI_toInt (show a - 1 < 2 ^ 31 by omega), show (-1 : Int32).toInt = -1 from by decide, show (0 : Int32).toInt = 0 from by decide]
  omega
theorem dk_yes {n : Nat} {τ : mS} {x y : Int32} (h1 : ¬ x < 1) (h2 : x ≤ 12) (h3 : ¬ y < -1) (h4 : y < x) : mo_desk n τ x y = mo_desk2 n τ x y := by
  obtain ⟨a, a1, a2, rfl⟩ := dk_x h1 h2
  unfold mo_desk
  rw [if_neg (fun q => (in_0.mp q).elim h1 (fun z => i32_nle z h2))]
  split
  · rfl
  · rename_i c
    rw [if_neg (((dk_y a1 a2).mpr ⟨h3, h4⟩).resolve_left c)]
theorem dk_no {n : Nat} {τ : mS} {x y : Int32} (hT : ¬ (¬ x < 1 ∧ x ≤ 12 ∧ ¬ y < -1 ∧ y < x)) : mo_desk n τ x y = (0, m_f τ 0 1) := by
  unfold mo_desk
  by_cases h : mo_in x 1 12 = 0
  · rw [if_pos h]
  · rw [if_neg h]
    rw [in_0] at h
    have h1 : ¬ x < 1 := fun q => h (Or.inl q)
    have h2 : x ≤ 12 := (i32_le_total x 12).elim id (fun q => absurd (Or.inr q) h)
    obtain ⟨a, a1, a2, rfl⟩ := dk_x h1 h2
    have hy : ¬ (¬ y < -1 ∧ y < nI a) := fun q => hT ⟨h1, h2, q⟩
    rw [← dk_y a1 a2] at hy
    rw [if_neg (fun q => hy (Or.inl q))]
    by_cases h3 : mo_in y 0 (nI a - 1) = 0
    · rw [if_pos h3]
    · exact absurd (Or.inr h3) hy
theorem st_deskS {n : Nat} {σ : kS} {τ : mS} (h : IV n σ τ) {x y : Int32} (h1 : ¬ x < 1) (h2 : x ≤ 12) (h3 : ¬ y < -1) (h4 : y < x) (hT : ¬ σ.1 12 = 0 ∨ ¬ σ.1 1 < 8) : mo_desk n τ x y = (0, m_f τ 0 2) := by
  rw [dk_yes h1 h2 h3 h4]
  unfold mo_desk2
  obtain ⟨k, s, v, u, m1, m15, -⟩ := h
  obtain ⟨-, -, -, -, -, -, ⟨-, t2, -, -, -, t7⟩, -, -⟩ := s
  split
  · rfl
  · rename_i c
    rw [t7]
    rcases hT with q | q
    · rw [if_neg q]
    · rw [k.2.1] at q
      rw [m1] at c
      have hk := k.1
      have : n = 8 := by
        rcases Nat.lt_or_ge n 8 with z | z
        · exact absurd (nI_lt (b := 8) z (by decide)) q
        · omega
      rw [this] at c
      exact absurd rfl c
theorem st_desk {n : Nat} {σ : kS} {τ : mS} (h : IV n σ τ) {x y : Int32} (h1 : ¬ x < 1) (h2 : x ≤ 12) (h3 : ¬ y < -1) (h4 : y < x) (hc0 : σ.1 12 = 0) (hn8 : σ.1 1 < 8) : (mo_desk n τ x y).1 = nI n ∧ (mo_desk n τ x y).2.1 0 = 0 ∧ IV (n + 1) (k_new n σ x y) (mo_desk n τ x y).2 := by
  rw [dk_yes h1 h2 h3 h4]
  obtain ⟨a, a1, a2, rfl⟩ := dk_x h1 h2
  obtain ⟨k, s, v, u, m1, m15, hT⟩ := h
  have hn : n < 8 := by
    have hk := k.1
    rw [k.2.1] at hn8
    exact (nI_ltI (b := 8) (by omega) (by decide)).mp hn8
  obtain ⟨s1, s2, s3, s4, s5, s6, ⟨t1, t2, t4, t5, t6, t7⟩, s8, s9⟩ := s
  have e8 : ¬ τ.1 1 = 8 := by
    rw [m1]
    exact fun q => absurd ((nI_eq (b := 8) (by omega) (by decide)).mp q) (by omega)
  unfold mo_desk2
  rw [if_neg e8, if_pos (by rw [t7]; exact hc0)]
  dsimp only
  have e1 : (m_a (m_a (m_a (m_f τ 0 0) 2 n (nI a)) 3 n y) 10 n (-1)).1 1 = nI n := m1
  rw [e1, nI_1]
  obtain ⟨u4, u5, u6, u11, u7⟩ := u n (Nat.le_refl n) hn
  have eo : ∀ i, i ≠ n → ∀ f, (k_new n σ (nI a) y).2.2.1 i f = σ.2.2.1 i f := fun i hi f => by
    show va_up σ.2.2.1 n _ i f = _
    rw [va_up_ne _ _ hi]
  have en0 : (k_new n σ (nI a) y).2.2.1 n 0 = nI n := congrFun (va_up_self σ.2.2.1 n _) 0
  have en1 : (k_new n σ (nI a) y).2.2.1 n 1 = nI a := congrFun (va_up_self σ.2.2.1 n _) 1
  have en3 : (k_new n σ (nI a) y).2.2.1 n 3 = y := congrFun (va_up_self σ.2.2.1 n _) 3
  have en4 : (k_new n σ (nI a) y).2.2.1 n 4 = 0 := congrFun (va_up_self σ.2.2.1 n _) 4
  have en5 : (k_new n σ (nI a) y).2.2.1 n 5 = 0 := congrFun (va_up_self σ.2.2.1 n _) 5
  have en6 : (k_new n σ (nI a) y).2.2.1 n 6 = -1 := congrFun (va_up_self σ.2.2.1 n _) 6
  have en7 : (k_new n σ (nI a) y).2.2.1 n 7 = 0 := congrFun (va_up_self σ.2.2.1 n _) 7
  have en8 : (k_new n σ (nI a) y).2.2.1 n 8 = 0 := congrFun (va_up_self σ.2.2.1 n _) 8
  have en9 : (k_new n σ (nI a) y).2.2.1 n 9 = 0 := congrFun (va_up_self σ.2.2.1 n _) 9
  have ecn : kd_cond (k_new n σ (nI a) y) n = 0 := by
    unfold kd_cond
    rw [en9, en8, en4, en1, en6]
    rw [if_pos rfl, if_pos rfl, if_pos (by rw [← nI_0]; exact nI_lt (by omega) (by omega)), if_pos rfl]
  have ecd : ∀ i, i ≠ n → kd_cond (k_new n σ (nI a) y) i = kd_cond σ i := fun i hi => kd_cond_congr (by funext f; exact eo i hi f)
  have em : ∀ i, ∀ b, (m_f (m_a (m_a (m_a (m_f τ 0 0) 2 n (nI a)) 3 n y) 10 n (-1)) 1 (nI (n + 1))).2 b i = if b = 10 then (if i = n then -1 else τ.2 b i) else if b = 3 then (if i = n then y else τ.2 b i) else if b = 2 then (if i = n then nI a else τ.2 b i) else τ.2 b i := fun i b => by
    simp only [mf_2, ma_2]
    by_cases b10 : b = 10
    · subst b10; simp
    · by_cases b3 : b = 3
      · subst b3; simp
      · simp [b10, b3]
  have hpr : nI (n + 1) - 1 = nI n := nI_pred n
  refine ⟨?_, rfl, ⟨by omega, ?_, k.2.2.1, k.2.2.2⟩, ⟨?_, ?_, ?_, ?_, ?_, ?_, ⟨t1, t2, t4, t5, t6, t7⟩, ?_, ?_⟩, ⟨?_, ?_, ?_, ?_⟩, ?_, ?_, m15, ?_⟩
  · exact hpr
  · show σ.1 1 + 1 = _
    rw [k.2.1, nI_1]
  · intro i hi
    by_cases q : i = n
    · subst q; exact en0
    · rw [eo i q]; exact s1 i (by omega)
  · intro i hi
    simp only [em]
    by_cases q : i = n
    · subst q
      rw [en1, en4, en5, en6, en7]
      simp [u4, u5, u11]
    · rw [eo i q, eo i q, eo i q, eo i q, eo i q]
      simp [q]
      exact s2 i (by omega)
  · intro i hi _
    simp only [em]
    by_cases q : i = n
    · subst q
      rw [ecn, en3]
      simp [u6]
    · rw [ecd i q, eo i q]
      simp [q]
      exact s3 i (by omega) (by omega)
  · intro i hi j hj
    rw [em]
    simp only [if_neg (show ¬ (7 : Nat) = 10 by decide), if_neg (show ¬ (7 : Nat) = 3 by decide), if_neg (show ¬ (7 : Nat) = 2 by decide)]
    show _ = va_up σ.2.2.2 n _ i j
    by_cases q : i = n
    · subst q
      rw [va_up_self]
      exact u7 j hj
    · rw [va_up_ne _ _ q]
      exact s4 i (by omega) j hj
  · intro z hz
    rw [em]
    exact s5 z hz
  · intro z hz hne
    rw [em]
    exact s6 z hz hne
  · intro j hj
    rw [em]
    exact s8 j hj
  · intro j hj
    rw [em]
    exact s9 j hj
  · intro i hi
    by_cases q : i = n
    · subst q
      exact ⟨a, 0, a1, a2, by omega, en1, (en4).trans nI_0.symm⟩
    · obtain ⟨b, p, c⟩ := v.1 i (by omega)
      exact ⟨b, p, by rw [eo i q, eo i q]; exact c⟩
  · intro z hz
    rcases v.2.1 z hz with q | ⟨i, hi, q⟩
    · exact Or.inl q
    · exact Or.inr ⟨i, by omega, q⟩
  · intro i hi
    by_cases q : i = n
    · subst q; exact Or.inl (en6)
    · rw [eo i q, eo i q, eo i q, eo i q, eo i q]; exact v.2.2.1 i (by omega)
  · intro i hi j hj
    show ∃ b, b < 65536 ∧ va_up σ.2.2.2 n _ i j = nI b
    by_cases q : i = n
    · subst q
      rw [va_up_self]
      exact ⟨0, by omega, nI_0.symm⟩
    · rw [va_up_ne _ _ q]
      exact v.2.2.2 i (by omega) j hj
  · intro i hi hi8
    simp only [em]
    obtain ⟨w1, w2, w3, w4, w5⟩ := u i (by omega) hi8
    exact ⟨w1, w2, w3, w4, fun j hj => w5 j hj⟩
  · rfl
  · intro t ht e6 j hj
    obtain ⟨i, hi, q⟩ := hT t ht e6 j hj
    exact ⟨i, by omega, q⟩
