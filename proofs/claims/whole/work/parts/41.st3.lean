/-! needs -/
theorem midst_eq {n e : Nat} {σ : kS} {τ : mS} (h : sm n e σ τ) {i : Nat} (hi : i < n) : mo_midst τ i = 0 ↔ kd_midst σ i = 0 := by
  unfold mo_midst kd_midst
  rw [held_eq h hi, (h.2.1 i hi).2.2.2.1]
  by_cases h1 : kd_held σ i = 0
  · by_cases h2 : σ.2.2.1 i 6 = -1
    · simp [h1, h2]
    · simp [h1, h2]
  · by_cases h2 : σ.2.2.1 i 6 = -1
    · simp [h1, h2]
    · simp [h1, h2]
theorem nd_ix {i q : Nat} (hi : i < 8) (hq : q < 12) : (12 * nI i + nI q).toNatClampNeg = 12 * i + q := by
  rw [show (12 : Int32) = nI 12 from rfl, pk_mul, nI_add, nI_clamp (by omega)]
theorem sm_add {n : Nat} {σ : kS} {τ : mS} (h : sm n n σ τ) (hv : iv n σ) {i q w : Nat} (hi : i < n) (hq : q < 12) (hw : w < 16) :
    sm n n (k_n σ i q (σ.2.2.2 i q ||| ((1 : Int32) <<< (nI w &&& 31)))) (m_a τ 7 (12 * i + q) (τ.2 7 (12 * i + q) ||| ((1 : Int32) <<< (nI w &&& 31)))) ∧ iv n (k_n σ i q (σ.2.2.2 i q ||| ((1 : Int32) <<< (nI w &&& 31)))) := by
  obtain ⟨s1, s2, s3, s4, s5, s6, s7, s8, s9⟩ := h
  obtain ⟨v1, v2, v3, v4⟩ := hv
  have ek : ∀ i' j', (k_n σ i q (σ.2.2.2 i q ||| ((1 : Int32) <<< (nI w &&& 31)))).2.2.2 i' j' = if i' = i ∧ j' = q then σ.2.2.2 i q ||| ((1 : Int32) <<< (nI w &&& 31)) else σ.2.2.2 i' j' := by
    intro i' j'
    show va_up σ.2.2.2 i (upd (σ.2.2.2 i) q _) i' j' = _
    by_cases h1 : i' = i
    · subst h1
      rw [va_up_self]
      by_cases h2 : j' = q
      · subst h2; rw [pk_us, if_pos ⟨rfl, rfl⟩]
      · rw [pk_un h2, if_neg (fun z => h2 z.2)]
    · rw [va_up_ne _ _ h1, if_neg (fun z => h1 z.1)]
  refine ⟨⟨s1, ?_, ?_, ?_, ?_, ?_, s7, ?_, ?_⟩, ⟨v1, v2, v3, ?_⟩⟩
  · intro k hk; simp only [ma_2]; exact s2 k hk
  · intro k hk hn; simp only [ma_2]; exact s3 k hk hn
  · intro k hk j hj
    rw [ma_2, if_pos rfl, ek]
    by_cases h1 : k = i ∧ j = q
    · obtain ⟨rfl, rfl⟩ := h1
      rw [if_pos rfl, if_pos ⟨rfl, rfl⟩, s4 k hk j hj]
    · rw [if_neg h1, if_neg (by omega)]
      exact s4 k hk j hj
  · intro z hz; simp [ma_2]; exact s5 z hz
  · intro z hz hne; simp [ma_2]; exact s6 z hz hne
  · intro j hj; simp [ma_2]; exact s8 j hj
  · intro j hj; simp [ma_2]; exact s9 j hj
  · intro k hk j hj
    rw [ek]
    by_cases h1 : k = i ∧ j = q
    · rw [if_pos h1]
      obtain ⟨b, hb, e⟩ := v4 i hi q hq
      refine ⟨b ||| 2 ^ w, ?_, by rw [e, qb_shl hw, qb_or]⟩
      have h2 : 2 ^ w < 2 ^ 16 := Nat.pow_lt_pow_right (by decide) hw
      exact Nat.or_lt_two_pow (n := 16) (by omega) h2
    · rw [if_neg h1]
      exact v4 k hk j hj
theorem st_needsN {n : Nat} {σ : kS} {τ : mS} (h : IV n σ τ) {x y z : Int32} (hT : kd_at n x = none) : mo_isd (m_f τ 0 0) x = 0 ∧ kp_needs n σ x y z = (0, σ) := by
  refine ⟨(kat_isd (τ := m_f τ 0 0) h.2.2.2.2.1 x).mp hT, ?_⟩
  unfold kp_needs
  rw [hT]
theorem st_needs {n i : Nat} {σ : kS} {τ : mS} (h : IV n σ τ) (hi : i < n) (y z : Int32) : (mo_needs n τ i y z).1 = (kp_needs n σ (nI i) y z).1 ∧ IV n (kp_needs n σ (nI i) y z).2 (mo_needs n τ i y z).2 := by
  have h0 := h.f0 0
  obtain ⟨k, s, v, u, m1, m15, hT⟩ := h
  have hn := k.1
  have s0 := s
  obtain ⟨s1, s2, s3, s4, s5, s6, ⟨t1, t2, t4, t5, t6, t7⟩, s8, s9⟩ := s0
  obtain ⟨d2, d4, d5, d10, d11⟩ := s2 i hi
  obtain ⟨a, p, a1, a2, a3, a4, a5⟩ := v.1 i hi
  have fail : (0 : Int32) = 0 ∧ IV n σ (m_f τ 0 0) := ⟨rfl, h0⟩
  unfold kp_needs mo_needs
  rw [kd_at_nI k hi]
  dsimp only
  rw [show (m_f τ 0 0).1 20 = τ.1 20 from rfl, t7, show (m_f τ 0 0).2 2 i = τ.2 2 i from rfl, d2, a4, show (m_f τ 0 0).2 4 i = τ.2 4 i from rfl, d4, a5, show (m_f τ 0 0).2 7 = τ.2 7 from rfl]
  by_cases c12 : σ.1 12 = 0
  · rw [if_pos c12, if_pos c12]
    by_cases cz : kd_sub z = 0
    · rw [if_pos cz, if_pos cz]; exact fail
    · rw [if_neg cz, if_neg cz]
      obtain ⟨w, hw, rfl⟩ := ksub_some cz
      have e1 : nI a - 1 = nI (a - 1) := by
        have := nI_pred (a - 1)
        rw [show a - 1 + 1 = a by omega] at this
        exact this
      rw [e1]
      rcases pk_ix y (n := a) (by omega) with q | q | ⟨g, hg, rfl⟩
      · rw [if_pos (show kd_ahead σ i y = 0 by unfold kd_ahead; rw [if_pos q]), if_pos (in_0.mpr (Or.inl q))]
        exact fail
      · have h1 : kd_ahead σ i y = 0 := by
          unfold kd_ahead
          rw [a4]
          split
          · rfl
          · split
            · rfl
            · first | rfl | rw [if_pos q]
        have h2 : mo_in y 0 (nI (a - 1)) = 0 := in_0.mpr (Or.inr (by
          rw [Int32.lt_iff_toInt_lt, nI_toInt (by omega)]
          rw [Int32.le_iff_toInt_le, nI_toInt (by omega)] at q
          omega))
        rw [if_pos h1, if_pos h2]
        exact fail
      · have hg0 : ¬ nI g < 0 := nI_pos (by omega)
        have hin : ¬ mo_in (nI g) 0 (nI (a - 1)) = 0 := fun q => (in_0.mp q).elim hg0 (nI_nlt (by omega) (by omega))
        rw [if_neg hin]
        have eix := nd_ix (show i < 8 by omega) (show g < 12 by omega)
        rw [eix]
        have eh : kd_has σ i (nI g) (nI w) = 0 ↔ (σ.2.2.2 i g >>> (nI w &&& 31)) &&& 1 = 0 := by
          unfold kd_has
          rw [if_neg hg0, if_neg (show ¬ (12 : Int32) ≤ nI g from nI_ge (b := 12) (show g < 12 by omega) (by decide)), nI_clamp (by omega)]
          by_cases q : (σ.2.2.2 i g >>> (nI w &&& 31)) &&& 1 = 0
          · simp [q]
          · simp [q]
        obtain ⟨b, hb, eb⟩ := v.2.2.2 i hi g (by omega)
        have hbit : (τ.2 7 (12 * i + g) >>> (nI w &&& 31)) &&& 1 = 1 ↔ ¬ kd_has σ i (nI g) (nI w) = 0 := by
          rw [eh, s4 i hi g (by omega), eb, qb_bit1 hb hw, qb_bit0 hb hw]
          simp
        have eah : kd_ahead σ i (nI g) = 0 ↔ nI g < nI p := by
          unfold kd_ahead
          rw [a4, a5, if_neg hg0, if_neg (nI_ge hg (by omega))]
          by_cases q : nI g < nI p
          · simp [q]
          · simp [q]
        by_cases ca : nI g < nI p
        · rw [if_pos (eah.mpr ca), if_pos ca]
          split
          · exact fail
          · exact fail
        · rw [if_neg (fun q => ca (eah.mp q)), if_neg ca]
          by_cases ch : kd_has σ i (nI g) (nI w) = 0
          · rw [if_pos ch, if_neg (fun q => hbit.mp q ch)]
            have eadd : kd_add σ i (nI g) (nI w) = k_n σ i g (σ.2.2.2 i g ||| ((1 : Int32) <<< (nI w &&& 31))) := by
              unfold kd_add
              rw [if_neg hg0, if_neg (show ¬ (12 : Int32) ≤ nI g from nI_ge (b := 12) (show g < 12 by omega) (by decide)), nI_clamp (by omega)]
            have good : (1 : Int32) = 1 ∧ IV n (kd_add σ i (nI g) (nI w)) (m_a (m_f τ 0 0) 7 (12 * i + g) (τ.2 7 (12 * i + g) ||| ((1 : Int32) <<< (nI w &&& 31)))) := by
              rw [eadd]
              obtain ⟨g1, g2⟩ := sm_add (sm_f0 s 0 0 (Or.inl rfl)) v hi (show g < 12 by omega) hw
              exact ⟨rfl, k, g1, g2, um_7 (um_f u 0 0) (by omega), m1, m15, hT⟩
            by_cases cp : nI g = nI p
            · rw [if_pos cp, if_pos cp]
              by_cases cm : kd_midst σ i = 0
              · rw [if_pos cm, if_pos ((midst_eq (sm_f0 s 0 0 (Or.inl rfl)) hi).mpr cm)]
                exact good
              · rw [if_neg cm, if_neg (fun q => cm ((midst_eq (sm_f0 s 0 0 (Or.inl rfl)) hi).mp q))]
                exact fail
            · rw [if_neg cp, if_neg cp]
              exact good
          · rw [if_neg ch, if_pos (hbit.mpr ch)]
            exact fail
  · rw [if_neg c12]
    rw [if_neg c12]
    split
    · exact fail
    · split
      · exact fail
      · exact fail
