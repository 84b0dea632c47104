/-! a turn -/
theorem tb_hi {b i : Nat} (hb : b < 65536) (h : ¬ i < 16) : b.testBit i = false := by
  have h2 : 2 ^ 16 ≤ 2 ^ i := Nat.pow_le_pow_right (n := 2) (by decide) (by omega)
  exact Nat.testBit_lt_two_pow (by omega)
theorem qb_wants {b v : Nat} (hb : b < 65536) : nI b &&& (nI v ^^^ (-1)) = nI (b &&& (v ^^^ 65535)) := by
  have e : (-1 : Int32).toBitVec = BitVec.allOnes 32 := by decide
  have e1 : ∀ k, (nI k).toBitVec = BitVec.ofNat 32 k := fun _ => rfl
  apply Int32.toBitVec_inj.1
  rw [Int32.toBitVec_and, Int32.toBitVec_xor, e, e1, e1, e1]
  apply BitVec.eq_of_getLsbD_eq
  intro i hi
  have h16 : (65535 : Nat).testBit i = decide (i < 16) := Nat.testBit_two_pow_sub_one 16 i
  simp only [BitVec.getLsbD_and, BitVec.getLsbD_xor, BitVec.getLsbD_ofNat, BitVec.getLsbD_allOnes, Nat.testBit_and, Nat.testBit_xor, h16, decide_eq_true hi, Bool.true_and]
  by_cases h : i < 16
  · rw [decide_eq_true h]
  · rw [tb_hi hb h, Bool.false_and, Bool.false_and]
/-- the least bit of a small number -/
theorem lowp_bit {w : Nat} (hw : w < 65536) {j : Nat} (hj : j ≤ 16) : (mo_lowp (nI w) j = none ∧ ∀ z, z < j → w.testBit z = false) ∨ ∃ q, q < j ∧ mo_lowp (nI w) j = some q ∧ w.testBit q = true ∧ ∀ z, z < q → w.testBit z = false := by
  induction j with
  | zero => exact Or.inl ⟨rfl, fun z hz => absurd hz (by omega)⟩
  | succ j ih =>
    unfold mo_lowp
    rcases ih (by omega) with ⟨h1, h2⟩ | ⟨q, hq, h1, h2, h3⟩
    · rw [h1]
      dsimp only
      by_cases hb : w.testBit j = false
      · rw [if_pos ((qb_bit0 hw (by omega)).mpr hb)]
        refine Or.inl ⟨rfl, fun z hz => ?_⟩
        by_cases e : z = j
        · subst e; exact hb
        · exact h2 z (by omega)
      · rw [if_neg (fun z => hb ((qb_bit0 hw (by omega)).mp z))]
        exact Or.inr ⟨j, by omega, rfl, by simpa using hb, h2⟩
    · rw [h1]
      exact Or.inr ⟨q, by omega, rfl, h2, h3⟩
/-- what the reference wants, as bits -/
theorem wants_bits {n e i p : Nat} {σ : kS} {τ : mS} (h : sm n e σ τ) (hv : iv n σ) (hn : n ≤ 8) (hi : i < n) (hp : p < 12) (ep : σ.2.2.1 i 4 = nI p) :
    ∃ w, w < 65536 ∧ mo_wants τ i = nI w ∧ ∀ z, z < 16 → (w.testBit z = false ↔ (kd_has σ i (σ.2.2.1 i 4) (nI z) = 0 ∨ σ.2.1 0 z = σ.2.2.1 i 0)) := by
  obtain ⟨b, hb, eb⟩ := hv.2.2.2 i hi p hp
  have e4 : τ.2 4 i = nI p := by rw [(h.2.1 i hi).2.1]; exact ep
  have e7 : (12 * nI i + τ.2 4 i).toNatClampNeg = 12 * i + p := by
    rw [e4, show (12 : Int32) = nI 12 from rfl, pk_mul, nI_add, nI_clamp (by omega)]
  have hlt := hbt_lt (τ.2 8) (nI i) 16
  refine ⟨b &&& (hbt (τ.2 8) (nI i) 16 ^^^ 65535), Nat.lt_of_le_of_lt Nat.and_le_left hb, ?_, fun z hz => ?_⟩
  · unfold mo_wants
    rw [e7, h.2.2.2.1 i hi p hp, eb, show mo_held τ (nI i) = nI (hbt (τ.2 8) (nI i) 16) from mo_heldp_hbt _ _ (Nat.le_refl 16), qb_wants hb]
  · have h16 : (65535 : Nat).testBit z = true := by rw [show (65535 : Nat) = 2 ^ 16 - 1 from rfl, Nat.testBit_two_pow_sub_one]; simp [hz]
    have hh : kd_has σ i (σ.2.2.1 i 4) (nI z) = 0 ↔ b.testBit z = false := by
      unfold kd_has
      rw [ep, if_neg (nI_pos (by omega)), if_neg (show ¬ (12 : Int32) ≤ nI p from nI_ge (b := 12) hp (by decide)), nI_clamp (by omega), eb]
      rw [← qb_bit0 hb hz]
      by_cases c : (nI b >>> (nI z &&& 31)) &&& 1 = 0
      · rw [if_pos c]; exact ⟨fun _ => c, fun _ => rfl⟩
      · rw [if_neg c]; exact ⟨fun q => absurd q (by decide), fun q => absurd q c⟩
    rw [hh, Nat.testBit_and, Nat.testBit_xor, h16, hbt_bit, h.2.2.2.2.1 z hz, h.1 i hi]
    by_cases c : σ.2.1 0 z = nI i <;> cases b.testBit z <;> simp [hz, c]
theorem llp_low {n e i p : Nat} {σ : kS} {τ : mS} (h : sm n e σ τ) (hv : iv n σ) (hn : n ≤ 8) (hi : i < n) (hp : p < 12) (ep : σ.2.2.1 i 4 = nI p) :
    ∀ j, j ≤ 16 → kd_llp σ i j = mo_lowp (mo_wants τ i) j := by
  obtain ⟨w, hw, ew, hz⟩ := wants_bits h hv hn hi hp ep
  intro j hj
  rw [ew]
  induction j with
  | zero => rfl
  | succ j ih =>
    unfold kd_llp mo_lowp
    rw [ih (by omega)]
    split
    · rfl
    · have hzz := hz j (by omega)
      rw [← qb_bit0 hw (show j < 16 by omega)] at hzz
      by_cases c : (nI w >>> (nI j &&& 31)) &&& 1 = 0
      · rw [if_pos c]
        rcases hzz.mp c with q | q
        · rw [if_pos q]
        · by_cases q2 : kd_has σ i (σ.2.2.1 i 4) (nI j) = 0
          · rw [if_pos q2]
          · rw [if_neg q2, if_pos q]
      · rw [if_neg c]
        have g : ¬ (kd_has σ i (σ.2.2.1 i 4) (nI j) = 0 ∨ σ.2.1 0 j = σ.2.2.1 i 0) := fun q => c (hzz.mpr q)
        rw [if_neg (fun q => g (Or.inl q)), if_neg (fun q => g (Or.inr q))]
theorem wants_0 {n e i p : Nat} {σ : kS} {τ : mS} (h : sm n e σ τ) (hv : iv n σ) (hn : n ≤ 8) (hi : i < n) (hp : p < 12) (ep : σ.2.2.1 i 4 = nI p) : mo_wants τ i = 0 ↔ kd_llp σ i 16 = none := by
  rw [llp_low h hv hn hi hp ep 16 (Nat.le_refl 16)]
  obtain ⟨w, hw, ew, -⟩ := wants_bits h hv hn hi hp ep
  rw [ew, ← nI_0, nI_eq (by omega) (by omega)]
  rcases lowp_bit hw (Nat.le_refl 16) with ⟨h1, h2⟩ | ⟨q, hq, h1, h2, h3⟩
  · rw [h1]
    refine ⟨fun _ => rfl, fun _ => ?_⟩
    apply Nat.eq_of_testBit_eq
    intro z
    rw [Nat.zero_testBit]
    by_cases c : z < 16
    · exact h2 z c
    · exact tb_hi hw c
  · rw [h1]
    refine ⟨fun q0 => ?_, fun q0 => by cases q0⟩
    rw [q0, Nat.zero_testBit] at h2
    cases h2
/-- a desk that may go on -/
theorem cond_0 {σ : kS} {i : Nat} (h : kd_cond σ i = 0) : σ.2.2.1 i 9 = 0 ∧ σ.2.2.1 i 8 = 0 ∧ σ.2.2.1 i 4 < σ.2.2.1 i 1 ∧ σ.2.2.1 i 6 = -1 := by
  unfold kd_cond at h
  by_cases h9 : σ.2.2.1 i 9 = 0
  · rw [if_pos h9] at h
    by_cases h8 : σ.2.2.1 i 8 = 0
    · rw [if_pos h8] at h
      by_cases h4 : σ.2.2.1 i 4 < σ.2.2.1 i 1
      · rw [if_pos h4] at h
        by_cases h6 : σ.2.2.1 i 6 = -1
        · exact ⟨h9, h8, h4, h6⟩
        · rw [if_neg h6] at h; exact absurd h (by decide)
      · rw [if_neg h4] at h; exact absurd h (by decide)
    · rw [if_neg h8] at h; exact absurd h (by decide)
  · rw [if_neg h9] at h; exact absurd h (by decide)
theorem sm_all {n e : Nat} {σ : kS} {τ : mS} (h : sm n e σ τ) (he : e < n → τ.2 6 e = kd_cond σ e ∧ τ.2 3 e = σ.2.2.1 e 3) (e' : Nat) : sm n e' σ τ := by
  obtain ⟨s1, s2, s3, s4⟩ := h
  refine ⟨s1, s2, fun i hi _ => ?_, s4⟩
  by_cases q : i = e
  · subst q; exact he hi
  · exact s3 i hi q
