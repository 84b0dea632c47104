/-! bits of small numbers -/
theorem qb_or (a b : Nat) : nI a ||| nI b = nI (a ||| b) := by
  apply Int32.toBitVec_inj.1
  show BitVec.ofNat 32 a ||| BitVec.ofNat 32 b = BitVec.ofNat 32 (a ||| b)
  apply BitVec.eq_of_getLsbD_eq
  intro i hi
  simp [hi]
theorem qb_and (a b : Nat) : nI a &&& nI b = nI (a &&& b) := by
  apply Int32.toBitVec_inj.1
  show BitVec.ofNat 32 a &&& BitVec.ofNat 32 b = BitVec.ofNat 32 (a &&& b)
  apply BitVec.eq_of_getLsbD_eq
  intro i hi
  simp [hi]
theorem qb_sm : ∀ j, j < 32 → ((nI j &&& 31).toBitVec.smod 32).toNat = j := by decide +kernel
theorem qb_shl {j : Nat} (hj : j < 16) : (1 : Int32) <<< (nI j &&& 31) = nI (2 ^ j) := by
  have h : 2 ^ j < 2 ^ 16 := Nat.pow_lt_pow_right (by decide) hj
  have e := pk_shlN (n := 1) (nI j &&& 31) j (qb_sm j (by omega)) (by omega)
  rw [Nat.one_mul] at e
  exact e
/-- bit j of a small number -/
theorem qb_bit {k j : Nat} (hk : k < 65536) (hj : j < 16) : (nI k >>> (nI j &&& 31)) &&& 1 = nI (k / 2 ^ j % 2) := by
  rw [pk_shrN (by omega) (nI j &&& 31) j (qb_sm j (by omega))]
  exact pk_andN (n := k / 2 ^ j) (Nat.lt_of_le_of_lt (Nat.div_le_self _ _) (by omega)) 1 rfl
theorem qb_bit0 {k j : Nat} (hk : k < 65536) (hj : j < 16) : (nI k >>> (nI j &&& 31)) &&& 1 = 0 ↔ k.testBit j = false := by
  rw [qb_bit hk hj, ← nI_0, nI_eq (by omega) (by omega), Nat.testBit_eq_decide_div_mod_eq, decide_eq_false_iff_not]
  omega
theorem qb_bit1 {k j : Nat} (hk : k < 65536) (hj : j < 16) : (nI k >>> (nI j &&& 31)) &&& 1 = 1 ↔ k.testBit j = true := by
  rw [qb_bit hk hj, show (1 : Int32) = nI 1 from rfl, nI_eq (by omega) (by omega), Nat.testBit_eq_decide_div_mod_eq, decide_eq_true_iff]
/-- who holds what, as bits -/
def hbt (h : Nat → Int32) (d : Int32) : Nat → Nat
  | 0 => 0
  | j + 1 => if h j = d then hbt h d j ||| 2 ^ j else hbt h d j
theorem hbt_lt (h : Nat → Int32) (d : Int32) (j : Nat) : hbt h d j < 2 ^ j := by
  induction j with
  | zero => exact Nat.zero_lt_one
  | succ j ih =>
    unfold hbt
    have h2 : 2 ^ (j + 1) = 2 ^ j + 2 ^ j := by rw [Nat.pow_succ]; omega
    split
    · exact Nat.or_lt_two_pow (by omega) (by have := Nat.two_pow_pos j; omega)
    · omega
theorem hbt_bit (h : Nat → Int32) (d : Int32) (j z : Nat) : (hbt h d j).testBit z = (decide (z < j) && decide (h z = d)) := by
  induction j with
  | zero => simp [hbt]
  | succ j ih =>
    unfold hbt
    by_cases hz : z = j
    · subst hz
      split
      · rename_i e
        simp [Nat.testBit_or, e, Nat.testBit_two_pow_self]
      · rename_i e
        simp [ih, e]
    · have e1 : decide (z < j + 1) = decide (z < j) := by simp; omega
      split
      · rw [Nat.testBit_or, ih, Nat.testBit_two_pow_of_ne (Ne.symm hz), Bool.or_false, e1]
      · rw [ih, e1]
theorem kd_heldp_hbt (h : Nat → Int32) (d : Int32) {j : Nat} (hj : j ≤ 16) : kd_heldp h d j = nI (hbt h d j) := by
  induction j with
  | zero => rfl
  | succ j ih =>
    unfold kd_heldp hbt
    rw [ih (by omega)]
    split
    · rw [qb_shl (by omega), qb_or]
    · rfl
theorem mo_heldp_hbt (h : Nat → Int32) (d : Int32) {j : Nat} (hj : j ≤ 16) : mo_heldp h d j = nI (hbt h d j) := by
  induction j with
  | zero => rfl
  | succ j ih =>
    unfold mo_heldp hbt
    rw [ih (by omega)]
    split
    · rw [qb_shl (by omega), qb_or]
    · rw [show (0 : Int32) = nI 0 from rfl, qb_or, Nat.or_zero]
theorem hbt_congr {h h' : Nat → Int32} {d : Int32} {j : Nat} (e : ∀ z, z < j → h z = h' z) : hbt h d j = hbt h' d j := by
  induction j with
  | zero => rfl
  | succ j ih =>
    unfold hbt
    rw [ih (fun z hz => e z (by omega)), e j (by omega)]
/-! the two states tell the same; e: a desk whose state and failing act aren't spoken of -/
def sm (n e : Nat) (σ : kS) (τ : mS) : Prop :=
  (∀ i, i < n → σ.2.2.1 i 0 = nI i) ∧
  (∀ i, i < n → τ.2 2 i = σ.2.2.1 i 1 ∧ τ.2 4 i = σ.2.2.1 i 4 ∧ τ.2 5 i = σ.2.2.1 i 5 ∧ τ.2 10 i = σ.2.2.1 i 6 ∧ τ.2 11 i = σ.2.2.1 i 7) ∧
  (∀ i, i < n → i ≠ e → τ.2 6 i = kd_cond σ i ∧ τ.2 3 i = σ.2.2.1 i 3) ∧
  (∀ i, i < n → ∀ j, j < 12 → τ.2 7 (12 * i + j) = σ.2.2.2 i j) ∧
  (∀ z, z < 16 → τ.2 8 z = σ.2.1 0 z) ∧ (∀ z, z < 16 → σ.2.1 0 z ≠ -1 → τ.2 9 z = σ.2.1 1 z) ∧
  (τ.1 12 = σ.1 4 ∧ τ.1 14 = σ.1 6 ∧ τ.1 16 = σ.1 8 ∧ τ.1 17 = σ.1 10 ∧ τ.1 19 = σ.1 11 ∧ τ.1 20 = σ.1 12) ∧
  (∀ j, j < 300 → τ.2 13 j = σ.2.1 2 j) ∧ (∀ j, j < 400 → τ.2 18 j = σ.2.1 3 j)
/-- what the system's own state keeps -/
def iv (n : Nat) (σ : kS) : Prop :=
  (∀ i, i < n → ∃ a p, 1 ≤ a ∧ a ≤ 12 ∧ p ≤ a ∧ σ.2.2.1 i 1 = nI a ∧ σ.2.2.1 i 4 = nI p) ∧
  (∀ z, z < 16 → σ.2.1 0 z = -1 ∨ ∃ i, i < n ∧ σ.2.1 0 z = nI i) ∧
  (∀ i, i < n → σ.2.2.1 i 6 = -1 ∨ ((∃ z, z < 16 ∧ σ.2.2.1 i 6 = nI z) ∧ σ.2.2.1 i 8 = 0 ∧ σ.2.2.1 i 9 = 0 ∧ σ.2.2.1 i 4 < σ.2.2.1 i 1)) ∧
  (∀ i, i < n → ∀ j, j < 12 → ∃ b, b < 65536 ∧ σ.2.2.2 i j = nI b)
theorem nI_m1 {i : Nat} (h : i < 2 ^ 31) : nI i ≠ -1 := by
  intro e
  have h1 : (nI i).toInt = i := nI_toInt h
  rw [e] at h1
  have h2 : (-1 : Int32).toInt = -1 := by decide
  omega
/-- the waiters ahead of one -/
theorem sm_wap {n e : Nat} {σ : kS} {τ : mS} (h : sm n e σ τ) {i : Nat} (hi : i < n) {j : Nat} (hj : j ≤ n) : kd_wap σ i j = mo_ahp τ (σ.2.2.1 i 6) i j := by
  induction j with
  | zero => rfl
  | succ j ih =>
    unfold kd_wap mo_ahp
    obtain ⟨-, -, -, q1, q2⟩ := h.2.1 j (by omega)
    obtain ⟨-, -, -, r1, r2⟩ := h.2.1 i hi
    rw [ih (by omega), q1, q2, r2]
    split
    · split
      · rw [Int32.add_zero]
      · rfl
    · rw [Int32.add_zero]
theorem sm_wtp {n e : Nat} {σ : kS} {τ : mS} (h : sm n e σ τ) (x y : Int32) {j : Nat} (hj : j ≤ n) : kd_wfp σ n x y j = mo_wtp τ n x y j := by
  induction j with
  | zero => rfl
  | succ j ih =>
    unfold kd_wfp mo_wtp
    obtain ⟨-, -, -, q1, q2⟩ := h.2.1 j (by omega)
    rw [ih (by omega), q1]
    split
    · rfl
    · split
      · rename_i e1
        rw [sm_wap h (by omega) (Nat.le_refl n), e1]
      · rfl
