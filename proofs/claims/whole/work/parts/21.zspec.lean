/-! the reference's public methods, by numbers -/
def mo_desk2 (n : Nat) (τ : mS) (x y : Int32) : Int32 × mS :=
  if τ.1 1 = 8 then (0, m_f τ 0 2)
  else if τ.1 20 = 0 then
    (let τ5 := m_f (m_a (m_a (m_a (m_f τ 0 0) 2 n x) 3 n y) 10 n (-1)) 1 ((m_a (m_a (m_a (m_f τ 0 0) 2 n x) 3 n y) 10 n (-1)).1 1 + 1)
    (τ5.1 1 - 1, τ5))
  else (0, m_f τ 0 2)
def mo_desk (n : Nat) (τ : mS) (x y : Int32) : Int32 × mS :=
  if mo_in x 1 12 = 0 then (0, m_f τ 0 1)
  else if y = -1 then mo_desk2 n τ x y
  else if mo_in y 0 (x - 1) = 0 then (0, m_f τ 0 1) else mo_desk2 n τ x y
def mo_turn (τ : mS) (x : Int32) : Int32 × mS :=
  if mo_isd τ x = 0 then (0, m_f τ 0 1)
  else if τ.1 14 = 300 then (0, m_f τ 0 2)
  else if τ.1 20 = 0 then
    (let τ3 := m_f (m_a (m_f τ 0 0) 13 ((m_f τ 0 0).1 14).toNatClampNeg x) 14 ((m_a (m_f τ 0 0) 13 ((m_f τ 0 0).1 14).toNatClampNeg x).1 14 + 1)
    (τ3.1 14 - τ3.1 15, τ3))
  else (0, m_f τ 0 2)
def mo_run (n : Nat) (τ : mS) (k : Nat) : Int32 × mS :=
  if τ.1 20 = 0 then mo_runp n (m_f τ 0 0) k else (0, m_f τ 0 1)
def mo_log (τ : mS) (x : Int32) : Int32 := if x < 0 then -1 else if τ.1 17 ≤ x then -1 else τ.2 18 x.toNatClampNeg
def mo_dead (τ : mS) (i : Nat) : Int32 × mS :=
  if (m_f τ 0 0).2 6 i ≤ 1 then (mo_onesp (mo_held (m_a (m_a (m_f τ 0 0) 6 i 3) 10 i (-1)) (nI i)) 16, m_a (m_a (m_f τ 0 0) 6 i 3) 10 i (-1))
  else (-1, m_f τ 0 0)
def mo_tick (n : Nat) (τ : mS) (x : Int32) : Int32 × mS := mo_tickp n (m_f (m_f τ 0 0) 19 x) 16
def mo_close (n : Nat) (τ : mS) : Int32 × mS :=
  if (m_f τ 0 0).1 20 = 0 then mo_closep n (m_f (m_f τ 0 0) 20 1) n else (-1, m_f τ 0 0)
def mo_look (τ : mS) (i : Nat) (y : Int32) : Int32 :=
  if y = 0 then τ.2 4 i else if y = 1 then τ.2 5 i else if y = 2 then τ.2 6 i else if y = 3 then mo_held τ (nI i) else τ.2 10 i
def mo_count (τ : mS) (x : Int32) : Int32 :=
  if x = 0 then τ.1 1 else if x = 1 then τ.1 17 else if x = 2 then τ.1 14 else if x = 3 then τ.1 16 else if x = 4 then τ.1 19 else if x = 5 then (if τ.1 20 = 0 then 0 else 1) else if x = 6 then mo_cntp (τ.2 8) 16 else -1
def mo_needs (n : Nat) (τ : mS) (i : Nat) (y z : Int32) : Int32 × mS :=
  if kd_sub z = 0 then (0, m_f τ 0 0)
  else if mo_in y 0 ((m_f τ 0 0).2 2 i - 1) = 0 then (0, m_f τ 0 0)
  else if (m_f τ 0 0).1 20 = 0 then
    (if ((m_f τ 0 0).2 7 (12 * nI i + y).toNatClampNeg >>> (z &&& 31)) &&& 1 = 1 then (0, m_f τ 0 0)
    else if y < (m_f τ 0 0).2 4 i then (0, m_f τ 0 0)
    else if y = (m_f τ 0 0).2 4 i then (if mo_midst (m_f τ 0 0) i = 0 then (1, m_a (m_f τ 0 0) 7 (12 * nI i + y).toNatClampNeg ((m_f τ 0 0).2 7 (12 * nI i + y).toNatClampNeg ||| ((1 : Int32) <<< (z &&& 31)))) else (0, m_f τ 0 0))
    else (1, m_a (m_f τ 0 0) 7 (12 * nI i + y).toNatClampNeg ((m_f τ 0 0).2 7 (12 * nI i + y).toNatClampNeg ||| ((1 : Int32) <<< (z &&& 31)))))
  else (0, m_f τ 0 0)
/-- what a step of a desk needs: its present act is one of twelve, what it wants is among the sixteen -/
def so_ok (τ : mS) (i : Nat) : Prop := (∃ p, p < 12 ∧ τ.2 4 i = nI p) ∧ (mo_wants τ i ≠ 0 → ∃ q, q < 16 ∧ mo_lowp (mo_wants τ i) 16 = some q)
theorem lowp_is {w : Int32} {j q : Nat} (h : mo_lowp w j = some q) : q < j ∧ ¬ (w >>> (nI q &&& 31)) &&& 1 = 0 ∧ ∀ z, z < q → (w >>> (nI z &&& 31)) &&& 1 = 0 := by
  have hn : ∀ j, mo_lowp w j = none → ∀ z, z < j → (w >>> (nI z &&& 31)) &&& 1 = 0 := by
    intro j
    induction j with
    | zero => exact fun _ z hz => absurd hz (by omega)
    | succ j ih =>
      intro h z hz
      unfold mo_lowp at h
      cases hm : mo_lowp w j with
      | some k => rw [hm] at h; cases h
      | none =>
        rw [hm] at h
        dsimp only at h
        by_cases c : (w >>> (nI j &&& 31)) &&& 1 = 0
        · by_cases e : z = j
          · subst e; exact c
          · exact ih hm z (by omega)
        · rw [if_neg c] at h; cases h
  induction j with
  | zero => cases h
  | succ j ih =>
    unfold mo_lowp at h
    cases hm : mo_lowp w j with
    | some k =>
      rw [hm] at h
      cases h
      obtain ⟨a, b⟩ := ih hm
      exact ⟨by omega, b⟩
    | none =>
      rw [hm] at h
      dsimp only at h
      by_cases c : (w >>> (nI j &&& 31)) &&& 1 = 0
      · rw [if_pos c] at h; cases h
      · rw [if_neg c] at h
        cases h
        exact ⟨by omega, c, hn _ hm⟩
theorem m_n96 {n i p : Nat} {f : Nat → Int32} {x : Int32} (hI : m_ok n f) (hi : i < n) (hp : p < 12) (ep : x = nI p) : ¬ (12 * nI i + x) < 0 ∧ (12 * nI i + x).toNatClampNeg < 96 := by
  have := hI.1
  rw [ep, show (12 : Int32) = nI 12 from rfl, pk_mul, nI_add]
  exact ⟨nI_pos (by omega), by rw [nI_clamp (by omega)]; omega⟩
theorem m_ok_t0 {n : Nat} {f : Nat → Int32} (hI : m_ok n f) : ¬ f 14 < 0 := by
  obtain ⟨t, r, h1, h2, h3, h4⟩ := hI.2.2.2
  rw [h3]; exact nI_pos (by omega)
theorem m_ok_t3 {n : Nat} {f : Nat → Int32} (hI : m_ok n f) (c : ¬ f 14 = 300) : (f 14).toNatClampNeg < 300 := by
  obtain ⟨t, r, h1, h2, h3, h4⟩ := hI.2.2.2
  rw [h3, nI_clamp (by omega)]
  rcases Nat.lt_or_ge t 300 with q | q
  · exact q
  · exact absurd (by rw [h3, show t = 300 by omega]; rfl) c
theorem m_n8 {n : Nat} {f : Nat → Int32} (hI : m_ok n f) (c : ¬ f 1 = 8) : n < 8 := by
  have h := hI.1
  rcases Nat.lt_or_ge n 8 with q | q
  · exact q
  · exact absurd (by rw [hI.2.1, show n = 8 by omega]; rfl) c
theorem mo_isd_some {n : Nat} {τ : mS} {x : Int32} (hI : m_ok n τ.1) (c : ¬ mo_isd τ x = 0) : ∃ i, i < n ∧ x = nI i := by
  unfold mo_isd at c
  by_cases h0 : x < 0
  · rw [if_pos h0] at c; exact absurd rfl c
  · rw [if_neg h0] at c
    by_cases h1 : τ.1 1 ≤ x
    · rw [if_pos h1] at c; exact absurd rfl c
    · rw [hI.2.1] at h1
      exact ⟨x.toNatClampNeg, ix_l h0 h1 (by have := hI.1; omega), ix_e h0⟩
theorem m_ok_log {n : Nat} {f : Nat → Int32} {x : Int32} (hI : m_ok n f) (h0 : ¬ x < 0) (h : ¬ f 17 ≤ x) : x.toNatClampNeg < 400 := by
  obtain ⟨e, he, h2⟩ := hI.2.2.1
  rw [h2] at h
  have := ix_l h0 h (by omega)
  omega
def mo_inti (n : Nat) (τ : mS) (i : Nat) : Int32 × mS :=
  if (m_f τ 0 0).2 6 i = 1 then (1, mo_goes (mo_ga n (mo_write (m_a (m_f τ 0 0) 10 i (-1)) 3 i) i) i) else (0, m_f τ 0 0)
def mo_wt (τ : mS) (n z : Nat) (y : Int32) : Int32 := match mo_wtp (m_f τ 0 0) n (nI z) y n with
  | some j => nI j
  | none => -1
theorem mo_wt_n {τ : mS} {n z : Nat} {y : Int32} (h : mo_wtp (m_f τ 0 0) n (nI z) y n = none) : (-1 : Int32) = mo_wt τ n z y := by unfold mo_wt; rw [h]
theorem mo_wt_s {τ : mS} {n z j : Nat} {y : Int32} (h : mo_wtp (m_f τ 0 0) n (nI z) y n = some j) : nI j = mo_wt τ n z y := by unfold mo_wt; rw [h]
theorem mo_wtp_up {τ : mS} {n m i : Nat} {x y : Int32} {M : Nat} (h : mo_wtp τ n x y m = some i) (hm : m ≤ M) : mo_wtp τ n x y M = some i := by
  induction M with
  | zero => rw [show m = 0 by omega] at h; exact h
  | succ M ih =>
    by_cases e : m = M + 1
    · rw [← e]; exact h
    · unfold mo_wtp
      rw [ih (by omega)]
theorem mo_isd_nI {n i : Nat} {τ : mS} (hI : m_ok n τ.1) (hi : i < n) : mo_isd τ (nI i) = 1 := by
  have := hI.1
  unfold mo_isd
  rw [if_neg (nI_pos (by omega)), hI.2.1, if_neg (nI_ge hi (by omega))]
theorem mo_tickp_1 (n : Nat) (τ : mS) (j : Nat) : (mo_tickp n τ j).2.1 = τ.1 := by
  induction j with
  | zero => rfl
  | succ j ih =>
    unfold mo_tickp
    split
    · exact ih
    · dsimp only
      rw [mo_gb_1, ih]
theorem h8_ix {n : Nat} {f : Nat → Int32} {x : Int32} (hI : m_ok n f) (h0 : ¬ x < 0) (h : x = -1 ∨ ∃ d, d < n ∧ x = nI d) : x.toNatClampNeg < 8 := by
  have := hI.1
  rcases h with h | ⟨d, hd, h⟩
  · exact absurd (by rw [h]; decide) h0
  · rw [h, nI_clamp (by omega)]; omega
theorem m_ok_end {n i : Nat} {τ : mS} (hI : m_ok n τ.1) : m_ok n (mo_end n τ i).1 := by
  unfold mo_end
  split
  · rw [mo_ga_1]; exact hI
  · rw [mo_ga_1]; exact m_ok_write hI
theorem m_ok_closep {n : Nat} {τ : mS} (hI : m_ok n τ.1) (j : Nat) : m_ok n (mo_closep n τ j).2.1 := by
  induction j with
  | zero => exact hI
  | succ j ih =>
    unfold mo_closep
    split
    · exact ih
    · exact m_ok_end ih
theorem mo_in_ix {x a : Int32} {b : Nat} (c : ¬ mo_in x 0 (nI b - 1) = 0) (h1 : 1 ≤ b) (h2 : b ≤ 12) : ∃ p, p < 12 ∧ x = nI p := by
  unfold mo_in at c
  by_cases h0 : x < 0
  · rw [if_pos h0] at c; exact absurd rfl c
  · rw [if_neg h0] at c
    by_cases h3 : nI b - 1 < x
    · rw [if_pos h3] at c; exact absurd rfl c
    · obtain ⟨j, hj, rfl⟩ := nI_of h0
      refine ⟨j, ?_, rfl⟩
      rw [show nI b - 1 = nI (b - 1) by rw [show b = (b - 1) + 1 by omega, nI_pred]; rfl] at h3
      rcases Nat.lt_or_ge (b - 1) j with q | q
      · exact absurd (nI_lt q hj) h3
      · omega
