/-! what a write leaves -/
theorem ka_1 (σ : kS) (a j : Nat) (v : Int32) : (k_a σ a j v).1 = σ.1 := rfl
theorem ka_3 (σ : kS) (a j : Nat) (v : Int32) : (k_a σ a j v).2.2 = σ.2.2 := rfl
theorem ka_2 (σ : kS) (a j b k : Nat) (v : Int32) : (k_a σ a j v).2.1 b k = if b = a then (if k = j then v else σ.2.1 b k) else σ.2.1 b k := by
  unfold k_a va_up upd
  by_cases h : b = a
  · subst h; simp
  · simp [h]
theorem kd_1 (σ : kS) (i f : Nat) (v : Int32) : (k_d σ i f v).1 = σ.1 := rfl
theorem kd_2 (σ : kS) (i f : Nat) (v : Int32) : (k_d σ i f v).2.1 = σ.2.1 := rfl
theorem kd_4 (σ : kS) (i f : Nat) (v : Int32) : (k_d σ i f v).2.2.2 = σ.2.2.2 := rfl
theorem kd_3 (σ : kS) (i f k g : Nat) (v : Int32) : (k_d σ i f v).2.2.1 k g = if k = i then (if g = f then v else σ.2.2.1 k g) else σ.2.2.1 k g := by
  unfold k_d va_up
  by_cases h : k = i
  · subst h; simp
  · simp [h]
theorem kf_1 (σ : kS) (f k : Nat) (v : Int32) : (k_f σ f v).1 k = if k = f then v else σ.1 k := rfl
theorem kf_2 (σ : kS) (f : Nat) (v : Int32) : (k_f σ f v).2 = σ.2 := rfl
theorem ma_1 (τ : mS) (a j : Nat) (v : Int32) : (m_a τ a j v).1 = τ.1 := rfl
theorem ma_2 (τ : mS) (a j b k : Nat) (v : Int32) : (m_a τ a j v).2 b k = if b = a then (if k = j then v else τ.2 b k) else τ.2 b k := by
  unfold m_a va_up upd
  by_cases h : b = a
  · subst h; simp
  · simp [h]
theorem mf_1 (τ : mS) (f k : Nat) (v : Int32) : (m_f τ f v).1 k = if k = f then v else τ.1 k := rfl
theorem mf_2 (τ : mS) (f : Nat) (v : Int32) : (m_f τ f v).2 = τ.2 := rfl
theorem kt_1 (σ : kS) (i z : Nat) : (kd_take σ i z).1 = σ.1 := rfl
theorem kt_4 (σ : kS) (i z : Nat) : (kd_take σ i z).2.2.2 = σ.2.2.2 := rfl
theorem kt_3 (σ : kS) (i z k g : Nat) : (kd_take σ i z).2.2.1 k g = if k = i then (if g = 6 then -1 else σ.2.2.1 k g) else σ.2.2.1 k g := by
  unfold kd_take
  simp only [ka_3, kd_3]
theorem kt_2 (σ : kS) (i z b k : Nat) : (kd_take σ i z).2.1 b k = if b = 1 then (if k = z then σ.1 11 else σ.2.1 b k) else if b = 0 then (if k = z then σ.2.2.1 i 0 else σ.2.1 b k) else σ.2.1 b k := by
  unfold kd_take
  simp only [ka_2, ka_1, kd_1, kd_2, kd_3, if_true]
  by_cases h1 : b = 1
  · subst h1; simp
  · simp [h1]
/-! numbers of the walks -/
def kd_ll (σ : kS) (i : Nat) : Int32 := match kd_llp σ i 16 with
  | some j => nI j
  | none => -1
/-- what every state keeps: so many desks, entries, turns -/
def k_ok (n : Nat) (f : Nat → Int32) : Prop := n ≤ 8 ∧ f 1 = nI n ∧ (∃ e, e ≤ 400 ∧ f 10 = nI e) ∧ (∃ t r, r ≤ t ∧ t ≤ 300 ∧ f 6 = nI t ∧ f 7 = nI r)
theorem ix_e {x : Int32} (h : ¬ x < 0) : x = nI x.toNatClampNeg := by
  obtain ⟨j, hj, rfl⟩ := nI_of h
  rw [nI_clamp hj]
theorem ix_l {x : Int32} {B : Nat} (h0 : ¬ x < 0) (h : ¬ nI B ≤ x) (hB : B < 2 ^ 31 := by decide) : x.toNatClampNeg < B := by
  obtain ⟨j, hj, rfl⟩ := nI_of h0
  rw [nI_clamp hj]
  rcases Nat.lt_or_ge j B with q | q
  · exact q
  · exact absurd (nI_le q hj) h
theorem ix_ln {n : Nat} {f : Nat → Int32} {x : Int32} (hI : k_ok n f) (h0 : ¬ x < 0) (h : ¬ f 1 ≤ x) : x.toNatClampNeg < n := by
  rw [hI.2.1] at h
  exact ix_l h0 h (by have := hI.1; omega)
theorem kd_at_none {n : Nat} {f : Nat → Int32} {x : Int32} (hI : k_ok n f) (h : x < 0 ∨ f 1 ≤ x ∨ (8 : Int32) ≤ x) : kd_at n x = none := by
  unfold kd_at
  by_cases h0 : x < 0
  · rw [if_pos h0]
  · rw [if_neg h0, if_pos]
    rcases h with h | h | h
    · exact absurd h h0
    · rw [hI.2.1] at h; exact h
    · obtain ⟨j, hj, rfl⟩ := nI_of h0
      have h8 : nI 8 ≤ nI j := h
      have := (nI_leI (by decide) hj).mp h8
      exact nI_le (by have := hI.1; omega) hj
theorem kd_at_some {n : Nat} {f : Nat → Int32} {x : Int32} (hI : k_ok n f) (h0 : ¬ x < 0) (h : ¬ f 1 ≤ x) : kd_at n x = some x.toNatClampNeg := by
  rw [hI.2.1] at h
  unfold kd_at
  rw [if_neg h0, if_neg h]
theorem kd_at_lt {n i : Nat} {f : Nat → Int32} {x : Int32} (hI : k_ok n f) (h : kd_at n x = some i) : i < n := by
  unfold kd_at at h
  by_cases h0 : x < 0
  · rw [if_pos h0] at h; cases h
  · rw [if_neg h0] at h
    by_cases h1 : nI n ≤ x
    · rw [if_pos h1] at h; cases h
    · rw [if_neg h1] at h
      cases h
      exact ix_l h0 h1 (by have := hI.1; omega)
theorem kd_at_eq {n i : Nat} {x : Int32} (h : kd_at n x = some i) : x = nI i := by
  unfold kd_at at h
  by_cases h0 : x < 0
  · rw [if_pos h0] at h; cases h
  · rw [if_neg h0] at h
    by_cases h1 : nI n ≤ x
    · rw [if_pos h1] at h; cases h
    · rw [if_neg h1] at h
      cases h
      exact ix_e h0
theorem kd_wfp_lt {σ : kS} {n m i : Nat} {x y : Int32} (h : kd_wfp σ n x y m = some i) : i < m := by
  induction m with
  | zero => cases h
  | succ m ih =>
    unfold kd_wfp at h
    cases hm : kd_wfp σ n x y m with
    | some k => rw [hm] at h; cases h; have := ih hm; omega
    | none =>
      rw [hm] at h
      dsimp only at h
      split at h
      · split at h
        · cases h; omega
        · cases h
      · cases h
theorem kd_wfp_up {σ : kS} {n m i : Nat} {x y : Int32} {M : Nat} (h : kd_wfp σ n x y m = some i) (hm : m ≤ M) : kd_wfp σ n x y M = some i := by
  induction M with
  | zero => rw [show m = 0 by omega] at h; exact h
  | succ M ih =>
    by_cases e : m = M + 1
    · rw [← e]; exact h
    · unfold kd_wfp
      rw [ih (by omega)]
theorem kd_llp_up {σ : kS} {i m k M : Nat} (h : kd_llp σ i m = some k) (hm : m ≤ M) : kd_llp σ i M = some k := by
  induction M with
  | zero => rw [show m = 0 by omega] at h; exact h
  | succ M ih =>
    by_cases e : m = M + 1
    · rw [← e]; exact h
    · unfold kd_llp
      rw [ih (by omega)]
theorem kd_llp_lt {σ : kS} {i m k : Nat} (h : kd_llp σ i m = some k) : k < m := by
  induction m with
  | zero => cases h
  | succ m ih =>
    unfold kd_llp at h
    cases hm : kd_llp σ i m with
    | some q => rw [hm] at h; cases h; have := ih hm; omega
    | none =>
      rw [hm] at h
      dsimp only at h
      split at h
      · cases h
      · split at h
        · cases h
        · cases h; omega
theorem kd_ll_n {σ : kS} {i : Nat} (h : kd_llp σ i 16 = none) : (-1 : Int32) = kd_ll σ i := by unfold kd_ll; rw [h]
theorem kd_ll_s {σ : kS} {i j : Nat} (h : kd_llp σ i 16 = some j) : nI j = kd_ll σ i := by unfold kd_ll; rw [h]
theorem kd_sub_nI {z : Nat} (h : z < 16) : kd_sub (nI z) = 1 := by
  unfold kd_sub
  rw [if_neg (nI_pos (by omega)), if_neg (show ¬ (16 : Int32) ≤ nI z from nI_ge (b := 16) h (by decide))]
theorem kd_ll_some {σ : kS} {i : Nat} (c : ¬ kd_sub (kd_ll σ i) = 0) : ∃ z, z < 16 ∧ kd_ll σ i = nI z ∧ kd_llp σ i 16 = some z := by
  cases h : kd_llp σ i 16 with
  | some z => exact ⟨z, kd_llp_lt h, by unfold kd_ll; rw [h], rfl⟩
  | none => exact absurd (show kd_sub (kd_ll σ i) = 0 by unfold kd_ll; rw [h]; decide) c
theorem kd_ll_none {σ : kS} {i : Nat} (c : kd_sub (kd_ll σ i) = 0) : kd_llp σ i 16 = none := by
  cases h : kd_llp σ i 16 with
  | none => rfl
  | some z =>
    have e : kd_ll σ i = nI z := by unfold kd_ll; rw [h]
    rw [e, kd_sub_nI (kd_llp_lt h)] at c
    exact absurd c (by decide)
theorem lp_lt {B j : Nat} (hn : B < 2 ^ 31) (c : ¬ nI B ≤ nI j) (h : j ≤ B) : j < B := by
  rcases Nat.lt_or_ge j B with q | q
  · exact q
  · exact absurd (nI_le q (by omega)) c
theorem lp_eq {B j : Nat} (hn : B < 2 ^ 31) (c : nI B ≤ nI j) (h : j ≤ B) : j = B := by
  have := (nI_leI hn (by omega)).mp c
  omega
theorem lp_ltI {n j : Nat} {f : Nat → Int32} (hI : k_ok n f) (c : ¬ f 1 ≤ nI j) (h : j ≤ n) : j < n := by
  rw [hI.2.1] at c
  exact lp_lt (by have := hI.1; omega) c h
theorem lp_eqI {n j : Nat} {f : Nat → Int32} (hI : k_ok n f) (c : f 1 ≤ nI j) (h : j ≤ n) : j = n := by
  rw [hI.2.1] at c
  exact lp_eq (by have := hI.1; omega) c h
theorem lp_8 {n j : Nat} {f : Nat → Int32} (hI : k_ok n f) (h : j < n) : ¬ (8 : Int32) ≤ nI j := nI_ge (b := 8) (by have := hI.1; omega) (by decide)
theorem k_ok_e0 {n : Nat} {f : Nat → Int32} (hI : k_ok n f) : ¬ f 10 < 0 := by
  obtain ⟨e, he, h⟩ := hI.2.2.1
  rw [h]
  exact nI_pos (by omega)
theorem k_ok_f {n k : Nat} {σ : kS} {v : Int32} (hI : k_ok n σ.1) (hk : k ≠ 1 ∧ k ≠ 6 ∧ k ≠ 7 ∧ k ≠ 10) : k_ok n (k_f σ k v).1 := by
  obtain ⟨h1, h2, h3, h4⟩ := hI
  have e : ∀ q, q ≠ k → (k_f σ k v).1 q = σ.1 q := fun q hq => va_up_ne _ _ hq
  refine ⟨h1, ?_, ?_, ?_⟩
  · rw [e 1 (Ne.symm hk.1)]; exact h2
  · rw [e 10 (Ne.symm hk.2.2.2)]; exact h3
  · rw [e 6 (Ne.symm hk.2.1), e 7 (Ne.symm hk.2.2.1)]; exact h4
theorem kd_gb_1 (n : Nat) (σ : kS) (z : Nat) : (kd_gb n σ z).1 = σ.1 := by
  unfold kd_gb
  dsimp only
  split <;> rfl
theorem kd_gba_1 (n : Nat) (σ : kS) (i j : Nat) : (kd_gba n σ i j).1 = σ.1 := by
  induction j with
  | zero => rfl
  | succ j ih =>
    unfold kd_gba
    split
    · rw [kd_gb_1, ih]
    · exact ih
theorem k_ok_ask {n i z : Nat} {σ : kS} (hI : k_ok n σ.1) : k_ok n (kd_ask σ i z).1 := by
  unfold kd_ask
  split
  · exact hI
  · exact k_ok_f (σ := k_d (k_d σ i 6 (nI z)) i 7 (σ.1 4)) hI (by decide)
theorem k_ok_tell {n i : Nat} {σ : kS} {w : Int32} (hI : k_ok n σ.1) : k_ok n (kd_tell σ w i).1 := by
  unfold kd_tell
  split
  · exact hI
  · rename_i h
    obtain ⟨h1, h2, ⟨e, he, h3⟩, h4⟩ := hI
    refine ⟨h1, h2, ⟨e + 1, ?_, ?_⟩, h4⟩
    · rcases Nat.lt_or_ge e 400 with q | q
      · exact q
      · exact absurd (show (400 : Int32) ≤ σ.1 10 by rw [h3]; exact nI_le (a := 400) q (by omega)) h
    · show σ.1 10 + 1 = nI (e + 1)
      rw [h3, nI_1]
theorem k_ok_do {n i : Nat} {σ : kS} (hI : k_ok n σ.1) : k_ok n (kd_do n σ i).2.1 := by
  unfold kd_do
  split
  · dsimp only
    rw [kd_1, kd_gba_1]; exact k_ok_tell hI
  · dsimp only
    rw [kd_1, kd_1, kd_gba_1]; exact k_ok_tell hI
theorem k_ok_turn {n i : Nat} {σ : kS} (hI : k_ok n σ.1) : k_ok n (kd_turn n σ i).2.1 := by
  unfold kd_turn
  split
  · split
    · exact k_ok_ask hI
    · exact k_ok_do hI
  · exact k_ok_f hI (by decide)
theorem k_ok_end {n i : Nat} {σ : kS} (hI : k_ok n σ.1) : k_ok n (kd_end n σ i).1 := by
  unfold kd_end
  split
  · rw [kd_gba_1]; exact hI
  · refine k_ok_tell ?_
    rw [kd_gba_1]; exact hI
theorem kd_do_01 (n : Nat) (σ : kS) (i : Nat) : (kd_do n σ i).1 = 0 ∨ (kd_do n σ i).1 = 1 := by
  unfold kd_do
  split
  · exact Or.inl rfl
  · exact Or.inr rfl
theorem kd_turn_01 (n : Nat) (σ : kS) (i : Nat) : (kd_turn n σ i).1 = 0 ∨ (kd_turn n σ i).1 = 1 := by
  unfold kd_turn
  split
  · split
    · exact Or.inl rfl
    · exact kd_do_01 n σ i
  · exact Or.inl rfl
/-! numbers of the reference's walks -/
def m_ok (n : Nat) (f : Nat → Int32) : Prop := n ≤ 8 ∧ f 1 = nI n ∧ (∃ e, e ≤ 400 ∧ f 17 = nI e) ∧ (∃ t r, r ≤ t ∧ t ≤ 300 ∧ f 14 = nI t ∧ f 15 = nI r)
theorem m8 {n i : Nat} {f : Nat → Int32} (hI : m_ok n f) (hi : i < n) : i < 8 := Nat.lt_of_lt_of_le hi hI.1
theorem mp_ltI {n j : Nat} {f : Nat → Int32} (hI : m_ok n f) (c : ¬ f 1 ≤ nI j) (h : j ≤ n) : j < n := by
  rw [hI.2.1] at c
  exact lp_lt (by have := hI.1; omega) c h
theorem mp_eqI {n j : Nat} {f : Nat → Int32} (hI : m_ok n f) (c : f 1 ≤ nI j) (h : j ≤ n) : j = n := by
  rw [hI.2.1] at c
  exact lp_eq (by have := hI.1; omega) c h
theorem i_ge {x : Int32} (h : ¬ x < 0) : 0 ≤ x := by
  obtain ⟨j, hj, rfl⟩ := nI_of h
  exact nI_pos' hj
theorem i_lt {x : Int32} (h : ¬ 0 ≤ x) : x < 0 := by
  by_cases q : x < 0
  · exact q
  · exact absurd (i_ge q) h
theorem i_nl {x : Int32} (h : 0 ≤ x) : ¬ x < 0 := by
  intro q
  have h1 := Int32.le_iff_toInt_le.mp h
  have h2 := Int32.lt_iff_toInt_lt.mp q
  omega
theorem m_ok_e0 {n : Nat} {f : Nat → Int32} (hI : m_ok n f) : ¬ f 17 < 0 := by
  obtain ⟨e, he, h⟩ := hI.2.2.1
  rw [h]
  exact nI_pos (by omega)
theorem m_ok_f {n k : Nat} {τ : mS} {v : Int32} (hI : m_ok n τ.1) (hk : k ≠ 1 ∧ k ≠ 14 ∧ k ≠ 15 ∧ k ≠ 17) : m_ok n (m_f τ k v).1 := by
  obtain ⟨h1, h2, h3, h4⟩ := hI
  have e : ∀ q, q ≠ k → (m_f τ k v).1 q = τ.1 q := fun q hq => va_up_ne _ _ hq
  refine ⟨h1, ?_, ?_, ?_⟩
  · rw [e 1 (Ne.symm hk.1)]; exact h2
  · rw [e 17 (Ne.symm hk.2.2.2)]; exact h3
  · rw [e 14 (Ne.symm hk.2.1), e 15 (Ne.symm hk.2.2.1)]; exact h4
theorem mo_first_lt {τ : mS} {x : Int32} {j : Nat} (h : ¬ mo_firstp τ x j < 0) (hj : j < 2 ^ 31) : ∃ k, k < j ∧ mo_firstp τ x j = nI k := by
  induction j with
  | zero => exact absurd (show mo_firstp τ x 0 < 0 from (by decide : (-1 : Int32) < 0)) h
  | succ j ih =>
    unfold mo_firstp at h ⊢
    by_cases h1 : τ.2 10 j = x
    · simp only [if_pos h1] at h ⊢
      by_cases h2 : mo_firstp τ x j < 0
      · simp only [if_pos h2] at h ⊢
        exact ⟨j, by omega, rfl⟩
      · simp only [if_neg h2] at h ⊢
        obtain ⟨k, hk, ek⟩ := ih h2 (by omega)
        by_cases h3 : τ.2 11 (mo_firstp τ x j).toNatClampNeg ≤ τ.2 11 j
        · simp only [if_pos h3] at h ⊢
          exact ⟨k, by omega, ek⟩
        · simp only [if_neg h3] at h ⊢
          exact ⟨j, by omega, rfl⟩
    · simp only [if_neg h1] at h ⊢
      obtain ⟨k, hk, ek⟩ := ih h (by omega)
      exact ⟨k, by omega, ek⟩
theorem mo_first_8 {n j : Nat} {f : Nat → Int32} {τ : mS} {x a : Int32} (hI : m_ok n f) (h : ¬ a < 0) (e : a = mo_firstp τ x j) (hj : j ≤ n) : a.toNatClampNeg < 8 := by
  subst e
  have := hI.1
  obtain ⟨k, hk, ek⟩ := mo_first_lt h (by omega)
  rw [ek, nI_clamp (by omega)]
  omega
theorem mo_gb_1 (n : Nat) (τ : mS) (z : Nat) : (mo_gb n τ z).1 = τ.1 := by
  unfold mo_gb
  dsimp only
  split <;> rfl
theorem mo_gap_1 (n : Nat) (v : Int32) (τ : mS) (j : Nat) : (mo_gap n v τ j).1 = τ.1 := by
  induction j with
  | zero => rfl
  | succ j ih =>
    unfold mo_gap
    split
    · rw [mo_gb_1, ih]
    · exact ih
theorem mo_ga_1 (n : Nat) (τ : mS) (i : Nat) : (mo_ga n τ i).1 = τ.1 := mo_gap_1 _ _ _ _
theorem m_ok_write {n i : Nat} {τ : mS} {w : Int32} (hI : m_ok n τ.1) : m_ok n (mo_write τ w i).1 := by
  unfold mo_write
  split
  · exact hI
  · rename_i h
    obtain ⟨h1, h2, ⟨e, he, h3⟩, h4⟩ := hI
    refine ⟨h1, h2, ⟨e + 1, ?_, ?_⟩, h4⟩
    · rcases Nat.lt_or_ge e 400 with q | q
      · exact q
      · exact absurd (show (400 : Int32) ≤ τ.1 17 by rw [h3]; exact nI_le (a := 400) q (by omega)) h
    · show τ.1 17 + 1 = nI (e + 1)
      rw [h3, nI_1]
theorem kd_add_1 (σ : kS) (i : Nat) (x y : Int32) : (kd_add σ i x y).1 = σ.1 := by
  unfold kd_add
  split
  · rfl
  · split <;> rfl
theorem m_ok_steps {n i : Nat} {τ : mS} (hI : m_ok n τ.1) : m_ok n (mo_steps n τ i).2.1 := by
  unfold mo_steps
  split
  · unfold mo_do
    split
    · dsimp only
      rw [mo_ga_1, ma_1]; exact m_ok_write hI
    · dsimp only
      rw [show ∀ T : mS, (mo_goes T i).1 = T.1 from fun _ => rfl, ma_1, mo_ga_1, ma_1]; exact m_ok_write hI
  · split
    · unfold mo_ask
      split
      · exact hI
      · rename_i s _ _
        exact m_ok_f (τ := m_a (m_a τ 10 i (nI s)) 11 i (τ.1 12)) hI (by decide)
    · exact hI
