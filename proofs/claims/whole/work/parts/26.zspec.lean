theorem run1_1 {n i j : Nat} {q : Int32 × mS} (h15 : q.2.1 15 = nI j) (hj : j < 2 ^ 31) (e : q.2.2 13 j = nI i) (hi : i < 2 ^ 31) (c : q.2.2 6 i = 0) :
    mo_run1 n q = (q.1 + (if (mo_steps n (m_f q.2 15 (q.2.1 15 + 1)) i).1 = 0 then 0 else 1), (mo_steps n (m_f q.2 15 (q.2.1 15 + 1)) i).2) := by
  have e1 : (q.2.2 13 (q.2.1 15).toNatClampNeg).toNatClampNeg = i := by rw [h15, nI_clamp hj, e, nI_clamp hi]
  unfold mo_run1
  dsimp only
  rw [e1, if_pos (show (m_f q.2 15 (q.2.1 15 + 1)).2 6 i = 0 from c)]
theorem run1_0 {n i j : Nat} {q : Int32 × mS} (h15 : q.2.1 15 = nI j) (hj : j < 2 ^ 31) (e : q.2.2 13 j = nI i) (hi : i < 2 ^ 31) (c : ¬ q.2.2 6 i = 0) :
    mo_run1 n q = (q.1, m_f (m_f q.2 15 (q.2.1 15 + 1)) 16 ((m_f q.2 15 (q.2.1 15 + 1)).1 16 + 1)) := by
  have e1 : (q.2.2 13 (q.2.1 15).toNatClampNeg).toNatClampNeg = i := by rw [h15, nI_clamp hj, e, nI_clamp hi]
  unfold mo_run1
  dsimp only
  rw [e1, if_neg (show ¬ (m_f q.2 15 (q.2.1 15 + 1)).2 6 i = 0 from c)]
theorem m_ok_15 {n r k t : Nat} {τ : mS} (hI : m_ok n τ.1) (h14 : τ.1 14 = nI t) (h15 : τ.1 15 = nI (r + k)) (hlt : r + k < t) (ht : t ≤ 300) : m_ok n (m_f τ 15 (τ.1 15 + 1)).1 := by
  obtain ⟨h1, h2, h3, -⟩ := hI
  refine ⟨h1, h2, h3, t, r + k + 1, hlt, ht, h14, ?_⟩
  show τ.1 15 + 1 = _
  rw [h15, nI_1]
theorem wr_f {τ : mS} {w : Int32} {i k : Nat} (hk : k ≠ 17) : (mo_write τ w i).1 k = τ.1 k := by
  unfold mo_write
  split
  · rfl
  · exact va_up_ne _ _ hk
theorem stp_f {n i k : Nat} {τ : mS} (h12 : k ≠ 12) (h17 : k ≠ 17) : (mo_steps n τ i).2.1 k = τ.1 k := by
  unfold mo_steps
  split
  · unfold mo_do
    split
    · dsimp only
      rw [mo_ga_1, ma_1]; exact wr_f h17
    · dsimp only
      rw [show ∀ T : mS, (mo_goes T i).1 = T.1 from fun _ => rfl, ma_1, mo_ga_1, ma_1]; exact wr_f h17
  · split
    · unfold mo_ask
      split
      · rfl
      · exact va_up_ne _ _ h12
    · rfl
theorem mo_runp_ok {n r t : Nat} {τ : mS} (hI : m_ok n τ.1) (h14 : τ.1 14 = nI t) (h15 : τ.1 15 = nI r) (ht : t ≤ 300) (k : Nat) (hk : r + k ≤ t) : m_ok n (mo_runp n τ k).2.1 ∧ (mo_runp n τ k).2.1 14 = nI t ∧ (mo_runp n τ k).2.1 15 = nI (r + k) := by
  induction k with
  | zero => exact ⟨hI, h14, h15⟩
  | succ k ih =>
    obtain ⟨a, b, c⟩ := ih (by omega)
    unfold mo_runp
    generalize mo_runp n τ k = q at a b c ⊢
    have a2 := m_ok_15 a b c (by omega) ht
    have b2 : (m_f q.2 15 (q.2.1 15 + 1)).1 14 = nI t := b
    have c2 : (m_f q.2 15 (q.2.1 15 + 1)).1 15 = nI (r + (k + 1)) := by
      show q.2.1 15 + 1 = _
      rw [c, nI_1]; rfl
    unfold mo_run1
    dsimp only
    split
    · exact ⟨m_ok_steps a2, by dsimp only; rw [stp_f (by decide) (by decide)]; exact b2, by dsimp only; rw [stp_f (by decide) (by decide)]; exact c2⟩
    · exact ⟨m_ok_f a2 (by decide), b2, c2⟩
