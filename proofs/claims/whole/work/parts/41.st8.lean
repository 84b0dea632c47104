/-! run; the start -/
theorem so_of {n i : Nat} {σ : kS} {τ : mS} (h : sm n n σ τ) (hv : iv n σ) (hn : n ≤ 8) (hi : i < n) (hc : kd_cond σ i = 0) : so_ok τ i := by
  obtain ⟨a, p, b1, b2, b3, b4, b5⟩ := hv.1 i hi
  have hp : p < 12 := by
    have c4 := (cond_0 hc).2.2.1
    rw [b4, b5] at c4
    have := (nI_ltI (by omega) (by omega)).mp c4
    omega
  refine ⟨⟨p, hp, ((h.2.1 i hi).2.1).trans b5⟩, fun hw => ?_⟩
  have h0 := wants_0 h hv hn hi hp b5
  have hl := llp_low h hv hn hi hp b5 16 (Nat.le_refl 16)
  cases hq : kd_llp σ i 16 with
  | none => exact absurd (h0.mpr hq) hw
  | some z => exact ⟨z, kd_llp_lt hq, by rw [← hl, hq]⟩
theorem run1_f {n f : Nat} {q : Int32 × mS} (h12 : f ≠ 12) (h15 : f ≠ 15) (h16 : f ≠ 16) (h17 : f ≠ 17) : (mo_run1 n q).2.1 f = q.2.1 f := by
  unfold mo_run1
  dsimp only
  split
  · dsimp only
    rw [steps_f h12 h17]
    exact va_up_ne _ _ h15
  · dsimp only
    exact (va_up_ne _ _ h16).trans (va_up_ne _ _ h15)
theorem runp_f {n f : Nat} {τ : mS} (h12 : f ≠ 12) (h15 : f ≠ 15) (h16 : f ≠ 16) (h17 : f ≠ 17) (k : Nat) : (mo_runp n τ k).2.1 f = τ.1 f := by
  induction k with
  | zero => rfl
  | succ k ih =>
    unfold mo_runp
    exact (run1_f h12 h15 h16 h17).trans ih
theorem um_run1 {n i j : Nat} {q : Int32 × mS} (h : um n q.2) (hn : n ≤ 8) (h15 : q.2.1 15 = nI j) (hj : j < 2 ^ 31) (e : q.2.2 13 j = nI i) (hi : i < n) : um n (mo_run1 n q).2 := by
  by_cases c : q.2.2 6 i = 0
  · rw [run1_1 h15 hj e (by omega) c]
    exact um_steps (um_f h _ _) hn hi
  · rw [run1_0 h15 hj e (by omega) c]
    exact um_f (um_f h _ _) _ _
theorem st_run {n t r : Nat} {σ : kS} {τ : mS} (h : IV n σ τ) (hrt : r ≤ t) (ht : t ≤ 300) (e6 : σ.1 6 = nI t) (e7 : σ.1 7 = nI r) :
    τ.1 14 = nI t ∧ τ.1 15 = nI r ∧
    (∀ k, r + k < t → ∃ i, i < n ∧ (mo_runp n (m_f τ 0 0) k).2.2 13 (r + k) = nI i ∧ ((mo_runp n (m_f τ 0 0) k).2.2 6 i = 0 → so_ok (m_f (mo_runp n (m_f τ 0 0) k).2 15 ((mo_runp n (m_f τ 0 0) k).2.1 15 + 1)) i)) ∧
    (mo_runp n (m_f τ 0 0) (t - r)).1 = (kp_run n σ r (t - r)).1 ∧ (mo_runp n (m_f τ 0 0) (t - r)).2.1 0 = 0 ∧ IV n (kp_run n σ r (t - r)).2 (mo_runp n (m_f τ 0 0) (t - r)).2 := by
  obtain ⟨k, s, v, u, m1, m15, hT⟩ := h
  have hn := k.1
  have t2 := s.2.2.2.2.2.2.1.2.1
  have s' := sm_f0 s 0 0 (Or.inl rfl)
  have hr' : (m_f τ 0 0).1 15 = nI r := m15.trans e7
  have hV := hT t ht e6
  have run := sm_run s' v hn hr' ht hV
  have turns : ∀ q, r + q < t → ∃ i, i < n ∧ (mo_runp n (m_f τ 0 0) q).2.2 13 (r + q) = nI i := by
    intro q hq
    obtain ⟨-, q2, -, q4, -, -⟩ := run q (by omega)
    obtain ⟨i, hi, ei⟩ := hV (r + q) hq
    exact ⟨i, hi, by rw [q2.2.2.2.2.2.2.2.1 (r + q) (by omega), q4]; exact ei⟩
  have ums : ∀ q, r + q ≤ t → um n (mo_runp n (m_f τ 0 0) q).2 := by
    intro q
    induction q with
    | zero => exact fun _ => um_f u _ _
    | succ q ih =>
      intro hq
      obtain ⟨i, hi, ei⟩ := turns q (by omega)
      obtain ⟨-, -, -, -, q5, -⟩ := run q (by omega)
      unfold mo_runp
      exact um_run1 (ih (by omega)) hn q5 (by omega) ei hi
  refine ⟨t2.trans e6, m15.trans e7, fun q hq => ?_, ?_, ?_, ?_⟩
  · obtain ⟨i, hi, ei⟩ := turns q hq
    obtain ⟨-, q2, q3, -, -, -⟩ := run q (by omega)
    refine ⟨i, hi, ei, fun c6 => ?_⟩
    have hc : kd_cond (kd_runp n σ r q).2 i = 0 := by rw [← (q2.2.2.1 i hi (by omega)).1]; exact c6
    exact so_of (sm_f0 q2 15 _ (Or.inr (Or.inr rfl))) q3 hn hi hc
  · exact (run (t - r) (by omega)).1.symm
  · rw [runp_f (by decide) (by decide) (by decide) (by decide)]; rfl
  · obtain ⟨-, q2, q3, q4, q5, q6⟩ := run (t - r) (by omega)
    have e66 : (kd_runp n σ r (t - r)).2.1 6 = nI t := (q6 6 (by decide) (by decide) (by decide)).trans e6
    obtain ⟨ko, -⟩ := kd_runp_ok (r := r) k (t - r)
    unfold kp_run
    refine ⟨?_, ?_, q3, ums (t - r) (by omega), ?_, ?_, ?_⟩
    · obtain ⟨a, b, c, -⟩ := ko
      exact ⟨a, b, c, t, t, Nat.le_refl t, ht, e66, e66⟩
    · obtain ⟨s1, s2, s3, s4, s5, s6, ⟨t1, t2, t4, t5, t6, t7⟩, s8, s9⟩ := q2
      exact ⟨s1, s2, s3, s4, s5, s6, ⟨t1, t2, t4, t5, t6, t7⟩, s8, s9⟩
    · rw [runp_f (by decide) (by decide) (by decide) (by decide)]; exact m1
    · rw [q5]
      show _ = (kd_runp n σ r (t - r)).2.1 6
      rw [e66, show r + (t - r) = t by omega]
    · intro t' ht' e6' j hj
      have e9 : (kd_runp n σ r (t - r)).2.1 6 = nI t' := e6'
      rw [e66] at e9
      have : t = t' := (nI_eq (by omega) (by omega)).mp e9
      subst this
      show ∃ i, i < n ∧ (kd_runp n σ r (t - r)).2.2.1 2 j = nI i
      rw [q4]
      exact hV j hj
theorem fill_is (f : Nat → Int32) (v : Int32) {N z : Nat} (h : z < N) : kd_fill f v N z = v := by
  induction N with
  | zero => omega
  | succ N ih =>
    unfold kd_fill
    by_cases q : z = N
    · subst q; exact pk_us
    · rw [pk_un q]; exact ih (by omega)
theorem st_init : IV 0 k_init m_init := by
  have hf : ∀ z, z < 16 → k_init.2.1 0 z = -1 := fun z hz => fill_is (fun _ => 0) (-1) hz
  refine ⟨⟨by omega, nI_0.symm, ⟨0, by omega, nI_0.symm⟩, 0, 0, by omega, by omega, nI_0.symm, nI_0.symm⟩, ⟨?_, ?_, ?_, ?_, ?_, ?_, ⟨rfl, rfl, rfl, rfl, rfl, rfl⟩, ?_, ?_⟩, ⟨?_, ?_, ?_, ?_⟩, ?_, nI_0.symm, rfl, ?_⟩
  · intro i hi; omega
  · intro i hi; omega
  · intro i hi; omega
  · intro i hi; omega
  · intro z _; rfl
  · intro z hz hne; exact absurd (hf z hz) hne
  · intro j _; rfl
  · intro j _; rfl
  · intro i hi; omega
  · intro z hz; exact Or.inl (hf z hz)
  · intro i hi; omega
  · intro i hi; omega
  · intro i _ hi
    refine ⟨rfl, rfl, rfl, rfl, fun j _ => rfl⟩
  · intro t ht e6 j hj
    have e9 : (0 : Int32) = nI t := e6
    rw [← nI_0] at e9
    have := (nI_eq (by omega) (by omega)).mp e9
    omega
