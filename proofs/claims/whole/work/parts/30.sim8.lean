/-! telling and giving back: in any order -/
theorem k_aa (σ : kS) {a b : Nat} (h : a ≠ b) (j k : Nat) (v w : Int32) : k_a (k_a σ a j v) b k w = k_a (k_a σ b k w) a j v := by
  unfold k_a
  dsimp only
  rw [va_up_ne σ.2.1 _ (Ne.symm h), va_up_ne σ.2.1 _ h]
  have e : va_up (va_up σ.2.1 a (upd (σ.2.1 a) j v)) b (upd (σ.2.1 b) k w) = va_up (va_up σ.2.1 b (upd (σ.2.1 b) k w)) a (upd (σ.2.1 a) j v) := by
    funext q
    unfold va_up
    by_cases q1 : q = a
    · subst q1; simp [h]
    · by_cases q2 : q = b
      · subst q2; simp [q1]
      · simp [q1, q2]
  rw [e]
theorem k_af (σ : kS) (a j k : Nat) (v w : Int32) : k_a (k_f σ k w) a j v = k_f (k_a σ a j v) k w := rfl
theorem k_da (σ : kS) (a j i f : Nat) (v w : Int32) : k_d (k_a σ a j v) i f w = k_a (k_d σ i f w) a j v := rfl
theorem k_df (σ : kS) (k i f : Nat) (v w : Int32) : k_d (k_f σ k v) i f w = k_f (k_d σ i f w) k v := rfl
theorem take_tell (σ : kS) (j z e : Nat) (V u : Int32) : kd_take (k_f (k_a σ 3 e V) 10 u) j z = k_f (k_a (kd_take σ j z) 3 e V) 10 u := by
  unfold kd_take
  dsimp only
  rw [k_df, k_da, k_af, k_af]
  have e1 : (k_f (k_a (k_d σ j 6 (-1)) 3 e V) 10 u).2.2.1 j 0 = (k_d σ j 6 (-1)).2.2.1 j 0 := rfl
  rw [e1, k_aa _ (show (3 : Nat) ≠ 0 by decide), k_aa _ (show (3 : Nat) ≠ 1 by decide)]
  rfl
theorem tell_gb (n z i : Nat) (σ : kS) (w : Int32) : kd_tell (kd_gb n σ z) w i = kd_gb n (kd_tell σ w i) z := by
  have h1 := kd_gb_1 n σ z
  by_cases hc : (400 : Int32) ≤ σ.1 10
  · unfold kd_tell
    rw [h1, if_pos hc, if_pos hc]
  · have hD : ∀ f, f ≠ 6 → (kd_gb n σ z).2.2.1 i f = σ.2.2.1 i f := by
      intro f hf
      unfold kd_gb
      dsimp only
      split
      · rfl
      · simp [kt_3, ka_3, hf]
    unfold kd_tell
    rw [h1, if_neg hc, if_neg hc, hD 0 (by decide), hD 4 (by decide)]
    dsimp only
    rw [ka_1, ka_1, h1]
    generalize 1000 * w + 100 * σ.2.2.1 i 0 + σ.2.2.1 i 4 = V
    generalize (σ.1 10).toNatClampNeg = e
    generalize σ.1 10 + 1 = u
    unfold kd_gb
    dsimp only
    rw [kd_wfp_congr (σ := k_a (k_f (k_a σ 3 e V) 10 u) 0 z (-1)) (σ' := k_a σ 0 z (-1)) rfl]
    cases kd_wfp (k_a σ 0 z (-1)) n (nI z) 0 n with
    | none =>
      dsimp only
      rw [k_af, k_aa _ (show (3 : Nat) ≠ 0 by decide)]
    | some j =>
      dsimp only
      rw [k_af, k_aa _ (show (3 : Nat) ≠ 0 by decide), take_tell]
theorem tell_gba (n i k : Nat) (σ : kS) (w : Int32) (j : Nat) : kd_tell (kd_gba n σ i j) w k = kd_gba n (kd_tell σ w k) i j := by
  induction j with
  | zero => rfl
  | succ j ih =>
    have e1 : ∀ ρ : kS, (kd_tell ρ w k).2.2 = ρ.2.2 := by
      intro ρ; unfold kd_tell; split <;> rfl
    have e2 : ∀ (ρ : kS) (q : Nat), (kd_tell ρ w k).2.1 0 q = ρ.2.1 0 q := by
      intro ρ q; unfold kd_tell; split
      · rfl
      · simp [kf_2, ka_2]
    unfold kd_gba
    rw [← ih, e1, e2]
    split
    · rw [tell_gb]
    · rfl
