theorem us_nI {b k : Nat} (hb : b < 2 ^ 31) (hk : k < 32) : us (nI b) (nI k) = nI (b / 2 ^ k) := by
  unfold us
  apply Int32.toBitVec_inj.1
  have e1 : (Int32.toUInt32 (nI k) &&& Int32.toUInt32 31) = UInt32.ofNat k := by
    have : ∀ q, q < 32 → (Int32.toUInt32 (nI q) &&& Int32.toUInt32 31) = UInt32.ofNat q := by decide +kernel
    exact this k hk
  rw [e1]
  apply BitVec.eq_of_toNat_eq
  have e2 : ((Int32.toUInt32 (nI b) >>> UInt32.ofNat k).toInt32).toBitVec.toNat = ((Int32.toUInt32 (nI b)) >>> UInt32.ofNat k).toNat := rfl
  rw [e2, UInt32.toNat_shiftRight]
  have e3 : (Int32.toUInt32 (nI b)).toNat = b := by
    show (BitVec.ofNat 32 b).toNat = b
    rw [BitVec.toNat_ofNat]
    exact Nat.mod_eq_of_lt (by omega)
  have e4 : (UInt32.ofNat k).toNat % 32 = k := by
    have : ∀ q, q < 32 → (UInt32.ofNat q).toNat % 32 = q := by decide +kernel
    exact this k hk
  have e5 : (nI (b / 2 ^ k)).toBitVec.toNat = b / 2 ^ k := by
    show (BitVec.ofNat 32 (b / 2 ^ k)).toNat = b / 2 ^ k
    rw [BitVec.toNat_ofNat]
    have := Nat.div_le_self b (2 ^ k)
    exact Nat.mod_eq_of_lt (by omega)
  rw [e3, e4, e5, Nat.shiftRight_eq_div_pow]
theorem bc_is {b : Nat} (h : b < 65536) : bc (nI b) = nI (pcN b) := by
  have l1 : ∀ x m : Nat, Nat.land x m ≤ x := fun x m => Nat.and_le_left
  have l2 : ∀ x m : Nat, Nat.land x m ≤ m := fun x m => Nat.and_le_right
  have d : ∀ x m : Nat, Nat.div x m ≤ x := fun x m => Nat.div_le_self x m
  have a1 : pcA b ≤ b := Nat.sub_le _ _
  have a2 : pcB (pcA b) ≤ 2 * pcA b := by
    have q1 := l1 (pcA b) 858993459
    have q2 := l1 (Nat.div (pcA b) 4) 858993459
    have q3 := d (pcA b) 4
    show Nat.land (pcA b) 858993459 + Nat.land (Nat.div (pcA b) 4) 858993459 ≤ _
    omega
  have a3 : pcC (pcB (pcA b)) ≤ 2 * pcB (pcA b) := by
    have q1 := l1 (Nat.add (pcB (pcA b)) (Nat.div (pcB (pcA b)) 16)) 252645135
    have q3 := d (pcB (pcA b)) 16
    have q4 : Nat.add (pcB (pcA b)) (Nat.div (pcB (pcA b)) 16) = pcB (pcA b) + Nat.div (pcB (pcA b)) 16 := rfl
    show Nat.land _ _ ≤ _
    omega
  have a4 : pcD (pcC (pcB (pcA b))) ≤ 2 * pcC (pcB (pcA b)) := by
    have q3 := d (pcC (pcB (pcA b))) 256
    show pcC (pcB (pcA b)) + Nat.div (pcC (pcB (pcA b))) 256 ≤ _
    omega
  have e1 : bc1 (nI b) = nI (pcA b) := by
    unfold bc1
    rw [show (1 : Int32) = nI 1 from rfl, us_nI (by omega) (by decide), show (1431655765 : Int32) = nI 1431655765 from rfl, qb_and]
    exact pk_sub (Nat.le_trans (l1 _ _) (d b (2 ^ 1)))
  have e2 : ∀ x, x < 2 ^ 29 → bc2 (nI x) = nI (pcB x) := by
    intro x hx
    unfold bc2
    rw [show (2 : Int32) = nI 2 from rfl, us_nI (by omega) (by decide), show (858993459 : Int32) = nI 858993459 from rfl, qb_and, qb_and, nI_add]
    rfl
  have e3 : ∀ x, x < 2 ^ 29 → bc3 (nI x) = nI (pcC x) := by
    intro x hx
    unfold bc3
    rw [show (4 : Int32) = nI 4 from rfl, us_nI (by omega) (by decide), show (252645135 : Int32) = nI 252645135 from rfl, nI_add, qb_and]
    rfl
  have e4 : ∀ x, x < 2 ^ 29 → bc4 (nI x) = nI (pcD x) := by
    intro x hx
    unfold bc4
    rw [show (8 : Int32) = nI 8 from rfl, us_nI (by omega) (by decide), nI_add]
    rfl
  have e5 : ∀ x, x < 2 ^ 29 → bc5 (nI x) = nI (pcE x) := by
    intro x hx
    unfold bc5
    rw [show (16 : Int32) = nI 16 from rfl, us_nI (by omega) (by decide), nI_add]
    rfl
  unfold bc
  rw [e1, e2 _ (by omega), e3 _ (by omega), e4 _ (by omega), e5 _ (by omega), show (63 : Int32) = nI 63 from rfl, qb_and]
  rfl
theorem ones_is {b : Nat} (h : b < 65536) {j : Nat} (hj : j ≤ 16) : mo_onesp (nI b) j = nI (onN b j) := by
  induction j with
  | zero => rfl
  | succ j ih =>
    unfold mo_onesp onN
    rw [ih (by omega), qb_bit h (by omega), nI_add]
    rfl
theorem bits_eq {b : Nat} (h : b < 65536) : mo_onesp (nI b) 16 = bc (nI b) := by rw [bc_is h, pc_is h, ones_is h (Nat.le_refl 16)]
