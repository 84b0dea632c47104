/-! how many bits: Integer.bitCount and the reference's ones -/
def pcA (b : Nat) : Nat := Nat.sub b (Nat.land (Nat.div b 2) 1431655765)
def pcB (b : Nat) : Nat := Nat.add (Nat.land b 858993459) (Nat.land (Nat.div b 4) 858993459)
def pcC (b : Nat) : Nat := Nat.land (Nat.add b (Nat.div b 16)) 252645135
def pcD (b : Nat) : Nat := Nat.add b (Nat.div b 256)
def pcE (b : Nat) : Nat := Nat.add b (Nat.div b 65536)
def pcN (b : Nat) : Nat := Nat.land (pcE (pcD (pcC (pcB (pcA b))))) 63
def onN (b : Nat) : Nat → Nat
  | 0 => 0
  | j + 1 => Nat.add (onN b j) (Nat.mod (Nat.div b (Nat.pow 2 j)) 2)
def pchk : Nat → Nat → Bool
  | 0, lo => Nat.beq (pcN lo) (onN lo 16)
  | k + 1, lo => and (pchk k lo) (pchk k (Nat.add lo (Nat.pow 2 k)))
set_option maxRecDepth 1000000 in
theorem pchk_ok : pchk 16 0 = true := by decide +kernel
theorem pchk_all (k lo b : Nat) (h : pchk k lo = true) (h1 : lo ≤ b) (h2 : b < lo + 2 ^ k) : pcN b = onN b 16 := by
  induction k generalizing lo with
  | zero =>
    have : b = lo := by simp at h2; omega
    subst this
    exact Nat.eq_of_beq_eq_true h
  | succ k ih =>
    unfold pchk at h
    rw [Bool.and_eq_true] at h
    have e : 2 ^ (k + 1) = 2 ^ k + 2 ^ k := by rw [Nat.pow_succ]; omega
    by_cases q : b < lo + 2 ^ k
    · exact ih lo h.1 h1 q
    · exact ih (lo + 2 ^ k) h.2 (by omega) (by omega)
theorem pc_is {b : Nat} (h : b < 65536) : pcN b = onN b 16 := pchk_all 16 0 b pchk_ok (Nat.zero_le b) (by simpa using h)
