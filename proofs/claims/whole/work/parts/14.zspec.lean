/-! the system's public methods, by numbers; Integer.bitCount -/
theorem ini_A : Cond.initialized R_A ∈ kT := mk_T 2 rfl rfl
theorem ini_I : Cond.initialized R_I ∈ kT := mk_T 10 rfl rfl
theorem gdX {own : String} {ix : Nat} {y : MethodName} {b : ByteArray} {n : Nat} {r : Option FieldType} (h1 : Cond.methodLink own ix y ∈ kT) (h2 : Cond.static y ∈ kT) (h3 : Cond.initialized y.cls ∈ kT) (h5 : Cond.code y b n r ∈ kT) : GoodIn kT (va_wsS own ix y (Cond.code y b n r :: kT)) := by
  intro w hw
  have h : w ∈ kT := by
    rcases List.mem_append.mp hw with h | h
    · simp only [List.mem_cons, List.not_mem_nil, or_false] at h
      rcases h with rfl | rfl | rfl
      · exact h1
      · exact h2
      · exact h3
    · rcases List.mem_cons.mp h with rfl | h
      · exact h5
      · exact h
  exact ⟨h, kT_good w h⟩
theorem gd_K_141 : GoodIn kT (va_wsS R_K 141 y_I_bitCount w_I_bitCount) := gdX ml_K_141 st_I_bitCount ini_I cd_I_bitCount
theorem gd_K_54 : GoodIn kT (va_wsS R_K 54 y_A_fill w_A_fill) := gdX ml_K_54 st_A_fill ini_A cd_A_fill
def us (x y : Int32) : Int32 := (x.toUInt32 >>> (y.toUInt32 &&& Int32.toUInt32 31)).toInt32
def bc1 (x : Int32) : Int32 := x - (us x 1 &&& 1431655765)
def bc2 (x : Int32) : Int32 := (x &&& 858993459) + (us x 2 &&& 858993459)
def bc3 (x : Int32) : Int32 := (x + us x 4) &&& 252645135
def bc4 (x : Int32) : Int32 := x + us x 8
def bc5 (x : Int32) : Int32 := x + us x 16
def bc (x : Int32) : Int32 := bc5 (bc4 (bc3 (bc2 (bc1 x)))) &&& 63
def kp_needs (n : Nat) (σ : kS) (x y z : Int32) : Int32 × kS := match kd_at n x with
  | none => (0, σ)
  | some i => if σ.1 12 = 0 then
      (if kd_sub z = 0 then (0, σ)
      else if kd_ahead σ i y = 0 then (0, σ)
      else if kd_has σ i y z = 0 then
        (if y = σ.2.2.1 i 4 then (if kd_midst σ i = 0 then (1, kd_add σ i y z) else (0, σ)) else (1, kd_add σ i y z))
      else (0, σ))
    else (0, σ)
def kp_turn (σ : kS) (x : Int32) : Int32 × kS :=
  let σ2 := k_f (k_a σ 2 (σ.1 6).toNatClampNeg x) 6 ((k_a σ 2 (σ.1 6).toNatClampNeg x).1 6 + 1)
  (σ2.1 6 - σ2.1 7, σ2)
def kp_run (n : Nat) (σ : kS) (r k : Nat) : Int32 × kS := ((kd_runp n σ r k).1, k_f (kd_runp n σ r k).2 7 ((kd_runp n σ r k).2.1 6))
def kp_log (σ : kS) (x : Int32) : Int32 := if x < 0 then -1 else if σ.1 10 ≤ x then -1 else σ.2.1 3 x.toNatClampNeg
def kp_wt (σ : kS) (n z : Nat) (y : Int32) : Int32 := match kd_wfp σ n (nI z) y n with
  | none => -1
  | some j => σ.2.2.1 j 0
def kp_int (n : Nat) (σ : kS) (x : Int32) : Int32 × kS := match kd_at n x with
  | none => (0, σ)
  | some i => if σ.2.2.1 i 6 = -1 then (0, σ)
    else
      let σ3 := kd_tell (kd_gba n (k_d σ i 6 (-1)) i 16) 3 i
      (1, k_d σ3 i 4 (σ3.2.2.1 i 4 + 1))
def kp_dead (σ : kS) (i : Nat) : Int32 × kS :=
  if kd_alive σ i = 0 then (-1, σ) else (bc (kd_held (k_d (k_d σ i 6 (-1)) i 8 1) i), k_d (k_d σ i 6 (-1)) i 8 1)
def kp_close (n : Nat) (σ : kS) : Int32 × kS := if σ.1 12 = 0 then kd_closep n (k_f σ 12 1) n else (-1, σ)
def kp_look (σ : kS) (i : Nat) (y : Int32) : Int32 :=
  if y = 0 then σ.2.2.1 i 4 else if y = 1 then σ.2.2.1 i 5 else if y = 2 then kd_cond σ i else if y = 3 then kd_held σ i else σ.2.2.1 i 6
def kp_count (σ : kS) (x : Int32) : Int32 :=
  if x = 0 then σ.1 1 else if x = 1 then σ.1 10 else if x = 2 then σ.1 6 else if x = 3 then σ.1 8 else if x = 4 then σ.1 11 else if x = 5 then (if σ.1 12 = 0 then 0 else 1) else if x = 6 then kd_cntp (σ.2.1 0) 16 else -1
theorem k_log400 {n : Nat} {f : Nat → Int32} {x : Int32} (hI : k_ok n f) (h0 : ¬ x < 0) (h : ¬ f 10 ≤ x) : x.toNatClampNeg < 400 := by
  obtain ⟨e, he, h2⟩ := hI.2.2.1
  rw [h2] at h
  have := ix_l h0 h (by omega)
  omega
theorem k_nle400 {x : Int32} (h0 : ¬ x < 0) (h : x.toNatClampNeg < 400) : ¬ (400 : Int32) ≤ x := by
  rw [ix_e h0]; exact nI_ge (b := 400) h (by decide)
theorem k_ok_t0 {n : Nat} {f : Nat → Int32} (hI : k_ok n f) : ¬ f 6 < 0 := by
  obtain ⟨t, r, h1, h2, h3, h4⟩ := hI.2.2.2
  rw [h3]; exact nI_pos (by omega)
theorem k_ok_6 {n t r : Nat} {σ : kS} {x : Int32} (hI : k_ok n σ.1) (hx : x = nI t) (hr : σ.1 7 = nI r) (h1 : r ≤ t) (h2 : t ≤ 300) : k_ok n (k_f σ 6 x).1 := by
  obtain ⟨a, b, c, -⟩ := hI
  exact ⟨a, b, c, t, r, h1, h2, hx, hr⟩
theorem kd_tickp_1 (n : Nat) (σ : kS) (j : Nat) : (kd_tickp n σ j).2.1 = σ.1 := by
  induction j with
  | zero => rfl
  | succ j ih =>
    unfold kd_tickp
    split
    · exact ih
    · dsimp only
      rw [kd_gb_1, ih]
theorem k_ok_closep {n : Nat} {σ : kS} (hI : k_ok n σ.1) (j : Nat) : k_ok n (kd_closep n σ j).2.1 := by
  induction j with
  | zero => exact hI
  | succ j ih =>
    unfold kd_closep
    split
    · exact ih
    · exact k_ok_end ih
theorem trn_f {n i k : Nat} {σ : kS} (h4 : k ≠ 4) (h8 : k ≠ 8) (h10 : k ≠ 10) : (kd_turn n σ i).2.1 k = σ.1 k := by
  have ht : ∀ (ρ : kS) (w : Int32), (kd_tell ρ w i).1 k = ρ.1 k := by
    intro ρ w
    unfold kd_tell
    split
    · rfl
    · exact va_up_ne _ _ h10
  unfold kd_turn
  split
  · split
    · unfold kd_ask
      split
      · rfl
      · exact va_up_ne _ _ h4
    · unfold kd_do
      split
      · dsimp only
        rw [kd_1, kd_gba_1, ht]
      · dsimp only
        rw [kd_1, kd_1, kd_gba_1, ht]
  · exact va_up_ne _ _ h8
theorem kd_runp_ok {n r : Nat} {σ : kS} (hI : k_ok n σ.1) (k : Nat) : k_ok n (kd_runp n σ r k).2.1 ∧ (kd_runp n σ r k).2.1 6 = σ.1 6 := by
  induction k with
  | zero => exact ⟨hI, rfl⟩
  | succ k ih =>
    unfold kd_runp
    split
    · exact ih
    · exact ⟨k_ok_turn ih.1, (trn_f (by decide) (by decide) (by decide)).trans ih.2⟩
theorem kd_at_nI {n i : Nat} {f : Nat → Int32} (hI : k_ok n f) (hi : i < n) : kd_at n (nI i) = some i := by
  have := hI.1
  unfold kd_at
  rw [if_neg (nI_pos (by omega)), if_neg (nI_ge hi (by omega)), nI_clamp (by omega)]
theorem i32_lt_of {a b : Int32} (h : ¬ a ≤ b) : b < a := by
  rw [Int32.le_iff_toInt_le] at h; rw [Int32.lt_iff_toInt_lt]; omega
theorem i32_toInt_ne {x : Int32} {k : Nat} (hk : k < 2 ^ 31) (h : ¬ x = nI k) : x.toInt ≠ k := by
  intro e
  apply h
  apply Int32.toInt_inj.mp
  rw [e, nI_toInt hk]
theorem tb_7 {x : Int32} (h0 : ¬ x = 0) (h1 : ¬ x = 1) (h2 : ¬ x = 2) (h3 : ¬ x = 3) (h4 : ¬ x = 4) (h5 : ¬ x = 5) (h6 : ¬ x = 6) : x.toInt < 0 ∨ 6 < x.toInt := by
  have a0 := i32_toInt_ne (k := 0) (by decide) h0
  have a1 := i32_toInt_ne (k := 1) (by decide) h1
  have a2 := i32_toInt_ne (k := 2) (by decide) h2
  have a3 := i32_toInt_ne (k := 3) (by decide) h3
  have a4 := i32_toInt_ne (k := 4) (by decide) h4
  have a5 := i32_toInt_ne (k := 5) (by decide) h5
  have a6 := i32_toInt_ne (k := 6) (by decide) h6
  omega
theorem tb_5 {x : Int32} (h0 : ¬ x = 0) (h1 : ¬ x = 1) (h2 : ¬ x = 2) (h3 : ¬ x = 3) (h4 : ¬ x = 4) : x.toInt < 0 ∨ 4 < x.toInt := by
  have a0 := i32_toInt_ne (k := 0) (by decide) h0
  have a1 := i32_toInt_ne (k := 1) (by decide) h1
  have a2 := i32_toInt_ne (k := 2) (by decide) h2
  have a3 := i32_toInt_ne (k := 3) (by decide) h3
  have a4 := i32_toInt_ne (k := 4) (by decide) h4
  omega
theorem tb_4 {x : Int32} (h0 : ¬ x = 0) (h1 : ¬ x = 1) (h2 : ¬ x = 2) (h3 : ¬ x = 3) : x.toInt < 0 ∨ 3 < x.toInt := by
  have a0 := i32_toInt_ne (k := 0) (by decide) h0
  have a1 := i32_toInt_ne (k := 1) (by decide) h1
  have a2 := i32_toInt_ne (k := 2) (by decide) h2
  have a3 := i32_toInt_ne (k := 3) (by decide) h3
  omega
