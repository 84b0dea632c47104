/-! what a state of the system is, and what each method does to it: numbers alone.
k: the system's own object. fields (1 deskCount, 4 askings, 6 turnsTold, 7 turnsRun, 8 turnsPassedOver, 10 entryCount, 11 time, 12 closed), arrays (0 holders, 1 gotAt, 2 turns, 3 entries),
desks (0 number, 1 acts, 3 failsAt, 4 present, 5 actsDone, 6 waitsFor, 7 askedAs, 8 isDead, 9 hasEnded), rows of needs -/
abbrev kS : Type := (Nat → Int32) × (Nat → Nat → Int32) × (Nat → Nat → Int32) × (Nat → Nat → Int32)
def k_f (σ : kS) (k : Nat) (v : Int32) : kS := (va_up σ.1 k v, σ.2)
def k_a (σ : kS) (a j : Nat) (v : Int32) : kS := (σ.1, va_up σ.2.1 a (upd (σ.2.1 a) j v), σ.2.2)
def k_d (σ : kS) (i k : Nat) (v : Int32) : kS := (σ.1, σ.2.1, va_up σ.2.2.1 i (va_up (σ.2.2.1 i) k v), σ.2.2.2)
def k_n (σ : kS) (i j : Nat) (v : Int32) : kS := (σ.1, σ.2.1, σ.2.2.1, va_up σ.2.2.2 i (upd (σ.2.2.2 i) j v))
/-- what deskAt finds -/
def kd_at (n : Nat) (x : Int32) : Option Nat := if x < 0 then none else if nI n ≤ x then none else some x.toNatClampNeg
def kd_sub (x : Int32) : Int32 := if x < 0 then 0 else if 16 ≤ x then 0 else 1
def kd_cond (σ : kS) (i : Nat) : Int32 :=
  if σ.2.2.1 i 9 = 0 then (if σ.2.2.1 i 8 = 0 then (if σ.2.2.1 i 4 < σ.2.2.1 i 1 then (if σ.2.2.1 i 6 = -1 then 0 else 1) else 2) else 3) else 4
def kd_ahead (σ : kS) (i : Nat) (x : Int32) : Int32 := if x < 0 then 0 else if x < σ.2.2.1 i 4 then 0 else if σ.2.2.1 i 1 ≤ x then 0 else 1
def kd_has (σ : kS) (i : Nat) (x s : Int32) : Int32 := if x < 0 then 0 else if 12 ≤ x then 0 else if (σ.2.2.2 i x.toNatClampNeg >>> (s &&& 31)) &&& 1 = 0 then 0 else 1
def kd_add (σ : kS) (i : Nat) (x s : Int32) : kS := if x < 0 then σ else if 12 ≤ x then σ else k_n σ i x.toNatClampNeg (σ.2.2.2 i x.toNatClampNeg ||| ((1 : Int32) <<< (s &&& 31)))
def kd_alive (σ : kS) (i : Nat) : Int32 := if kd_cond σ i = 0 then 1 else if kd_cond σ i = 1 then 1 else 0
def kd_heldp (h : Nat → Int32) (d : Int32) : Nat → Int32
  | 0 => 0
  | j + 1 => if h j = d then kd_heldp h d j ||| ((1 : Int32) <<< (nI j &&& 31)) else kd_heldp h d j
def kd_held (σ : kS) (i : Nat) : Int32 := kd_heldp (σ.2.1 0) (σ.2.2.1 i 0) 16
def kd_midst (σ : kS) (i : Nat) : Int32 := if σ.2.2.1 i 6 = -1 then (if kd_held σ i = 0 then 0 else 1) else 1
def kd_cntp (h : Nat → Int32) : Nat → Int32
  | 0 => 0
  | j + 1 => if h j = -1 then kd_cntp h j else kd_cntp h j + 1
def kd_llp (σ : kS) (i : Nat) : Nat → Option Nat
  | 0 => none
  | j + 1 => match kd_llp σ i j with
    | some k => some k
    | none => if kd_has σ i (σ.2.2.1 i 4) (nI j) = 0 then none else if σ.2.1 0 j = σ.2.2.1 i 0 then none else some j
def kd_take (σ : kS) (i s : Nat) : kS :=
  let σ1 := k_d σ i 6 (-1)
  let σ2 := k_a σ1 0 s (σ1.2.2.1 i 0)
  k_a σ2 1 s (σ2.1 11)
def kd_ask (σ : kS) (i s : Nat) : kS :=
  if σ.2.1 0 s = -1 then kd_take σ i s
  else
    let σ1 := k_d σ i 6 (nI s)
    let σ2 := k_d σ1 i 7 (σ1.1 4)
    k_f σ2 4 (σ2.1 4 + 1)
def kd_wap (σ : kS) (i : Nat) : Nat → Int32
  | 0 => 0
  | j + 1 => if σ.2.2.1 j 6 = σ.2.2.1 i 6 then (if σ.2.2.1 i 7 ≤ σ.2.2.1 j 7 then kd_wap σ i j else kd_wap σ i j + 1) else kd_wap σ i j
def kd_wfp (σ : kS) (n : Nat) (s pl : Int32) : Nat → Option Nat
  | 0 => none
  | j + 1 => match kd_wfp σ n s pl j with
    | some k => some k
    | none => if σ.2.2.1 j 6 = s then (if kd_wap σ j n = pl then some j else none) else none
def kd_gb (n : Nat) (σ : kS) (s : Nat) : kS :=
  let σ1 := k_a σ 0 s (-1)
  match kd_wfp σ1 n (nI s) 0 n with
  | none => σ1
  | some j => kd_take σ1 j s
def kd_gba (n : Nat) (σ : kS) (i : Nat) : Nat → kS
  | 0 => σ
  | j + 1 => if (kd_gba n σ i j).2.1 0 j = (kd_gba n σ i j).2.2.1 i 0 then kd_gb n (kd_gba n σ i j) j else kd_gba n σ i j
def kd_tell (σ : kS) (w : Int32) (i : Nat) : kS :=
  if 400 ≤ σ.1 10 then σ
  else
    let σ1 := k_a σ 3 (σ.1 10).toNatClampNeg (1000 * w + 100 * σ.2.2.1 i 0 + σ.2.2.1 i 4)
    k_f σ1 10 (σ1.1 10 + 1)
def kd_do (n : Nat) (σ : kS) (i : Nat) : Int32 × kS :=
  if σ.2.2.1 i 4 = σ.2.2.1 i 3 then (0, k_d (kd_gba n (kd_tell σ 2 i) i 16) i 3 (-1))
  else
    let σ2 := kd_gba n (kd_tell σ 1 i) i 16
    let σ3 := k_d σ2 i 4 (σ2.2.2.1 i 4 + 1)
    (1, k_d σ3 i 5 (σ3.2.2.1 i 5 + 1))
def kd_turn (n : Nat) (σ : kS) (i : Nat) : Int32 × kS :=
  if kd_cond σ i = 0 then (match kd_llp σ i 16 with
    | some j => (0, kd_ask σ i j)
    | none => kd_do n σ i)
  else (0, k_f σ 8 (σ.1 8 + 1))
def kd_runp (n : Nat) (σ : kS) (r : Nat) : Nat → Int32 × kS
  | 0 => (0, σ)
  | k + 1 => match kd_at n ((kd_runp n σ r k).2.2.1 2 (r + k)) with
    | none => kd_runp n σ r k
    | some i => (if (kd_turn n (kd_runp n σ r k).2 i).1 = 0 then (kd_runp n σ r k).1 else (kd_runp n σ r k).1 + 1, (kd_turn n (kd_runp n σ r k).2 i).2)
def kd_over (n : Nat) (σ : kS) (s : Nat) : Int32 := match kd_at n (σ.2.1 0 s) with
  | none => 0
  | some i => if kd_cond σ i = 3 then (if σ.1 11 - σ.2.1 1 s ≤ 100 then 0 else 1) else 0
def kd_tickp (n : Nat) (σ : kS) : Nat → Int32 × kS
  | 0 => (0, σ)
  | j + 1 => if kd_over n (kd_tickp n σ j).2 j = 0 then kd_tickp n σ j else ((kd_tickp n σ j).1 + 1, kd_gb n (kd_tickp n σ j).2 j)
def kd_end (n : Nat) (σ : kS) (i : Nat) : kS :=
  if kd_midst σ i = 0 then kd_gba n (k_d (k_d σ i 6 (-1)) i 9 1) i 16 else kd_tell (kd_gba n (k_d (k_d σ i 6 (-1)) i 9 1) i 16) 4 i
def kd_closep (n : Nat) (σ : kS) : Nat → Int32 × kS
  | 0 => (0, σ)
  | j + 1 => if kd_cond (kd_closep n σ j).2 j = 2 then kd_closep n σ j else ((kd_closep n σ j).1 + 1, kd_end n (kd_closep n σ j).2 j)
/-! m: the reference. fields: 0 thrown, 1 desks, 12 asks, 14 told, 15 ran, 16 passed, 17 entries, 19 time, 20 closed; arrays by their fields' numbers: 2 acts, 3 failing, 4 present, 5 done, 6 state, 7 needed, 8 holder, 9 got, 10 waitsFor, 11 askedAs, 13 turns, 18 entry -/
abbrev mS : Type := (Nat → Int32) × (Nat → Nat → Int32)
def m_f (τ : mS) (k : Nat) (v : Int32) : mS := (va_up τ.1 k v, τ.2)
def m_a (τ : mS) (a j : Nat) (v : Int32) : mS := (τ.1, va_up τ.2 a (upd (τ.2 a) j v))
def mo_in (v a b : Int32) : Int32 := if v < a then 0 else if b < v then 0 else 1
def mo_isd (τ : mS) (x : Int32) : Int32 := if x < 0 then 0 else if τ.1 1 ≤ x then 0 else 1
def mo_heldp (h : Nat → Int32) (d : Int32) : Nat → Int32
  | 0 => 0
  | j + 1 => mo_heldp h d j ||| (if h j = d then (1 : Int32) <<< (nI j &&& 31) else 0)
def mo_held (τ : mS) (d : Int32) : Int32 := mo_heldp (τ.2 8) d 16
def mo_onesp (v : Int32) : Nat → Int32
  | 0 => 0
  | j + 1 => mo_onesp v j + ((v >>> (nI j &&& 31)) &&& 1)
def mo_midst (τ : mS) (i : Nat) : Int32 := if mo_held τ (nI i) = 0 then (if τ.2 10 i = -1 then 0 else 1) else 1
def mo_write (τ : mS) (w : Int32) (i : Nat) : mS :=
  if 400 ≤ τ.1 17 then τ
  else
    let τ1 := m_a τ 18 (τ.1 17).toNatClampNeg (1000 * w + 100 * nI i + τ.2 4 i)
    m_f τ1 17 (τ1.1 17 + 1)
def mo_firstp (τ : mS) (s : Int32) : Nat → Int32
  | 0 => -1
  | j + 1 => if τ.2 10 j = s then (if mo_firstp τ s j < 0 then nI j else if τ.2 11 (mo_firstp τ s j).toNatClampNeg ≤ τ.2 11 j then mo_firstp τ s j else nI j) else mo_firstp τ s j
def mo_gb (n : Nat) (τ : mS) (s : Nat) : mS :=
  let d := mo_firstp τ (nI s) n
  let τ1 := m_a τ 8 s d
  let τ2 := m_a τ1 9 s (τ1.1 19)
  if d < 0 then τ2 else m_a (m_a τ2 10 d.toNatClampNeg (-1)) 6 d.toNatClampNeg 0
def mo_gap (n : Nat) (v : Int32) (τ : mS) : Nat → mS
  | 0 => τ
  | j + 1 => if (v >>> (nI j &&& 31)) &&& 1 = 1 then mo_gb n (mo_gap n v τ j) j else mo_gap n v τ j
def mo_ga (n : Nat) (τ : mS) (i : Nat) : mS := mo_gap n (mo_held τ (nI i)) τ 16
def mo_goes (τ : mS) (i : Nat) : mS :=
  let τ1 := m_a τ 4 i (τ.2 4 i + 1)
  m_a τ1 6 i (if τ1.2 4 i = τ1.2 2 i then 2 else 0)
def mo_wants (τ : mS) (i : Nat) : Int32 := τ.2 7 (12 * nI i + τ.2 4 i).toNatClampNeg &&& (mo_held τ (nI i) ^^^ (-1))
def mo_lowp (w : Int32) : Nat → Option Nat
  | 0 => none
  | j + 1 => match mo_lowp w j with
    | some k => some k
    | none => if (w >>> (nI j &&& 31)) &&& 1 = 0 then none else some j
def mo_ask (τ : mS) (i s : Nat) : mS :=
  if τ.2 8 s < 0 then
    let τ1 := m_a τ 8 s (nI i)
    m_a τ1 9 s (τ1.1 19)
  else
    let τ1 := m_a τ 10 i (nI s)
    let τ2 := m_a τ1 11 i (τ1.1 12)
    let τ3 := m_f τ2 12 (τ2.1 12 + 1)
    m_a τ3 6 i 1
def mo_do (n : Nat) (τ : mS) (i : Nat) : Int32 × mS :=
  if τ.2 3 i = τ.2 4 i then (0, mo_ga n (m_a (mo_write τ 2 i) 3 i (-1)) i)
  else
    let τ1 := mo_write τ 1 i
    let τ3 := mo_ga n (m_a τ1 3 i (τ1.2 3 i)) i
    (1, mo_goes (m_a τ3 5 i (τ3.2 5 i + 1)) i)
def mo_steps (n : Nat) (τ : mS) (i : Nat) : Int32 × mS :=
  if mo_wants τ i = 0 then mo_do n τ i
  else match mo_lowp (mo_wants τ i) 16 with
    | some s => (0, mo_ask τ i s)
    | none => (0, τ)
def mo_run1 (n : Nat) (q : Int32 × mS) : Int32 × mS :=
  let d := q.2.2 13 (q.2.1 15).toNatClampNeg
  let τ1 := m_f q.2 15 (q.2.1 15 + 1)
  if τ1.2 6 d.toNatClampNeg = 0 then (q.1 + (if (mo_steps n τ1 d.toNatClampNeg).1 = 0 then 0 else 1), (mo_steps n τ1 d.toNatClampNeg).2)
  else (q.1, m_f τ1 16 (τ1.1 16 + 1))
def mo_runp (n : Nat) (τ : mS) : Nat → Int32 × mS
  | 0 => (0, τ)
  | k + 1 => mo_run1 n (mo_runp n τ k)
def mo_ahp (τ : mS) (s : Int32) (i : Nat) : Nat → Int32
  | 0 => 0
  | k + 1 => mo_ahp τ s i k + (if τ.2 10 k = s then (if τ.2 11 i ≤ τ.2 11 k then 0 else 1) else 0)
def mo_wtp (τ : mS) (n : Nat) (s pl : Int32) : Nat → Option Nat
  | 0 => none
  | j + 1 => match mo_wtp τ n s pl j with
    | some k => some k
    | none => if τ.2 10 j = s then (if mo_ahp τ s j n = pl then some j else none) else none
def mo_over (τ : mS) (s : Nat) : Int32 :=
  if τ.2 8 s < 0 then 0 else if τ.2 6 (τ.2 8 s).toNatClampNeg = 3 then (if τ.1 19 - τ.2 9 s ≤ 100 then 0 else 1) else 0
def mo_tickp (n : Nat) (τ : mS) : Nat → Int32 × mS
  | 0 => (0, τ)
  | j + 1 => if mo_over (mo_tickp n τ j).2 j = 0 then mo_tickp n τ j else ((mo_tickp n τ j).1 + 1, mo_gb n (mo_tickp n τ j).2 j)
def mo_end (n : Nat) (τ : mS) (i : Nat) : mS :=
  if mo_midst τ i = 0 then mo_ga n (m_a (m_a τ 6 i 4) 10 i (-1)) i else mo_ga n (m_a (m_a (mo_write τ 4 i) 6 i 4) 10 i (-1)) i
def mo_closep (n : Nat) (τ : mS) : Nat → Int32 × mS
  | 0 => (0, τ)
  | j + 1 => if (mo_closep n τ j).2.2 6 j = 2 then mo_closep n τ j else ((mo_closep n τ j).1 + 1, mo_end n (mo_closep n τ j).2 j)
def mo_cntp (h : Nat → Int32) : Nat → Int32
  | 0 => 0
  | j + 1 => mo_cntp h j + (if h j < 0 then 0 else 1)
