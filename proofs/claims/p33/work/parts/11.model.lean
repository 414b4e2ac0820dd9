/-! THE STATE OF A LABORATORY, in numbers: naturals (codes of states, numbers of rooms, answers; 7: how many), ints, the taps. Both sides, the class's world and the reference's rows, are read off it.
M.1: 0 a room's state, 1 an answer's room, 2 its state, 3 a filter's answer, 4 a booking's room, 5 its state, 6 whether it is cancelled, 7 the counts (0 rooms, 1 answers, 2 filters, 3 bookings).
M.2.1: 0 a room's changes, 1 an answer's place, 2 its hour, 3 its changes then, 4 the samples (4 i + k), 5 the pasts (6 i + k), 6 a filter's inputs, 7 a booking's first hour, 8 its last, 9 the hour (0) and the limit (1). M.2.2: the taps (6 i + k). -/
abbrev ecM : Type := (Nat → Nat → Nat) × (Nat → Nat → Int32) × (Nat → Int64)
def up2 {α : Type} (f : Nat → Nat → α) (k i : Nat) (v : α) : Nat → Nat → α := fun a j => if a = k then (if j = i then v else f a j) else f a j
theorem up2_s {α : Type} {f : Nat → Nat → α} {k i : Nat} {v : α} : up2 f k i v k i = v := by simp [up2]
theorem up2_n {α : Type} {f : Nat → Nat → α} {k i j : Nat} {v : α} (h : j ≠ i) : up2 f k i v k j = f k j := by simp [up2, h]
theorem up2_k {α : Type} {f : Nat → Nat → α} {k i a j : Nat} {v : α} (h : a ≠ k) : up2 f k i v a j = f a j := by simp [up2, h]
def setN (M : ecM) (k i v : Nat) : ecM := (up2 M.1 k i v, M.2.1, M.2.2)
def setI (M : ecM) (k i : Nat) (v : Int32) : ecM := (M.1, up2 M.2.1 k i v, M.2.2)
def setJ (M : ecM) (i : Nat) (v : Int64) : ecM := (M.1, M.2.1, vp_updL M.2.2 i v)
/-- in how many parts two states differ -/
def dif (a b : Nat) : Nat := (if a / 20 = b / 20 then 0 else 1) + (if a % 20 / 2 = b % 20 / 2 then 0 else 1) + (if a % 2 = b % 2 then 0 else 1)
theorem dif_le (a b : Nat) : dif a b ≤ 3 := by unfold dif; split <;> split <;> split <;> omega
theorem dif_0 {a b : Nat} (ha : a < 80) (hb : b < 80) : dif a b = 0 ↔ a = b := by
  constructor
  · intro h
    unfold dif at h
    by_cases h1 : a / 20 = b / 20
    · by_cases h2 : a % 20 / 2 = b % 20 / 2
      · by_cases h3 : a % 2 = b % 2
        · omega
        · simp [h3] at h
      · simp [h2] at h
    · simp [h1] at h
  · intro h
    subst h
    simp [dif]
def ixB (x : Int32) (n : Nat) : Bool := decide (0 ≤ x) && decide (x < nI n)
theorem ixB_t {x : Int32} {n : Nat} (hn : n < 2 ^ 31) (h : ixB x n = true) : ∃ j : Nat, j < n ∧ x = nI j := by
  simp only [ixB, Bool.and_eq_true, decide_eq_true_eq] at h
  rcases pk_ix x hn with q | q | q
  · exact (Int32.lt_irrefl (Int32.lt_of_lt_of_le q h.1)).elim
  · exact (Int32.lt_irrefl (Int32.lt_of_lt_of_le h.2 q)).elim
  · exact q
theorem ixB_of {j n : Nat} (hn : n < 2 ^ 31) (h : j < n) : ixB (nI j) n = true := by
  simp only [ixB, Bool.and_eq_true, decide_eq_true_eq]
  exact ⟨nI_pos' (by omega), nI_lt h hn⟩
theorem ixB_lo {x : Int32} {n : Nat} (h : x < 0) : ixB x n = false := by
  have : ¬ 0 ≤ x := fun z => Int32.lt_irrefl (Int32.lt_of_lt_of_le h z)
  simp [ixB, this]
theorem ixB_hi {x : Int32} {n : Nat} (h : nI n ≤ x) : ixB x n = false := by
  have : ¬ x < nI n := fun z => Int32.lt_irrefl (Int32.lt_of_lt_of_le z h)
  simp [ixB, this]
theorem ixB_ok {x : Int32} {n : Nat} (h1 : ¬ x < 0) (h2 : ¬ nI n ≤ x) : ixB x n = true := by
  simp only [ixB, Bool.and_eq_true, decide_eq_true_eq]
  exact ⟨Int32.not_lt.mp h1, Int32.not_le.mp h2⟩
def rgB (x lo hi : Int32) : Bool := decide (lo ≤ x) && decide (x ≤ hi)
def stB (c s : Int32) : Bool := rgB c 0 3 && rgB s 0 9
def b1 (o : Bool) : Nat := if o = true then 1 else 0
def cdN (c s : Int32) (o : Bool) : Nat := 20 * c.toNatClampNeg + 2 * s.toNatClampNeg + b1 o
abbrev mnR (M : ecM) : Nat := M.1 7 0
abbrev mnA (M : ecM) : Nat := M.1 7 1
abbrev mnF (M : ecM) : Nat := M.1 7 2
abbrev mnB (M : ecM) : Nat := M.1 7 3
abbrev mhr (M : ecM) : Int32 := M.2.1 9 0
abbrev mlm (M : ecM) : Int32 := M.2.1 9 1
/-- what always holds of it -/
def WF (M : ecM) : Prop := mnR M ≤ 4 ∧ mnA M ≤ 40 ∧ mnF M ≤ 20 ∧ mnB M ≤ 16 ∧ (∀ i, M.1 0 i < 80) ∧ (∀ i, mnR M ≤ i → M.1 0 i = 0 ∧ M.2.1 0 i = 0) ∧
  (∀ i, i < mnA M → M.1 1 i < mnR M ∧ M.1 2 i < 80) ∧ (∀ i, i < mnF M → M.1 3 i < mnA M) ∧ (∀ i, i < mnB M → M.1 4 i < mnR M ∧ M.1 5 i < 80 ∧ 0 < (M.2.1 8 i).toInt) ∧
  (∀ i, M.1 6 i ≤ 1) ∧ (∀ i, mnB M ≤ i → M.1 6 i = 0) ∧ (∀ i, mnF M ≤ i → M.2.1 6 i = 0) ∧ (∀ j, 6 * mnF M ≤ j → M.2.1 5 j = 0) ∧ 0 ≤ (mhr M).toInt ∧ (mhr M).toInt ≤ 9999
/-- a room is given a state -/
def gvM (M : ecM) (r k : Nat) : ecM := setI (setN M 0 r k) 0 r (M.2.1 0 r + nI (dif (M.1 0 r) k))
/-- the latest of the first n answers for a room, a place and a state -/
def latN (M : ecM) (r : Nat) (pl : Int32) (k : Nat) : Nat → Option Nat
  | 0 => none
  | n + 1 => if M.1 1 n = r ∧ M.1 2 n = k ∧ M.2.1 1 n = pl then some n else latN M r pl k n
theorem latN_lt {M : ecM} {r : Nat} {pl : Int32} {k a : Nat} : ∀ {n : Nat}, latN M r pl k n = some a → a < n
  | 0, h => by cases h
  | n + 1, h => by
    unfold latN at h
    split at h
    · cases h; omega
    · have := latN_lt h; omega
/-- none of the first j answers is for the room and state of the answer i -/
def frN (M : ecM) (i : Nat) : Nat → Bool
  | 0 => true
  | j + 1 => frN M i j && !(decide (M.1 1 j = M.1 1 i) && decide (M.1 2 j = M.1 2 i))
def smN (M : ecM) (r : Nat) : Nat → Nat
  | 0 => 0
  | n + 1 => smN M r n + (if decide (M.1 1 n = r) && frN M n n then 1 else 0)
theorem smN_le (M : ecM) (r : Nat) : ∀ n, smN M r n ≤ n
  | 0 => Nat.le_refl 0
  | n + 1 => by have := smN_le M r n; unfold smN; split <;> omega
def ageM (M : ecM) (a : Nat) : Int32 := mhr M - M.2.1 2 a + 2 * (M.2.1 0 (M.1 1 a) - M.2.1 3 a)
/-- the first bar, as a sign -/
def barM (M : ecM) (f : Nat) : Int32 := if M.1 0 (M.1 1 (M.1 3 f)) = M.1 2 (M.1 3 f) then (if latN M (M.1 1 (M.1 3 f)) (M.2.1 1 (M.1 3 f)) (M.1 2 (M.1 3 f)) (mnA M) = some (M.1 3 f) then (if mlm M < ageM M (M.1 3 f) then 111 else 45) else 108) else 115
def freN (M : ecM) : Nat → Nat
  | 0 => 0
  | n + 1 => freN M n + (if barM M n = 45 then 1 else 0)
theorem freN_le (M : ecM) : ∀ n, freN M n ≤ n
  | 0 => Nat.le_refl 0
  | n + 1 => by have := freN_le M n; unfold freN; split <;> omega
/-- the product row: a partial sum, a sample; the taps; what a use gives -/
def prS (s : Nat → Int32) (t : Nat → Int64) (n : Nat) : Nat → Int64
  | 0 => 0
  | k + 1 => prS s t n k + (s k).toInt64 * t (n - k)
def prd (s : Nat → Int32) (t : Nat → Int64) (n : Nat) : Int64 := prS s t n (if n < 3 then n + 1 else 4)
def rgtN (s : Nat → Int32) (t : Nat → Int64) : Nat → Nat → Nat
  | _, 0 => 0
  | n, d + 1 => if prd s t n = (if n = 0 then 1 else 0) then 1 + rgtN s t (n + 1) d else 0
def rgt (s : Nat → Int32) (t : Nat → Int64) : Nat := rgtN s t 0 6
def tp1 (s : Nat → Int32) : Int64 := (-s 0).toInt64 * (0 + (s 1).toInt64 * (s 0).toInt64)
def tp2 (s : Nat → Int32) : Int64 := (-s 0).toInt64 * (0 + (s 1).toInt64 * tp1 s + (s 2).toInt64 * (s 0).toInt64)
def tp3 (s : Nat → Int32) : Int64 := (-s 0).toInt64 * (0 + (s 1).toInt64 * tp2 s + (s 2).toInt64 * tp1 s + (s 3).toInt64 * (s 0).toInt64)
def tp4 (s : Nat → Int32) : Int64 := (-s 0).toInt64 * (0 + (s 1).toInt64 * tp3 s + (s 2).toInt64 * tp2 s + (s 3).toInt64 * tp1 s)
def tp5 (s : Nat → Int32) : Int64 := (-s 0).toInt64 * (0 + (s 1).toInt64 * tp4 s + (s 2).toInt64 * tp3 s + (s 3).toInt64 * tp2 s)
def tpF (s : Nat → Int32) : Nat → Int64
  | 0 => (s 0).toInt64
  | 1 => tp1 s
  | 2 => tp2 s
  | 3 => tp3 s
  | 4 => tp4 s
  | _ => tp5 s
def gvS (t : Nat → Int64) (q : Nat → Int32) : Nat → Int64
  | 0 => 0
  | k + 1 => gvS t q k + t k * (q k).toInt64
/-- a filter's samples, taps, past -/
abbrev smA (M : ecM) (a : Nat) : Nat → Int32 := fun k => M.2.1 4 (4 * a + k)
abbrev tpA (M : ecM) (f : Nat) : Nat → Int64 := fun k => M.2.2 (6 * f + k)
abbrev psA (M : ecM) (f : Nat) : Nat → Int32 := fun k => M.2.1 5 (6 * f + k)
def psU (q : Nat → Int32) (x : Int32) : Nat → Int32
  | 0 => x
  | k + 1 => q k
/-- a booking is for the room, stands, and is too near -/
def nearB (M : ecM) (k c : Nat) (first last : Int32) : Bool := decide ((M.2.1 7 k).toInt - last.toInt ≤ dif (M.1 5 k) c) && decide (first.toInt - (M.2.1 8 k).toInt ≤ dif (M.1 5 k) c)
def clB (M : ecM) (r c : Nat) (first last : Int32) (k : Nat) : Bool := (decide (M.1 6 k = 0) && decide (M.1 4 k = r)) && nearB M k c first last
def fstN (q : Nat → Bool) : Nat → Nat → Option Nat
  | _, 0 => none
  | k, d + 1 => if q k = true then some k else fstN q (k + 1) d
theorem fstN_lt {q : Nat → Bool} {a : Nat} : ∀ {d k : Nat}, fstN q k d = some a → k ≤ a ∧ a < k + d ∧ q a = true
  | 0, k, h => by cases h
  | d + 1, k, h => by
    unfold fstN at h
    split at h
    · cases h; exact ⟨Nat.le_refl _, by omega, by assumption⟩
    · have := fstN_lt h; exact ⟨by omega, by omega, this.2.2⟩
def clM (M : ecM) (r c : Nat) (first last : Int32) : Option Nat := fstN (clB M r c first last) 0 (mnB M)
def cntN (M : ecM) : Nat → Nat
  | 0 => 0
  | n + 1 => cntN M n + (if M.1 6 n = 0 then 1 else 0)
/-- the bookings that begin in the present hour, the first k of them -/
def begM (M : ecM) : Nat → ecM
  | 0 => M
  | k + 1 => if M.1 6 k = 0 ∧ M.2.1 7 k = mhr M then gvM (begM M k) (M.1 4 k) (M.1 5 k) else begM M k
def begC (M : ecM) : Nat → Nat
  | 0 => 0
  | k + 1 => begC M k + (if M.1 6 k = 0 ∧ M.2.1 7 k = mhr M then 1 else 0)
def hrM (M : ecM) : ecM := begM (setI M 9 0 (mhr M + 1)) (mnB M)
def hrC (M : ecM) : Nat := begC (setI M 9 0 (mhr M + 1)) (mnB M)
def pasM (M : ecM) : Nat → ecM
  | 0 => M
  | n + 1 => hrM (pasM M n)
def pasC (M : ecM) : Nat → Nat
  | 0 => 0
  | n + 1 => pasC M n + hrC (pasM M n)
def nxB (M : ecM) (r k : Nat) : Bool := (decide (M.1 6 k = 0) && decide (M.1 4 k = r)) && decide (mhr M < M.2.1 7 k)
def nxtN (M : ecM) (r : Nat) : Nat → Option Nat
  | 0 => none
  | n + 1 => match nxtN M r n with
    | none => if nxB M r n = true then some n else none
    | some f => if nxB M r n = true ∧ M.2.1 7 n < M.2.1 7 f then some n else some f
theorem nxtN_lt {M : ecM} {r a : Nat} : ∀ {n : Nat}, nxtN M r n = some a → a < n
  | 0, h => by cases h
  | n + 1, h => by
    unfold nxtN at h
    cases hf : nxtN M r n with
    | none =>
      rw [hf] at h
      simp only at h
      split at h
      · cases h; omega
      · cases h
    | some f =>
      rw [hf] at h
      have := nxtN_lt hf
      simp only at h
      split at h
      · cases h; omega
      · cases h; omega
