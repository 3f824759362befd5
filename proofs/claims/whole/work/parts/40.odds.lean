/-! the odds -/
def od_b (s i : Nat) : Nat := s / 2 ^ i % 2
def od_i (p s : Nat) : Nat → Nat
  | 0 => 1
  | i + 1 => od_i p s i * (if od_b s i = 1 then 10 - p else p)
def od_w (s : Nat) : Nat → Nat
  | 0 => 0
  | i + 1 => od_w s i + (if od_b s i = 1 then 1 else 0)
def od_a (p t k : Nat) : Nat → Nat
  | 0 => 0
  | s + 1 => od_a p t k s + (if k ≤ od_w s t then od_i p s t else 0)
def od_c (p : Nat) : Nat → Nat → Nat
  | 0, j => if j = 0 then 1 else 0
  | t + 1, j => od_c p t j * p + (if j = 0 then 0 else od_c p t (j - 1) * (10 - p))
/-- the sum of the ways from k on, so many of them -/
def od_s (p t k : Nat) : Nat → Nat
  | 0 => 0
  | m + 1 => od_s p t k m + od_c p t (k + m)
set_option maxRecDepth 100000 in
theorem od_bit : ∀ s, s < 512 → ∀ i, i < 9 → (nI s >>> (nI i &&& 31)) &&& 1 = nI (od_b s i) := by decide +kernel
theorem od_pow : ∀ t, t < 10 → (1 : Int32) <<< (nI t &&& 31) = nI (2 ^ t) := by decide +kernel
theorem od_ten : ∀ t, t < 10 → 10 ^ t ≤ 1000000000 := by decide
theorem od_two : ∀ t, t < 10 → 2 ^ t ≤ 512 := by decide
