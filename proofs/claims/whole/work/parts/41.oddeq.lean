set_option maxRecDepth 1000000 in
set_option maxHeartbeats 4000000 in
theorem od_eq : ∀ p, p < 11 → ∀ t, t < 10 → ∀ k, k < 10 → od_a p t k (2 ^ t) = od_s p t k (t + 1 - k) ∧ od_a p t k (2 ^ t) ≤ 1000000000 := by decide +kernel
