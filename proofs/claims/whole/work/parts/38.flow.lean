/-! the flow, as a fraction in lowest terms -/
def fr_s (S : Nat → Int32) (b : Nat) : Int := if S (27 + b) = 1 then -(gs_ld S b).toInt else (gs_ld S b).toInt
def fr_p (S : Nat → Int32) (b : Nat) : Nat := (S (11 + b)).toInt.toNat
def fr_A (S : Nat → Int32) : Nat → Int × Nat
  | 0 => (0, 1)
  | k + 1 => if S (51 + k) = 1 then (fr_u ((fr_A S k).1 * fr_p S k + fr_s S k * (fr_A S k).2) ((fr_A S k).2 * fr_p S k), fr_l ((fr_A S k).1 * fr_p S k + fr_s S k * (fr_A S k).2) ((fr_A S k).2 * fr_p S k)) else fr_A S k
theorem fr_A_s (S : Nat → Int32) (k : Nat) : fr_A S (k + 1) = if S (51 + k) = 1 then (fr_u ((fr_A S k).1 * fr_p S k + fr_s S k * (fr_A S k).2) ((fr_A S k).2 * fr_p S k), fr_l ((fr_A S k).1 * fr_p S k + fr_s S k * (fr_A S k).2) ((fr_A S k).2 * fr_p S k)) else fr_A S k := rfl
theorem fr_p_in {S : Nat → Int32} (h : gs_Ok S) {b : Nat} (hb : b < 8) (ht : S (51 + b) = 1) : 1 ≤ fr_p S b ∧ fr_p S b ≤ 40 ∧ (S (11 + b)).toInt64 = lN (fr_p S b) := by
  have h2 := (h.2 b hb).2.1 ht
  have h3 := h2.2.1
  have h4 := h2.2.2
  rw [Int32.le_iff_toInt_le] at h3 h4
  rw [show (1 : Int32).toInt = 1 from rfl] at h3
  rw [show (40 : Int32).toInt = 40 from rfl] at h4
  unfold fr_p
  refine ⟨by omega, by omega, ?_⟩
  rw [lZ_i, ← lZ_N]
  congr 1
  omega
theorem fr_s_in {S : Nat → Int32} (h : gs_Ok S) {b : Nat} (hb : b < 8) : -64 ≤ fr_s S b ∧ fr_s S b ≤ 64 := by
  have := gs_ld_in (h.2 b hb).1
  unfold fr_s
  split <;> omega
theorem fr_step {A s : Int} {B p k M : Nat} (hB : 0 < B) (hp1 : 1 ≤ p) (hp : p ≤ 40) (hA : -(64 * k * B : Int) ≤ A ∧ A ≤ 64 * k * B) (hs : -64 ≤ s ∧ s ≤ 64) (hM : B ≤ M) : (0 < B * p ∧ B * p ≤ M * 40) ∧ (-(64 * (k + 1) * (B * p) : Int) ≤ A * p + s * B ∧ A * p + s * B ≤ 64 * (k + 1) * (B * p)) ∧ (0 < fr_l (A * p + s * B) (B * p) ∧ fr_l (A * p + s * B) (B * p) ≤ M * 40) ∧ (-(64 * (k + 1) * fr_l (A * p + s * B) (B * p) : Int) ≤ fr_u (A * p + s * B) (B * p) ∧ fr_u (A * p + s * B) (B * p) ≤ 64 * (k + 1) * fr_l (A * p + s * B) (B * p)) := by
  have hY : 0 < B * p := Nat.mul_pos hB hp1
  have hYM : B * p ≤ M * 40 := Nat.mul_le_mul hM hp
  have hpz : (1 : Int) ≤ p := by omega
  have hBz : (0 : Int) < B := by omega
  have a1 : A * p ≤ 64 * k * B * p := Int.mul_le_mul_of_nonneg_right hA.2 (by omega)
  have a2 : -(64 * k * B * p : Int) ≤ A * p := by
    have := Int.mul_le_mul_of_nonneg_right hA.1 (show (0 : Int) ≤ p by omega)
    rw [Int.neg_mul] at this
    exact this
  have b1 : s * B ≤ 64 * B := Int.mul_le_mul_of_nonneg_right hs.2 (by omega)
  have b2 : -(64 * B : Int) ≤ s * B := by
    have := Int.mul_le_mul_of_nonneg_right hs.1 (show (0 : Int) ≤ B by omega)
    rw [Int.neg_mul] at this
    exact this
  have c1 : (B : Int) ≤ B * p := by
    have := Int.mul_le_mul_of_nonneg_left hpz (show (0 : Int) ≤ B by omega)
    rw [Int.mul_one] at this
    exact this
  have d1 : (64 * (k + 1) * (B * p) : Int) = 64 * k * B * p + 64 * (B * p) := by
    rw [Int.mul_add, Int.add_mul, Int.mul_one, Int.mul_assoc (64 * (k : Int)) B p]
  have hX : -(64 * (k + 1) * (B * p) : Int) ≤ A * p + s * B ∧ A * p + s * B ≤ 64 * (k + 1) * (B * p) := by
    rw [d1]; omega
  generalize A * p + s * B = X at hX ⊢
  have hYz : ((B * p : Nat) : Int) = B * p := Int.natCast_mul B p
  generalize hYe : B * p = Y at hY hYM hYz ⊢
  rw [← hYz] at hX ⊢
  obtain ⟨m1, m2⟩ := fr_mul (X := X) (Y := Y)
  have hg := fr_g_pos (X := X) hY
  have hl := fr_l_pos (X := X) hY
  refine ⟨⟨hY, hYM⟩, hX, ⟨hl, Nat.le_trans (fr_l_le X Y) hYM⟩, ?_⟩
  have m2z : (fr_l X Y : Int) * fr_g X Y = Y := by rw [← Int.natCast_mul, m2]
  have gz : (0 : Int) < fr_g X Y := by omega
  have e1 : (64 * (k + 1) * Y : Int) = 64 * (k + 1) * fr_l X Y * fr_g X Y := by rw [← m2z]; exact (Int.mul_assoc _ _ _).symm
  have l1 : fr_u X Y * fr_g X Y ≤ 64 * (k + 1) * fr_l X Y * fr_g X Y := by rw [m1, ← e1]; exact hX.2
  have l2 : -(64 * (k + 1) * fr_l X Y : Int) * fr_g X Y ≤ fr_u X Y * fr_g X Y := by rw [m1, Int.neg_mul, ← e1]; exact hX.1
  exact ⟨Int.le_of_mul_le_mul_right l2 gz, Int.le_of_mul_le_mul_right l1 gz⟩
theorem fr_inv {S : Nat → Int32} (h : gs_Ok S) : ∀ k, k ≤ 8 → (0 < (fr_A S k).2 ∧ (fr_A S k).2 ≤ 40 ^ k) ∧ (-(64 * k * (fr_A S k).2 : Int) ≤ (fr_A S k).1 ∧ (fr_A S k).1 ≤ 64 * k * (fr_A S k).2)
  | 0, _ => by unfold fr_A; exact ⟨⟨by decide, by decide⟩, by decide, by decide⟩
  | k + 1, hk => by
    obtain ⟨⟨i1, i2⟩, i3⟩ := fr_inv h k (by omega)
    rw [fr_A_s]
    by_cases ht : S (51 + k) = 1
    · rw [if_pos ht]
      obtain ⟨p1, p2, -⟩ := fr_p_in h (by omega) ht
      have st := fr_step i1 p1 p2 i3 (fr_s_in (b := k) h (by omega)) i2
      refine ⟨⟨st.2.2.1.1, ?_⟩, ?_⟩
      · rw [Nat.pow_succ]; exact st.2.2.1.2
      · have := st.2.2.2
        rw [show ((k + 1 : Nat) : Int) = (k : Int) + 1 by omega]
        exact this
    · rw [if_neg ht]
      refine ⟨⟨i1, ?_⟩, ?_⟩
      · rw [Nat.pow_succ]
        exact Nat.le_trans i2 (Nat.le_mul_of_pos_right _ (by decide))
      · rw [show ((k + 1 : Nat) : Int) = (k : Int) + 1 by omega]
        have : (0 : Int) ≤ (fr_A S k).2 := by omega
        have e : (64 * ((k : Int) + 1) * (fr_A S k).2 : Int) = 64 * k * (fr_A S k).2 + 64 * (fr_A S k).2 := by rw [Int.mul_add, Int.add_mul, Int.mul_one]
        rw [e]
        omega
theorem c_common {z n : Nat} {R : bq_RR} {I : bq_IR} {L : bq_LR} {X : Int} {b : Nat} {x y : Int64} (hx : x = lZ X) (hy : y = lN b) (hX1 : -(2 ^ 61) ≤ X) (hX2 : X ≤ 2 ^ 61) (hb : b < 2 ^ 61) : bq_FC MX9_common z [.long x, .long y] n R I L 0 0 (some (.long (lN (fr_g X b)))) n R I L := by subst hx hy; exact c_X9_common hX1 hX2 hb
theorem fr_pow : ∀ k, k ≤ 8 → 40 ^ k ≤ 6553600000000 := by decide
/-- the least common multiple instead of the product -/
theorem fr_lcm {A s : Int} {B p : Nat} (hB : 0 < B) (hp : 0 < p) : ∃ B' p' g : Nat, (0 < g ∧ 0 < B' ∧ 0 < p') ∧ Nat.gcd B p = g ∧ B / g = B' ∧ B' * p / B = p' ∧ B' * p / p = B' ∧ (B' * p ≤ B * p) ∧ fr_u (A * p' + s * B') (B' * p) = fr_u (A * p + s * B) (B * p) ∧ fr_l (A * p' + s * B') (B' * p) = fr_l (A * p + s * B) (B * p) := by
  have hg : 0 < Nat.gcd B p := Nat.gcd_pos_of_pos_left _ hB
  obtain ⟨B', hB'⟩ := Nat.gcd_dvd_left B p
  obtain ⟨p', hp'⟩ := Nat.gcd_dvd_right B p
  generalize Nat.gcd B p = g at hg hB' hp'
  subst hB' hp'
  have h1 : 0 < B' := Nat.pos_of_mul_pos_left hB
  have h2 : 0 < p' := Nat.pos_of_mul_pos_left hp
  have e1 : A * ((g * p' : Nat) : Int) + s * ((g * B' : Nat) : Int) = (A * p' + s * B') * g := by
    rw [Int.natCast_mul, Int.natCast_mul, Int.add_mul, Int.mul_assoc, Int.mul_assoc, Int.mul_comm (p' : Int) g, Int.mul_comm (B' : Int) g]
  have e2 : g * B' * (g * p') = B' * (g * p') * g := by
    rw [Nat.mul_comm g B', Nat.mul_assoc, Nat.mul_assoc, Nat.mul_comm g (g * p')]
  have hY : 0 < B' * (g * p') := Nat.mul_pos h1 hp
  have c := fr_cancel (X := A * p' + s * B') hY hg
  refine ⟨B', p', g, ⟨hg, h1, h2⟩, rfl, Nat.mul_div_cancel_left B' hg, ?_, Nat.mul_div_cancel B' hp, Nat.mul_le_mul_right _ (Nat.le_mul_of_pos_left B' hg), ?_, ?_⟩
  · rw [show B' * (g * p') = g * B' * p' by rw [Nat.mul_comm g B', Nat.mul_assoc]]
    exact Nat.mul_div_cancel_left p' hB
  · rw [e1, e2]; exact c.1.symm
  · rw [e1, e2]; exact c.2.symm
