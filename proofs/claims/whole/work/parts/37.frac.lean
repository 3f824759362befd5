/-! longs as integers; the greatest common divisor; fractions -/
def lZ (X : Int) : Int64 := Int64.ofInt X
theorem lZ_N (n : Nat) : lZ (n : Int) = lN n := by
  unfold lZ lN
  apply Int64.toBitVec_inj.mp
  simp
theorem lZ_add (X Y : Int) : lZ X + lZ Y = lZ (X + Y) := (Int64.ofInt_add X Y).symm
theorem lZ_mul (X Y : Int) : lZ X * lZ Y = lZ (X * Y) := (Int64.ofInt_mul X Y).symm
theorem lZ_toInt {X : Int} (h1 : -(2 ^ 62) ≤ X) (h2 : X ≤ 2 ^ 62) : (lZ X).toInt = X := by
  unfold lZ
  rw [Int64.toInt_ofInt, show Int64.size = 18446744073709551616 from rfl]
  rw [Int.bmod_eq_of_le] <;> omega
theorem lZ_i (x : Int32) : x.toInt64 = lZ x.toInt := by
  have hx := x.le_toInt
  have hx2 := x.toInt_lt
  apply Int64.toInt_inj.mp
  rw [Int32.toInt_toInt64, lZ_toInt (by omega) (by omega)]
theorem lZ_neg {X : Int} : -lZ X = lZ (-X) := (Int64.ofInt_neg X).symm
theorem lZ_div {X : Int} {d : Nat} (h1 : -(2 ^ 62) ≤ X) (h2 : X ≤ 2 ^ 62) (hd0 : 0 < d) (hd : d < 2 ^ 62) (hdvd : (d : Int) ∣ X) : lZ X / lN d = lZ (X / d) := by
  obtain ⟨q, hq⟩ := hdvd
  have hdz : (d : Int) ≠ 0 := by omega
  have e1 : X / d = q := by rw [hq]; exact Int.mul_ediv_cancel_left q hdz
  have hb : -(2 ^ 62) ≤ q ∧ q ≤ 2 ^ 62 := by
    have h5 : (1 : Int) ≤ d := by omega
    rcases Int.le_total 0 q with h | h
    · have h6 : q ≤ X := by rw [hq]; have := Int.mul_le_mul_of_nonneg_right h5 h; omega
      omega
    · have h6 : X ≤ q := by rw [hq]; have := Int.mul_le_mul_of_nonpos_right h5 h; omega
      omega
  apply Int64.toInt_inj.mp
  rw [Int64.toInt_div, lZ_toInt h1 h2, ← lZ_N, lZ_toInt (by omega) (by omega), e1, lZ_toInt hb.1 hb.2]
  have e2 : X.tdiv d = q := by rw [hq]; exact Int.mul_tdiv_cancel_left q hdz
  rw [e2]
  rw [Int.bmod_eq_of_le] <;> omega
def fr_g (X : Int) (Y : Nat) : Nat := Nat.gcd X.natAbs Y
def fr_u (X : Int) (Y : Nat) : Int := X / (fr_g X Y : Int)
def fr_l (X : Int) (Y : Nat) : Nat := Y / fr_g X Y
theorem fr_g_pos {X : Int} {Y : Nat} (h : 0 < Y) : 0 < fr_g X Y := Nat.gcd_pos_of_pos_right _ h
theorem fr_g_dl (X : Int) (Y : Nat) : (fr_g X Y : Int) ∣ X := Int.ofNat_dvd_left.mpr (Nat.gcd_dvd_left _ _)
theorem fr_g_dr (X : Int) (Y : Nat) : fr_g X Y ∣ Y := Nat.gcd_dvd_right _ _
theorem fr_g_le {X : Int} {Y : Nat} (h : 0 < Y) : fr_g X Y ≤ Y := Nat.le_of_dvd h (fr_g_dr X Y)
theorem fr_l_pos {X : Int} {Y : Nat} (h : 0 < Y) : 0 < fr_l X Y := Nat.div_pos (fr_g_le h) (fr_g_pos h)
theorem fr_l_le (X : Int) (Y : Nat) : fr_l X Y ≤ Y := Nat.div_le_self _ _
theorem fr_mul {X : Int} {Y : Nat} : fr_u X Y * fr_g X Y = X ∧ fr_l X Y * fr_g X Y = Y := ⟨Int.ediv_mul_cancel (fr_g_dl X Y), Nat.div_mul_cancel (fr_g_dr X Y)⟩
/-- a common factor doesn't matter -/
theorem fr_cancel {X : Int} {Y c : Nat} (hY : 0 < Y) (hc : 0 < c) : fr_u (X * c) (Y * c) = fr_u X Y ∧ fr_l (X * c) (Y * c) = fr_l X Y := by
  have e : fr_g (X * c) (Y * c) = fr_g X Y * c := by
    unfold fr_g
    rw [Int.natAbs_mul, Int.natAbs_natCast, Nat.gcd_mul_right]
  have hg := fr_g_pos (X := X) hY
  constructor
  · unfold fr_u
    rw [e, Int.natCast_mul]
    exact Int.mul_ediv_mul_of_pos_left X (fr_g X Y : Int) (by omega)
  · unfold fr_l
    rw [e]
    exact Nat.mul_div_mul_right Y (fr_g X Y) hc
theorem fr_lN0 {n : Nat} (h : n < 2 ^ 62) : lN n ≤ 0 ↔ n = 0 := by
  rw [show (0 : Int64) = lN 0 from rfl, pk_lLE (by omega) (by decide)]; omega
set_option maxHeartbeats 1000000 in
set_option maxRecDepth 100000 in
theorem c_X9_common {z n : Nat} {R : bq_RR} {I : bq_IR} {L : bq_LR} {X : Int} {b : Nat} (hX1 : -(2 ^ 61) ≤ X) (hX2 : X ≤ 2 ^ 61) (hb : b < 2 ^ 61) : bq_FC MX9_common z [.long (lZ X), .long (lN b)] n R I L 0 0 (some (.long (lN (fr_g X b)))) n R (I) (L) := by
  refine bq_ofL [some (.long (lZ X)), none, some (.long (lN b)), none, none, none, none, none, none, none] rfl (Nat.le_of_ble_eq_true rfl) (by decide) rfl ?_
  intro A G hret
  have G : bq_Cx cX9_common RX9 10 z (bq_rm MX9_common 0 0) "common" A := G
  have loop : ∀ d p q : Nat, q < d → p < 2 ^ 62 → q < 2 ^ 62 → Nat.gcd p q = fr_g X b → ∀ l8 : Option Value, A 0 0 17 [some (.long (lZ X)), none, some (.long (lN b)), none, some (.long (lN p)), none, some (.long (lN q)), none, none, none] [] n R I L := by
    intro d
    induction d with
    | zero => intro p q h; omega
    | succ d ih =>
      intro p q hd hp hq hg l8
      rcases Nat.eq_zero_or_pos q with h0 | h0
      · subst h0
        refine bq_lload (q := 19) G rfl dX9_common_17 rfl ?_
        refine bq_lconst (q := 20) (v := 0) G (by decide) dX9_common_19 rfl ?_
        refine bq_lcmp (q := 21) G dX9_common_20 rfl ?_
        refine bq_if_le_t (t := 42) G dX9_common_21 (by decide) ((lg_cmp_le _ _).mpr ((fr_lN0 hq).mpr rfl)) ?_
        refine bq_lload (q := 44) G rfl dX9_common_42 rfl ?_
        rw [Nat.gcd_zero_right] at hg
        exact bq_rl (hret _ _ dX9_common_44) (by rw [hg]) rfl rfl
      · refine bq_lload (q := 19) G rfl dX9_common_17 rfl ?_
        refine bq_lconst (q := 20) (v := 0) G (by decide) dX9_common_19 rfl ?_
        refine bq_lcmp (q := 21) G dX9_common_20 rfl ?_
        refine bq_if_le_f (q := 24) (t := 42) G dX9_common_21 rfl (by decide) (fun h => absurd ((fr_lN0 hq).mp ((lg_cmp_le _ _).mp h)) (by omega)) ?_
        refine bq_lload (q := 26) G rfl dX9_common_24 rfl ?_
        refine bq_lload (q := 28) G rfl dX9_common_26 rfl ?_
        refine bq_lrem (q := 29) G (fun h => absurd ((fr_lN0 hq).mp (by rw [h]; exact Int64.le_refl 0)) (by omega)) dX9_common_28 rfl ?_
        refine bq_lstore (q := 31) (ls' := [_, _, _, _, _, _, _, _, _, _]) G dX9_common_29 rfl (by decide) rfl rfl ?_
        refine bq_lload (q := 33) G rfl dX9_common_31 rfl ?_
        refine bq_lstore (q := 35) (ls' := [_, _, _, _, _, _, _, _, _, _]) G dX9_common_33 rfl (by decide) rfl rfl ?_
        refine bq_lload (q := 37) G rfl dX9_common_35 rfl ?_
        refine bq_lstore (q := 39) (ls' := [_, _, _, _, _, _, _, _, _, _]) G dX9_common_37 rfl (by decide) rfl rfl ?_
        refine bq_goto (q := 17) G dX9_common_39 (by decide) ?_
        rw [pk_lRem (by omega) h0 (by omega)]
        have hr := Nat.mod_lt p h0
        refine bq_forget G ?_ (ih q (p % q) (by omega) hq (by omega) ?_ none)
        · repeat (first | exact bq_le_0 _ | refine bq_le_n ?_ | refine bq_le_s rfl ?_)
        · rw [← hg, Nat.gcd_comm p q, Nat.gcd_rec q p, Nat.gcd_comm]
  have e0 : (0 : Int64) = lZ 0 := rfl
  refine bq_lload_n (q := 1) G rfl dX9_common_0 rfl ?_
  refine bq_lconst (q := 2) (v := 0) G (by decide) dX9_common_1 rfl ?_
  refine bq_lcmp (q := 3) G dX9_common_2 rfl ?_
  refine bq_if_ge (t := 11) (q := 6) G dX9_common_3 (by decide) rfl (fun c3 => ?_) (fun c3 => ?_)
  · have hx : 0 ≤ X := by
      have h := (lg_cmp_ge _ _).mp c3
      rw [e0, Int64.le_iff_toInt_le, lZ_toInt (by omega) (by omega), lZ_toInt (by omega) (by omega)] at h
      exact h
    refine bq_lload_n (q := 12) G rfl dX9_common_11 rfl ?_
    refine bq_lstore (q := 14) (ls' := [_, _, _, _, _, _, _, _, _, _]) G dX9_common_12 rfl (by decide) rfl rfl ?_
    refine bq_lload_n (q := 15) G rfl dX9_common_14 rfl ?_
    refine bq_lstore (q := 17) (ls' := [_, _, _, _, _, _, _, _, _, _]) G dX9_common_15 rfl (by decide) rfl rfl ?_
    have e1 : lZ X = lN X.natAbs := by rw [← lZ_N]; congr 1; omega
    have hl := loop (b + 1) X.natAbs b (by omega) (by omega) (by omega) rfl none
    rw [← e1] at hl
    exact hl
  · have hx : X < 0 := by
      have h := fun h => c3 ((lg_cmp_ge _ _).mpr h)
      rcases Int.lt_or_le X 0 with h1 | h1
      · exact h1
      · exact absurd (by rw [e0, Int64.le_iff_toInt_le, lZ_toInt (by omega) (by omega), lZ_toInt (by omega) (by omega)]; exact h1) h
    refine bq_lload_n (q := 7) G rfl dX9_common_6 rfl ?_
    refine bq_lneg (q := 8) G dX9_common_7 rfl ?_
    refine bq_goto (q := 12) G dX9_common_8 (by decide) ?_
    refine bq_lstore (q := 14) (ls' := [_, _, _, _, _, _, _, _, _, _]) G dX9_common_12 rfl (by decide) rfl rfl ?_
    refine bq_lload_n (q := 15) G rfl dX9_common_14 rfl ?_
    refine bq_lstore (q := 17) (ls' := [_, _, _, _, _, _, _, _, _, _]) G dX9_common_15 rfl (by decide) rfl rfl ?_
    have e1 : -lZ X = lN X.natAbs := by rw [lZ_neg, ← lZ_N]; congr 1; omega
    have hl := loop (b + 1) X.natAbs b (by omega) (by omega) (by omega) rfl none
    rw [← e1] at hl
    exact hl
