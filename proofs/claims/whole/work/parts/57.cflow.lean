/-! fractions of the class -/
def gs_fr (L : bq_LR) (u l : Int64) : bq_LR := bq_sr L 72 (vp_updL (vp_updL (L 72) 0 u) 1 l)
theorem gs_fr_u {L : bq_LR} {u l x : Int64} : bq_sr (gs_fr L u l) 72 (vp_updL (gs_fr L u l 72) 0 x) = gs_fr L x l := by
  unfold gs_fr
  rw [bq_sr_sr, bq_sr_s]
  congr 1
  funext j
  unfold vp_updL
  by_cases h : j = 0
  · subst h; rfl
  · by_cases h1 : j = 1
    · subst h1; rfl
    · simp [h, h1]
theorem gs_fr_l {L : bq_LR} {u l x : Int64} : bq_sr (gs_fr L u l) 72 (vp_updL (gs_fr L u l 72) 1 x) = gs_fr L u x := by
  unfold gs_fr
  rw [bq_sr_sr, bq_sr_s]
  congr 1
  funext j
  unfold vp_updL
  by_cases h1 : j = 1
  · subst h1; rfl
  · simp [h1]
theorem gs_fr_0 {L : bq_LR} {u l : Int64} : bq_sr (bq_sr L 72 (vp_updL (L 72) 0 u)) 72 (vp_updL (bq_sr L 72 (vp_updL (L 72) 0 u) 72) 1 l) = gs_fr L u l := by
  unfold gs_fr
  rw [bq_sr_sr, bq_sr_s]
theorem gs_fr_2 {L : bq_LR} {u l u' l' : Int64} : gs_fr (gs_fr L u l) u' l' = gs_fr L u' l' := by
  rw [← gs_fr_0 (L := gs_fr L u l), gs_fr_u, gs_fr_l]
theorem gs_fr_g0 {L : bq_LR} {u l : Int64} : gs_fr L u l 72 0 = u := by unfold gs_fr; rw [bq_sr_s]; rfl
theorem gs_fr_g1 {L : bq_LR} {u l : Int64} : gs_fr L u l 72 1 = l := by unfold gs_fr; rw [bq_sr_s]; rfl
theorem gs_fr_n {L : bq_LR} {u l : Int64} {x : Nat} (h : x ≠ 72) : gs_fr L u l x = L x := bq_sr_n h
theorem lN_ne {q : Nat} (h1 : 0 < q) (h2 : q < 2 ^ 62) : ¬ lN q = 0 := fun h => by
  rw [show (0 : Int64) = lN 0 from rfl, pk_lEQ (by omega) (by decide)] at h; omega
theorem ix_half {a b n : Nat} (hb0 : 0 < b) (hb : b < 2 ^ (n + 1)) (h0 : 0 < a % b) : b % (a % b) < 2 ^ n := by
  have hlt : a % b < b := Nat.mod_lt _ hb0
  have h1 := Nat.mod_lt b h0
  have h2 : b % (a % b) ≤ b - a % b := by
    rw [Nat.mod_eq_sub_mod (Nat.le_of_lt hlt)]
    exact Nat.mod_le _ _
  rw [Nat.pow_succ] at hb
  omega
set_option maxHeartbeats 1000000 in
set_option maxRecDepth 100000 in
theorem c_X1_commonDivisor {z n : Nat} {R : bq_RR} {I : bq_IR} {L : bq_LR} {a b : Nat} (ha : a < 2 ^ 62) (hb : b < 2 ^ 62) : bq_FC MX1_commonDivisor z [.long (lN a), .long (lN b)] n R I L 0 0 (some (.long (lN (Nat.gcd a b)))) n R (I) (L) := by
  refine bq_ofL [some (.long (lN a)), none, some (.long (lN b)), none, none, none, none, none, none, none, none] rfl (Nat.le_of_ble_eq_true rfl) (by decide) rfl ?_
  intro A G hret
  have G : bq_Cx cX1_commonDivisor RX1 11 z (bq_rm MX1_commonDivisor 0 0) "commonDivisor" A := G
  have stop : ∀ (p i : Nat), i ≤ 199 → p = Nat.gcd a b → A 0 0 9 [some (.long (lN a)), none, some (.long (lN b)), none, some (.long (lN p)), none, some (.long (lN 0)), none, some (.int (nI i)), none, none] [] n R I L := by
    intro p i hi hp
    refine bq_iload (q := 11) G rfl dX1_commonDivisor_9 rfl ?_
    refine bq_sipush (q := 14) (v := 200) G (by decide) dX1_commonDivisor_11 rfl ?_
    refine bq_icmp_ge_f (q := 17) (t := 45) G dX1_commonDivisor_14 rfl (by decide) (nI_ge (a := i) (b := 200) (by omega) (by decide)) ?_
    refine bq_lload (q := 19) G rfl dX1_commonDivisor_17 rfl ?_
    refine bq_lconst (q := 20) (v := 0) G (by decide) dX1_commonDivisor_19 rfl ?_
    refine bq_lcmp (q := 21) G dX1_commonDivisor_20 rfl ?_
    refine bq_if_eq_t (t := 45) G dX1_commonDivisor_21 (by decide) ((lg_cmp_eq _ _).mpr rfl) ?_
    refine bq_lload (q := 47) G rfl dX1_commonDivisor_45 rfl ?_
    exact bq_rl (hret _ _ dX1_commonDivisor_47) (by rw [hp]) rfl rfl
  have step : ∀ (p q i : Nat), i ≤ 199 → p < 2 ^ 62 → 0 < q → q < 2 ^ 62 → A 0 0 9 [some (.long (lN a)), none, some (.long (lN b)), none, some (.long (lN q)), none, some (.long (lN (p % q))), none, some (.int (nI (i + 1))), none, none] [] n R I L → A 0 0 9 [some (.long (lN a)), none, some (.long (lN b)), none, some (.long (lN p)), none, some (.long (lN q)), none, some (.int (nI i)), none, none] [] n R I L := by
    intro p q i hi hp h0 hq k
    refine bq_iload (q := 11) G rfl dX1_commonDivisor_9 rfl ?_
    refine bq_sipush (q := 14) (v := 200) G (by decide) dX1_commonDivisor_11 rfl ?_
    refine bq_icmp_ge_f (q := 17) (t := 45) G dX1_commonDivisor_14 rfl (by decide) (nI_ge (a := i) (b := 200) (by omega) (by decide)) ?_
    refine bq_lload (q := 19) G rfl dX1_commonDivisor_17 rfl ?_
    refine bq_lconst (q := 20) (v := 0) G (by decide) dX1_commonDivisor_19 rfl ?_
    refine bq_lcmp (q := 21) G dX1_commonDivisor_20 rfl ?_
    refine bq_if_eq_f (q := 24) (t := 45) G dX1_commonDivisor_21 rfl (by decide) (fun h => lN_ne h0 hq ((lg_cmp_eq _ _).mp h)) ?_
    refine bq_lload (q := 26) G rfl dX1_commonDivisor_24 rfl ?_
    refine bq_lload (q := 28) G rfl dX1_commonDivisor_26 rfl ?_
    refine bq_lrem (q := 29) G (lN_ne h0 hq) dX1_commonDivisor_28 rfl ?_
    refine bq_top (congrArg Value.long (pk_lRem (by omega) h0 (by omega))) ?_
    refine bq_lstore (q := 31) (ls' := [_, _, _, _, _, _, _, _, _, _, _]) G dX1_commonDivisor_29 rfl (by decide) rfl rfl ?_
    refine bq_lload (q := 33) G rfl dX1_commonDivisor_31 rfl ?_
    refine bq_lstore (q := 35) (ls' := [_, _, _, _, _, _, _, _, _, _, _]) G dX1_commonDivisor_33 rfl (by decide) rfl rfl ?_
    refine bq_lload (q := 37) G rfl dX1_commonDivisor_35 rfl ?_
    refine bq_lstore (q := 39) (ls' := [_, _, _, _, _, _, _, _, _, _, _]) G dX1_commonDivisor_37 rfl (by decide) rfl rfl ?_
    refine bq_iinc (q := 42) (ls' := [_, _, _, _, _, _, _, _, _, _, _]) G dX1_commonDivisor_39 rfl rfl (by first | exact nI_1 _ | exact pk_m1 _ | rfl) (by decide) rfl rfl ?_
    refine bq_goto (q := 9) G dX1_commonDivisor_42 (by decide) ?_
    refine bq_forget G ?_ k
    repeat (first | exact bq_le_0 _ | refine bq_le_n ?_ | refine bq_le_s rfl ?_)
  have loop : ∀ m p q i : Nat, q < 2 ^ m → m ≤ 62 → p < 2 ^ 62 → i + 2 * m ≤ 199 → Nat.gcd p q = Nat.gcd a b → A 0 0 9 [some (.long (lN a)), none, some (.long (lN b)), none, some (.long (lN p)), none, some (.long (lN q)), none, some (.int (nI i)), none, none] [] n R I L := by
    intro m
    induction m with
    | zero =>
      intro p q i hq _ hp hi hg
      have h0 : q = 0 := by rw [Nat.pow_zero] at hq; omega
      subst h0
      exact stop p i (by omega) (by rw [← hg, Nat.gcd_zero_right])
    | succ m ih =>
      intro p q i hq hm hp hi hg
      have hq62 : q < 2 ^ 62 := Nat.lt_of_lt_of_le hq (Nat.pow_le_pow_right (by decide) hm)
      rcases Nat.eq_zero_or_pos q with h0 | h0
      · subst h0
        exact stop p i (by omega) (by rw [← hg, Nat.gcd_zero_right])
      · have hr := Nat.mod_lt p h0
        have hg1 : Nat.gcd q (p % q) = Nat.gcd a b := by rw [← hg, Nat.gcd_comm p q, Nat.gcd_rec q p, Nat.gcd_comm]
        refine step p q i (by omega) hp h0 hq62 ?_
        rcases Nat.eq_zero_or_pos (p % q) with h1 | h1
        · rw [h1] at hg1 ⊢
          exact stop q (i + 1) (by omega) (by rw [← hg1, Nat.gcd_zero_right])
        · refine step q (p % q) (i + 1) (by omega) hq62 h1 (by omega) ?_
          refine ih (p % q) (q % (p % q)) (i + 1 + 1) (ix_half h0 hq h1) (by omega) (by omega) (by omega) ?_
          rw [← hg1, Nat.gcd_comm q (p % q), Nat.gcd_rec (p % q) q, Nat.gcd_comm]
  refine bq_lload_n (q := 1) G rfl dX1_commonDivisor_0 rfl ?_
  refine bq_lstore (q := 3) (ls' := [_, _, _, _, _, _, _, _, _, _, _]) G dX1_commonDivisor_1 rfl (by decide) rfl rfl ?_
  refine bq_lload_n (q := 4) G rfl dX1_commonDivisor_3 rfl ?_
  refine bq_lstore (q := 6) (ls' := [_, _, _, _, _, _, _, _, _, _, _]) G dX1_commonDivisor_4 rfl (by decide) rfl rfl ?_
  refine bq_iconst (q := 7) (v := 0) G (by decide) dX1_commonDivisor_6 rfl ?_
  refine bq_istore (q := 9) (ls' := [_, _, _, _, _, _, _, _, _, _, _]) G dX1_commonDivisor_7 rfl (by decide) rfl rfl ?_
  exact loop 62 a b 0 hb (by omega) ha (by omega) rfl
set_option maxHeartbeats 1000000 in
set_option maxRecDepth 100000 in
theorem c_X1_become {z : Nat} {I : bq_IR} {L : bq_LR} {X : Int} {Y : Nat} (h1 : -(2 ^ 61) ≤ X) (h2 : X ≤ 2 ^ 61) (hY : 0 < Y) (hY2 : Y < 2 ^ 61) : bq_FC MX1_become z [.ref (z + 72), .long (lZ X), .long (lN Y)] 85 (bq_Rf z) I L 0 0 none 85 (bq_Rf z) (I) (gs_fr L (lZ (fr_u X Y)) (lN (fr_l X Y))) := by
  refine bq_ofV [some (.ref (z + 72)), some (.long (lZ X)), none, some (.long (lN Y)), none, none, none] rfl (Nat.le_of_ble_eq_true rfl) (by decide) rfl ?_
  intro A G hret
  have G : bq_Cx cX1_become RX1 7 z (bq_rm MX1_become 0 0) "become" A := G
  have hg := fr_g_pos (X := X) hY
  have hgl := fr_g_le (X := X) hY
  have hgl2 : Nat.gcd X.natAbs Y ≤ Y := hgl
  have eabs : (if 0 ≤ lg_cmp (lZ X) 0 then lZ X else -lZ X) = lN X.natAbs := by
    have e0 : (0 : Int64) = lZ 0 := rfl
    have key : 0 ≤ lg_cmp (lZ X) 0 ↔ 0 ≤ X := by rw [lg_cmp_ge, e0, Int64.le_iff_toInt_le, lZ_toInt (by omega) (by omega), lZ_toInt (by omega) (by omega)]
    by_cases h : 0 ≤ X
    · rw [if_pos (key.mpr h), ← lZ_N]; congr 1; omega
    · rw [if_neg (fun h2 => h (key.mp h2)), lZ_neg, ← lZ_N]; congr 1; omega
  refine bq_aload_n (q := 1) G rfl dX1_become_0 rfl ?_
  refine bq_lload_n (q := 2) G rfl dX1_become_1 rfl ?_
  refine bq_putl (q := 5) G dX1_become_2 rfl fl_X1_13 (by first | assumption | exact ⟨Nat.le_of_ble_eq_true rfl, rfl⟩) rfl rfl ?_
  refine bq_aload_n (q := 6) G rfl dX1_become_5 rfl ?_
  refine bq_lload_n (q := 7) G rfl dX1_become_6 rfl ?_
  refine bq_putl (q := 10) G dX1_become_7 rfl fl_X1_7 (by first | assumption | exact ⟨Nat.le_of_ble_eq_true rfl, rfl⟩) rfl rfl ?_
  rw [gs_fr_0]
  refine bq_lload_n (q := 11) G rfl dX1_become_10 rfl ?_
  refine bq_calls (q := 14) G dX1_become_11 rfl cl_X1_16 (c_J9_abs_067f4) rfl rfl ⟨Nat.le_of_ble_eq_true rfl, Nat.le_of_ble_eq_true rfl⟩ (Nat.le_of_ble_eq_true rfl) ⟨Nat.le_of_ble_eq_true rfl, Nat.le_of_ble_eq_true rfl⟩ rfl ?_
  rw [eabs]
  refine bq_lload_n (q := 15) G rfl dX1_become_14 rfl ?_
  refine bq_calls (q := 18) G dX1_become_15 rfl cl_X1_22 (c_X1_commonDivisor (by omega) (by omega)) rfl rfl ⟨Nat.le_of_ble_eq_true rfl, Nat.le_of_ble_eq_true rfl⟩ (Nat.le_of_ble_eq_true rfl) ⟨Nat.le_of_ble_eq_true rfl, Nat.le_of_ble_eq_true rfl⟩ rfl ?_
  refine bq_lstore (q := 20) (ls' := [_, _, _, _, _, _, _]) G dX1_become_18 rfl (by decide) rfl rfl ?_
  refine bq_lload (q := 22) G rfl dX1_become_20 rfl ?_
  refine bq_lconst (q := 23) (v := 1) G (by decide) dX1_become_22 rfl ?_
  refine bq_lcmp (q := 24) G dX1_become_23 rfl ?_
  refine bq_if_le (t := 43) (q := 27) G dX1_become_24 (by decide) rfl (fun c24 => ?_) (fun c24 => ?_)
  · have h1 : fr_g X Y = 1 := by
      have h := (lg_cmp_le _ _).mp c24
      rw [show (1 : Int64) = lN 1 from rfl, pk_lLE (by have : Nat.gcd X.natAbs Y ≤ Y := hgl; omega) (by decide)] at h
      have : fr_g X Y ≤ 1 := h
      omega
    refine bq_rv (hret _ _ dX1_become_43) rfl rfl ?_
    unfold fr_u fr_l
    rw [h1, Nat.div_one, Int.natCast_one, Int.ediv_one]
  · refine bq_aload_n (q := 28) G rfl dX1_become_27 rfl ?_
    refine bq_lload_n (q := 29) G rfl dX1_become_28 rfl ?_
    refine bq_lload (q := 31) G rfl dX1_become_29 rfl ?_
    refine bq_ldiv (q := 32) G (lN_ne hg (by omega)) dX1_become_31 rfl ?_
    rw [show lZ X / lN (Nat.gcd X.natAbs Y) = lZ (fr_u X Y) from lZ_div (by omega) (by omega) hg (by omega) (fr_g_dl X Y)]
    refine bq_putl (q := 35) G dX1_become_32 rfl fl_X1_13 (by first | assumption | exact ⟨Nat.le_of_ble_eq_true rfl, rfl⟩) rfl rfl ?_
    refine bq_aload_n (q := 36) G rfl dX1_become_35 rfl ?_
    refine bq_lload_n (q := 37) G rfl dX1_become_36 rfl ?_
    refine bq_lload (q := 39) G rfl dX1_become_37 rfl ?_
    refine bq_ldiv (q := 40) G (lN_ne hg (by omega)) dX1_become_39 rfl ?_
    rw [show lN Y / lN (Nat.gcd X.natAbs Y) = lN (fr_l X Y) from pk_lDiv (by omega) hg (by omega)]
    refine bq_putl (q := 43) G dX1_become_40 rfl fl_X1_7 (by first | assumption | exact ⟨Nat.le_of_ble_eq_true rfl, rfl⟩) rfl rfl ?_
    refine bq_rv (hret _ _ dX1_become_43) rfl rfl ?_
    rw [gs_fr_u, gs_fr_l]
theorem c_become {z : Nat} {I : bq_IR} {L : bq_LR} {X : Int} {Y : Nat} {x y : Int64} (hx : x = lZ X) (hy : y = lN Y) (h1 : -(2 ^ 61) ≤ X) (h2 : X ≤ 2 ^ 61) (hY : 0 < Y) (hY2 : Y < 2 ^ 61) : bq_FC MX1_become z [.ref (z + 72), .long x, .long y] 85 (bq_Rf z) I L 0 0 none 85 (bq_Rf z) I (gs_fr L (lZ (fr_u X Y)) (lN (fr_l X Y))) := by subst hx hy; exact c_X1_become h1 h2 hY hY2
set_option maxHeartbeats 1000000 in
set_option maxRecDepth 100000 in
theorem c_X1_plus {z : Nat} {I : bq_IR} {L : bq_LR} {s U : Int} {p V : Nat} (hu : L 72 0 = lZ U) (hv : L 72 1 = lN V) (h1 : -(2 ^ 61) ≤ U * p + s * V) (h2 : U * p + s * V ≤ 2 ^ 61) (hY : 0 < V * p) (hY2 : V * p < 2 ^ 61) : bq_FC MX1_plus z [.ref (z + 72), .long (lZ s), .long (lN p)] 85 (bq_Rf z) I L 0 0 none 85 (bq_Rf z) (I) (gs_fr L (lZ (fr_u (U * p + s * V) (V * p))) (lN (fr_l (U * p + s * V) (V * p)))) := by
  refine bq_ofV [some (.ref (z + 72)), some (.long (lZ s)), none, some (.long (lN p)), none] rfl (Nat.le_of_ble_eq_true rfl) (by decide) rfl ?_
  intro A G hret
  have G : bq_Cx cX1_plus RX1 5 z (bq_rm MX1_plus 0 0) "plus" A := G
  refine bq_aload_n (q := 1) G rfl dX1_plus_0 rfl ?_
  refine bq_aload_n (q := 2) G rfl dX1_plus_1 rfl ?_
  refine bq_getl (q := 5) G dX1_plus_2 rfl fl_X1_13 (by first | assumption | exact ⟨Nat.le_of_ble_eq_true rfl, rfl⟩) rfl ?_
  refine bq_lload_n (q := 6) G rfl dX1_plus_5 rfl ?_
  refine bq_lmul (q := 7) G dX1_plus_6 rfl ?_
  refine bq_lload_n (q := 8) G rfl dX1_plus_7 rfl ?_
  refine bq_aload_n (q := 9) G rfl dX1_plus_8 rfl ?_
  refine bq_getl (q := 12) G dX1_plus_9 rfl fl_X1_7 (by first | assumption | exact ⟨Nat.le_of_ble_eq_true rfl, rfl⟩) rfl ?_
  refine bq_lmul (q := 13) G dX1_plus_12 rfl ?_
  refine bq_ladd (q := 14) G dX1_plus_13 rfl ?_
  refine bq_aload_n (q := 15) G rfl dX1_plus_14 rfl ?_
  refine bq_getl (q := 18) G dX1_plus_15 rfl fl_X1_7 (by first | assumption | exact ⟨Nat.le_of_ble_eq_true rfl, rfl⟩) rfl ?_
  refine bq_lload_n (q := 19) G rfl dX1_plus_18 rfl ?_
  refine bq_lmul (q := 20) G dX1_plus_19 rfl ?_
  refine bq_callv (q := 23) G dX1_plus_20 rfl cl_X1_26 (c_become (X := U * p + s * V) (Y := V * p) (by rw [hu, hv, ← lZ_N, ← lZ_N, lZ_mul, lZ_mul, lZ_add]) (by rw [hv, lN_mul]) h1 h2 hY hY2) rfl (by first | assumption | exact ⟨Nat.le_of_ble_eq_true rfl, rfl⟩) rfl ⟨Nat.le_of_ble_eq_true rfl, Nat.le_of_ble_eq_true rfl⟩ (Nat.le_of_ble_eq_true rfl) ⟨Nat.le_of_ble_eq_true rfl, Nat.le_of_ble_eq_true rfl⟩ rfl ?_
  exact hret _ _ dX1_plus_23
set_option maxHeartbeats 1000000 in
set_option maxRecDepth 100000 in
theorem c_X1_part {z : Nat} {I : bq_IR} {L : bq_LR} {c : Int32}  : bq_FC MX1_part z [.ref (z + 72), .int c] 85 (bq_Rf z) I L 0 0 (some (.long (if c = 0 then L 72 0 else L 72 1))) 85 (bq_Rf z) (I) (L) := by
  refine bq_ofL [some (.ref (z + 72)), some (.int c)] rfl (Nat.le_of_ble_eq_true rfl) (by decide) rfl ?_
  intro A G hret
  have G : bq_Cx cX1_part RX1 2 z (bq_rm MX1_part 0 0) "part" A := G
  refine bq_iload_n (q := 1) G rfl dX1_part_0 rfl ?_
  first | refine bq_ifb_ne (t := 11) (q := 4) G dX1_part_1 (by decide) rfl (fun c1 => ?_) (fun c1 => ?_) | refine bq_if_ne (t := 11) (q := 4) G dX1_part_1 (by decide) rfl (fun c1 => ?_) (fun c1 => ?_)
  · refine bq_aload_n (q := 12) G rfl dX1_part_11 rfl ?_
    refine bq_getl (q := 15) G dX1_part_12 rfl fl_X1_7 (by first | assumption | exact ⟨Nat.le_of_ble_eq_true rfl, rfl⟩) rfl ?_
    exact bq_rl (hret _ _ dX1_part_15) (by rw [if_neg c1]) rfl rfl
  · refine bq_aload_n (q := 5) G rfl dX1_part_4 rfl ?_
    refine bq_getl (q := 8) G dX1_part_5 rfl fl_X1_13 (by first | assumption | exact ⟨Nat.le_of_ble_eq_true rfl, rfl⟩) rfl ?_
    refine bq_goto (q := 15) G dX1_part_8 (by decide) ?_
    exact bq_rl (hret _ _ dX1_part_15) (by rw [if_pos c1]) rfl rfl
theorem ix_01 {c : Int32} : (0 ≤ c ∧ c ≤ 1) ↔ (c = 0 ∨ c = 1) := by
  constructor
  · intro h
    obtain ⟨j, hj, rfl⟩ := gs_rng (M := 1) (k := 1) (by decide) h
    rcases (show j = 0 ∨ j = 1 by omega) with rfl | rfl
    · exact Or.inl rfl
    · exact Or.inr rfl
  · rintro (rfl | rfl) <;> decide
theorem c_plus {z : Nat} {I : bq_IR} {L : bq_LR} {s U : Int} {p V : Nat} {x y : Int64} (hx : x = lZ s) (hy : y = lN p) (hu : L 72 0 = lZ U) (hv : L 72 1 = lN V) (h1 : -(2 ^ 61) ≤ U * p + s * V) (h2 : U * p + s * V ≤ 2 ^ 61) (hY : 0 < V * p) (hY2 : V * p < 2 ^ 61) : bq_FC MX1_plus z [.ref (z + 72), .long x, .long y] 85 (bq_Rf z) I L 0 0 none 85 (bq_Rf z) I (gs_fr L (lZ (fr_u (U * p + s * V) (V * p))) (lN (fr_l (U * p + s * V) (V * p)))) := by subst hx hy; exact c_X1_plus hu hv h1 h2 hY hY2
theorem fr_bnd {A0 s : Int} {B p k : Nat} (hB : B ≤ 6553600000000) (hk : k ≤ 8) (hA : -(64 * k * B : Int) ≤ A0 ∧ A0 ≤ 64 * k * B) (hs : -64 ≤ s ∧ s ≤ 64) (hp : p ≤ 40) : -(2 ^ 61) ≤ A0 * p + s * B ∧ A0 * p + s * B ≤ 2 ^ 61 := by
  have hkB : (64 * k * B : Int) ≤ 512 * B := Int.mul_le_mul_of_nonneg_right (show 64 * (k : Int) ≤ 512 by omega) (by omega)
  have a1 : A0 ≤ 3355443200000000 := by omega
  have a2 : -3355443200000000 ≤ A0 := by omega
  have b1 : A0 * p ≤ 3355443200000000 * p := Int.mul_le_mul_of_nonneg_right a1 (by omega)
  have b2 : -3355443200000000 * p ≤ A0 * p := Int.mul_le_mul_of_nonneg_right a2 (by omega)
  have c1 : s * B ≤ 64 * B := Int.mul_le_mul_of_nonneg_right hs.2 (by omega)
  have c2 : -64 * B ≤ s * B := Int.mul_le_mul_of_nonneg_right hs.1 (by omega)
  omega
set_option maxHeartbeats 1000000 in
set_option maxRecDepth 100000 in
theorem c_X8_flow {z : Nat} {I : bq_IR} {L : bq_LR} {c : Int32} {T S : Nat → Int32} (hC : gs_CS I T S) : bq_FC MX8_flow z [.ref (z + 0), .int c] 85 (bq_Rf z) I L 0 0 (some (.long (gs_flow S c))) 85 (bq_Rf z) (I) (if 0 ≤ c ∧ c ≤ 1 then gs_fr L (lZ (fr_A S 8).1) (lN (fr_A S 8).2) else L) := by
  refine bq_ofL [some (.ref (z + 0)), some (.int c), none, none] rfl (Nat.le_of_ble_eq_true rfl) (by decide) rfl ?_
  intro A G hret
  have G : bq_Cx cX8_flow RX8 4 z (bq_rm MX8_flow 0 0) "flow" A := G
  have hM := hC.2.1.1
  have hS := hC.2.2.1
  have main : (0 ≤ c ∧ c ≤ 1) → A 0 0 13 [some (.ref (z + 0)), some (.int c), none, none] [] 85 (bq_Rf z) I L := by
    intro h01
    rw [if_pos h01] at hret
    have loop : ∀ k, k ≤ 8 → A 0 0 24 [some (.ref (z + 0)), some (.int c), some (.int (nI k)), none] [] 85 (bq_Rf z) I (gs_fr L (lZ (fr_A S k).1) (lN (fr_A S k).2)) := by
      refine bq_down 8 ?_
      intro k hk ih
      rcases Nat.lt_or_ge k 8 with hk8 | hk8
      · have ih := ih hk8
        rw [fr_A_s] at ih
        obtain ⟨⟨i1, i2⟩, i3⟩ := fr_inv hS k hk
        have pw := fr_pow k hk
        refine bq_iload_n (q := 25) G rfl dX8_flow_24 rfl ?_
        refine bq_bipush (q := 27) (v := 8) G (by decide) dX8_flow_25 rfl ?_
        refine bq_icmp_ge_f (q := 30) (t := 96) G dX8_flow_27 rfl (by decide) (nI_ge (a := k) (b := 8) hk8 (by decide)) ?_
        refine bq_aload_n (q := 31) G rfl dX8_flow_30 rfl ?_
        refine bq_getr (q := 34) G dX8_flow_31 rfl fl_X8_36 (by first | assumption | exact ⟨Nat.le_of_ble_eq_true rfl, rfl⟩) (fun _ _ _ => rfl) (rf_0_4 z) ?_
        refine bq_iload_n (q := 35) G rfl dX8_flow_34 rfl ?_
        refine bq_callv (q := 38) G dX8_flow_35 rfl cl_X8_167 (c_isThere (bq_Mo17 z).1 hk8 hM.2.2.2.2.2) rfl (by first | assumption | exact ⟨Nat.le_of_ble_eq_true rfl, rfl⟩) rfl ⟨Nat.le_of_ble_eq_true rfl, Nat.le_of_ble_eq_true rfl⟩ (Nat.le_of_ble_eq_true rfl) ⟨Nat.le_of_ble_eq_true rfl, Nat.le_of_ble_eq_true rfl⟩ rfl ?_
        first | refine bq_ifb_eq (t := 90) (q := 41) G dX8_flow_38 (by decide) rfl (fun c38 => ?_) (fun c38 => ?_) | refine bq_if_eq (t := 90) (q := 41) G dX8_flow_38 (by decide) rfl (fun c38 => ?_) (fun c38 => ?_)
        · rw [if_neg c38] at ih
          refine bq_iinc (q := 93) (ls' := [_, _, _, _]) G dX8_flow_90 rfl rfl (by first | exact nI_1 _ | exact pk_m1 _ | rfl) (by decide) rfl rfl ?_
          refine bq_goto (q := 24) G dX8_flow_93 (by decide) ?_
          exact ih
        · rw [if_pos c38] at ih
          obtain ⟨p1, p2, pe⟩ := fr_p_in hS hk8 c38
          have s1 := fr_s_in hS hk8
          have hb := fr_bnd (by omega) hk i3 s1 p2
          have hBp : (fr_A S k).2 * fr_p S k ≤ 6553600000000 * 40 := Nat.mul_le_mul (by omega) p2
          have hp0 : 0 < (fr_A S k).2 * fr_p S k := Nat.mul_pos i1 (by omega)
          have hld := gs_ld_in (hS.2 k hk8).1
          have ep : I (17 + 2) k = S (11 + k) := (hM.2.1 k hk8).2.1
          have fin : ∀ y : Int64, y = lZ (fr_s S k) → A 0 0 77 [some (.ref (z + 0)), some (.int c), some (.int (nI k)), some (.int (gs_ld S k))] [.long y, .ref (z + 72)] 85 (bq_Rf z) I (gs_fr L (lZ (fr_A S k).1) (lN (fr_A S k).2)) := by
            intro y hy
            refine bq_aload_n (q := 78) G rfl dX8_flow_77 rfl ?_
            refine bq_getr (q := 81) G dX8_flow_78 rfl fl_X8_36 (by first | assumption | exact ⟨Nat.le_of_ble_eq_true rfl, rfl⟩) (fun _ _ _ => rfl) (rf_0_4 z) ?_
            refine bq_getr (q := 84) G dX8_flow_81 rfl fl_X8_113 (by first | assumption | exact ⟨Nat.le_of_ble_eq_true rfl, rfl⟩) (fun _ _ _ => rfl) (by first | assumption | rfl) ?_
            refine bq_iload_n (q := 85) G rfl dX8_flow_84 rfl ?_
            refine bq_iald (q := 86) (b := k) G dX8_flow_85 rfl (by first | assumption | exact ⟨Nat.le_of_ble_eq_true rfl, rfl⟩) rfl hk8 (by decide) ?_
            refine bq_i2l (q := 87) G dX8_flow_86 rfl ?_
            rw [ep, pe]
            refine bq_callv (q := 90) G dX8_flow_87 rfl cl_X8_217 (c_plus (U := (fr_A S k).1) (V := (fr_A S k).2) (s := fr_s S k) (p := fr_p S k) hy rfl gs_fr_g0 gs_fr_g1 hb.1 hb.2 hp0 (by omega)) rfl (by first | assumption | exact ⟨Nat.le_of_ble_eq_true rfl, rfl⟩) rfl ⟨Nat.le_of_ble_eq_true rfl, Nat.le_of_ble_eq_true rfl⟩ (Nat.le_of_ble_eq_true rfl) ⟨Nat.le_of_ble_eq_true rfl, Nat.le_of_ble_eq_true rfl⟩ rfl ?_
            rw [gs_fr_2]
            refine bq_iinc (q := 93) (ls' := [_, _, _, _]) G dX8_flow_90 rfl rfl (by first | exact nI_1 _ | exact pk_m1 _ | rfl) (by decide) rfl rfl ?_
            refine bq_goto (q := 24) G dX8_flow_93 (by decide) ?_
            refine bq_forget G ?_ ih
            repeat (first | exact bq_le_0 _ | refine bq_le_n ?_ | refine bq_le_s rfl ?_)
          have hg := hM.2.2.1.get hk8
          refine bq_aload_n (q := 42) G rfl dX8_flow_41 rfl ?_
          refine bq_getr (q := 45) G dX8_flow_42 rfl fl_X8_36 (by first | assumption | exact ⟨Nat.le_of_ble_eq_true rfl, rfl⟩) (fun _ _ _ => rfl) (rf_0_4 z) ?_
          refine bq_iload_n (q := 46) G rfl dX8_flow_45 rfl ?_
          refine bq_callv (q := 49) G dX8_flow_46 rfl cl_X8_214 (c_X5_loadOf (bq_Mo17 z) hM hk8) rfl (by first | assumption | exact ⟨Nat.le_of_ble_eq_true rfl, rfl⟩) rfl ⟨Nat.le_of_ble_eq_true rfl, Nat.le_of_ble_eq_true rfl⟩ (Nat.le_of_ble_eq_true rfl) ⟨Nat.le_of_ble_eq_true rfl, Nat.le_of_ble_eq_true rfl⟩ rfl ?_
          refine bq_istore_n (q := 50) (ls' := [_, _, _, _]) G dX8_flow_49 rfl (by decide) rfl rfl ?_
          refine bq_aload_n (q := 51) G rfl dX8_flow_50 rfl ?_
          refine bq_getr (q := 54) G dX8_flow_51 rfl fl_X8_68 (by first | assumption | exact ⟨Nat.le_of_ble_eq_true rfl, rfl⟩) (fun _ _ _ => rfl) (rf_0_10 z) ?_
          refine bq_aload_n (q := 55) G rfl dX8_flow_54 rfl ?_
          refine bq_getr (q := 58) G dX8_flow_55 rfl fl_X8_36 (by first | assumption | exact ⟨Nat.le_of_ble_eq_true rfl, rfl⟩) (fun _ _ _ => rfl) (rf_0_4 z) ?_
          refine bq_geti (q := 61) G dX8_flow_58 rfl fl_X8_119 (by first | assumption | exact ⟨Nat.le_of_ble_eq_true rfl, rfl⟩) rfl ?_
          refine bq_iload_n (q := 62) G rfl dX8_flow_61 rfl ?_
          refine bq_calls (q := 65) G dX8_flow_62 rfl cl_X8_122 (c_X8_bitOf) rfl rfl ⟨Nat.le_of_ble_eq_true rfl, Nat.le_of_ble_eq_true rfl⟩ (Nat.le_of_ble_eq_true rfl) ⟨Nat.le_of_ble_eq_true rfl, Nat.le_of_ble_eq_true rfl⟩ rfl ?_
          rw [hg]
          refine bq_iconst (q := 66) (v := 1) G (by decide) dX8_flow_65 rfl ?_
          refine bq_icmp_ne (t := 75) (q := 69) G dX8_flow_66 (by decide) rfl (fun c66 => ?_) (fun c66 => ?_)
          · refine bq_iload_n (q := 76) G rfl dX8_flow_75 rfl ?_
            refine bq_i2l (q := 77) G dX8_flow_76 rfl ?_
            exact fin _ (by rw [lZ_i]; unfold fr_s; rw [if_neg c66])
          · refine bq_iload_n (q := 70) G rfl dX8_flow_69 rfl ?_
            refine bq_ineg (q := 71) G dX8_flow_70 rfl ?_
            refine bq_i2l (q := 72) G dX8_flow_71 rfl ?_
            refine bq_goto (q := 77) G dX8_flow_72 (by decide) ?_
            exact fin _ (by rw [lZ_i, gs_toInt_neg (by omega) (by omega)]; unfold fr_s; rw [if_pos c66])
      · have hk9 : k = 8 := by omega
        subst hk9
        refine bq_iload_n (q := 25) G rfl dX8_flow_24 rfl ?_
        refine bq_bipush (q := 27) (v := 8) G (by decide) dX8_flow_25 rfl ?_
        refine bq_icmp_ge_t (t := 96) G dX8_flow_27 (by decide) (nI_le (a := 8) (b := 8) (by omega) (by decide)) ?_
        refine bq_aload_n (q := 97) G rfl dX8_flow_96 rfl ?_
        refine bq_getr (q := 100) G dX8_flow_97 rfl fl_X8_68 (by first | assumption | exact ⟨Nat.le_of_ble_eq_true rfl, rfl⟩) (fun _ _ _ => rfl) (rf_0_10 z) ?_
        refine bq_iload_n (q := 101) G rfl dX8_flow_100 rfl ?_
        refine bq_callv (q := 104) G dX8_flow_101 rfl cl_X8_220 (c_X1_part) rfl (by first | assumption | exact ⟨Nat.le_of_ble_eq_true rfl, rfl⟩) rfl ⟨Nat.le_of_ble_eq_true rfl, Nat.le_of_ble_eq_true rfl⟩ (Nat.le_of_ble_eq_true rfl) ⟨Nat.le_of_ble_eq_true rfl, Nat.le_of_ble_eq_true rfl⟩ rfl ?_
        refine bq_rl (hret _ _ dX8_flow_104) ?_ rfl rfl
        rw [gs_fr_g0, gs_fr_g1]
        unfold gs_flow
        rw [if_pos h01]
    refine bq_aload_n (q := 14) G rfl dX8_flow_13 rfl ?_
    refine bq_getr (q := 17) G dX8_flow_14 rfl fl_X8_68 (by first | assumption | exact ⟨Nat.le_of_ble_eq_true rfl, rfl⟩) (fun _ _ _ => rfl) (rf_0_10 z) ?_
    refine bq_lconst (q := 18) (v := 0) G (by decide) dX8_flow_17 rfl ?_
    refine bq_lconst (q := 19) (v := 1) G (by decide) dX8_flow_18 rfl ?_
    refine bq_callv (q := 22) G dX8_flow_19 rfl cl_X8_210 (c_become (X := 0) (Y := 1) rfl rfl (by decide) (by decide) (by decide) (by decide)) rfl (by first | assumption | exact ⟨Nat.le_of_ble_eq_true rfl, rfl⟩) rfl ⟨Nat.le_of_ble_eq_true rfl, Nat.le_of_ble_eq_true rfl⟩ (Nat.le_of_ble_eq_true rfl) ⟨Nat.le_of_ble_eq_true rfl, Nat.le_of_ble_eq_true rfl⟩ rfl ?_
    refine bq_iconst (q := 23) (v := 0) G (by decide) dX8_flow_22 rfl ?_
    refine bq_istore_n (q := 24) (ls' := [_, _, _, _]) G dX8_flow_23 rfl (by decide) rfl rfl ?_
    exact loop 0 (by omega)
  refine bq_iload_n (q := 1) G rfl dX8_flow_0 rfl ?_
  first | refine bq_ifb_eq (t := 13) (q := 4) G dX8_flow_1 (by decide) rfl (fun c1 => ?_) (fun c1 => ?_) | refine bq_if_eq (t := 13) (q := 4) G dX8_flow_1 (by decide) rfl (fun c1 => ?_) (fun c1 => ?_)
  · exact main (ix_01.mpr (Or.inl c1))
  · refine bq_iload_n (q := 5) G rfl dX8_flow_4 rfl ?_
    refine bq_iconst (q := 6) (v := 1) G (by decide) dX8_flow_5 rfl ?_
    refine bq_icmp_eq (t := 13) (q := 9) G dX8_flow_6 (by decide) rfl (fun c6 => ?_) (fun c6 => ?_)
    · exact main (ix_01.mpr (Or.inr c6))
    · have hn : ¬ (0 ≤ c ∧ c ≤ 1) := fun h => (ix_01.mp h).elim c1 c6
      refine bq_ldc2 (q := 12) G wk_X8_208 dX8_flow_9 rfl ?_
      exact bq_rl (hret _ _ dX8_flow_12) (by unfold gs_flow; rw [if_neg hn]) rfl (by rw [if_neg hn])
