/-! the odds of the class -/
def od_r0 (k : Nat) (g : Nat → Int64) : Nat → Int64 := fun j => if j < k then (if j = 0 then 1 else 0) else g j
theorem od_r0_0 {g : Nat → Int64} : od_r0 0 g = g := by funext j; exact if_neg (by omega)
theorem od_r0_s {k : Nat} {g : Nat → Int64} {v : Int64} (hv : v = if k = 0 then 1 else 0) : vp_updL (od_r0 k g) k v = od_r0 (k + 1) g := by
  subst hv
  funext j
  show (if j = k then (if k = 0 then 1 else 0) else (if j < k then (if j = 0 then 1 else 0) else g j)) = if j < k + 1 then (if j = 0 then 1 else 0) else g j
  by_cases h : j = k
  · rw [if_pos h, if_pos (show j < k + 1 by omega), h]
  · rw [if_neg h]
    by_cases h2 : j < k
    · rw [if_pos h2, if_pos (show j < k + 1 by omega)]
    · rw [if_neg h2, if_neg (show ¬ j < k + 1 by omega)]
/-- row t + 1 above i, row t up to i -/
def od_mx (p t i : Nat) (g : Nat → Int64) : Nat → Int64 := fun j => if j < 10 then (if i < j then lN (od_c p (t + 1) j) else lN (od_c p t j)) else g j
def od_row (p t : Nat) (g : Nat → Int64) : Nat → Int64 := fun j => if j < 10 then lN (od_c p t j) else g j
theorem od_r0_10 {p : Nat} {g : Nat → Int64} : od_r0 10 g = od_row p 0 g := by
  funext j
  unfold od_r0 od_row
  by_cases h : j < 10
  · rw [if_pos h, if_pos h]
    show _ = lN (if j = 0 then 1 else 0)
    split <;> rfl
  · rw [if_neg h, if_neg h]
theorem od_mx9 {p t : Nat} {g : Nat → Int64} : od_mx p t 9 g = od_row p t g := by
  funext j
  unfold od_mx od_row
  by_cases h : j < 10
  · rw [if_pos h, if_pos h, if_neg (by omega)]
  · rw [if_neg h, if_neg h]
theorem od_mx_s {p t i : Nat} {g : Nat → Int64} (hi : i + 1 < 10) {v : Int64} (hv : v = lN (od_c p (t + 1) (i + 1))) : vp_updL (od_mx p t (i + 1) g) (i + 1) v = od_mx p t i g := by
  subst hv
  funext j
  show (if j = i + 1 then lN (od_c p (t + 1) (i + 1)) else (if j < 10 then (if i + 1 < j then lN (od_c p (t + 1) j) else lN (od_c p t j)) else g j)) = if j < 10 then (if i < j then lN (od_c p (t + 1) j) else lN (od_c p t j)) else g j
  by_cases h : j = i + 1
  · rw [if_pos h, if_pos (show j < 10 by omega), if_pos (show i < j by omega), h]
  · rw [if_neg h]
    by_cases h2 : j < 10
    · rw [if_pos h2, if_pos h2]
      by_cases h3 : i + 1 < j
      · rw [if_pos h3, if_pos (show i < j by omega)]
      · rw [if_neg h3, if_neg (show ¬ i < j by omega)]
    · rw [if_neg h2, if_neg h2]
theorem od_mx_0 {p t : Nat} {g : Nat → Int64} {v : Int64} (hv : v = lN (od_c p (t + 1) 0)) : vp_updL (od_mx p t 0 g) 0 v = od_row p (t + 1) g := by
  subst hv
  funext j
  show (if j = 0 then lN (od_c p (t + 1) 0) else (if j < 10 then (if 0 < j then lN (od_c p (t + 1) j) else lN (od_c p t j)) else g j)) = if j < 10 then lN (od_c p (t + 1) j) else g j
  by_cases h : j = 0
  · rw [if_pos h, if_pos (show j < 10 by omega), h]
  · rw [if_neg h]
    by_cases h2 : j < 10
    · rw [if_pos h2, if_pos h2, if_pos (show 0 < j by omega)]
    · rw [if_neg h2, if_neg h2]
theorem od_mx_le {p t i j : Nat} {g : Nat → Int64} (h : j ≤ i) (hi : i < 10) : od_mx p t i g j = lN (od_c p t j) := by
  unfold od_mx; rw [if_pos (by omega), if_neg (by omega)]
theorem od_c_s (p t j : Nat) : od_c p (t + 1) (j + 1) = od_c p t (j + 1) * p + od_c p t j * (10 - p) := rfl
theorem od_c_0 (p t : Nat) : od_c p (t + 1) 0 = od_c p t 0 * p := rfl
set_option maxHeartbeats 1000000 in
set_option maxRecDepth 100000 in
theorem c_X8_countWays {z : Nat} {I : bq_IR} {L : bq_LR} {p t : Nat} (hp : p ≤ 10) (ht : t ≤ 9) : bq_FC MX8_countWays z [.ref (z + 0), .int (nI p), .int (nI t)] 85 (bq_Rf z) I L 0 0 (some (.long (lN (10 ^ t)))) 85 (bq_Rf z) (I) (bq_sr L 73 (od_row p t (L 73))) := by
  refine bq_ofL [some (.ref (z + 0)), some (.int (nI p)), some (.int (nI t)), none, none, none, none] rfl (Nat.le_of_ble_eq_true rfl) (by decide) rfl ?_
  intro A G hret
  have G : bq_Cx cX8_countWays RX8 7 z (bq_rm MX8_countWays 0 0) "countWays" A := G
  have l1 : ∀ k, k ≤ 10 → A 0 0 2 [some (.ref (z + 0)), some (.int (nI p)), some (.int (nI t)), some (.int (nI k)), none, none, none] [] 85 (bq_Rf z) I (bq_sr L 73 (od_r0 k (L 73))) := by
    refine bq_down 10 ?_
    intro k hk ih
    rcases Nat.lt_or_ge k 10 with hk8 | hk8
    · have ih := ih hk8
      have put : ∀ v : Int64, v = (if k = 0 then 1 else 0) → A 0 0 22 [some (.ref (z + 0)), some (.int (nI p)), some (.int (nI t)), some (.int (nI k)), none, none, none] [.long v, .int (nI k), .ref (z + 73)] 85 (bq_Rf z) I (bq_sr L 73 (od_r0 k (L 73))) := by
        intro v hv
        refine bq_last (q := 23) (b := k) G dX8_countWays_22 rfl (by first | assumption | exact ⟨Nat.le_of_ble_eq_true rfl, rfl⟩) rfl hk8 (by decide) ?_
        refine bq_iinc (q := 26) (ls' := [_, _, _, _, _, _, _]) G dX8_countWays_23 rfl rfl (by first | exact nI_1 _ | exact pk_m1 _ | rfl) (by decide) rfl rfl ?_
        refine bq_goto (q := 2) G dX8_countWays_26 (by decide) ?_
        rw [bq_sr_sr, bq_sr_s, od_r0_s hv]
        exact ih
      refine bq_iload_n (q := 3) G rfl dX8_countWays_2 rfl ?_
      refine bq_bipush (q := 5) (v := 9) G (by decide) dX8_countWays_3 rfl ?_
      refine bq_icmp_gt_f (q := 8) (t := 29) G dX8_countWays_5 rfl (by decide) (nI_nlt (a := 9) (b := k) (by omega) (by decide)) ?_
      refine bq_aload_n (q := 9) G rfl dX8_countWays_8 rfl ?_
      refine bq_getr (q := 12) G dX8_countWays_9 rfl fl_X8_72 (by first | assumption | exact ⟨Nat.le_of_ble_eq_true rfl, rfl⟩) (fun _ _ _ => rfl) (rf_0_11 z) ?_
      refine bq_iload_n (q := 13) G rfl dX8_countWays_12 rfl ?_
      refine bq_iload_n (q := 14) G rfl dX8_countWays_13 rfl ?_
      first | refine bq_ifb_ne (t := 21) (q := 17) G dX8_countWays_14 (by decide) rfl (fun c14 => ?_) (fun c14 => ?_) | refine bq_if_ne (t := 21) (q := 17) G dX8_countWays_14 (by decide) rfl (fun c14 => ?_) (fun c14 => ?_)
      · refine bq_lconst (q := 22) (v := 0) G (by decide) dX8_countWays_21 rfl ?_
        exact put _ (by rw [if_neg (fun h => c14 (by rw [h]; rfl))])
      · refine bq_lconst (q := 18) (v := 1) G (by decide) dX8_countWays_17 rfl ?_
        refine bq_goto (q := 22) G dX8_countWays_18 (by decide) ?_
        exact put _ (by rw [if_pos ((nI_eq (b := 0) (by omega) (by decide)).mp c14)])
    · have hk9 : k = 10 := by omega
      subst hk9
      refine bq_iload_n (q := 3) G rfl dX8_countWays_2 rfl ?_
      refine bq_bipush (q := 5) (v := 9) G (by decide) dX8_countWays_3 rfl ?_
      refine bq_icmp_gt_t (t := 29) G dX8_countWays_5 (by decide) (nI_lt (a := 9) (b := 10) (by omega) (by decide)) ?_
      refine bq_lconst (q := 30) (v := 1) G (by decide) dX8_countWays_29 rfl ?_
      refine bq_lstore_n (q := 31) (ls' := [_, _, _, _, _, _, _]) G dX8_countWays_30 rfl (by decide) rfl rfl ?_
      refine bq_iconst (q := 32) (v := 0) G (by decide) dX8_countWays_31 rfl ?_
      refine bq_istore (q := 34) (ls' := [_, _, _, _, _, _, _]) G dX8_countWays_32 rfl (by decide) rfl rfl ?_
      rw [od_r0_10 (p := p)]
      have l2 : ∀ i, i ≤ t → A 0 0 34 [some (.ref (z + 0)), some (.int (nI p)), some (.int (nI t)), some (.long (lN (10 ^ i))), none, some (.int (nI i)), none] [] 85 (bq_Rf z) I (bq_sr L 73 (od_row p i (L 73))) := by
        refine bq_down t ?_
        intro i hi ihi
        rcases Nat.lt_or_ge i t with hi8 | hi8
        · have ihi := ihi hi8
          refine bq_iload (q := 36) G rfl dX8_countWays_34 rfl ?_
          refine bq_iload_n (q := 37) G rfl dX8_countWays_36 rfl ?_
          refine bq_icmp_ge_f (q := 40) (t := 118) G dX8_countWays_37 rfl (by decide) (nI_ge (a := i) (b := t) hi8 (by omega)) ?_
          refine bq_iload (q := 42) G rfl dX8_countWays_40 rfl ?_
          refine bq_bipush (q := 44) (v := 9) G (by decide) dX8_countWays_42 rfl ?_
          refine bq_icmp_ge_f (q := 47) (t := 118) G dX8_countWays_44 rfl (by decide) (nI_ge (a := i) (b := 9) (by omega) (by decide)) ?_
          refine bq_lload_n (q := 48) G rfl dX8_countWays_47 rfl ?_
          refine bq_ldc2 (q := 51) G wk_X8_249 dX8_countWays_48 rfl ?_
          refine bq_lmul (q := 52) G dX8_countWays_51 rfl ?_
          refine bq_top (congrArg Value.long (by rw [show (10 : Int64) = lN 10 from rfl, lN_mul, ← Nat.pow_succ])) ?_
          refine bq_lstore_n (q := 53) (ls' := [_, _, _, _, _, _, _]) G dX8_countWays_52 rfl (by decide) rfl rfl ?_
          refine bq_bipush (q := 55) (v := 9) G (by decide) dX8_countWays_53 rfl ?_
          refine bq_istore (q := 57) (ls' := [_, _, _, _, _, _, _]) G dX8_countWays_55 rfl (by decide) rfl rfl ?_
          rw [← od_mx9]
          have l3 : ∀ j, j ≤ 9 → A 0 0 57 [some (.ref (z + 0)), some (.int (nI p)), some (.int (nI t)), some (.long (lN (10 ^ (i + 1)))), none, some (.int (nI i)), some (.int (nI j))] [] 85 (bq_Rf z) I (bq_sr L 73 (od_mx p i j (L 73))) := by
            intro j
            induction j with
            | zero =>
              intro _
              refine bq_iload (q := 59) G rfl dX8_countWays_57 rfl ?_
              refine bq_if_le_t (t := 101) G dX8_countWays_59 (by decide) (by decide) ?_
              refine bq_aload_n (q := 102) G rfl dX8_countWays_101 rfl ?_
              refine bq_getr (q := 105) G dX8_countWays_102 rfl fl_X8_72 (by first | assumption | exact ⟨Nat.le_of_ble_eq_true rfl, rfl⟩) (fun _ _ _ => rfl) (rf_0_11 z) ?_
              refine bq_iconst (q := 106) (v := 0) G (by decide) dX8_countWays_105 rfl ?_
              refine bq_dup2 (q := 107) G rfl rfl dX8_countWays_106 rfl ?_
              refine bq_lald (q := 108) (b := 0) G dX8_countWays_107 rfl (by first | assumption | exact ⟨Nat.le_of_ble_eq_true rfl, rfl⟩) rfl (by decide) (by decide) ?_
              refine bq_iload_n (q := 109) G rfl dX8_countWays_108 rfl ?_
              refine bq_i2l (q := 110) G dX8_countWays_109 rfl ?_
              refine bq_lmul (q := 111) G dX8_countWays_110 rfl ?_
              rw [bq_sr_s, od_mx_le (Nat.le_refl 0) (by decide), nI_l (by omega), lN_mul, ← od_c_0]
              refine bq_last (q := 112) (b := 0) G dX8_countWays_111 rfl (by first | assumption | exact ⟨Nat.le_of_ble_eq_true rfl, rfl⟩) rfl (by decide) (by decide) ?_
              refine bq_iinc (q := 115) (ls' := [_, _, _, _, _, _, _]) G dX8_countWays_112 rfl rfl (by first | exact nI_1 _ | exact pk_m1 _ | rfl) (by decide) rfl rfl ?_
              refine bq_goto (q := 34) G dX8_countWays_115 (by decide) ?_
              rw [bq_sr_sr, bq_sr_s, od_mx_0 rfl]
              refine bq_forget G ?_ ihi
              repeat (first | exact bq_le_0 _ | refine bq_le_n ?_ | refine bq_le_s rfl ?_)
            | succ j ihj =>
              intro hj
              have ihj := ihj (by omega)
              refine bq_iload (q := 59) G rfl dX8_countWays_57 rfl ?_
              refine bq_if_le_f (q := 62) (t := 101) G dX8_countWays_59 rfl (by decide) (nI_nle (by omega) (by omega)) ?_
              refine bq_aload_n (q := 63) G rfl dX8_countWays_62 rfl ?_
              refine bq_getr (q := 66) G dX8_countWays_63 rfl fl_X8_72 (by first | assumption | exact ⟨Nat.le_of_ble_eq_true rfl, rfl⟩) (fun _ _ _ => rfl) (rf_0_11 z) ?_
              refine bq_iload (q := 68) G rfl dX8_countWays_66 rfl ?_
              refine bq_aload_n (q := 69) G rfl dX8_countWays_68 rfl ?_
              refine bq_getr (q := 72) G dX8_countWays_69 rfl fl_X8_72 (by first | assumption | exact ⟨Nat.le_of_ble_eq_true rfl, rfl⟩) (fun _ _ _ => rfl) (rf_0_11 z) ?_
              refine bq_iload (q := 74) G rfl dX8_countWays_72 rfl ?_
              refine bq_lald (q := 75) (b := j + 1) G dX8_countWays_74 rfl (by first | assumption | exact ⟨Nat.le_of_ble_eq_true rfl, rfl⟩) rfl (by omega) (by decide) ?_
              refine bq_iload_n (q := 76) G rfl dX8_countWays_75 rfl ?_
              refine bq_i2l (q := 77) G dX8_countWays_76 rfl ?_
              refine bq_lmul (q := 78) G dX8_countWays_77 rfl ?_
              refine bq_aload_n (q := 79) G rfl dX8_countWays_78 rfl ?_
              refine bq_getr (q := 82) G dX8_countWays_79 rfl fl_X8_72 (by first | assumption | exact ⟨Nat.le_of_ble_eq_true rfl, rfl⟩) (fun _ _ _ => rfl) (rf_0_11 z) ?_
              refine bq_iload (q := 84) G rfl dX8_countWays_82 rfl ?_
              refine bq_iconst (q := 85) (v := 1) G (by decide) dX8_countWays_84 rfl ?_
              refine bq_isub (q := 86) G dX8_countWays_85 rfl ?_
              refine bq_lald (q := 87) (b := j) G dX8_countWays_86 rfl (by first | assumption | exact ⟨Nat.le_of_ble_eq_true rfl, rfl⟩) (nI_pred j) (by omega) (by decide) ?_
              refine bq_bipush (q := 89) (v := 10) G (by decide) dX8_countWays_87 rfl ?_
              refine bq_iload_n (q := 90) G rfl dX8_countWays_89 rfl ?_
              refine bq_isub (q := 91) G dX8_countWays_90 rfl ?_
              refine bq_i2l (q := 92) G dX8_countWays_91 rfl ?_
              refine bq_lmul (q := 93) G dX8_countWays_92 rfl ?_
              refine bq_ladd (q := 94) G dX8_countWays_93 rfl ?_
              rw [bq_sr_s, od_mx_le (Nat.le_refl _) (by omega), od_mx_le (Nat.le_succ j) (by omega), show (10 : Int32) = nI 10 from rfl, pk_sub hp, nI_l (by omega), nI_l (by omega), lN_mul, lN_mul, lN_add, ← od_c_s]
              refine bq_last (q := 95) (b := j + 1) G dX8_countWays_94 rfl (by first | assumption | exact ⟨Nat.le_of_ble_eq_true rfl, rfl⟩) rfl (by omega) (by decide) ?_
              refine bq_iinc (q := 98) (ls' := [_, _, _, _, _, _, _]) G dX8_countWays_95 rfl rfl (ix_dec j) (by decide) rfl rfl ?_
              refine bq_goto (q := 57) G dX8_countWays_98 (by decide) ?_
              rw [bq_sr_sr, bq_sr_s, od_mx_s (by omega) rfl]
              exact ihj
          exact l3 9 (by omega)
        · have hi9 : i = t := by omega
          subst hi9
          refine bq_iload (q := 36) G rfl dX8_countWays_34 rfl ?_
          refine bq_iload_n (q := 37) G rfl dX8_countWays_36 rfl ?_
          refine bq_icmp_ge_t (t := 118) G dX8_countWays_37 (by decide) (nI_le (a := i) (b := i) (by omega) (by omega)) ?_
          refine bq_lload_n (q := 119) G rfl dX8_countWays_118 rfl ?_
          exact hret _ _ dX8_countWays_119
      exact l2 0 (by omega)
  refine bq_iconst (q := 1) (v := 0) G (by decide) dX8_countWays_0 rfl ?_
  refine bq_istore_n (q := 2) (ls' := [_, _, _, _, _, _, _]) G dX8_countWays_1 rfl (by decide) rfl rfl ?_
  have h := l1 0 (by omega)
  rw [od_r0_0, bq_sr_id] at h
  exact h
theorem od_s_s (p t k m : Nat) : od_s p t k (m + 1) = od_s p t k m + od_c p t (k + m) := rfl
theorem od_fu {a d : Nat} : fr_u (a : Int) d = ((a / fr_g (a : Int) d : Nat) : Int) := by
  unfold fr_u
  exact (Int.natCast_ediv _ _).symm
set_option maxHeartbeats 1000000 in
set_option maxRecDepth 100000 in
theorem c_X8_odds {z : Nat} {I : bq_IR} {L : bq_LR} {b p m k c : Int32} {T S : Nat → Int32} (hC : gs_CS I T S) : bq_FI MX8_odds z [.ref (z + 0), .int b, .int p, .int m, .int k, .int c] 85 (bq_Rf z) I L (fun r J L' => gs_odds S b p m k c r ∧ J = I ∧ ∀ x, x ≠ 72 → x ≠ 73 → L' x = L x) := by
  refine bq_FIof [some (.ref (z + 0)), some (.int b), some (.int p), some (.int m), some (.int k), some (.int c), none, none, none, none, none, none] rfl (Nat.le_of_ble_eq_true rfl) (by decide) rfl (fun _ _ _ _ => rfl) ?_
  intro A G hret
  have G : bq_Cx cX8_odds RX8 12 z (bq_rm MX8_odds 0 0) "odds" A := G
  have hM := hC.2.1.1
  have hS := hC.2.2.1
  have hF := hM.2.2.2.2.2
  have no : ¬ (((0 ≤ b ∧ b ≤ 7) ∧ S (51 + b.toNatClampNeg) = 1) ∧ (0 ≤ p ∧ p ≤ 10) ∧ (0 ≤ m ∧ m ≤ 40) ∧ (0 ≤ k ∧ k ≤ 9) ∧ 0 ≤ c ∧ c ≤ 1) → gs_odds S b p m k c (-1) := fun h => Or.inl ⟨h, rfl⟩
  have n1 : ¬ (((0 ≤ b ∧ b ≤ 7) ∧ S (51 + b.toNatClampNeg) = 1) ∧ (0 ≤ p ∧ p ≤ 10) ∧ (0 ≤ m ∧ m ≤ 40) ∧ (0 ≤ k ∧ k ≤ 9) ∧ 0 ≤ c ∧ c ≤ 1) → A 0 0 31 [some (.ref (z + 0)), some (.int b), some (.int p), some (.int m), some (.int k), some (.int c), none, none, none, none, none, none] [] 85 (bq_Rf z) I L := by
    intro h
    refine bq_iconst (q := 32) (v := -1) G (by decide) dX8_odds_31 rfl ?_
    exact hret _ _ _ _ _ dX8_odds_32 ⟨no h, rfl, fun _ _ _ => rfl⟩
  have n2 : ¬ (((0 ≤ b ∧ b ≤ 7) ∧ S (51 + b.toNatClampNeg) = 1) ∧ (0 ≤ p ∧ p ≤ 10) ∧ (0 ≤ m ∧ m ≤ 40) ∧ (0 ≤ k ∧ k ≤ 9) ∧ 0 ≤ c ∧ c ≤ 1) → A 0 0 56 [some (.ref (z + 0)), some (.int b), some (.int p), some (.int m), some (.int k), some (.int c), none, none, none, none, none, none] [] 85 (bq_Rf z) I L := by
    intro h
    refine bq_iconst (q := 57) (v := -1) G (by decide) dX8_odds_56 rfl ?_
    exact hret _ _ _ _ _ dX8_odds_57 ⟨no h, rfl, fun _ _ _ => rfl⟩
  refine bq_aload_n (q := 1) G rfl dX8_odds_0 rfl ?_
  refine bq_getr (q := 4) G dX8_odds_1 rfl fl_X8_36 (by first | assumption | exact ⟨Nat.le_of_ble_eq_true rfl, rfl⟩) (fun _ _ _ => rfl) (rf_0_4 z) ?_
  refine bq_iload_n (q := 5) G rfl dX8_odds_4 rfl ?_
  refine bq_callv (q := 8) G dX8_odds_5 rfl cl_X8_167 (c_X5_isThere (bq_Mo17 z).1) rfl (by first | assumption | exact ⟨Nat.le_of_ble_eq_true rfl, rfl⟩) rfl ⟨Nat.le_of_ble_eq_true rfl, Nat.le_of_ble_eq_true rfl⟩ (Nat.le_of_ble_eq_true rfl) ⟨Nat.le_of_ble_eq_true rfl, Nat.le_of_ble_eq_true rfl⟩ rfl ?_
  first | refine bq_ifb_eq (t := 31) (q := 11) G dX8_odds_8 (by decide) rfl (fun c8 => ?_) (fun c8 => ?_) | refine bq_if_eq (t := 31) (q := 11) G dX8_odds_8 (by decide) rfl (fun c8 => ?_) (fun c8 => ?_)
  · exact n1 (fun h => c8 ((gs_thr hF).mpr h.1))
  · have hif := (gs_thr hF).mp c8
    refine bq_iload_n (q := 12) G rfl dX8_odds_11 rfl ?_
    refine bq_if_lt (t := 31) (q := 15) G dX8_odds_12 (by decide) rfl (fun c12 => ?_) (fun c12 => ?_)
    · exact n1 (fun h => absurd h.2.1.1 (Int32.not_le.mpr c12))
    · refine bq_iload_n (q := 16) G rfl dX8_odds_15 rfl ?_
      refine bq_bipush (q := 18) (v := 10) G (by decide) dX8_odds_16 rfl ?_
      refine bq_icmp_gt (t := 31) (q := 21) G dX8_odds_18 (by decide) rfl (fun c18 => ?_) (fun c18 => ?_)
      · exact n1 (fun h => absurd h.2.1.2 (Int32.not_le.mpr c18))
      · refine bq_iload_n (q := 22) G rfl dX8_odds_21 rfl ?_
        refine bq_if_lt (t := 31) (q := 25) G dX8_odds_22 (by decide) rfl (fun c22 => ?_) (fun c22 => ?_)
        · exact n1 (fun h => absurd h.2.2.1.1 (Int32.not_le.mpr c22))
        · refine bq_iload_n (q := 26) G rfl dX8_odds_25 rfl ?_
          refine bq_bipush (q := 28) (v := 40) G (by decide) dX8_odds_26 rfl ?_
          refine bq_icmp_le (t := 33) (q := 31) G dX8_odds_28 (by decide) rfl (fun c28 => ?_) (fun c28 => ?_)
          · refine bq_iload (q := 35) G rfl dX8_odds_33 rfl ?_
            refine bq_if_lt (t := 56) (q := 38) G dX8_odds_35 (by decide) rfl (fun c35 => ?_) (fun c35 => ?_)
            · exact n2 (fun h => absurd h.2.2.2.1.1 (Int32.not_le.mpr c35))
            · refine bq_iload (q := 40) G rfl dX8_odds_38 rfl ?_
              refine bq_bipush (q := 42) (v := 9) G (by decide) dX8_odds_40 rfl ?_
              refine bq_icmp_gt (t := 56) (q := 45) G dX8_odds_42 (by decide) rfl (fun c42 => ?_) (fun c42 => ?_)
              · exact n2 (fun h => absurd h.2.2.2.1.2 (Int32.not_le.mpr c42))
              · refine bq_iload (q := 47) G rfl dX8_odds_45 rfl ?_
                refine bq_if_lt (t := 56) (q := 50) G dX8_odds_47 (by decide) rfl (fun c47 => ?_) (fun c47 => ?_)
                · exact n2 (fun h => absurd h.2.2.2.2.1 (Int32.not_le.mpr c47))
                · refine bq_iload (q := 52) G rfl dX8_odds_50 rfl ?_
                  refine bq_iconst (q := 53) (v := 1) G (by decide) dX8_odds_52 rfl ?_
                  refine bq_icmp_le (t := 58) (q := 56) G dX8_odds_53 (by decide) rfl (fun c53 => ?_) (fun c53 => ?_)
                  · have q1 : 0 ≤ p ∧ p ≤ 10 := ⟨Int32.not_lt.mp c12, Int32.not_lt.mp c18⟩
                    have q2 : 0 ≤ m ∧ m ≤ 40 := ⟨Int32.not_lt.mp c22, c28⟩
                    have q3 : 0 ≤ k ∧ k ≤ 9 := ⟨Int32.not_lt.mp c35, Int32.not_lt.mp c42⟩
                    have q4 : 0 ≤ c ∧ c ≤ 1 := ⟨Int32.not_lt.mp c47, c53⟩
                    obtain ⟨q, hq, rfl, h51⟩ := gs_th_ex (S := S) hif
                    obtain ⟨p, hp, rfl⟩ := gs_rng (M := 10) (k := 10) (by decide) q1
                    obtain ⟨v, hv, rfl⟩ := gs_rng (M := 40) (k := 40) (by decide) q2
                    obtain ⟨κ, hκ, rfl⟩ := gs_rng (M := 9) (k := 9) (by decide) q3
                    obtain ⟨t, ht, et⟩ := od_times hS hq h51 hv
                    have pc := (hS.2 q hq).2.1 h51
                    have post : ∀ x : Int32, ((9 < nI t ∧ x = -1000000) ∨ (¬ 9 < nI t ∧ x = gs_oddv p t κ c)) → gs_odds S (nI q) (nI p) (nI v) (nI κ) c x := by
                      intro x h
                      refine Or.inr ⟨q, ⟨hq, rfl, h51, q1, q2, q3, q4⟩, ?_⟩
                      rw [et, nI_clamp (n := p) (by omega), nI_clamp (n := t) (by omega), nI_clamp (n := κ) (by omega)]
                      exact h
                    refine bq_aload_n (q := 59) G rfl dX8_odds_58 rfl ?_
                    refine bq_getr (q := 62) G dX8_odds_59 rfl fl_X8_36 (by first | assumption | exact ⟨Nat.le_of_ble_eq_true rfl, rfl⟩) (fun _ _ _ => rfl) (rf_0_4 z) ?_
                    refine bq_iload_n (q := 63) G rfl dX8_odds_62 rfl ?_
                    refine bq_iload_n (q := 64) G rfl dX8_odds_63 rfl ?_
                    refine bq_callv (q := 67) G dX8_odds_64 rfl cl_X8_241 (c_X5_comings (bq_Mo17 z) hM hq h51 pc.2.1) rfl (by first | assumption | exact ⟨Nat.le_of_ble_eq_true rfl, rfl⟩) rfl ⟨Nat.le_of_ble_eq_true rfl, Nat.le_of_ble_eq_true rfl⟩ (Nat.le_of_ble_eq_true rfl) ⟨Nat.le_of_ble_eq_true rfl, Nat.le_of_ble_eq_true rfl⟩ rfl ?_
                    rw [et]
                    refine bq_istore (q := 69) (ls' := [_, _, _, _, _, _, _, _, _, _, _, _]) G dX8_odds_67 rfl (by decide) rfl rfl ?_
                    refine bq_iload (q := 71) G rfl dX8_odds_69 rfl ?_
                    refine bq_bipush (q := 73) (v := 9) G (by decide) dX8_odds_71 rfl ?_
                    refine bq_icmp_le (t := 79) (q := 76) G dX8_odds_73 (by decide) rfl (fun c73 => ?_) (fun c73 => ?_)
                    · have ht9 : t ≤ 9 := (nI_leI (b := 9) (by omega) (by decide)).mp c73
                      have hn9 : ¬ (9 : Int32) < nI t := Int32.not_lt.mpr c73
                      refine bq_aload_n (q := 80) G rfl dX8_odds_79 rfl ?_
                      refine bq_iload_n (q := 81) G rfl dX8_odds_80 rfl ?_
                      refine bq_iload (q := 83) G rfl dX8_odds_81 rfl ?_
                      refine bq_callv (q := 86) G dX8_odds_83 rfl cl_X8_245 (c_X8_countWays hp ht9) rfl (by first | assumption | exact ⟨Nat.le_of_ble_eq_true rfl, rfl⟩) rfl ⟨Nat.le_of_ble_eq_true rfl, Nat.le_of_ble_eq_true rfl⟩ (Nat.le_of_ble_eq_true rfl) ⟨Nat.le_of_ble_eq_true rfl, Nat.le_of_ble_eq_true rfl⟩ rfl ?_
                      refine bq_lstore (q := 88) (ls' := [_, _, _, _, _, _, _, _, _, _, _, _]) G dX8_odds_86 rfl (by decide) rfl rfl ?_
                      refine bq_lconst (q := 89) (v := 0) G (by decide) dX8_odds_88 rfl ?_
                      refine bq_lstore (q := 91) (ls' := [_, _, _, _, _, _, _, _, _, _, _, _]) G dX8_odds_89 rfl (by decide) rfl rfl ?_
                      refine bq_iload (q := 93) G rfl dX8_odds_91 rfl ?_
                      refine bq_istore (q := 95) (ls' := [_, _, _, _, _, _, _, _, _, _, _, _]) G dX8_odds_93 rfl (by decide) rfl rfl ?_
                      have el : ∀ j, j < 10 → bq_sr L 73 (od_row p t (L 73)) 73 j = lN (od_c p t j) := fun j hj => by rw [bq_sr_s]; exact if_pos hj
                      have hab := (od_eq p (by omega) t (by omega) κ (by omega))
                      have h10 := od_ten t (by omega)
                      have h10p : 0 < 10 ^ t := Nat.pow_pos (by decide)
                      have fin : ∀ (j : Nat) (g : Nat), t < j → j ≤ 20 → g = od_a p t κ (2 ^ t) → A 0 0 95 [some (.ref (z + 0)), some (.int (nI q)), some (.int (nI p)), some (.int (nI v)), some (.int (nI κ)), some (.int c), some (.int (nI t)), some (.long (lN (10 ^ t))), none, some (.long (lN g)), none, some (.int (nI j))] [] 85 (bq_Rf z) I (bq_sr L 73 (od_row p t (L 73))) := by
                        intro j g hj hj2 hg
                        have ov : gs_oddv p t κ c = if c = 0 then nI (od_a p t κ (2 ^ t) / fr_g (od_a p t κ (2 ^ t) : Int) (10 ^ t)) else nI (10 ^ t / fr_g (od_a p t κ (2 ^ t) : Int) (10 ^ t)) := rfl
                        have hab2 := hab.2
                        rw [← hg] at ov hab2
                        generalize 10 ^ t = d at h10 h10p ov ⊢
                        refine bq_iload (q := 97) G rfl dX8_odds_95 rfl ?_
                        refine bq_iload (q := 99) G rfl dX8_odds_97 rfl ?_
                        refine bq_icmp_gt_t (t := 120) G dX8_odds_99 (by decide) (nI_lt (a := t) (b := j) hj (by omega)) ?_
                        refine bq_aload_n (q := 121) G rfl dX8_odds_120 rfl ?_
                        refine bq_getr (q := 124) G dX8_odds_121 rfl fl_X8_68 (by first | assumption | exact ⟨Nat.le_of_ble_eq_true rfl, rfl⟩) (fun _ _ _ => rfl) (rf_0_10 z) ?_
                        refine bq_lload (q := 126) G rfl dX8_odds_124 rfl ?_
                        refine bq_lload (q := 128) G rfl dX8_odds_126 rfl ?_
                        refine bq_callv (q := 131) G dX8_odds_128 rfl cl_X8_210 (c_become (X := (g : Int)) (Y := d) (lZ_N g).symm rfl (by omega) (by omega) h10p (by omega)) rfl (by first | assumption | exact ⟨Nat.le_of_ble_eq_true rfl, rfl⟩) rfl ⟨Nat.le_of_ble_eq_true rfl, Nat.le_of_ble_eq_true rfl⟩ (Nat.le_of_ble_eq_true rfl) ⟨Nat.le_of_ble_eq_true rfl, Nat.le_of_ble_eq_true rfl⟩ rfl ?_
                        refine bq_aload_n (q := 132) G rfl dX8_odds_131 rfl ?_
                        refine bq_getr (q := 135) G dX8_odds_132 rfl fl_X8_68 (by first | assumption | exact ⟨Nat.le_of_ble_eq_true rfl, rfl⟩) (fun _ _ _ => rfl) (rf_0_10 z) ?_
                        refine bq_iload (q := 137) G rfl dX8_odds_135 rfl ?_
                        refine bq_callv (q := 140) G dX8_odds_137 rfl cl_X8_220 (c_X1_part) rfl (by first | assumption | exact ⟨Nat.le_of_ble_eq_true rfl, rfl⟩) rfl ⟨Nat.le_of_ble_eq_true rfl, Nat.le_of_ble_eq_true rfl⟩ (Nat.le_of_ble_eq_true rfl) ⟨Nat.le_of_ble_eq_true rfl, Nat.le_of_ble_eq_true rfl⟩ rfl ?_
                        refine bq_l2i (q := 141) G dX8_odds_140 rfl ?_
                        refine hret _ _ _ _ _ dX8_odds_141 ⟨post _ (Or.inr ⟨hn9, ?_⟩), rfl, fun x h1 h2 => by rw [gs_fr_n h1, bq_sr_n h2]⟩
                        rw [ov, gs_fr_g0, gs_fr_g1]
                        by_cases hc : c = 0
                        · rw [if_pos hc, if_pos hc, od_fu, lZ_N, lN_i]
                        · rw [if_neg hc, if_neg hc, lN_i]; rfl
                      have loop : ∀ i, i ≤ t + 1 - κ → A 0 0 95 [some (.ref (z + 0)), some (.int (nI q)), some (.int (nI p)), some (.int (nI v)), some (.int (nI κ)), some (.int c), some (.int (nI t)), some (.long (lN (10 ^ t))), none, some (.long (lN (od_s p t κ i))), none, some (.int (nI (κ + i)))] [] 85 (bq_Rf z) I (bq_sr L 73 (od_row p t (L 73))) := by
                        refine bq_down (t + 1 - κ) ?_
                        intro i hi ih
                        rcases Nat.lt_or_ge i (t + 1 - κ) with hi8 | hi8
                        · have ih := ih hi8
                          refine bq_iload (q := 97) G rfl dX8_odds_95 rfl ?_
                          refine bq_iload (q := 99) G rfl dX8_odds_97 rfl ?_
                          refine bq_icmp_gt_f (q := 102) (t := 120) G dX8_odds_99 rfl (by decide) (nI_nlt (a := t) (b := κ + i) (by omega) (by omega)) ?_
                          refine bq_lload (q := 104) G rfl dX8_odds_102 rfl ?_
                          refine bq_aload_n (q := 105) G rfl dX8_odds_104 rfl ?_
                          refine bq_getr (q := 108) G dX8_odds_105 rfl fl_X8_72 (by first | assumption | exact ⟨Nat.le_of_ble_eq_true rfl, rfl⟩) (fun _ _ _ => rfl) (rf_0_11 z) ?_
                          refine bq_iload (q := 110) G rfl dX8_odds_108 rfl ?_
                          refine bq_lald (q := 111) (b := κ + i) G dX8_odds_110 rfl (by first | assumption | exact ⟨Nat.le_of_ble_eq_true rfl, rfl⟩) rfl (by omega) (by decide) ?_
                          refine bq_ladd (q := 112) G dX8_odds_111 rfl ?_
                          rw [el _ (by omega), lN_add, ← od_s_s]
                          refine bq_lstore (q := 114) (ls' := [_, _, _, _, _, _, _, _, _, _, _, _]) G dX8_odds_112 rfl (by decide) rfl rfl ?_
                          refine bq_iinc (q := 117) (ls' := [_, _, _, _, _, _, _, _, _, _, _, _]) G dX8_odds_114 rfl rfl (by first | exact nI_1 _ | exact pk_m1 _ | rfl) (by decide) rfl rfl ?_
                          refine bq_goto (q := 95) G dX8_odds_117 (by decide) ?_
                          exact ih
                        · have hi9 : i = t + 1 - κ := by omega
                          refine fin (κ + i) _ (by omega) (by omega) ?_
                          rw [hi9]; exact hab.1.symm
                      exact loop 0 (Nat.zero_le _)
                    · refine bq_ldc (q := 78) G wk_X8_244 dX8_odds_76 rfl ?_
                      exact hret _ _ _ _ _ dX8_odds_78 ⟨post _ (Or.inl ⟨Int32.not_le.mp c73, rfl⟩), rfl, fun _ _ _ => rfl⟩
                  · exact n2 (fun h => c53 h.2.2.2.2.2)
          · exact n1 (fun h => c28 h.2.2.1.2)
