/-! the model looks ahead: holds, goes on, lets -/
def gs_H (I : bq_IR) : bq_IR := bq_sr (bq_sr I 84 (gs_cp 59 (I 79) (I 84))) 75 (upd (upd (I 75) 16 (I 77 4)) 17 (I 77 2))
def gs_mK (I J : bq_IR) : Prop := J 79 = I 79 ∧ (∀ j, j ≠ 16 → j ≠ 17 → j ≠ 18 → J 75 j = I 75 j) ∧ ∀ x, x ≠ 75 → x ≠ 79 → x ≠ 84 → J x = I x
theorem gs_mK.rf (I : bq_IR) : gs_mK I I := ⟨rfl, fun _ _ _ _ => rfl, fun _ _ _ _ => rfl⟩
theorem gs_H79 (I : bq_IR) : gs_H I 79 = I 79 := by unfold gs_H; rw [bq_sr_n (by decide), bq_sr_n (by decide)]
theorem gs_H77 (I : bq_IR) : gs_H I 77 = I 77 := by unfold gs_H; rw [bq_sr_n (by decide), bq_sr_n (by decide)]
theorem gs_H84 (I : bq_IR) : gs_H I 84 = gs_cp 59 (I 79) (I 84) := by unfold gs_H; rw [bq_sr_n (by decide), bq_sr_s]
theorem gs_Hw (I : bq_IR) : gs_H I 75 16 = I 77 4 := by unfold gs_H; rw [bq_sr_s, pk_un (by decide), pk_us]
theorem gs_Hd (I : bq_IR) : gs_H I 75 17 = I 77 2 := by unfold gs_H; rw [bq_sr_s, pk_us]
theorem gs_H75 (I : bq_IR) {j : Nat} (h1 : j ≠ 16) (h2 : j ≠ 17) : gs_H I 75 j = I 75 j := by unfold gs_H; rw [bq_sr_s, pk_un h2, pk_un h1]
theorem gs_Hx (I : bq_IR) {x : Nat} (h1 : x ≠ 75) (h2 : x ≠ 84) : gs_H I x = I x := by unfold gs_H; rw [bq_sr_n h1, bq_sr_n h2]
theorem c_holds {z : Nat} {I : bq_IR} {L : bq_LR} : bq_FC MX9_holds z [.ref (z + 75)] 85 (bq_Rf z) I L 0 0 none 85 (bq_Rf z) (gs_H I) L := c_X9_holds
/-- from what was held, on and back again -/
theorem gs_st_hi {b : Nat} (hb : b < 8) {x : gs_X} {j : Nat} (hj : 59 ≤ j) : (gs_st b x).1 j = x.1 j := by
  unfold gs_st
  split
  · show gs_2 b (gs_1 b x.1) j = x.1 j
    unfold gs_2 gs_1
    rw [pk_un (by omega), pk_un (by omega), pk_un (by omega), pk_un (by omega)]
  · show gs_1 b x.1 j = x.1 j
    unfold gs_1
    rw [pk_un (by omega)]
theorem gs_lp_hi {x : gs_X} {j : Nat} (hj : 59 ≤ j) : ∀ k, k ≤ 8 → (gs_lp k x).1 j = x.1 j
  | 0, _ => rfl
  | k + 1, hk => (gs_st_hi (by omega) hj).trans (gs_lp_hi hj k (by omega))
theorem gs_go_hi {w d ar : Int32} {S : Nat → Int32} {j : Nat} (hj : 59 ≤ j) : gs_go w d ar S j = S j := by
  unfold gs_go gs_pk gs_min
  rw [pk_un (by omega), pk_un (by omega), pk_un (by omega)]
  have h := gs_lp_hi (x := (S, w, 0)) hj 8 (Nat.le_refl 8)
  unfold gs_T
  exact h
theorem gs_it_hi {w d ar : Int32} {S : Nat → Int32} {j : Nat} (hj : 59 ≤ j) : ∀ k, gs_it w d ar S k j = S j
  | 0 => rfl
  | k + 1 => (gs_go_hi hj).trans (gs_it_hi hj k)
def gs_on1 (I J : bq_IR) : Prop := ((∀ j, j < 59 → J 84 j = I 79 j) ∧ ∀ j, 59 ≤ j → J 79 j = I 79 j) ∧ (∀ j, j ≠ 16 → j ≠ 17 → j ≠ 18 → J 75 j = I 75 j) ∧ ∀ x, x ≠ 75 → x ≠ 79 → x ≠ 84 → J x = I x
theorem gs_on1.lets {I J : bq_IR} (h : gs_on1 I J) : gs_mK I (bq_sr J 79 (gs_cp 59 (J 84) (J 79))) := by
  refine ⟨?_, fun j h1 h2 h3 => ?_, fun x h1 h2 h3 => ?_⟩
  · rw [bq_sr_s]
    funext j
    rcases Nat.lt_or_ge j 59 with hj | hj
    · rw [gs_cp_lt hj]; exact h.1.1 j hj
    · rw [gs_cp_ge hj]; exact h.1.2 j hj
  · rw [bq_sr_n (by decide)]; exact h.2.1 j h1 h2 h3
  · rw [bq_sr_n h2]; exact h.2.2 x h1 h2 h3
theorem gs_on1.H (I : bq_IR) : gs_on1 I (gs_H I) := ⟨⟨fun j hj => by rw [gs_H84]; exact gs_cp_lt hj, fun j _ => by rw [gs_H79]⟩, fun j h1 h2 _ => gs_H75 I h1 h2, fun x h1 _ h3 => gs_Hx I h1 h3⟩
theorem gs_on1.mI {I J K : bq_IR} {w d : Int32} {k : Nat} (h : gs_on1 I J) (hK : gs_mI J w d k K) : gs_on1 I K := by
  refine ⟨⟨fun j hj => ?_, fun j hj => ?_⟩, fun j h1 h2 h3 => ?_, fun x h1 h2 h3 => ?_⟩
  · rw [hK.2.2 84 (by decide) (by decide)]; exact h.1.1 j hj
  · rw [hK.1, gs_it_hi hj]; exact h.1.2 j hj
  · rw [hK.2.1.2.2 j h3]; exact h.2.1 j h1 h2 h3
  · rw [hK.2.2 x h1 h2]; exact h.2.2 x h1 h2 h3
theorem gs_mI.H0 (I : bq_IR) : gs_mI (gs_H I) (I 77 4) (I 77 2) 0 (gs_H I) := ⟨rfl, ⟨gs_Hw I, gs_Hd I, fun _ _ => rfl⟩, fun _ _ _ => rfl⟩
theorem gs_in200 {n : Int32} (h : 0 ≤ n ∧ n ≤ 200) : ∃ m : Nat, m ≤ 200 ∧ n = nI m := nI_of2 (M := 200) (n := 200) (by decide) (Int32.not_lt.mpr h.1) h.2
theorem gs_in60 {n : Int32} (h : 1 ≤ n ∧ n ≤ 60) : ∃ m : Nat, m ≤ 60 ∧ n = nI m := nI_of2 (M := 60) (n := 60) (by decide) (Int32.not_lt.mpr (Int32.le_trans (by decide) h.1)) h.2
def gs_stands (T S : Nat → Int32) (n : Int32) : Int32 := if 0 ≤ n ∧ n ≤ 200 then gs_hi (T 4) (T 2) (T 1) S n.toNatClampNeg else -1
def gs_most (T S : Nat → Int32) (n : Int32) : Int32 := if 0 ≤ n ∧ n ≤ 200 then gs_mo (T 4) (T 2) (T 1) S n.toNatClampNeg else -1
def gs_abk (T S : Nat → Int32) : Nat → Nat → Int32
  | 0, _ => -9
  | f + 1, m => if T 3 < gs_hi (T 4) (T 2) (T 1) S m then nI m else gs_abk T S f (m + 1)
theorem gs_abk_s (T S : Nat → Int32) (f m : Nat) : gs_abk T S (f + 1) m = if T 3 < gs_hi (T 4) (T 2) (T 1) S m then nI m else gs_abk T S f (m + 1) := rfl
theorem gs_hiJ {I J K : bq_IR} {w d : Int32} {k : Nat} (h : gs_on1 I J) (hJ : J 79 = I 79) (hK : gs_mI J w d k K) : K 79 1 / K 77 1 = gs_hi w d (I 77 1) (I 79) k := by
  unfold gs_hi
  rw [hK.1, hK.2.2 77 (by decide) (by decide), h.2.2 77 (by decide) (by decide) (by decide), hJ]
theorem gs_arJ {I J K : bq_IR} {w d : Int32} {k : Nat} (hA : ¬ I 77 1 = 0) (h : gs_on1 I J) (hK : gs_mI J w d k K) : ¬ K 77 1 = 0 := by
  rw [hK.2.2 77 (by decide) (by decide), h.2.2 77 (by decide) (by decide) (by decide)]; exact hA
def gs_sum (w d ar : Int32) (S : Nat → Int32) : Nat → Int32
  | 0 => 0
  | k + 1 => gs_sum w d ar S k + gs_ran (gs_T w (gs_it w d ar S k)).1 d
def gs_price (T S : Nat → Int32) (c n : Int32) : Int32 := if (1 ≤ c ∧ c ≤ 9) ∧ 0 ≤ n ∧ n ≤ 200 then c * gs_sum (T 4) (T 2) (T 1) S n.toNatClampNeg else -1
set_option maxHeartbeats 1000000 in
set_option maxRecDepth 100000 in
theorem c_X9_stands {z : Nat} {I : bq_IR} {L : bq_LR} {n : Int32} (hA : ¬ I 77 1 = 0) : bq_FI MX9_stands z [.ref (z + 75), .int n] 85 (bq_Rf z) I L (fun r J L' => r = gs_stands (I 77) (I 79) n ∧ gs_mK I J ∧ L' = L) := by
  refine bq_FIof [some (.ref (z + 75)), some (.int n), none] rfl (Nat.le_of_ble_eq_true rfl) (by decide) rfl (fun _ _ _ _ => rfl) ?_
  intro A G hret
  have G : bq_Cx cX9_stands RX9 3 z (bq_rm MX9_stands 0 0) "stands" A := G
  refine bq_iload_n (q := 1) G rfl dX9_stands_0 rfl ?_
  refine bq_iconst (q := 2) (v := 0) G (by decide) dX9_stands_1 rfl ?_
  refine bq_sipush (q := 5) (v := 200) G (by decide) dX9_stands_2 rfl ?_
  refine bq_calls (q := 8) G dX9_stands_5 rfl cl_X9_45 (c_X9_in) rfl rfl ⟨Nat.le_of_ble_eq_true rfl, Nat.le_of_ble_eq_true rfl⟩ (Nat.le_of_ble_eq_true rfl) ⟨Nat.le_of_ble_eq_true rfl, Nat.le_of_ble_eq_true rfl⟩ rfl ?_
  first | refine bq_ifb_ne (t := 13) (q := 11) G dX9_stands_8 (by decide) rfl (fun c8 => ?_) (fun c8 => ?_) | refine bq_if_ne (t := 13) (q := 11) G dX9_stands_8 (by decide) rfl (fun c8 => ?_) (fun c8 => ?_)
  · obtain ⟨m, hm, rfl⟩ := gs_in200 c8
    have hcl : (nI m).toNatClampNeg = m := nI_clamp (by omega)
    have loop : ∀ k, k ≤ m → ∀ J, gs_mI (gs_H I) (I 77 4) (I 77 2) k J → A 0 0 19 [some (.ref (z + 75)), some (.int (nI m)), some (.int (nI k))] [] 85 (bq_Rf z) J L := by
      refine bq_down m ?_
      intro k hk ih J hJ
      have hA2 := gs_arJ hA (gs_on1.H I) hJ
      rcases Nat.lt_or_ge k m with hk8 | hk8
      · refine bq_iload_n (q := 20) G rfl dX9_stands_19 rfl ?_
        refine bq_iload_n (q := 21) G rfl dX9_stands_20 rfl ?_
        refine bq_icmp_ge_f (q := 24) (t := 35) G dX9_stands_21 rfl (by decide) (nI_ge (a := k) (b := m) hk8 (by omega)) ?_
        refine bq_aload_n (q := 25) G rfl dX9_stands_24 rfl ?_
        refine bq_callv (q := 28) G dX9_stands_25 rfl cl_X9_123 (c_X9_goes hA2) rfl (by first | assumption | exact ⟨Nat.le_of_ble_eq_true rfl, rfl⟩) rfl ⟨Nat.le_of_ble_eq_true rfl, Nat.le_of_ble_eq_true rfl⟩ (Nat.le_of_ble_eq_true rfl) ⟨Nat.le_of_ble_eq_true rfl, Nat.le_of_ble_eq_true rfl⟩ rfl ?_
        refine bq_pop (q := 29) G rfl dX9_stands_28 rfl ?_
        refine bq_iinc (q := 32) (ls' := [_, _, _]) G dX9_stands_29 rfl rfl (by first | exact nI_1 _ | exact pk_m1 _ | rfl) (by decide) rfl rfl ?_
        refine bq_goto (q := 19) G dX9_stands_32 (by decide) ?_
        exact ih hk8 _ hJ.go
      · have hk9 : k = m := by omega
        subst hk9
        refine bq_iload_n (q := 20) G rfl dX9_stands_19 rfl ?_
        refine bq_iload_n (q := 21) G rfl dX9_stands_20 rfl ?_
        refine bq_icmp_ge_t (t := 35) G dX9_stands_21 (by decide) (nI_le (a := k) (b := k) (by omega) (by omega)) ?_
        refine bq_aload_n (q := 36) G rfl dX9_stands_35 rfl ?_
        refine bq_callv (q := 39) G dX9_stands_36 rfl cl_X9_88 (c_X9_high hA2) rfl (by first | assumption | exact ⟨Nat.le_of_ble_eq_true rfl, rfl⟩) rfl ⟨Nat.le_of_ble_eq_true rfl, Nat.le_of_ble_eq_true rfl⟩ (Nat.le_of_ble_eq_true rfl) ⟨Nat.le_of_ble_eq_true rfl, Nat.le_of_ble_eq_true rfl⟩ rfl ?_
        refine bq_istore_n (q := 40) (ls' := [_, _, _]) G dX9_stands_39 rfl (by decide) rfl rfl ?_
        refine bq_aload_n (q := 41) G rfl dX9_stands_40 rfl ?_
        refine bq_callv (q := 44) G dX9_stands_41 rfl cl_X9_144 (c_X9_lets) rfl (by first | assumption | exact ⟨Nat.le_of_ble_eq_true rfl, rfl⟩) rfl ⟨Nat.le_of_ble_eq_true rfl, Nat.le_of_ble_eq_true rfl⟩ (Nat.le_of_ble_eq_true rfl) ⟨Nat.le_of_ble_eq_true rfl, Nat.le_of_ble_eq_true rfl⟩ rfl ?_
        refine bq_iload_n (q := 45) G rfl dX9_stands_44 rfl ?_
        refine hret _ _ _ _ _ dX9_stands_45 ⟨?_, ((gs_on1.H I).mI hJ).lets, rfl⟩
        unfold gs_stands
        rw [if_pos c8, hcl, gs_hiJ (gs_on1.H I) (gs_H79 I) hJ]
    refine bq_aload_n (q := 14) G rfl dX9_stands_13 rfl ?_
    refine bq_callv (q := 17) G dX9_stands_14 rfl cl_X9_141 (c_holds) rfl (by first | assumption | exact ⟨Nat.le_of_ble_eq_true rfl, rfl⟩) rfl ⟨Nat.le_of_ble_eq_true rfl, Nat.le_of_ble_eq_true rfl⟩ (Nat.le_of_ble_eq_true rfl) ⟨Nat.le_of_ble_eq_true rfl, Nat.le_of_ble_eq_true rfl⟩ rfl ?_
    refine bq_iconst (q := 18) (v := 0) G (by decide) dX9_stands_17 rfl ?_
    refine bq_istore_n (q := 19) (ls' := [_, _, _]) G dX9_stands_18 rfl (by decide) rfl rfl ?_
    exact loop 0 (by omega) _ (gs_mI.H0 I)
  · refine bq_iconst (q := 12) (v := -1) G (by decide) dX9_stands_11 rfl ?_
    exact hret _ _ _ _ _ dX9_stands_12 ⟨by unfold gs_stands; rw [if_neg c8], gs_mK.rf I, rfl⟩
set_option maxHeartbeats 1000000 in
set_option maxRecDepth 100000 in
theorem c_X9_most {z : Nat} {I : bq_IR} {L : bq_LR} {n : Int32} (hA : ¬ I 77 1 = 0) : bq_FI MX9_most z [.ref (z + 75), .int n] 85 (bq_Rf z) I L (fun r J L' => r = gs_most (I 77) (I 79) n ∧ gs_mK I J ∧ L' = L) := by
  refine bq_FIof [some (.ref (z + 75)), some (.int n), none] rfl (Nat.le_of_ble_eq_true rfl) (by decide) rfl (fun _ _ _ _ => rfl) ?_
  intro A G hret
  have G : bq_Cx cX9_most RX9 3 z (bq_rm MX9_most 0 0) "most" A := G
  refine bq_iload_n (q := 1) G rfl dX9_most_0 rfl ?_
  refine bq_iconst (q := 2) (v := 0) G (by decide) dX9_most_1 rfl ?_
  refine bq_sipush (q := 5) (v := 200) G (by decide) dX9_most_2 rfl ?_
  refine bq_calls (q := 8) G dX9_most_5 rfl cl_X9_45 (c_X9_in) rfl rfl ⟨Nat.le_of_ble_eq_true rfl, Nat.le_of_ble_eq_true rfl⟩ (Nat.le_of_ble_eq_true rfl) ⟨Nat.le_of_ble_eq_true rfl, Nat.le_of_ble_eq_true rfl⟩ rfl ?_
  first | refine bq_ifb_ne (t := 13) (q := 11) G dX9_most_8 (by decide) rfl (fun c8 => ?_) (fun c8 => ?_) | refine bq_if_ne (t := 13) (q := 11) G dX9_most_8 (by decide) rfl (fun c8 => ?_) (fun c8 => ?_)
  · obtain ⟨m, hm, rfl⟩ := gs_in200 c8
    have hcl : (nI m).toNatClampNeg = m := nI_clamp (by omega)
    refine bq_aload_n (q := 14) G rfl dX9_most_13 rfl ?_
    refine bq_callv (q := 17) G dX9_most_14 rfl cl_X9_141 (c_holds) rfl (by first | assumption | exact ⟨Nat.le_of_ble_eq_true rfl, rfl⟩) rfl ⟨Nat.le_of_ble_eq_true rfl, Nat.le_of_ble_eq_true rfl⟩ (Nat.le_of_ble_eq_true rfl) ⟨Nat.le_of_ble_eq_true rfl, Nat.le_of_ble_eq_true rfl⟩ rfl ?_
    refine bq_aload_n (q := 18) G rfl dX9_most_17 rfl ?_
    refine bq_iload_n (q := 19) G rfl dX9_most_18 rfl ?_
    refine bq_callvI (q := 22) G dX9_most_19 rfl cl_X9_147 (c_X9_highest (m := m) (by rw [gs_H77]; exact hA) (by omega)) rfl (by first | assumption | exact ⟨Nat.le_of_ble_eq_true rfl, rfl⟩) rfl ⟨Nat.le_of_ble_eq_true rfl, Nat.le_of_ble_eq_true rfl⟩ (Nat.le_of_ble_eq_true rfl) ⟨Nat.le_of_ble_eq_true rfl, Nat.le_of_ble_eq_true rfl⟩ (fun r19 I19 L19 h19 => ?_)
    obtain ⟨e1, e2, rfl⟩ := h19
    refine bq_istore_n (q := 23) (ls' := [_, _, _]) G dX9_most_22 rfl (by decide) rfl rfl ?_
    refine bq_aload_n (q := 24) G rfl dX9_most_23 rfl ?_
    refine bq_callv (q := 27) G dX9_most_24 rfl cl_X9_144 (c_X9_lets) rfl (by first | assumption | exact ⟨Nat.le_of_ble_eq_true rfl, rfl⟩) rfl ⟨Nat.le_of_ble_eq_true rfl, Nat.le_of_ble_eq_true rfl⟩ (Nat.le_of_ble_eq_true rfl) ⟨Nat.le_of_ble_eq_true rfl, Nat.le_of_ble_eq_true rfl⟩ rfl ?_
    refine bq_iload_n (q := 28) G rfl dX9_most_27 rfl ?_
    refine hret _ _ _ _ _ dX9_most_28 ⟨?_, ((gs_on1.H I).mI e2).lets, rfl⟩
    unfold gs_most
    rw [if_pos c8, hcl, e1, gs_Hw, gs_Hd, gs_H77, gs_H79]
  · refine bq_iconst (q := 12) (v := -1) G (by decide) dX9_most_11 rfl ?_
    exact hret _ _ _ _ _ dX9_most_12 ⟨by unfold gs_most; rw [if_neg c8], gs_mK.rf I, rfl⟩
set_option maxHeartbeats 1000000 in
set_option maxRecDepth 100000 in
theorem c_X9_above {z : Nat} {I : bq_IR} {L : bq_LR}  (hA : ¬ I 77 1 = 0) : bq_FI MX9_above z [.ref (z + 75)] 85 (bq_Rf z) I L (fun r J L' => r = gs_abk (I 77) (I 79) 201 0 ∧ gs_mK I J ∧ L' = L) := by
  refine bq_FIof [some (.ref (z + 75)), none, none] rfl (Nat.le_of_ble_eq_true rfl) (by decide) rfl (fun _ _ _ _ => rfl) ?_
  intro A G hret
  have G : bq_Cx cX9_above RX9 3 z (bq_rm MX9_above 0 0) "above" A := G
  have fin : ∀ (k : Nat) (r : Int32) (J : bq_IR) (ls2 : Int32), r = gs_abk (I 77) (I 79) 201 0 → gs_mI (gs_H I) (I 77 4) (I 77 2) k J → A 0 0 53 [some (.ref (z + 75)), some (.int r), some (.int ls2)] [] 85 (bq_Rf z) J L := by
    intro k r J ls2 hr hJ
    refine bq_aload_n (q := 54) G rfl dX9_above_53 rfl ?_
    refine bq_callv (q := 57) G dX9_above_54 rfl cl_X9_144 (c_X9_lets) rfl (by first | assumption | exact ⟨Nat.le_of_ble_eq_true rfl, rfl⟩) rfl ⟨Nat.le_of_ble_eq_true rfl, Nat.le_of_ble_eq_true rfl⟩ (Nat.le_of_ble_eq_true rfl) ⟨Nat.le_of_ble_eq_true rfl, Nat.le_of_ble_eq_true rfl⟩ rfl ?_
    refine bq_iload_n (q := 58) G rfl dX9_above_57 rfl ?_
    exact hret _ _ _ _ _ dX9_above_58 ⟨hr, ((gs_on1.H I).mI hJ).lets, rfl⟩
  have loop : ∀ k, k ≤ 201 → gs_abk (I 77) (I 79) (201 - k) k = gs_abk (I 77) (I 79) 201 0 → ∀ J, gs_mI (gs_H I) (I 77 4) (I 77 2) k J → A 0 0 9 [some (.ref (z + 75)), some (.int (-9)), some (.int (nI k))] [] 85 (bq_Rf z) J L := by
    refine bq_down 201 ?_
    intro k hk ih he J hJ
    have hA2 := gs_arJ hA (gs_on1.H I) hJ
    have hT : J 77 = I 77 := by rw [hJ.2.2 77 (by decide) (by decide), gs_H77]
    rcases Nat.lt_or_ge k 201 with hk8 | hk8
    · rw [show 201 - k = (201 - (k + 1)) + 1 by omega, gs_abk_s] at he
      refine bq_iload_n (q := 10) G rfl dX9_above_9 rfl ?_
      refine bq_sipush (q := 13) (v := 200) G (by decide) dX9_above_10 rfl ?_
      refine bq_icmp_gt_f (q := 16) (t := 53) G dX9_above_13 rfl (by decide) (nI_nlt (a := 200) (b := k) (by omega) (by decide)) ?_
      refine bq_iload_n (q := 17) G rfl dX9_above_16 rfl ?_
      refine bq_bipush (q := 19) (v := -9) G (by decide) dX9_above_17 rfl ?_
      refine bq_icmp_ne_f (q := 22) (t := 53) G dX9_above_19 rfl (by decide) rfl ?_
      refine bq_aload_n (q := 23) G rfl dX9_above_22 rfl ?_
      refine bq_callv (q := 26) G dX9_above_23 rfl cl_X9_88 (c_X9_high hA2) rfl (by first | assumption | exact ⟨Nat.le_of_ble_eq_true rfl, rfl⟩) rfl ⟨Nat.le_of_ble_eq_true rfl, Nat.le_of_ble_eq_true rfl⟩ (Nat.le_of_ble_eq_true rfl) ⟨Nat.le_of_ble_eq_true rfl, Nat.le_of_ble_eq_true rfl⟩ rfl ?_
      refine bq_aload_n (q := 27) G rfl dX9_above_26 rfl ?_
      refine bq_getr (q := 30) G dX9_above_27 rfl fl_X9_13 (by first | assumption | exact ⟨Nat.le_of_ble_eq_true rfl, rfl⟩) (fun _ _ _ => rfl) (rf_75_3 z) ?_
      refine bq_iconst (q := 31) (v := 3) G (by decide) dX9_above_30 rfl ?_
      refine bq_iald (q := 32) (b := 3) G dX9_above_31 rfl (by first | assumption | exact ⟨Nat.le_of_ble_eq_true rfl, rfl⟩) rfl (by first | with_reducible assumption | omega | decide) (by decide) ?_
      refine bq_icmp_le (t := 39) (q := 35) G dX9_above_32 (by decide) rfl (fun c32 => ?_) (fun c32 => ?_)
      · rw [gs_hiJ (gs_on1.H I) (gs_H79 I) hJ, hT] at c32
        rw [if_neg (Int32.not_lt.mpr c32)] at he
        refine bq_bipush (q := 41) (v := -9) G (by decide) dX9_above_39 rfl ?_
        refine bq_istore_n (q := 42) (ls' := [_, _, _]) G dX9_above_41 rfl (by decide) rfl rfl ?_
        refine bq_aload_n (q := 43) G rfl dX9_above_42 rfl ?_
        refine bq_callv (q := 46) G dX9_above_43 rfl cl_X9_123 (c_X9_goes hA2) rfl (by first | assumption | exact ⟨Nat.le_of_ble_eq_true rfl, rfl⟩) rfl ⟨Nat.le_of_ble_eq_true rfl, Nat.le_of_ble_eq_true rfl⟩ (Nat.le_of_ble_eq_true rfl) ⟨Nat.le_of_ble_eq_true rfl, Nat.le_of_ble_eq_true rfl⟩ rfl ?_
        refine bq_pop (q := 47) G rfl dX9_above_46 rfl ?_
        refine bq_iinc (q := 50) (ls' := [_, _, _]) G dX9_above_47 rfl rfl (by first | exact nI_1 _ | exact pk_m1 _ | rfl) (by decide) rfl rfl ?_
        refine bq_goto (q := 9) G dX9_above_50 (by decide) ?_
        exact ih hk8 he _ hJ.go
      · rw [gs_hiJ (gs_on1.H I) (gs_H79 I) hJ, hT] at c32
        rw [if_pos (Int32.not_le.mp c32)] at he
        refine bq_iload_n (q := 36) G rfl dX9_above_35 rfl ?_
        refine bq_goto (q := 41) G dX9_above_36 (by decide) ?_
        refine bq_istore_n (q := 42) (ls' := [_, _, _]) G dX9_above_41 rfl (by decide) rfl rfl ?_
        refine bq_aload_n (q := 43) G rfl dX9_above_42 rfl ?_
        refine bq_callv (q := 46) G dX9_above_43 rfl cl_X9_123 (c_X9_goes hA2) rfl (by first | assumption | exact ⟨Nat.le_of_ble_eq_true rfl, rfl⟩) rfl ⟨Nat.le_of_ble_eq_true rfl, Nat.le_of_ble_eq_true rfl⟩ (Nat.le_of_ble_eq_true rfl) ⟨Nat.le_of_ble_eq_true rfl, Nat.le_of_ble_eq_true rfl⟩ rfl ?_
        refine bq_pop (q := 47) G rfl dX9_above_46 rfl ?_
        refine bq_iinc (q := 50) (ls' := [_, _, _]) G dX9_above_47 rfl rfl (by first | exact nI_1 _ | exact pk_m1 _ | rfl) (by decide) rfl rfl ?_
        refine bq_goto (q := 9) G dX9_above_50 (by decide) ?_
        have hne : ¬ nI k = -9 := fun h => by
          have h2 : (nI k).toInt = (-9 : Int32).toInt := by rw [h]
          rw [nI_toInt (by omega), show (-9 : Int32).toInt = -9 by decide] at h2
          omega
        rcases Nat.lt_or_ge (k + 1) 201 with h9 | h9
        · refine bq_iload_n (q := 10) G rfl dX9_above_9 rfl ?_
          refine bq_sipush (q := 13) (v := 200) G (by decide) dX9_above_10 rfl ?_
          refine bq_icmp_gt_f (q := 16) (t := 53) G dX9_above_13 rfl (by decide) (nI_nlt (a := 200) (b := k + 1) (by omega) (by decide)) ?_
          refine bq_iload_n (q := 17) G rfl dX9_above_16 rfl ?_
          refine bq_bipush (q := 19) (v := -9) G (by decide) dX9_above_17 rfl ?_
          refine bq_icmp_ne_t (t := 53) G dX9_above_19 (by decide) hne ?_
          exact fin _ _ _ _ he hJ.go
        · refine bq_iload_n (q := 10) G rfl dX9_above_9 rfl ?_
          refine bq_sipush (q := 13) (v := 200) G (by decide) dX9_above_10 rfl ?_
          refine bq_icmp_gt_t (t := 53) G dX9_above_13 (by decide) (nI_lt (a := 200) (b := k + 1) (by omega) (by omega)) ?_
          exact fin _ _ _ _ he hJ.go
    · have hk9 : k = 201 := by omega
      subst hk9
      refine bq_iload_n (q := 10) G rfl dX9_above_9 rfl ?_
      refine bq_sipush (q := 13) (v := 200) G (by decide) dX9_above_10 rfl ?_
      refine bq_icmp_gt_t (t := 53) G dX9_above_13 (by decide) (nI_lt (a := 200) (b := 201) (by decide) (by decide)) ?_
      exact fin _ _ _ _ he hJ
  refine bq_aload_n (q := 1) G rfl dX9_above_0 rfl ?_
  refine bq_callv (q := 4) G dX9_above_1 rfl cl_X9_141 (c_holds) rfl (by first | assumption | exact ⟨Nat.le_of_ble_eq_true rfl, rfl⟩) rfl ⟨Nat.le_of_ble_eq_true rfl, Nat.le_of_ble_eq_true rfl⟩ (Nat.le_of_ble_eq_true rfl) ⟨Nat.le_of_ble_eq_true rfl, Nat.le_of_ble_eq_true rfl⟩ rfl ?_
  refine bq_bipush (q := 6) (v := -9) G (by decide) dX9_above_4 rfl ?_
  refine bq_istore_n (q := 7) (ls' := [_, _, _]) G dX9_above_6 rfl (by decide) rfl rfl ?_
  refine bq_iconst (q := 8) (v := 0) G (by decide) dX9_above_7 rfl ?_
  refine bq_istore_n (q := 9) (ls' := [_, _, _]) G dX9_above_8 rfl (by decide) rfl rfl ?_
  exact loop 0 (by omega) rfl _ (gs_mI.H0 I)
set_option maxHeartbeats 1000000 in
set_option maxRecDepth 100000 in
theorem c_X9_price {z : Nat} {I : bq_IR} {L : bq_LR} {c n : Int32} (hA : ¬ I 77 1 = 0) : bq_FI MX9_price z [.ref (z + 75), .int c, .int n] 85 (bq_Rf z) I L (fun r J L' => r = gs_price (I 77) (I 79) c n ∧ gs_mK I J ∧ L' = L) := by
  refine bq_FIof [some (.ref (z + 75)), some (.int c), some (.int n), none, none] rfl (Nat.le_of_ble_eq_true rfl) (by decide) rfl (fun _ _ _ _ => rfl) ?_
  intro A G hret
  have G : bq_Cx cX9_price RX9 5 z (bq_rm MX9_price 0 0) "price" A := G
  refine bq_iload_n (q := 1) G rfl dX9_price_0 rfl ?_
  refine bq_iconst (q := 2) (v := 1) G (by decide) dX9_price_1 rfl ?_
  refine bq_bipush (q := 4) (v := 9) G (by decide) dX9_price_2 rfl ?_
  refine bq_calls (q := 7) G dX9_price_4 rfl cl_X9_45 (c_X9_in) rfl rfl ⟨Nat.le_of_ble_eq_true rfl, Nat.le_of_ble_eq_true rfl⟩ (Nat.le_of_ble_eq_true rfl) ⟨Nat.le_of_ble_eq_true rfl, Nat.le_of_ble_eq_true rfl⟩ rfl ?_
  first | refine bq_ifb_eq (t := 21) (q := 10) G dX9_price_7 (by decide) rfl (fun c7 => ?_) (fun c7 => ?_) | refine bq_if_eq (t := 21) (q := 10) G dX9_price_7 (by decide) rfl (fun c7 => ?_) (fun c7 => ?_)
  · refine bq_iconst (q := 22) (v := -1) G (by decide) dX9_price_21 rfl ?_
    exact hret _ _ _ _ _ dX9_price_22 ⟨by unfold gs_price; rw [if_neg (fun h => c7 h.1)], gs_mK.rf I, rfl⟩
  · refine bq_iload_n (q := 11) G rfl dX9_price_10 rfl ?_
    refine bq_iconst (q := 12) (v := 0) G (by decide) dX9_price_11 rfl ?_
    refine bq_sipush (q := 15) (v := 200) G (by decide) dX9_price_12 rfl ?_
    refine bq_calls (q := 18) G dX9_price_15 rfl cl_X9_45 (c_X9_in) rfl rfl ⟨Nat.le_of_ble_eq_true rfl, Nat.le_of_ble_eq_true rfl⟩ (Nat.le_of_ble_eq_true rfl) ⟨Nat.le_of_ble_eq_true rfl, Nat.le_of_ble_eq_true rfl⟩ rfl ?_
    first | refine bq_ifb_ne (t := 23) (q := 21) G dX9_price_18 (by decide) rfl (fun c18 => ?_) (fun c18 => ?_) | refine bq_if_ne (t := 23) (q := 21) G dX9_price_18 (by decide) rfl (fun c18 => ?_) (fun c18 => ?_)
    · obtain ⟨m, hm, rfl⟩ := gs_in200 c18
      have hcl : (nI m).toNatClampNeg = m := nI_clamp (by omega)
      have loop : ∀ k, k ≤ m → ∀ J, gs_mI (gs_H I) (I 77 4) (I 77 2) k J → A 0 0 32 [some (.ref (z + 75)), some (.int c), some (.int (nI m)), some (.int (gs_sum (I 77 4) (I 77 2) (I 77 1) (I 79) k)), some (.int (nI k))] [] 85 (bq_Rf z) J L := by
        refine bq_down m ?_
        intro k hk ih J hJ
        have hA2 := gs_arJ hA (gs_on1.H I) hJ
        rcases Nat.lt_or_ge k m with hk8 | hk8
        · refine bq_iload (q := 34) G rfl dX9_price_32 rfl ?_
          refine bq_iload_n (q := 35) G rfl dX9_price_34 rfl ?_
          refine bq_icmp_ge_f (q := 38) (t := 56) G dX9_price_35 rfl (by decide) (nI_ge (a := k) (b := m) hk8 (by omega)) ?_
          refine bq_aload_n (q := 39) G rfl dX9_price_38 rfl ?_
          refine bq_callv (q := 42) G dX9_price_39 rfl cl_X9_123 (c_X9_goes hA2) rfl (by first | assumption | exact ⟨Nat.le_of_ble_eq_true rfl, rfl⟩) rfl ⟨Nat.le_of_ble_eq_true rfl, Nat.le_of_ble_eq_true rfl⟩ (Nat.le_of_ble_eq_true rfl) ⟨Nat.le_of_ble_eq_true rfl, Nat.le_of_ble_eq_true rfl⟩ rfl ?_
          refine bq_pop (q := 43) G rfl dX9_price_42 rfl ?_
          refine bq_iload_n (q := 44) G rfl dX9_price_43 rfl ?_
          refine bq_aload_n (q := 45) G rfl dX9_price_44 rfl ?_
          refine bq_geti (q := 48) G dX9_price_45 rfl fl_X9_114 (by first | assumption | exact ⟨Nat.le_of_ble_eq_true rfl, rfl⟩) rfl ?_
          refine bq_iadd (q := 49) G dX9_price_48 rfl ?_
          refine bq_istore_n (q := 50) (ls' := [_, _, _, _, _]) G dX9_price_49 rfl (by decide) rfl rfl ?_
          refine bq_iinc (q := 53) (ls' := [_, _, _, _, _]) G dX9_price_50 rfl rfl (by first | exact nI_1 _ | exact pk_m1 _ | rfl) (by decide) rfl rfl ?_
          refine bq_goto (q := 32) G dX9_price_53 (by decide) ?_
          refine bq_ls ?_ (ih hk8 _ hJ.go)
          rw [bq_sr_n (show (75 : Nat) ≠ 79 by decide), bq_sr_s, pk_us, hJ.2.1.1, hJ.2.1.2.1, hJ.1, gs_H79, gs_H77]
          rfl
        · have hk9 : k = m := by omega
          subst hk9
          refine bq_iload (q := 34) G rfl dX9_price_32 rfl ?_
          refine bq_iload_n (q := 35) G rfl dX9_price_34 rfl ?_
          refine bq_icmp_ge_t (t := 56) G dX9_price_35 (by decide) (nI_le (a := k) (b := k) (by omega) (by omega)) ?_
          refine bq_aload_n (q := 57) G rfl dX9_price_56 rfl ?_
          refine bq_callv (q := 60) G dX9_price_57 rfl cl_X9_144 (c_X9_lets) rfl (by first | assumption | exact ⟨Nat.le_of_ble_eq_true rfl, rfl⟩) rfl ⟨Nat.le_of_ble_eq_true rfl, Nat.le_of_ble_eq_true rfl⟩ (Nat.le_of_ble_eq_true rfl) ⟨Nat.le_of_ble_eq_true rfl, Nat.le_of_ble_eq_true rfl⟩ rfl ?_
          refine bq_iload_n (q := 61) G rfl dX9_price_60 rfl ?_
          refine bq_iload_n (q := 62) G rfl dX9_price_61 rfl ?_
          refine bq_imul (q := 63) G dX9_price_62 rfl ?_
          refine hret _ _ _ _ _ dX9_price_63 ⟨?_, ((gs_on1.H I).mI hJ).lets, rfl⟩
          unfold gs_price
          rw [if_pos ⟨c7, c18⟩, hcl]
      refine bq_aload_n (q := 24) G rfl dX9_price_23 rfl ?_
      refine bq_callv (q := 27) G dX9_price_24 rfl cl_X9_141 (c_holds) rfl (by first | assumption | exact ⟨Nat.le_of_ble_eq_true rfl, rfl⟩) rfl ⟨Nat.le_of_ble_eq_true rfl, Nat.le_of_ble_eq_true rfl⟩ (Nat.le_of_ble_eq_true rfl) ⟨Nat.le_of_ble_eq_true rfl, Nat.le_of_ble_eq_true rfl⟩ rfl ?_
      refine bq_iconst (q := 28) (v := 0) G (by decide) dX9_price_27 rfl ?_
      refine bq_istore_n (q := 29) (ls' := [_, _, _, _, _]) G dX9_price_28 rfl (by decide) rfl rfl ?_
      refine bq_iconst (q := 30) (v := 0) G (by decide) dX9_price_29 rfl ?_
      refine bq_istore (q := 32) (ls' := [_, _, _, _, _]) G dX9_price_30 rfl (by decide) rfl rfl ?_
      exact loop 0 (by omega) _ (gs_mI.H0 I)
    · refine bq_iconst (q := 22) (v := -1) G (by decide) dX9_price_21 rfl ?_
      exact hret _ _ _ _ _ dX9_price_22 ⟨by unfold gs_price; rw [if_neg (fun h => c18 h.2)], gs_mK.rf I, rfl⟩
