/-! the class looks ahead -/
theorem gs_Ok.min {w d : Int32} {S : Nat → Int32} (h : gs_Ok S) (hd : 0 ≤ d) : gs_Ok (gs_min w d S) := by
  have h1 : gs_Ok (gs_T w S).1 := gs_Ok.lp (x := (S, w, 0)) h 8 (Nat.le_refl 8)
  unfold gs_min
  generalize (gs_T w S).1 = X at h1
  refine ⟨?_, fun b hb => ?_⟩
  · rw [pk_un (by omega), pk_us]
    unfold gs_ran
    obtain ⟨a1, a2⟩ := h1.1
    split
    · rw [Int32.sub_self]; exact ⟨by decide, by decide⟩
    · rename_i hn
      have hn := Int32.not_lt.mp hn
      obtain ⟨x, hx, ex⟩ := gs_rng (M := 99999) (k := 99999) (by decide) ⟨a1, a2⟩
      obtain ⟨y, hy, rfl⟩ := gs_rng (M := 99999) (k := 99999) (by decide) ⟨hd, Int32.le_trans hn a2⟩
      rw [ex] at hn ⊢
      have := (nI_leI (by omega) (by omega)).mp hn
      rw [pk_sub this]
      exact ⟨nI_pos' (by omega), nI_le (b := 99999) (by omega) (by decide)⟩
  · rw [pk_un (by omega), pk_un (by omega), pk_un (by omega), pk_un (by omega), pk_un (by omega), pk_un (by omega), pk_un (by omega), pk_un (by omega), pk_un (by omega), pk_un (by omega), pk_un (by omega), pk_un (by omega)]
    exact h1.2 b hb
theorem gs_Ok.go {w d ar : Int32} {S : Nat → Int32} (h : gs_Ok S) (hd : 0 ≤ d) : gs_Ok (gs_go w d ar S) := by
  have h1 := h.min (w := w) hd
  unfold gs_go gs_pk
  generalize gs_min w d S = X at h1
  refine ⟨by rw [pk_un (by omega)]; exact h1.1, fun b hb => ?_⟩
  rw [pk_un (by omega), pk_un (by omega), pk_un (by omega), pk_un (by omega), pk_un (by omega), pk_un (by omega)]
  exact h1.2 b hb
theorem gs_Ok.it {w d ar : Int32} {S : Nat → Int32} (h : gs_Ok S) (hd : 0 ≤ d) : ∀ k, gs_Ok (gs_it w d ar S k)
  | 0 => h
  | k + 1 => (gs_Ok.it h hd k).go hd
/-- the class tells: settings T, the present S -/
def gs_CS (I : bq_IR) (T S : Nat → Int32) : Prop := (I 6 0 = T 0 ∧ I 6 1 = T 1 ∧ I 6 2 = T 2 ∧ I 6 3 = T 3 ∧ I 6 4 = T 4) ∧ (bq_MC I 17 S ∧ I 17 0 = S 0 ∧ I 17 2 = S 2) ∧ gs_Ok S ∧ 1 ≤ T 1 ∧ 0 ≤ T 2
/-- only the moment ahead differs -/
def gs_cK (I J : bq_IR) : Prop := ∀ x, (x < 21 ∨ 24 < x) → J x = I x
def gs_aI (I : bq_IR) (w d ar : Int32) (S : Nat → Int32) (k : Nat) (J : bq_IR) : Prop := bq_MC J 21 (gs_it w d ar S k) ∧ gs_cK I J
theorem gs_aI.go {I J K : bq_IR} {w d ar : Int32} {S : Nat → Int32} {k : Nat} (h : gs_aI I w d ar S k J) (h1 : bq_MC K 21 (gs_min w d (gs_it w d ar S k))) (h2 : ∀ x, (x < 21 ∨ 21 + 3 < x) → K x = J x) : gs_aI I w d ar S (k + 1) K := by
  refine ⟨h1.row fun j _ _ hj => ?_, fun x hx => (h2 x hx).trans (h.2 x hx)⟩
  show gs_pk ar (gs_min w d (gs_it w d ar S k)) j = _
  unfold gs_pk
  rw [pk_un hj]
theorem gs_CS.keep {I J : bq_IR} {T S : Nat → Int32} (h : gs_CS I T S) (hJ : gs_cK I J) : gs_CS J T S := by
  obtain ⟨h1, ⟨h2, h3⟩, h4⟩ := h
  refine ⟨?_, ⟨h2.same (hJ 17 (by decide)) (hJ 18 (by decide)) (hJ 19 (by decide)) (hJ 20 (by decide)), ?_⟩, h4⟩
  · rw [hJ 6 (by decide)]; exact h1
  · rw [hJ 17 (by decide)]; exact h3
theorem gs_aI.hgt {I J : bq_IR} {w d : Int32} {T S : Nat → Int32} {k : Nat} (hC : gs_CS I T S) (h : gs_aI I w d (T 1) S k J) : gs_hgt (J (5 + 1) 1) (J 21 1) = gs_hi w d (T 1) S k := by
  have hK := hC.keep h.2
  rw [show J (5 + 1) 1 = T 1 from hK.1.2.1, gs_hgt1 hK.2.2.2.1, h.1.1]
  rfl
set_option maxHeartbeats 1000000 in
set_option maxRecDepth 100000 in
theorem c_X8_lookAhead {z : Nat} {I : bq_IR} {L : bq_LR} {T S : Nat → Int32} (hC : gs_CS I T S) : bq_FV MX8_lookAhead z [.ref (z + 0)] 85 (bq_Rf z) I L (fun J L' => (∀ w d ar : Int32, gs_aI I w d ar S 0 J) ∧ L' = L) := by
  refine bq_FVof [some (.ref (z + 0))] rfl (Nat.le_of_ble_eq_true rfl) (by decide) rfl ?_
  intro A G hret
  have G : bq_Cx cX8_lookAhead RX8 1 z (bq_rm MX8_lookAhead 0 0) "lookAhead" A := G
  refine bq_aload_n (q := 1) G rfl dX8_lookAhead_0 rfl ?_
  refine bq_getr (q := 4) G dX8_lookAhead_1 rfl fl_X8_40 (by first | assumption | exact ⟨Nat.le_of_ble_eq_true rfl, rfl⟩) (fun _ _ _ => rfl) (rf_0_5 z) ?_
  refine bq_aload_n (q := 5) G rfl dX8_lookAhead_4 rfl ?_
  refine bq_getr (q := 8) G dX8_lookAhead_5 rfl fl_X8_36 (by first | assumption | exact ⟨Nat.le_of_ble_eq_true rfl, rfl⟩) (fun _ _ _ => rfl) (rf_0_4 z) ?_
  refine bq_callvV (q := 11) G dX8_lookAhead_8 rfl cl_X8_102 (c_X5_copyFrom (bq_Mo21 z) (bq_Mo17 z) (by decide) hC.2.1.1) rfl (by first | assumption | exact ⟨Nat.le_of_ble_eq_true rfl, rfl⟩) rfl ⟨Nat.le_of_ble_eq_true rfl, Nat.le_of_ble_eq_true rfl⟩ (Nat.le_of_ble_eq_true rfl) ⟨Nat.le_of_ble_eq_true rfl, Nat.le_of_ble_eq_true rfl⟩ (fun I8 L8 h8 => ?_)
  obtain ⟨⟨h1, _, _⟩, h2, rfl⟩ := h8
  exact hret _ _ _ _ dX8_lookAhead_11 ⟨fun w d ar => ⟨h1, h2⟩, rfl⟩
set_option maxHeartbeats 1000000 in
set_option maxRecDepth 100000 in
theorem c_X8_isPlanned {z n : Nat} {R : bq_RR} {I : bq_IR} {L : bq_LR} {m : Int32}  : bq_FC MX8_isPlanned z [.int m] n R I L 0 0 (some (.int (if 1 ≤ m ∧ m ≤ 60 then 1 else 0))) n R (I) (L) := by
  refine bq_ofI [some (.int m)] rfl (Nat.le_of_ble_eq_true rfl) (by decide) rfl (by first | rfl | exact bq_nb _ | (split <;> rfl)) ?_
  intro A G hret
  have G : bq_Cx cX8_isPlanned RX8 1 z (bq_rm MX8_isPlanned 0 0) "isPlanned" A := G
  refine bq_iload_n (q := 1) G rfl dX8_isPlanned_0 rfl ?_
  refine bq_iconst (q := 2) (v := 1) G (by decide) dX8_isPlanned_1 rfl ?_
  refine bq_icmp_lt (t := 15) (q := 5) G dX8_isPlanned_2 (by decide) rfl (fun c2 => ?_) (fun c2 => ?_)
  · refine bq_iconst (q := 16) (v := 0) G (by decide) dX8_isPlanned_15 rfl ?_
    exact bq_ri (hret _ _ dX8_isPlanned_16) (by simp only [Int32.lt_iff_toInt_lt, Int32.le_iff_toInt_le] at *; (repeat' split) <;> first | rfl | omega) rfl rfl
  · refine bq_iload_n (q := 6) G rfl dX8_isPlanned_5 rfl ?_
    refine bq_bipush (q := 8) (v := 60) G (by decide) dX8_isPlanned_6 rfl ?_
    refine bq_icmp_gt (t := 15) (q := 11) G dX8_isPlanned_8 (by decide) rfl (fun c8 => ?_) (fun c8 => ?_)
    · refine bq_iconst (q := 16) (v := 0) G (by decide) dX8_isPlanned_15 rfl ?_
      exact bq_ri (hret _ _ dX8_isPlanned_16) (by simp only [Int32.lt_iff_toInt_lt, Int32.le_iff_toInt_le] at *; (repeat' split) <;> first | rfl | omega) rfl rfl
    · refine bq_iconst (q := 12) (v := 1) G (by decide) dX8_isPlanned_11 rfl ?_
      refine bq_goto (q := 16) G dX8_isPlanned_12 (by decide) ?_
      exact bq_ri (hret _ _ dX8_isPlanned_16) (by simp only [Int32.lt_iff_toInt_lt, Int32.le_iff_toInt_le] at *; (repeat' split) <;> first | rfl | omega) rfl rfl
set_option maxHeartbeats 1000000 in
set_option maxRecDepth 100000 in
theorem c_X8_stands {z : Nat} {I : bq_IR} {L : bq_LR} {n : Int32} {T S : Nat → Int32} (hC : gs_CS I T S) : bq_FI MX8_stands z [.ref (z + 0), .int n] 85 (bq_Rf z) I L (fun r J L' => r = gs_stands T S n ∧ gs_cK I J ∧ L' = L) := by
  refine bq_FIof [some (.ref (z + 0)), some (.int n), none] rfl (Nat.le_of_ble_eq_true rfl) (by decide) rfl (fun _ _ _ _ => rfl) ?_
  intro A G hret
  have G : bq_Cx cX8_stands RX8 3 z (bq_rm MX8_stands 0 0) "stands" A := G
  refine bq_iload_n (q := 1) G rfl dX8_stands_0 rfl ?_
  refine bq_if_lt (t := 11) (q := 4) G dX8_stands_1 (by decide) rfl (fun c1 => ?_) (fun c1 => ?_)
  · refine bq_iconst (q := 12) (v := -1) G (by decide) dX8_stands_11 rfl ?_
    exact hret _ _ _ _ _ dX8_stands_12 ⟨by unfold gs_stands; rw [if_neg (fun h => absurd h.1 (Int32.not_le.mpr c1))], fun _ _ => rfl, rfl⟩
  · refine bq_iload_n (q := 5) G rfl dX8_stands_4 rfl ?_
    refine bq_sipush (q := 8) (v := 200) G (by decide) dX8_stands_5 rfl ?_
    refine bq_icmp_le (t := 13) (q := 11) G dX8_stands_8 (by decide) rfl (fun c8 => ?_) (fun c8 => ?_)
    · obtain ⟨m, hm, rfl⟩ := gs_in200 ⟨Int32.not_lt.mp c1, c8⟩
      have hcl : (nI m).toNatClampNeg = m := nI_clamp (by omega)
      have hif : (0 : Int32) ≤ nI m ∧ nI m ≤ 200 := ⟨Int32.not_lt.mp c1, c8⟩
      have loop : ∀ k, k ≤ m → ∀ J, gs_aI I (T 4) (T 2) (T 1) S k J → A 0 0 19 [some (.ref (z + 0)), some (.int (nI m)), some (.int (nI k))] [] 85 (bq_Rf z) J L := by
        refine bq_down m ?_
        intro k hk ih J hJ
        have hK := hC.keep hJ.2
        rcases Nat.lt_or_ge k m with hk8 | hk8
        · refine bq_iload_n (q := 20) G rfl dX8_stands_19 rfl ?_
          refine bq_iload_n (q := 21) G rfl dX8_stands_20 rfl ?_
          refine bq_icmp_ge_f (q := 24) (t := 51) G dX8_stands_21 rfl (by decide) (nI_ge (a := k) (b := m) hk8 (by omega)) ?_
          refine bq_aload_n (q := 25) G rfl dX8_stands_24 rfl ?_
          refine bq_getr (q := 28) G dX8_stands_25 rfl fl_X8_40 (by first | assumption | exact ⟨Nat.le_of_ble_eq_true rfl, rfl⟩) (fun _ _ _ => rfl) (rf_0_5 z) ?_
          refine bq_aload_n (q := 29) G rfl dX8_stands_28 rfl ?_
          refine bq_getr (q := 32) G dX8_stands_29 rfl fl_X8_26 (by first | assumption | exact ⟨Nat.le_of_ble_eq_true rfl, rfl⟩) (fun _ _ _ => rfl) (rf_0_2 z) ?_
          refine bq_callv (q := 35) G dX8_stands_32 rfl cl_X8_151 (c_X0_stairWidth (bq_Ce5 z)) rfl (by first | assumption | exact ⟨Nat.le_of_ble_eq_true rfl, rfl⟩) rfl ⟨Nat.le_of_ble_eq_true rfl, Nat.le_of_ble_eq_true rfl⟩ (Nat.le_of_ble_eq_true rfl) ⟨Nat.le_of_ble_eq_true rfl, Nat.le_of_ble_eq_true rfl⟩ rfl ?_
          refine bq_aload_n (q := 36) G rfl dX8_stands_35 rfl ?_
          refine bq_getr (q := 39) G dX8_stands_36 rfl fl_X8_26 (by first | assumption | exact ⟨Nat.le_of_ble_eq_true rfl, rfl⟩) (fun _ _ _ => rfl) (rf_0_2 z) ?_
          refine bq_callv (q := 42) G dX8_stands_39 rfl cl_X8_155 (c_X0_drainCups (bq_Ce5 z)) rfl (by first | assumption | exact ⟨Nat.le_of_ble_eq_true rfl, rfl⟩) rfl ⟨Nat.le_of_ble_eq_true rfl, Nat.le_of_ble_eq_true rfl⟩ (Nat.le_of_ble_eq_true rfl) ⟨Nat.le_of_ble_eq_true rfl, Nat.le_of_ble_eq_true rfl⟩ rfl ?_
          refine bq_callvV (q := 45) G dX8_stands_42 rfl cl_X8_158 (c_X5_pass (bq_Mo21 z) hJ.1 (hC.2.2.1.it hC.2.2.2.2 k)) rfl (by first | assumption | exact ⟨Nat.le_of_ble_eq_true rfl, rfl⟩) rfl ⟨Nat.le_of_ble_eq_true rfl, Nat.le_of_ble_eq_true rfl⟩ (Nat.le_of_ble_eq_true rfl) ⟨Nat.le_of_ble_eq_true rfl, Nat.le_of_ble_eq_true rfl⟩ (fun I42 L42 h42 => ?_)
          obtain ⟨⟨h1, _⟩, h2, rfl⟩ := h42
          rw [show J (5 + 1) 4 = T 4 from hK.1.2.2.2.2, show J (5 + 1) 2 = T 2 from hK.1.2.2.1] at h1
          refine bq_iinc (q := 48) (ls' := [_, _, _]) G dX8_stands_45 rfl rfl (by first | exact nI_1 _ | exact pk_m1 _ | rfl) (by decide) rfl rfl ?_
          refine bq_goto (q := 19) G dX8_stands_48 (by decide) ?_
          exact ih hk8 _ (hJ.go h1 h2)
        · have hk9 : k = m := by omega
          subst hk9
          refine bq_iload_n (q := 20) G rfl dX8_stands_19 rfl ?_
          refine bq_iload_n (q := 21) G rfl dX8_stands_20 rfl ?_
          refine bq_icmp_ge_t (t := 51) G dX8_stands_21 (by decide) (nI_le (a := k) (b := k) (by omega) (by omega)) ?_
          refine bq_aload_n (q := 52) G rfl dX8_stands_51 rfl ?_
          refine bq_getr (q := 55) G dX8_stands_52 rfl fl_X8_26 (by first | assumption | exact ⟨Nat.le_of_ble_eq_true rfl, rfl⟩) (fun _ _ _ => rfl) (rf_0_2 z) ?_
          refine bq_aload_n (q := 56) G rfl dX8_stands_55 rfl ?_
          refine bq_getr (q := 59) G dX8_stands_56 rfl fl_X8_40 (by first | assumption | exact ⟨Nat.le_of_ble_eq_true rfl, rfl⟩) (fun _ _ _ => rfl) (rf_0_5 z) ?_
          refine bq_geti (q := 62) G dX8_stands_59 rfl fl_X8_138 (by first | assumption | exact ⟨Nat.le_of_ble_eq_true rfl, rfl⟩) rfl ?_
          refine bq_callv (q := 65) G dX8_stands_62 rfl cl_X8_141 (c_X0_heightOf (bq_Ce5 z)) rfl (by first | assumption | exact ⟨Nat.le_of_ble_eq_true rfl, rfl⟩) rfl ⟨Nat.le_of_ble_eq_true rfl, Nat.le_of_ble_eq_true rfl⟩ (Nat.le_of_ble_eq_true rfl) ⟨Nat.le_of_ble_eq_true rfl, Nat.le_of_ble_eq_true rfl⟩ rfl ?_
          exact hret _ _ _ _ _ dX8_stands_65 ⟨by rw [hJ.hgt hC]; unfold gs_stands; rw [if_pos hif, hcl], hJ.2, rfl⟩
      refine bq_aload_n (q := 14) G rfl dX8_stands_13 rfl ?_
      refine bq_callvV (q := 17) G dX8_stands_14 rfl cl_X8_187 (c_X8_lookAhead hC) rfl (by first | assumption | exact ⟨Nat.le_of_ble_eq_true rfl, rfl⟩) rfl ⟨Nat.le_of_ble_eq_true rfl, Nat.le_of_ble_eq_true rfl⟩ (Nat.le_of_ble_eq_true rfl) ⟨Nat.le_of_ble_eq_true rfl, Nat.le_of_ble_eq_true rfl⟩ (fun I14 L14 h14 => ?_)
      obtain ⟨h0, rfl⟩ := h14
      refine bq_iconst (q := 18) (v := 0) G (by decide) dX8_stands_17 rfl ?_
      refine bq_istore_n (q := 19) (ls' := [_, _, _]) G dX8_stands_18 rfl (by decide) rfl rfl ?_
      exact loop 0 (by omega) _ (h0 _ _ _)
    · refine bq_iconst (q := 12) (v := -1) G (by decide) dX8_stands_11 rfl ?_
      exact hret _ _ _ _ _ dX8_stands_12 ⟨by unfold gs_stands; rw [if_neg (fun h => c8 h.2)], fun _ _ => rfl, rfl⟩
set_option maxHeartbeats 1000000 in
set_option maxRecDepth 100000 in
theorem c_X8_most {z : Nat} {I : bq_IR} {L : bq_LR} {n : Int32} {T S : Nat → Int32} (hC : gs_CS I T S) : bq_FI MX8_most z [.ref (z + 0), .int n] 85 (bq_Rf z) I L (fun r J L' => r = gs_most T S n ∧ gs_cK I J ∧ L' = L) := by
  refine bq_FIof [some (.ref (z + 0)), some (.int n), none, none] rfl (Nat.le_of_ble_eq_true rfl) (by decide) rfl (fun _ _ _ _ => rfl) ?_
  intro A G hret
  have G : bq_Cx cX8_most RX8 4 z (bq_rm MX8_most 0 0) "most" A := G
  refine bq_iload_n (q := 1) G rfl dX8_most_0 rfl ?_
  refine bq_if_lt (t := 11) (q := 4) G dX8_most_1 (by decide) rfl (fun c1 => ?_) (fun c1 => ?_)
  · refine bq_iconst (q := 12) (v := -1) G (by decide) dX8_most_11 rfl ?_
    exact hret _ _ _ _ _ dX8_most_12 ⟨by unfold gs_most; rw [if_neg (fun h => absurd h.1 (Int32.not_le.mpr c1))], fun _ _ => rfl, rfl⟩
  · refine bq_iload_n (q := 5) G rfl dX8_most_4 rfl ?_
    refine bq_sipush (q := 8) (v := 200) G (by decide) dX8_most_5 rfl ?_
    refine bq_icmp_le (t := 13) (q := 11) G dX8_most_8 (by decide) rfl (fun c8 => ?_) (fun c8 => ?_)
    · obtain ⟨m, hm, rfl⟩ := gs_in200 ⟨Int32.not_lt.mp c1, c8⟩
      have hcl : (nI m).toNatClampNeg = m := nI_clamp (by omega)
      have hif : (0 : Int32) ≤ nI m ∧ nI m ≤ 200 := ⟨Int32.not_lt.mp c1, c8⟩
      have loop : ∀ k, k ≤ m → ∀ J, gs_aI I (T 4) (T 2) (T 1) S k J → A 0 0 34 [some (.ref (z + 0)), some (.int (nI m)), some (.int (gs_mo (T 4) (T 2) (T 1) S k)), some (.int (nI k))] [] 85 (bq_Rf z) J L := by
        refine bq_down m ?_
        intro k hk ih J hJ
        have hK := hC.keep hJ.2
        rcases Nat.lt_or_ge k m with hk8 | hk8
        · refine bq_iload_n (q := 35) G rfl dX8_most_34 rfl ?_
          refine bq_iload_n (q := 36) G rfl dX8_most_35 rfl ?_
          refine bq_icmp_ge_f (q := 39) (t := 85) G dX8_most_36 rfl (by decide) (nI_ge (a := k) (b := m) hk8 (by omega)) ?_
          refine bq_aload_n (q := 40) G rfl dX8_most_39 rfl ?_
          refine bq_getr (q := 43) G dX8_most_40 rfl fl_X8_40 (by first | assumption | exact ⟨Nat.le_of_ble_eq_true rfl, rfl⟩) (fun _ _ _ => rfl) (rf_0_5 z) ?_
          refine bq_aload_n (q := 44) G rfl dX8_most_43 rfl ?_
          refine bq_getr (q := 47) G dX8_most_44 rfl fl_X8_26 (by first | assumption | exact ⟨Nat.le_of_ble_eq_true rfl, rfl⟩) (fun _ _ _ => rfl) (rf_0_2 z) ?_
          refine bq_callv (q := 50) G dX8_most_47 rfl cl_X8_151 (c_X0_stairWidth (bq_Ce5 z)) rfl (by first | assumption | exact ⟨Nat.le_of_ble_eq_true rfl, rfl⟩) rfl ⟨Nat.le_of_ble_eq_true rfl, Nat.le_of_ble_eq_true rfl⟩ (Nat.le_of_ble_eq_true rfl) ⟨Nat.le_of_ble_eq_true rfl, Nat.le_of_ble_eq_true rfl⟩ rfl ?_
          refine bq_aload_n (q := 51) G rfl dX8_most_50 rfl ?_
          refine bq_getr (q := 54) G dX8_most_51 rfl fl_X8_26 (by first | assumption | exact ⟨Nat.le_of_ble_eq_true rfl, rfl⟩) (fun _ _ _ => rfl) (rf_0_2 z) ?_
          refine bq_callv (q := 57) G dX8_most_54 rfl cl_X8_155 (c_X0_drainCups (bq_Ce5 z)) rfl (by first | assumption | exact ⟨Nat.le_of_ble_eq_true rfl, rfl⟩) rfl ⟨Nat.le_of_ble_eq_true rfl, Nat.le_of_ble_eq_true rfl⟩ (Nat.le_of_ble_eq_true rfl) ⟨Nat.le_of_ble_eq_true rfl, Nat.le_of_ble_eq_true rfl⟩ rfl ?_
          refine bq_callvV (q := 60) G dX8_most_57 rfl cl_X8_158 (c_X5_pass (bq_Mo21 z) hJ.1 (hC.2.2.1.it hC.2.2.2.2 k)) rfl (by first | assumption | exact ⟨Nat.le_of_ble_eq_true rfl, rfl⟩) rfl ⟨Nat.le_of_ble_eq_true rfl, Nat.le_of_ble_eq_true rfl⟩ (Nat.le_of_ble_eq_true rfl) ⟨Nat.le_of_ble_eq_true rfl, Nat.le_of_ble_eq_true rfl⟩ (fun I57 L57 h57 => ?_)
          obtain ⟨⟨h1, _⟩, h2, rfl⟩ := h57
          rw [show J (5 + 1) 4 = T 4 from hK.1.2.2.2.2, show J (5 + 1) 2 = T 2 from hK.1.2.2.1] at h1
          have hJ1 := hJ.go h1 h2
          refine bq_iload_n (q := 61) G rfl dX8_most_60 rfl ?_
          refine bq_aload_n (q := 62) G rfl dX8_most_61 rfl ?_
          refine bq_getr (q := 65) G dX8_most_62 rfl fl_X8_26 (by first | assumption | exact ⟨Nat.le_of_ble_eq_true rfl, rfl⟩) (fun _ _ _ => rfl) (rf_0_2 z) ?_
          refine bq_aload_n (q := 66) G rfl dX8_most_65 rfl ?_
          refine bq_getr (q := 69) G dX8_most_66 rfl fl_X8_40 (by first | assumption | exact ⟨Nat.le_of_ble_eq_true rfl, rfl⟩) (fun _ _ _ => rfl) (rf_0_5 z) ?_
          refine bq_geti (q := 72) G dX8_most_69 rfl fl_X8_138 (by first | assumption | exact ⟨Nat.le_of_ble_eq_true rfl, rfl⟩) rfl ?_
          refine bq_callv (q := 75) G dX8_most_72 rfl cl_X8_141 (c_X0_heightOf (bq_Ce5 z)) rfl (by first | assumption | exact ⟨Nat.le_of_ble_eq_true rfl, rfl⟩) rfl ⟨Nat.le_of_ble_eq_true rfl, Nat.le_of_ble_eq_true rfl⟩ (Nat.le_of_ble_eq_true rfl) ⟨Nat.le_of_ble_eq_true rfl, Nat.le_of_ble_eq_true rfl⟩ rfl ?_
          refine bq_calls (q := 78) G dX8_most_75 rfl cl_X8_162 (c_J9_max_7cf53) rfl rfl ⟨Nat.le_of_ble_eq_true rfl, Nat.le_of_ble_eq_true rfl⟩ (Nat.le_of_ble_eq_true rfl) ⟨Nat.le_of_ble_eq_true rfl, Nat.le_of_ble_eq_true rfl⟩ rfl ?_
          refine bq_top (congrArg Value.int (by rw [hJ1.hgt hC, ← gs_mo_s])) ?_
          refine bq_istore_n (q := 79) (ls' := [_, _, _, _]) G dX8_most_78 rfl (by decide) rfl rfl ?_
          refine bq_iinc (q := 82) (ls' := [_, _, _, _]) G dX8_most_79 rfl rfl (by first | exact nI_1 _ | exact pk_m1 _ | rfl) (by decide) rfl rfl ?_
          refine bq_goto (q := 34) G dX8_most_82 (by decide) ?_
          exact ih hk8 _ hJ1
        · have hk9 : k = m := by omega
          subst hk9
          refine bq_iload_n (q := 35) G rfl dX8_most_34 rfl ?_
          refine bq_iload_n (q := 36) G rfl dX8_most_35 rfl ?_
          refine bq_icmp_ge_t (t := 85) G dX8_most_36 (by decide) (nI_le (a := k) (b := k) (by omega) (by omega)) ?_
          refine bq_iload_n (q := 86) G rfl dX8_most_85 rfl ?_
          exact hret _ _ _ _ _ dX8_most_86 ⟨by unfold gs_most; rw [if_pos hif, hcl], hJ.2, rfl⟩
      refine bq_aload_n (q := 14) G rfl dX8_most_13 rfl ?_
      refine bq_callvV (q := 17) G dX8_most_14 rfl cl_X8_187 (c_X8_lookAhead hC) rfl (by first | assumption | exact ⟨Nat.le_of_ble_eq_true rfl, rfl⟩) rfl ⟨Nat.le_of_ble_eq_true rfl, Nat.le_of_ble_eq_true rfl⟩ (Nat.le_of_ble_eq_true rfl) ⟨Nat.le_of_ble_eq_true rfl, Nat.le_of_ble_eq_true rfl⟩ (fun I14 L14 h14 => ?_)
      obtain ⟨h0, rfl⟩ := h14
      refine bq_aload_n (q := 18) G rfl dX8_most_17 rfl ?_
      refine bq_getr (q := 21) G dX8_most_18 rfl fl_X8_26 (by first | assumption | exact ⟨Nat.le_of_ble_eq_true rfl, rfl⟩) (fun _ _ _ => rfl) (rf_0_2 z) ?_
      refine bq_aload_n (q := 22) G rfl dX8_most_21 rfl ?_
      refine bq_getr (q := 25) G dX8_most_22 rfl fl_X8_40 (by first | assumption | exact ⟨Nat.le_of_ble_eq_true rfl, rfl⟩) (fun _ _ _ => rfl) (rf_0_5 z) ?_
      refine bq_geti (q := 28) G dX8_most_25 rfl fl_X8_138 (by first | assumption | exact ⟨Nat.le_of_ble_eq_true rfl, rfl⟩) rfl ?_
      refine bq_callv (q := 31) G dX8_most_28 rfl cl_X8_141 (c_X0_heightOf (bq_Ce5 z)) rfl (by first | assumption | exact ⟨Nat.le_of_ble_eq_true rfl, rfl⟩) rfl ⟨Nat.le_of_ble_eq_true rfl, Nat.le_of_ble_eq_true rfl⟩ (Nat.le_of_ble_eq_true rfl) ⟨Nat.le_of_ble_eq_true rfl, Nat.le_of_ble_eq_true rfl⟩ rfl ?_
      refine bq_top (congrArg Value.int ((h0 (T 4) (T 2) (T 1)).hgt hC)) ?_
      refine bq_istore_n (q := 32) (ls' := [_, _, _, _]) G dX8_most_31 rfl (by decide) rfl rfl ?_
      refine bq_iconst (q := 33) (v := 0) G (by decide) dX8_most_32 rfl ?_
      refine bq_istore_n (q := 34) (ls' := [_, _, _, _]) G dX8_most_33 rfl (by decide) rfl rfl ?_
      exact loop 0 (by omega) _ (h0 _ _ _)
    · refine bq_iconst (q := 12) (v := -1) G (by decide) dX8_most_11 rfl ?_
      exact hret _ _ _ _ _ dX8_most_12 ⟨by unfold gs_most; rw [if_neg (fun h => c8 h.2)], fun _ _ => rfl, rfl⟩
