theorem gs_mo_le {w d ar : Int32} {S : Nat → Int32} {X : Int32} : ∀ m, gs_mo w d ar S m ≤ X ↔ ∀ k, k ≤ m → gs_hi w d ar S k ≤ X
  | 0 => ⟨fun h k hk => by rw [show k = 0 by omega]; exact h, fun h => h 0 (Nat.le_refl 0)⟩
  | m + 1 => by
    rw [gs_mo_s]
    have ih := gs_mo_le (w := w) (d := d) (ar := ar) (S := S) (X := X) m
    constructor
    · intro h k hk
      split at h
      · rename_i hlt
        rcases Nat.lt_or_ge k (m + 1) with hk8 | hk8
        · exact ih.mp (Int32.le_trans (Int32.le_of_lt hlt) h) k (by omega)
        · rw [show k = m + 1 by omega]; exact h
      · rename_i hnl
        rcases Nat.lt_or_ge k (m + 1) with hk8 | hk8
        · exact ih.mp h k (by omega)
        · rw [show k = m + 1 by omega]; exact Int32.le_trans (Int32.not_lt.mp hnl) h
    · intro h
      split
      · exact h (m + 1) (Nat.le_refl _)
      · exact ih.mpr (fun k hk => h k (by omega))
theorem gs_cK.refl (I : bq_IR) : gs_cK I I := fun _ _ => rfl
theorem gs_cK.trans {I J K : bq_IR} (h : gs_cK I J) (h2 : gs_cK J K) : gs_cK I K := fun x hx => (h2 x hx).trans (h x hx)
theorem gs_hJ {I J : bq_IR} {w d : Int32} {T S : Nat → Int32} {k : Nat} (h1 : I 6 1 = T 1) (hA : 1 ≤ T 1) (h : gs_aI I w d (T 1) S k J) : gs_hgt (J (5 + 1) 1) (J 21 1) = gs_hi w d (T 1) S k := by
  rw [show J (5 + 1) 1 = T 1 from (congrFun (h.2 6 (by decide)) 1).trans h1, gs_hgt1 hA, h.1.1]
  rfl
set_option maxHeartbeats 1000000 in
set_option maxRecDepth 100000 in
theorem c_X8_above {z : Nat} {I : bq_IR} {L : bq_LR} {T S : Nat → Int32} (hC : gs_CS I T S) : bq_FI MX8_above z [.ref (z + 0)] 85 (bq_Rf z) I L (fun r J L' => r = gs_abk T S 201 0 ∧ gs_cK I J ∧ L' = L) := by
  refine bq_FIof [some (.ref (z + 0)), none] rfl (Nat.le_of_ble_eq_true rfl) (by decide) rfl (fun _ _ _ _ => rfl) ?_
  intro A G hret
  have G : bq_Cx cX8_above RX8 2 z (bq_rm MX8_above 0 0) "above" A := G
  have loop : ∀ k, k ≤ 201 → gs_abk T S (201 - k) k = gs_abk T S 201 0 → ∀ J, gs_aI I (T 4) (T 2) (T 1) S k J → A 0 0 6 [some (.ref (z + 0)), some (.int (nI k))] [] 85 (bq_Rf z) J L := by
    refine bq_down 201 ?_
    intro k hk ih he J hJ
    have hK := hC.keep hJ.2
    rcases Nat.lt_or_ge k 201 with hk8 | hk8
    · rw [show 201 - k = (201 - (k + 1)) + 1 by omega, gs_abk_s] at he
      by_cases hm : gs_hi (T 4) (T 2) (T 1) S k ≤ T 3
      · rw [if_neg (Int32.not_lt.mpr hm)] at he
        refine bq_iload_n (q := 7) G rfl dX8_above_6 rfl ?_
        refine bq_sipush (q := 10) (v := 200) G (by decide) dX8_above_7 rfl ?_
        refine bq_icmp_gt_f (q := 13) (t := 59) G dX8_above_10 rfl (by decide) (nI_nlt (a := 200) (b := k) (by omega) (by decide)) ?_
        refine bq_aload_n (q := 14) G rfl dX8_above_13 rfl ?_
        refine bq_getr (q := 17) G dX8_above_14 rfl fl_X8_26 (by first | assumption | exact ⟨Nat.le_of_ble_eq_true rfl, rfl⟩) (fun _ _ _ => rfl) (rf_0_2 z) ?_
        refine bq_aload_n (q := 18) G rfl dX8_above_17 rfl ?_
        refine bq_getr (q := 21) G dX8_above_18 rfl fl_X8_40 (by first | assumption | exact ⟨Nat.le_of_ble_eq_true rfl, rfl⟩) (fun _ _ _ => rfl) (rf_0_5 z) ?_
        refine bq_geti (q := 24) G dX8_above_21 rfl fl_X8_138 (by first | assumption | exact ⟨Nat.le_of_ble_eq_true rfl, rfl⟩) rfl ?_
        refine bq_callv (q := 27) G dX8_above_24 rfl cl_X8_190 (c_X0_isAboveMark (bq_Ce5 z)) rfl (by first | assumption | exact ⟨Nat.le_of_ble_eq_true rfl, rfl⟩) rfl ⟨Nat.le_of_ble_eq_true rfl, Nat.le_of_ble_eq_true rfl⟩ (Nat.le_of_ble_eq_true rfl) ⟨Nat.le_of_ble_eq_true rfl, Nat.le_of_ble_eq_true rfl⟩ rfl ?_
        refine bq_if_eq_t (t := 32) G dX8_above_27 (by decide) (by rw [hJ.hgt hC, show J (5 + 1) 3 = T 3 from hK.1.2.2.2.1, if_pos hm]) ?_
        refine bq_aload_n (q := 33) G rfl dX8_above_32 rfl ?_
        refine bq_getr (q := 36) G dX8_above_33 rfl fl_X8_40 (by first | assumption | exact ⟨Nat.le_of_ble_eq_true rfl, rfl⟩) (fun _ _ _ => rfl) (rf_0_5 z) ?_
        refine bq_aload_n (q := 37) G rfl dX8_above_36 rfl ?_
        refine bq_getr (q := 40) G dX8_above_37 rfl fl_X8_26 (by first | assumption | exact ⟨Nat.le_of_ble_eq_true rfl, rfl⟩) (fun _ _ _ => rfl) (rf_0_2 z) ?_
        refine bq_callv (q := 43) G dX8_above_40 rfl cl_X8_151 (c_X0_stairWidth (bq_Ce5 z)) rfl (by first | assumption | exact ⟨Nat.le_of_ble_eq_true rfl, rfl⟩) rfl ⟨Nat.le_of_ble_eq_true rfl, Nat.le_of_ble_eq_true rfl⟩ (Nat.le_of_ble_eq_true rfl) ⟨Nat.le_of_ble_eq_true rfl, Nat.le_of_ble_eq_true rfl⟩ rfl ?_
        refine bq_aload_n (q := 44) G rfl dX8_above_43 rfl ?_
        refine bq_getr (q := 47) G dX8_above_44 rfl fl_X8_26 (by first | assumption | exact ⟨Nat.le_of_ble_eq_true rfl, rfl⟩) (fun _ _ _ => rfl) (rf_0_2 z) ?_
        refine bq_callv (q := 50) G dX8_above_47 rfl cl_X8_155 (c_X0_drainCups (bq_Ce5 z)) rfl (by first | assumption | exact ⟨Nat.le_of_ble_eq_true rfl, rfl⟩) rfl ⟨Nat.le_of_ble_eq_true rfl, Nat.le_of_ble_eq_true rfl⟩ (Nat.le_of_ble_eq_true rfl) ⟨Nat.le_of_ble_eq_true rfl, Nat.le_of_ble_eq_true rfl⟩ rfl ?_
        refine bq_callvV (q := 53) G dX8_above_50 rfl cl_X8_158 (c_X5_pass (bq_Mo21 z) hJ.1 (hC.2.2.1.it hC.2.2.2.2 k)) rfl (by first | assumption | exact ⟨Nat.le_of_ble_eq_true rfl, rfl⟩) rfl ⟨Nat.le_of_ble_eq_true rfl, Nat.le_of_ble_eq_true rfl⟩ (Nat.le_of_ble_eq_true rfl) ⟨Nat.le_of_ble_eq_true rfl, Nat.le_of_ble_eq_true rfl⟩ (fun I50 L50 h50 => ?_)
        obtain ⟨⟨h1, _⟩, h2, rfl⟩ := h50
        rw [show J (5 + 1) 4 = T 4 from hK.1.2.2.2.2, show J (5 + 1) 2 = T 2 from hK.1.2.2.1] at h1
        refine bq_iinc (q := 56) (ls' := [_, _]) G dX8_above_53 rfl rfl (by first | exact nI_1 _ | exact pk_m1 _ | rfl) (by decide) rfl rfl ?_
        refine bq_goto (q := 6) G dX8_above_56 (by decide) ?_
        exact ih hk8 he _ (hJ.go h1 h2)
      · rw [if_pos (Int32.not_le.mp hm)] at he
        refine bq_iload_n (q := 7) G rfl dX8_above_6 rfl ?_
        refine bq_sipush (q := 10) (v := 200) G (by decide) dX8_above_7 rfl ?_
        refine bq_icmp_gt_f (q := 13) (t := 59) G dX8_above_10 rfl (by decide) (nI_nlt (a := 200) (b := k) (by omega) (by decide)) ?_
        refine bq_aload_n (q := 14) G rfl dX8_above_13 rfl ?_
        refine bq_getr (q := 17) G dX8_above_14 rfl fl_X8_26 (by first | assumption | exact ⟨Nat.le_of_ble_eq_true rfl, rfl⟩) (fun _ _ _ => rfl) (rf_0_2 z) ?_
        refine bq_aload_n (q := 18) G rfl dX8_above_17 rfl ?_
        refine bq_getr (q := 21) G dX8_above_18 rfl fl_X8_40 (by first | assumption | exact ⟨Nat.le_of_ble_eq_true rfl, rfl⟩) (fun _ _ _ => rfl) (rf_0_5 z) ?_
        refine bq_geti (q := 24) G dX8_above_21 rfl fl_X8_138 (by first | assumption | exact ⟨Nat.le_of_ble_eq_true rfl, rfl⟩) rfl ?_
        refine bq_callv (q := 27) G dX8_above_24 rfl cl_X8_190 (c_X0_isAboveMark (bq_Ce5 z)) rfl (by first | assumption | exact ⟨Nat.le_of_ble_eq_true rfl, rfl⟩) rfl ⟨Nat.le_of_ble_eq_true rfl, Nat.le_of_ble_eq_true rfl⟩ (Nat.le_of_ble_eq_true rfl) ⟨Nat.le_of_ble_eq_true rfl, Nat.le_of_ble_eq_true rfl⟩ rfl ?_
        refine bq_if_eq_f (q := 30) (t := 32) G dX8_above_27 rfl (by decide) (by rw [hJ.hgt hC, show J (5 + 1) 3 = T 3 from hK.1.2.2.2.1, if_neg hm]; decide) ?_
        refine bq_iload_n (q := 31) G rfl dX8_above_30 rfl ?_
        exact hret _ _ _ _ _ dX8_above_31 ⟨he, hJ.2, rfl⟩
    · have hk9 : k = 201 := by omega
      subst hk9
      refine bq_iload_n (q := 7) G rfl dX8_above_6 rfl ?_
      refine bq_sipush (q := 10) (v := 200) G (by decide) dX8_above_7 rfl ?_
      refine bq_icmp_gt_t (t := 59) G dX8_above_10 (by decide) (nI_lt (a := 200) (b := 201) (by omega) (by omega)) ?_
      refine bq_bipush (q := 61) (v := -9) G (by decide) dX8_above_59 rfl ?_
      exact hret _ _ _ _ _ dX8_above_61 ⟨he, hJ.2, rfl⟩
  refine bq_aload_n (q := 1) G rfl dX8_above_0 rfl ?_
  refine bq_callvV (q := 4) G dX8_above_1 rfl cl_X8_187 (c_X8_lookAhead hC) rfl (by first | assumption | exact ⟨Nat.le_of_ble_eq_true rfl, rfl⟩) rfl ⟨Nat.le_of_ble_eq_true rfl, Nat.le_of_ble_eq_true rfl⟩ (Nat.le_of_ble_eq_true rfl) ⟨Nat.le_of_ble_eq_true rfl, Nat.le_of_ble_eq_true rfl⟩ (fun I1 L1 h1 => ?_)
  obtain ⟨h0, rfl⟩ := h1
  refine bq_iconst (q := 5) (v := 0) G (by decide) dX8_above_4 rfl ?_
  refine bq_istore_n (q := 6) (ls' := [_, _]) G dX8_above_5 rfl (by decide) rfl rfl ?_
  exact loop 0 (by omega) rfl _ (h0 _ _ _)
set_option maxHeartbeats 1000000 in
set_option maxRecDepth 100000 in
theorem c_X8_price {z : Nat} {I : bq_IR} {L : bq_LR} {c n : Int32} {T S : Nat → Int32} (hC : gs_CS I T S) : bq_FI MX8_price z [.ref (z + 0), .int c, .int n] 85 (bq_Rf z) I L (fun r J L' => r = gs_price T S c n ∧ gs_cK I J ∧ L' = L) := by
  refine bq_FIof [some (.ref (z + 0)), some (.int c), some (.int n), none, none] rfl (Nat.le_of_ble_eq_true rfl) (by decide) rfl (fun _ _ _ _ => rfl) ?_
  intro A G hret
  have G : bq_Cx cX8_price RX8 5 z (bq_rm MX8_price 0 0) "price" A := G
  have no : ¬ ((1 ≤ c ∧ c ≤ 9) ∧ 0 ≤ n ∧ n ≤ 200) → A 0 0 22 [some (.ref (z + 0)), some (.int c), some (.int n), none, none] [] 85 (bq_Rf z) I L := by
    intro h
    refine bq_iconst (q := 23) (v := -1) G (by decide) dX8_price_22 rfl ?_
    exact hret _ _ _ _ _ dX8_price_23 ⟨by unfold gs_price; rw [if_neg h], gs_cK.refl I, rfl⟩
  refine bq_iload_n (q := 1) G rfl dX8_price_0 rfl ?_
  refine bq_iconst (q := 2) (v := 1) G (by decide) dX8_price_1 rfl ?_
  refine bq_icmp_lt (t := 22) (q := 5) G dX8_price_2 (by decide) rfl (fun c2 => ?_) (fun c2 => ?_)
  · exact no (fun h => absurd h.1.1 (Int32.not_le.mpr c2))
  · refine bq_iload_n (q := 6) G rfl dX8_price_5 rfl ?_
    refine bq_bipush (q := 8) (v := 9) G (by decide) dX8_price_6 rfl ?_
    refine bq_icmp_gt (t := 22) (q := 11) G dX8_price_8 (by decide) rfl (fun c8 => ?_) (fun c8 => ?_)
    · exact no (fun h => absurd h.1.2 (Int32.not_le.mpr c8))
    · refine bq_iload_n (q := 12) G rfl dX8_price_11 rfl ?_
      refine bq_if_lt (t := 22) (q := 15) G dX8_price_12 (by decide) rfl (fun c12 => ?_) (fun c12 => ?_)
      · exact no (fun h => absurd h.2.1 (Int32.not_le.mpr c12))
      · refine bq_iload_n (q := 16) G rfl dX8_price_15 rfl ?_
        refine bq_sipush (q := 19) (v := 200) G (by decide) dX8_price_16 rfl ?_
        refine bq_icmp_le (t := 24) (q := 22) G dX8_price_19 (by decide) rfl (fun c19 => ?_) (fun c19 => ?_)
        · have hif : (1 ≤ c ∧ c ≤ 9) ∧ 0 ≤ n ∧ n ≤ 200 := ⟨⟨Int32.not_lt.mp c2, Int32.not_lt.mp c8⟩, Int32.not_lt.mp c12, c19⟩
          obtain ⟨m, hm, rfl⟩ := gs_in200 hif.2
          have hcl : (nI m).toNatClampNeg = m := nI_clamp (by omega)
          have loop : ∀ k, k ≤ m → ∀ J, gs_aI I (T 4) (T 2) (T 1) S k J → A 0 0 33 [some (.ref (z + 0)), some (.int c), some (.int (nI m)), some (.int (gs_sum (T 4) (T 2) (T 1) S k)), some (.int (nI k))] [] 85 (bq_Rf z) J L := by
            refine bq_down m ?_
            intro k hk ih J hJ
            have hK := hC.keep hJ.2
            rcases Nat.lt_or_ge k m with hk8 | hk8
            · refine bq_iload (q := 35) G rfl dX8_price_33 rfl ?_
              refine bq_iload_n (q := 36) G rfl dX8_price_35 rfl ?_
              refine bq_icmp_ge_f (q := 39) (t := 76) G dX8_price_36 rfl (by decide) (nI_ge (a := k) (b := m) hk8 (by omega)) ?_
              refine bq_aload_n (q := 40) G rfl dX8_price_39 rfl ?_
              refine bq_getr (q := 43) G dX8_price_40 rfl fl_X8_40 (by first | assumption | exact ⟨Nat.le_of_ble_eq_true rfl, rfl⟩) (fun _ _ _ => rfl) (rf_0_5 z) ?_
              refine bq_aload_n (q := 44) G rfl dX8_price_43 rfl ?_
              refine bq_getr (q := 47) G dX8_price_44 rfl fl_X8_26 (by first | assumption | exact ⟨Nat.le_of_ble_eq_true rfl, rfl⟩) (fun _ _ _ => rfl) (rf_0_2 z) ?_
              refine bq_callv (q := 50) G dX8_price_47 rfl cl_X8_151 (c_X0_stairWidth (bq_Ce5 z)) rfl (by first | assumption | exact ⟨Nat.le_of_ble_eq_true rfl, rfl⟩) rfl ⟨Nat.le_of_ble_eq_true rfl, Nat.le_of_ble_eq_true rfl⟩ (Nat.le_of_ble_eq_true rfl) ⟨Nat.le_of_ble_eq_true rfl, Nat.le_of_ble_eq_true rfl⟩ rfl ?_
              refine bq_aload_n (q := 51) G rfl dX8_price_50 rfl ?_
              refine bq_getr (q := 54) G dX8_price_51 rfl fl_X8_26 (by first | assumption | exact ⟨Nat.le_of_ble_eq_true rfl, rfl⟩) (fun _ _ _ => rfl) (rf_0_2 z) ?_
              refine bq_callv (q := 57) G dX8_price_54 rfl cl_X8_155 (c_X0_drainCups (bq_Ce5 z)) rfl (by first | assumption | exact ⟨Nat.le_of_ble_eq_true rfl, rfl⟩) rfl ⟨Nat.le_of_ble_eq_true rfl, Nat.le_of_ble_eq_true rfl⟩ (Nat.le_of_ble_eq_true rfl) ⟨Nat.le_of_ble_eq_true rfl, Nat.le_of_ble_eq_true rfl⟩ rfl ?_
              refine bq_callvV (q := 60) G dX8_price_57 rfl cl_X8_158 (c_X5_pass (bq_Mo21 z) hJ.1 (hC.2.2.1.it hC.2.2.2.2 k)) rfl (by first | assumption | exact ⟨Nat.le_of_ble_eq_true rfl, rfl⟩) rfl ⟨Nat.le_of_ble_eq_true rfl, Nat.le_of_ble_eq_true rfl⟩ (Nat.le_of_ble_eq_true rfl) ⟨Nat.le_of_ble_eq_true rfl, Nat.le_of_ble_eq_true rfl⟩ (fun I57 L57 h57 => ?_)
              obtain ⟨⟨h1, _, _, _, h11⟩, h2, rfl⟩ := h57
              rw [show J (5 + 1) 4 = T 4 from hK.1.2.2.2.2, show J (5 + 1) 2 = T 2 from hK.1.2.2.1] at h1 h11
              refine bq_iload_n (q := 61) G rfl dX8_price_60 rfl ?_
              refine bq_aload_n (q := 62) G rfl dX8_price_61 rfl ?_
              refine bq_getr (q := 65) G dX8_price_62 rfl fl_X8_40 (by first | assumption | exact ⟨Nat.le_of_ble_eq_true rfl, rfl⟩) (fun _ _ _ => rfl) (rf_0_5 z) ?_
              refine bq_geti (q := 68) G dX8_price_65 rfl fl_X8_224 (by first | assumption | exact ⟨Nat.le_of_ble_eq_true rfl, rfl⟩) rfl ?_
              refine bq_iadd (q := 69) G dX8_price_68 rfl ?_
              refine bq_top (congrArg Value.int (by rw [h11])) ?_
              refine bq_istore_n (q := 70) (ls' := [_, _, _, _, _]) G dX8_price_69 rfl (by decide) rfl rfl ?_
              refine bq_iinc (q := 73) (ls' := [_, _, _, _, _]) G dX8_price_70 rfl rfl (by first | exact nI_1 _ | exact pk_m1 _ | rfl) (by decide) rfl rfl ?_
              refine bq_goto (q := 33) G dX8_price_73 (by decide) ?_
              exact ih hk8 _ (hJ.go h1 h2)
            · have hk9 : k = m := by omega
              subst hk9
              refine bq_iload (q := 35) G rfl dX8_price_33 rfl ?_
              refine bq_iload_n (q := 36) G rfl dX8_price_35 rfl ?_
              refine bq_icmp_ge_t (t := 76) G dX8_price_36 (by decide) (nI_le (a := k) (b := k) (by omega) (by omega)) ?_
              refine bq_iload_n (q := 77) G rfl dX8_price_76 rfl ?_
              refine bq_iload_n (q := 78) G rfl dX8_price_77 rfl ?_
              refine bq_imul (q := 79) G dX8_price_78 rfl ?_
              exact hret _ _ _ _ _ dX8_price_79 ⟨by unfold gs_price; rw [if_pos hif, hcl], hJ.2, rfl⟩
          refine bq_aload_n (q := 25) G rfl dX8_price_24 rfl ?_
          refine bq_callvV (q := 28) G dX8_price_25 rfl cl_X8_187 (c_X8_lookAhead hC) rfl (by first | assumption | exact ⟨Nat.le_of_ble_eq_true rfl, rfl⟩) rfl ⟨Nat.le_of_ble_eq_true rfl, Nat.le_of_ble_eq_true rfl⟩ (Nat.le_of_ble_eq_true rfl) ⟨Nat.le_of_ble_eq_true rfl, Nat.le_of_ble_eq_true rfl⟩ (fun I25 L25 h25 => ?_)
          obtain ⟨h0, rfl⟩ := h25
          refine bq_iconst (q := 29) (v := 0) G (by decide) dX8_price_28 rfl ?_
          refine bq_istore_n (q := 30) (ls' := [_, _, _, _, _]) G dX8_price_29 rfl (by decide) rfl rfl ?_
          refine bq_iconst (q := 31) (v := 0) G (by decide) dX8_price_30 rfl ?_
          refine bq_istore (q := 33) (ls' := [_, _, _, _, _]) G dX8_price_31 rfl (by decide) rfl rfl ?_
          exact loop 0 (by omega) _ (h0 _ _ _)
        · exact no (fun h => c19 h.2.2)
set_option maxHeartbeats 1000000 in
set_option maxRecDepth 100000 in
theorem c_X8_staysAtMark {z : Nat} {I : bq_IR} {L : bq_LR} {w d : Int32} {m : Nat} {T S : Nat → Int32} (hT1 : I 6 1 = T 1) (hT3 : I 6 3 = T 3) (hA : 1 ≤ T 1) (hM : bq_MC I 21 S) (hS : gs_Ok S) (hd : 0 ≤ d) (hm : m ≤ 200) : bq_FI MX8_staysAtMark z [.ref (z + 0), .int w, .int d, .int (nI m)] 85 (bq_Rf z) I L (fun r J L' => r = (if gs_mo w d (T 1) S m ≤ T 3 then 1 else 0) ∧ gs_cK I J ∧ L' = L) := by
  refine bq_FIof [some (.ref (z + 0)), some (.int w), some (.int d), some (.int (nI m)), none, none] rfl (Nat.le_of_ble_eq_true rfl) (by decide) rfl (fun _ _ _ h => by rw [h.1]; split <;> rfl) ?_
  intro A G hret
  have G : bq_Cx cX8_staysAtMark RX8 6 z (bq_rm MX8_staysAtMark 0 0) "staysAtMark" A := G
  have fin : ∀ (v : Int32) (k : Nat) (J : bq_IR), ((v = 0 ∧ gs_mo w d (T 1) S m ≤ T 3) ∨ (v = 1 ∧ ¬ gs_mo w d (T 1) S m ≤ T 3)) → gs_cK I J → A 0 0 61 [some (.ref (z + 0)), some (.int w), some (.int d), some (.int (nI m)), some (.int v), some (.int (nI k))] [] 85 (bq_Rf z) J L := by
    intro v k J hv hJ
    rcases hv with ⟨rfl, hv⟩ | ⟨rfl, hv⟩
    · refine bq_iload (q := 63) G rfl dX8_staysAtMark_61 rfl ?_
      refine bq_if_ne_f (q := 66) (t := 70) G dX8_staysAtMark_63 rfl (by decide) rfl ?_
      refine bq_iconst (q := 67) (v := 1) G (by decide) dX8_staysAtMark_66 rfl ?_
      refine bq_goto (q := 71) G dX8_staysAtMark_67 (by decide) ?_
      exact hret _ _ _ _ _ dX8_staysAtMark_71 ⟨by rw [if_pos hv], hJ, rfl⟩
    · refine bq_iload (q := 63) G rfl dX8_staysAtMark_61 rfl ?_
      refine bq_if_ne_t (t := 70) G dX8_staysAtMark_63 (by decide) (by decide) ?_
      refine bq_iconst (q := 71) (v := 0) G (by decide) dX8_staysAtMark_70 rfl ?_
      exact hret _ _ _ _ _ dX8_staysAtMark_71 ⟨by rw [if_neg hv], hJ, rfl⟩
  have loop : ∀ k, k ≤ m → (∀ j, j < k → gs_hi w d (T 1) S j ≤ T 3) → ∀ J, gs_aI I w d (T 1) S k J → A 0 0 19 [some (.ref (z + 0)), some (.int w), some (.int d), some (.int (nI m)), some (.int (if gs_hi w d (T 1) S k ≤ T 3 then 0 else 1)), some (.int (nI k))] [] 85 (bq_Rf z) J L := by
    refine bq_down m ?_
    intro k hk ih hb J hJ
    rcases Nat.lt_or_ge k m with hk8 | hk8
    · by_cases hm2 : gs_hi w d (T 1) S k ≤ T 3
      · rw [if_pos hm2]
        refine bq_iload (q := 21) G rfl dX8_staysAtMark_19 rfl ?_
        refine bq_iload_n (q := 22) G rfl dX8_staysAtMark_21 rfl ?_
        refine bq_icmp_ge_f (q := 25) (t := 61) G dX8_staysAtMark_22 rfl (by decide) (nI_ge (a := k) (b := m) hk8 (by omega)) ?_
        refine bq_iload (q := 27) G rfl dX8_staysAtMark_25 rfl ?_
        refine bq_if_ne_f (q := 30) (t := 61) G dX8_staysAtMark_27 rfl (by decide) rfl ?_
        refine bq_aload_n (q := 31) G rfl dX8_staysAtMark_30 rfl ?_
        refine bq_getr (q := 34) G dX8_staysAtMark_31 rfl fl_X8_40 (by first | assumption | exact ⟨Nat.le_of_ble_eq_true rfl, rfl⟩) (fun _ _ _ => rfl) (rf_0_5 z) ?_
        refine bq_iload_n (q := 35) G rfl dX8_staysAtMark_34 rfl ?_
        refine bq_iload_n (q := 36) G rfl dX8_staysAtMark_35 rfl ?_
        refine bq_callvV (q := 39) G dX8_staysAtMark_36 rfl cl_X8_158 (c_X5_pass (bq_Mo21 z) hJ.1 (hS.it hd k)) rfl (by first | assumption | exact ⟨Nat.le_of_ble_eq_true rfl, rfl⟩) rfl ⟨Nat.le_of_ble_eq_true rfl, Nat.le_of_ble_eq_true rfl⟩ (Nat.le_of_ble_eq_true rfl) ⟨Nat.le_of_ble_eq_true rfl, Nat.le_of_ble_eq_true rfl⟩ (fun I36 L36 h36 => ?_)
        obtain ⟨⟨h1, _⟩, h2, rfl⟩ := h36
        have hJ1 := hJ.go h1 h2
        refine bq_aload_n (q := 40) G rfl dX8_staysAtMark_39 rfl ?_
        refine bq_getr (q := 43) G dX8_staysAtMark_40 rfl fl_X8_26 (by first | assumption | exact ⟨Nat.le_of_ble_eq_true rfl, rfl⟩) (fun _ _ _ => rfl) (rf_0_2 z) ?_
        refine bq_aload_n (q := 44) G rfl dX8_staysAtMark_43 rfl ?_
        refine bq_getr (q := 47) G dX8_staysAtMark_44 rfl fl_X8_40 (by first | assumption | exact ⟨Nat.le_of_ble_eq_true rfl, rfl⟩) (fun _ _ _ => rfl) (rf_0_5 z) ?_
        refine bq_geti (q := 50) G dX8_staysAtMark_47 rfl fl_X8_138 (by first | assumption | exact ⟨Nat.le_of_ble_eq_true rfl, rfl⟩) rfl ?_
        refine bq_callv (q := 53) G dX8_staysAtMark_50 rfl cl_X8_190 (c_X0_isAboveMark (bq_Ce5 z)) rfl (by first | assumption | exact ⟨Nat.le_of_ble_eq_true rfl, rfl⟩) rfl ⟨Nat.le_of_ble_eq_true rfl, Nat.le_of_ble_eq_true rfl⟩ (Nat.le_of_ble_eq_true rfl) ⟨Nat.le_of_ble_eq_true rfl, Nat.le_of_ble_eq_true rfl⟩ rfl ?_
        refine bq_top (congrArg Value.int (by rw [gs_hJ hT1 hA hJ1, show I36 (5 + 1) 3 = T 3 from (congrFun (hJ1.2 6 (by decide)) 3).trans hT3])) ?_
        refine bq_istore (q := 55) (ls' := [_, _, _, _, _, _]) G dX8_staysAtMark_53 rfl (by decide) rfl rfl ?_
        refine bq_iinc (q := 58) (ls' := [_, _, _, _, _, _]) G dX8_staysAtMark_55 rfl rfl (by first | exact nI_1 _ | exact pk_m1 _ | rfl) (by decide) rfl rfl ?_
        refine bq_goto (q := 19) G dX8_staysAtMark_58 (by decide) ?_
        refine ih hk8 (fun j hj => ?_) _ hJ1
        rcases Nat.lt_or_ge j k with h | h
        · exact hb j h
        · rw [show j = k by omega]; exact hm2
      · rw [if_neg hm2]
        refine bq_iload (q := 21) G rfl dX8_staysAtMark_19 rfl ?_
        refine bq_iload_n (q := 22) G rfl dX8_staysAtMark_21 rfl ?_
        refine bq_icmp_ge_f (q := 25) (t := 61) G dX8_staysAtMark_22 rfl (by decide) (nI_ge (a := k) (b := m) hk8 (by omega)) ?_
        refine bq_iload (q := 27) G rfl dX8_staysAtMark_25 rfl ?_
        refine bq_if_ne_t (t := 61) G dX8_staysAtMark_27 (by decide) (by decide) ?_
        exact fin _ _ _ (Or.inr ⟨rfl, fun h => hm2 ((gs_mo_le m).mp h k hk)⟩) hJ.2
    · have hk9 : k = m := by omega
      subst hk9
      refine bq_iload (q := 21) G rfl dX8_staysAtMark_19 rfl ?_
      refine bq_iload_n (q := 22) G rfl dX8_staysAtMark_21 rfl ?_
      refine bq_icmp_ge_t (t := 61) G dX8_staysAtMark_22 (by decide) (nI_le (a := k) (b := k) (by omega) (by omega)) ?_
      refine fin _ _ _ ?_ hJ.2
      by_cases hm2 : gs_hi w d (T 1) S k ≤ T 3
      · refine Or.inl ⟨if_pos hm2, (gs_mo_le k).mpr (fun j hj => ?_)⟩
        rcases Nat.lt_or_ge j k with h | h
        · exact hb j h
        · rw [show j = k by omega]; exact hm2
      · exact Or.inr ⟨if_neg hm2, fun h => hm2 ((gs_mo_le k).mp h k hk)⟩
  have hJ0 : gs_aI I w d (T 1) S 0 I := ⟨hM, gs_cK.refl I⟩
  refine bq_aload_n (q := 1) G rfl dX8_staysAtMark_0 rfl ?_
  refine bq_getr (q := 4) G dX8_staysAtMark_1 rfl fl_X8_26 (by first | assumption | exact ⟨Nat.le_of_ble_eq_true rfl, rfl⟩) (fun _ _ _ => rfl) (rf_0_2 z) ?_
  refine bq_aload_n (q := 5) G rfl dX8_staysAtMark_4 rfl ?_
  refine bq_getr (q := 8) G dX8_staysAtMark_5 rfl fl_X8_40 (by first | assumption | exact ⟨Nat.le_of_ble_eq_true rfl, rfl⟩) (fun _ _ _ => rfl) (rf_0_5 z) ?_
  refine bq_geti (q := 11) G dX8_staysAtMark_8 rfl fl_X8_138 (by first | assumption | exact ⟨Nat.le_of_ble_eq_true rfl, rfl⟩) rfl ?_
  refine bq_callv (q := 14) G dX8_staysAtMark_11 rfl cl_X8_190 (c_X0_isAboveMark (bq_Ce5 z)) rfl (by first | assumption | exact ⟨Nat.le_of_ble_eq_true rfl, rfl⟩) rfl ⟨Nat.le_of_ble_eq_true rfl, Nat.le_of_ble_eq_true rfl⟩ (Nat.le_of_ble_eq_true rfl) ⟨Nat.le_of_ble_eq_true rfl, Nat.le_of_ble_eq_true rfl⟩ rfl ?_
  refine bq_top (congrArg Value.int (by rw [gs_hJ hT1 hA hJ0, show I (5 + 1) 3 = T 3 from hT3])) ?_
  refine bq_istore (q := 16) (ls' := [_, _, _, _, _, _]) G dX8_staysAtMark_14 rfl (by decide) rfl rfl ?_
  refine bq_iconst (q := 17) (v := 0) G (by decide) dX8_staysAtMark_16 rfl ?_
  refine bq_istore (q := 19) (ls' := [_, _, _, _, _, _]) G dX8_staysAtMark_17 rfl (by decide) rfl rfl ?_
  exact loop 0 (by omega) (fun j hj => by omega) _ hJ0
