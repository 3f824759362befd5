/-! the class tells -/
theorem ix_78 {b : Int32} : b < 8 ↔ b ≤ 7 := by
  simp only [Int32.lt_iff_toInt_lt, Int32.le_iff_toInt_le]
  rw [show (8 : Int32).toInt = 8 by decide, show (7 : Int32).toInt = 7 by decide]
  omega
theorem ix_21 {b : Int32} : b < 2 ↔ b ≤ 1 := by
  simp only [Int32.lt_iff_toInt_lt, Int32.le_iff_toInt_le]
  rw [show (2 : Int32).toInt = 2 by decide, show (1 : Int32).toInt = 1 by decide]
  omega
theorem ix_o6 {c : Int32} (h : ¬ (0 ≤ c ∧ c ≤ 6)) : c.toInt < 0 ∨ 6 < c.toInt := by
  simp only [Int32.le_iff_toInt_le] at h
  rw [show (0 : Int32).toInt = 0 by decide, show (6 : Int32).toInt = 6 by decide] at h
  omega
theorem ix_o5 {c : Int32} (h : ¬ (0 ≤ c ∧ c ≤ 5)) : c.toInt < 0 ∨ 5 < c.toInt := by
  simp only [Int32.le_iff_toInt_le] at h
  rw [show (0 : Int32).toInt = 0 by decide, show (5 : Int32).toInt = 5 by decide] at h
  omega
theorem gs_broom_in {S : Nat → Int32} {k j : Nat} (hk : k < 8) (hj : j ≤ 6) : gs_broom S (nI k) (nI j) = S (3 + 8 * j + k) := by
  unfold gs_broom
  rw [if_pos ⟨⟨nI_pos' (by omega), nI_le (b := 7) (by omega) (by decide)⟩, nI_pos' (by omega), nI_le (b := 6) (by omega) (by decide)⟩, nI_clamp (by omega), nI_clamp (by omega)]
set_option maxHeartbeats 1000000 in
set_option maxRecDepth 100000 in
theorem c_X8_broom {z : Nat} {I : bq_IR} {L : bq_LR} {b c : Int32} {T S : Nat → Int32} (hC : gs_CS I T S) : bq_FC MX8_broom z [.ref (z + 0), .int b, .int c] 85 (bq_Rf z) I L 0 0 (some (.int (gs_broom S b c))) 85 (bq_Rf z) (I) (L) := by
  refine bq_ofI [some (.ref (z + 0)), some (.int b), some (.int c)] rfl (Nat.le_of_ble_eq_true rfl) (by decide) rfl rfl ?_
  intro A G hret
  have G : bq_Cx cX8_broom RX8 3 z (bq_rm MX8_broom 0 0) "broom" A := G
  have hM := hC.2.1.1
  refine bq_iload_n (q := 1) G rfl dX8_broom_0 rfl ?_
  refine bq_if_lt (t := 10) (q := 4) G dX8_broom_1 (by decide) rfl (fun c1 => ?_) (fun c1 => ?_)
  · refine bq_iconst (q := 11) (v := -1) G (by decide) dX8_broom_10 rfl ?_
    exact bq_ri (hret _ _ dX8_broom_11) (by unfold gs_broom; rw [if_neg (fun h => absurd h.1.1 (Int32.not_le.mpr c1))]) rfl rfl
  · refine bq_iload_n (q := 5) G rfl dX8_broom_4 rfl ?_
    refine bq_bipush (q := 7) (v := 8) G (by decide) dX8_broom_5 rfl ?_
    refine bq_icmp_lt (t := 12) (q := 10) G dX8_broom_7 (by decide) rfl (fun c7 => ?_) (fun c7 => ?_)
    · obtain ⟨k, hk, rfl⟩ := gs_ik ⟨Int32.not_lt.mp c1, ix_78.mp c7⟩
      by_cases hc : 0 ≤ c ∧ c ≤ 6
      · obtain ⟨j, hj, rfl⟩ := gs_rng (M := 6) (k := 6) (by decide) hc
        rw [gs_broom_in hk hj] at hret
        refine bq_iload_n (q := 13) G rfl dX8_broom_12 rfl ?_
        rcases (show j = 0 ∨ j = 1 ∨ j = 2 ∨ j = 3 ∨ j = 4 ∨ j = 5 ∨ j = 6 by omega) with rfl | rfl | rfl | rfl | rfl | rfl | rfl
        · refine bq_tswIn (off := 43) (t := 56) G dX8_broom_13 (by decide) (by decide) rfl (by decide) ?_
          refine bq_aload_n (q := 57) G rfl dX8_broom_56 rfl ?_
          refine bq_getr (q := 60) G dX8_broom_57 rfl fl_X8_36 (by first | assumption | exact ⟨Nat.le_of_ble_eq_true rfl, rfl⟩) (fun _ _ _ => rfl) (rf_0_4 z) ?_
          refine bq_getr (q := 63) G dX8_broom_60 rfl fl_X8_109 (by first | assumption | exact ⟨Nat.le_of_ble_eq_true rfl, rfl⟩) (fun _ _ _ => rfl) (by first | assumption | rfl) ?_
          refine bq_iload_n (q := 64) G rfl dX8_broom_63 rfl ?_
          refine bq_iald (q := 65) (b := k) G dX8_broom_64 rfl (by first | assumption | exact ⟨Nat.le_of_ble_eq_true rfl, rfl⟩) rfl hk (by decide) ?_
          exact bq_ri (hret _ _ dX8_broom_65) ((hM.2.1 k hk).1) rfl rfl
        · refine bq_tswIn (off := 53) (t := 66) G dX8_broom_13 (by decide) (by decide) rfl (by decide) ?_
          refine bq_aload_n (q := 67) G rfl dX8_broom_66 rfl ?_
          refine bq_getr (q := 70) G dX8_broom_67 rfl fl_X8_36 (by first | assumption | exact ⟨Nat.le_of_ble_eq_true rfl, rfl⟩) (fun _ _ _ => rfl) (rf_0_4 z) ?_
          refine bq_getr (q := 73) G dX8_broom_70 rfl fl_X8_113 (by first | assumption | exact ⟨Nat.le_of_ble_eq_true rfl, rfl⟩) (fun _ _ _ => rfl) (by first | assumption | rfl) ?_
          refine bq_iload_n (q := 74) G rfl dX8_broom_73 rfl ?_
          refine bq_iald (q := 75) (b := k) G dX8_broom_74 rfl (by first | assumption | exact ⟨Nat.le_of_ble_eq_true rfl, rfl⟩) rfl hk (by decide) ?_
          exact bq_ri (hret _ _ dX8_broom_75) ((hM.2.1 k hk).2.1) rfl rfl
        · refine bq_tswIn (off := 63) (t := 76) G dX8_broom_13 (by decide) (by decide) rfl (by decide) ?_
          refine bq_aload_n (q := 77) G rfl dX8_broom_76 rfl ?_
          refine bq_getr (q := 80) G dX8_broom_77 rfl fl_X8_36 (by first | assumption | exact ⟨Nat.le_of_ble_eq_true rfl, rfl⟩) (fun _ _ _ => rfl) (rf_0_4 z) ?_
          refine bq_getr (q := 83) G dX8_broom_80 rfl fl_X8_116 (by first | assumption | exact ⟨Nat.le_of_ble_eq_true rfl, rfl⟩) (fun _ _ _ => rfl) (by first | assumption | rfl) ?_
          refine bq_iload_n (q := 84) G rfl dX8_broom_83 rfl ?_
          refine bq_iald (q := 85) (b := k) G dX8_broom_84 rfl (by first | assumption | exact ⟨Nat.le_of_ble_eq_true rfl, rfl⟩) rfl hk (by decide) ?_
          exact bq_ri (hret _ _ dX8_broom_85) ((hM.2.1 k hk).2.2) rfl rfl
        · refine bq_tswIn (off := 73) (t := 86) G dX8_broom_13 (by decide) (by decide) rfl (by decide) ?_
          refine bq_aload_n (q := 87) G rfl dX8_broom_86 rfl ?_
          refine bq_getr (q := 90) G dX8_broom_87 rfl fl_X8_36 (by first | assumption | exact ⟨Nat.le_of_ble_eq_true rfl, rfl⟩) (fun _ _ _ => rfl) (rf_0_4 z) ?_
          refine bq_geti (q := 93) G dX8_broom_90 rfl fl_X8_119 (by first | assumption | exact ⟨Nat.le_of_ble_eq_true rfl, rfl⟩) rfl ?_
          refine bq_iload_n (q := 94) G rfl dX8_broom_93 rfl ?_
          refine bq_calls (q := 97) G dX8_broom_94 rfl cl_X8_122 (c_X8_bitOf) rfl rfl ⟨Nat.le_of_ble_eq_true rfl, Nat.le_of_ble_eq_true rfl⟩ (Nat.le_of_ble_eq_true rfl) ⟨Nat.le_of_ble_eq_true rfl, Nat.le_of_ble_eq_true rfl⟩ rfl ?_
          exact bq_ri (hret _ _ dX8_broom_97) (hM.2.2.1.get hk) rfl rfl
        · refine bq_tswIn (off := 85) (t := 98) G dX8_broom_13 (by decide) (by decide) rfl (by decide) ?_
          refine bq_aload_n (q := 99) G rfl dX8_broom_98 rfl ?_
          refine bq_getr (q := 102) G dX8_broom_99 rfl fl_X8_36 (by first | assumption | exact ⟨Nat.le_of_ble_eq_true rfl, rfl⟩) (fun _ _ _ => rfl) (rf_0_4 z) ?_
          refine bq_geti (q := 105) G dX8_broom_102 rfl fl_X8_126 (by first | assumption | exact ⟨Nat.le_of_ble_eq_true rfl, rfl⟩) rfl ?_
          refine bq_iload_n (q := 106) G rfl dX8_broom_105 rfl ?_
          refine bq_calls (q := 109) G dX8_broom_106 rfl cl_X8_122 (c_X8_bitOf) rfl rfl ⟨Nat.le_of_ble_eq_true rfl, Nat.le_of_ble_eq_true rfl⟩ (Nat.le_of_ble_eq_true rfl) ⟨Nat.le_of_ble_eq_true rfl, Nat.le_of_ble_eq_true rfl⟩ rfl ?_
          exact bq_ri (hret _ _ dX8_broom_109) (hM.2.2.2.1.get hk) rfl rfl
        · refine bq_tswIn (off := 97) (t := 110) G dX8_broom_13 (by decide) (by decide) rfl (by decide) ?_
          refine bq_aload_n (q := 111) G rfl dX8_broom_110 rfl ?_
          refine bq_getr (q := 114) G dX8_broom_111 rfl fl_X8_36 (by first | assumption | exact ⟨Nat.le_of_ble_eq_true rfl, rfl⟩) (fun _ _ _ => rfl) (rf_0_4 z) ?_
          refine bq_geti (q := 117) G dX8_broom_114 rfl fl_X8_129 (by first | assumption | exact ⟨Nat.le_of_ble_eq_true rfl, rfl⟩) rfl ?_
          refine bq_iload_n (q := 118) G rfl dX8_broom_117 rfl ?_
          refine bq_calls (q := 121) G dX8_broom_118 rfl cl_X8_122 (c_X8_bitOf) rfl rfl ⟨Nat.le_of_ble_eq_true rfl, Nat.le_of_ble_eq_true rfl⟩ (Nat.le_of_ble_eq_true rfl) ⟨Nat.le_of_ble_eq_true rfl, Nat.le_of_ble_eq_true rfl⟩ rfl ?_
          exact bq_ri (hret _ _ dX8_broom_121) (hM.2.2.2.2.1.get hk) rfl rfl
        · refine bq_tswIn (off := 109) (t := 122) G dX8_broom_13 (by decide) (by decide) rfl (by decide) ?_
          refine bq_aload_n (q := 123) G rfl dX8_broom_122 rfl ?_
          refine bq_getr (q := 126) G dX8_broom_123 rfl fl_X8_36 (by first | assumption | exact ⟨Nat.le_of_ble_eq_true rfl, rfl⟩) (fun _ _ _ => rfl) (rf_0_4 z) ?_
          refine bq_geti (q := 129) G dX8_broom_126 rfl fl_X8_132 (by first | assumption | exact ⟨Nat.le_of_ble_eq_true rfl, rfl⟩) rfl ?_
          refine bq_iload_n (q := 130) G rfl dX8_broom_129 rfl ?_
          refine bq_calls (q := 133) G dX8_broom_130 rfl cl_X8_122 (c_X8_bitOf) rfl rfl ⟨Nat.le_of_ble_eq_true rfl, Nat.le_of_ble_eq_true rfl⟩ (Nat.le_of_ble_eq_true rfl) ⟨Nat.le_of_ble_eq_true rfl, Nat.le_of_ble_eq_true rfl⟩ rfl ?_
          exact bq_ri (hret _ _ dX8_broom_133) (hM.2.2.2.2.2.get hk) rfl rfl
      · refine bq_iload_n (q := 13) G rfl dX8_broom_12 rfl ?_
        refine bq_tswOut (t := 134) G dX8_broom_13 (ix_o6 hc) (by decide) ?_
        refine bq_iconst (q := 135) (v := -1) G (by decide) dX8_broom_134 rfl ?_
        exact bq_ri (hret _ _ dX8_broom_135) (by unfold gs_broom; rw [if_neg (fun h => hc h.2)]) rfl rfl
    · refine bq_iconst (q := 11) (v := -1) G (by decide) dX8_broom_10 rfl ?_
      exact bq_ri (hret _ _ dX8_broom_11) (by unfold gs_broom; rw [if_neg (fun h => c7 (ix_78.mpr h.1.2))]) rfl rfl
set_option maxHeartbeats 1000000 in
set_option maxRecDepth 100000 in
theorem c_X8_now {z : Nat} {I : bq_IR} {L : bq_LR} {c : Int32} {T S : Nat → Int32} (hC : gs_CS I T S) : bq_FC MX8_now z [.ref (z + 0), .int c] 85 (bq_Rf z) I L 0 0 (some (.int (gs_now T S (I 25 1) (I 17 9) c))) 85 (bq_Rf z) (I) (L) := by
  refine bq_ofI [some (.ref (z + 0)), some (.int c)] rfl (Nat.le_of_ble_eq_true rfl) (by decide) rfl rfl ?_
  intro A G hret
  have G : bq_Cx cX8_now RX8 2 z (bq_rm MX8_now 0 0) "now" A := G
  have hM := hC.2.1.1
  have hh : gs_hgt (I (5 + 1) 1) (I 17 1) = S 1 / T 1 := by rw [show I (5 + 1) 1 = T 1 from hC.1.2.1, gs_hgt1 hC.2.2.2.1, hM.1]
  by_cases hc : 0 ≤ c ∧ c ≤ 5
  · obtain ⟨j, hj, rfl⟩ := gs_rng (M := 5) (k := 5) (by decide) hc
    refine bq_iload_n (q := 1) G rfl dX8_now_0 rfl ?_
    rcases (show j = 0 ∨ j = 1 ∨ j = 2 ∨ j = 3 ∨ j = 4 ∨ j = 5 by omega) with rfl | rfl | rfl | rfl | rfl | rfl
    · refine bq_tswIn (off := 39) (t := 40) G dX8_now_1 (by decide) (by decide) rfl (by decide) ?_
      refine bq_aload_n (q := 41) G rfl dX8_now_40 rfl ?_
      refine bq_getr (q := 44) G dX8_now_41 rfl fl_X8_36 (by first | assumption | exact ⟨Nat.le_of_ble_eq_true rfl, rfl⟩) (fun _ _ _ => rfl) (rf_0_4 z) ?_
      refine bq_geti (q := 47) G dX8_now_44 rfl fl_X8_135 (by first | assumption | exact ⟨Nat.le_of_ble_eq_true rfl, rfl⟩) rfl ?_
      exact bq_ri (hret _ _ dX8_now_47) hC.2.1.2.1 rfl rfl
    · refine bq_tswIn (off := 47) (t := 48) G dX8_now_1 (by decide) (by decide) rfl (by decide) ?_
      refine bq_aload_n (q := 49) G rfl dX8_now_48 rfl ?_
      refine bq_getr (q := 52) G dX8_now_49 rfl fl_X8_36 (by first | assumption | exact ⟨Nat.le_of_ble_eq_true rfl, rfl⟩) (fun _ _ _ => rfl) (rf_0_4 z) ?_
      refine bq_geti (q := 55) G dX8_now_52 rfl fl_X8_138 (by first | assumption | exact ⟨Nat.le_of_ble_eq_true rfl, rfl⟩) rfl ?_
      exact bq_ri (hret _ _ dX8_now_55) hM.1 rfl rfl
    · refine bq_tswIn (off := 55) (t := 56) G dX8_now_1 (by decide) (by decide) rfl (by decide) ?_
      refine bq_aload_n (q := 57) G rfl dX8_now_56 rfl ?_
      refine bq_getr (q := 60) G dX8_now_57 rfl fl_X8_26 (by first | assumption | exact ⟨Nat.le_of_ble_eq_true rfl, rfl⟩) (fun _ _ _ => rfl) (rf_0_2 z) ?_
      refine bq_aload_n (q := 61) G rfl dX8_now_60 rfl ?_
      refine bq_getr (q := 64) G dX8_now_61 rfl fl_X8_36 (by first | assumption | exact ⟨Nat.le_of_ble_eq_true rfl, rfl⟩) (fun _ _ _ => rfl) (rf_0_4 z) ?_
      refine bq_geti (q := 67) G dX8_now_64 rfl fl_X8_138 (by first | assumption | exact ⟨Nat.le_of_ble_eq_true rfl, rfl⟩) rfl ?_
      refine bq_callv (q := 70) G dX8_now_67 rfl cl_X8_141 (c_X0_heightOf (bq_Ce5 z)) rfl (by first | assumption | exact ⟨Nat.le_of_ble_eq_true rfl, rfl⟩) rfl ⟨Nat.le_of_ble_eq_true rfl, Nat.le_of_ble_eq_true rfl⟩ (Nat.le_of_ble_eq_true rfl) ⟨Nat.le_of_ble_eq_true rfl, Nat.le_of_ble_eq_true rfl⟩ rfl ?_
      exact bq_ri (hret _ _ dX8_now_70) (by rw [hh]; rfl) rfl rfl
    · refine bq_tswIn (off := 70) (t := 71) G dX8_now_1 (by decide) (by decide) rfl (by decide) ?_
      refine bq_aload_n (q := 72) G rfl dX8_now_71 rfl ?_
      refine bq_getr (q := 75) G dX8_now_72 rfl fl_X8_36 (by first | assumption | exact ⟨Nat.le_of_ble_eq_true rfl, rfl⟩) (fun _ _ _ => rfl) (rf_0_4 z) ?_
      refine bq_geti (q := 78) G dX8_now_75 rfl fl_X8_145 (by first | assumption | exact ⟨Nat.le_of_ble_eq_true rfl, rfl⟩) rfl ?_
      exact bq_ri (hret _ _ dX8_now_78) hC.2.1.2.2 rfl rfl
    · refine bq_tswIn (off := 78) (t := 79) G dX8_now_1 (by decide) (by decide) rfl (by decide) ?_
      refine bq_aload_n (q := 80) G rfl dX8_now_79 rfl ?_
      refine bq_getr (q := 83) G dX8_now_80 rfl fl_X8_36 (by first | assumption | exact ⟨Nat.le_of_ble_eq_true rfl, rfl⟩) (fun _ _ _ => rfl) (rf_0_4 z) ?_
      refine bq_geti (q := 86) G dX8_now_83 rfl fl_X8_132 (by first | assumption | exact ⟨Nat.le_of_ble_eq_true rfl, rfl⟩) rfl ?_
      exact bq_ri (hret _ _ dX8_now_86) rfl rfl rfl
    · refine bq_tswIn (off := 86) (t := 87) G dX8_now_1 (by decide) (by decide) rfl (by decide) ?_
      refine bq_aload_n (q := 88) G rfl dX8_now_87 rfl ?_
      refine bq_getr (q := 91) G dX8_now_88 rfl fl_X8_46 (by first | assumption | exact ⟨Nat.le_of_ble_eq_true rfl, rfl⟩) (fun _ _ _ => rfl) (rf_0_6 z) ?_
      refine bq_geti (q := 94) G dX8_now_91 rfl fl_X8_108 (by first | assumption | exact ⟨Nat.le_of_ble_eq_true rfl, rfl⟩) rfl ?_
      exact bq_ri (hret _ _ dX8_now_94) rfl rfl rfl
  · refine bq_iload_n (q := 1) G rfl dX8_now_0 rfl ?_
    refine bq_tswOut (t := 95) G dX8_now_1 (ix_o5 hc) (by decide) ?_
    refine bq_iconst (q := 96) (v := -1) G (by decide) dX8_now_95 rfl ?_
    exact bq_ri (hret _ _ dX8_now_96) (by unfold gs_now; rw [if_neg hc]) rfl rfl
set_option maxHeartbeats 1000000 in
set_option maxRecDepth 100000 in
theorem c_X8_count {z : Nat} {I : bq_IR} {L : bq_LR} {c : Int32} {T S : Nat → Int32} (hC : gs_CS I T S) (h5 : I 5 2 = T 5) : bq_FC MX8_count z [.ref (z + 0), .int c] 85 (bq_Rf z) I L 0 0 (some (.int (gs_count T (I 69 2) (I 1 1) c))) 85 (bq_Rf z) (I) (L) := by
  refine bq_ofI [some (.ref (z + 0)), some (.int c)] rfl (Nat.le_of_ble_eq_true rfl) (by decide) rfl rfl ?_
  intro A G hret
  have G : bq_Cx cX8_count RX8 2 z (bq_rm MX8_count 0 0) "count" A := G
  by_cases hc : 0 ≤ c ∧ c ≤ 6
  · obtain ⟨j, hj, rfl⟩ := gs_rng (M := 6) (k := 6) (by decide) hc
    refine bq_iload_n (q := 1) G rfl dX8_count_0 rfl ?_
    rcases (show j = 0 ∨ j = 1 ∨ j = 2 ∨ j = 3 ∨ j = 4 ∨ j = 5 ∨ j = 6 by omega) with rfl | rfl | rfl | rfl | rfl | rfl | rfl
    · refine bq_tswIn (off := 43) (t := 44) G dX8_count_1 (by decide) (by decide) rfl (by decide) ?_
      refine bq_aload_n (q := 45) G rfl dX8_count_44 rfl ?_
      refine bq_getr (q := 48) G dX8_count_45 rfl fl_X8_26 (by first | assumption | exact ⟨Nat.le_of_ble_eq_true rfl, rfl⟩) (fun _ _ _ => rfl) (rf_0_2 z) ?_
      refine bq_getr (q := 51) G dX8_count_48 rfl fl_X8_270 (by first | assumption | exact ⟨Nat.le_of_ble_eq_true rfl, rfl⟩) (fun _ _ _ => rfl) (by first | assumption | rfl) ?_
      refine bq_iconst (q := 52) (v := 1) G (by decide) dX8_count_51 rfl ?_
      refine bq_iald (q := 53) (b := 1) G dX8_count_52 rfl (by first | assumption | exact ⟨Nat.le_of_ble_eq_true rfl, rfl⟩) rfl (by first | with_reducible assumption | omega | decide) (by decide) ?_
      exact bq_ri (hret _ _ dX8_count_53) hC.1.2.1 rfl rfl
    · refine bq_tswIn (off := 53) (t := 54) G dX8_count_1 (by decide) (by decide) rfl (by decide) ?_
      refine bq_aload_n (q := 55) G rfl dX8_count_54 rfl ?_
      refine bq_getr (q := 58) G dX8_count_55 rfl fl_X8_26 (by first | assumption | exact ⟨Nat.le_of_ble_eq_true rfl, rfl⟩) (fun _ _ _ => rfl) (rf_0_2 z) ?_
      refine bq_callv (q := 61) G dX8_count_58 rfl cl_X8_155 (c_X0_drainCups (bq_Ce5 z)) rfl (by first | assumption | exact ⟨Nat.le_of_ble_eq_true rfl, rfl⟩) rfl ⟨Nat.le_of_ble_eq_true rfl, Nat.le_of_ble_eq_true rfl⟩ (Nat.le_of_ble_eq_true rfl) ⟨Nat.le_of_ble_eq_true rfl, Nat.le_of_ble_eq_true rfl⟩ rfl ?_
      exact bq_ri (hret _ _ dX8_count_61) hC.1.2.2.1 rfl rfl
    · refine bq_tswIn (off := 61) (t := 62) G dX8_count_1 (by decide) (by decide) rfl (by decide) ?_
      refine bq_aload_n (q := 63) G rfl dX8_count_62 rfl ?_
      refine bq_getr (q := 66) G dX8_count_63 rfl fl_X8_26 (by first | assumption | exact ⟨Nat.le_of_ble_eq_true rfl, rfl⟩) (fun _ _ _ => rfl) (rf_0_2 z) ?_
      refine bq_getr (q := 69) G dX8_count_66 rfl fl_X8_270 (by first | assumption | exact ⟨Nat.le_of_ble_eq_true rfl, rfl⟩) (fun _ _ _ => rfl) (by first | assumption | rfl) ?_
      refine bq_iconst (q := 70) (v := 3) G (by decide) dX8_count_69 rfl ?_
      refine bq_iald (q := 71) (b := 3) G dX8_count_70 rfl (by first | assumption | exact ⟨Nat.le_of_ble_eq_true rfl, rfl⟩) rfl (by first | with_reducible assumption | omega | decide) (by decide) ?_
      exact bq_ri (hret _ _ dX8_count_71) hC.1.2.2.2.1 rfl rfl
    · refine bq_tswIn (off := 71) (t := 72) G dX8_count_1 (by decide) (by decide) rfl (by decide) ?_
      refine bq_aload_n (q := 73) G rfl dX8_count_72 rfl ?_
      refine bq_getr (q := 76) G dX8_count_73 rfl fl_X8_26 (by first | assumption | exact ⟨Nat.le_of_ble_eq_true rfl, rfl⟩) (fun _ _ _ => rfl) (rf_0_2 z) ?_
      refine bq_callv (q := 79) G dX8_count_76 rfl cl_X8_151 (c_X0_stairWidth (bq_Ce5 z)) rfl (by first | assumption | exact ⟨Nat.le_of_ble_eq_true rfl, rfl⟩) rfl ⟨Nat.le_of_ble_eq_true rfl, Nat.le_of_ble_eq_true rfl⟩ (Nat.le_of_ble_eq_true rfl) ⟨Nat.le_of_ble_eq_true rfl, Nat.le_of_ble_eq_true rfl⟩ rfl ?_
      exact bq_ri (hret _ _ dX8_count_79) hC.1.2.2.2.2 rfl rfl
    · refine bq_tswIn (off := 79) (t := 80) G dX8_count_1 (by decide) (by decide) rfl (by decide) ?_
      refine bq_aload_n (q := 81) G rfl dX8_count_80 rfl ?_
      refine bq_getr (q := 84) G dX8_count_81 rfl fl_X8_26 (by first | assumption | exact ⟨Nat.le_of_ble_eq_true rfl, rfl⟩) (fun _ _ _ => rfl) (rf_0_2 z) ?_
      refine bq_geti (q := 87) G dX8_count_84 rfl fl_X8_273 (by first | assumption | exact ⟨Nat.le_of_ble_eq_true rfl, rfl⟩) rfl ?_
      exact bq_ri (hret _ _ dX8_count_87) h5 rfl rfl
    · refine bq_tswIn (off := 87) (t := 88) G dX8_count_1 (by decide) (by decide) rfl (by decide) ?_
      refine bq_aload_n (q := 89) G rfl dX8_count_88 rfl ?_
      refine bq_getr (q := 92) G dX8_count_89 rfl fl_X8_61 (by first | assumption | exact ⟨Nat.le_of_ble_eq_true rfl, rfl⟩) (fun _ _ _ => rfl) (rf_0_9 z) ?_
      refine bq_geti (q := 95) G dX8_count_92 rfl fl_X8_105 (by first | assumption | exact ⟨Nat.le_of_ble_eq_true rfl, rfl⟩) rfl ?_
      exact bq_ri (hret _ _ dX8_count_95) rfl rfl rfl
    · refine bq_tswIn (off := 95) (t := 96) G dX8_count_1 (by decide) (by decide) rfl (by decide) ?_
      refine bq_aload_n (q := 97) G rfl dX8_count_96 rfl ?_
      refine bq_getr (q := 100) G dX8_count_97 rfl fl_X8_10 (by first | assumption | exact ⟨Nat.le_of_ble_eq_true rfl, rfl⟩) (fun _ _ _ => rfl) (rf_0_0 z) ?_
      refine bq_geti (q := 103) G dX8_count_100 rfl fl_X8_87 (by first | assumption | exact ⟨Nat.le_of_ble_eq_true rfl, rfl⟩) rfl ?_
      exact bq_ri (hret _ _ dX8_count_103) rfl rfl rfl
  · refine bq_iload_n (q := 1) G rfl dX8_count_0 rfl ?_
    refine bq_tswOut (t := 104) G dX8_count_1 (ix_o6 hc) (by decide) ?_
    refine bq_iconst (q := 105) (v := -1) G (by decide) dX8_count_104 rfl ?_
    exact bq_ri (hret _ _ dX8_count_105) (by unfold gs_count; rw [if_neg hc]) rfl rfl
set_option maxHeartbeats 1000000 in
set_option maxRecDepth 100000 in
theorem c_X8_clear {z : Nat} {I : bq_IR} {L : bq_LR}   : bq_FC MX8_clear z [.ref (z + 0)] 85 (bq_Rf z) I L 0 0 (some (.int (I 1 1))) 85 (bq_Rf z) (bq_sr I 1 (upd (I 1) 1 0)) (L) := by
  refine bq_ofI [some (.ref (z + 0)), none] rfl (Nat.le_of_ble_eq_true rfl) (by decide) rfl rfl ?_
  intro A G hret
  have G : bq_Cx cX8_clear RX8 2 z (bq_rm MX8_clear 0 0) "clear" A := G
  refine bq_aload_n (q := 1) G rfl dX8_clear_0 rfl ?_
  refine bq_getr (q := 4) G dX8_clear_1 rfl fl_X8_10 (by first | assumption | exact ⟨Nat.le_of_ble_eq_true rfl, rfl⟩) (fun _ _ _ => rfl) (rf_0_0 z) ?_
  refine bq_geti (q := 7) G dX8_clear_4 rfl fl_X8_87 (by first | assumption | exact ⟨Nat.le_of_ble_eq_true rfl, rfl⟩) rfl ?_
  refine bq_istore_n (q := 8) (ls' := [_, _]) G dX8_clear_7 rfl (by decide) rfl rfl ?_
  refine bq_aload_n (q := 9) G rfl dX8_clear_8 rfl ?_
  refine bq_getr (q := 12) G dX8_clear_9 rfl fl_X8_10 (by first | assumption | exact ⟨Nat.le_of_ble_eq_true rfl, rfl⟩) (fun _ _ _ => rfl) (rf_0_0 z) ?_
  refine bq_iconst (q := 13) (v := 0) G (by decide) dX8_clear_12 rfl ?_
  refine bq_puti (q := 16) G dX8_clear_13 rfl fl_X8_87 (by first | assumption | exact ⟨Nat.le_of_ble_eq_true rfl, rfl⟩) rfl rfl ?_
  refine bq_iload_n (q := 17) G rfl dX8_clear_16 rfl ?_
  exact hret _ _ dX8_clear_17
set_option maxHeartbeats 1000000 in
set_option maxRecDepth 100000 in
theorem c_X8_forget {z : Nat} {I : bq_IR} {L : bq_LR}   : bq_FC MX8_forget z [.ref (z + 0)] 85 (bq_Rf z) I L 0 0 (some (.int (I 69 2))) 85 (bq_Rf z) (bq_sr I 69 (upd (I 69) 2 0)) (L) := by
  refine bq_ofI [some (.ref (z + 0)), none] rfl (Nat.le_of_ble_eq_true rfl) (by decide) rfl rfl ?_
  intro A G hret
  have G : bq_Cx cX8_forget RX8 2 z (bq_rm MX8_forget 0 0) "forget" A := G
  refine bq_aload_n (q := 1) G rfl dX8_forget_0 rfl ?_
  refine bq_getr (q := 4) G dX8_forget_1 rfl fl_X8_61 (by first | assumption | exact ⟨Nat.le_of_ble_eq_true rfl, rfl⟩) (fun _ _ _ => rfl) (rf_0_9 z) ?_
  refine bq_geti (q := 7) G dX8_forget_4 rfl fl_X8_105 (by first | assumption | exact ⟨Nat.le_of_ble_eq_true rfl, rfl⟩) rfl ?_
  refine bq_istore_n (q := 8) (ls' := [_, _]) G dX8_forget_7 rfl (by decide) rfl rfl ?_
  refine bq_aload_n (q := 9) G rfl dX8_forget_8 rfl ?_
  refine bq_getr (q := 12) G dX8_forget_9 rfl fl_X8_61 (by first | assumption | exact ⟨Nat.le_of_ble_eq_true rfl, rfl⟩) (fun _ _ _ => rfl) (rf_0_9 z) ?_
  refine bq_iconst (q := 13) (v := 0) G (by decide) dX8_forget_12 rfl ?_
  refine bq_puti (q := 16) G dX8_forget_13 rfl fl_X8_105 (by first | assumption | exact ⟨Nat.le_of_ble_eq_true rfl, rfl⟩) rfl rfl ?_
  refine bq_iload_n (q := 17) G rfl dX8_forget_16 rfl ?_
  exact hret _ _ dX8_forget_17
set_option maxHeartbeats 1000000 in
set_option maxRecDepth 100000 in
theorem c_X8_trace {z : Nat} {I : bq_IR} {L : bq_LR}   : bq_FC MX8_trace z [.ref (z + 0)] 85 (bq_Rf z) I L 0 0 (some (.long (L 74 0))) 85 (bq_Rf z) (I) (L) := by
  refine bq_ofL [some (.ref (z + 0))] rfl (Nat.le_of_ble_eq_true rfl) (by decide) rfl ?_
  intro A G hret
  have G : bq_Cx cX8_trace RX8 1 z (bq_rm MX8_trace 0 0) "trace" A := G
  refine bq_aload_n (q := 1) G rfl dX8_trace_0 rfl ?_
  refine bq_getr (q := 4) G dX8_trace_1 rfl fl_X8_79 (by first | assumption | exact ⟨Nat.le_of_ble_eq_true rfl, rfl⟩) (fun _ _ _ => rfl) (rf_0_12 z) ?_
  refine bq_getl (q := 7) G dX8_trace_4 rfl fl_X8_276 (by first | assumption | exact ⟨Nat.le_of_ble_eq_true rfl, rfl⟩) rfl ?_
  exact hret _ _ dX8_trace_7
set_option maxHeartbeats 1000000 in
set_option maxRecDepth 100000 in
theorem c_X8_type {z : Nat} {I : bq_IR} {L : bq_LR} {c : Int32} {t : Nat} (ht : I 1 1 = nI t) (htl : t ≤ 200) : bq_FI MX8_type z [.ref (z + 0), .int c] 85 (bq_Rf z) I L (fun r J L' => (if 0 ≤ c ∧ c ≤ 255 then (if t = 200 then r = -3 ∧ J = I else r = nI (t + 1) ∧ J = bq_sr (bq_sr I 2 (upd (I 2) t c)) 1 (upd (I 1) 1 (nI (t + 1)))) else r = -1 ∧ J = I) ∧ L' = L) := by
  refine bq_FIof [some (.ref (z + 0)), some (.int c)] rfl (Nat.le_of_ble_eq_true rfl) (by decide) rfl (fun _ _ _ _ => rfl) ?_
  intro A G hret
  have G : bq_Cx cX8_type RX8 2 z (bq_rm MX8_type 0 0) "type" A := G
  refine bq_iload_n (q := 1) G rfl dX8_type_0 rfl ?_
  refine bq_if_lt (t := 11) (q := 4) G dX8_type_1 (by decide) rfl (fun c1 => ?_) (fun c1 => ?_)
  · refine bq_iconst (q := 12) (v := -1) G (by decide) dX8_type_11 rfl ?_
    exact hret _ _ _ _ _ dX8_type_12 ⟨by rw [if_neg (fun h => absurd h.1 (Int32.not_le.mpr c1))]; exact ⟨rfl, rfl⟩, rfl⟩
  · refine bq_iload_n (q := 5) G rfl dX8_type_4 rfl ?_
    refine bq_sipush (q := 8) (v := 255) G (by decide) dX8_type_5 rfl ?_
    refine bq_icmp_le (t := 13) (q := 11) G dX8_type_8 (by decide) rfl (fun c8 => ?_) (fun c8 => ?_)
    · refine bq_aload_n (q := 14) G rfl dX8_type_13 rfl ?_
      refine bq_getr (q := 17) G dX8_type_14 rfl fl_X8_10 (by first | assumption | exact ⟨Nat.le_of_ble_eq_true rfl, rfl⟩) (fun _ _ _ => rfl) (rf_0_0 z) ?_
      refine bq_iload_n (q := 18) G rfl dX8_type_17 rfl ?_
      refine bq_callv (q := 21) G dX8_type_18 rfl cl_X8_83 (c_X3_add ht htl) rfl (by first | assumption | exact ⟨Nat.le_of_ble_eq_true rfl, rfl⟩) rfl ⟨Nat.le_of_ble_eq_true rfl, Nat.le_of_ble_eq_true rfl⟩ (Nat.le_of_ble_eq_true rfl) ⟨Nat.le_of_ble_eq_true rfl, Nat.le_of_ble_eq_true rfl⟩ rfl ?_
      first | refine bq_ifb_eq (t := 34) (q := 24) G dX8_type_21 (by decide) rfl (fun c21 => ?_) (fun c21 => ?_) | refine bq_if_eq (t := 34) (q := 24) G dX8_type_21 (by decide) rfl (fun c21 => ?_) (fun c21 => ?_)
      · refine bq_bipush (q := 36) (v := -3) G (by decide) dX8_type_34 rfl ?_
        exact hret _ _ _ _ _ dX8_type_36 ⟨by rw [if_pos ⟨Int32.not_lt.mp c1, c8⟩, if_pos (by omega), if_neg c21]; exact ⟨rfl, rfl⟩, rfl⟩
      · rw [if_pos c21]
        refine bq_aload_n (q := 25) G rfl dX8_type_24 rfl ?_
        refine bq_getr (q := 28) G dX8_type_25 rfl fl_X8_10 (by first | assumption | exact ⟨Nat.le_of_ble_eq_true rfl, rfl⟩) (fun _ _ _ => rfl) (rf_0_0 z) ?_
        refine bq_geti (q := 31) G dX8_type_28 rfl fl_X8_87 (by first | assumption | exact ⟨Nat.le_of_ble_eq_true rfl, rfl⟩) rfl ?_
        refine bq_goto (q := 36) G dX8_type_31 (by decide) ?_
        refine hret _ _ _ _ _ dX8_type_36 ⟨?_, rfl⟩
        rw [if_pos ⟨Int32.not_lt.mp c1, c8⟩, if_neg (by omega)]
        refine ⟨by rw [bq_sru, if_pos rfl], ?_⟩
        rw [show bq_sr I 2 (upd (I 2) t c) 1 = I 1 from bq_sr_n (by decide)]
    · refine bq_iconst (q := 12) (v := -1) G (by decide) dX8_type_11 rfl ?_
      exact hret _ _ _ _ _ dX8_type_12 ⟨by rw [if_neg (fun h => c8 h.2)]; exact ⟨rfl, rfl⟩, rfl⟩
set_option maxHeartbeats 1000000 in
set_option maxRecDepth 100000 in
theorem c_X4_add {z : Nat} {I : bq_IR} {L : bq_LR} {i v : Int32} {t : Nat} (ht : I 69 2 = nI t) (htl : t ≤ 4) : bq_FC MX4_add z [.ref (z + 69), .int i, .int v] 85 (bq_Rf z) I L 0 0 (some (.int (if t < 4 then 1 else 0))) 85 (bq_Rf z) (if t < 4 then bq_sr (bq_sr (bq_sr I 70 (upd (I 70) t i)) 71 (upd (I 71) t v)) 69 (upd (I 69) 2 (nI (t + 1))) else I) (L) := by
  refine bq_ofI [some (.ref (z + 69)), some (.int i), some (.int v)] rfl (Nat.le_of_ble_eq_true rfl) (by decide) rfl (by first | rfl | exact bq_nb _ | (split <;> rfl)) ?_
  intro A G hret
  have G : bq_Cx cX4_add RX4 3 z (bq_rm MX4_add 0 0) "add" A := G
  refine bq_aload_n (q := 1) G rfl dX4_add_0 rfl ?_
  refine bq_geti (q := 4) G dX4_add_1 rfl fl_X4_16 (by first | assumption | exact ⟨Nat.le_of_ble_eq_true rfl, rfl⟩) rfl ?_
  refine bq_if_lt_f (q := 7) (t := 15) G dX4_add_4 rfl (by decide) (by rw [ht]; exact nI_pos (by omega)) ?_
  refine bq_aload_n (q := 8) G rfl dX4_add_7 rfl ?_
  refine bq_geti (q := 11) G dX4_add_8 rfl fl_X4_16 (by first | assumption | exact ⟨Nat.le_of_ble_eq_true rfl, rfl⟩) rfl ?_
  refine bq_iconst (q := 12) (v := 4) G (by decide) dX4_add_11 rfl ?_
  refine bq_icmp_lt (t := 17) (q := 15) G dX4_add_12 (by decide) rfl (fun c12 => ?_) (fun c12 => ?_)
  · have ht2 : t < 4 := (nI_ltI (b := 4) (by omega) (by decide)).mp (ht ▸ c12)
    refine bq_aload_n (q := 18) G rfl dX4_add_17 rfl ?_
    refine bq_getr (q := 21) G dX4_add_18 rfl fl_X4_9 (by first | assumption | exact ⟨Nat.le_of_ble_eq_true rfl, rfl⟩) (fun _ _ _ => rfl) (rf_69_0 z) ?_
    refine bq_aload_n (q := 22) G rfl dX4_add_21 rfl ?_
    refine bq_geti (q := 25) G dX4_add_22 rfl fl_X4_16 (by first | assumption | exact ⟨Nat.le_of_ble_eq_true rfl, rfl⟩) rfl ?_
    refine bq_iload_n (q := 26) G rfl dX4_add_25 rfl ?_
    refine bq_iast (q := 27) (b := t) G dX4_add_26 rfl (by first | assumption | exact ⟨Nat.le_of_ble_eq_true rfl, rfl⟩) ht (by first | with_reducible assumption | omega | decide) (by decide) ?_
    refine bq_aload_n (q := 28) G rfl dX4_add_27 rfl ?_
    refine bq_getr (q := 31) G dX4_add_28 rfl fl_X4_13 (by first | assumption | exact ⟨Nat.le_of_ble_eq_true rfl, rfl⟩) (fun _ _ _ => rfl) (rf_69_1 z) ?_
    refine bq_aload_n (q := 32) G rfl dX4_add_31 rfl ?_
    refine bq_geti (q := 35) G dX4_add_32 rfl fl_X4_16 (by first | assumption | exact ⟨Nat.le_of_ble_eq_true rfl, rfl⟩) rfl ?_
    refine bq_iload_n (q := 36) G rfl dX4_add_35 rfl ?_
    refine bq_iast (q := 37) (b := t) G dX4_add_36 rfl (by first | assumption | exact ⟨Nat.le_of_ble_eq_true rfl, rfl⟩) (by rw [bq_srn1 (by decide)]; exact ht) (by first | with_reducible assumption | omega | decide) (by decide) ?_
    refine bq_aload_n (q := 38) G rfl dX4_add_37 rfl ?_
    refine bq_dup (q := 39) G rfl dX4_add_38 rfl ?_
    refine bq_geti (q := 42) G dX4_add_39 rfl fl_X4_16 (by first | assumption | exact ⟨Nat.le_of_ble_eq_true rfl, rfl⟩) rfl ?_
    refine bq_iconst (q := 43) (v := 1) G (by decide) dX4_add_42 rfl ?_
    refine bq_iadd (q := 44) G dX4_add_43 rfl ?_
    refine bq_puti (q := 47) G dX4_add_44 rfl fl_X4_16 (by first | assumption | exact ⟨Nat.le_of_ble_eq_true rfl, rfl⟩) rfl rfl ?_
    refine bq_iconst (q := 48) (v := 1) G (by decide) dX4_add_47 rfl ?_
    refine bq_ri (hret _ _ dX4_add_48) (by rw [if_pos ht2]) ?_ rfl
    rw [if_pos ht2, bq_srn1 (by decide), bq_srn1 (by decide), ht, nI_1, bq_sr_n (a := 70) (b := 71) (by decide), bq_sr_n (a := 71) (b := 69) (by decide), bq_sr_n (a := 70) (b := 69) (by decide)]
  · have ht2 : ¬ t < 4 := fun h => c12 (by rw [ht]; exact nI_lt (b := 4) h (by decide))
    refine bq_iconst (q := 16) (v := 0) G (by decide) dX4_add_15 rfl ?_
    exact bq_ri (hret _ _ dX4_add_16) (by rw [if_neg ht2]) (by rw [if_neg ht2]) rfl
set_option maxHeartbeats 1000000 in
set_option maxRecDepth 100000 in
theorem c_X8_measured {z : Nat} {I : bq_IR} {L : bq_LR} {i v : Int32} {t : Nat} (ht : I 69 2 = nI t) (htl : t ≤ 4) : bq_FI MX8_measured z [.ref (z + 0), .int i, .int v] 85 (bq_Rf z) I L (fun r J L' => (if (0 ≤ i ∧ i ≤ 40) ∧ 0 ≤ v ∧ v ≤ 99999 then (if t = 4 then r = -3 ∧ J = I else r = nI (t + 1) ∧ J = bq_sr (bq_sr (bq_sr I 70 (upd (I 70) t i)) 71 (upd (I 71) t v)) 69 (upd (I 69) 2 (nI (t + 1)))) else r = -1 ∧ J = I) ∧ L' = L) := by
  refine bq_FIof [some (.ref (z + 0)), some (.int i), some (.int v)] rfl (Nat.le_of_ble_eq_true rfl) (by decide) rfl (fun _ _ _ _ => rfl) ?_
  intro A G hret
  have G : bq_Cx cX8_measured RX8 3 z (bq_rm MX8_measured 0 0) "measured" A := G
  have no : ¬ ((0 ≤ i ∧ i ≤ 40) ∧ 0 ≤ v ∧ v ≤ 99999) → A 0 0 20 [some (.ref (z + 0)), some (.int i), some (.int v)] [] 85 (bq_Rf z) I L := by
    intro h
    refine bq_iconst (q := 21) (v := -1) G (by decide) dX8_measured_20 rfl ?_
    exact hret _ _ _ _ _ dX8_measured_21 ⟨by rw [if_neg h]; exact ⟨rfl, rfl⟩, rfl⟩
  refine bq_iload_n (q := 1) G rfl dX8_measured_0 rfl ?_
  refine bq_if_lt (t := 20) (q := 4) G dX8_measured_1 (by decide) rfl (fun c1 => ?_) (fun c1 => ?_)
  · exact no (fun h => absurd h.1.1 (Int32.not_le.mpr c1))
  · refine bq_iload_n (q := 5) G rfl dX8_measured_4 rfl ?_
    refine bq_bipush (q := 7) (v := 40) G (by decide) dX8_measured_5 rfl ?_
    refine bq_icmp_gt (t := 20) (q := 10) G dX8_measured_7 (by decide) rfl (fun c7 => ?_) (fun c7 => ?_)
    · exact no (fun h => absurd h.1.2 (Int32.not_le.mpr c7))
    · refine bq_iload_n (q := 11) G rfl dX8_measured_10 rfl ?_
      refine bq_if_lt (t := 20) (q := 14) G dX8_measured_11 (by decide) rfl (fun c11 => ?_) (fun c11 => ?_)
      · exact no (fun h => absurd h.2.1 (Int32.not_le.mpr c11))
      · refine bq_iload_n (q := 15) G rfl dX8_measured_14 rfl ?_
        refine bq_ldc (q := 17) G wk_X8_230 dX8_measured_15 rfl ?_
        refine bq_icmp_le (t := 22) (q := 20) G dX8_measured_17 (by decide) rfl (fun c17 => ?_) (fun c17 => ?_)
        · have hif : (0 ≤ i ∧ i ≤ 40) ∧ 0 ≤ v ∧ v ≤ 99999 := ⟨⟨Int32.not_lt.mp c1, Int32.not_lt.mp c7⟩, Int32.not_lt.mp c11, c17⟩
          refine bq_aload_n (q := 23) G rfl dX8_measured_22 rfl ?_
          refine bq_getr (q := 26) G dX8_measured_23 rfl fl_X8_61 (by first | assumption | exact ⟨Nat.le_of_ble_eq_true rfl, rfl⟩) (fun _ _ _ => rfl) (rf_0_9 z) ?_
          refine bq_iload_n (q := 27) G rfl dX8_measured_26 rfl ?_
          refine bq_iload_n (q := 28) G rfl dX8_measured_27 rfl ?_
          refine bq_callv (q := 31) G dX8_measured_28 rfl cl_X8_231 (c_X4_add ht htl) rfl (by first | assumption | exact ⟨Nat.le_of_ble_eq_true rfl, rfl⟩) rfl ⟨Nat.le_of_ble_eq_true rfl, Nat.le_of_ble_eq_true rfl⟩ (Nat.le_of_ble_eq_true rfl) ⟨Nat.le_of_ble_eq_true rfl, Nat.le_of_ble_eq_true rfl⟩ rfl ?_
          first | refine bq_ifb_eq (t := 44) (q := 34) G dX8_measured_31 (by decide) rfl (fun c31 => ?_) (fun c31 => ?_) | refine bq_if_eq (t := 44) (q := 34) G dX8_measured_31 (by decide) rfl (fun c31 => ?_) (fun c31 => ?_)
          · refine bq_bipush (q := 46) (v := -3) G (by decide) dX8_measured_44 rfl ?_
            exact hret _ _ _ _ _ dX8_measured_46 ⟨by rw [if_pos hif, if_pos (by omega), if_neg c31]; exact ⟨rfl, rfl⟩, rfl⟩
          · rw [if_pos c31]
            refine bq_aload_n (q := 35) G rfl dX8_measured_34 rfl ?_
            refine bq_getr (q := 38) G dX8_measured_35 rfl fl_X8_61 (by first | assumption | exact ⟨Nat.le_of_ble_eq_true rfl, rfl⟩) (fun _ _ _ => rfl) (rf_0_9 z) ?_
            refine bq_geti (q := 41) G dX8_measured_38 rfl fl_X8_105 (by first | assumption | exact ⟨Nat.le_of_ble_eq_true rfl, rfl⟩) rfl ?_
            refine bq_goto (q := 46) G dX8_measured_41 (by decide) ?_
            refine hret _ _ _ _ _ dX8_measured_46 ⟨?_, rfl⟩
            rw [if_pos hif, if_neg (by omega)]
            exact ⟨by rw [bq_sr_s, pk_us], rfl⟩
        · exact no (fun h => c17 h.2.2)
set_option maxHeartbeats 1000000 in
set_option maxRecDepth 100000 in
theorem c_X8_keep {z : Nat} {I : bq_IR} {L : bq_LR} {b : Int32} {T S : Nat → Int32} (hC : gs_CS I T S) : bq_FI MX8_keep z [.ref (z + 0), .int b] 85 (bq_Rf z) I L (fun r J L' => ((¬ (0 ≤ b ∧ b ≤ 1) ∧ r = -1 ∧ J = I) ∨ (∃ i : Nat, i < 2 ∧ b = nI i ∧ r = S 0 ∧ gs_Mr J (60 + 4 * i) S ∧ J 68 = upd (I 68) i 1 ∧ ∀ x, x ≠ 68 → (x < 60 + 4 * i ∨ 60 + 4 * i + 3 < x) → J x = I x)) ∧ L' = L) := by
  refine bq_FIof [some (.ref (z + 0)), some (.int b), none] rfl (Nat.le_of_ble_eq_true rfl) (by decide) rfl (fun _ _ _ _ => rfl) ?_
  intro A G hret
  have G : bq_Cx cX8_keep RX8 3 z (bq_rm MX8_keep 0 0) "keep" A := G
  refine bq_iload_n (q := 1) G rfl dX8_keep_0 rfl ?_
  refine bq_if_lt (t := 9) (q := 4) G dX8_keep_1 (by decide) rfl (fun c1 => ?_) (fun c1 => ?_)
  · refine bq_iconst (q := 10) (v := -1) G (by decide) dX8_keep_9 rfl ?_
    exact hret _ _ _ _ _ dX8_keep_10 ⟨Or.inl ⟨fun h => absurd h.1 (Int32.not_le.mpr c1), rfl, rfl⟩, rfl⟩
  · refine bq_iload_n (q := 5) G rfl dX8_keep_4 rfl ?_
    refine bq_iconst (q := 6) (v := 2) G (by decide) dX8_keep_5 rfl ?_
    refine bq_icmp_lt (t := 11) (q := 9) G dX8_keep_6 (by decide) rfl (fun c6 => ?_) (fun c6 => ?_)
    · obtain ⟨i, hi1, rfl⟩ := gs_rng (M := 1) (k := 1) (by decide) ⟨Int32.not_lt.mp c1, ix_21.mp c6⟩
      have hi : i < 2 := by omega
      have hMo := bq_MoI z hi
      have ho := hMo.1
      refine bq_aload_n (q := 12) G rfl dX8_keep_11 rfl ?_
      refine bq_getr (q := 15) G dX8_keep_12 rfl fl_X8_50 (by first | assumption | exact ⟨Nat.le_of_ble_eq_true rfl, rfl⟩) (fun _ _ _ => rfl) (rf_0_7 z) ?_
      refine bq_iload_n (q := 16) G rfl dX8_keep_15 rfl ?_
      refine bq_aald (q := 17) (b := i) G dX8_keep_16 rfl (by first | assumption | exact ⟨Nat.le_of_ble_eq_true rfl, rfl⟩) rfl hi (by decide) (if_pos hi) ?_
      refine bq_astore_n (q := 18) (ls' := [_, _, _]) G dX8_keep_17 rfl (by decide) rfl rfl ?_
      refine bq_aload_n (q := 19) G rfl dX8_keep_18 rfl ?_
      refine bq_ifnull (q := 22) G dX8_keep_19 rfl ?_
      refine bq_aload_n (q := 23) G rfl dX8_keep_22 rfl ?_
      refine bq_aload_n (q := 24) G rfl dX8_keep_23 rfl ?_
      refine bq_getr (q := 27) G dX8_keep_24 rfl fl_X8_36 (by first | assumption | exact ⟨Nat.le_of_ble_eq_true rfl, rfl⟩) (fun _ _ _ => rfl) (rf_0_4 z) ?_
      refine bq_callvV (q := 30) G dX8_keep_27 rfl cl_X8_102 (c_X5_copyFrom (a := 60 + 4 * i) (o := 17) hMo (bq_Mo17 z) (by omega) hC.2.1.1) rfl (by first | assumption | exact ⟨Nat.le_of_ble_eq_true rfl, rfl⟩) rfl ⟨Nat.le_of_ble_eq_true rfl, Nat.le_of_ble_eq_true rfl⟩ (Nat.le_of_ble_eq_true rfl) ⟨Nat.le_of_ble_eq_true rfl, Nat.le_of_ble_eq_true rfl⟩ (fun I27 L27 h27 => ?_)
      obtain ⟨⟨h1, h2, h3⟩, h4, rfl⟩ := h27
      refine bq_aload_n (q := 31) G rfl dX8_keep_30 rfl ?_
      refine bq_getr (q := 34) G dX8_keep_31 rfl fl_X8_54 (by first | assumption | exact ⟨Nat.le_of_ble_eq_true rfl, rfl⟩) (fun _ _ _ => rfl) (rf_0_8 z) ?_
      refine bq_iload_n (q := 35) G rfl dX8_keep_34 rfl ?_
      refine bq_iconst (q := 36) (v := 1) G (by decide) dX8_keep_35 rfl ?_
      refine bq_zast (q := 37) (b := i) G dX8_keep_36 rfl (by first | assumption | exact ⟨Nat.le_of_ble_eq_true rfl, rfl⟩) rfl hi (by decide) ⟨rfl, rfl⟩ ?_
      refine bq_aload_n (q := 38) G rfl dX8_keep_37 rfl ?_
      refine bq_getr (q := 41) G dX8_keep_38 rfl fl_X8_36 (by first | assumption | exact ⟨Nat.le_of_ble_eq_true rfl, rfl⟩) (fun _ _ _ => rfl) (rf_0_4 z) ?_
      refine bq_geti (q := 44) G dX8_keep_41 rfl fl_X8_135 (by first | assumption | exact ⟨Nat.le_of_ble_eq_true rfl, rfl⟩) rfl ?_
      have hx : ∀ x, x ≠ 68 → (x < 60 + 4 * i ∨ 60 + 4 * i + 3 < x) → bq_sr I27 68 (upd (I27 68) i 1) x = I x := fun x a b => by rw [bq_sr_n a]; exact h4 x b
      refine hret _ _ _ _ _ dX8_keep_44 ⟨Or.inr ⟨i, hi, rfl, ?_, ?_, ?_, hx⟩, rfl⟩
      · rw [hx 17 (by decide) (by omega)]; exact hC.2.1.2.1
      · refine gs_Mr.fr (I := I27) ⟨h1, h2.trans hC.2.1.2.1, h3.trans hC.2.1.2.2⟩ (fun x a b => bq_sr_n (by omega))
      · rw [bq_sr_s, h4 68 (by omega)]
    · refine bq_iconst (q := 10) (v := -1) G (by decide) dX8_keep_9 rfl ?_
      exact hret _ _ _ _ _ dX8_keep_10 ⟨Or.inl ⟨fun h => c6 (ix_21.mpr h.2), rfl, rfl⟩, rfl⟩
set_option maxHeartbeats 1000000 in
set_option maxRecDepth 100000 in
theorem c_X8_back {z : Nat} {I : bq_IR} {L : bq_LR} {b : Int32} {V : Nat → Nat → Int32} (hM : ∀ i, i < 2 → ¬ I 68 i = 0 → gs_Mr I (60 + 4 * i) (V i)) : bq_FI MX8_back z [.ref (z + 0), .int b] 85 (bq_Rf z) I L (fun r J L' => ((¬ (0 ≤ b ∧ b ≤ 1) ∧ r = -1 ∧ J = I) ∨ (∃ i : Nat, i < 2 ∧ b = nI i ∧ ((I 68 i = 0 ∧ r = -2 ∧ J = I) ∨ (¬ I 68 i = 0 ∧ r = V i 0 ∧ gs_Mr J 17 (V i) ∧ J 25 = upd (I 25) 1 0 ∧ ∀ x, (x < 17 ∨ 20 < x) → x ≠ 25 → J x = I x)))) ∧ L' = L) := by
  refine bq_FIof [some (.ref (z + 0)), some (.int b), none] rfl (Nat.le_of_ble_eq_true rfl) (by decide) rfl (fun _ _ _ _ => rfl) ?_
  intro A G hret
  have G : bq_Cx cX8_back RX8 3 z (bq_rm MX8_back 0 0) "back" A := G
  refine bq_iload_n (q := 1) G rfl dX8_back_0 rfl ?_
  refine bq_if_lt (t := 9) (q := 4) G dX8_back_1 (by decide) rfl (fun c1 => ?_) (fun c1 => ?_)
  · refine bq_iconst (q := 10) (v := -1) G (by decide) dX8_back_9 rfl ?_
    exact hret _ _ _ _ _ dX8_back_10 ⟨Or.inl ⟨fun h => absurd h.1 (Int32.not_le.mpr c1), rfl, rfl⟩, rfl⟩
  · refine bq_iload_n (q := 5) G rfl dX8_back_4 rfl ?_
    refine bq_iconst (q := 6) (v := 2) G (by decide) dX8_back_5 rfl ?_
    refine bq_icmp_lt (t := 11) (q := 9) G dX8_back_6 (by decide) rfl (fun c6 => ?_) (fun c6 => ?_)
    · obtain ⟨i, hi1, rfl⟩ := gs_rng (M := 1) (k := 1) (by decide) ⟨Int32.not_lt.mp c1, ix_21.mp c6⟩
      have hi : i < 2 := by omega
      have hMo := bq_MoI z hi
      have ho := hMo.1
      refine bq_aload_n (q := 12) G rfl dX8_back_11 rfl ?_
      refine bq_getr (q := 15) G dX8_back_12 rfl fl_X8_50 (by first | assumption | exact ⟨Nat.le_of_ble_eq_true rfl, rfl⟩) (fun _ _ _ => rfl) (rf_0_7 z) ?_
      refine bq_iload_n (q := 16) G rfl dX8_back_15 rfl ?_
      refine bq_aald (q := 17) (b := i) G dX8_back_16 rfl (by first | assumption | exact ⟨Nat.le_of_ble_eq_true rfl, rfl⟩) rfl hi (by decide) (if_pos hi) ?_
      refine bq_astore_n (q := 18) (ls' := [_, _, _]) G dX8_back_17 rfl (by decide) rfl rfl ?_
      refine bq_aload_n (q := 19) G rfl dX8_back_18 rfl ?_
      refine bq_ifnull (q := 22) G dX8_back_19 rfl ?_
      refine bq_aload_n (q := 23) G rfl dX8_back_22 rfl ?_
      refine bq_getr (q := 26) G dX8_back_23 rfl fl_X8_54 (by first | assumption | exact ⟨Nat.le_of_ble_eq_true rfl, rfl⟩) (fun _ _ _ => rfl) (rf_0_8 z) ?_
      refine bq_iload_n (q := 27) G rfl dX8_back_26 rfl ?_
      refine bq_zald (q := 28) (b := i) G dX8_back_27 rfl (by first | assumption | exact ⟨Nat.le_of_ble_eq_true rfl, rfl⟩) rfl hi (by decide) ?_
      first | refine bq_ifb_ne (t := 34) (q := 31) G dX8_back_28 (by decide) rfl (fun c28 => ?_) (fun c28 => ?_) | refine bq_if_ne (t := 34) (q := 31) G dX8_back_28 (by decide) rfl (fun c28 => ?_) (fun c28 => ?_)
      · have hV := hM i hi c28
        refine bq_aload_n (q := 35) G rfl dX8_back_34 rfl ?_
        refine bq_getr (q := 38) G dX8_back_35 rfl fl_X8_36 (by first | assumption | exact ⟨Nat.le_of_ble_eq_true rfl, rfl⟩) (fun _ _ _ => rfl) (rf_0_4 z) ?_
        refine bq_aload_n (q := 39) G rfl dX8_back_38 rfl ?_
        refine bq_callvV (q := 42) G dX8_back_39 rfl cl_X8_102 (c_X5_copyFrom (a := 17) (o := 60 + 4 * i) (bq_Mo17 z) hMo (by omega) hV.1) rfl (by first | assumption | exact ⟨Nat.le_of_ble_eq_true rfl, rfl⟩) rfl ⟨Nat.le_of_ble_eq_true rfl, Nat.le_of_ble_eq_true rfl⟩ (Nat.le_of_ble_eq_true rfl) ⟨Nat.le_of_ble_eq_true rfl, Nat.le_of_ble_eq_true rfl⟩ (fun I39 L39 h39 => ?_)
        obtain ⟨⟨h1, h2, h3⟩, h4, rfl⟩ := h39
        refine bq_aload_n (q := 43) G rfl dX8_back_42 rfl ?_
        refine bq_getr (q := 46) G dX8_back_43 rfl fl_X8_46 (by first | assumption | exact ⟨Nat.le_of_ble_eq_true rfl, rfl⟩) (fun _ _ _ => rfl) (rf_0_6 z) ?_
        refine bq_iconst (q := 47) (v := 0) G (by decide) dX8_back_46 rfl ?_
        refine bq_puti (q := 50) G dX8_back_47 rfl fl_X8_108 (by first | assumption | exact ⟨Nat.le_of_ble_eq_true rfl, rfl⟩) rfl rfl ?_
        refine bq_aload_n (q := 51) G rfl dX8_back_50 rfl ?_
        refine bq_getr (q := 54) G dX8_back_51 rfl fl_X8_36 (by first | assumption | exact ⟨Nat.le_of_ble_eq_true rfl, rfl⟩) (fun _ _ _ => rfl) (rf_0_4 z) ?_
        refine bq_geti (q := 57) G dX8_back_54 rfl fl_X8_135 (by first | assumption | exact ⟨Nat.le_of_ble_eq_true rfl, rfl⟩) rfl ?_
        refine hret _ _ _ _ _ dX8_back_57 ⟨Or.inr ⟨i, hi, rfl, Or.inr ⟨c28, ?_, ?_, ?_, fun x a b => by rw [bq_sr_n b]; exact h4 x a⟩⟩, rfl⟩
        · rw [bq_srn1 (by decide), h2]; exact hV.2.1
        · exact gs_Mr.fr (I := I39) ⟨h1, h2.trans hV.2.1, h3.trans hV.2.2⟩ (fun x a b => bq_sr_n (by omega))
        · rw [bq_sr_s, h4 25 (by omega)]
      · refine bq_bipush (q := 33) (v := -2) G (by decide) dX8_back_31 rfl ?_
        exact hret _ _ _ _ _ dX8_back_33 ⟨Or.inr ⟨i, hi, rfl, Or.inl ⟨c28, rfl, rfl⟩⟩, rfl⟩
    · refine bq_iconst (q := 10) (v := -1) G (by decide) dX8_back_9 rfl ?_
      exact hret _ _ _ _ _ dX8_back_10 ⟨Or.inl ⟨fun h => c6 (ix_21.mpr h.2), rfl, rfl⟩, rfl⟩
