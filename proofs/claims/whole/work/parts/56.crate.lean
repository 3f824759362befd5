set_option maxHeartbeats 1000000 in
set_option maxRecDepth 100000 in
theorem c_X8_rate {z : Nat} {I : bq_IR} {L : bq_LR} {c b : Int32} {T S : Nat → Int32} (hC : gs_CS I T S) : bq_FI MX8_rate z [.ref (z + 0), .int c, .int b] 85 (bq_Rf z) I L (fun r J L' => J = I ∧ ((¬ ((0 ≤ c ∧ c ≤ 5) ∧ 0 ≤ b ∧ b ≤ 7) ∧ r = -1000000 ∧ L' = L) ∨ (∃ k : Nat, k < 8 ∧ b = nI k ∧ (0 ≤ c ∧ c ≤ 5) ∧ r = gs_rate T S c k ∧ L' = bq_sr L 74 (vp_updL (L 74) 0 (L 74 0 + gs_inc c))))) := by
  refine bq_FIof [some (.ref (z + 0)), some (.int c), some (.int b), none] rfl (Nat.le_of_ble_eq_true rfl) (by decide) rfl (fun _ _ _ _ => rfl) ?_
  intro A G hret
  have G : bq_Cx cX8_rate RX8 4 z (bq_rm MX8_rate 0 0) "rate" A := G
  have hM := hC.2.1.1
  have hh : gs_hgt (I (5 + 1) 1) (I 17 1) = S 1 / T 1 := by rw [show I (5 + 1) 1 = T 1 from hC.1.2.1, gs_hgt1 hC.2.2.2.1, hM.1]
  refine bq_iload_n (q := 1) G rfl dX8_rate_0 rfl ?_
  refine bq_if_lt (t := 10) (q := 4) G dX8_rate_1 (by decide) rfl (fun c1 => ?_) (fun c1 => ?_)
  · refine bq_ldc (q := 12) G wk_X8_244 dX8_rate_10 rfl ?_
    exact hret _ _ _ _ _ dX8_rate_12 ⟨rfl, Or.inl ⟨fun h => absurd h.2.1 (Int32.not_le.mpr c1), rfl, rfl⟩⟩
  · refine bq_iload_n (q := 5) G rfl dX8_rate_4 rfl ?_
    refine bq_bipush (q := 7) (v := 8) G (by decide) dX8_rate_5 rfl ?_
    refine bq_icmp_lt (t := 13) (q := 10) G dX8_rate_7 (by decide) rfl (fun c7 => ?_) (fun c7 => ?_)
    · obtain ⟨k, hk, rfl⟩ := gs_ik ⟨Int32.not_lt.mp c1, ix_78.mp c7⟩
      have e3 := (hM.2.1 k hk).1
      have e11 := (hM.2.1 k hk).2.1
      have e19 := (hM.2.1 k hk).2.2
      by_cases hc : 0 ≤ c ∧ c ≤ 5
      · obtain ⟨j, hj, rfl⟩ := gs_rng (M := 5) (k := 5) (by decide) hc
        refine bq_aload_n (q := 14) G rfl dX8_rate_13 rfl ?_
        refine bq_getr (q := 17) G dX8_rate_14 rfl fl_X8_36 (by first | assumption | exact ⟨Nat.le_of_ble_eq_true rfl, rfl⟩) (fun _ _ _ => rfl) (rf_0_4 z) ?_
        refine bq_getr (q := 20) G dX8_rate_17 rfl fl_X8_109 (by first | assumption | exact ⟨Nat.le_of_ble_eq_true rfl, rfl⟩) (fun _ _ _ => rfl) (by first | assumption | rfl) ?_
        refine bq_iload_n (q := 21) G rfl dX8_rate_20 rfl ?_
        refine bq_iald (q := 22) (b := k) G dX8_rate_21 rfl (by first | assumption | exact ⟨Nat.le_of_ble_eq_true rfl, rfl⟩) rfl hk (by decide) ?_
        refine bq_istore_n (q := 23) (ls' := [_, _, _, _]) G dX8_rate_22 rfl (by decide) rfl rfl ?_
        refine bq_iload_n (q := 24) G rfl dX8_rate_23 rfl ?_
        rcases (show j = 0 ∨ j = 1 ∨ j = 2 ∨ j = 3 ∨ j = 4 ∨ j = 5 by omega) with rfl | rfl | rfl | rfl | rfl | rfl
        · refine bq_tswIn (off := 40) (t := 64) G dX8_rate_24 (by decide) (by decide) rfl (by decide) ?_
          refine bq_aload_n (q := 65) G rfl dX8_rate_64 rfl ?_
          refine bq_getr (q := 68) G dX8_rate_65 rfl fl_X8_79 (by first | assumption | exact ⟨Nat.le_of_ble_eq_true rfl, rfl⟩) (fun _ _ _ => rfl) (rf_0_12 z) ?_
          refine bq_iload_n (q := 69) G rfl dX8_rate_68 rfl ?_
          refine bq_callv (q := 72) G dX8_rate_69 rfl cl_X8_251 (c_X2_asBroom) rfl (by first | assumption | exact ⟨Nat.le_of_ble_eq_true rfl, rfl⟩) rfl ⟨Nat.le_of_ble_eq_true rfl, Nat.le_of_ble_eq_true rfl⟩ (Nat.le_of_ble_eq_true rfl) ⟨Nat.le_of_ble_eq_true rfl, Nat.le_of_ble_eq_true rfl⟩ rfl ?_
          refine hret _ _ _ _ _ dX8_rate_72 ⟨rfl, Or.inr ⟨k, hk, rfl, hc, Eq.trans (b := S (3 + k)) ?_ rfl, rfl⟩⟩
          rw [← e3]
        · refine bq_tswIn (off := 49) (t := 73) G dX8_rate_24 (by decide) (by decide) rfl (by decide) ?_
          refine bq_aload_n (q := 74) G rfl dX8_rate_73 rfl ?_
          refine bq_getr (q := 77) G dX8_rate_74 rfl fl_X8_79 (by first | assumption | exact ⟨Nat.le_of_ble_eq_true rfl, rfl⟩) (fun _ _ _ => rfl) (rf_0_12 z) ?_
          refine bq_iload_n (q := 78) G rfl dX8_rate_77 rfl ?_
          refine bq_aload_n (q := 79) G rfl dX8_rate_78 rfl ?_
          refine bq_getr (q := 82) G dX8_rate_79 rfl fl_X8_36 (by first | assumption | exact ⟨Nat.le_of_ble_eq_true rfl, rfl⟩) (fun _ _ _ => rfl) (rf_0_4 z) ?_
          refine bq_getr (q := 85) G dX8_rate_82 rfl fl_X8_113 (by first | assumption | exact ⟨Nat.le_of_ble_eq_true rfl, rfl⟩) (fun _ _ _ => rfl) (by first | assumption | rfl) ?_
          refine bq_iload_n (q := 86) G rfl dX8_rate_85 rfl ?_
          refine bq_iald (q := 87) (b := k) G dX8_rate_86 rfl (by first | assumption | exact ⟨Nat.le_of_ble_eq_true rfl, rfl⟩) rfl hk (by decide) ?_
          refine bq_callv (q := 90) G dX8_rate_87 rfl cl_X8_254 (c_X2_asWet) rfl (by first | assumption | exact ⟨Nat.le_of_ble_eq_true rfl, rfl⟩) rfl ⟨Nat.le_of_ble_eq_true rfl, Nat.le_of_ble_eq_true rfl⟩ (Nat.le_of_ble_eq_true rfl) ⟨Nat.le_of_ble_eq_true rfl, Nat.le_of_ble_eq_true rfl⟩ rfl ?_
          refine hret _ _ _ _ _ dX8_rate_90 ⟨rfl, Or.inr ⟨k, hk, rfl, hc, Eq.trans (b := S (3 + k) + S (11 + k)) ?_ rfl, rfl⟩⟩
          rw [← e3, ← e11]
        · refine bq_tswIn (off := 67) (t := 91) G dX8_rate_24 (by decide) (by decide) rfl (by decide) ?_
          refine bq_aload_n (q := 92) G rfl dX8_rate_91 rfl ?_
          refine bq_getr (q := 95) G dX8_rate_92 rfl fl_X8_79 (by first | assumption | exact ⟨Nat.le_of_ble_eq_true rfl, rfl⟩) (fun _ _ _ => rfl) (rf_0_12 z) ?_
          refine bq_iload_n (q := 96) G rfl dX8_rate_95 rfl ?_
          refine bq_aload_n (q := 97) G rfl dX8_rate_96 rfl ?_
          refine bq_getr (q := 100) G dX8_rate_97 rfl fl_X8_36 (by first | assumption | exact ⟨Nat.le_of_ble_eq_true rfl, rfl⟩) (fun _ _ _ => rfl) (rf_0_4 z) ?_
          refine bq_getr (q := 103) G dX8_rate_100 rfl fl_X8_116 (by first | assumption | exact ⟨Nat.le_of_ble_eq_true rfl, rfl⟩) (fun _ _ _ => rfl) (by first | assumption | rfl) ?_
          refine bq_iload_n (q := 104) G rfl dX8_rate_103 rfl ?_
          refine bq_iald (q := 105) (b := k) G dX8_rate_104 rfl (by first | assumption | exact ⟨Nat.le_of_ble_eq_true rfl, rfl⟩) rfl hk (by decide) ?_
          refine bq_callv (q := 108) G dX8_rate_105 rfl cl_X8_257 (c_X2_asHalf) rfl (by first | assumption | exact ⟨Nat.le_of_ble_eq_true rfl, rfl⟩) rfl ⟨Nat.le_of_ble_eq_true rfl, Nat.le_of_ble_eq_true rfl⟩ (Nat.le_of_ble_eq_true rfl) ⟨Nat.le_of_ble_eq_true rfl, Nat.le_of_ble_eq_true rfl⟩ rfl ?_
          refine hret _ _ _ _ _ dX8_rate_108 ⟨rfl, Or.inr ⟨k, hk, rfl, hc, Eq.trans (b := S (3 + k) - S (19 + k)) ?_ rfl, rfl⟩⟩
          rw [← e3, ← e19]
        · refine bq_tswIn (off := 85) (t := 109) G dX8_rate_24 (by decide) (by decide) rfl (by decide) ?_
          refine bq_aload_n (q := 110) G rfl dX8_rate_109 rfl ?_
          refine bq_getr (q := 113) G dX8_rate_110 rfl fl_X8_79 (by first | assumption | exact ⟨Nat.le_of_ble_eq_true rfl, rfl⟩) (fun _ _ _ => rfl) (rf_0_12 z) ?_
          refine bq_iload_n (q := 114) G rfl dX8_rate_113 rfl ?_
          refine bq_aload_n (q := 115) G rfl dX8_rate_114 rfl ?_
          refine bq_getr (q := 118) G dX8_rate_115 rfl fl_X8_36 (by first | assumption | exact ⟨Nat.le_of_ble_eq_true rfl, rfl⟩) (fun _ _ _ => rfl) (rf_0_4 z) ?_
          refine bq_getr (q := 121) G dX8_rate_118 rfl fl_X8_113 (by first | assumption | exact ⟨Nat.le_of_ble_eq_true rfl, rfl⟩) (fun _ _ _ => rfl) (by first | assumption | rfl) ?_
          refine bq_iload_n (q := 122) G rfl dX8_rate_121 rfl ?_
          refine bq_iald (q := 123) (b := k) G dX8_rate_122 rfl (by first | assumption | exact ⟨Nat.le_of_ble_eq_true rfl, rfl⟩) rfl hk (by decide) ?_
          refine bq_callv (q := 126) G dX8_rate_123 rfl cl_X8_260 (c_X2_asBored) rfl (by first | assumption | exact ⟨Nat.le_of_ble_eq_true rfl, rfl⟩) rfl ⟨Nat.le_of_ble_eq_true rfl, Nat.le_of_ble_eq_true rfl⟩ (Nat.le_of_ble_eq_true rfl) ⟨Nat.le_of_ble_eq_true rfl, Nat.le_of_ble_eq_true rfl⟩ rfl ?_
          refine hret _ _ _ _ _ dX8_rate_126 ⟨rfl, Or.inr ⟨k, hk, rfl, hc, Eq.trans (b := 2 * (S (3 + k) + S (11 + k))) ?_ rfl, rfl⟩⟩
          rw [← e3, ← e11]
        · refine bq_tswIn (off := 103) (t := 127) G dX8_rate_24 (by decide) (by decide) rfl (by decide) ?_
          refine bq_aload_n (q := 128) G rfl dX8_rate_127 rfl ?_
          refine bq_getr (q := 131) G dX8_rate_128 rfl fl_X8_79 (by first | assumption | exact ⟨Nat.le_of_ble_eq_true rfl, rfl⟩) (fun _ _ _ => rfl) (rf_0_12 z) ?_
          refine bq_iload_n (q := 132) G rfl dX8_rate_131 rfl ?_
          refine bq_aload_n (q := 133) G rfl dX8_rate_132 rfl ?_
          refine bq_getr (q := 136) G dX8_rate_133 rfl fl_X8_36 (by first | assumption | exact ⟨Nat.le_of_ble_eq_true rfl, rfl⟩) (fun _ _ _ => rfl) (rf_0_4 z) ?_
          refine bq_getr (q := 139) G dX8_rate_136 rfl fl_X8_116 (by first | assumption | exact ⟨Nat.le_of_ble_eq_true rfl, rfl⟩) (fun _ _ _ => rfl) (by first | assumption | rfl) ?_
          refine bq_iload_n (q := 140) G rfl dX8_rate_139 rfl ?_
          refine bq_iald (q := 141) (b := k) G dX8_rate_140 rfl (by first | assumption | exact ⟨Nat.le_of_ble_eq_true rfl, rfl⟩) rfl hk (by decide) ?_
          refine bq_iload_n (q := 142) G rfl dX8_rate_141 rfl ?_
          refine bq_callv (q := 145) G dX8_rate_142 rfl cl_X8_263 (c_X2_asBurning) rfl (by first | assumption | exact ⟨Nat.le_of_ble_eq_true rfl, rfl⟩) rfl ⟨Nat.le_of_ble_eq_true rfl, Nat.le_of_ble_eq_true rfl⟩ (Nat.le_of_ble_eq_true rfl) ⟨Nat.le_of_ble_eq_true rfl, Nat.le_of_ble_eq_true rfl⟩ rfl ?_
          refine hret _ _ _ _ _ dX8_rate_145 ⟨rfl, Or.inr ⟨k, hk, rfl, hc, Eq.trans (b := (S (3 + k) - S (19 + k)) + nI k) ?_ rfl, rfl⟩⟩
          rw [← e3, ← e19]
        · refine bq_tswIn (off := 122) (t := 146) G dX8_rate_24 (by decide) (by decide) rfl (by decide) ?_
          refine bq_aload_n (q := 147) G rfl dX8_rate_146 rfl ?_
          refine bq_getr (q := 150) G dX8_rate_147 rfl fl_X8_79 (by first | assumption | exact ⟨Nat.le_of_ble_eq_true rfl, rfl⟩) (fun _ _ _ => rfl) (rf_0_12 z) ?_
          refine bq_iload_n (q := 151) G rfl dX8_rate_150 rfl ?_
          refine bq_aload_n (q := 152) G rfl dX8_rate_151 rfl ?_
          refine bq_getr (q := 155) G dX8_rate_152 rfl fl_X8_26 (by first | assumption | exact ⟨Nat.le_of_ble_eq_true rfl, rfl⟩) (fun _ _ _ => rfl) (rf_0_2 z) ?_
          refine bq_aload_n (q := 156) G rfl dX8_rate_155 rfl ?_
          refine bq_getr (q := 159) G dX8_rate_156 rfl fl_X8_36 (by first | assumption | exact ⟨Nat.le_of_ble_eq_true rfl, rfl⟩) (fun _ _ _ => rfl) (rf_0_4 z) ?_
          refine bq_geti (q := 162) G dX8_rate_159 rfl fl_X8_138 (by first | assumption | exact ⟨Nat.le_of_ble_eq_true rfl, rfl⟩) rfl ?_
          refine bq_callv (q := 165) G dX8_rate_162 rfl cl_X8_141 (c_X0_heightOf (bq_Ce5 z)) rfl (by first | assumption | exact ⟨Nat.le_of_ble_eq_true rfl, rfl⟩) rfl ⟨Nat.le_of_ble_eq_true rfl, Nat.le_of_ble_eq_true rfl⟩ (Nat.le_of_ble_eq_true rfl) ⟨Nat.le_of_ble_eq_true rfl, Nat.le_of_ble_eq_true rfl⟩ rfl ?_
          refine bq_callv (q := 168) G dX8_rate_165 rfl cl_X8_267 (c_X2_asTeaching) rfl (by first | assumption | exact ⟨Nat.le_of_ble_eq_true rfl, rfl⟩) rfl ⟨Nat.le_of_ble_eq_true rfl, Nat.le_of_ble_eq_true rfl⟩ (Nat.le_of_ble_eq_true rfl) ⟨Nat.le_of_ble_eq_true rfl, Nat.le_of_ble_eq_true rfl⟩ rfl ?_
          refine hret _ _ _ _ _ dX8_rate_168 ⟨rfl, Or.inr ⟨k, hk, rfl, hc, Eq.trans (b := S (3 + k) + S 1 / T 1) ?_ rfl, rfl⟩⟩
          rw [← e3, ← hh]
      · refine bq_aload_n (q := 14) G rfl dX8_rate_13 rfl ?_
        refine bq_getr (q := 17) G dX8_rate_14 rfl fl_X8_36 (by first | assumption | exact ⟨Nat.le_of_ble_eq_true rfl, rfl⟩) (fun _ _ _ => rfl) (rf_0_4 z) ?_
        refine bq_getr (q := 20) G dX8_rate_17 rfl fl_X8_109 (by first | assumption | exact ⟨Nat.le_of_ble_eq_true rfl, rfl⟩) (fun _ _ _ => rfl) (by first | assumption | rfl) ?_
        refine bq_iload_n (q := 21) G rfl dX8_rate_20 rfl ?_
        refine bq_iald (q := 22) (b := k) G dX8_rate_21 rfl (by first | assumption | exact ⟨Nat.le_of_ble_eq_true rfl, rfl⟩) rfl hk (by decide) ?_
        refine bq_istore_n (q := 23) (ls' := [_, _, _, _]) G dX8_rate_22 rfl (by decide) rfl rfl ?_
        refine bq_iload_n (q := 24) G rfl dX8_rate_23 rfl ?_
        refine bq_tswOut (t := 169) G dX8_rate_24 (ix_o5 hc) (by decide) ?_
        refine bq_ldc (q := 171) G wk_X8_244 dX8_rate_169 rfl ?_
        exact hret _ _ _ _ _ dX8_rate_171 ⟨rfl, Or.inl ⟨fun h => hc h.1, rfl, rfl⟩⟩
    · refine bq_ldc (q := 12) G wk_X8_244 dX8_rate_10 rfl ?_
      exact hret _ _ _ _ _ dX8_rate_12 ⟨rfl, Or.inl ⟨fun h => c7 (ix_78.mpr h.2.2), rfl, rfl⟩⟩
set_option maxHeartbeats 1000000 in
set_option maxRecDepth 100000 in
theorem c_X8_splitOn {z : Nat} {I : bq_IR} {L : bq_LR} {b k c : Int32} {T S : Nat → Int32} (hC : gs_CS I T S) : bq_FC MX8_splitOn z [.ref (z + 0), .int b, .int k, .int c] 85 (bq_Rf z) I L 0 0 (some (.int (gs_splitOn S b k c))) 85 (bq_Rf z) (I) (L) := by
  refine bq_ofI [some (.ref (z + 0)), some (.int b), some (.int k), some (.int c), none, none] rfl (Nat.le_of_ble_eq_true rfl) (by decide) rfl rfl ?_
  intro A G hret
  have G : bq_Cx cX8_splitOn RX8 6 z (bq_rm MX8_splitOn 0 0) "splitOn" A := G
  have hM := hC.2.1.1
  have hF := hM.2.2.2.2.2
  have no : ¬ (((0 ≤ b ∧ b ≤ 7) ∧ S (51 + b.toNatClampNeg) = 1) ∧ (0 ≤ k ∧ k ≤ 6) ∧ 0 ≤ c ∧ c ≤ 1) → A 0 0 30 [some (.ref (z + 0)), some (.int b), some (.int k), some (.int c), none, none] [] 85 (bq_Rf z) I L := by
    intro h
    refine bq_iconst (q := 31) (v := -1) G (by decide) dX8_splitOn_30 rfl ?_
    exact bq_ri (hret _ _ dX8_splitOn_31) (by unfold gs_splitOn; rw [if_neg h]) rfl rfl
  refine bq_aload_n (q := 1) G rfl dX8_splitOn_0 rfl ?_
  refine bq_getr (q := 4) G dX8_splitOn_1 rfl fl_X8_36 (by first | assumption | exact ⟨Nat.le_of_ble_eq_true rfl, rfl⟩) (fun _ _ _ => rfl) (rf_0_4 z) ?_
  refine bq_iload_n (q := 5) G rfl dX8_splitOn_4 rfl ?_
  refine bq_callv (q := 8) G dX8_splitOn_5 rfl cl_X8_167 (c_X5_isThere (bq_Mo17 z).1) rfl (by first | assumption | exact ⟨Nat.le_of_ble_eq_true rfl, rfl⟩) rfl ⟨Nat.le_of_ble_eq_true rfl, Nat.le_of_ble_eq_true rfl⟩ (Nat.le_of_ble_eq_true rfl) ⟨Nat.le_of_ble_eq_true rfl, Nat.le_of_ble_eq_true rfl⟩ rfl ?_
  first | refine bq_ifb_eq (t := 30) (q := 11) G dX8_splitOn_8 (by decide) rfl (fun c8 => ?_) (fun c8 => ?_) | refine bq_if_eq (t := 30) (q := 11) G dX8_splitOn_8 (by decide) rfl (fun c8 => ?_) (fun c8 => ?_)
  · exact no (fun h => c8 ((gs_thr hF).mpr h.1))
  · have hif := (gs_thr hF).mp c8
    refine bq_iload_n (q := 12) G rfl dX8_splitOn_11 rfl ?_
    refine bq_if_lt (t := 30) (q := 15) G dX8_splitOn_12 (by decide) rfl (fun c12 => ?_) (fun c12 => ?_)
    · exact no (fun h => absurd h.2.1.1 (Int32.not_le.mpr c12))
    · refine bq_iload_n (q := 16) G rfl dX8_splitOn_15 rfl ?_
      refine bq_bipush (q := 18) (v := 6) G (by decide) dX8_splitOn_16 rfl ?_
      refine bq_icmp_gt (t := 30) (q := 21) G dX8_splitOn_18 (by decide) rfl (fun c18 => ?_) (fun c18 => ?_)
      · exact no (fun h => absurd h.2.1.2 (Int32.not_le.mpr c18))
      · refine bq_iload_n (q := 22) G rfl dX8_splitOn_21 rfl ?_
        refine bq_if_lt (t := 30) (q := 25) G dX8_splitOn_22 (by decide) rfl (fun c22 => ?_) (fun c22 => ?_)
        · exact no (fun h => absurd h.2.2.1 (Int32.not_le.mpr c22))
        · refine bq_iload_n (q := 26) G rfl dX8_splitOn_25 rfl ?_
          refine bq_iconst (q := 27) (v := 1) G (by decide) dX8_splitOn_26 rfl ?_
          refine bq_icmp_le (t := 32) (q := 30) G dX8_splitOn_27 (by decide) rfl (fun c27 => ?_) (fun c27 => ?_)
          · have hall : ((0 ≤ b ∧ b ≤ 7) ∧ S (51 + b.toNatClampNeg) = 1) ∧ (0 ≤ k ∧ k ≤ 6) ∧ 0 ≤ c ∧ c ≤ 1 := ⟨hif, ⟨Int32.not_lt.mp c12, Int32.not_lt.mp c18⟩, Int32.not_lt.mp c22, c27⟩
            obtain ⟨q, hq, rfl, h51⟩ := gs_th_ex (S := S) hif
            have e3 := (hM.2.1 q hq).1
            have ev : gs_splitOn S (nI q) k c = if c = 0 then (if S (3 + q) >>> (k &&& 31) = 0 then (0 : Int32) else (1 : Int32) <<< (k &&& 31)) else (if S (3 + q) >>> (k &&& 31) = 0 then (0 : Int32) else (1 : Int32) <<< (k &&& 31)) * (S (3 + q) >>> (k &&& 31)) := by
              unfold gs_splitOn
              rw [if_pos hall, nI_clamp (by omega)]
            rw [ev] at hret
            refine bq_aload_n (q := 33) G rfl dX8_splitOn_32 rfl ?_
            refine bq_getr (q := 36) G dX8_splitOn_33 rfl fl_X8_36 (by first | assumption | exact ⟨Nat.le_of_ble_eq_true rfl, rfl⟩) (fun _ _ _ => rfl) (rf_0_4 z) ?_
            refine bq_getr (q := 39) G dX8_splitOn_36 rfl fl_X8_109 (by first | assumption | exact ⟨Nat.le_of_ble_eq_true rfl, rfl⟩) (fun _ _ _ => rfl) (by first | assumption | rfl) ?_
            refine bq_iload_n (q := 40) G rfl dX8_splitOn_39 rfl ?_
            refine bq_iald (q := 41) (b := q) G dX8_splitOn_40 rfl (by first | assumption | exact ⟨Nat.le_of_ble_eq_true rfl, rfl⟩) rfl hq (by decide) ?_
            refine bq_iload_n (q := 42) G rfl dX8_splitOn_41 rfl ?_
            refine bq_ishr (q := 43) G dX8_splitOn_42 rfl ?_
            rw [e3]
            refine bq_istore (q := 45) (ls' := [_, _, _, _, _, _]) G dX8_splitOn_43 rfl (by decide) rfl rfl ?_
            refine bq_iload (q := 47) G rfl dX8_splitOn_45 rfl ?_
            first | refine bq_ifb_ne (t := 54) (q := 50) G dX8_splitOn_47 (by decide) rfl (fun c47 => ?_) (fun c47 => ?_) | refine bq_if_ne (t := 54) (q := 50) G dX8_splitOn_47 (by decide) rfl (fun c47 => ?_) (fun c47 => ?_)
            · rw [if_neg c47] at hret
              refine bq_iconst (q := 55) (v := 1) G (by decide) dX8_splitOn_54 rfl ?_
              refine bq_iload_n (q := 56) G rfl dX8_splitOn_55 rfl ?_
              refine bq_ishl (q := 57) G dX8_splitOn_56 rfl ?_
              refine bq_istore (q := 59) (ls' := [_, _, _, _, _, _]) G dX8_splitOn_57 rfl (by decide) rfl rfl ?_
              refine bq_iload_n (q := 60) G rfl dX8_splitOn_59 rfl ?_
              first | refine bq_ifb_ne (t := 68) (q := 63) G dX8_splitOn_60 (by decide) rfl (fun c60 => ?_) (fun c60 => ?_) | refine bq_if_ne (t := 68) (q := 63) G dX8_splitOn_60 (by decide) rfl (fun c60 => ?_) (fun c60 => ?_)
              · rw [if_neg c60] at hret
                refine bq_iload (q := 70) G rfl dX8_splitOn_68 rfl ?_
                refine bq_iload (q := 72) G rfl dX8_splitOn_70 rfl ?_
                refine bq_imul (q := 73) G dX8_splitOn_72 rfl ?_
                exact hret _ _ dX8_splitOn_73
              · rw [if_pos c60] at hret
                refine bq_iload (q := 65) G rfl dX8_splitOn_63 rfl ?_
                refine bq_goto (q := 73) G dX8_splitOn_65 (by decide) ?_
                exact hret _ _ dX8_splitOn_73
            · rw [if_pos c47] at hret
              refine bq_iconst (q := 51) (v := 0) G (by decide) dX8_splitOn_50 rfl ?_
              refine bq_goto (q := 57) G dX8_splitOn_51 (by decide) ?_
              refine bq_istore (q := 59) (ls' := [_, _, _, _, _, _]) G dX8_splitOn_57 rfl (by decide) rfl rfl ?_
              refine bq_iload_n (q := 60) G rfl dX8_splitOn_59 rfl ?_
              first | refine bq_ifb_ne (t := 68) (q := 63) G dX8_splitOn_60 (by decide) rfl (fun c60 => ?_) (fun c60 => ?_) | refine bq_if_ne (t := 68) (q := 63) G dX8_splitOn_60 (by decide) rfl (fun c60 => ?_) (fun c60 => ?_)
              · rw [if_neg c60] at hret
                refine bq_iload (q := 70) G rfl dX8_splitOn_68 rfl ?_
                refine bq_iload (q := 72) G rfl dX8_splitOn_70 rfl ?_
                refine bq_imul (q := 73) G dX8_splitOn_72 rfl ?_
                exact hret _ _ dX8_splitOn_73
              · rw [if_pos c60] at hret
                refine bq_iload (q := 65) G rfl dX8_splitOn_63 rfl ?_
                refine bq_goto (q := 73) G dX8_splitOn_65 (by decide) ?_
                exact hret _ _ dX8_splitOn_73
          · exact no (fun h => c27 h.2.2.2)
