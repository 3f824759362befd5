theorem bq_upd2 {f : Nat → Int64} {j : Nat} {a b : Int64} : vp_updL (vp_updL f j a) j b = vp_updL f j b := by funext x; unfold vp_updL; split <;> rfl
set_option maxHeartbeats 1000000 in
set_option maxRecDepth 100000 in
theorem c_X2_asBroom {z : Nat} {I : bq_IR} {L : bq_LR} {s : Int32}  : bq_FC MX2_asBroom z [.ref (z + 74), .int s] 85 (bq_Rf z) I L 0 0 (some (.int (s))) 85 (bq_Rf z) (I) (bq_sr L 74 (vp_updL (L 74) 0 (L 74 0 + 1))) := by
  refine bq_ofI [some (.ref (z + 74)), some (.int s)] rfl (Nat.le_of_ble_eq_true rfl) (by decide) rfl rfl ?_
  intro A G hret
  have G : bq_Cx cX2_asBroom RX2 2 z (bq_rm MX2_asBroom 0 0) "asBroom" A := G
  refine bq_aload_n (q := 1) G rfl dX2_asBroom_0 rfl ?_
  refine bq_dup (q := 2) G rfl dX2_asBroom_1 rfl ?_
  refine bq_getl (q := 5) G dX2_asBroom_2 rfl fl_X2_7 (by first | assumption | exact ⟨Nat.le_of_ble_eq_true rfl, rfl⟩) rfl ?_
  refine bq_lconst (q := 6) (v := 1) G (by decide) dX2_asBroom_5 rfl ?_
  refine bq_ladd (q := 7) G dX2_asBroom_6 rfl ?_
  refine bq_putl (q := 10) G dX2_asBroom_7 rfl fl_X2_7 (by first | assumption | exact ⟨Nat.le_of_ble_eq_true rfl, rfl⟩) rfl rfl ?_
  refine bq_iload_n (q := 11) G rfl dX2_asBroom_10 rfl ?_
  exact hret _ _ dX2_asBroom_11
theorem bq_rl2 {A : bq_A} {mc ms pc n : Nat} {ls : bq_LS} {R : bq_RR} {I : bq_IR} {L L' : bq_LR} {r r' : Int32} (h : A mc ms pc ls [.int r] n R I L) (e1 : r' = r) (e3 : L' = L) : A mc ms pc ls [.int r'] n R I L' := by subst e1 e3; exact h
theorem kd_us {f : Nat → Int64} {j : Nat} {v : Int64} : vp_updL f j v j = v := by unfold vp_updL; rw [if_pos rfl]
set_option maxHeartbeats 1000000 in
set_option maxRecDepth 100000 in
theorem c_X2_asWet {z : Nat} {I : bq_IR} {L : bq_LR} {s p : Int32}  : bq_FC MX2_asWet z [.ref (z + 74), .int s, .int p] 85 (bq_Rf z) I L 0 0 (some (.int (s + p))) 85 (bq_Rf z) (I) (bq_sr L 74 (vp_updL (L 74) 0 (L 74 0 + 11))) := by
  refine bq_ofI [some (.ref (z + 74)), some (.int s), some (.int p)] rfl (Nat.le_of_ble_eq_true rfl) (by decide) rfl rfl ?_
  intro A G hret
  have G : bq_Cx cX2_asWet RX2 3 z (bq_rm MX2_asWet 0 0) "asWet" A := G
  refine bq_aload_n (q := 1) G rfl dX2_asWet_0 rfl ?_
  refine bq_dup (q := 2) G rfl dX2_asWet_1 rfl ?_
  refine bq_getl (q := 5) G dX2_asWet_2 rfl fl_X2_7 (by first | assumption | exact ⟨Nat.le_of_ble_eq_true rfl, rfl⟩) rfl ?_
  refine bq_ldc2 (q := 8) G wk_X2_13 dX2_asWet_5 rfl ?_
  refine bq_ladd (q := 9) G dX2_asWet_8 rfl ?_
  refine bq_putl (q := 12) G dX2_asWet_9 rfl fl_X2_7 (by first | assumption | exact ⟨Nat.le_of_ble_eq_true rfl, rfl⟩) rfl rfl ?_
  refine bq_aload_n (q := 13) G rfl dX2_asWet_12 rfl ?_
  refine bq_iload_n (q := 14) G rfl dX2_asWet_13 rfl ?_
  refine bq_callv (q := 17) G dX2_asWet_14 rfl cl_X2_15 (c_X2_asBroom) rfl (by first | assumption | exact ⟨Nat.le_of_ble_eq_true rfl, rfl⟩) rfl ⟨Nat.le_of_ble_eq_true rfl, Nat.le_of_ble_eq_true rfl⟩ (Nat.le_of_ble_eq_true rfl) ⟨Nat.le_of_ble_eq_true rfl, Nat.le_of_ble_eq_true rfl⟩ rfl ?_
  refine bq_iload_n (q := 18) G rfl dX2_asWet_17 rfl ?_
  refine bq_iadd (q := 19) G dX2_asWet_18 rfl ?_
  exact bq_rl2 (hret _ _ dX2_asWet_19) rfl (by simp only [bq_sr_s, bq_sr_sr, bq_upd2, kd_us, Int64.add_assoc]; first | done | rfl)
set_option maxHeartbeats 1000000 in
set_option maxRecDepth 100000 in
theorem c_X2_asHalf {z : Nat} {I : bq_IR} {L : bq_LR} {s p : Int32}  : bq_FC MX2_asHalf z [.ref (z + 74), .int s, .int p] 85 (bq_Rf z) I L 0 0 (some (.int (s - p))) 85 (bq_Rf z) (I) (bq_sr L 74 (vp_updL (L 74) 0 (L 74 0 + 101))) := by
  refine bq_ofI [some (.ref (z + 74)), some (.int s), some (.int p)] rfl (Nat.le_of_ble_eq_true rfl) (by decide) rfl rfl ?_
  intro A G hret
  have G : bq_Cx cX2_asHalf RX2 3 z (bq_rm MX2_asHalf 0 0) "asHalf" A := G
  refine bq_aload_n (q := 1) G rfl dX2_asHalf_0 rfl ?_
  refine bq_dup (q := 2) G rfl dX2_asHalf_1 rfl ?_
  refine bq_getl (q := 5) G dX2_asHalf_2 rfl fl_X2_7 (by first | assumption | exact ⟨Nat.le_of_ble_eq_true rfl, rfl⟩) rfl ?_
  refine bq_ldc2 (q := 8) G wk_X2_19 dX2_asHalf_5 rfl ?_
  refine bq_ladd (q := 9) G dX2_asHalf_8 rfl ?_
  refine bq_putl (q := 12) G dX2_asHalf_9 rfl fl_X2_7 (by first | assumption | exact ⟨Nat.le_of_ble_eq_true rfl, rfl⟩) rfl rfl ?_
  refine bq_aload_n (q := 13) G rfl dX2_asHalf_12 rfl ?_
  refine bq_iload_n (q := 14) G rfl dX2_asHalf_13 rfl ?_
  refine bq_callv (q := 17) G dX2_asHalf_14 rfl cl_X2_15 (c_X2_asBroom) rfl (by first | assumption | exact ⟨Nat.le_of_ble_eq_true rfl, rfl⟩) rfl ⟨Nat.le_of_ble_eq_true rfl, Nat.le_of_ble_eq_true rfl⟩ (Nat.le_of_ble_eq_true rfl) ⟨Nat.le_of_ble_eq_true rfl, Nat.le_of_ble_eq_true rfl⟩ rfl ?_
  refine bq_iload_n (q := 18) G rfl dX2_asHalf_17 rfl ?_
  refine bq_isub (q := 19) G dX2_asHalf_18 rfl ?_
  exact bq_rl2 (hret _ _ dX2_asHalf_19) rfl (by simp only [bq_sr_s, bq_sr_sr, bq_upd2, kd_us, Int64.add_assoc]; first | done | rfl)
set_option maxHeartbeats 1000000 in
set_option maxRecDepth 100000 in
theorem c_X2_asTeaching {z : Nat} {I : bq_IR} {L : bq_LR} {s p : Int32}  : bq_FC MX2_asTeaching z [.ref (z + 74), .int s, .int p] 85 (bq_Rf z) I L 0 0 (some (.int (s + p))) 85 (bq_Rf z) (I) (bq_sr L 74 (vp_updL (L 74) 0 (L 74 0 + 100001))) := by
  refine bq_ofI [some (.ref (z + 74)), some (.int s), some (.int p)] rfl (Nat.le_of_ble_eq_true rfl) (by decide) rfl rfl ?_
  intro A G hret
  have G : bq_Cx cX2_asTeaching RX2 3 z (bq_rm MX2_asTeaching 0 0) "asTeaching" A := G
  refine bq_aload_n (q := 1) G rfl dX2_asTeaching_0 rfl ?_
  refine bq_dup (q := 2) G rfl dX2_asTeaching_1 rfl ?_
  refine bq_getl (q := 5) G dX2_asTeaching_2 rfl fl_X2_7 (by first | assumption | exact ⟨Nat.le_of_ble_eq_true rfl, rfl⟩) rfl ?_
  refine bq_ldc2 (q := 8) G wk_X2_32 dX2_asTeaching_5 rfl ?_
  refine bq_ladd (q := 9) G dX2_asTeaching_8 rfl ?_
  refine bq_putl (q := 12) G dX2_asTeaching_9 rfl fl_X2_7 (by first | assumption | exact ⟨Nat.le_of_ble_eq_true rfl, rfl⟩) rfl rfl ?_
  refine bq_aload_n (q := 13) G rfl dX2_asTeaching_12 rfl ?_
  refine bq_iload_n (q := 14) G rfl dX2_asTeaching_13 rfl ?_
  refine bq_callv (q := 17) G dX2_asTeaching_14 rfl cl_X2_15 (c_X2_asBroom) rfl (by first | assumption | exact ⟨Nat.le_of_ble_eq_true rfl, rfl⟩) rfl ⟨Nat.le_of_ble_eq_true rfl, Nat.le_of_ble_eq_true rfl⟩ (Nat.le_of_ble_eq_true rfl) ⟨Nat.le_of_ble_eq_true rfl, Nat.le_of_ble_eq_true rfl⟩ rfl ?_
  refine bq_iload_n (q := 18) G rfl dX2_asTeaching_17 rfl ?_
  refine bq_iadd (q := 19) G dX2_asTeaching_18 rfl ?_
  exact bq_rl2 (hret _ _ dX2_asTeaching_19) rfl (by simp only [bq_sr_s, bq_sr_sr, bq_upd2, kd_us, Int64.add_assoc]; first | done | rfl)
set_option maxHeartbeats 1000000 in
set_option maxRecDepth 100000 in
theorem c_X2_asBored {z : Nat} {I : bq_IR} {L : bq_LR} {s p : Int32}  : bq_FC MX2_asBored z [.ref (z + 74), .int s, .int p] 85 (bq_Rf z) I L 0 0 (some (.int (2 * (s + p)))) 85 (bq_Rf z) (I) (bq_sr L 74 (vp_updL (L 74) 0 (L 74 0 + 1011))) := by
  refine bq_ofI [some (.ref (z + 74)), some (.int s), some (.int p)] rfl (Nat.le_of_ble_eq_true rfl) (by decide) rfl rfl ?_
  intro A G hret
  have G : bq_Cx cX2_asBored RX2 3 z (bq_rm MX2_asBored 0 0) "asBored" A := G
  refine bq_aload_n (q := 1) G rfl dX2_asBored_0 rfl ?_
  refine bq_dup (q := 2) G rfl dX2_asBored_1 rfl ?_
  refine bq_getl (q := 5) G dX2_asBored_2 rfl fl_X2_7 (by first | assumption | exact ⟨Nat.le_of_ble_eq_true rfl, rfl⟩) rfl ?_
  refine bq_ldc2 (q := 8) G wk_X2_21 dX2_asBored_5 rfl ?_
  refine bq_ladd (q := 9) G dX2_asBored_8 rfl ?_
  refine bq_putl (q := 12) G dX2_asBored_9 rfl fl_X2_7 (by first | assumption | exact ⟨Nat.le_of_ble_eq_true rfl, rfl⟩) rfl rfl ?_
  refine bq_iconst (q := 13) (v := 2) G (by decide) dX2_asBored_12 rfl ?_
  refine bq_aload_n (q := 14) G rfl dX2_asBored_13 rfl ?_
  refine bq_iload_n (q := 15) G rfl dX2_asBored_14 rfl ?_
  refine bq_iload_n (q := 16) G rfl dX2_asBored_15 rfl ?_
  refine bq_callv (q := 19) G dX2_asBored_16 rfl cl_X2_23 (c_X2_asWet) rfl (by first | assumption | exact ⟨Nat.le_of_ble_eq_true rfl, rfl⟩) rfl ⟨Nat.le_of_ble_eq_true rfl, Nat.le_of_ble_eq_true rfl⟩ (Nat.le_of_ble_eq_true rfl) ⟨Nat.le_of_ble_eq_true rfl, Nat.le_of_ble_eq_true rfl⟩ rfl ?_
  refine bq_imul (q := 20) G dX2_asBored_19 rfl ?_
  exact bq_rl2 (hret _ _ dX2_asBored_20) rfl (by simp only [bq_sr_s, bq_sr_sr, bq_upd2, kd_us, Int64.add_assoc]; first | done | rfl)
set_option maxHeartbeats 1000000 in
set_option maxRecDepth 100000 in
theorem c_X2_asBurning {z : Nat} {I : bq_IR} {L : bq_LR} {s p q : Int32}  : bq_FC MX2_asBurning z [.ref (z + 74), .int s, .int p, .int q] 85 (bq_Rf z) I L 0 0 (some (.int (s - p + q))) 85 (bq_Rf z) (I) (bq_sr L 74 (vp_updL (L 74) 0 (L 74 0 + 10101))) := by
  refine bq_ofI [some (.ref (z + 74)), some (.int s), some (.int p), some (.int q)] rfl (Nat.le_of_ble_eq_true rfl) (by decide) rfl rfl ?_
  intro A G hret
  have G : bq_Cx cX2_asBurning RX2 4 z (bq_rm MX2_asBurning 0 0) "asBurning" A := G
  refine bq_aload_n (q := 1) G rfl dX2_asBurning_0 rfl ?_
  refine bq_dup (q := 2) G rfl dX2_asBurning_1 rfl ?_
  refine bq_getl (q := 5) G dX2_asBurning_2 rfl fl_X2_7 (by first | assumption | exact ⟨Nat.le_of_ble_eq_true rfl, rfl⟩) rfl ?_
  refine bq_ldc2 (q := 8) G wk_X2_27 dX2_asBurning_5 rfl ?_
  refine bq_ladd (q := 9) G dX2_asBurning_8 rfl ?_
  refine bq_putl (q := 12) G dX2_asBurning_9 rfl fl_X2_7 (by first | assumption | exact ⟨Nat.le_of_ble_eq_true rfl, rfl⟩) rfl rfl ?_
  refine bq_aload_n (q := 13) G rfl dX2_asBurning_12 rfl ?_
  refine bq_iload_n (q := 14) G rfl dX2_asBurning_13 rfl ?_
  refine bq_iload_n (q := 15) G rfl dX2_asBurning_14 rfl ?_
  refine bq_callv (q := 18) G dX2_asBurning_15 rfl cl_X2_29 (c_X2_asHalf) rfl (by first | assumption | exact ⟨Nat.le_of_ble_eq_true rfl, rfl⟩) rfl ⟨Nat.le_of_ble_eq_true rfl, Nat.le_of_ble_eq_true rfl⟩ (Nat.le_of_ble_eq_true rfl) ⟨Nat.le_of_ble_eq_true rfl, Nat.le_of_ble_eq_true rfl⟩ rfl ?_
  refine bq_iload_n (q := 19) G rfl dX2_asBurning_18 rfl ?_
  refine bq_iadd (q := 20) G dX2_asBurning_19 rfl ?_
  exact bq_rl2 (hret _ _ dX2_asBurning_20) rfl (by simp only [bq_sr_s, bq_sr_sr, bq_upd2, kd_us, Int64.add_assoc]; first | done | rfl)
set_option maxHeartbeats 1000000 in
set_option maxRecDepth 100000 in
theorem c_X3_at {z : Nat} {I : bq_IR} {L : bq_LR} {k : Int32}  : bq_FC MX3_at z [.ref (z + 1), .int k] 85 (bq_Rf z) I L 0 0 (some (.int (if (0 ≤ k ∧ k < I 1 1 ∧ k < 200) then I 2 k.toNatClampNeg else -1))) 85 (bq_Rf z) (I) (L) := by
  refine bq_ofI [some (.ref (z + 1)), some (.int k)] rfl (Nat.le_of_ble_eq_true rfl) (by decide) rfl rfl ?_
  intro A G hret
  have G : bq_Cx cX3_at RX3 2 z (bq_rm MX3_at 0 0) "at" A := G
  have no : ¬ (0 ≤ k ∧ k < I 1 1 ∧ k < 200) → A 0 0 28 [some (.ref (z + 1)), some (.int k)] [] 85 (bq_Rf z) I L := by
    intro h
    refine bq_iconst (q := 29) (v := -1) G (by decide) dX3_at_28 rfl ?_
    exact bq_ri (hret _ _ dX3_at_29) (by rw [if_neg h]) rfl rfl
  refine bq_iload_n (q := 1) G rfl dX3_at_0 rfl ?_
  refine bq_if_lt (t := 28) (q := 4) G dX3_at_1 (by decide) rfl (fun c1 => ?_) (fun c1 => ?_)
  · exact no (fun h => absurd h.1 (Int32.not_le.mpr c1))
  · refine bq_iload_n (q := 5) G rfl dX3_at_4 rfl ?_
    refine bq_aload_n (q := 6) G rfl dX3_at_5 rfl ?_
    refine bq_geti (q := 9) G dX3_at_6 rfl fl_X3_13 (by first | assumption | exact ⟨Nat.le_of_ble_eq_true rfl, rfl⟩) rfl ?_
    refine bq_icmp_ge (t := 28) (q := 12) G dX3_at_9 (by decide) rfl (fun c9 => ?_) (fun c9 => ?_)
    · exact no (fun h => absurd h.2.1 (Int32.not_lt.mpr c9))
    · refine bq_iload_n (q := 13) G rfl dX3_at_12 rfl ?_
      refine bq_sipush (q := 16) (v := 200) G (by decide) dX3_at_13 rfl ?_
      refine bq_icmp_ge (t := 28) (q := 19) G dX3_at_16 (by decide) rfl (fun c16 => ?_) (fun c16 => ?_)
      · exact no (fun h => absurd h.2.2 (Int32.not_lt.mpr c16))
      · have h : 0 ≤ k ∧ k < I 1 1 ∧ k < 200 := ⟨Int32.not_lt.mp c1, Int32.not_le.mp c9, Int32.not_le.mp c16⟩
        obtain ⟨j, hj, rfl⟩ := nI_of2 (M := 200) (n := 200) (by decide) c1 (Int32.le_of_lt h.2.2)
        have hj2 : j < 200 := (nI_ltI (b := 200) (by omega) (by decide)).mp h.2.2
        rw [if_pos h, nI_clamp (by omega)] at hret
        refine bq_aload_n (q := 20) G rfl dX3_at_19 rfl ?_
        refine bq_getr (q := 23) G dX3_at_20 rfl fl_X3_9 (by first | assumption | exact ⟨Nat.le_of_ble_eq_true rfl, rfl⟩) (fun _ _ _ => rfl) (rf_1_0 z) ?_
        refine bq_iload_n (q := 24) G rfl dX3_at_23 rfl ?_
        refine bq_iald (q := 25) G dX3_at_24 rfl (by first | assumption | exact ⟨Nat.le_of_ble_eq_true rfl, rfl⟩) (by first | with_reducible assumption | with_reducible exact rfl | exact bq_ixa rfl (by with_reducible assumption) | exact rfl | exact bq_ixa rfl rfl | exact bq_ixa (by with_reducible assumption) rfl | exact bq_ixa rfl (bq_ixa (by first | rfl | with_reducible assumption) (by first | rfl | with_reducible assumption))) (by first | with_reducible assumption | omega | decide) (by decide) ?_
        refine bq_goto (q := 29) G dX3_at_25 (by decide) ?_
        exact hret _ _ dX3_at_29
set_option maxHeartbeats 1000000 in
set_option maxRecDepth 100000 in
theorem c_X3_add {z : Nat} {I : bq_IR} {L : bq_LR} {v : Int32} {k : Nat} (hk : I 1 1 = nI k) (hk2 : k ≤ 200) : bq_FC MX3_add z [.ref (z + 1), .int v] 85 (bq_Rf z) I L 0 0 (some (.int (if k < 200 then 1 else 0))) 85 (bq_Rf z) (if k < 200 then bq_sr (bq_sr I 2 (upd (I 2) k v)) 1 (upd (bq_sr I 2 (upd (I 2) k v) 1) 1 (nI (k + 1))) else I) (L) := by
  refine bq_ofI [some (.ref (z + 1)), some (.int v)] rfl (Nat.le_of_ble_eq_true rfl) (by decide) rfl (by first | rfl | exact bq_nb _ | (split <;> rfl)) ?_
  intro A G hret
  have G : bq_Cx cX3_add RX3 2 z (bq_rm MX3_add 0 0) "add" A := G
  refine bq_aload_n (q := 1) G rfl dX3_add_0 rfl ?_
  refine bq_geti (q := 4) G dX3_add_1 rfl fl_X3_13 (by first | assumption | exact ⟨Nat.le_of_ble_eq_true rfl, rfl⟩) rfl ?_
  refine bq_if_lt_f (q := 7) (t := 17) G dX3_add_4 rfl (by decide) (by rw [hk]; exact nI_pos (by omega)) ?_
  refine bq_aload_n (q := 8) G rfl dX3_add_7 rfl ?_
  refine bq_geti (q := 11) G dX3_add_8 rfl fl_X3_13 (by first | assumption | exact ⟨Nat.le_of_ble_eq_true rfl, rfl⟩) rfl ?_
  refine bq_sipush (q := 14) (v := 200) G (by decide) dX3_add_11 rfl ?_
  refine bq_icmp_lt (t := 19) (q := 17) G dX3_add_14 (by decide) rfl (fun c14 => ?_) (fun c14 => ?_)
  · have hk2 : k < 200 := (nI_ltI (b := 200) (by omega) (by decide)).mp (hk ▸ c14)
    refine bq_aload_n (q := 20) G rfl dX3_add_19 rfl ?_
    refine bq_getr (q := 23) G dX3_add_20 rfl fl_X3_9 (by first | assumption | exact ⟨Nat.le_of_ble_eq_true rfl, rfl⟩) (fun _ _ _ => rfl) (rf_1_0 z) ?_
    refine bq_aload_n (q := 24) G rfl dX3_add_23 rfl ?_
    refine bq_geti (q := 27) G dX3_add_24 rfl fl_X3_13 (by first | assumption | exact ⟨Nat.le_of_ble_eq_true rfl, rfl⟩) rfl ?_
    refine bq_iload_n (q := 28) G rfl dX3_add_27 rfl ?_
    refine bq_iast (q := 29) G dX3_add_28 rfl (by first | assumption | exact ⟨Nat.le_of_ble_eq_true rfl, rfl⟩) hk (by first | with_reducible assumption | omega | decide) (by decide) ?_
    refine bq_aload_n (q := 30) G rfl dX3_add_29 rfl ?_
    refine bq_dup (q := 31) G rfl dX3_add_30 rfl ?_
    refine bq_geti (q := 34) G dX3_add_31 rfl fl_X3_13 (by first | assumption | exact ⟨Nat.le_of_ble_eq_true rfl, rfl⟩) rfl ?_
    refine bq_iconst (q := 35) (v := 1) G (by decide) dX3_add_34 rfl ?_
    refine bq_iadd (q := 36) G dX3_add_35 rfl ?_
    refine bq_puti (q := 39) G dX3_add_36 rfl fl_X3_13 (by first | assumption | exact ⟨Nat.le_of_ble_eq_true rfl, rfl⟩) rfl rfl ?_
    refine bq_iconst (q := 40) (v := 1) G (by decide) dX3_add_39 rfl ?_
    refine bq_ri (hret _ _ dX3_add_40) (by rw [if_pos hk2]) ?_ rfl
    rw [if_pos hk2, bq_srn1 (by decide), hk, nI_1]
  · have hk2 : ¬ k < 200 := fun h => c14 (by rw [hk]; exact nI_lt (b := 200) h (by decide))
    refine bq_iconst (q := 18) (v := 0) G (by decide) dX3_add_17 rfl ?_
    exact bq_ri (hret _ _ dX3_add_18) (by rw [if_neg hk2]) (by rw [if_neg hk2]) rfl
