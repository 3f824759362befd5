set_option maxHeartbeats 1000000 in
set_option maxRecDepth 100000 in
theorem c_X8_heard {z : Nat} {I : bq_IR} {L : bq_LR} {b : Int32} {T S : Nat → Int32} (hC : gs_CS I T S) : bq_FI MX8_heard z [.ref (z + 0), .int b] 85 (bq_Rf z) I L (fun r J L' => r = gs_heard T S b ∧ gs_cK I J ∧ L' = L) := by
  refine bq_FIof [some (.ref (z + 0)), some (.int b), none, none] rfl (Nat.le_of_ble_eq_true rfl) (by decide) rfl (fun _ _ _ _ => rfl) ?_
  intro A G hret
  have G : bq_Cx cX8_heard RX8 4 z (bq_rm MX8_heard 0 0) "heard" A := G
  have hF := hC.2.1.1.2.2.2.2.2
  have hor := hF.orb
  refine bq_aload_n (q := 1) G rfl dX8_heard_0 rfl ?_
  refine bq_getr (q := 4) G dX8_heard_1 rfl fl_X8_36 (by first | assumption | exact ⟨Nat.le_of_ble_eq_true rfl, rfl⟩) (fun _ _ _ => rfl) (rf_0_4 z) ?_
  refine bq_iload_n (q := 5) G rfl dX8_heard_4 rfl ?_
  refine bq_callv (q := 8) G dX8_heard_5 rfl cl_X8_167 (c_X5_isThere (bq_Mo17 z).1) rfl (by first | assumption | exact ⟨Nat.le_of_ble_eq_true rfl, rfl⟩) rfl ⟨Nat.le_of_ble_eq_true rfl, Nat.le_of_ble_eq_true rfl⟩ (Nat.le_of_ble_eq_true rfl) ⟨Nat.le_of_ble_eq_true rfl, Nat.le_of_ble_eq_true rfl⟩ rfl ?_
  first | refine bq_ifb_ne (t := 13) (q := 11) G dX8_heard_8 (by decide) rfl (fun c8 => ?_) (fun c8 => ?_) | refine bq_if_ne (t := 13) (q := 11) G dX8_heard_8 (by decide) rfl (fun c8 => ?_) (fun c8 => ?_)
  · have hif := (gs_thr hF).mp c8
    obtain ⟨q, hq, rfl, h51⟩ := gs_th_ex (S := S) hif
    have hcl : (nI q).toNatClampNeg = q := nI_clamp (by omega)
    have sub := fun k => gs_hv_in (w := T 4) (d := T 2) (ar := T 1) hF hq h51 k
    have loop : ∀ k, k ≤ 200 → gs_hrk (T 4) (T 2) (T 1) S (nI q) (200 - k) k = gs_hrk (T 4) (T 2) (T 1) S (nI q) 200 0 → ∀ J, gs_aI I (T 4) (T 2) (T 1) S k J → A 0 0 23 [some (.ref (z + 0)), some (.int (nI q)), some (.int (gs_hv (T 4) (T 2) (T 1) S (nI q) k)), some (.int (nI k))] [] 85 (bq_Rf z) J L := by
      refine bq_down 200 ?_
      intro k hk ih he J hJ
      have hK := hC.keep hJ.2
      have ht : J 21 9 = gs_orb S 8 := by rw [← hJ.1.2.2.2.2.2.orb]; exact gs_orb_c (fun j => gs_it_51 k) 8
      have sk := sub k
      rw [← hor] at sk
      have key : J 21 9 &&& (gs_hv (T 4) (T 2) (T 1) S (nI q) k ^^^ -1) = 0 ↔ gs_hv (T 4) (T 2) (T 1) S (nI q) k = gs_orb S 8 := by rw [ht]; exact ix_sub sk
      by_cases hh : gs_hv (T 4) (T 2) (T 1) S (nI q) k = gs_orb S 8
      · refine bq_iload_n (q := 24) G rfl dX8_heard_23 rfl ?_
        refine bq_sipush (q := 27) (v := 200) G (by decide) dX8_heard_24 rfl ?_
        refine bq_icmp_gt_f (q := 30) (t := 95) G dX8_heard_27 rfl (by decide) (nI_nlt (a := 200) (b := k) (by omega) (by decide)) ?_
        refine bq_aload_n (q := 31) G rfl dX8_heard_30 rfl ?_
        refine bq_getr (q := 34) G dX8_heard_31 rfl fl_X8_40 (by first | assumption | exact ⟨Nat.le_of_ble_eq_true rfl, rfl⟩) (fun _ _ _ => rfl) (rf_0_5 z) ?_
        refine bq_geti (q := 37) G dX8_heard_34 rfl fl_X8_132 (by first | assumption | exact ⟨Nat.le_of_ble_eq_true rfl, rfl⟩) rfl ?_
        refine bq_iload_n (q := 38) G rfl dX8_heard_37 rfl ?_
        refine bq_iconst (q := 39) (v := -1) G (by decide) dX8_heard_38 rfl ?_
        refine bq_ixor (q := 40) G dX8_heard_39 rfl ?_
        refine bq_iand (q := 41) G dX8_heard_40 rfl ?_
        refine bq_if_ne_f (q := 44) (t := 46) G dX8_heard_41 rfl (by decide) (key.mpr hh) ?_
        refine bq_iload_n (q := 45) G rfl dX8_heard_44 rfl ?_
        exact hret _ _ _ _ _ dX8_heard_45 ⟨by unfold gs_heard; rw [if_pos hif, ← he, gs_hrk_if _ _ _ _ _ _ _ hh], hJ.2, rfl⟩
      · refine bq_iload_n (q := 24) G rfl dX8_heard_23 rfl ?_
        refine bq_sipush (q := 27) (v := 200) G (by decide) dX8_heard_24 rfl ?_
        refine bq_icmp_gt_f (q := 30) (t := 95) G dX8_heard_27 rfl (by decide) (nI_nlt (a := 200) (b := k) (by omega) (by decide)) ?_
        refine bq_aload_n (q := 31) G rfl dX8_heard_30 rfl ?_
        refine bq_getr (q := 34) G dX8_heard_31 rfl fl_X8_40 (by first | assumption | exact ⟨Nat.le_of_ble_eq_true rfl, rfl⟩) (fun _ _ _ => rfl) (rf_0_5 z) ?_
        refine bq_geti (q := 37) G dX8_heard_34 rfl fl_X8_132 (by first | assumption | exact ⟨Nat.le_of_ble_eq_true rfl, rfl⟩) rfl ?_
        refine bq_iload_n (q := 38) G rfl dX8_heard_37 rfl ?_
        refine bq_iconst (q := 39) (v := -1) G (by decide) dX8_heard_38 rfl ?_
        refine bq_ixor (q := 40) G dX8_heard_39 rfl ?_
        refine bq_iand (q := 41) G dX8_heard_40 rfl ?_
        refine bq_if_ne_t (t := 46) G dX8_heard_41 (by decide) (fun h => hh (key.mp h)) ?_
        refine bq_aload_n (q := 47) G rfl dX8_heard_46 rfl ?_
        refine bq_getr (q := 50) G dX8_heard_47 rfl fl_X8_40 (by first | assumption | exact ⟨Nat.le_of_ble_eq_true rfl, rfl⟩) (fun _ _ _ => rfl) (rf_0_5 z) ?_
        refine bq_aload_n (q := 51) G rfl dX8_heard_50 rfl ?_
        refine bq_getr (q := 54) G dX8_heard_51 rfl fl_X8_26 (by first | assumption | exact ⟨Nat.le_of_ble_eq_true rfl, rfl⟩) (fun _ _ _ => rfl) (rf_0_2 z) ?_
        refine bq_callv (q := 57) G dX8_heard_54 rfl cl_X8_151 (c_X0_stairWidth (bq_Ce5 z)) rfl (by first | assumption | exact ⟨Nat.le_of_ble_eq_true rfl, rfl⟩) rfl ⟨Nat.le_of_ble_eq_true rfl, Nat.le_of_ble_eq_true rfl⟩ (Nat.le_of_ble_eq_true rfl) ⟨Nat.le_of_ble_eq_true rfl, Nat.le_of_ble_eq_true rfl⟩ rfl ?_
        refine bq_aload_n (q := 58) G rfl dX8_heard_57 rfl ?_
        refine bq_getr (q := 61) G dX8_heard_58 rfl fl_X8_26 (by first | assumption | exact ⟨Nat.le_of_ble_eq_true rfl, rfl⟩) (fun _ _ _ => rfl) (rf_0_2 z) ?_
        refine bq_callv (q := 64) G dX8_heard_61 rfl cl_X8_155 (c_X0_drainCups (bq_Ce5 z)) rfl (by first | assumption | exact ⟨Nat.le_of_ble_eq_true rfl, rfl⟩) rfl ⟨Nat.le_of_ble_eq_true rfl, Nat.le_of_ble_eq_true rfl⟩ (Nat.le_of_ble_eq_true rfl) ⟨Nat.le_of_ble_eq_true rfl, Nat.le_of_ble_eq_true rfl⟩ rfl ?_
        refine bq_callvV (q := 67) G dX8_heard_64 rfl cl_X8_158 (c_X5_pass (bq_Mo21 z) hJ.1 (hC.2.2.1.it hC.2.2.2.2 k)) rfl (by first | assumption | exact ⟨Nat.le_of_ble_eq_true rfl, rfl⟩) rfl ⟨Nat.le_of_ble_eq_true rfl, Nat.le_of_ble_eq_true rfl⟩ (Nat.le_of_ble_eq_true rfl) ⟨Nat.le_of_ble_eq_true rfl, Nat.le_of_ble_eq_true rfl⟩ (fun I64 L64 h64 => ?_)
        obtain ⟨⟨h1, _, _, h10, _⟩, h2, rfl⟩ := h64
        rw [show J (5 + 1) 4 = T 4 from hK.1.2.2.2.2, show J (5 + 1) 2 = T 2 from hK.1.2.2.1] at h1
        rw [show J (5 + 1) 4 = T 4 from hK.1.2.2.2.2] at h10
        have hJ1 := hJ.go h1 h2
        have next : ∀ v : Int32, v = gs_hv (T 4) (T 2) (T 1) S (nI q) (k + 1) → A 0 0 89 [some (.ref (z + 0)), some (.int (nI q)), some (.int v), some (.int (nI k))] [] 85 (bq_Rf z) I64 L64 := by
          intro v hv
          subst hv
          rcases Nat.lt_or_ge k 200 with hk8 | hk8
          · rw [show 200 - k = (200 - (k + 1)) + 1 by omega, gs_hrk_s, if_neg hh] at he
            refine bq_iinc (q := 92) (ls' := [_, _, _, _]) G dX8_heard_89 rfl rfl (by first | exact nI_1 _ | exact pk_m1 _ | rfl) (by decide) rfl rfl ?_
            refine bq_goto (q := 23) G dX8_heard_92 (by decide) ?_
            exact ih hk8 he _ hJ1
          · have hk9 : k = 200 := by omega
            refine bq_iinc (q := 92) (ls' := [_, _, _, _]) G dX8_heard_89 rfl rfl (by first | exact nI_1 _ | exact pk_m1 _ | rfl) (by decide) rfl rfl ?_
            refine bq_goto (q := 23) G dX8_heard_92 (by decide) ?_
            refine bq_iload_n (q := 24) G rfl dX8_heard_23 rfl ?_
            refine bq_sipush (q := 27) (v := 200) G (by decide) dX8_heard_24 rfl ?_
            refine bq_icmp_gt_t (t := 95) G dX8_heard_27 (by decide) (nI_lt (a := 200) (b := k + 1) (by omega) (by omega)) ?_
            refine bq_bipush (q := 97) (v := -9) G (by decide) dX8_heard_95 rfl ?_
            refine hret _ _ _ _ _ dX8_heard_97 ⟨?_, hJ1.2, rfl⟩
            unfold gs_heard
            rw [if_pos hif, ← he, show 200 - k = 0 by omega, gs_hrk_0, if_neg hh]
        have ev : gs_hv (T 4) (T 2) (T 1) S (nI q) (k + 1) = gs_hv (T 4) (T 2) (T 1) S (nI q) k ||| (if I64 21 10 &&& gs_hv (T 4) (T 2) (T 1) S (nI q) k = 0 then 0 else I64 21 10) := by rw [h10]; exact gs_hv_s _ _ _ _ _ _
        refine bq_aload_n (q := 68) G rfl dX8_heard_67 rfl ?_
        refine bq_getr (q := 71) G dX8_heard_68 rfl fl_X8_40 (by first | assumption | exact ⟨Nat.le_of_ble_eq_true rfl, rfl⟩) (fun _ _ _ => rfl) (rf_0_5 z) ?_
        refine bq_geti (q := 74) G dX8_heard_71 rfl fl_X8_227 (by first | assumption | exact ⟨Nat.le_of_ble_eq_true rfl, rfl⟩) rfl ?_
        refine bq_iload_n (q := 75) G rfl dX8_heard_74 rfl ?_
        refine bq_iand (q := 76) G dX8_heard_75 rfl ?_
        first | refine bq_ifb_eq (t := 89) (q := 79) G dX8_heard_76 (by decide) rfl (fun c76 => ?_) (fun c76 => ?_) | refine bq_if_eq (t := 89) (q := 79) G dX8_heard_76 (by decide) rfl (fun c76 => ?_) (fun c76 => ?_)
        · refine next _ ?_
          rw [ev, if_pos c76, Int32.or_zero]
        · refine bq_iload_n (q := 80) G rfl dX8_heard_79 rfl ?_
          refine bq_aload_n (q := 81) G rfl dX8_heard_80 rfl ?_
          refine bq_getr (q := 84) G dX8_heard_81 rfl fl_X8_40 (by first | assumption | exact ⟨Nat.le_of_ble_eq_true rfl, rfl⟩) (fun _ _ _ => rfl) (rf_0_5 z) ?_
          refine bq_geti (q := 87) G dX8_heard_84 rfl fl_X8_227 (by first | assumption | exact ⟨Nat.le_of_ble_eq_true rfl, rfl⟩) rfl ?_
          refine bq_ior (q := 88) G dX8_heard_87 rfl ?_
          refine bq_istore_n (q := 89) (ls' := [_, _, _, _]) G dX8_heard_88 rfl (by decide) rfl rfl ?_
          refine next _ ?_
          rw [ev, if_neg c76]
    refine bq_aload_n (q := 14) G rfl dX8_heard_13 rfl ?_
    refine bq_callvV (q := 17) G dX8_heard_14 rfl cl_X8_187 (c_X8_lookAhead hC) rfl (by first | assumption | exact ⟨Nat.le_of_ble_eq_true rfl, rfl⟩) rfl ⟨Nat.le_of_ble_eq_true rfl, Nat.le_of_ble_eq_true rfl⟩ (Nat.le_of_ble_eq_true rfl) ⟨Nat.le_of_ble_eq_true rfl, Nat.le_of_ble_eq_true rfl⟩ (fun I14 L14 h14 => ?_)
    obtain ⟨h0, rfl⟩ := h14
    refine bq_iconst (q := 18) (v := 1) G (by decide) dX8_heard_17 rfl ?_
    refine bq_iload_n (q := 19) G rfl dX8_heard_18 rfl ?_
    refine bq_ishl (q := 20) G dX8_heard_19 rfl ?_
    refine bq_istore_n (q := 21) (ls' := [_, _, _, _]) G dX8_heard_20 rfl (by decide) rfl rfl ?_
    refine bq_iconst (q := 22) (v := 0) G (by decide) dX8_heard_21 rfl ?_
    refine bq_istore_n (q := 23) (ls' := [_, _, _, _]) G dX8_heard_22 rfl (by decide) rfl rfl ?_
    exact loop 0 (by omega) rfl _ (h0 _ _ _)
  · refine bq_iconst (q := 12) (v := -1) G (by decide) dX8_heard_11 rfl ?_
    exact hret _ _ _ _ _ dX8_heard_12 ⟨by unfold gs_heard; rw [if_neg (fun h => c8 ((gs_thr hF).mpr h))], gs_cK.refl I, rfl⟩
